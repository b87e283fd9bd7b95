theorem dX7_init_0 : decode cX7_init 0 = .ok (.aload_n 0, 1) := by decide +kernel
theorem dX7_init_1 : decode cX7_init 1 = .ok (.invokespecial 1, 3) := by decide +kernel
theorem dX7_init_4 : decode cX7_init 4 = .ok (.aload_n 0, 1) := by decide +kernel
theorem dX7_init_5 : decode cX7_init 5 = .ok (.sipush 494, 3) := by decide +kernel
theorem dX7_init_8 : decode cX7_init 8 = .ok (.newarray .int, 2) := by decide +kernel
theorem dX7_init_10 : decode cX7_init 10 = .ok (.putfield 7, 3) := by decide +kernel
theorem dX7_init_13 : decode cX7_init 13 = .ok (.aload_n 0, 1) := by decide +kernel
theorem dX7_init_14 : decode cX7_init 14 = .ok (.sipush 1976, 3) := by decide +kernel
theorem dX7_init_17 : decode cX7_init 17 = .ok (.newarray .int, 2) := by decide +kernel
theorem dX7_init_19 : decode cX7_init 19 = .ok (.putfield 13, 3) := by decide +kernel
theorem dX7_init_22 : decode cX7_init 22 = .ok (.aload_n 0, 1) := by decide +kernel
theorem dX7_init_23 : decode cX7_init 23 = .ok (.sipush 150, 3) := by decide +kernel
theorem dX7_init_26 : decode cX7_init 26 = .ok (.newarray .int, 2) := by decide +kernel
theorem dX7_init_28 : decode cX7_init 28 = .ok (.putfield 16, 3) := by decide +kernel
theorem dX7_init_31 : decode cX7_init 31 = .ok (.aload_n 0, 1) := by decide +kernel
theorem dX7_init_32 : decode cX7_init 32 = .ok (.sipush 144, 3) := by decide +kernel
theorem dX7_init_35 : decode cX7_init 35 = .ok (.newarray .int, 2) := by decide +kernel
theorem dX7_init_37 : decode cX7_init 37 = .ok (.putfield 19, 3) := by decide +kernel
theorem dX7_init_40 : decode cX7_init 40 = .ok (.aload_n 0, 1) := by decide +kernel
theorem dX7_init_41 : decode cX7_init 41 = .ok (.bipush 12, 2) := by decide +kernel
theorem dX7_init_43 : decode cX7_init 43 = .ok (.newarray .int, 2) := by decide +kernel
theorem dX7_init_45 : decode cX7_init 45 = .ok (.putfield 22, 3) := by decide +kernel
theorem dX7_init_48 : decode cX7_init 48 = .ok (.aload_n 0, 1) := by decide +kernel
theorem dX7_init_49 : decode cX7_init 49 = .ok (.bipush 12, 2) := by decide +kernel
theorem dX7_init_51 : decode cX7_init 51 = .ok (.newarray .int, 2) := by decide +kernel
theorem dX7_init_53 : decode cX7_init 53 = .ok (.putfield 25, 3) := by decide +kernel
theorem dX7_init_56 : decode cX7_init 56 = .ok (.aload_n 0, 1) := by decide +kernel
theorem dX7_init_57 : decode cX7_init 57 = .ok (.iconst 4, 1) := by decide +kernel
theorem dX7_init_58 : decode cX7_init 58 = .ok (.newarray .int, 2) := by decide +kernel
theorem dX7_init_60 : decode cX7_init 60 = .ok (.putfield 28, 3) := by decide +kernel
theorem dX7_init_63 : decode cX7_init 63 = .ok (.aload_n 0, 1) := by decide +kernel
theorem dX7_init_64 : decode cX7_init 64 = .ok (.getfield 7, 3) := by decide +kernel
theorem dX7_init_67 : decode cX7_init 67 = .ok (.iconst 0, 1) := by decide +kernel
theorem dX7_init_68 : decode cX7_init 68 = .ok (.sipush 250, 3) := by decide +kernel
theorem dX7_init_71 : decode cX7_init 71 = .ok (.iastore, 1) := by decide +kernel
theorem dX7_init_72 : decode cX7_init 72 = .ok (.aload_n 0, 1) := by decide +kernel
theorem dX7_init_73 : decode cX7_init 73 = .ok (.getfield 7, 3) := by decide +kernel
theorem dX7_init_76 : decode cX7_init 76 = .ok (.iconst 3, 1) := by decide +kernel
theorem dX7_init_77 : decode cX7_init 77 = .ok (.iconst 5, 1) := by decide +kernel
theorem dX7_init_78 : decode cX7_init 78 = .ok (.iastore, 1) := by decide +kernel
theorem dX7_init_79 : decode cX7_init 79 = .ok (.aload_n 0, 1) := by decide +kernel
theorem dX7_init_80 : decode cX7_init 80 = .ok (.getfield 7, 3) := by decide +kernel
theorem dX7_init_83 : decode cX7_init 83 = .ok (.iconst 4, 1) := by decide +kernel
theorem dX7_init_84 : decode cX7_init 84 = .ok (.sipush 1000, 3) := by decide +kernel
theorem dX7_init_87 : decode cX7_init 87 = .ok (.iastore, 1) := by decide +kernel
theorem dX7_init_88 : decode cX7_init 88 = .ok (.aload_n 0, 1) := by decide +kernel
theorem dX7_init_89 : decode cX7_init 89 = .ok (.getfield 7, 3) := by decide +kernel
theorem dX7_init_92 : decode cX7_init 92 = .ok (.iconst 5, 1) := by decide +kernel
theorem dX7_init_93 : decode cX7_init 93 = .ok (.bipush 50, 2) := by decide +kernel
theorem dX7_init_95 : decode cX7_init 95 = .ok (.iastore, 1) := by decide +kernel
theorem dX7_init_96 : decode cX7_init 96 = .ok (.aload_n 0, 1) := by decide +kernel
theorem dX7_init_97 : decode cX7_init 97 = .ok (.getfield 7, 3) := by decide +kernel
theorem dX7_init_100 : decode cX7_init 100 = .ok (.bipush 6, 2) := by decide +kernel
theorem dX7_init_102 : decode cX7_init 102 = .ok (.bipush 100, 2) := by decide +kernel
theorem dX7_init_104 : decode cX7_init 104 = .ok (.iastore, 1) := by decide +kernel
theorem dX7_init_105 : decode cX7_init 105 = .ok (.aload_n 0, 1) := by decide +kernel
theorem dX7_init_106 : decode cX7_init 106 = .ok (.getfield 7, 3) := by decide +kernel
theorem dX7_init_109 : decode cX7_init 109 = .ok (.bipush 7, 2) := by decide +kernel
theorem dX7_init_111 : decode cX7_init 111 = .ok (.sipush 1000, 3) := by decide +kernel
theorem dX7_init_114 : decode cX7_init 114 = .ok (.iastore, 1) := by decide +kernel
theorem dX7_init_115 : decode cX7_init 115 = .ok (.aload_n 0, 1) := by decide +kernel
theorem dX7_init_116 : decode cX7_init 116 = .ok (.getfield 7, 3) := by decide +kernel
theorem dX7_init_119 : decode cX7_init 119 = .ok (.bipush 9, 2) := by decide +kernel
theorem dX7_init_121 : decode cX7_init 121 = .ok (.iconst 3, 1) := by decide +kernel
theorem dX7_init_122 : decode cX7_init 122 = .ok (.iastore, 1) := by decide +kernel
theorem dX7_init_123 : decode cX7_init 123 = .ok (.aload_n 0, 1) := by decide +kernel
theorem dX7_init_124 : decode cX7_init 124 = .ok (.getfield 7, 3) := by decide +kernel
theorem dX7_init_127 : decode cX7_init 127 = .ok (.bipush 10, 2) := by decide +kernel
theorem dX7_init_129 : decode cX7_init 129 = .ok (.sipush 2000, 3) := by decide +kernel
theorem dX7_init_132 : decode cX7_init 132 = .ok (.iastore, 1) := by decide +kernel
theorem dX7_init_133 : decode cX7_init 133 = .ok (.aload_n 0, 1) := by decide +kernel
theorem dX7_init_134 : decode cX7_init 134 = .ok (.getfield 7, 3) := by decide +kernel
theorem dX7_init_137 : decode cX7_init 137 = .ok (.bipush 11, 2) := by decide +kernel
theorem dX7_init_139 : decode cX7_init 139 = .ok (.sipush 2000, 3) := by decide +kernel
theorem dX7_init_142 : decode cX7_init 142 = .ok (.iastore, 1) := by decide +kernel
theorem dX7_init_143 : decode cX7_init 143 = .ok (.return_, 1) := by decide +kernel
theorem dX7_thrown_0 : decode cX7_thrown 0 = .ok (.aload_n 0, 1) := by decide +kernel
theorem dX7_thrown_1 : decode cX7_thrown 1 = .ok (.getfield 31, 3) := by decide +kernel
theorem dX7_thrown_4 : decode cX7_thrown 4 = .ok (.ireturn, 1) := by decide +kernel
theorem dX7_in_0 : decode cX7_in 0 = .ok (.iload_n 0, 1) := by decide +kernel
theorem dX7_in_1 : decode cX7_in 1 = .ok (.iload_n 1, 1) := by decide +kernel
theorem dX7_in_2 : decode cX7_in 2 = .ok (.if_icmp .lt 12, 3) := by decide +kernel
theorem dX7_in_5 : decode cX7_in 5 = .ok (.iload_n 0, 1) := by decide +kernel
theorem dX7_in_6 : decode cX7_in 6 = .ok (.iload_n 2, 1) := by decide +kernel
theorem dX7_in_7 : decode cX7_in 7 = .ok (.if_icmp .gt 7, 3) := by decide +kernel
theorem dX7_in_10 : decode cX7_in 10 = .ok (.iconst 1, 1) := by decide +kernel
theorem dX7_in_11 : decode cX7_in 11 = .ok (.goto 4, 3) := by decide +kernel
theorem dX7_in_14 : decode cX7_in 14 = .ok (.iconst 0, 1) := by decide +kernel
theorem dX7_in_15 : decode cX7_in 15 = .ok (.ireturn, 1) := by decide +kernel
theorem dX7_size_0 : decode cX7_size 0 = .ok (.iload_n 0, 1) := by decide +kernel
theorem dX7_size_1 : decode cX7_size 1 = .ok (.ifCond .ge 8, 3) := by decide +kernel
theorem dX7_size_4 : decode cX7_size 4 = .ok (.iload_n 0, 1) := by decide +kernel
theorem dX7_size_5 : decode cX7_size 5 = .ok (.ineg, 1) := by decide +kernel
theorem dX7_size_6 : decode cX7_size 6 = .ok (.goto 4, 3) := by decide +kernel
theorem dX7_size_9 : decode cX7_size 9 = .ok (.iload_n 0, 1) := by decide +kernel
theorem dX7_size_10 : decode cX7_size 10 = .ok (.ireturn, 1) := by decide +kernel
theorem dX7_floor_0 : decode cX7_floor 0 = .ok (.iload_n 0, 1) := by decide +kernel
theorem dX7_floor_1 : decode cX7_floor 1 = .ok (.ifCond .lt 9, 3) := by decide +kernel
theorem dX7_floor_4 : decode cX7_floor 4 = .ok (.iload_n 0, 1) := by decide +kernel
theorem dX7_floor_5 : decode cX7_floor 5 = .ok (.iload_n 1, 1) := by decide +kernel
theorem dX7_floor_6 : decode cX7_floor 6 = .ok (.idiv, 1) := by decide +kernel
theorem dX7_floor_7 : decode cX7_floor 7 = .ok (.goto 11, 3) := by decide +kernel
theorem dX7_floor_10 : decode cX7_floor 10 = .ok (.iload_n 1, 1) := by decide +kernel
theorem dX7_floor_11 : decode cX7_floor 11 = .ok (.iconst 1, 1) := by decide +kernel
theorem dX7_floor_12 : decode cX7_floor 12 = .ok (.isub, 1) := by decide +kernel
theorem dX7_floor_13 : decode cX7_floor 13 = .ok (.iload_n 0, 1) := by decide +kernel
theorem dX7_floor_14 : decode cX7_floor 14 = .ok (.isub, 1) := by decide +kernel
theorem dX7_floor_15 : decode cX7_floor 15 = .ok (.iload_n 1, 1) := by decide +kernel
theorem dX7_floor_16 : decode cX7_floor 16 = .ok (.idiv, 1) := by decide +kernel
theorem dX7_floor_17 : decode cX7_floor 17 = .ok (.ineg, 1) := by decide +kernel
theorem dX7_floor_18 : decode cX7_floor 18 = .ok (.ireturn, 1) := by decide +kernel
theorem dX7_around_0 : decode cX7_around 0 = .ok (.iload_n 0, 1) := by decide +kernel
theorem dX7_around_1 : decode cX7_around 1 = .ok (.ldc 35, 2) := by decide +kernel
theorem dX7_around_3 : decode cX7_around 3 = .ok (.irem, 1) := by decide +kernel
theorem dX7_around_4 : decode cX7_around 4 = .ok (.istore_n 1, 1) := by decide +kernel
theorem dX7_around_5 : decode cX7_around 5 = .ok (.iload_n 1, 1) := by decide +kernel
theorem dX7_around_6 : decode cX7_around 6 = .ok (.ifCond .ge 10, 3) := by decide +kernel
theorem dX7_around_9 : decode cX7_around 9 = .ok (.iload_n 1, 1) := by decide +kernel
theorem dX7_around_10 : decode cX7_around 10 = .ok (.ldc 35, 2) := by decide +kernel
theorem dX7_around_12 : decode cX7_around 12 = .ok (.iadd, 1) := by decide +kernel
theorem dX7_around_13 : decode cX7_around 13 = .ok (.goto 4, 3) := by decide +kernel
theorem dX7_around_16 : decode cX7_around 16 = .ok (.iload_n 1, 1) := by decide +kernel
theorem dX7_around_17 : decode cX7_around 17 = .ok (.ireturn, 1) := by decide +kernel
theorem dX7_keep_0 : decode cX7_keep 0 = .ok (.aload_n 0, 1) := by decide +kernel
theorem dX7_keep_1 : decode cX7_keep 1 = .ok (.getfield 36, 3) := by decide +kernel
theorem dX7_keep_4 : decode cX7_keep 4 = .ok (.iconst 4, 1) := by decide +kernel
theorem dX7_keep_5 : decode cX7_keep 5 = .ok (.if_icmp .ne 44, 3) := by decide +kernel
theorem dX7_keep_8 : decode cX7_keep 8 = .ok (.iconst 0, 1) := by decide +kernel
theorem dX7_keep_9 : decode cX7_keep 9 = .ok (.istore_n 1, 1) := by decide +kernel
theorem dX7_keep_10 : decode cX7_keep 10 = .ok (.iload_n 1, 1) := by decide +kernel
theorem dX7_keep_11 : decode cX7_keep 11 = .ok (.sipush 1482, 3) := by decide +kernel
theorem dX7_keep_14 : decode cX7_keep 14 = .ok (.if_icmp .ge 25, 3) := by decide +kernel
theorem dX7_keep_17 : decode cX7_keep 17 = .ok (.aload_n 0, 1) := by decide +kernel
theorem dX7_keep_18 : decode cX7_keep 18 = .ok (.getfield 13, 3) := by decide +kernel
theorem dX7_keep_21 : decode cX7_keep 21 = .ok (.iload_n 1, 1) := by decide +kernel
theorem dX7_keep_22 : decode cX7_keep 22 = .ok (.aload_n 0, 1) := by decide +kernel
theorem dX7_keep_23 : decode cX7_keep 23 = .ok (.getfield 13, 3) := by decide +kernel
theorem dX7_keep_26 : decode cX7_keep 26 = .ok (.iload_n 1, 1) := by decide +kernel
theorem dX7_keep_27 : decode cX7_keep 27 = .ok (.sipush 494, 3) := by decide +kernel
theorem dX7_keep_30 : decode cX7_keep 30 = .ok (.iadd, 1) := by decide +kernel
theorem dX7_keep_31 : decode cX7_keep 31 = .ok (.iaload, 1) := by decide +kernel
theorem dX7_keep_32 : decode cX7_keep 32 = .ok (.iastore, 1) := by decide +kernel
theorem dX7_keep_33 : decode cX7_keep 33 = .ok (.iinc 1 1, 3) := by decide +kernel
theorem dX7_keep_36 : decode cX7_keep 36 = .ok (.goto (-26), 3) := by decide +kernel
theorem dX7_keep_39 : decode cX7_keep 39 = .ok (.aload_n 0, 1) := by decide +kernel
theorem dX7_keep_40 : decode cX7_keep 40 = .ok (.dup, 1) := by decide +kernel
theorem dX7_keep_41 : decode cX7_keep 41 = .ok (.getfield 36, 3) := by decide +kernel
theorem dX7_keep_44 : decode cX7_keep 44 = .ok (.iconst 1, 1) := by decide +kernel
theorem dX7_keep_45 : decode cX7_keep 45 = .ok (.isub, 1) := by decide +kernel
theorem dX7_keep_46 : decode cX7_keep 46 = .ok (.putfield 36, 3) := by decide +kernel
theorem dX7_keep_49 : decode cX7_keep 49 = .ok (.iconst 0, 1) := by decide +kernel
theorem dX7_keep_50 : decode cX7_keep 50 = .ok (.istore_n 1, 1) := by decide +kernel
theorem dX7_keep_51 : decode cX7_keep 51 = .ok (.iload_n 1, 1) := by decide +kernel
theorem dX7_keep_52 : decode cX7_keep 52 = .ok (.sipush 494, 3) := by decide +kernel
theorem dX7_keep_55 : decode cX7_keep 55 = .ok (.if_icmp .ge 30, 3) := by decide +kernel
theorem dX7_keep_58 : decode cX7_keep 58 = .ok (.aload_n 0, 1) := by decide +kernel
theorem dX7_keep_59 : decode cX7_keep 59 = .ok (.getfield 13, 3) := by decide +kernel
theorem dX7_keep_62 : decode cX7_keep 62 = .ok (.sipush 494, 3) := by decide +kernel
theorem dX7_keep_65 : decode cX7_keep 65 = .ok (.aload_n 0, 1) := by decide +kernel
theorem dX7_keep_66 : decode cX7_keep 66 = .ok (.getfield 36, 3) := by decide +kernel
theorem dX7_keep_69 : decode cX7_keep 69 = .ok (.imul, 1) := by decide +kernel
theorem dX7_keep_70 : decode cX7_keep 70 = .ok (.iload_n 1, 1) := by decide +kernel
theorem dX7_keep_71 : decode cX7_keep 71 = .ok (.iadd, 1) := by decide +kernel
theorem dX7_keep_72 : decode cX7_keep 72 = .ok (.aload_n 0, 1) := by decide +kernel
theorem dX7_keep_73 : decode cX7_keep 73 = .ok (.getfield 7, 3) := by decide +kernel
theorem dX7_keep_76 : decode cX7_keep 76 = .ok (.iload_n 1, 1) := by decide +kernel
theorem dX7_keep_77 : decode cX7_keep 77 = .ok (.iaload, 1) := by decide +kernel
theorem dX7_keep_78 : decode cX7_keep 78 = .ok (.iastore, 1) := by decide +kernel
theorem dX7_keep_79 : decode cX7_keep 79 = .ok (.iinc 1 1, 3) := by decide +kernel
theorem dX7_keep_82 : decode cX7_keep 82 = .ok (.goto (-31), 3) := by decide +kernel
theorem dX7_keep_85 : decode cX7_keep 85 = .ok (.aload_n 0, 1) := by decide +kernel
theorem dX7_keep_86 : decode cX7_keep 86 = .ok (.dup, 1) := by decide +kernel
theorem dX7_keep_87 : decode cX7_keep 87 = .ok (.getfield 36, 3) := by decide +kernel
theorem dX7_keep_90 : decode cX7_keep 90 = .ok (.iconst 1, 1) := by decide +kernel
theorem dX7_keep_91 : decode cX7_keep 91 = .ok (.iadd, 1) := by decide +kernel
theorem dX7_keep_92 : decode cX7_keep 92 = .ok (.putfield 36, 3) := by decide +kernel
theorem dX7_keep_95 : decode cX7_keep 95 = .ok (.return_, 1) := by decide +kernel
set_option maxRecDepth 20000 in
theorem ggX7_isTrail_X7_in : GoodIn wsX7_isTrail wsX7_in := goodIn_r _ [5] (by decide +kernel) (by decide +kernel)
set_option maxRecDepth 20000 in
theorem gX7_isTrail_X7_in : GoodIn wsX7_isTrail (va_wsS RX7 39 yX7_in wsX7_in) := goodIn_app (goodIn_of _ (by decide +kernel)) ggX7_isTrail_X7_in
theorem dX7_isTrail_0 : decode cX7_isTrail 0 = .ok (.iload_n 1, 1) := by decide +kernel
theorem dX7_isTrail_1 : decode cX7_isTrail 1 = .ok (.iconst 0, 1) := by decide +kernel
theorem dX7_isTrail_2 : decode cX7_isTrail 2 = .ok (.aload_n 0, 1) := by decide +kernel
theorem dX7_isTrail_3 : decode cX7_isTrail 3 = .ok (.getfield 7, 3) := by decide +kernel
theorem dX7_isTrail_6 : decode cX7_isTrail 6 = .ok (.bipush 12, 2) := by decide +kernel
theorem dX7_isTrail_8 : decode cX7_isTrail 8 = .ok (.iaload, 1) := by decide +kernel
theorem dX7_isTrail_9 : decode cX7_isTrail 9 = .ok (.iconst 1, 1) := by decide +kernel
theorem dX7_isTrail_10 : decode cX7_isTrail 10 = .ok (.isub, 1) := by decide +kernel
theorem dX7_isTrail_11 : decode cX7_isTrail 11 = .ok (.invokestatic 39, 3) := by decide +kernel
theorem dX7_isTrail_14 : decode cX7_isTrail 14 = .ok (.ireturn, 1) := by decide +kernel
set_option maxRecDepth 20000 in
theorem ggX7_isStar_X7_in : GoodIn wsX7_isStar wsX7_in := goodIn_r _ [5] (by decide +kernel) (by decide +kernel)
set_option maxRecDepth 20000 in
theorem gX7_isStar_X7_in : GoodIn wsX7_isStar (va_wsS RX7 39 yX7_in wsX7_in) := goodIn_app (goodIn_of _ (by decide +kernel)) ggX7_isStar_X7_in
theorem dX7_isStar_0 : decode cX7_isStar 0 = .ok (.iload_n 1, 1) := by decide +kernel
theorem dX7_isStar_1 : decode cX7_isStar 1 = .ok (.iconst 0, 1) := by decide +kernel
theorem dX7_isStar_2 : decode cX7_isStar 2 = .ok (.aload_n 0, 1) := by decide +kernel
theorem dX7_isStar_3 : decode cX7_isStar 3 = .ok (.getfield 7, 3) := by decide +kernel
theorem dX7_isStar_6 : decode cX7_isStar 6 = .ok (.bipush 13, 2) := by decide +kernel
theorem dX7_isStar_8 : decode cX7_isStar 8 = .ok (.iaload, 1) := by decide +kernel
theorem dX7_isStar_9 : decode cX7_isStar 9 = .ok (.iconst 1, 1) := by decide +kernel
theorem dX7_isStar_10 : decode cX7_isStar 10 = .ok (.isub, 1) := by decide +kernel
theorem dX7_isStar_11 : decode cX7_isStar 11 = .ok (.invokestatic 39, 3) := by decide +kernel
theorem dX7_isStar_14 : decode cX7_isStar 14 = .ok (.ireturn, 1) := by decide +kernel
theorem dX7_points_0 : decode cX7_points 0 = .ok (.aload_n 0, 1) := by decide +kernel
theorem dX7_points_1 : decode cX7_points 1 = .ok (.getfield 7, 3) := by decide +kernel
theorem dX7_points_4 : decode cX7_points 4 = .ok (.bipush 14, 2) := by decide +kernel
theorem dX7_points_6 : decode cX7_points 6 = .ok (.bipush 37, 2) := by decide +kernel
theorem dX7_points_8 : decode cX7_points 8 = .ok (.iload_n 1, 1) := by decide +kernel
theorem dX7_points_9 : decode cX7_points 9 = .ok (.imul, 1) := by decide +kernel
theorem dX7_points_10 : decode cX7_points 10 = .ok (.iadd, 1) := by decide +kernel
theorem dX7_points_11 : decode cX7_points 11 = .ok (.iaload, 1) := by decide +kernel
theorem dX7_points_12 : decode cX7_points 12 = .ok (.ireturn, 1) := by decide +kernel
theorem dX7_cellOf_0 : decode cX7_cellOf 0 = .ok (.bipush 14, 2) := by decide +kernel
theorem dX7_cellOf_2 : decode cX7_cellOf 2 = .ok (.bipush 37, 2) := by decide +kernel
theorem dX7_cellOf_4 : decode cX7_cellOf 4 = .ok (.iload_n 0, 1) := by decide +kernel
theorem dX7_cellOf_5 : decode cX7_cellOf 5 = .ok (.imul, 1) := by decide +kernel
theorem dX7_cellOf_6 : decode cX7_cellOf 6 = .ok (.iadd, 1) := by decide +kernel
theorem dX7_cellOf_7 : decode cX7_cellOf 7 = .ok (.iconst 1, 1) := by decide +kernel
theorem dX7_cellOf_8 : decode cX7_cellOf 8 = .ok (.iadd, 1) := by decide +kernel
theorem dX7_cellOf_9 : decode cX7_cellOf 9 = .ok (.iconst 3, 1) := by decide +kernel
theorem dX7_cellOf_10 : decode cX7_cellOf 10 = .ok (.iload_n 1, 1) := by decide +kernel
theorem dX7_cellOf_11 : decode cX7_cellOf 11 = .ok (.imul, 1) := by decide +kernel
theorem dX7_cellOf_12 : decode cX7_cellOf 12 = .ok (.iadd, 1) := by decide +kernel
theorem dX7_cellOf_13 : decode cX7_cellOf 13 = .ok (.ireturn, 1) := by decide +kernel
set_option maxRecDepth 20000 in
theorem ggX7_frameOf_X7_cellOf : GoodIn wsX7_frameOf wsX7_cellOf := goodIn_r _ [5] (by decide +kernel) (by decide +kernel)
set_option maxRecDepth 20000 in
theorem gX7_frameOf_X7_cellOf : GoodIn wsX7_frameOf (va_wsS RX7 43 yX7_cellOf wsX7_cellOf) := goodIn_app (goodIn_of _ (by decide +kernel)) ggX7_frameOf_X7_cellOf
theorem dX7_frameOf_0 : decode cX7_frameOf 0 = .ok (.aload_n 0, 1) := by decide +kernel
theorem dX7_frameOf_1 : decode cX7_frameOf 1 = .ok (.getfield 7, 3) := by decide +kernel
theorem dX7_frameOf_4 : decode cX7_frameOf 4 = .ok (.iload_n 1, 1) := by decide +kernel
theorem dX7_frameOf_5 : decode cX7_frameOf 5 = .ok (.iload_n 2, 1) := by decide +kernel
theorem dX7_frameOf_6 : decode cX7_frameOf 6 = .ok (.invokestatic 43, 3) := by decide +kernel
theorem dX7_frameOf_9 : decode cX7_frameOf 9 = .ok (.iaload, 1) := by decide +kernel
theorem dX7_frameOf_10 : decode cX7_frameOf 10 = .ok (.ireturn, 1) := by decide +kernel
set_option maxRecDepth 20000 in
theorem ggX7_isPoint_X7_isTrail : GoodIn wsX7_isPoint wsX7_isTrail := goodIn_r _ [5, 6, 7, 8, 4, 9, 14, 15, 16, 17, 18, 19, 20, 21, 22, 23, 24, 25, 26, 27, 28, 29, 30, 31, 32] (by decide +kernel) (by decide +kernel)
set_option maxRecDepth 20000 in
theorem gX7_isPoint_X7_isTrail : GoodIn wsX7_isPoint (wsV RX7 47 RX7 yX7_isTrail wsX7_isTrail) := goodIn_app (goodIn_of _ (by decide +kernel)) ggX7_isPoint_X7_isTrail
set_option maxRecDepth 20000 in
theorem ggX7_isPoint_X7_points : GoodIn wsX7_isPoint wsX7_points := goodIn_r _ [13, 6, 14, 15, 16, 17, 18, 19, 20, 21, 22, 23, 24, 25, 26, 27, 28, 29, 30, 31, 32] (by decide +kernel) (by decide +kernel)
set_option maxRecDepth 20000 in
theorem gX7_isPoint_X7_points : GoodIn wsX7_isPoint (wsV RX7 51 RX7 yX7_points wsX7_points) := goodIn_app (goodIn_of _ (by decide +kernel)) ggX7_isPoint_X7_points
set_option maxRecDepth 20000 in
theorem ggX7_isPoint_X7_in : GoodIn wsX7_isPoint wsX7_in := goodIn_r _ [9] (by decide +kernel) (by decide +kernel)
set_option maxRecDepth 20000 in
theorem gX7_isPoint_X7_in : GoodIn wsX7_isPoint (va_wsS RX7 39 yX7_in wsX7_in) := goodIn_app (goodIn_of _ (by decide +kernel)) ggX7_isPoint_X7_in
theorem dX7_isPoint_0 : decode cX7_isPoint 0 = .ok (.aload_n 0, 1) := by decide +kernel
theorem dX7_isPoint_1 : decode cX7_isPoint 1 = .ok (.iload_n 1, 1) := by decide +kernel
theorem dX7_isPoint_2 : decode cX7_isPoint 2 = .ok (.invokevirtual 47, 3) := by decide +kernel
theorem dX7_isPoint_5 : decode cX7_isPoint 5 = .ok (.ifCond .eq 22, 3) := by decide +kernel
theorem dX7_isPoint_8 : decode cX7_isPoint 8 = .ok (.iload_n 2, 1) := by decide +kernel
theorem dX7_isPoint_9 : decode cX7_isPoint 9 = .ok (.iconst 0, 1) := by decide +kernel
theorem dX7_isPoint_10 : decode cX7_isPoint 10 = .ok (.aload_n 0, 1) := by decide +kernel
theorem dX7_isPoint_11 : decode cX7_isPoint 11 = .ok (.iload_n 1, 1) := by decide +kernel
theorem dX7_isPoint_12 : decode cX7_isPoint 12 = .ok (.invokevirtual 51, 3) := by decide +kernel
theorem dX7_isPoint_15 : decode cX7_isPoint 15 = .ok (.iconst 1, 1) := by decide +kernel
theorem dX7_isPoint_16 : decode cX7_isPoint 16 = .ok (.isub, 1) := by decide +kernel
theorem dX7_isPoint_17 : decode cX7_isPoint 17 = .ok (.invokestatic 39, 3) := by decide +kernel
theorem dX7_isPoint_20 : decode cX7_isPoint 20 = .ok (.ifCond .eq 7, 3) := by decide +kernel
theorem dX7_isPoint_23 : decode cX7_isPoint 23 = .ok (.iconst 1, 1) := by decide +kernel
theorem dX7_isPoint_24 : decode cX7_isPoint 24 = .ok (.goto 4, 3) := by decide +kernel
theorem dX7_isPoint_27 : decode cX7_isPoint 27 = .ok (.iconst 0, 1) := by decide +kernel
theorem dX7_isPoint_28 : decode cX7_isPoint 28 = .ok (.ireturn, 1) := by decide +kernel
theorem dX7_ofStar_0 : decode cX7_ofStar 0 = .ok (.aload_n 0, 1) := by decide +kernel
theorem dX7_ofStar_1 : decode cX7_ofStar 1 = .ok (.getfield 7, 3) := by decide +kernel
theorem dX7_ofStar_4 : decode cX7_ofStar 4 = .ok (.sipush 458, 3) := by decide +kernel
theorem dX7_ofStar_7 : decode cX7_ofStar 7 = .ok (.iconst 3, 1) := by decide +kernel
theorem dX7_ofStar_8 : decode cX7_ofStar 8 = .ok (.iload_n 1, 1) := by decide +kernel
theorem dX7_ofStar_9 : decode cX7_ofStar 9 = .ok (.imul, 1) := by decide +kernel
theorem dX7_ofStar_10 : decode cX7_ofStar 10 = .ok (.iadd, 1) := by decide +kernel
theorem dX7_ofStar_11 : decode cX7_ofStar 11 = .ok (.iload_n 2, 1) := by decide +kernel
theorem dX7_ofStar_12 : decode cX7_ofStar 12 = .ok (.iadd, 1) := by decide +kernel
theorem dX7_ofStar_13 : decode cX7_ofStar 13 = .ok (.iaload, 1) := by decide +kernel
theorem dX7_ofStar_14 : decode cX7_ofStar 14 = .ok (.ireturn, 1) := by decide +kernel
theorem dX7_notTrail_0 : decode cX7_notTrail 0 = .ok (.aload_n 0, 1) := by decide +kernel
theorem dX7_notTrail_1 : decode cX7_notTrail 1 = .ok (.getfield 7, 3) := by decide +kernel
theorem dX7_notTrail_4 : decode cX7_notTrail 4 = .ok (.bipush 12, 2) := by decide +kernel
theorem dX7_notTrail_6 : decode cX7_notTrail 6 = .ok (.iaload, 1) := by decide +kernel
theorem dX7_notTrail_7 : decode cX7_notTrail 7 = .ok (.bipush 12, 2) := by decide +kernel
theorem dX7_notTrail_9 : decode cX7_notTrail 9 = .ok (.if_icmp .ne 7, 3) := by decide +kernel
theorem dX7_notTrail_12 : decode cX7_notTrail 12 = .ok (.iconst 3, 1) := by decide +kernel
theorem dX7_notTrail_13 : decode cX7_notTrail 13 = .ok (.goto 4, 3) := by decide +kernel
theorem dX7_notTrail_16 : decode cX7_notTrail 16 = .ok (.iconst 0, 1) := by decide +kernel
theorem dX7_notTrail_17 : decode cX7_notTrail 17 = .ok (.ireturn, 1) := by decide +kernel
theorem dX7_addsTrail_0 : decode cX7_addsTrail 0 = .ok (.aload_n 0, 1) := by decide +kernel
theorem dX7_addsTrail_1 : decode cX7_addsTrail 1 = .ok (.getfield 7, 3) := by decide +kernel
theorem dX7_addsTrail_4 : decode cX7_addsTrail 4 = .ok (.bipush 14, 2) := by decide +kernel
theorem dX7_addsTrail_6 : decode cX7_addsTrail 6 = .ok (.bipush 37, 2) := by decide +kernel
theorem dX7_addsTrail_8 : decode cX7_addsTrail 8 = .ok (.aload_n 0, 1) := by decide +kernel
theorem dX7_addsTrail_9 : decode cX7_addsTrail 9 = .ok (.getfield 7, 3) := by decide +kernel
theorem dX7_addsTrail_12 : decode cX7_addsTrail 12 = .ok (.bipush 12, 2) := by decide +kernel
theorem dX7_addsTrail_14 : decode cX7_addsTrail 14 = .ok (.iaload, 1) := by decide +kernel
theorem dX7_addsTrail_15 : decode cX7_addsTrail 15 = .ok (.imul, 1) := by decide +kernel
theorem dX7_addsTrail_16 : decode cX7_addsTrail 16 = .ok (.iadd, 1) := by decide +kernel
theorem dX7_addsTrail_17 : decode cX7_addsTrail 17 = .ok (.iconst 0, 1) := by decide +kernel
theorem dX7_addsTrail_18 : decode cX7_addsTrail 18 = .ok (.iastore, 1) := by decide +kernel
theorem dX7_addsTrail_19 : decode cX7_addsTrail 19 = .ok (.aload_n 0, 1) := by decide +kernel
theorem dX7_addsTrail_20 : decode cX7_addsTrail 20 = .ok (.getfield 7, 3) := by decide +kernel
theorem dX7_addsTrail_23 : decode cX7_addsTrail 23 = .ok (.bipush 12, 2) := by decide +kernel
theorem dX7_addsTrail_25 : decode cX7_addsTrail 25 = .ok (.dup2, 1) := by decide +kernel
theorem dX7_addsTrail_26 : decode cX7_addsTrail 26 = .ok (.iaload, 1) := by decide +kernel
theorem dX7_addsTrail_27 : decode cX7_addsTrail 27 = .ok (.iconst 1, 1) := by decide +kernel
theorem dX7_addsTrail_28 : decode cX7_addsTrail 28 = .ok (.iadd, 1) := by decide +kernel
theorem dX7_addsTrail_29 : decode cX7_addsTrail 29 = .ok (.iastore, 1) := by decide +kernel
theorem dX7_addsTrail_30 : decode cX7_addsTrail 30 = .ok (.aload_n 0, 1) := by decide +kernel
theorem dX7_addsTrail_31 : decode cX7_addsTrail 31 = .ok (.getfield 7, 3) := by decide +kernel
theorem dX7_addsTrail_34 : decode cX7_addsTrail 34 = .ok (.bipush 12, 2) := by decide +kernel
theorem dX7_addsTrail_36 : decode cX7_addsTrail 36 = .ok (.iaload, 1) := by decide +kernel
theorem dX7_addsTrail_37 : decode cX7_addsTrail 37 = .ok (.iconst 1, 1) := by decide +kernel
theorem dX7_addsTrail_38 : decode cX7_addsTrail 38 = .ok (.isub, 1) := by decide +kernel
theorem dX7_addsTrail_39 : decode cX7_addsTrail 39 = .ok (.ireturn, 1) := by decide +kernel
set_option maxRecDepth 20000 in
theorem ggX7_addTrail_X7_notTrail : GoodIn wsX7_addTrail wsX7_notTrail := goodIn_r _ [6, 7, 18, 19, 20, 21, 22, 23, 24, 25, 26, 27, 28, 29, 30, 31, 32, 33, 34, 35, 36] (by decide +kernel) (by decide +kernel)
set_option maxRecDepth 20000 in
theorem gX7_addTrail_X7_notTrail : GoodIn wsX7_addTrail (wsV RX7 55 RX7 yX7_notTrail wsX7_notTrail) := goodIn_app (goodIn_of _ (by decide +kernel)) ggX7_addTrail_X7_notTrail
set_option maxRecDepth 20000 in
theorem ggX7_addTrail_X7_keep : GoodIn wsX7_addTrail wsX7_keep := goodIn_r _ [11, 12, 13, 7, 18, 19, 20, 21, 22, 23, 24, 25, 26, 27, 28, 29, 30, 31, 32, 33, 34, 35, 36] (by decide +kernel) (by decide +kernel)
set_option maxRecDepth 20000 in
theorem gX7_addTrail_X7_keep : GoodIn wsX7_addTrail (wsV RX7 59 RX7 yX7_keep wsX7_keep) := goodIn_app (goodIn_of _ (by decide +kernel)) ggX7_addTrail_X7_keep
set_option maxRecDepth 20000 in
theorem ggX7_addTrail_X7_addsTrail : GoodIn wsX7_addTrail wsX7_addsTrail := goodIn_r _ [17, 7, 18, 19, 20, 21, 22, 23, 24, 25, 26, 27, 28, 29, 30, 31, 32, 33, 34, 35, 36] (by decide +kernel) (by decide +kernel)
set_option maxRecDepth 20000 in
theorem gX7_addTrail_X7_addsTrail : GoodIn wsX7_addTrail (wsV RX7 62 RX7 yX7_addsTrail wsX7_addsTrail) := goodIn_app (goodIn_of _ (by decide +kernel)) ggX7_addTrail_X7_addsTrail
theorem dX7_addTrail_0 : decode cX7_addTrail 0 = .ok (.aload_n 0, 1) := by decide +kernel
theorem dX7_addTrail_1 : decode cX7_addTrail 1 = .ok (.aload_n 0, 1) := by decide +kernel
theorem dX7_addTrail_2 : decode cX7_addTrail 2 = .ok (.invokevirtual 55, 3) := by decide +kernel
theorem dX7_addTrail_5 : decode cX7_addTrail 5 = .ok (.ifCond .ne 7, 3) := by decide +kernel
theorem dX7_addTrail_8 : decode cX7_addTrail 8 = .ok (.iconst 0, 1) := by decide +kernel
theorem dX7_addTrail_9 : decode cX7_addTrail 9 = .ok (.goto 4, 3) := by decide +kernel
theorem dX7_addTrail_12 : decode cX7_addTrail 12 = .ok (.iconst 1, 1) := by decide +kernel
theorem dX7_addTrail_13 : decode cX7_addTrail 13 = .ok (.putfield 31, 3) := by decide +kernel
theorem dX7_addTrail_16 : decode cX7_addTrail 16 = .ok (.aload_n 0, 1) := by decide +kernel
theorem dX7_addTrail_17 : decode cX7_addTrail 17 = .ok (.getfield 31, 3) := by decide +kernel
theorem dX7_addTrail_20 : decode cX7_addTrail 20 = .ok (.ifCond .eq 5, 3) := by decide +kernel
theorem dX7_addTrail_23 : decode cX7_addTrail 23 = .ok (.iconst 0, 1) := by decide +kernel
theorem dX7_addTrail_24 : decode cX7_addTrail 24 = .ok (.ireturn, 1) := by decide +kernel
theorem dX7_addTrail_25 : decode cX7_addTrail 25 = .ok (.aload_n 0, 1) := by decide +kernel
theorem dX7_addTrail_26 : decode cX7_addTrail 26 = .ok (.invokevirtual 59, 3) := by decide +kernel
theorem dX7_addTrail_29 : decode cX7_addTrail 29 = .ok (.aload_n 0, 1) := by decide +kernel
theorem dX7_addTrail_30 : decode cX7_addTrail 30 = .ok (.invokevirtual 62, 3) := by decide +kernel
theorem dX7_addTrail_33 : decode cX7_addTrail 33 = .ok (.ireturn, 1) := by decide +kernel
set_option maxRecDepth 20000 in
theorem ggX7_removeTrail_X7_isTrail : GoodIn wsX7_removeTrail wsX7_isTrail := goodIn_r _ [7, 2, 8, 9, 6, 10, 17, 18, 19, 20, 21, 22, 23, 24, 25, 26, 27, 28, 29, 30, 31, 32, 33, 34, 35] (by decide +kernel) (by decide +kernel)
set_option maxRecDepth 20000 in
theorem gX7_removeTrail_X7_isTrail : GoodIn wsX7_removeTrail (wsV RX7 47 RX7 yX7_isTrail wsX7_isTrail) := goodIn_app (goodIn_of _ (by decide +kernel)) ggX7_removeTrail_X7_isTrail
set_option maxRecDepth 20000 in
theorem ggX7_removeTrail_X7_keep : GoodIn wsX7_removeTrail wsX7_keep := goodIn_r _ [14, 15, 16, 2, 17, 18, 19, 20, 21, 22, 23, 24, 25, 26, 27, 28, 29, 30, 31, 32, 33, 34, 35] (by decide +kernel) (by decide +kernel)
set_option maxRecDepth 20000 in
theorem gX7_removeTrail_X7_keep : GoodIn wsX7_removeTrail (wsV RX7 59 RX7 yX7_keep wsX7_keep) := goodIn_app (goodIn_of _ (by decide +kernel)) ggX7_removeTrail_X7_keep
theorem dX7_removeTrail_0 : decode cX7_removeTrail 0 = .ok (.aload_n 0, 1) := by decide +kernel
theorem dX7_removeTrail_1 : decode cX7_removeTrail 1 = .ok (.aload_n 0, 1) := by decide +kernel
theorem dX7_removeTrail_2 : decode cX7_removeTrail 2 = .ok (.iload_n 1, 1) := by decide +kernel
theorem dX7_removeTrail_3 : decode cX7_removeTrail 3 = .ok (.invokevirtual 47, 3) := by decide +kernel
theorem dX7_removeTrail_6 : decode cX7_removeTrail 6 = .ok (.ifCond .eq 7, 3) := by decide +kernel
theorem dX7_removeTrail_9 : decode cX7_removeTrail 9 = .ok (.iconst 0, 1) := by decide +kernel
theorem dX7_removeTrail_10 : decode cX7_removeTrail 10 = .ok (.goto 4, 3) := by decide +kernel
theorem dX7_removeTrail_13 : decode cX7_removeTrail 13 = .ok (.iconst 1, 1) := by decide +kernel
theorem dX7_removeTrail_14 : decode cX7_removeTrail 14 = .ok (.putfield 31, 3) := by decide +kernel
theorem dX7_removeTrail_17 : decode cX7_removeTrail 17 = .ok (.aload_n 0, 1) := by decide +kernel
theorem dX7_removeTrail_18 : decode cX7_removeTrail 18 = .ok (.getfield 31, 3) := by decide +kernel
theorem dX7_removeTrail_21 : decode cX7_removeTrail 21 = .ok (.ifCond .eq 5, 3) := by decide +kernel
theorem dX7_removeTrail_24 : decode cX7_removeTrail 24 = .ok (.iconst 0, 1) := by decide +kernel
theorem dX7_removeTrail_25 : decode cX7_removeTrail 25 = .ok (.ireturn, 1) := by decide +kernel
theorem dX7_removeTrail_26 : decode cX7_removeTrail 26 = .ok (.aload_n 0, 1) := by decide +kernel
theorem dX7_removeTrail_27 : decode cX7_removeTrail 27 = .ok (.invokevirtual 59, 3) := by decide +kernel
theorem dX7_removeTrail_30 : decode cX7_removeTrail 30 = .ok (.aload_n 0, 1) := by decide +kernel
theorem dX7_removeTrail_31 : decode cX7_removeTrail 31 = .ok (.getfield 7, 3) := by decide +kernel
theorem dX7_removeTrail_34 : decode cX7_removeTrail 34 = .ok (.bipush 12, 2) := by decide +kernel
theorem dX7_removeTrail_36 : decode cX7_removeTrail 36 = .ok (.dup2, 1) := by decide +kernel
theorem dX7_removeTrail_37 : decode cX7_removeTrail 37 = .ok (.iaload, 1) := by decide +kernel
theorem dX7_removeTrail_38 : decode cX7_removeTrail 38 = .ok (.iconst 1, 1) := by decide +kernel
theorem dX7_removeTrail_39 : decode cX7_removeTrail 39 = .ok (.isub, 1) := by decide +kernel
theorem dX7_removeTrail_40 : decode cX7_removeTrail 40 = .ok (.iastore, 1) := by decide +kernel
theorem dX7_removeTrail_41 : decode cX7_removeTrail 41 = .ok (.bipush 14, 2) := by decide +kernel
theorem dX7_removeTrail_43 : decode cX7_removeTrail 43 = .ok (.bipush 37, 2) := by decide +kernel
theorem dX7_removeTrail_45 : decode cX7_removeTrail 45 = .ok (.iload_n 1, 1) := by decide +kernel
theorem dX7_removeTrail_46 : decode cX7_removeTrail 46 = .ok (.imul, 1) := by decide +kernel
theorem dX7_removeTrail_47 : decode cX7_removeTrail 47 = .ok (.iadd, 1) := by decide +kernel
theorem dX7_removeTrail_48 : decode cX7_removeTrail 48 = .ok (.istore_n 2, 1) := by decide +kernel
theorem dX7_removeTrail_49 : decode cX7_removeTrail 49 = .ok (.iload_n 2, 1) := by decide +kernel
theorem dX7_removeTrail_50 : decode cX7_removeTrail 50 = .ok (.bipush 14, 2) := by decide +kernel
theorem dX7_removeTrail_52 : decode cX7_removeTrail 52 = .ok (.bipush 37, 2) := by decide +kernel
theorem dX7_removeTrail_54 : decode cX7_removeTrail 54 = .ok (.aload_n 0, 1) := by decide +kernel
theorem dX7_removeTrail_55 : decode cX7_removeTrail 55 = .ok (.getfield 7, 3) := by decide +kernel
theorem dX7_removeTrail_58 : decode cX7_removeTrail 58 = .ok (.bipush 12, 2) := by decide +kernel
theorem dX7_removeTrail_60 : decode cX7_removeTrail 60 = .ok (.iaload, 1) := by decide +kernel
theorem dX7_removeTrail_61 : decode cX7_removeTrail 61 = .ok (.imul, 1) := by decide +kernel
theorem dX7_removeTrail_62 : decode cX7_removeTrail 62 = .ok (.iadd, 1) := by decide +kernel
theorem dX7_removeTrail_63 : decode cX7_removeTrail 63 = .ok (.if_icmp .ge 24, 3) := by decide +kernel
theorem dX7_removeTrail_66 : decode cX7_removeTrail 66 = .ok (.aload_n 0, 1) := by decide +kernel
theorem dX7_removeTrail_67 : decode cX7_removeTrail 67 = .ok (.getfield 7, 3) := by decide +kernel
theorem dX7_removeTrail_70 : decode cX7_removeTrail 70 = .ok (.iload_n 2, 1) := by decide +kernel
theorem dX7_removeTrail_71 : decode cX7_removeTrail 71 = .ok (.aload_n 0, 1) := by decide +kernel
theorem dX7_removeTrail_72 : decode cX7_removeTrail 72 = .ok (.getfield 7, 3) := by decide +kernel
theorem dX7_removeTrail_75 : decode cX7_removeTrail 75 = .ok (.iload_n 2, 1) := by decide +kernel
theorem dX7_removeTrail_76 : decode cX7_removeTrail 76 = .ok (.bipush 37, 2) := by decide +kernel
theorem dX7_removeTrail_78 : decode cX7_removeTrail 78 = .ok (.iadd, 1) := by decide +kernel
theorem dX7_removeTrail_79 : decode cX7_removeTrail 79 = .ok (.iaload, 1) := by decide +kernel
theorem dX7_removeTrail_80 : decode cX7_removeTrail 80 = .ok (.iastore, 1) := by decide +kernel
theorem dX7_removeTrail_81 : decode cX7_removeTrail 81 = .ok (.iinc 2 1, 3) := by decide +kernel
theorem dX7_removeTrail_84 : decode cX7_removeTrail 84 = .ok (.goto (-35), 3) := by decide +kernel
theorem dX7_removeTrail_87 : decode cX7_removeTrail 87 = .ok (.aload_n 0, 1) := by decide +kernel
theorem dX7_removeTrail_88 : decode cX7_removeTrail 88 = .ok (.getfield 7, 3) := by decide +kernel
theorem dX7_removeTrail_91 : decode cX7_removeTrail 91 = .ok (.bipush 12, 2) := by decide +kernel
theorem dX7_removeTrail_93 : decode cX7_removeTrail 93 = .ok (.iaload, 1) := by decide +kernel
theorem dX7_removeTrail_94 : decode cX7_removeTrail 94 = .ok (.ireturn, 1) := by decide +kernel
set_option maxRecDepth 20000 in
theorem ggX7_hasFrame_X7_points : GoodIn wsX7_hasFrame wsX7_points := goodIn_r _ [5, 6, 14, 15, 16, 17, 18, 19, 20, 21, 22, 23, 24, 25, 26, 27, 28, 29, 30, 31, 32] (by decide +kernel) (by decide +kernel)
set_option maxRecDepth 20000 in
theorem gX7_hasFrame_X7_points : GoodIn wsX7_hasFrame (wsV RX7 51 RX7 yX7_points wsX7_points) := goodIn_app (goodIn_of _ (by decide +kernel)) ggX7_hasFrame_X7_points
set_option maxRecDepth 20000 in
theorem ggX7_hasFrame_X7_frameOf : GoodIn wsX7_hasFrame wsX7_frameOf := goodIn_r _ [10, 6, 11, 12, 4, 13, 14, 15, 16, 17, 18, 19, 20, 21, 22, 23, 24, 25, 26, 27, 28, 29, 30, 31, 32] (by decide +kernel) (by decide +kernel)
set_option maxRecDepth 20000 in
theorem gX7_hasFrame_X7_frameOf : GoodIn wsX7_hasFrame (wsV RX7 65 RX7 yX7_frameOf wsX7_frameOf) := goodIn_app (goodIn_of _ (by decide +kernel)) ggX7_hasFrame_X7_frameOf
theorem dX7_hasFrame_0 : decode cX7_hasFrame 0 = .ok (.iconst 0, 1) := by decide +kernel
theorem dX7_hasFrame_1 : decode cX7_hasFrame 1 = .ok (.istore_n 3, 1) := by decide +kernel
theorem dX7_hasFrame_2 : decode cX7_hasFrame 2 = .ok (.iconst 0, 1) := by decide +kernel
theorem dX7_hasFrame_3 : decode cX7_hasFrame 3 = .ok (.istore 4, 2) := by decide +kernel
theorem dX7_hasFrame_5 : decode cX7_hasFrame 5 = .ok (.iload 4, 2) := by decide +kernel
theorem dX7_hasFrame_7 : decode cX7_hasFrame 7 = .ok (.aload_n 0, 1) := by decide +kernel
theorem dX7_hasFrame_8 : decode cX7_hasFrame 8 = .ok (.iload_n 1, 1) := by decide +kernel
theorem dX7_hasFrame_9 : decode cX7_hasFrame 9 = .ok (.invokevirtual 51, 3) := by decide +kernel
theorem dX7_hasFrame_12 : decode cX7_hasFrame 12 = .ok (.if_icmp .ge 30, 3) := by decide +kernel
theorem dX7_hasFrame_15 : decode cX7_hasFrame 15 = .ok (.iload_n 3, 1) := by decide +kernel
theorem dX7_hasFrame_16 : decode cX7_hasFrame 16 = .ok (.ifCond .ne 14, 3) := by decide +kernel
theorem dX7_hasFrame_19 : decode cX7_hasFrame 19 = .ok (.aload_n 0, 1) := by decide +kernel
theorem dX7_hasFrame_20 : decode cX7_hasFrame 20 = .ok (.iload_n 1, 1) := by decide +kernel
theorem dX7_hasFrame_21 : decode cX7_hasFrame 21 = .ok (.iload 4, 2) := by decide +kernel
theorem dX7_hasFrame_23 : decode cX7_hasFrame 23 = .ok (.invokevirtual 65, 3) := by decide +kernel
theorem dX7_hasFrame_26 : decode cX7_hasFrame 26 = .ok (.iload_n 2, 1) := by decide +kernel
theorem dX7_hasFrame_27 : decode cX7_hasFrame 27 = .ok (.if_icmp .ne 7, 3) := by decide +kernel
theorem dX7_hasFrame_30 : decode cX7_hasFrame 30 = .ok (.iconst 1, 1) := by decide +kernel
theorem dX7_hasFrame_31 : decode cX7_hasFrame 31 = .ok (.goto 4, 3) := by decide +kernel
theorem dX7_hasFrame_34 : decode cX7_hasFrame 34 = .ok (.iconst 0, 1) := by decide +kernel
theorem dX7_hasFrame_35 : decode cX7_hasFrame 35 = .ok (.istore_n 3, 1) := by decide +kernel
theorem dX7_hasFrame_36 : decode cX7_hasFrame 36 = .ok (.iinc 4 1, 3) := by decide +kernel
theorem dX7_hasFrame_39 : decode cX7_hasFrame 39 = .ok (.goto (-34), 3) := by decide +kernel
theorem dX7_hasFrame_42 : decode cX7_hasFrame 42 = .ok (.iload_n 3, 1) := by decide +kernel
theorem dX7_hasFrame_43 : decode cX7_hasFrame 43 = .ok (.ireturn, 1) := by decide +kernel
set_option maxRecDepth 20000 in
theorem ggX7_notPoint_X7_isTrail : GoodIn wsX7_notPoint wsX7_isTrail := goodIn_r _ [5, 6, 7, 8, 4, 9, 25, 26, 27, 28, 29, 30, 31, 32, 33, 34, 35, 36, 37, 38, 39, 40, 41, 42, 43] (by decide +kernel) (by decide +kernel)
set_option maxRecDepth 20000 in
theorem gX7_notPoint_X7_isTrail : GoodIn wsX7_notPoint (wsV RX7 47 RX7 yX7_isTrail wsX7_isTrail) := goodIn_app (goodIn_of _ (by decide +kernel)) ggX7_notPoint_X7_isTrail
set_option maxRecDepth 20000 in
theorem ggX7_notPoint_X7_in : GoodIn wsX7_notPoint wsX7_in := goodIn_r _ [9] (by decide +kernel) (by decide +kernel)
set_option maxRecDepth 20000 in
theorem gX7_notPoint_X7_in : GoodIn wsX7_notPoint (va_wsS RX7 39 yX7_in wsX7_in) := goodIn_app (goodIn_of _ (by decide +kernel)) ggX7_notPoint_X7_in
set_option maxRecDepth 20000 in
theorem ggX7_notPoint_X7_points : GoodIn wsX7_notPoint wsX7_points := goodIn_r _ [13, 6, 25, 26, 27, 28, 29, 30, 31, 32, 33, 34, 35, 36, 37, 38, 39, 40, 41, 42, 43] (by decide +kernel) (by decide +kernel)
set_option maxRecDepth 20000 in
theorem gX7_notPoint_X7_points : GoodIn wsX7_notPoint (wsV RX7 51 RX7 yX7_points wsX7_points) := goodIn_app (goodIn_of _ (by decide +kernel)) ggX7_notPoint_X7_points
set_option maxRecDepth 20000 in
theorem ggX7_notPoint_X7_hasFrame : GoodIn wsX7_notPoint wsX7_hasFrame := goodIn_r _ [17, 10, 11, 12, 4, 13, 6, 18, 19, 20, 21, 22, 23, 24, 25, 26, 27, 28, 29, 30, 31, 32, 33, 34, 35, 36, 37, 38, 39, 40, 41, 42, 43] (by decide +kernel) (by decide +kernel)
set_option maxRecDepth 20000 in
theorem gX7_notPoint_X7_hasFrame : GoodIn wsX7_notPoint (wsV RX7 68 RX7 yX7_hasFrame wsX7_hasFrame) := goodIn_app (goodIn_of _ (by decide +kernel)) ggX7_notPoint_X7_hasFrame
theorem dX7_notPoint_0 : decode cX7_notPoint 0 = .ok (.aload_n 0, 1) := by decide +kernel
theorem dX7_notPoint_1 : decode cX7_notPoint 1 = .ok (.iload_n 1, 1) := by decide +kernel
theorem dX7_notPoint_2 : decode cX7_notPoint 2 = .ok (.invokevirtual 47, 3) := by decide +kernel
theorem dX7_notPoint_5 : decode cX7_notPoint 5 = .ok (.ifCond .ne 5, 3) := by decide +kernel
theorem dX7_notPoint_8 : decode cX7_notPoint 8 = .ok (.iconst 1, 1) := by decide +kernel
theorem dX7_notPoint_9 : decode cX7_notPoint 9 = .ok (.ireturn, 1) := by decide +kernel
theorem dX7_notPoint_10 : decode cX7_notPoint 10 = .ok (.iload_n 2, 1) := by decide +kernel
theorem dX7_notPoint_11 : decode cX7_notPoint 11 = .ok (.iconst 0, 1) := by decide +kernel
theorem dX7_notPoint_12 : decode cX7_notPoint 12 = .ok (.sipush 1000, 3) := by decide +kernel
theorem dX7_notPoint_15 : decode cX7_notPoint 15 = .ok (.invokestatic 39, 3) := by decide +kernel
theorem dX7_notPoint_18 : decode cX7_notPoint 18 = .ok (.ifCond .eq 26, 3) := by decide +kernel
theorem dX7_notPoint_21 : decode cX7_notPoint 21 = .ok (.iload_n 3, 1) := by decide +kernel
theorem dX7_notPoint_22 : decode cX7_notPoint 22 = .ok (.iconst 0, 1) := by decide +kernel
theorem dX7_notPoint_23 : decode cX7_notPoint 23 = .ok (.sipush 4000, 3) := by decide +kernel
theorem dX7_notPoint_26 : decode cX7_notPoint 26 = .ok (.invokestatic 39, 3) := by decide +kernel
theorem dX7_notPoint_29 : decode cX7_notPoint 29 = .ok (.ifCond .eq 15, 3) := by decide +kernel
theorem dX7_notPoint_32 : decode cX7_notPoint 32 = .ok (.iload 4, 2) := by decide +kernel
theorem dX7_notPoint_34 : decode cX7_notPoint 34 = .ok (.iconst 0, 1) := by decide +kernel
theorem dX7_notPoint_35 : decode cX7_notPoint 35 = .ok (.sipush 4000, 3) := by decide +kernel
theorem dX7_notPoint_38 : decode cX7_notPoint 38 = .ok (.invokestatic 39, 3) := by decide +kernel
theorem dX7_notPoint_41 : decode cX7_notPoint 41 = .ok (.ifCond .ne 5, 3) := by decide +kernel
theorem dX7_notPoint_44 : decode cX7_notPoint 44 = .ok (.iconst 2, 1) := by decide +kernel
theorem dX7_notPoint_45 : decode cX7_notPoint 45 = .ok (.ireturn, 1) := by decide +kernel
theorem dX7_notPoint_46 : decode cX7_notPoint 46 = .ok (.aload_n 0, 1) := by decide +kernel
theorem dX7_notPoint_47 : decode cX7_notPoint 47 = .ok (.iload_n 1, 1) := by decide +kernel
theorem dX7_notPoint_48 : decode cX7_notPoint 48 = .ok (.invokevirtual 51, 3) := by decide +kernel
theorem dX7_notPoint_51 : decode cX7_notPoint 51 = .ok (.bipush 12, 2) := by decide +kernel
theorem dX7_notPoint_53 : decode cX7_notPoint 53 = .ok (.if_icmp .eq 12, 3) := by decide +kernel
theorem dX7_notPoint_56 : decode cX7_notPoint 56 = .ok (.aload_n 0, 1) := by decide +kernel
theorem dX7_notPoint_57 : decode cX7_notPoint 57 = .ok (.iload_n 1, 1) := by decide +kernel
theorem dX7_notPoint_58 : decode cX7_notPoint 58 = .ok (.iload_n 2, 1) := by decide +kernel
theorem dX7_notPoint_59 : decode cX7_notPoint 59 = .ok (.invokevirtual 68, 3) := by decide +kernel
theorem dX7_notPoint_62 : decode cX7_notPoint 62 = .ok (.ifCond .eq 7, 3) := by decide +kernel
theorem dX7_notPoint_65 : decode cX7_notPoint 65 = .ok (.iconst 3, 1) := by decide +kernel
theorem dX7_notPoint_66 : decode cX7_notPoint 66 = .ok (.goto 4, 3) := by decide +kernel
theorem dX7_notPoint_69 : decode cX7_notPoint 69 = .ok (.iconst 0, 1) := by decide +kernel
theorem dX7_notPoint_70 : decode cX7_notPoint 70 = .ok (.ireturn, 1) := by decide +kernel
set_option maxRecDepth 20000 in
theorem ggX7_addsPoint_X7_points : GoodIn wsX7_addsPoint wsX7_points := goodIn_r _ [6, 1, 14, 15, 16, 17, 18, 19, 20, 21, 22, 23, 24, 25, 26, 27, 28, 29, 30, 31, 32] (by decide +kernel) (by decide +kernel)
set_option maxRecDepth 20000 in
theorem gX7_addsPoint_X7_points : GoodIn wsX7_addsPoint (wsV RX7 51 RX7 yX7_points wsX7_points) := goodIn_app (goodIn_of _ (by decide +kernel)) ggX7_addsPoint_X7_points
set_option maxRecDepth 20000 in
theorem ggX7_addsPoint_X7_frameOf : GoodIn wsX7_addsPoint wsX7_frameOf := goodIn_r _ [10, 1, 11, 12, 5, 13, 14, 15, 16, 17, 18, 19, 20, 21, 22, 23, 24, 25, 26, 27, 28, 29, 30, 31, 32] (by decide +kernel) (by decide +kernel)
set_option maxRecDepth 20000 in
theorem gX7_addsPoint_X7_frameOf : GoodIn wsX7_addsPoint (wsV RX7 65 RX7 yX7_frameOf wsX7_frameOf) := goodIn_app (goodIn_of _ (by decide +kernel)) ggX7_addsPoint_X7_frameOf
set_option maxRecDepth 20000 in
theorem ggX7_addsPoint_X7_cellOf : GoodIn wsX7_addsPoint wsX7_cellOf := goodIn_r _ [13] (by decide +kernel) (by decide +kernel)
set_option maxRecDepth 20000 in
theorem gX7_addsPoint_X7_cellOf : GoodIn wsX7_addsPoint (va_wsS RX7 43 yX7_cellOf wsX7_cellOf) := goodIn_app (goodIn_of _ (by decide +kernel)) ggX7_addsPoint_X7_cellOf
theorem dX7_addsPoint_0 : decode cX7_addsPoint 0 = .ok (.aload_n 0, 1) := by decide +kernel
theorem dX7_addsPoint_1 : decode cX7_addsPoint 1 = .ok (.iload_n 1, 1) := by decide +kernel
theorem dX7_addsPoint_2 : decode cX7_addsPoint 2 = .ok (.invokevirtual 51, 3) := by decide +kernel
theorem dX7_addsPoint_5 : decode cX7_addsPoint 5 = .ok (.istore 5, 2) := by decide +kernel
theorem dX7_addsPoint_7 : decode cX7_addsPoint 7 = .ok (.iload 5, 2) := by decide +kernel
theorem dX7_addsPoint_9 : decode cX7_addsPoint 9 = .ok (.ifCond .le 67, 3) := by decide +kernel
theorem dX7_addsPoint_12 : decode cX7_addsPoint 12 = .ok (.aload_n 0, 1) := by decide +kernel
theorem dX7_addsPoint_13 : decode cX7_addsPoint 13 = .ok (.iload_n 1, 1) := by decide +kernel
theorem dX7_addsPoint_14 : decode cX7_addsPoint 14 = .ok (.iload 5, 2) := by decide +kernel
theorem dX7_addsPoint_16 : decode cX7_addsPoint 16 = .ok (.iconst 1, 1) := by decide +kernel
theorem dX7_addsPoint_17 : decode cX7_addsPoint 17 = .ok (.isub, 1) := by decide +kernel
theorem dX7_addsPoint_18 : decode cX7_addsPoint 18 = .ok (.invokevirtual 65, 3) := by decide +kernel
theorem dX7_addsPoint_21 : decode cX7_addsPoint 21 = .ok (.iload_n 2, 1) := by decide +kernel
theorem dX7_addsPoint_22 : decode cX7_addsPoint 22 = .ok (.if_icmp .le 54, 3) := by decide +kernel
theorem dX7_addsPoint_25 : decode cX7_addsPoint 25 = .ok (.iconst 0, 1) := by decide +kernel
theorem dX7_addsPoint_26 : decode cX7_addsPoint 26 = .ok (.istore 6, 2) := by decide +kernel
theorem dX7_addsPoint_28 : decode cX7_addsPoint 28 = .ok (.iload 6, 2) := by decide +kernel
theorem dX7_addsPoint_30 : decode cX7_addsPoint 30 = .ok (.iconst 3, 1) := by decide +kernel
theorem dX7_addsPoint_31 : decode cX7_addsPoint 31 = .ok (.if_icmp .ge 39, 3) := by decide +kernel
theorem dX7_addsPoint_34 : decode cX7_addsPoint 34 = .ok (.aload_n 0, 1) := by decide +kernel
theorem dX7_addsPoint_35 : decode cX7_addsPoint 35 = .ok (.getfield 7, 3) := by decide +kernel
theorem dX7_addsPoint_38 : decode cX7_addsPoint 38 = .ok (.iload_n 1, 1) := by decide +kernel
theorem dX7_addsPoint_39 : decode cX7_addsPoint 39 = .ok (.iload 5, 2) := by decide +kernel
theorem dX7_addsPoint_41 : decode cX7_addsPoint 41 = .ok (.invokestatic 43, 3) := by decide +kernel
theorem dX7_addsPoint_44 : decode cX7_addsPoint 44 = .ok (.iload 6, 2) := by decide +kernel
theorem dX7_addsPoint_46 : decode cX7_addsPoint 46 = .ok (.iadd, 1) := by decide +kernel
theorem dX7_addsPoint_47 : decode cX7_addsPoint 47 = .ok (.aload_n 0, 1) := by decide +kernel
theorem dX7_addsPoint_48 : decode cX7_addsPoint 48 = .ok (.getfield 7, 3) := by decide +kernel
theorem dX7_addsPoint_51 : decode cX7_addsPoint 51 = .ok (.iload_n 1, 1) := by decide +kernel
theorem dX7_addsPoint_52 : decode cX7_addsPoint 52 = .ok (.iload 5, 2) := by decide +kernel
theorem dX7_addsPoint_54 : decode cX7_addsPoint 54 = .ok (.iconst 1, 1) := by decide +kernel
theorem dX7_addsPoint_55 : decode cX7_addsPoint 55 = .ok (.isub, 1) := by decide +kernel
theorem dX7_addsPoint_56 : decode cX7_addsPoint 56 = .ok (.invokestatic 43, 3) := by decide +kernel
theorem dX7_addsPoint_59 : decode cX7_addsPoint 59 = .ok (.iload 6, 2) := by decide +kernel
theorem dX7_addsPoint_61 : decode cX7_addsPoint 61 = .ok (.iadd, 1) := by decide +kernel
theorem dX7_addsPoint_62 : decode cX7_addsPoint 62 = .ok (.iaload, 1) := by decide +kernel
theorem dX7_addsPoint_63 : decode cX7_addsPoint 63 = .ok (.iastore, 1) := by decide +kernel
theorem dX7_addsPoint_64 : decode cX7_addsPoint 64 = .ok (.iinc 6 1, 3) := by decide +kernel
theorem dX7_addsPoint_67 : decode cX7_addsPoint 67 = .ok (.goto (-39), 3) := by decide +kernel
theorem dX7_addsPoint_70 : decode cX7_addsPoint 70 = .ok (.iinc 5 (-1), 3) := by decide +kernel
theorem dX7_addsPoint_73 : decode cX7_addsPoint 73 = .ok (.goto (-66), 3) := by decide +kernel
theorem dX7_addsPoint_76 : decode cX7_addsPoint 76 = .ok (.aload_n 0, 1) := by decide +kernel
theorem dX7_addsPoint_77 : decode cX7_addsPoint 77 = .ok (.getfield 7, 3) := by decide +kernel
theorem dX7_addsPoint_80 : decode cX7_addsPoint 80 = .ok (.iload_n 1, 1) := by decide +kernel
theorem dX7_addsPoint_81 : decode cX7_addsPoint 81 = .ok (.iload 5, 2) := by decide +kernel
theorem dX7_addsPoint_83 : decode cX7_addsPoint 83 = .ok (.invokestatic 43, 3) := by decide +kernel
theorem dX7_addsPoint_86 : decode cX7_addsPoint 86 = .ok (.iload_n 2, 1) := by decide +kernel
theorem dX7_addsPoint_87 : decode cX7_addsPoint 87 = .ok (.iastore, 1) := by decide +kernel
theorem dX7_addsPoint_88 : decode cX7_addsPoint 88 = .ok (.aload_n 0, 1) := by decide +kernel
theorem dX7_addsPoint_89 : decode cX7_addsPoint 89 = .ok (.getfield 7, 3) := by decide +kernel
theorem dX7_addsPoint_92 : decode cX7_addsPoint 92 = .ok (.iload_n 1, 1) := by decide +kernel
theorem dX7_addsPoint_93 : decode cX7_addsPoint 93 = .ok (.iload 5, 2) := by decide +kernel
theorem dX7_addsPoint_95 : decode cX7_addsPoint 95 = .ok (.invokestatic 43, 3) := by decide +kernel
theorem dX7_addsPoint_98 : decode cX7_addsPoint 98 = .ok (.iconst 1, 1) := by decide +kernel
theorem dX7_addsPoint_99 : decode cX7_addsPoint 99 = .ok (.iadd, 1) := by decide +kernel
theorem dX7_addsPoint_100 : decode cX7_addsPoint 100 = .ok (.iload_n 3, 1) := by decide +kernel
theorem dX7_addsPoint_101 : decode cX7_addsPoint 101 = .ok (.iastore, 1) := by decide +kernel
theorem dX7_addsPoint_102 : decode cX7_addsPoint 102 = .ok (.aload_n 0, 1) := by decide +kernel
theorem dX7_addsPoint_103 : decode cX7_addsPoint 103 = .ok (.getfield 7, 3) := by decide +kernel
theorem dX7_addsPoint_106 : decode cX7_addsPoint 106 = .ok (.iload_n 1, 1) := by decide +kernel
theorem dX7_addsPoint_107 : decode cX7_addsPoint 107 = .ok (.iload 5, 2) := by decide +kernel
theorem dX7_addsPoint_109 : decode cX7_addsPoint 109 = .ok (.invokestatic 43, 3) := by decide +kernel
theorem dX7_addsPoint_112 : decode cX7_addsPoint 112 = .ok (.iconst 2, 1) := by decide +kernel
theorem dX7_addsPoint_113 : decode cX7_addsPoint 113 = .ok (.iadd, 1) := by decide +kernel
theorem dX7_addsPoint_114 : decode cX7_addsPoint 114 = .ok (.iload 4, 2) := by decide +kernel
theorem dX7_addsPoint_116 : decode cX7_addsPoint 116 = .ok (.iastore, 1) := by decide +kernel
theorem dX7_addsPoint_117 : decode cX7_addsPoint 117 = .ok (.aload_n 0, 1) := by decide +kernel
theorem dX7_addsPoint_118 : decode cX7_addsPoint 118 = .ok (.getfield 7, 3) := by decide +kernel
theorem dX7_addsPoint_121 : decode cX7_addsPoint 121 = .ok (.bipush 14, 2) := by decide +kernel
theorem dX7_addsPoint_123 : decode cX7_addsPoint 123 = .ok (.bipush 37, 2) := by decide +kernel
theorem dX7_addsPoint_125 : decode cX7_addsPoint 125 = .ok (.iload_n 1, 1) := by decide +kernel
theorem dX7_addsPoint_126 : decode cX7_addsPoint 126 = .ok (.imul, 1) := by decide +kernel
theorem dX7_addsPoint_127 : decode cX7_addsPoint 127 = .ok (.iadd, 1) := by decide +kernel
theorem dX7_addsPoint_128 : decode cX7_addsPoint 128 = .ok (.dup2, 1) := by decide +kernel
theorem dX7_addsPoint_129 : decode cX7_addsPoint 129 = .ok (.iaload, 1) := by decide +kernel
theorem dX7_addsPoint_130 : decode cX7_addsPoint 130 = .ok (.iconst 1, 1) := by decide +kernel
theorem dX7_addsPoint_131 : decode cX7_addsPoint 131 = .ok (.iadd, 1) := by decide +kernel
theorem dX7_addsPoint_132 : decode cX7_addsPoint 132 = .ok (.iastore, 1) := by decide +kernel
theorem dX7_addsPoint_133 : decode cX7_addsPoint 133 = .ok (.iload 5, 2) := by decide +kernel
theorem dX7_addsPoint_135 : decode cX7_addsPoint 135 = .ok (.ireturn, 1) := by decide +kernel
set_option maxRecDepth 20000 in
theorem ggX7_addPoint_X7_notPoint : GoodIn wsX7_addPoint wsX7_notPoint := goodIn_r _ [6, 7, 8, 9, 5, 10, 11, 12, 13, 14, 15, 16, 17, 18, 19, 20, 21, 22, 23, 24, 25, 26, 27, 28, 29, 40, 41, 42, 43, 44, 45, 46, 47, 48, 49, 50, 51, 52, 53, 54, 55, 56, 57, 58] (by decide +kernel) (by decide +kernel)
set_option maxRecDepth 20000 in
theorem gX7_addPoint_X7_notPoint : GoodIn wsX7_addPoint (wsV RX7 72 RX7 yX7_notPoint wsX7_notPoint) := goodIn_app (goodIn_of _ (by decide +kernel)) ggX7_addPoint_X7_notPoint
set_option maxRecDepth 20000 in
theorem ggX7_addPoint_X7_keep : GoodIn wsX7_addPoint wsX7_keep := goodIn_r _ [33, 34, 35, 11, 40, 41, 42, 43, 44, 45, 46, 47, 48, 49, 50, 51, 52, 53, 54, 55, 56, 57, 58] (by decide +kernel) (by decide +kernel)
set_option maxRecDepth 20000 in
theorem gX7_addPoint_X7_keep : GoodIn wsX7_addPoint (wsV RX7 59 RX7 yX7_keep wsX7_keep) := goodIn_app (goodIn_of _ (by decide +kernel)) ggX7_addPoint_X7_keep
set_option maxRecDepth 20000 in
theorem ggX7_addPoint_X7_addsPoint : GoodIn wsX7_addPoint wsX7_addsPoint := goodIn_r _ [39, 11, 15, 16, 17, 5, 18, 23, 24, 25, 26, 27, 28, 29, 40, 41, 42, 43, 44, 45, 46, 47, 48, 49, 50, 51, 52, 53, 54, 55, 56, 57, 58] (by decide +kernel) (by decide +kernel)
set_option maxRecDepth 20000 in
theorem gX7_addPoint_X7_addsPoint : GoodIn wsX7_addPoint (wsV RX7 76 RX7 yX7_addsPoint wsX7_addsPoint) := goodIn_app (goodIn_of _ (by decide +kernel)) ggX7_addPoint_X7_addsPoint
theorem dX7_addPoint_0 : decode cX7_addPoint 0 = .ok (.aload_n 0, 1) := by decide +kernel
theorem dX7_addPoint_1 : decode cX7_addPoint 1 = .ok (.aload_n 0, 1) := by decide +kernel
theorem dX7_addPoint_2 : decode cX7_addPoint 2 = .ok (.iload_n 1, 1) := by decide +kernel
theorem dX7_addPoint_3 : decode cX7_addPoint 3 = .ok (.iload_n 2, 1) := by decide +kernel
theorem dX7_addPoint_4 : decode cX7_addPoint 4 = .ok (.iload_n 3, 1) := by decide +kernel
theorem dX7_addPoint_5 : decode cX7_addPoint 5 = .ok (.iload 4, 2) := by decide +kernel
theorem dX7_addPoint_7 : decode cX7_addPoint 7 = .ok (.invokevirtual 72, 3) := by decide +kernel
theorem dX7_addPoint_10 : decode cX7_addPoint 10 = .ok (.putfield 31, 3) := by decide +kernel
theorem dX7_addPoint_13 : decode cX7_addPoint 13 = .ok (.aload_n 0, 1) := by decide +kernel
theorem dX7_addPoint_14 : decode cX7_addPoint 14 = .ok (.getfield 31, 3) := by decide +kernel
theorem dX7_addPoint_17 : decode cX7_addPoint 17 = .ok (.ifCond .eq 5, 3) := by decide +kernel
theorem dX7_addPoint_20 : decode cX7_addPoint 20 = .ok (.iconst 0, 1) := by decide +kernel
theorem dX7_addPoint_21 : decode cX7_addPoint 21 = .ok (.ireturn, 1) := by decide +kernel
theorem dX7_addPoint_22 : decode cX7_addPoint 22 = .ok (.aload_n 0, 1) := by decide +kernel
theorem dX7_addPoint_23 : decode cX7_addPoint 23 = .ok (.invokevirtual 59, 3) := by decide +kernel
theorem dX7_addPoint_26 : decode cX7_addPoint 26 = .ok (.aload_n 0, 1) := by decide +kernel
theorem dX7_addPoint_27 : decode cX7_addPoint 27 = .ok (.iload_n 1, 1) := by decide +kernel
theorem dX7_addPoint_28 : decode cX7_addPoint 28 = .ok (.iload_n 2, 1) := by decide +kernel
theorem dX7_addPoint_29 : decode cX7_addPoint 29 = .ok (.iload_n 3, 1) := by decide +kernel
theorem dX7_addPoint_30 : decode cX7_addPoint 30 = .ok (.iload 4, 2) := by decide +kernel
theorem dX7_addPoint_32 : decode cX7_addPoint 32 = .ok (.invokevirtual 76, 3) := by decide +kernel
theorem dX7_addPoint_35 : decode cX7_addPoint 35 = .ok (.ireturn, 1) := by decide +kernel
set_option maxRecDepth 20000 in
theorem ggX7_removePoint_X7_isPoint : GoodIn wsX7_removePoint wsX7_isPoint := goodIn_r _ [7, 8, 9, 10, 6, 11, 2, 12, 13, 14, 15, 16, 17, 18, 28, 29, 30, 31, 32, 33, 34, 35, 36, 37, 38, 39, 40, 41, 42, 43, 44, 45, 46] (by decide +kernel) (by decide +kernel)
set_option maxRecDepth 20000 in
theorem gX7_removePoint_X7_isPoint : GoodIn wsX7_removePoint (wsV RX7 79 RX7 yX7_isPoint wsX7_isPoint) := goodIn_app (goodIn_of _ (by decide +kernel)) ggX7_removePoint_X7_isPoint
set_option maxRecDepth 20000 in
theorem ggX7_removePoint_X7_keep : GoodIn wsX7_removePoint wsX7_keep := goodIn_r _ [22, 23, 24, 2, 28, 29, 30, 31, 32, 33, 34, 35, 36, 37, 38, 39, 40, 41, 42, 43, 44, 45, 46] (by decide +kernel) (by decide +kernel)
set_option maxRecDepth 20000 in
theorem gX7_removePoint_X7_keep : GoodIn wsX7_removePoint (wsV RX7 59 RX7 yX7_keep wsX7_keep) := goodIn_app (goodIn_of _ (by decide +kernel)) ggX7_removePoint_X7_keep
set_option maxRecDepth 20000 in
theorem ggX7_removePoint_X7_cellOf : GoodIn wsX7_removePoint wsX7_cellOf := goodIn_r _ [27] (by decide +kernel) (by decide +kernel)
set_option maxRecDepth 20000 in
theorem gX7_removePoint_X7_cellOf : GoodIn wsX7_removePoint (va_wsS RX7 43 yX7_cellOf wsX7_cellOf) := goodIn_app (goodIn_of _ (by decide +kernel)) ggX7_removePoint_X7_cellOf
set_option maxRecDepth 20000 in
theorem ggX7_removePoint_X7_points : GoodIn wsX7_removePoint wsX7_points := goodIn_r _ [18, 2, 28, 29, 30, 31, 32, 33, 34, 35, 36, 37, 38, 39, 40, 41, 42, 43, 44, 45, 46] (by decide +kernel) (by decide +kernel)
set_option maxRecDepth 20000 in
theorem gX7_removePoint_X7_points : GoodIn wsX7_removePoint (wsV RX7 51 RX7 yX7_points wsX7_points) := goodIn_app (goodIn_of _ (by decide +kernel)) ggX7_removePoint_X7_points
theorem dX7_removePoint_0 : decode cX7_removePoint 0 = .ok (.aload_n 0, 1) := by decide +kernel
theorem dX7_removePoint_1 : decode cX7_removePoint 1 = .ok (.aload_n 0, 1) := by decide +kernel
theorem dX7_removePoint_2 : decode cX7_removePoint 2 = .ok (.iload_n 1, 1) := by decide +kernel
theorem dX7_removePoint_3 : decode cX7_removePoint 3 = .ok (.iload_n 2, 1) := by decide +kernel
theorem dX7_removePoint_4 : decode cX7_removePoint 4 = .ok (.invokevirtual 79, 3) := by decide +kernel
theorem dX7_removePoint_7 : decode cX7_removePoint 7 = .ok (.ifCond .eq 7, 3) := by decide +kernel
theorem dX7_removePoint_10 : decode cX7_removePoint 10 = .ok (.iconst 0, 1) := by decide +kernel
theorem dX7_removePoint_11 : decode cX7_removePoint 11 = .ok (.goto 4, 3) := by decide +kernel
theorem dX7_removePoint_14 : decode cX7_removePoint 14 = .ok (.iconst 1, 1) := by decide +kernel
theorem dX7_removePoint_15 : decode cX7_removePoint 15 = .ok (.putfield 31, 3) := by decide +kernel
theorem dX7_removePoint_18 : decode cX7_removePoint 18 = .ok (.aload_n 0, 1) := by decide +kernel
theorem dX7_removePoint_19 : decode cX7_removePoint 19 = .ok (.getfield 31, 3) := by decide +kernel
theorem dX7_removePoint_22 : decode cX7_removePoint 22 = .ok (.ifCond .eq 5, 3) := by decide +kernel
theorem dX7_removePoint_25 : decode cX7_removePoint 25 = .ok (.iconst 0, 1) := by decide +kernel
theorem dX7_removePoint_26 : decode cX7_removePoint 26 = .ok (.ireturn, 1) := by decide +kernel
theorem dX7_removePoint_27 : decode cX7_removePoint 27 = .ok (.aload_n 0, 1) := by decide +kernel
theorem dX7_removePoint_28 : decode cX7_removePoint 28 = .ok (.invokevirtual 59, 3) := by decide +kernel
theorem dX7_removePoint_31 : decode cX7_removePoint 31 = .ok (.aload_n 0, 1) := by decide +kernel
theorem dX7_removePoint_32 : decode cX7_removePoint 32 = .ok (.getfield 7, 3) := by decide +kernel
theorem dX7_removePoint_35 : decode cX7_removePoint 35 = .ok (.bipush 14, 2) := by decide +kernel
theorem dX7_removePoint_37 : decode cX7_removePoint 37 = .ok (.bipush 37, 2) := by decide +kernel
theorem dX7_removePoint_39 : decode cX7_removePoint 39 = .ok (.iload_n 1, 1) := by decide +kernel
theorem dX7_removePoint_40 : decode cX7_removePoint 40 = .ok (.imul, 1) := by decide +kernel
theorem dX7_removePoint_41 : decode cX7_removePoint 41 = .ok (.iadd, 1) := by decide +kernel
theorem dX7_removePoint_42 : decode cX7_removePoint 42 = .ok (.dup2, 1) := by decide +kernel
theorem dX7_removePoint_43 : decode cX7_removePoint 43 = .ok (.iaload, 1) := by decide +kernel
theorem dX7_removePoint_44 : decode cX7_removePoint 44 = .ok (.iconst 1, 1) := by decide +kernel
theorem dX7_removePoint_45 : decode cX7_removePoint 45 = .ok (.isub, 1) := by decide +kernel
theorem dX7_removePoint_46 : decode cX7_removePoint 46 = .ok (.iastore, 1) := by decide +kernel
theorem dX7_removePoint_47 : decode cX7_removePoint 47 = .ok (.iload_n 1, 1) := by decide +kernel
theorem dX7_removePoint_48 : decode cX7_removePoint 48 = .ok (.iload_n 2, 1) := by decide +kernel
theorem dX7_removePoint_49 : decode cX7_removePoint 49 = .ok (.invokestatic 43, 3) := by decide +kernel
theorem dX7_removePoint_52 : decode cX7_removePoint 52 = .ok (.istore_n 3, 1) := by decide +kernel
theorem dX7_removePoint_53 : decode cX7_removePoint 53 = .ok (.iload_n 3, 1) := by decide +kernel
theorem dX7_removePoint_54 : decode cX7_removePoint 54 = .ok (.iload_n 1, 1) := by decide +kernel
theorem dX7_removePoint_55 : decode cX7_removePoint 55 = .ok (.aload_n 0, 1) := by decide +kernel
theorem dX7_removePoint_56 : decode cX7_removePoint 56 = .ok (.iload_n 1, 1) := by decide +kernel
theorem dX7_removePoint_57 : decode cX7_removePoint 57 = .ok (.invokevirtual 51, 3) := by decide +kernel
theorem dX7_removePoint_60 : decode cX7_removePoint 60 = .ok (.invokestatic 43, 3) := by decide +kernel
theorem dX7_removePoint_63 : decode cX7_removePoint 63 = .ok (.if_icmp .ge 23, 3) := by decide +kernel
theorem dX7_removePoint_66 : decode cX7_removePoint 66 = .ok (.aload_n 0, 1) := by decide +kernel
theorem dX7_removePoint_67 : decode cX7_removePoint 67 = .ok (.getfield 7, 3) := by decide +kernel
theorem dX7_removePoint_70 : decode cX7_removePoint 70 = .ok (.iload_n 3, 1) := by decide +kernel
theorem dX7_removePoint_71 : decode cX7_removePoint 71 = .ok (.aload_n 0, 1) := by decide +kernel
theorem dX7_removePoint_72 : decode cX7_removePoint 72 = .ok (.getfield 7, 3) := by decide +kernel
theorem dX7_removePoint_75 : decode cX7_removePoint 75 = .ok (.iload_n 3, 1) := by decide +kernel
theorem dX7_removePoint_76 : decode cX7_removePoint 76 = .ok (.iconst 3, 1) := by decide +kernel
theorem dX7_removePoint_77 : decode cX7_removePoint 77 = .ok (.iadd, 1) := by decide +kernel
theorem dX7_removePoint_78 : decode cX7_removePoint 78 = .ok (.iaload, 1) := by decide +kernel
theorem dX7_removePoint_79 : decode cX7_removePoint 79 = .ok (.iastore, 1) := by decide +kernel
theorem dX7_removePoint_80 : decode cX7_removePoint 80 = .ok (.iinc 3 1, 3) := by decide +kernel
theorem dX7_removePoint_83 : decode cX7_removePoint 83 = .ok (.goto (-30), 3) := by decide +kernel
theorem dX7_removePoint_86 : decode cX7_removePoint 86 = .ok (.aload_n 0, 1) := by decide +kernel
theorem dX7_removePoint_87 : decode cX7_removePoint 87 = .ok (.iload_n 1, 1) := by decide +kernel
theorem dX7_removePoint_88 : decode cX7_removePoint 88 = .ok (.invokevirtual 51, 3) := by decide +kernel
theorem dX7_removePoint_91 : decode cX7_removePoint 91 = .ok (.ireturn, 1) := by decide +kernel
set_option maxRecDepth 20000 in
theorem ggX7_isSetting_X7_in : GoodIn wsX7_isSetting wsX7_in := goodIn_r _ [7] (by decide +kernel) (by decide +kernel)
set_option maxRecDepth 20000 in
theorem gX7_isSetting_X7_in : GoodIn wsX7_isSetting (va_wsS RX7 39 yX7_in wsX7_in) := goodIn_app (goodIn_of _ (by decide +kernel)) ggX7_isSetting_X7_in
set_option maxRecDepth 20000 in
theorem ggX7_isSetting_X7_isDrift : GoodIn wsX7_isSetting wsX7_isDrift := goodIn_r _ [10, 4, 5, 6, 7] (by decide +kernel) (by decide +kernel)
set_option maxRecDepth 20000 in
theorem gX7_isSetting_X7_isDrift : GoodIn wsX7_isSetting (va_wsS RX7 82 yX7_isDrift wsX7_isDrift) := goodIn_app (goodIn_of _ (by decide +kernel)) ggX7_isSetting_X7_isDrift
theorem dX7_isSetting_0 : decode cX7_isSetting 0 = .ok (.iload_n 0, 1) := by decide +kernel
theorem dX7_isSetting_1 : decode cX7_isSetting 1 = .ok (.tableswitch 118 0 8 #[51, 62, 62, 67, 76, 84, 93, 102, 110], 51) := by decide +kernel
theorem dX7_isSetting_52 : decode cX7_isSetting 52 = .ok (.iload_n 1, 1) := by decide +kernel
theorem dX7_isSetting_53 : decode cX7_isSetting 53 = .ok (.sipush (-5000), 3) := by decide +kernel
theorem dX7_isSetting_56 : decode cX7_isSetting 56 = .ok (.sipush 5000, 3) := by decide +kernel
theorem dX7_isSetting_59 : decode cX7_isSetting 59 = .ok (.invokestatic 39, 3) := by decide +kernel
theorem dX7_isSetting_62 : decode cX7_isSetting 62 = .ok (.ireturn, 1) := by decide +kernel
theorem dX7_isSetting_63 : decode cX7_isSetting 63 = .ok (.iload_n 1, 1) := by decide +kernel
theorem dX7_isSetting_64 : decode cX7_isSetting 64 = .ok (.invokestatic 82, 3) := by decide +kernel
theorem dX7_isSetting_67 : decode cX7_isSetting 67 = .ok (.ireturn, 1) := by decide +kernel
theorem dX7_isSetting_68 : decode cX7_isSetting 68 = .ok (.iload_n 1, 1) := by decide +kernel
theorem dX7_isSetting_69 : decode cX7_isSetting 69 = .ok (.iconst 0, 1) := by decide +kernel
theorem dX7_isSetting_70 : decode cX7_isSetting 70 = .ok (.sipush 500, 3) := by decide +kernel
theorem dX7_isSetting_73 : decode cX7_isSetting 73 = .ok (.invokestatic 39, 3) := by decide +kernel
theorem dX7_isSetting_76 : decode cX7_isSetting 76 = .ok (.ireturn, 1) := by decide +kernel
theorem dX7_isSetting_77 : decode cX7_isSetting 77 = .ok (.iload_n 1, 1) := by decide +kernel
theorem dX7_isSetting_78 : decode cX7_isSetting 78 = .ok (.iconst 0, 1) := by decide +kernel
theorem dX7_isSetting_79 : decode cX7_isSetting 79 = .ok (.ldc 85, 2) := by decide +kernel
theorem dX7_isSetting_81 : decode cX7_isSetting 81 = .ok (.invokestatic 39, 3) := by decide +kernel
theorem dX7_isSetting_84 : decode cX7_isSetting 84 = .ok (.ireturn, 1) := by decide +kernel
theorem dX7_isSetting_85 : decode cX7_isSetting 85 = .ok (.iload_n 1, 1) := by decide +kernel
theorem dX7_isSetting_86 : decode cX7_isSetting 86 = .ok (.iconst 0, 1) := by decide +kernel
theorem dX7_isSetting_87 : decode cX7_isSetting 87 = .ok (.sipush 5000, 3) := by decide +kernel
theorem dX7_isSetting_90 : decode cX7_isSetting 90 = .ok (.invokestatic 39, 3) := by decide +kernel
theorem dX7_isSetting_93 : decode cX7_isSetting 93 = .ok (.ireturn, 1) := by decide +kernel
theorem dX7_isSetting_94 : decode cX7_isSetting 94 = .ok (.iload_n 1, 1) := by decide +kernel
theorem dX7_isSetting_95 : decode cX7_isSetting 95 = .ok (.iconst 1, 1) := by decide +kernel
theorem dX7_isSetting_96 : decode cX7_isSetting 96 = .ok (.sipush 1000, 3) := by decide +kernel
theorem dX7_isSetting_99 : decode cX7_isSetting 99 = .ok (.invokestatic 39, 3) := by decide +kernel
theorem dX7_isSetting_102 : decode cX7_isSetting 102 = .ok (.ireturn, 1) := by decide +kernel
theorem dX7_isSetting_103 : decode cX7_isSetting 103 = .ok (.iload_n 1, 1) := by decide +kernel
theorem dX7_isSetting_104 : decode cX7_isSetting 104 = .ok (.iconst 1, 1) := by decide +kernel
theorem dX7_isSetting_105 : decode cX7_isSetting 105 = .ok (.ldc 86, 2) := by decide +kernel
theorem dX7_isSetting_107 : decode cX7_isSetting 107 = .ok (.invokestatic 39, 3) := by decide +kernel
theorem dX7_isSetting_110 : decode cX7_isSetting 110 = .ok (.ireturn, 1) := by decide +kernel
theorem dX7_isSetting_111 : decode cX7_isSetting 111 = .ok (.iload_n 1, 1) := by decide +kernel
theorem dX7_isSetting_112 : decode cX7_isSetting 112 = .ok (.iconst 0, 1) := by decide +kernel
theorem dX7_isSetting_113 : decode cX7_isSetting 113 = .ok (.ldc 87, 2) := by decide +kernel
theorem dX7_isSetting_115 : decode cX7_isSetting 115 = .ok (.invokestatic 39, 3) := by decide +kernel
theorem dX7_isSetting_118 : decode cX7_isSetting 118 = .ok (.ireturn, 1) := by decide +kernel
theorem dX7_isSetting_119 : decode cX7_isSetting 119 = .ok (.iload_n 0, 1) := by decide +kernel
theorem dX7_isSetting_120 : decode cX7_isSetting 120 = .ok (.bipush 9, 2) := by decide +kernel
theorem dX7_isSetting_122 : decode cX7_isSetting 122 = .ok (.if_icmp .ne 17, 3) := by decide +kernel
theorem dX7_isSetting_125 : decode cX7_isSetting 125 = .ok (.iload_n 1, 1) := by decide +kernel
theorem dX7_isSetting_126 : decode cX7_isSetting 126 = .ok (.iconst 0, 1) := by decide +kernel
theorem dX7_isSetting_127 : decode cX7_isSetting 127 = .ok (.bipush 9, 2) := by decide +kernel
theorem dX7_isSetting_129 : decode cX7_isSetting 129 = .ok (.invokestatic 39, 3) := by decide +kernel
theorem dX7_isSetting_132 : decode cX7_isSetting 132 = .ok (.ifCond .eq 7, 3) := by decide +kernel
theorem dX7_isSetting_135 : decode cX7_isSetting 135 = .ok (.iconst 1, 1) := by decide +kernel
theorem dX7_isSetting_136 : decode cX7_isSetting 136 = .ok (.goto 4, 3) := by decide +kernel
theorem dX7_isSetting_139 : decode cX7_isSetting 139 = .ok (.iconst 0, 1) := by decide +kernel
theorem dX7_isSetting_140 : decode cX7_isSetting 140 = .ok (.ireturn, 1) := by decide +kernel
set_option maxRecDepth 20000 in
theorem ggX7_isDrift_X7_in : GoodIn wsX7_isDrift wsX7_in := goodIn_r _ [4] (by decide +kernel) (by decide +kernel)
set_option maxRecDepth 20000 in
theorem gX7_isDrift_X7_in : GoodIn wsX7_isDrift (va_wsS RX7 39 yX7_in wsX7_in) := goodIn_app (goodIn_of _ (by decide +kernel)) ggX7_isDrift_X7_in
theorem dX7_isDrift_0 : decode cX7_isDrift 0 = .ok (.iload_n 0, 1) := by decide +kernel
theorem dX7_isDrift_1 : decode cX7_isDrift 1 = .ok (.bipush (-100), 2) := by decide +kernel
theorem dX7_isDrift_3 : decode cX7_isDrift 3 = .ok (.bipush 100, 2) := by decide +kernel
theorem dX7_isDrift_5 : decode cX7_isDrift 5 = .ok (.invokestatic 39, 3) := by decide +kernel
theorem dX7_isDrift_8 : decode cX7_isDrift 8 = .ok (.ireturn, 1) := by decide +kernel
set_option maxRecDepth 20000 in
theorem ggX7_notSet_X7_isSetting : GoodIn wsX7_notSet wsX7_isSetting := goodIn_r _ [4, 5, 6, 7, 8, 9, 3, 10, 11, 12, 13] (by decide +kernel) (by decide +kernel)
set_option maxRecDepth 20000 in
theorem gX7_notSet_X7_isSetting : GoodIn wsX7_notSet (va_wsS RX7 88 yX7_isSetting wsX7_isSetting) := goodIn_app (goodIn_of _ (by decide +kernel)) ggX7_notSet_X7_isSetting
theorem dX7_notSet_0 : decode cX7_notSet 0 = .ok (.iload_n 0, 1) := by decide +kernel
theorem dX7_notSet_1 : decode cX7_notSet 1 = .ok (.iload_n 1, 1) := by decide +kernel
theorem dX7_notSet_2 : decode cX7_notSet 2 = .ok (.invokestatic 88, 3) := by decide +kernel
theorem dX7_notSet_5 : decode cX7_notSet 5 = .ok (.ifCond .eq 7, 3) := by decide +kernel
theorem dX7_notSet_8 : decode cX7_notSet 8 = .ok (.iconst 0, 1) := by decide +kernel
theorem dX7_notSet_9 : decode cX7_notSet 9 = .ok (.goto 4, 3) := by decide +kernel
theorem dX7_notSet_12 : decode cX7_notSet 12 = .ok (.iconst 2, 1) := by decide +kernel
theorem dX7_notSet_13 : decode cX7_notSet 13 = .ok (.ireturn, 1) := by decide +kernel
theorem dX7_sets_0 : decode cX7_sets 0 = .ok (.aload_n 0, 1) := by decide +kernel
theorem dX7_sets_1 : decode cX7_sets 1 = .ok (.getfield 7, 3) := by decide +kernel
theorem dX7_sets_4 : decode cX7_sets 4 = .ok (.iload_n 1, 1) := by decide +kernel
theorem dX7_sets_5 : decode cX7_sets 5 = .ok (.iaload, 1) := by decide +kernel
theorem dX7_sets_6 : decode cX7_sets 6 = .ok (.istore_n 3, 1) := by decide +kernel
theorem dX7_sets_7 : decode cX7_sets 7 = .ok (.aload_n 0, 1) := by decide +kernel
theorem dX7_sets_8 : decode cX7_sets 8 = .ok (.getfield 7, 3) := by decide +kernel
theorem dX7_sets_11 : decode cX7_sets 11 = .ok (.iload_n 1, 1) := by decide +kernel
theorem dX7_sets_12 : decode cX7_sets 12 = .ok (.iload_n 2, 1) := by decide +kernel
theorem dX7_sets_13 : decode cX7_sets 13 = .ok (.iastore, 1) := by decide +kernel
theorem dX7_sets_14 : decode cX7_sets 14 = .ok (.iload_n 3, 1) := by decide +kernel
theorem dX7_sets_15 : decode cX7_sets 15 = .ok (.ireturn, 1) := by decide +kernel
set_option maxRecDepth 20000 in
theorem ggX7_set_X7_notSet : GoodIn wsX7_set wsX7_notSet := goodIn_r _ [5, 6, 7, 4, 8, 9, 10, 11, 12, 13, 14, 15, 16, 17] (by decide +kernel) (by decide +kernel)
set_option maxRecDepth 20000 in
theorem gX7_set_X7_notSet : GoodIn wsX7_set (va_wsS RX7 91 yX7_notSet wsX7_notSet) := goodIn_app (goodIn_of _ (by decide +kernel)) ggX7_set_X7_notSet
set_option maxRecDepth 20000 in
theorem ggX7_set_X7_keep : GoodIn wsX7_set wsX7_keep := goodIn_r _ [21, 22, 23, 24, 29, 30, 31, 32, 33, 34, 35, 36, 37, 38, 39, 40, 41, 42, 43, 44, 45, 46, 47] (by decide +kernel) (by decide +kernel)
set_option maxRecDepth 20000 in
theorem gX7_set_X7_keep : GoodIn wsX7_set (wsV RX7 59 RX7 yX7_keep wsX7_keep) := goodIn_app (goodIn_of _ (by decide +kernel)) ggX7_set_X7_keep
set_option maxRecDepth 20000 in
theorem ggX7_set_X7_sets : GoodIn wsX7_set wsX7_sets := goodIn_r _ [28, 24, 29, 30, 31, 32, 33, 34, 35, 36, 37, 38, 39, 40, 41, 42, 43, 44, 45, 46, 47] (by decide +kernel) (by decide +kernel)
set_option maxRecDepth 20000 in
theorem gX7_set_X7_sets : GoodIn wsX7_set (wsV RX7 94 RX7 yX7_sets wsX7_sets) := goodIn_app (goodIn_of _ (by decide +kernel)) ggX7_set_X7_sets
theorem dX7_set_0 : decode cX7_set 0 = .ok (.aload_n 0, 1) := by decide +kernel
theorem dX7_set_1 : decode cX7_set 1 = .ok (.iload_n 1, 1) := by decide +kernel
theorem dX7_set_2 : decode cX7_set 2 = .ok (.iload_n 2, 1) := by decide +kernel
theorem dX7_set_3 : decode cX7_set 3 = .ok (.invokestatic 91, 3) := by decide +kernel
theorem dX7_set_6 : decode cX7_set 6 = .ok (.ifCond .ne 7, 3) := by decide +kernel
theorem dX7_set_9 : decode cX7_set 9 = .ok (.iconst 0, 1) := by decide +kernel
theorem dX7_set_10 : decode cX7_set 10 = .ok (.goto 4, 3) := by decide +kernel
theorem dX7_set_13 : decode cX7_set 13 = .ok (.iconst 1, 1) := by decide +kernel
theorem dX7_set_14 : decode cX7_set 14 = .ok (.putfield 31, 3) := by decide +kernel
theorem dX7_set_17 : decode cX7_set 17 = .ok (.aload_n 0, 1) := by decide +kernel
theorem dX7_set_18 : decode cX7_set 18 = .ok (.getfield 31, 3) := by decide +kernel
theorem dX7_set_21 : decode cX7_set 21 = .ok (.ifCond .eq 5, 3) := by decide +kernel
theorem dX7_set_24 : decode cX7_set 24 = .ok (.iconst 0, 1) := by decide +kernel
theorem dX7_set_25 : decode cX7_set 25 = .ok (.ireturn, 1) := by decide +kernel
theorem dX7_set_26 : decode cX7_set 26 = .ok (.aload_n 0, 1) := by decide +kernel
theorem dX7_set_27 : decode cX7_set 27 = .ok (.invokevirtual 59, 3) := by decide +kernel
theorem dX7_set_30 : decode cX7_set 30 = .ok (.aload_n 0, 1) := by decide +kernel
theorem dX7_set_31 : decode cX7_set 31 = .ok (.iload_n 1, 1) := by decide +kernel
theorem dX7_set_32 : decode cX7_set 32 = .ok (.iload_n 2, 1) := by decide +kernel
theorem dX7_set_33 : decode cX7_set 33 = .ok (.invokevirtual 94, 3) := by decide +kernel
theorem dX7_set_36 : decode cX7_set 36 = .ok (.ireturn, 1) := by decide +kernel
set_option maxRecDepth 20000 in
theorem ggX7_isPole_X7_in : GoodIn wsX7_isPole wsX7_in := goodIn_r _ [4] (by decide +kernel) (by decide +kernel)
set_option maxRecDepth 20000 in
theorem gX7_isPole_X7_in : GoodIn wsX7_isPole (va_wsS RX7 39 yX7_in wsX7_in) := goodIn_app (goodIn_of _ (by decide +kernel)) ggX7_isPole_X7_in
theorem dX7_isPole_0 : decode cX7_isPole 0 = .ok (.iload_n 0, 1) := by decide +kernel
theorem dX7_isPole_1 : decode cX7_isPole 1 = .ok (.sipush (-2000), 3) := by decide +kernel
theorem dX7_isPole_4 : decode cX7_isPole 4 = .ok (.sipush 6000, 3) := by decide +kernel
theorem dX7_isPole_7 : decode cX7_isPole 7 = .ok (.invokestatic 39, 3) := by decide +kernel
theorem dX7_isPole_10 : decode cX7_isPole 10 = .ok (.ifCond .eq 20, 3) := by decide +kernel
theorem dX7_isPole_13 : decode cX7_isPole 13 = .ok (.iload_n 1, 1) := by decide +kernel
theorem dX7_isPole_14 : decode cX7_isPole 14 = .ok (.sipush (-2000), 3) := by decide +kernel
theorem dX7_isPole_17 : decode cX7_isPole 17 = .ok (.sipush 6000, 3) := by decide +kernel
theorem dX7_isPole_20 : decode cX7_isPole 20 = .ok (.invokestatic 39, 3) := by decide +kernel
theorem dX7_isPole_23 : decode cX7_isPole 23 = .ok (.ifCond .eq 7, 3) := by decide +kernel
theorem dX7_isPole_26 : decode cX7_isPole 26 = .ok (.iconst 1, 1) := by decide +kernel
theorem dX7_isPole_27 : decode cX7_isPole 27 = .ok (.goto 4, 3) := by decide +kernel
theorem dX7_isPole_30 : decode cX7_isPole 30 = .ok (.iconst 0, 1) := by decide +kernel
theorem dX7_isPole_31 : decode cX7_isPole 31 = .ok (.ireturn, 1) := by decide +kernel
set_option maxRecDepth 20000 in
theorem ggX7_notPole_X7_isPole : GoodIn wsX7_notPole wsX7_isPole := goodIn_r _ [4, 5, 6, 3, 7] (by decide +kernel) (by decide +kernel)
set_option maxRecDepth 20000 in
theorem gX7_notPole_X7_isPole : GoodIn wsX7_notPole (va_wsS RX7 97 yX7_isPole wsX7_isPole) := goodIn_app (goodIn_of _ (by decide +kernel)) ggX7_notPole_X7_isPole
theorem dX7_notPole_0 : decode cX7_notPole 0 = .ok (.iload_n 0, 1) := by decide +kernel
theorem dX7_notPole_1 : decode cX7_notPole 1 = .ok (.iload_n 1, 1) := by decide +kernel
theorem dX7_notPole_2 : decode cX7_notPole 2 = .ok (.invokestatic 97, 3) := by decide +kernel
theorem dX7_notPole_5 : decode cX7_notPole 5 = .ok (.ifCond .eq 7, 3) := by decide +kernel
theorem dX7_notPole_8 : decode cX7_notPole 8 = .ok (.iconst 0, 1) := by decide +kernel
theorem dX7_notPole_9 : decode cX7_notPole 9 = .ok (.goto 4, 3) := by decide +kernel
theorem dX7_notPole_12 : decode cX7_notPole 12 = .ok (.iconst 2, 1) := by decide +kernel
theorem dX7_notPole_13 : decode cX7_notPole 13 = .ok (.ireturn, 1) := by decide +kernel
set_option maxRecDepth 20000 in
theorem ggX7_setsPole_X7_plateCost : GoodIn wsX7_setsPole wsX7_plateCost := goodIn_r _ [6, 1, 7, 8, 9, 5, 10, 11, 12, 13, 14, 15, 16, 17, 18, 19, 20, 21, 22, 23, 24, 25, 26, 27, 28, 29, 30, 31, 32, 33, 34, 35, 36, 37, 38, 39, 40, 41, 42, 43, 44, 45, 46, 47, 48, 49, 50, 51, 52, 53, 54, 55, 56, 57, 58] (by decide +kernel) (by decide +kernel)
set_option maxRecDepth 20000 in
theorem gX7_setsPole_X7_plateCost : GoodIn wsX7_setsPole (wsV RX7 100 RX7 yX7_plateCost wsX7_plateCost) := goodIn_app (goodIn_of _ (by decide +kernel)) ggX7_setsPole_X7_plateCost
theorem dX7_setsPole_0 : decode cX7_setsPole 0 = .ok (.aload_n 0, 1) := by decide +kernel
theorem dX7_setsPole_1 : decode cX7_setsPole 1 = .ok (.getfield 7, 3) := by decide +kernel
theorem dX7_setsPole_4 : decode cX7_setsPole 4 = .ok (.bipush 10, 2) := by decide +kernel
theorem dX7_setsPole_6 : decode cX7_setsPole 6 = .ok (.iload_n 1, 1) := by decide +kernel
theorem dX7_setsPole_7 : decode cX7_setsPole 7 = .ok (.iastore, 1) := by decide +kernel
theorem dX7_setsPole_8 : decode cX7_setsPole 8 = .ok (.aload_n 0, 1) := by decide +kernel
theorem dX7_setsPole_9 : decode cX7_setsPole 9 = .ok (.getfield 7, 3) := by decide +kernel
theorem dX7_setsPole_12 : decode cX7_setsPole 12 = .ok (.bipush 11, 2) := by decide +kernel
theorem dX7_setsPole_14 : decode cX7_setsPole 14 = .ok (.iload_n 2, 1) := by decide +kernel
theorem dX7_setsPole_15 : decode cX7_setsPole 15 = .ok (.iastore, 1) := by decide +kernel
theorem dX7_setsPole_16 : decode cX7_setsPole 16 = .ok (.aload_n 0, 1) := by decide +kernel
theorem dX7_setsPole_17 : decode cX7_setsPole 17 = .ok (.invokevirtual 100, 3) := by decide +kernel
theorem dX7_setsPole_20 : decode cX7_setsPole 20 = .ok (.ireturn, 1) := by decide +kernel
set_option maxRecDepth 20000 in
theorem ggX7_setPole_X7_notPole : GoodIn wsX7_setPole wsX7_notPole := goodIn_r _ [5, 6, 7, 4, 8, 9, 10, 11] (by decide +kernel) (by decide +kernel)
set_option maxRecDepth 20000 in
theorem gX7_setPole_X7_notPole : GoodIn wsX7_setPole (va_wsS RX7 103 yX7_notPole wsX7_notPole) := goodIn_app (goodIn_of _ (by decide +kernel)) ggX7_setPole_X7_notPole
set_option maxRecDepth 20000 in
theorem ggX7_setPole_X7_keep : GoodIn wsX7_setPole wsX7_keep := goodIn_r _ [15, 16, 17, 18, 60, 61, 62, 63, 64, 65, 66, 67, 68, 69, 70, 71, 72, 73, 74, 75, 76, 77, 78] (by decide +kernel) (by decide +kernel)
set_option maxRecDepth 20000 in
theorem gX7_setPole_X7_keep : GoodIn wsX7_setPole (wsV RX7 59 RX7 yX7_keep wsX7_keep) := goodIn_app (goodIn_of _ (by decide +kernel)) ggX7_setPole_X7_keep
set_option maxRecDepth 20000 in
theorem ggX7_setPole_X7_setsPole : GoodIn wsX7_setPole wsX7_setsPole := goodIn_r _ [22, 18, 23, 24, 25, 4, 26, 27, 28, 29, 30, 31, 32, 33, 34, 35, 36, 37, 38, 39, 40, 41, 42, 43, 44, 45, 46, 47, 48, 49, 50, 51, 52, 53, 54, 55, 56, 57, 58, 59, 60, 61, 62, 63, 64, 65, 66, 67, 68, 69, 70, 71, 72, 73, 74, 75, 76, 77, 78] (by decide +kernel) (by decide +kernel)
set_option maxRecDepth 20000 in
theorem gX7_setPole_X7_setsPole : GoodIn wsX7_setPole (wsV RX7 106 RX7 yX7_setsPole wsX7_setsPole) := goodIn_app (goodIn_of _ (by decide +kernel)) ggX7_setPole_X7_setsPole
theorem dX7_setPole_0 : decode cX7_setPole 0 = .ok (.aload_n 0, 1) := by decide +kernel
theorem dX7_setPole_1 : decode cX7_setPole 1 = .ok (.iload_n 1, 1) := by decide +kernel
theorem dX7_setPole_2 : decode cX7_setPole 2 = .ok (.iload_n 2, 1) := by decide +kernel
theorem dX7_setPole_3 : decode cX7_setPole 3 = .ok (.invokestatic 103, 3) := by decide +kernel
theorem dX7_setPole_6 : decode cX7_setPole 6 = .ok (.ifCond .ne 7, 3) := by decide +kernel
theorem dX7_setPole_9 : decode cX7_setPole 9 = .ok (.iconst 0, 1) := by decide +kernel
theorem dX7_setPole_10 : decode cX7_setPole 10 = .ok (.goto 4, 3) := by decide +kernel
theorem dX7_setPole_13 : decode cX7_setPole 13 = .ok (.iconst 1, 1) := by decide +kernel
theorem dX7_setPole_14 : decode cX7_setPole 14 = .ok (.putfield 31, 3) := by decide +kernel
theorem dX7_setPole_17 : decode cX7_setPole 17 = .ok (.aload_n 0, 1) := by decide +kernel
theorem dX7_setPole_18 : decode cX7_setPole 18 = .ok (.getfield 31, 3) := by decide +kernel
theorem dX7_setPole_21 : decode cX7_setPole 21 = .ok (.ifCond .eq 5, 3) := by decide +kernel
theorem dX7_setPole_24 : decode cX7_setPole 24 = .ok (.iconst 0, 1) := by decide +kernel
theorem dX7_setPole_25 : decode cX7_setPole 25 = .ok (.ireturn, 1) := by decide +kernel
theorem dX7_setPole_26 : decode cX7_setPole 26 = .ok (.aload_n 0, 1) := by decide +kernel
theorem dX7_setPole_27 : decode cX7_setPole 27 = .ok (.invokevirtual 59, 3) := by decide +kernel
theorem dX7_setPole_30 : decode cX7_setPole 30 = .ok (.aload_n 0, 1) := by decide +kernel
theorem dX7_setPole_31 : decode cX7_setPole 31 = .ok (.iload_n 1, 1) := by decide +kernel
theorem dX7_setPole_32 : decode cX7_setPole 32 = .ok (.iload_n 2, 1) := by decide +kernel
theorem dX7_setPole_33 : decode cX7_setPole 33 = .ok (.invokevirtual 106, 3) := by decide +kernel
theorem dX7_setPole_36 : decode cX7_setPole 36 = .ok (.ireturn, 1) := by decide +kernel
set_option maxRecDepth 20000 in
theorem ggX7_look_X7_isPole : GoodIn wsX7_look wsX7_isPole := goodIn_r _ [9, 10, 11, 8, 12] (by decide +kernel) (by decide +kernel)
set_option maxRecDepth 20000 in
theorem gX7_look_X7_isPole : GoodIn wsX7_look (va_wsS RX7 97 yX7_isPole wsX7_isPole) := goodIn_app (goodIn_of _ (by decide +kernel)) ggX7_look_X7_isPole
set_option maxRecDepth 20000 in
theorem ggX7_look_X7_setsPole : GoodIn wsX7_look wsX7_setsPole := goodIn_r _ [16, 1, 17, 18, 19, 8, 20, 21, 22, 23, 24, 25, 26, 27, 28, 29, 30, 31, 32, 33, 34, 35, 36, 37, 38, 39, 40, 41, 42, 43, 44, 45, 46, 47, 48, 49, 50, 51, 52, 53, 54, 55, 56, 57, 58, 59, 60, 61, 62, 63, 64, 65, 66, 67, 68, 69, 70, 71, 72] (by decide +kernel) (by decide +kernel)
set_option maxRecDepth 20000 in
theorem gX7_look_X7_setsPole : GoodIn wsX7_look (wsV RX7 106 RX7 yX7_setsPole wsX7_setsPole) := goodIn_app (goodIn_of _ (by decide +kernel)) ggX7_look_X7_setsPole
theorem dX7_look_0 : decode cX7_look 0 = .ok (.aload_n 0, 1) := by decide +kernel
theorem dX7_look_1 : decode cX7_look 1 = .ok (.getfield 7, 3) := by decide +kernel
theorem dX7_look_4 : decode cX7_look 4 = .ok (.bipush 10, 2) := by decide +kernel
theorem dX7_look_6 : decode cX7_look 6 = .ok (.iaload, 1) := by decide +kernel
theorem dX7_look_7 : decode cX7_look 7 = .ok (.istore_n 2, 1) := by decide +kernel
theorem dX7_look_8 : decode cX7_look 8 = .ok (.aload_n 0, 1) := by decide +kernel
theorem dX7_look_9 : decode cX7_look 9 = .ok (.getfield 7, 3) := by decide +kernel
theorem dX7_look_12 : decode cX7_look 12 = .ok (.bipush 11, 2) := by decide +kernel
theorem dX7_look_14 : decode cX7_look 14 = .ok (.iaload, 1) := by decide +kernel
theorem dX7_look_15 : decode cX7_look 15 = .ok (.istore_n 3, 1) := by decide +kernel
theorem dX7_look_16 : decode cX7_look 16 = .ok (.aload_n 0, 1) := by decide +kernel
theorem dX7_look_17 : decode cX7_look 17 = .ok (.ldc 109, 2) := by decide +kernel
theorem dX7_look_19 : decode cX7_look 19 = .ok (.putfield 110, 3) := by decide +kernel
theorem dX7_look_22 : decode cX7_look 22 = .ok (.iconst 0, 1) := by decide +kernel
theorem dX7_look_23 : decode cX7_look 23 = .ok (.istore 4, 2) := by decide +kernel
theorem dX7_look_25 : decode cX7_look 25 = .ok (.iload 4, 2) := by decide +kernel
theorem dX7_look_27 : decode cX7_look 27 = .ok (.bipush 9, 2) := by decide +kernel
theorem dX7_look_29 : decode cX7_look 29 = .ok (.if_icmp .ge 138, 3) := by decide +kernel
theorem dX7_look_32 : decode cX7_look 32 = .ok (.iload_n 2, 1) := by decide +kernel
theorem dX7_look_33 : decode cX7_look 33 = .ok (.iload 4, 2) := by decide +kernel
theorem dX7_look_35 : decode cX7_look 35 = .ok (.iconst 3, 1) := by decide +kernel
theorem dX7_look_36 : decode cX7_look 36 = .ok (.irem, 1) := by decide +kernel
theorem dX7_look_37 : decode cX7_look 37 = .ok (.iconst 1, 1) := by decide +kernel
theorem dX7_look_38 : decode cX7_look 38 = .ok (.isub, 1) := by decide +kernel
theorem dX7_look_39 : decode cX7_look 39 = .ok (.iload_n 1, 1) := by decide +kernel
theorem dX7_look_40 : decode cX7_look 40 = .ok (.imul, 1) := by decide +kernel
theorem dX7_look_41 : decode cX7_look 41 = .ok (.iadd, 1) := by decide +kernel
theorem dX7_look_42 : decode cX7_look 42 = .ok (.istore 5, 2) := by decide +kernel
theorem dX7_look_44 : decode cX7_look 44 = .ok (.iload_n 3, 1) := by decide +kernel
theorem dX7_look_45 : decode cX7_look 45 = .ok (.iload 4, 2) := by decide +kernel
theorem dX7_look_47 : decode cX7_look 47 = .ok (.iconst 3, 1) := by decide +kernel
theorem dX7_look_48 : decode cX7_look 48 = .ok (.idiv, 1) := by decide +kernel
theorem dX7_look_49 : decode cX7_look 49 = .ok (.iconst 1, 1) := by decide +kernel
theorem dX7_look_50 : decode cX7_look 50 = .ok (.isub, 1) := by decide +kernel
theorem dX7_look_51 : decode cX7_look 51 = .ok (.iload_n 1, 1) := by decide +kernel
theorem dX7_look_52 : decode cX7_look 52 = .ok (.imul, 1) := by decide +kernel
theorem dX7_look_53 : decode cX7_look 53 = .ok (.iadd, 1) := by decide +kernel
theorem dX7_look_54 : decode cX7_look 54 = .ok (.istore 6, 2) := by decide +kernel
theorem dX7_look_56 : decode cX7_look 56 = .ok (.iload 4, 2) := by decide +kernel
theorem dX7_look_58 : decode cX7_look 58 = .ok (.iconst 4, 1) := by decide +kernel
theorem dX7_look_59 : decode cX7_look 59 = .ok (.if_icmp .eq 102, 3) := by decide +kernel
theorem dX7_look_62 : decode cX7_look 62 = .ok (.iload 5, 2) := by decide +kernel
theorem dX7_look_64 : decode cX7_look 64 = .ok (.iload 6, 2) := by decide +kernel
theorem dX7_look_66 : decode cX7_look 66 = .ok (.invokestatic 97, 3) := by decide +kernel
theorem dX7_look_69 : decode cX7_look 69 = .ok (.ifCond .eq 92, 3) := by decide +kernel
theorem dX7_look_72 : decode cX7_look 72 = .ok (.aload_n 0, 1) := by decide +kernel
theorem dX7_look_73 : decode cX7_look 73 = .ok (.iload 5, 2) := by decide +kernel
theorem dX7_look_75 : decode cX7_look 75 = .ok (.iload 6, 2) := by decide +kernel
theorem dX7_look_77 : decode cX7_look 77 = .ok (.invokevirtual 106, 3) := by decide +kernel
theorem dX7_look_80 : decode cX7_look 80 = .ok (.istore 7, 2) := by decide +kernel
theorem dX7_look_82 : decode cX7_look 82 = .ok (.aload_n 0, 1) := by decide +kernel
theorem dX7_look_83 : decode cX7_look 83 = .ok (.getfield 110, 3) := by decide +kernel
theorem dX7_look_86 : decode cX7_look 86 = .ok (.ldc 109, 2) := by decide +kernel
theorem dX7_look_88 : decode cX7_look 88 = .ok (.if_icmp .eq 12, 3) := by decide +kernel
theorem dX7_look_91 : decode cX7_look 91 = .ok (.iload 7, 2) := by decide +kernel
theorem dX7_look_93 : decode cX7_look 93 = .ok (.aload_n 0, 1) := by decide +kernel
theorem dX7_look_94 : decode cX7_look 94 = .ok (.getfield 110, 3) := by decide +kernel
theorem dX7_look_97 : decode cX7_look 97 = .ok (.if_icmp .ge 7, 3) := by decide +kernel
theorem dX7_look_100 : decode cX7_look 100 = .ok (.iconst 1, 1) := by decide +kernel
theorem dX7_look_101 : decode cX7_look 101 = .ok (.goto 4, 3) := by decide +kernel
theorem dX7_look_104 : decode cX7_look 104 = .ok (.iconst 0, 1) := by decide +kernel
theorem dX7_look_105 : decode cX7_look 105 = .ok (.istore 8, 2) := by decide +kernel
theorem dX7_look_107 : decode cX7_look 107 = .ok (.aload_n 0, 1) := by decide +kernel
theorem dX7_look_108 : decode cX7_look 108 = .ok (.iload 8, 2) := by decide +kernel
theorem dX7_look_110 : decode cX7_look 110 = .ok (.ifCond .eq 8, 3) := by decide +kernel
theorem dX7_look_113 : decode cX7_look 113 = .ok (.iload 5, 2) := by decide +kernel
theorem dX7_look_115 : decode cX7_look 115 = .ok (.goto 7, 3) := by decide +kernel
theorem dX7_look_118 : decode cX7_look 118 = .ok (.aload_n 0, 1) := by decide +kernel
theorem dX7_look_119 : decode cX7_look 119 = .ok (.getfield 113, 3) := by decide +kernel
theorem dX7_look_122 : decode cX7_look 122 = .ok (.putfield 113, 3) := by decide +kernel
theorem dX7_look_125 : decode cX7_look 125 = .ok (.aload_n 0, 1) := by decide +kernel
theorem dX7_look_126 : decode cX7_look 126 = .ok (.iload 8, 2) := by decide +kernel
theorem dX7_look_128 : decode cX7_look 128 = .ok (.ifCond .eq 8, 3) := by decide +kernel
theorem dX7_look_131 : decode cX7_look 131 = .ok (.iload 6, 2) := by decide +kernel
theorem dX7_look_133 : decode cX7_look 133 = .ok (.goto 7, 3) := by decide +kernel
theorem dX7_look_136 : decode cX7_look 136 = .ok (.aload_n 0, 1) := by decide +kernel
theorem dX7_look_137 : decode cX7_look 137 = .ok (.getfield 116, 3) := by decide +kernel
theorem dX7_look_140 : decode cX7_look 140 = .ok (.putfield 116, 3) := by decide +kernel
theorem dX7_look_143 : decode cX7_look 143 = .ok (.aload_n 0, 1) := by decide +kernel
theorem dX7_look_144 : decode cX7_look 144 = .ok (.iload 8, 2) := by decide +kernel
theorem dX7_look_146 : decode cX7_look 146 = .ok (.ifCond .eq 8, 3) := by decide +kernel
theorem dX7_look_149 : decode cX7_look 149 = .ok (.iload 7, 2) := by decide +kernel
theorem dX7_look_151 : decode cX7_look 151 = .ok (.goto 7, 3) := by decide +kernel
theorem dX7_look_154 : decode cX7_look 154 = .ok (.aload_n 0, 1) := by decide +kernel
theorem dX7_look_155 : decode cX7_look 155 = .ok (.getfield 110, 3) := by decide +kernel
theorem dX7_look_158 : decode cX7_look 158 = .ok (.putfield 110, 3) := by decide +kernel
theorem dX7_look_161 : decode cX7_look 161 = .ok (.iinc 4 1, 3) := by decide +kernel
theorem dX7_look_164 : decode cX7_look 164 = .ok (.goto (-139), 3) := by decide +kernel
theorem dX7_look_167 : decode cX7_look 167 = .ok (.aload_n 0, 1) := by decide +kernel
theorem dX7_look_168 : decode cX7_look 168 = .ok (.getfield 7, 3) := by decide +kernel
theorem dX7_look_171 : decode cX7_look 171 = .ok (.bipush 10, 2) := by decide +kernel
theorem dX7_look_173 : decode cX7_look 173 = .ok (.iload_n 2, 1) := by decide +kernel
theorem dX7_look_174 : decode cX7_look 174 = .ok (.iastore, 1) := by decide +kernel
theorem dX7_look_175 : decode cX7_look 175 = .ok (.aload_n 0, 1) := by decide +kernel
theorem dX7_look_176 : decode cX7_look 176 = .ok (.getfield 7, 3) := by decide +kernel
theorem dX7_look_179 : decode cX7_look 179 = .ok (.bipush 11, 2) := by decide +kernel
theorem dX7_look_181 : decode cX7_look 181 = .ok (.iload_n 3, 1) := by decide +kernel
theorem dX7_look_182 : decode cX7_look 182 = .ok (.iastore, 1) := by decide +kernel
theorem dX7_look_183 : decode cX7_look 183 = .ok (.return_, 1) := by decide +kernel
set_option maxRecDepth 20000 in
theorem ggX7_notSearch_X7_in : GoodIn wsX7_notSearch wsX7_in := goodIn_r _ [4] (by decide +kernel) (by decide +kernel)
set_option maxRecDepth 20000 in
theorem gX7_notSearch_X7_in : GoodIn wsX7_notSearch (va_wsS RX7 39 yX7_in wsX7_in) := goodIn_app (goodIn_of _ (by decide +kernel)) ggX7_notSearch_X7_in
theorem dX7_notSearch_0 : decode cX7_notSearch 0 = .ok (.iload_n 0, 1) := by decide +kernel
theorem dX7_notSearch_1 : decode cX7_notSearch 1 = .ok (.iconst 1, 1) := by decide +kernel
theorem dX7_notSearch_2 : decode cX7_notSearch 2 = .ok (.sipush 512, 3) := by decide +kernel
theorem dX7_notSearch_5 : decode cX7_notSearch 5 = .ok (.invokestatic 39, 3) := by decide +kernel
theorem dX7_notSearch_8 : decode cX7_notSearch 8 = .ok (.ifCond .eq 7, 3) := by decide +kernel
theorem dX7_notSearch_11 : decode cX7_notSearch 11 = .ok (.iconst 0, 1) := by decide +kernel
theorem dX7_notSearch_12 : decode cX7_notSearch 12 = .ok (.goto 4, 3) := by decide +kernel
theorem dX7_notSearch_15 : decode cX7_notSearch 15 = .ok (.iconst 2, 1) := by decide +kernel
theorem dX7_notSearch_16 : decode cX7_notSearch 16 = .ok (.ireturn, 1) := by decide +kernel
set_option maxRecDepth 20000 in
theorem ggX7_searches_X7_plateCost : GoodIn wsX7_searches wsX7_plateCost := goodIn_r _ [9, 10, 11, 12, 13, 8, 14, 15, 16, 17, 18, 19, 20, 21, 22, 23, 24, 25, 26, 27, 28, 29, 30, 31, 32, 33, 34, 35, 36, 37, 38, 39, 40, 41, 42, 43, 58, 59, 60, 61, 62, 63, 64, 65, 66, 67, 68, 69, 70, 71, 72, 73, 74, 75, 76] (by decide +kernel) (by decide +kernel)
set_option maxRecDepth 20000 in
theorem gX7_searches_X7_plateCost : GoodIn wsX7_searches (wsV RX7 100 RX7 yX7_plateCost wsX7_plateCost) := goodIn_app (goodIn_of _ (by decide +kernel)) ggX7_searches_X7_plateCost
set_option maxRecDepth 20000 in
theorem ggX7_searches_X7_look : GoodIn wsX7_searches wsX7_look := goodIn_r _ [47, 10, 2, 1, 3, 4, 48, 49, 8, 50, 51, 52, 53, 54, 55, 56, 57, 5, 6, 7, 9, 11, 12, 13, 14, 15, 16, 17, 18, 19, 20, 21, 22, 23, 24, 25, 26, 27, 28, 29, 30, 31, 32, 33, 34, 35, 36, 37, 38, 39, 40, 41, 42, 43, 58, 59, 60, 61, 62, 63, 64, 65, 66, 67, 68, 69, 70, 71, 72, 73, 74, 75, 76] (by decide +kernel) (by decide +kernel)
set_option maxRecDepth 20000 in
theorem gX7_searches_X7_look : GoodIn wsX7_searches (wsV RX7 119 RX7 yX7_look wsX7_look) := goodIn_app (goodIn_of _ (by decide +kernel)) ggX7_searches_X7_look
set_option maxRecDepth 20000 in
theorem ggX7_searches_X7_setsPole : GoodIn wsX7_searches wsX7_setsPole := goodIn_r _ [57, 10, 5, 6, 7, 8, 9, 11, 12, 13, 14, 15, 16, 17, 18, 19, 20, 21, 22, 23, 24, 25, 26, 27, 28, 29, 30, 31, 32, 33, 34, 35, 36, 37, 38, 39, 40, 41, 42, 43, 58, 59, 60, 61, 62, 63, 64, 65, 66, 67, 68, 69, 70, 71, 72, 73, 74, 75, 76] (by decide +kernel) (by decide +kernel)
set_option maxRecDepth 20000 in
theorem gX7_searches_X7_setsPole : GoodIn wsX7_searches (wsV RX7 106 RX7 yX7_setsPole wsX7_setsPole) := goodIn_app (goodIn_of _ (by decide +kernel)) ggX7_searches_X7_setsPole
theorem dX7_searches_0 : decode cX7_searches 0 = .ok (.iload_n 1, 1) := by decide +kernel
theorem dX7_searches_1 : decode cX7_searches 1 = .ok (.istore_n 2, 1) := by decide +kernel
theorem dX7_searches_2 : decode cX7_searches 2 = .ok (.iconst 0, 1) := by decide +kernel
theorem dX7_searches_3 : decode cX7_searches 3 = .ok (.istore_n 3, 1) := by decide +kernel
theorem dX7_searches_4 : decode cX7_searches 4 = .ok (.aload_n 0, 1) := by decide +kernel
theorem dX7_searches_5 : decode cX7_searches 5 = .ok (.invokevirtual 100, 3) := by decide +kernel
theorem dX7_searches_8 : decode cX7_searches 8 = .ok (.istore 4, 2) := by decide +kernel
theorem dX7_searches_10 : decode cX7_searches 10 = .ok (.iload_n 2, 1) := by decide +kernel
theorem dX7_searches_11 : decode cX7_searches 11 = .ok (.ifCond .le 53, 3) := by decide +kernel
theorem dX7_searches_14 : decode cX7_searches 14 = .ok (.aload_n 0, 1) := by decide +kernel
theorem dX7_searches_15 : decode cX7_searches 15 = .ok (.iload_n 2, 1) := by decide +kernel
theorem dX7_searches_16 : decode cX7_searches 16 = .ok (.invokevirtual 119, 3) := by decide +kernel
theorem dX7_searches_19 : decode cX7_searches 19 = .ok (.aload_n 0, 1) := by decide +kernel
theorem dX7_searches_20 : decode cX7_searches 20 = .ok (.getfield 110, 3) := by decide +kernel
theorem dX7_searches_23 : decode cX7_searches 23 = .ok (.ldc 109, 2) := by decide +kernel
theorem dX7_searches_25 : decode cX7_searches 25 = .ok (.if_icmp .eq 32, 3) := by decide +kernel
theorem dX7_searches_28 : decode cX7_searches 28 = .ok (.aload_n 0, 1) := by decide +kernel
theorem dX7_searches_29 : decode cX7_searches 29 = .ok (.getfield 110, 3) := by decide +kernel
theorem dX7_searches_32 : decode cX7_searches 32 = .ok (.iload 4, 2) := by decide +kernel
theorem dX7_searches_34 : decode cX7_searches 34 = .ok (.if_icmp .ge 23, 3) := by decide +kernel
theorem dX7_searches_37 : decode cX7_searches 37 = .ok (.aload_n 0, 1) := by decide +kernel
theorem dX7_searches_38 : decode cX7_searches 38 = .ok (.aload_n 0, 1) := by decide +kernel
theorem dX7_searches_39 : decode cX7_searches 39 = .ok (.getfield 113, 3) := by decide +kernel
theorem dX7_searches_42 : decode cX7_searches 42 = .ok (.aload_n 0, 1) := by decide +kernel
theorem dX7_searches_43 : decode cX7_searches 43 = .ok (.getfield 116, 3) := by decide +kernel
theorem dX7_searches_46 : decode cX7_searches 46 = .ok (.invokevirtual 106, 3) := by decide +kernel
theorem dX7_searches_49 : decode cX7_searches 49 = .ok (.istore 4, 2) := by decide +kernel
theorem dX7_searches_51 : decode cX7_searches 51 = .ok (.iinc 3 1, 3) := by decide +kernel
theorem dX7_searches_54 : decode cX7_searches 54 = .ok (.goto (-44), 3) := by decide +kernel
theorem dX7_searches_57 : decode cX7_searches 57 = .ok (.iload_n 2, 1) := by decide +kernel
theorem dX7_searches_58 : decode cX7_searches 58 = .ok (.iconst 2, 1) := by decide +kernel
theorem dX7_searches_59 : decode cX7_searches 59 = .ok (.idiv, 1) := by decide +kernel
theorem dX7_searches_60 : decode cX7_searches 60 = .ok (.istore_n 2, 1) := by decide +kernel
theorem dX7_searches_61 : decode cX7_searches 61 = .ok (.goto (-51), 3) := by decide +kernel
theorem dX7_searches_64 : decode cX7_searches 64 = .ok (.iload_n 3, 1) := by decide +kernel
theorem dX7_searches_65 : decode cX7_searches 65 = .ok (.ireturn, 1) := by decide +kernel
set_option maxRecDepth 20000 in
theorem ggX7_search_X7_notSearch : GoodIn wsX7_search wsX7_notSearch := goodIn_r _ [5, 6, 7, 4, 8] (by decide +kernel) (by decide +kernel)
set_option maxRecDepth 20000 in
theorem gX7_search_X7_notSearch : GoodIn wsX7_search (va_wsS RX7 123 yX7_notSearch wsX7_notSearch) := goodIn_app (goodIn_of _ (by decide +kernel)) ggX7_search_X7_notSearch
set_option maxRecDepth 20000 in
theorem ggX7_search_X7_keep : GoodIn wsX7_search wsX7_keep := goodIn_r _ [12, 13, 14, 15, 72, 73, 74, 75, 76, 77, 78, 79, 80, 81, 82, 83, 84, 85, 86, 87, 88, 89, 90] (by decide +kernel) (by decide +kernel)
set_option maxRecDepth 20000 in
theorem gX7_search_X7_keep : GoodIn wsX7_search (wsV RX7 59 RX7 yX7_keep wsX7_keep) := goodIn_app (goodIn_of _ (by decide +kernel)) ggX7_search_X7_keep
set_option maxRecDepth 20000 in
theorem ggX7_search_X7_searches : GoodIn wsX7_search wsX7_searches := goodIn_r _ [19, 20, 21, 22, 23, 24, 25, 26, 4, 27, 15, 28, 29, 30, 31, 32, 33, 34, 35, 36, 37, 38, 39, 40, 41, 42, 43, 44, 45, 46, 47, 48, 49, 50, 51, 52, 53, 54, 55, 56, 57, 58, 59, 60, 61, 62, 63, 64, 65, 66, 67, 6, 7, 8, 68, 69, 70, 71, 72, 73, 74, 75, 76, 77, 78, 79, 80, 81, 82, 83, 84, 85, 86, 87, 88, 89, 90] (by decide +kernel) (by decide +kernel)
set_option maxRecDepth 20000 in
theorem gX7_search_X7_searches : GoodIn wsX7_search (wsV RX7 126 RX7 yX7_searches wsX7_searches) := goodIn_app (goodIn_of _ (by decide +kernel)) ggX7_search_X7_searches
theorem dX7_search_0 : decode cX7_search 0 = .ok (.aload_n 0, 1) := by decide +kernel
theorem dX7_search_1 : decode cX7_search 1 = .ok (.iload_n 1, 1) := by decide +kernel
theorem dX7_search_2 : decode cX7_search 2 = .ok (.invokestatic 123, 3) := by decide +kernel
theorem dX7_search_5 : decode cX7_search 5 = .ok (.ifCond .ne 7, 3) := by decide +kernel
theorem dX7_search_8 : decode cX7_search 8 = .ok (.iconst 0, 1) := by decide +kernel
theorem dX7_search_9 : decode cX7_search 9 = .ok (.goto 4, 3) := by decide +kernel
theorem dX7_search_12 : decode cX7_search 12 = .ok (.iconst 1, 1) := by decide +kernel
theorem dX7_search_13 : decode cX7_search 13 = .ok (.putfield 31, 3) := by decide +kernel
theorem dX7_search_16 : decode cX7_search 16 = .ok (.aload_n 0, 1) := by decide +kernel
theorem dX7_search_17 : decode cX7_search 17 = .ok (.getfield 31, 3) := by decide +kernel
theorem dX7_search_20 : decode cX7_search 20 = .ok (.ifCond .eq 5, 3) := by decide +kernel
theorem dX7_search_23 : decode cX7_search 23 = .ok (.iconst 0, 1) := by decide +kernel
theorem dX7_search_24 : decode cX7_search 24 = .ok (.ireturn, 1) := by decide +kernel
theorem dX7_search_25 : decode cX7_search 25 = .ok (.aload_n 0, 1) := by decide +kernel
theorem dX7_search_26 : decode cX7_search 26 = .ok (.invokevirtual 59, 3) := by decide +kernel
theorem dX7_search_29 : decode cX7_search 29 = .ok (.aload_n 0, 1) := by decide +kernel
theorem dX7_search_30 : decode cX7_search 30 = .ok (.iload_n 1, 1) := by decide +kernel
theorem dX7_search_31 : decode cX7_search 31 = .ok (.invokevirtual 126, 3) := by decide +kernel
theorem dX7_search_34 : decode cX7_search 34 = .ok (.ireturn, 1) := by decide +kernel
set_option maxRecDepth 20000 in
theorem ggX7_notStar_X7_in : GoodIn wsX7_notStar wsX7_in := goodIn_r _ [7] (by decide +kernel) (by decide +kernel)
set_option maxRecDepth 20000 in
theorem gX7_notStar_X7_in : GoodIn wsX7_notStar (va_wsS RX7 39 yX7_in wsX7_in) := goodIn_app (goodIn_of _ (by decide +kernel)) ggX7_notStar_X7_in
theorem dX7_notStar_0 : decode cX7_notStar 0 = .ok (.iload_n 1, 1) := by decide +kernel
theorem dX7_notStar_1 : decode cX7_notStar 1 = .ok (.iconst 1, 1) := by decide +kernel
theorem dX7_notStar_2 : decode cX7_notStar 2 = .ok (.ldc 86, 2) := by decide +kernel
theorem dX7_notStar_4 : decode cX7_notStar 4 = .ok (.invokestatic 39, 3) := by decide +kernel
theorem dX7_notStar_7 : decode cX7_notStar 7 = .ok (.ifCond .eq 27, 3) := by decide +kernel
theorem dX7_notStar_10 : decode cX7_notStar 10 = .ok (.iload_n 2, 1) := by decide +kernel
theorem dX7_notStar_11 : decode cX7_notStar 11 = .ok (.iconst 0, 1) := by decide +kernel
theorem dX7_notStar_12 : decode cX7_notStar 12 = .ok (.ldc 87, 2) := by decide +kernel
theorem dX7_notStar_14 : decode cX7_notStar 14 = .ok (.invokestatic 39, 3) := by decide +kernel
theorem dX7_notStar_17 : decode cX7_notStar 17 = .ok (.ifCond .eq 17, 3) := by decide +kernel
theorem dX7_notStar_20 : decode cX7_notStar 20 = .ok (.iload_n 3, 1) := by decide +kernel
theorem dX7_notStar_21 : decode cX7_notStar 21 = .ok (.iconst 0, 1) := by decide +kernel
theorem dX7_notStar_22 : decode cX7_notStar 22 = .ok (.bipush 9, 2) := by decide +kernel
theorem dX7_notStar_24 : decode cX7_notStar 24 = .ok (.invokestatic 39, 3) := by decide +kernel
theorem dX7_notStar_27 : decode cX7_notStar 27 = .ok (.ifCond .eq 7, 3) := by decide +kernel
theorem dX7_notStar_30 : decode cX7_notStar 30 = .ok (.iconst 1, 1) := by decide +kernel
theorem dX7_notStar_31 : decode cX7_notStar 31 = .ok (.goto 4, 3) := by decide +kernel
theorem dX7_notStar_34 : decode cX7_notStar 34 = .ok (.iconst 0, 1) := by decide +kernel
theorem dX7_notStar_35 : decode cX7_notStar 35 = .ok (.istore 4, 2) := by decide +kernel
theorem dX7_notStar_37 : decode cX7_notStar 37 = .ok (.iload 4, 2) := by decide +kernel
theorem dX7_notStar_39 : decode cX7_notStar 39 = .ok (.ifCond .ne 7, 3) := by decide +kernel
theorem dX7_notStar_42 : decode cX7_notStar 42 = .ok (.iconst 2, 1) := by decide +kernel
theorem dX7_notStar_43 : decode cX7_notStar 43 = .ok (.goto 20, 3) := by decide +kernel
theorem dX7_notStar_46 : decode cX7_notStar 46 = .ok (.aload_n 0, 1) := by decide +kernel
theorem dX7_notStar_47 : decode cX7_notStar 47 = .ok (.getfield 7, 3) := by decide +kernel
theorem dX7_notStar_50 : decode cX7_notStar 50 = .ok (.bipush 13, 2) := by decide +kernel
theorem dX7_notStar_52 : decode cX7_notStar 52 = .ok (.iaload, 1) := by decide +kernel
theorem dX7_notStar_53 : decode cX7_notStar 53 = .ok (.bipush 12, 2) := by decide +kernel
theorem dX7_notStar_55 : decode cX7_notStar 55 = .ok (.if_icmp .ne 7, 3) := by decide +kernel
theorem dX7_notStar_58 : decode cX7_notStar 58 = .ok (.iconst 3, 1) := by decide +kernel
theorem dX7_notStar_59 : decode cX7_notStar 59 = .ok (.goto 4, 3) := by decide +kernel
theorem dX7_notStar_62 : decode cX7_notStar 62 = .ok (.iconst 0, 1) := by decide +kernel
theorem dX7_notStar_63 : decode cX7_notStar 63 = .ok (.ireturn, 1) := by decide +kernel
theorem dX7_addsStar_0 : decode cX7_addsStar 0 = .ok (.sipush 458, 3) := by decide +kernel
theorem dX7_addsStar_3 : decode cX7_addsStar 3 = .ok (.iconst 3, 1) := by decide +kernel
theorem dX7_addsStar_4 : decode cX7_addsStar 4 = .ok (.aload_n 0, 1) := by decide +kernel
theorem dX7_addsStar_5 : decode cX7_addsStar 5 = .ok (.getfield 7, 3) := by decide +kernel
theorem dX7_addsStar_8 : decode cX7_addsStar 8 = .ok (.bipush 13, 2) := by decide +kernel
theorem dX7_addsStar_10 : decode cX7_addsStar 10 = .ok (.iaload, 1) := by decide +kernel
theorem dX7_addsStar_11 : decode cX7_addsStar 11 = .ok (.imul, 1) := by decide +kernel
theorem dX7_addsStar_12 : decode cX7_addsStar 12 = .ok (.iadd, 1) := by decide +kernel
theorem dX7_addsStar_13 : decode cX7_addsStar 13 = .ok (.istore 4, 2) := by decide +kernel
theorem dX7_addsStar_15 : decode cX7_addsStar 15 = .ok (.aload_n 0, 1) := by decide +kernel
theorem dX7_addsStar_16 : decode cX7_addsStar 16 = .ok (.getfield 7, 3) := by decide +kernel
theorem dX7_addsStar_19 : decode cX7_addsStar 19 = .ok (.iload 4, 2) := by decide +kernel
theorem dX7_addsStar_21 : decode cX7_addsStar 21 = .ok (.iload_n 1, 1) := by decide +kernel
theorem dX7_addsStar_22 : decode cX7_addsStar 22 = .ok (.iastore, 1) := by decide +kernel
theorem dX7_addsStar_23 : decode cX7_addsStar 23 = .ok (.aload_n 0, 1) := by decide +kernel
theorem dX7_addsStar_24 : decode cX7_addsStar 24 = .ok (.getfield 7, 3) := by decide +kernel
theorem dX7_addsStar_27 : decode cX7_addsStar 27 = .ok (.iload 4, 2) := by decide +kernel
theorem dX7_addsStar_29 : decode cX7_addsStar 29 = .ok (.iconst 1, 1) := by decide +kernel
theorem dX7_addsStar_30 : decode cX7_addsStar 30 = .ok (.iadd, 1) := by decide +kernel
theorem dX7_addsStar_31 : decode cX7_addsStar 31 = .ok (.iload_n 2, 1) := by decide +kernel
theorem dX7_addsStar_32 : decode cX7_addsStar 32 = .ok (.iastore, 1) := by decide +kernel
theorem dX7_addsStar_33 : decode cX7_addsStar 33 = .ok (.aload_n 0, 1) := by decide +kernel
theorem dX7_addsStar_34 : decode cX7_addsStar 34 = .ok (.getfield 7, 3) := by decide +kernel
theorem dX7_addsStar_37 : decode cX7_addsStar 37 = .ok (.iload 4, 2) := by decide +kernel
theorem dX7_addsStar_39 : decode cX7_addsStar 39 = .ok (.iconst 2, 1) := by decide +kernel
theorem dX7_addsStar_40 : decode cX7_addsStar 40 = .ok (.iadd, 1) := by decide +kernel
theorem dX7_addsStar_41 : decode cX7_addsStar 41 = .ok (.iload_n 3, 1) := by decide +kernel
theorem dX7_addsStar_42 : decode cX7_addsStar 42 = .ok (.iastore, 1) := by decide +kernel
theorem dX7_addsStar_43 : decode cX7_addsStar 43 = .ok (.aload_n 0, 1) := by decide +kernel
theorem dX7_addsStar_44 : decode cX7_addsStar 44 = .ok (.getfield 7, 3) := by decide +kernel
theorem dX7_addsStar_47 : decode cX7_addsStar 47 = .ok (.bipush 13, 2) := by decide +kernel
theorem dX7_addsStar_49 : decode cX7_addsStar 49 = .ok (.dup2, 1) := by decide +kernel
theorem dX7_addsStar_50 : decode cX7_addsStar 50 = .ok (.iaload, 1) := by decide +kernel
theorem dX7_addsStar_51 : decode cX7_addsStar 51 = .ok (.iconst 1, 1) := by decide +kernel
theorem dX7_addsStar_52 : decode cX7_addsStar 52 = .ok (.iadd, 1) := by decide +kernel
theorem dX7_addsStar_53 : decode cX7_addsStar 53 = .ok (.iastore, 1) := by decide +kernel
theorem dX7_addsStar_54 : decode cX7_addsStar 54 = .ok (.aload_n 0, 1) := by decide +kernel
theorem dX7_addsStar_55 : decode cX7_addsStar 55 = .ok (.getfield 7, 3) := by decide +kernel
theorem dX7_addsStar_58 : decode cX7_addsStar 58 = .ok (.bipush 13, 2) := by decide +kernel
theorem dX7_addsStar_60 : decode cX7_addsStar 60 = .ok (.iaload, 1) := by decide +kernel
theorem dX7_addsStar_61 : decode cX7_addsStar 61 = .ok (.iconst 1, 1) := by decide +kernel
theorem dX7_addsStar_62 : decode cX7_addsStar 62 = .ok (.isub, 1) := by decide +kernel
theorem dX7_addsStar_63 : decode cX7_addsStar 63 = .ok (.ireturn, 1) := by decide +kernel
set_option maxRecDepth 20000 in
theorem ggX7_addStar_X7_notStar : GoodIn wsX7_addStar wsX7_notStar := goodIn_r _ [6, 7, 8, 9, 10, 11, 5, 12, 23, 24, 25, 26, 27, 28, 29, 30, 31, 32, 33, 34, 35, 36, 37, 38, 39, 40, 41] (by decide +kernel) (by decide +kernel)
set_option maxRecDepth 20000 in
theorem gX7_addStar_X7_notStar : GoodIn wsX7_addStar (wsV RX7 129 RX7 yX7_notStar wsX7_notStar) := goodIn_app (goodIn_of _ (by decide +kernel)) ggX7_addStar_X7_notStar
set_option maxRecDepth 20000 in
theorem ggX7_addStar_X7_keep : GoodIn wsX7_addStar wsX7_keep := goodIn_r _ [16, 17, 18, 9, 23, 24, 25, 26, 27, 28, 29, 30, 31, 32, 33, 34, 35, 36, 37, 38, 39, 40, 41] (by decide +kernel) (by decide +kernel)
set_option maxRecDepth 20000 in
theorem gX7_addStar_X7_keep : GoodIn wsX7_addStar (wsV RX7 59 RX7 yX7_keep wsX7_keep) := goodIn_app (goodIn_of _ (by decide +kernel)) ggX7_addStar_X7_keep
set_option maxRecDepth 20000 in
theorem ggX7_addStar_X7_addsStar : GoodIn wsX7_addStar wsX7_addsStar := goodIn_r _ [22, 9, 23, 24, 25, 26, 27, 28, 29, 30, 31, 32, 33, 34, 35, 36, 37, 38, 39, 40, 41] (by decide +kernel) (by decide +kernel)
set_option maxRecDepth 20000 in
theorem gX7_addStar_X7_addsStar : GoodIn wsX7_addStar (wsV RX7 133 RX7 yX7_addsStar wsX7_addsStar) := goodIn_app (goodIn_of _ (by decide +kernel)) ggX7_addStar_X7_addsStar
theorem dX7_addStar_0 : decode cX7_addStar 0 = .ok (.aload_n 0, 1) := by decide +kernel
theorem dX7_addStar_1 : decode cX7_addStar 1 = .ok (.iload_n 1, 1) := by decide +kernel
theorem dX7_addStar_2 : decode cX7_addStar 2 = .ok (.iload_n 2, 1) := by decide +kernel
theorem dX7_addStar_3 : decode cX7_addStar 3 = .ok (.iload_n 3, 1) := by decide +kernel
theorem dX7_addStar_4 : decode cX7_addStar 4 = .ok (.invokevirtual 129, 3) := by decide +kernel
theorem dX7_addStar_7 : decode cX7_addStar 7 = .ok (.istore 4, 2) := by decide +kernel
theorem dX7_addStar_9 : decode cX7_addStar 9 = .ok (.aload_n 0, 1) := by decide +kernel
theorem dX7_addStar_10 : decode cX7_addStar 10 = .ok (.iload 4, 2) := by decide +kernel
theorem dX7_addStar_12 : decode cX7_addStar 12 = .ok (.ifCond .ne 7, 3) := by decide +kernel
theorem dX7_addStar_15 : decode cX7_addStar 15 = .ok (.iconst 0, 1) := by decide +kernel
theorem dX7_addStar_16 : decode cX7_addStar 16 = .ok (.goto 7, 3) := by decide +kernel
theorem dX7_addStar_19 : decode cX7_addStar 19 = .ok (.iload 4, 2) := by decide +kernel
theorem dX7_addStar_21 : decode cX7_addStar 21 = .ok (.iconst 1, 1) := by decide +kernel
theorem dX7_addStar_22 : decode cX7_addStar 22 = .ok (.isub, 1) := by decide +kernel
theorem dX7_addStar_23 : decode cX7_addStar 23 = .ok (.putfield 31, 3) := by decide +kernel
theorem dX7_addStar_26 : decode cX7_addStar 26 = .ok (.aload_n 0, 1) := by decide +kernel
theorem dX7_addStar_27 : decode cX7_addStar 27 = .ok (.getfield 31, 3) := by decide +kernel
theorem dX7_addStar_30 : decode cX7_addStar 30 = .ok (.ifCond .eq 5, 3) := by decide +kernel
theorem dX7_addStar_33 : decode cX7_addStar 33 = .ok (.iconst 0, 1) := by decide +kernel
theorem dX7_addStar_34 : decode cX7_addStar 34 = .ok (.ireturn, 1) := by decide +kernel
theorem dX7_addStar_35 : decode cX7_addStar 35 = .ok (.aload_n 0, 1) := by decide +kernel
theorem dX7_addStar_36 : decode cX7_addStar 36 = .ok (.invokevirtual 59, 3) := by decide +kernel
theorem dX7_addStar_39 : decode cX7_addStar 39 = .ok (.aload_n 0, 1) := by decide +kernel
theorem dX7_addStar_40 : decode cX7_addStar 40 = .ok (.iload_n 1, 1) := by decide +kernel
theorem dX7_addStar_41 : decode cX7_addStar 41 = .ok (.iload_n 2, 1) := by decide +kernel
theorem dX7_addStar_42 : decode cX7_addStar 42 = .ok (.iload_n 3, 1) := by decide +kernel
theorem dX7_addStar_43 : decode cX7_addStar 43 = .ok (.invokevirtual 133, 3) := by decide +kernel
theorem dX7_addStar_46 : decode cX7_addStar 46 = .ok (.ireturn, 1) := by decide +kernel
set_option maxRecDepth 20000 in
theorem ggX7_removeStar_X7_isStar : GoodIn wsX7_removeStar wsX7_isStar := goodIn_r _ [7, 2, 8, 9, 6, 10, 17, 18, 19, 20, 21, 22, 23, 24, 25, 26, 27, 28, 29, 30, 31, 32, 33, 34, 35] (by decide +kernel) (by decide +kernel)
set_option maxRecDepth 20000 in
theorem gX7_removeStar_X7_isStar : GoodIn wsX7_removeStar (wsV RX7 136 RX7 yX7_isStar wsX7_isStar) := goodIn_app (goodIn_of _ (by decide +kernel)) ggX7_removeStar_X7_isStar
set_option maxRecDepth 20000 in
theorem ggX7_removeStar_X7_keep : GoodIn wsX7_removeStar wsX7_keep := goodIn_r _ [14, 15, 16, 2, 17, 18, 19, 20, 21, 22, 23, 24, 25, 26, 27, 28, 29, 30, 31, 32, 33, 34, 35] (by decide +kernel) (by decide +kernel)
set_option maxRecDepth 20000 in
theorem gX7_removeStar_X7_keep : GoodIn wsX7_removeStar (wsV RX7 59 RX7 yX7_keep wsX7_keep) := goodIn_app (goodIn_of _ (by decide +kernel)) ggX7_removeStar_X7_keep
theorem dX7_removeStar_0 : decode cX7_removeStar 0 = .ok (.aload_n 0, 1) := by decide +kernel
theorem dX7_removeStar_1 : decode cX7_removeStar 1 = .ok (.aload_n 0, 1) := by decide +kernel
theorem dX7_removeStar_2 : decode cX7_removeStar 2 = .ok (.iload_n 1, 1) := by decide +kernel
theorem dX7_removeStar_3 : decode cX7_removeStar 3 = .ok (.invokevirtual 136, 3) := by decide +kernel
theorem dX7_removeStar_6 : decode cX7_removeStar 6 = .ok (.ifCond .eq 7, 3) := by decide +kernel
theorem dX7_removeStar_9 : decode cX7_removeStar 9 = .ok (.iconst 0, 1) := by decide +kernel
theorem dX7_removeStar_10 : decode cX7_removeStar 10 = .ok (.goto 4, 3) := by decide +kernel
theorem dX7_removeStar_13 : decode cX7_removeStar 13 = .ok (.iconst 1, 1) := by decide +kernel
theorem dX7_removeStar_14 : decode cX7_removeStar 14 = .ok (.putfield 31, 3) := by decide +kernel
theorem dX7_removeStar_17 : decode cX7_removeStar 17 = .ok (.aload_n 0, 1) := by decide +kernel
theorem dX7_removeStar_18 : decode cX7_removeStar 18 = .ok (.getfield 31, 3) := by decide +kernel
theorem dX7_removeStar_21 : decode cX7_removeStar 21 = .ok (.ifCond .eq 5, 3) := by decide +kernel
theorem dX7_removeStar_24 : decode cX7_removeStar 24 = .ok (.iconst 0, 1) := by decide +kernel
theorem dX7_removeStar_25 : decode cX7_removeStar 25 = .ok (.ireturn, 1) := by decide +kernel
theorem dX7_removeStar_26 : decode cX7_removeStar 26 = .ok (.aload_n 0, 1) := by decide +kernel
theorem dX7_removeStar_27 : decode cX7_removeStar 27 = .ok (.invokevirtual 59, 3) := by decide +kernel
theorem dX7_removeStar_30 : decode cX7_removeStar 30 = .ok (.aload_n 0, 1) := by decide +kernel
theorem dX7_removeStar_31 : decode cX7_removeStar 31 = .ok (.getfield 7, 3) := by decide +kernel
theorem dX7_removeStar_34 : decode cX7_removeStar 34 = .ok (.bipush 13, 2) := by decide +kernel
theorem dX7_removeStar_36 : decode cX7_removeStar 36 = .ok (.dup2, 1) := by decide +kernel
theorem dX7_removeStar_37 : decode cX7_removeStar 37 = .ok (.iaload, 1) := by decide +kernel
theorem dX7_removeStar_38 : decode cX7_removeStar 38 = .ok (.iconst 1, 1) := by decide +kernel
theorem dX7_removeStar_39 : decode cX7_removeStar 39 = .ok (.isub, 1) := by decide +kernel
theorem dX7_removeStar_40 : decode cX7_removeStar 40 = .ok (.iastore, 1) := by decide +kernel
theorem dX7_removeStar_41 : decode cX7_removeStar 41 = .ok (.sipush 458, 3) := by decide +kernel
theorem dX7_removeStar_44 : decode cX7_removeStar 44 = .ok (.iconst 3, 1) := by decide +kernel
theorem dX7_removeStar_45 : decode cX7_removeStar 45 = .ok (.iload_n 1, 1) := by decide +kernel
theorem dX7_removeStar_46 : decode cX7_removeStar 46 = .ok (.imul, 1) := by decide +kernel
theorem dX7_removeStar_47 : decode cX7_removeStar 47 = .ok (.iadd, 1) := by decide +kernel
theorem dX7_removeStar_48 : decode cX7_removeStar 48 = .ok (.istore_n 2, 1) := by decide +kernel
theorem dX7_removeStar_49 : decode cX7_removeStar 49 = .ok (.iload_n 2, 1) := by decide +kernel
theorem dX7_removeStar_50 : decode cX7_removeStar 50 = .ok (.sipush 458, 3) := by decide +kernel
theorem dX7_removeStar_53 : decode cX7_removeStar 53 = .ok (.iconst 3, 1) := by decide +kernel
theorem dX7_removeStar_54 : decode cX7_removeStar 54 = .ok (.aload_n 0, 1) := by decide +kernel
theorem dX7_removeStar_55 : decode cX7_removeStar 55 = .ok (.getfield 7, 3) := by decide +kernel
theorem dX7_removeStar_58 : decode cX7_removeStar 58 = .ok (.bipush 13, 2) := by decide +kernel
theorem dX7_removeStar_60 : decode cX7_removeStar 60 = .ok (.iaload, 1) := by decide +kernel
theorem dX7_removeStar_61 : decode cX7_removeStar 61 = .ok (.imul, 1) := by decide +kernel
theorem dX7_removeStar_62 : decode cX7_removeStar 62 = .ok (.iadd, 1) := by decide +kernel
theorem dX7_removeStar_63 : decode cX7_removeStar 63 = .ok (.if_icmp .ge 23, 3) := by decide +kernel
theorem dX7_removeStar_66 : decode cX7_removeStar 66 = .ok (.aload_n 0, 1) := by decide +kernel
theorem dX7_removeStar_67 : decode cX7_removeStar 67 = .ok (.getfield 7, 3) := by decide +kernel
theorem dX7_removeStar_70 : decode cX7_removeStar 70 = .ok (.iload_n 2, 1) := by decide +kernel
theorem dX7_removeStar_71 : decode cX7_removeStar 71 = .ok (.aload_n 0, 1) := by decide +kernel
theorem dX7_removeStar_72 : decode cX7_removeStar 72 = .ok (.getfield 7, 3) := by decide +kernel
theorem dX7_removeStar_75 : decode cX7_removeStar 75 = .ok (.iload_n 2, 1) := by decide +kernel
theorem dX7_removeStar_76 : decode cX7_removeStar 76 = .ok (.iconst 3, 1) := by decide +kernel
theorem dX7_removeStar_77 : decode cX7_removeStar 77 = .ok (.iadd, 1) := by decide +kernel
theorem dX7_removeStar_78 : decode cX7_removeStar 78 = .ok (.iaload, 1) := by decide +kernel
theorem dX7_removeStar_79 : decode cX7_removeStar 79 = .ok (.iastore, 1) := by decide +kernel
theorem dX7_removeStar_80 : decode cX7_removeStar 80 = .ok (.iinc 2 1, 3) := by decide +kernel
theorem dX7_removeStar_83 : decode cX7_removeStar 83 = .ok (.goto (-34), 3) := by decide +kernel
theorem dX7_removeStar_86 : decode cX7_removeStar 86 = .ok (.aload_n 0, 1) := by decide +kernel
theorem dX7_removeStar_87 : decode cX7_removeStar 87 = .ok (.getfield 7, 3) := by decide +kernel
theorem dX7_removeStar_90 : decode cX7_removeStar 90 = .ok (.bipush 13, 2) := by decide +kernel
theorem dX7_removeStar_92 : decode cX7_removeStar 92 = .ok (.iaload, 1) := by decide +kernel
theorem dX7_removeStar_93 : decode cX7_removeStar 93 = .ok (.ireturn, 1) := by decide +kernel
set_option maxRecDepth 20000 in
theorem ggX7_placeX_X7_cellOf : GoodIn wsX7_placeX wsX7_cellOf := goodIn_r _ [5] (by decide +kernel) (by decide +kernel)
set_option maxRecDepth 20000 in
theorem gX7_placeX_X7_cellOf : GoodIn wsX7_placeX (va_wsS RX7 43 yX7_cellOf wsX7_cellOf) := goodIn_app (goodIn_of _ (by decide +kernel)) ggX7_placeX_X7_cellOf
set_option maxRecDepth 20000 in
theorem ggX7_placeX_X7_frameOf : GoodIn wsX7_placeX wsX7_frameOf := goodIn_r _ [9, 1, 2, 3, 4, 5, 13, 14, 15, 16, 17, 18, 19, 20, 21, 22, 23, 24, 25, 26, 27, 28, 29, 30, 31] (by decide +kernel) (by decide +kernel)
set_option maxRecDepth 20000 in
theorem gX7_placeX_X7_frameOf : GoodIn wsX7_placeX (wsV RX7 65 RX7 yX7_frameOf wsX7_frameOf) := goodIn_app (goodIn_of _ (by decide +kernel)) ggX7_placeX_X7_frameOf
set_option maxRecDepth 20000 in
theorem ggX7_placeX_X7_floor : GoodIn wsX7_placeX wsX7_floor := goodIn_r _ [12] (by decide +kernel) (by decide +kernel)
set_option maxRecDepth 20000 in
theorem gX7_placeX_X7_floor : GoodIn wsX7_placeX (va_wsS RX7 139 yX7_floor wsX7_floor) := goodIn_app (goodIn_of _ (by decide +kernel)) ggX7_placeX_X7_floor
theorem dX7_placeX_0 : decode cX7_placeX 0 = .ok (.aload_n 0, 1) := by decide +kernel
theorem dX7_placeX_1 : decode cX7_placeX 1 = .ok (.getfield 7, 3) := by decide +kernel
theorem dX7_placeX_4 : decode cX7_placeX 4 = .ok (.iload_n 1, 1) := by decide +kernel
theorem dX7_placeX_5 : decode cX7_placeX 5 = .ok (.iload_n 2, 1) := by decide +kernel
theorem dX7_placeX_6 : decode cX7_placeX 6 = .ok (.invokestatic 43, 3) := by decide +kernel
theorem dX7_placeX_9 : decode cX7_placeX 9 = .ok (.iconst 1, 1) := by decide +kernel
theorem dX7_placeX_10 : decode cX7_placeX 10 = .ok (.iadd, 1) := by decide +kernel
theorem dX7_placeX_11 : decode cX7_placeX 11 = .ok (.iaload, 1) := by decide +kernel
theorem dX7_placeX_12 : decode cX7_placeX 12 = .ok (.aload_n 0, 1) := by decide +kernel
theorem dX7_placeX_13 : decode cX7_placeX 13 = .ok (.getfield 7, 3) := by decide +kernel
theorem dX7_placeX_16 : decode cX7_placeX 16 = .ok (.iconst 1, 1) := by decide +kernel
theorem dX7_placeX_17 : decode cX7_placeX 17 = .ok (.iaload, 1) := by decide +kernel
theorem dX7_placeX_18 : decode cX7_placeX 18 = .ok (.aload_n 0, 1) := by decide +kernel
theorem dX7_placeX_19 : decode cX7_placeX 19 = .ok (.iload_n 1, 1) := by decide +kernel
theorem dX7_placeX_20 : decode cX7_placeX 20 = .ok (.iload_n 2, 1) := by decide +kernel
theorem dX7_placeX_21 : decode cX7_placeX 21 = .ok (.invokevirtual 65, 3) := by decide +kernel
theorem dX7_placeX_24 : decode cX7_placeX 24 = .ok (.imul, 1) := by decide +kernel
theorem dX7_placeX_25 : decode cX7_placeX 25 = .ok (.bipush 100, 2) := by decide +kernel
theorem dX7_placeX_27 : decode cX7_placeX 27 = .ok (.invokestatic 139, 3) := by decide +kernel
theorem dX7_placeX_30 : decode cX7_placeX 30 = .ok (.isub, 1) := by decide +kernel
theorem dX7_placeX_31 : decode cX7_placeX 31 = .ok (.ireturn, 1) := by decide +kernel
set_option maxRecDepth 20000 in
theorem ggX7_placeY_X7_cellOf : GoodIn wsX7_placeY wsX7_cellOf := goodIn_r _ [5] (by decide +kernel) (by decide +kernel)
set_option maxRecDepth 20000 in
theorem gX7_placeY_X7_cellOf : GoodIn wsX7_placeY (va_wsS RX7 43 yX7_cellOf wsX7_cellOf) := goodIn_app (goodIn_of _ (by decide +kernel)) ggX7_placeY_X7_cellOf
set_option maxRecDepth 20000 in
theorem ggX7_placeY_X7_frameOf : GoodIn wsX7_placeY wsX7_frameOf := goodIn_r _ [9, 1, 2, 3, 4, 5, 13, 14, 15, 16, 17, 18, 19, 20, 21, 22, 23, 24, 25, 26, 27, 28, 29, 30, 31] (by decide +kernel) (by decide +kernel)
set_option maxRecDepth 20000 in
theorem gX7_placeY_X7_frameOf : GoodIn wsX7_placeY (wsV RX7 65 RX7 yX7_frameOf wsX7_frameOf) := goodIn_app (goodIn_of _ (by decide +kernel)) ggX7_placeY_X7_frameOf
set_option maxRecDepth 20000 in
theorem ggX7_placeY_X7_floor : GoodIn wsX7_placeY wsX7_floor := goodIn_r _ [12] (by decide +kernel) (by decide +kernel)
set_option maxRecDepth 20000 in
theorem gX7_placeY_X7_floor : GoodIn wsX7_placeY (va_wsS RX7 139 yX7_floor wsX7_floor) := goodIn_app (goodIn_of _ (by decide +kernel)) ggX7_placeY_X7_floor
theorem dX7_placeY_0 : decode cX7_placeY 0 = .ok (.aload_n 0, 1) := by decide +kernel
theorem dX7_placeY_1 : decode cX7_placeY 1 = .ok (.getfield 7, 3) := by decide +kernel
theorem dX7_placeY_4 : decode cX7_placeY 4 = .ok (.iload_n 1, 1) := by decide +kernel
theorem dX7_placeY_5 : decode cX7_placeY 5 = .ok (.iload_n 2, 1) := by decide +kernel
theorem dX7_placeY_6 : decode cX7_placeY 6 = .ok (.invokestatic 43, 3) := by decide +kernel
theorem dX7_placeY_9 : decode cX7_placeY 9 = .ok (.iconst 2, 1) := by decide +kernel
theorem dX7_placeY_10 : decode cX7_placeY 10 = .ok (.iadd, 1) := by decide +kernel
theorem dX7_placeY_11 : decode cX7_placeY 11 = .ok (.iaload, 1) := by decide +kernel
theorem dX7_placeY_12 : decode cX7_placeY 12 = .ok (.aload_n 0, 1) := by decide +kernel
theorem dX7_placeY_13 : decode cX7_placeY 13 = .ok (.getfield 7, 3) := by decide +kernel
theorem dX7_placeY_16 : decode cX7_placeY 16 = .ok (.iconst 2, 1) := by decide +kernel
theorem dX7_placeY_17 : decode cX7_placeY 17 = .ok (.iaload, 1) := by decide +kernel
theorem dX7_placeY_18 : decode cX7_placeY 18 = .ok (.aload_n 0, 1) := by decide +kernel
theorem dX7_placeY_19 : decode cX7_placeY 19 = .ok (.iload_n 1, 1) := by decide +kernel
theorem dX7_placeY_20 : decode cX7_placeY 20 = .ok (.iload_n 2, 1) := by decide +kernel
theorem dX7_placeY_21 : decode cX7_placeY 21 = .ok (.invokevirtual 65, 3) := by decide +kernel
theorem dX7_placeY_24 : decode cX7_placeY 24 = .ok (.imul, 1) := by decide +kernel
theorem dX7_placeY_25 : decode cX7_placeY 25 = .ok (.bipush 100, 2) := by decide +kernel
theorem dX7_placeY_27 : decode cX7_placeY 27 = .ok (.invokestatic 139, 3) := by decide +kernel
theorem dX7_placeY_30 : decode cX7_placeY 30 = .ok (.isub, 1) := by decide +kernel
theorem dX7_placeY_31 : decode cX7_placeY 31 = .ok (.ireturn, 1) := by decide +kernel
theorem dX7_root_0 : decode cX7_root 0 = .ok (.iconst 0, 1) := by decide +kernel
theorem dX7_root_1 : decode cX7_root 1 = .ok (.istore_n 1, 1) := by decide +kernel
theorem dX7_root_2 : decode cX7_root 2 = .ok (.sipush 16384, 3) := by decide +kernel
theorem dX7_root_5 : decode cX7_root 5 = .ok (.istore_n 2, 1) := by decide +kernel
theorem dX7_root_6 : decode cX7_root 6 = .ok (.iload_n 2, 1) := by decide +kernel
theorem dX7_root_7 : decode cX7_root 7 = .ok (.ifCond .le 29, 3) := by decide +kernel
theorem dX7_root_10 : decode cX7_root 10 = .ok (.iload_n 1, 1) := by decide +kernel
theorem dX7_root_11 : decode cX7_root 11 = .ok (.iload_n 1, 1) := by decide +kernel
theorem dX7_root_12 : decode cX7_root 12 = .ok (.iload_n 2, 1) := by decide +kernel
theorem dX7_root_13 : decode cX7_root 13 = .ok (.iadd, 1) := by decide +kernel
theorem dX7_root_14 : decode cX7_root 14 = .ok (.iload_n 1, 1) := by decide +kernel
theorem dX7_root_15 : decode cX7_root 15 = .ok (.iload_n 2, 1) := by decide +kernel
theorem dX7_root_16 : decode cX7_root 16 = .ok (.iadd, 1) := by decide +kernel
theorem dX7_root_17 : decode cX7_root 17 = .ok (.imul, 1) := by decide +kernel
theorem dX7_root_18 : decode cX7_root 18 = .ok (.iload_n 0, 1) := by decide +kernel
theorem dX7_root_19 : decode cX7_root 19 = .ok (.if_icmp .gt 7, 3) := by decide +kernel
theorem dX7_root_22 : decode cX7_root 22 = .ok (.iload_n 2, 1) := by decide +kernel
theorem dX7_root_23 : decode cX7_root 23 = .ok (.goto 4, 3) := by decide +kernel
theorem dX7_root_26 : decode cX7_root 26 = .ok (.iconst 0, 1) := by decide +kernel
theorem dX7_root_27 : decode cX7_root 27 = .ok (.iadd, 1) := by decide +kernel
theorem dX7_root_28 : decode cX7_root 28 = .ok (.istore_n 1, 1) := by decide +kernel
theorem dX7_root_29 : decode cX7_root 29 = .ok (.iload_n 2, 1) := by decide +kernel
theorem dX7_root_30 : decode cX7_root 30 = .ok (.iconst 2, 1) := by decide +kernel
theorem dX7_root_31 : decode cX7_root 31 = .ok (.idiv, 1) := by decide +kernel
theorem dX7_root_32 : decode cX7_root 32 = .ok (.istore_n 2, 1) := by decide +kernel
theorem dX7_root_33 : decode cX7_root 33 = .ok (.goto (-27), 3) := by decide +kernel
theorem dX7_root_36 : decode cX7_root 36 = .ok (.iload_n 1, 1) := by decide +kernel
theorem dX7_root_37 : decode cX7_root 37 = .ok (.ireturn, 1) := by decide +kernel
set_option maxRecDepth 20000 in
theorem ggX7_radiusOf_X7_placeX : GoodIn wsX7_radiusOf wsX7_placeX := goodIn_r _ [6, 1, 7, 8, 5, 9, 10, 11, 12, 13, 14, 15, 16, 24, 25, 26, 27, 28, 29, 30, 31, 32, 33, 34, 35, 36, 37, 38, 39, 40, 41, 42] (by decide +kernel) (by decide +kernel)
set_option maxRecDepth 20000 in
theorem gX7_radiusOf_X7_placeX : GoodIn wsX7_radiusOf (wsV RX7 142 RX7 yX7_placeX wsX7_placeX) := goodIn_app (goodIn_of _ (by decide +kernel)) ggX7_radiusOf_X7_placeX
set_option maxRecDepth 20000 in
theorem ggX7_radiusOf_X7_placeY : GoodIn wsX7_radiusOf wsX7_placeY := goodIn_r _ [20, 1, 7, 8, 5, 9, 10, 11, 12, 13, 14, 15, 16, 24, 25, 26, 27, 28, 29, 30, 31, 32, 33, 34, 35, 36, 37, 38, 39, 40, 41, 42] (by decide +kernel) (by decide +kernel)
set_option maxRecDepth 20000 in
theorem gX7_radiusOf_X7_placeY : GoodIn wsX7_radiusOf (wsV RX7 145 RX7 yX7_placeY wsX7_placeY) := goodIn_app (goodIn_of _ (by decide +kernel)) ggX7_radiusOf_X7_placeY
set_option maxRecDepth 20000 in
theorem ggX7_radiusOf_X7_root : GoodIn wsX7_radiusOf wsX7_root := goodIn_r _ [23] (by decide +kernel) (by decide +kernel)
set_option maxRecDepth 20000 in
theorem gX7_radiusOf_X7_root : GoodIn wsX7_radiusOf (va_wsS RX7 148 yX7_root wsX7_root) := goodIn_app (goodIn_of _ (by decide +kernel)) ggX7_radiusOf_X7_root
theorem dX7_radiusOf_0 : decode cX7_radiusOf 0 = .ok (.aload_n 0, 1) := by decide +kernel
theorem dX7_radiusOf_1 : decode cX7_radiusOf 1 = .ok (.iload_n 1, 1) := by decide +kernel
theorem dX7_radiusOf_2 : decode cX7_radiusOf 2 = .ok (.iload_n 2, 1) := by decide +kernel
theorem dX7_radiusOf_3 : decode cX7_radiusOf 3 = .ok (.invokevirtual 142, 3) := by decide +kernel
theorem dX7_radiusOf_6 : decode cX7_radiusOf 6 = .ok (.aload_n 0, 1) := by decide +kernel
theorem dX7_radiusOf_7 : decode cX7_radiusOf 7 = .ok (.getfield 7, 3) := by decide +kernel
theorem dX7_radiusOf_10 : decode cX7_radiusOf 10 = .ok (.bipush 10, 2) := by decide +kernel
theorem dX7_radiusOf_12 : decode cX7_radiusOf 12 = .ok (.iaload, 1) := by decide +kernel
theorem dX7_radiusOf_13 : decode cX7_radiusOf 13 = .ok (.isub, 1) := by decide +kernel
theorem dX7_radiusOf_14 : decode cX7_radiusOf 14 = .ok (.istore_n 3, 1) := by decide +kernel
theorem dX7_radiusOf_15 : decode cX7_radiusOf 15 = .ok (.aload_n 0, 1) := by decide +kernel
theorem dX7_radiusOf_16 : decode cX7_radiusOf 16 = .ok (.iload_n 1, 1) := by decide +kernel
theorem dX7_radiusOf_17 : decode cX7_radiusOf 17 = .ok (.iload_n 2, 1) := by decide +kernel
theorem dX7_radiusOf_18 : decode cX7_radiusOf 18 = .ok (.invokevirtual 145, 3) := by decide +kernel
theorem dX7_radiusOf_21 : decode cX7_radiusOf 21 = .ok (.aload_n 0, 1) := by decide +kernel
theorem dX7_radiusOf_22 : decode cX7_radiusOf 22 = .ok (.getfield 7, 3) := by decide +kernel
theorem dX7_radiusOf_25 : decode cX7_radiusOf 25 = .ok (.bipush 11, 2) := by decide +kernel
theorem dX7_radiusOf_27 : decode cX7_radiusOf 27 = .ok (.iaload, 1) := by decide +kernel
theorem dX7_radiusOf_28 : decode cX7_radiusOf 28 = .ok (.isub, 1) := by decide +kernel
theorem dX7_radiusOf_29 : decode cX7_radiusOf 29 = .ok (.istore 4, 2) := by decide +kernel
theorem dX7_radiusOf_31 : decode cX7_radiusOf 31 = .ok (.iload_n 3, 1) := by decide +kernel
theorem dX7_radiusOf_32 : decode cX7_radiusOf 32 = .ok (.iload_n 3, 1) := by decide +kernel
theorem dX7_radiusOf_33 : decode cX7_radiusOf 33 = .ok (.imul, 1) := by decide +kernel
theorem dX7_radiusOf_34 : decode cX7_radiusOf 34 = .ok (.iload 4, 2) := by decide +kernel
theorem dX7_radiusOf_36 : decode cX7_radiusOf 36 = .ok (.iload 4, 2) := by decide +kernel
theorem dX7_radiusOf_38 : decode cX7_radiusOf 38 = .ok (.imul, 1) := by decide +kernel
theorem dX7_radiusOf_39 : decode cX7_radiusOf 39 = .ok (.iadd, 1) := by decide +kernel
theorem dX7_radiusOf_40 : decode cX7_radiusOf 40 = .ok (.invokestatic 148, 3) := by decide +kernel
theorem dX7_radiusOf_43 : decode cX7_radiusOf 43 = .ok (.ireturn, 1) := by decide +kernel
set_option maxRecDepth 20000 in
theorem ggX7_radius_X7_points : GoodIn wsX7_radius wsX7_points := goodIn_r _ [5, 6, 32, 33, 34, 35, 36, 37, 38, 39, 40, 41, 42, 43, 44, 45, 46, 47, 48, 49, 50] (by decide +kernel) (by decide +kernel)
set_option maxRecDepth 20000 in
theorem gX7_radius_X7_points : GoodIn wsX7_radius (wsV RX7 51 RX7 yX7_points wsX7_points) := goodIn_app (goodIn_of _ (by decide +kernel)) ggX7_radius_X7_points
set_option maxRecDepth 20000 in
theorem ggX7_radius_X7_radiusOf : GoodIn wsX7_radius wsX7_radiusOf := goodIn_r _ [10, 6, 11, 12, 13, 4, 14, 15, 16, 17, 18, 19, 20, 21, 22, 23, 24, 25, 26, 27, 28, 29, 30, 31, 32, 33, 34, 35, 36, 37, 38, 39, 40, 41, 42, 43, 44, 45, 46, 47, 48, 49, 50] (by decide +kernel) (by decide +kernel)
set_option maxRecDepth 20000 in
theorem gX7_radius_X7_radiusOf : GoodIn wsX7_radius (wsV RX7 151 RX7 yX7_radiusOf wsX7_radiusOf) := goodIn_app (goodIn_of _ (by decide +kernel)) ggX7_radius_X7_radiusOf
theorem dX7_radius_0 : decode cX7_radius 0 = .ok (.iconst 0, 1) := by decide +kernel
theorem dX7_radius_1 : decode cX7_radius 1 = .ok (.istore_n 2, 1) := by decide +kernel
theorem dX7_radius_2 : decode cX7_radius 2 = .ok (.iconst 0, 1) := by decide +kernel
theorem dX7_radius_3 : decode cX7_radius 3 = .ok (.istore_n 3, 1) := by decide +kernel
theorem dX7_radius_4 : decode cX7_radius 4 = .ok (.iload_n 3, 1) := by decide +kernel
theorem dX7_radius_5 : decode cX7_radius 5 = .ok (.aload_n 0, 1) := by decide +kernel
theorem dX7_radius_6 : decode cX7_radius 6 = .ok (.iload_n 1, 1) := by decide +kernel
theorem dX7_radius_7 : decode cX7_radius 7 = .ok (.invokevirtual 51, 3) := by decide +kernel
theorem dX7_radius_10 : decode cX7_radius 10 = .ok (.if_icmp .ge 18, 3) := by decide +kernel
theorem dX7_radius_13 : decode cX7_radius 13 = .ok (.iload_n 2, 1) := by decide +kernel
theorem dX7_radius_14 : decode cX7_radius 14 = .ok (.aload_n 0, 1) := by decide +kernel
theorem dX7_radius_15 : decode cX7_radius 15 = .ok (.iload_n 1, 1) := by decide +kernel
theorem dX7_radius_16 : decode cX7_radius 16 = .ok (.iload_n 3, 1) := by decide +kernel
theorem dX7_radius_17 : decode cX7_radius 17 = .ok (.invokevirtual 151, 3) := by decide +kernel
theorem dX7_radius_20 : decode cX7_radius 20 = .ok (.iadd, 1) := by decide +kernel
theorem dX7_radius_21 : decode cX7_radius 21 = .ok (.istore_n 2, 1) := by decide +kernel
theorem dX7_radius_22 : decode cX7_radius 22 = .ok (.iinc 3 1, 3) := by decide +kernel
theorem dX7_radius_25 : decode cX7_radius 25 = .ok (.goto (-21), 3) := by decide +kernel
theorem dX7_radius_28 : decode cX7_radius 28 = .ok (.iload_n 2, 1) := by decide +kernel
theorem dX7_radius_29 : decode cX7_radius 29 = .ok (.aload_n 0, 1) := by decide +kernel
theorem dX7_radius_30 : decode cX7_radius 30 = .ok (.iload_n 1, 1) := by decide +kernel
theorem dX7_radius_31 : decode cX7_radius 31 = .ok (.invokevirtual 51, 3) := by decide +kernel
theorem dX7_radius_34 : decode cX7_radius 34 = .ok (.idiv, 1) := by decide +kernel
theorem dX7_radius_35 : decode cX7_radius 35 = .ok (.ireturn, 1) := by decide +kernel
set_option maxRecDepth 20000 in
theorem ggX7_spread_X7_radiusOf : GoodIn wsX7_spread wsX7_radiusOf := goodIn_r _ [5, 6, 7, 8, 9, 4, 10, 11, 12, 13, 14, 15, 16, 17, 18, 19, 20, 21, 22, 23, 24, 25, 26, 27, 32, 33, 34, 35, 36, 37, 38, 39, 40, 41, 42, 43, 44, 45, 46, 47, 48, 49, 50] (by decide +kernel) (by decide +kernel)
set_option maxRecDepth 20000 in
theorem gX7_spread_X7_radiusOf : GoodIn wsX7_spread (wsV RX7 151 RX7 yX7_radiusOf wsX7_radiusOf) := goodIn_app (goodIn_of _ (by decide +kernel)) ggX7_spread_X7_radiusOf
set_option maxRecDepth 20000 in
theorem ggX7_spread_X7_points : GoodIn wsX7_spread wsX7_points := goodIn_r _ [31, 6, 32, 33, 34, 35, 36, 37, 38, 39, 40, 41, 42, 43, 44, 45, 46, 47, 48, 49, 50] (by decide +kernel) (by decide +kernel)
set_option maxRecDepth 20000 in
theorem gX7_spread_X7_points : GoodIn wsX7_spread (wsV RX7 51 RX7 yX7_points wsX7_points) := goodIn_app (goodIn_of _ (by decide +kernel)) ggX7_spread_X7_points
theorem dX7_spread_0 : decode cX7_spread 0 = .ok (.aload_n 0, 1) := by decide +kernel
theorem dX7_spread_1 : decode cX7_spread 1 = .ok (.iload_n 1, 1) := by decide +kernel
theorem dX7_spread_2 : decode cX7_spread 2 = .ok (.iconst 0, 1) := by decide +kernel
theorem dX7_spread_3 : decode cX7_spread 3 = .ok (.invokevirtual 151, 3) := by decide +kernel
theorem dX7_spread_6 : decode cX7_spread 6 = .ok (.istore_n 2, 1) := by decide +kernel
theorem dX7_spread_7 : decode cX7_spread 7 = .ok (.iload_n 2, 1) := by decide +kernel
theorem dX7_spread_8 : decode cX7_spread 8 = .ok (.istore_n 3, 1) := by decide +kernel
theorem dX7_spread_9 : decode cX7_spread 9 = .ok (.iconst 1, 1) := by decide +kernel
theorem dX7_spread_10 : decode cX7_spread 10 = .ok (.istore 4, 2) := by decide +kernel
theorem dX7_spread_12 : decode cX7_spread 12 = .ok (.iload 4, 2) := by decide +kernel
theorem dX7_spread_14 : decode cX7_spread 14 = .ok (.aload_n 0, 1) := by decide +kernel
theorem dX7_spread_15 : decode cX7_spread 15 = .ok (.iload_n 1, 1) := by decide +kernel
theorem dX7_spread_16 : decode cX7_spread 16 = .ok (.invokevirtual 51, 3) := by decide +kernel
theorem dX7_spread_19 : decode cX7_spread 19 = .ok (.if_icmp .ge 44, 3) := by decide +kernel
theorem dX7_spread_22 : decode cX7_spread 22 = .ok (.aload_n 0, 1) := by decide +kernel
theorem dX7_spread_23 : decode cX7_spread 23 = .ok (.iload_n 1, 1) := by decide +kernel
theorem dX7_spread_24 : decode cX7_spread 24 = .ok (.iload 4, 2) := by decide +kernel
theorem dX7_spread_26 : decode cX7_spread 26 = .ok (.invokevirtual 151, 3) := by decide +kernel
theorem dX7_spread_29 : decode cX7_spread 29 = .ok (.istore 5, 2) := by decide +kernel
theorem dX7_spread_31 : decode cX7_spread 31 = .ok (.iload 5, 2) := by decide +kernel
theorem dX7_spread_33 : decode cX7_spread 33 = .ok (.iload_n 2, 1) := by decide +kernel
theorem dX7_spread_34 : decode cX7_spread 34 = .ok (.if_icmp .ge 8, 3) := by decide +kernel
theorem dX7_spread_37 : decode cX7_spread 37 = .ok (.iload 5, 2) := by decide +kernel
theorem dX7_spread_39 : decode cX7_spread 39 = .ok (.goto 4, 3) := by decide +kernel
theorem dX7_spread_42 : decode cX7_spread 42 = .ok (.iload_n 2, 1) := by decide +kernel
theorem dX7_spread_43 : decode cX7_spread 43 = .ok (.istore_n 2, 1) := by decide +kernel
theorem dX7_spread_44 : decode cX7_spread 44 = .ok (.iload 5, 2) := by decide +kernel
theorem dX7_spread_46 : decode cX7_spread 46 = .ok (.iload_n 3, 1) := by decide +kernel
theorem dX7_spread_47 : decode cX7_spread 47 = .ok (.if_icmp .le 8, 3) := by decide +kernel
theorem dX7_spread_50 : decode cX7_spread 50 = .ok (.iload 5, 2) := by decide +kernel
theorem dX7_spread_52 : decode cX7_spread 52 = .ok (.goto 4, 3) := by decide +kernel
theorem dX7_spread_55 : decode cX7_spread 55 = .ok (.iload_n 3, 1) := by decide +kernel
theorem dX7_spread_56 : decode cX7_spread 56 = .ok (.istore_n 3, 1) := by decide +kernel
theorem dX7_spread_57 : decode cX7_spread 57 = .ok (.iinc 4 1, 3) := by decide +kernel
theorem dX7_spread_60 : decode cX7_spread 60 = .ok (.goto (-48), 3) := by decide +kernel
theorem dX7_spread_63 : decode cX7_spread 63 = .ok (.iload_n 3, 1) := by decide +kernel
theorem dX7_spread_64 : decode cX7_spread 64 = .ok (.iload_n 2, 1) := by decide +kernel
theorem dX7_spread_65 : decode cX7_spread 65 = .ok (.isub, 1) := by decide +kernel
theorem dX7_spread_66 : decode cX7_spread 66 = .ok (.ireturn, 1) := by decide +kernel
set_option maxRecDepth 20000 in
theorem ggX7_plateCost_X7_points : GoodIn wsX7_plateCost wsX7_points := goodIn_r _ [6, 1, 36, 37, 38, 39, 40, 41, 42, 43, 44, 45, 46, 47, 48, 49, 50, 51, 52, 53, 54] (by decide +kernel) (by decide +kernel)
set_option maxRecDepth 20000 in
theorem gX7_plateCost_X7_points : GoodIn wsX7_plateCost (wsV RX7 51 RX7 yX7_points wsX7_points) := goodIn_app (goodIn_of _ (by decide +kernel)) ggX7_plateCost_X7_points
set_option maxRecDepth 20000 in
theorem ggX7_plateCost_X7_spread : GoodIn wsX7_plateCost wsX7_spread := goodIn_r _ [10, 11, 12, 13, 5, 14, 1, 15, 16, 17, 18, 19, 20, 21, 22, 23, 24, 25, 26, 27, 28, 29, 30, 31, 32, 33, 34, 35, 2, 3, 4, 6, 36, 37, 38, 39, 40, 41, 42, 43, 44, 45, 46, 47, 48, 49, 50, 51, 52, 53, 54] (by decide +kernel) (by decide +kernel)
set_option maxRecDepth 20000 in
theorem gX7_plateCost_X7_spread : GoodIn wsX7_plateCost (wsV RX7 154 RX7 yX7_spread wsX7_spread) := goodIn_app (goodIn_of _ (by decide +kernel)) ggX7_plateCost_X7_spread
theorem dX7_plateCost_0 : decode cX7_plateCost 0 = .ok (.iconst 0, 1) := by decide +kernel
theorem dX7_plateCost_1 : decode cX7_plateCost 1 = .ok (.istore_n 1, 1) := by decide +kernel
theorem dX7_plateCost_2 : decode cX7_plateCost 2 = .ok (.iconst 0, 1) := by decide +kernel
theorem dX7_plateCost_3 : decode cX7_plateCost 3 = .ok (.istore_n 2, 1) := by decide +kernel
theorem dX7_plateCost_4 : decode cX7_plateCost 4 = .ok (.iload_n 2, 1) := by decide +kernel
theorem dX7_plateCost_5 : decode cX7_plateCost 5 = .ok (.aload_n 0, 1) := by decide +kernel
theorem dX7_plateCost_6 : decode cX7_plateCost 6 = .ok (.getfield 7, 3) := by decide +kernel
theorem dX7_plateCost_9 : decode cX7_plateCost 9 = .ok (.bipush 12, 2) := by decide +kernel
theorem dX7_plateCost_11 : decode cX7_plateCost 11 = .ok (.iaload, 1) := by decide +kernel
theorem dX7_plateCost_12 : decode cX7_plateCost 12 = .ok (.if_icmp .ge 30, 3) := by decide +kernel
theorem dX7_plateCost_15 : decode cX7_plateCost 15 = .ok (.iload_n 1, 1) := by decide +kernel
theorem dX7_plateCost_16 : decode cX7_plateCost 16 = .ok (.aload_n 0, 1) := by decide +kernel
theorem dX7_plateCost_17 : decode cX7_plateCost 17 = .ok (.iload_n 2, 1) := by decide +kernel
theorem dX7_plateCost_18 : decode cX7_plateCost 18 = .ok (.invokevirtual 51, 3) := by decide +kernel
theorem dX7_plateCost_21 : decode cX7_plateCost 21 = .ok (.iconst 1, 1) := by decide +kernel
theorem dX7_plateCost_22 : decode cX7_plateCost 22 = .ok (.if_icmp .le 11, 3) := by decide +kernel
theorem dX7_plateCost_25 : decode cX7_plateCost 25 = .ok (.aload_n 0, 1) := by decide +kernel
theorem dX7_plateCost_26 : decode cX7_plateCost 26 = .ok (.iload_n 2, 1) := by decide +kernel
theorem dX7_plateCost_27 : decode cX7_plateCost 27 = .ok (.invokevirtual 154, 3) := by decide +kernel
theorem dX7_plateCost_30 : decode cX7_plateCost 30 = .ok (.goto 4, 3) := by decide +kernel
theorem dX7_plateCost_33 : decode cX7_plateCost 33 = .ok (.iconst 0, 1) := by decide +kernel
theorem dX7_plateCost_34 : decode cX7_plateCost 34 = .ok (.iadd, 1) := by decide +kernel
theorem dX7_plateCost_35 : decode cX7_plateCost 35 = .ok (.istore_n 1, 1) := by decide +kernel
theorem dX7_plateCost_36 : decode cX7_plateCost 36 = .ok (.iinc 2 1, 3) := by decide +kernel
theorem dX7_plateCost_39 : decode cX7_plateCost 39 = .ok (.goto (-35), 3) := by decide +kernel
theorem dX7_plateCost_42 : decode cX7_plateCost 42 = .ok (.iload_n 1, 1) := by decide +kernel
theorem dX7_plateCost_43 : decode cX7_plateCost 43 = .ok (.ireturn, 1) := by decide +kernel
theorem dX7_turnBy_0 : decode cX7_turnBy 0 = .ok (.iload_n 0, 1) := by decide +kernel
theorem dX7_turnBy_1 : decode cX7_turnBy 1 = .ok (.tableswitch 127 0 14 #[75, 78, 82, 86, 90, 94, 98, 102, 106, 110, 113, 116, 119, 122, 125], 75) := by decide +kernel
theorem dX7_turnBy_76 : decode cX7_turnBy 76 = .ok (.ldc 157, 2) := by decide +kernel
theorem dX7_turnBy_78 : decode cX7_turnBy 78 = .ok (.ireturn, 1) := by decide +kernel
theorem dX7_turnBy_79 : decode cX7_turnBy 79 = .ok (.sipush 26565, 3) := by decide +kernel
theorem dX7_turnBy_82 : decode cX7_turnBy 82 = .ok (.ireturn, 1) := by decide +kernel
theorem dX7_turnBy_83 : decode cX7_turnBy 83 = .ok (.sipush 14036, 3) := by decide +kernel
theorem dX7_turnBy_86 : decode cX7_turnBy 86 = .ok (.ireturn, 1) := by decide +kernel
theorem dX7_turnBy_87 : decode cX7_turnBy 87 = .ok (.sipush 7125, 3) := by decide +kernel
theorem dX7_turnBy_90 : decode cX7_turnBy 90 = .ok (.ireturn, 1) := by decide +kernel
theorem dX7_turnBy_91 : decode cX7_turnBy 91 = .ok (.sipush 3576, 3) := by decide +kernel
theorem dX7_turnBy_94 : decode cX7_turnBy 94 = .ok (.ireturn, 1) := by decide +kernel
theorem dX7_turnBy_95 : decode cX7_turnBy 95 = .ok (.sipush 1790, 3) := by decide +kernel
theorem dX7_turnBy_98 : decode cX7_turnBy 98 = .ok (.ireturn, 1) := by decide +kernel
theorem dX7_turnBy_99 : decode cX7_turnBy 99 = .ok (.sipush 895, 3) := by decide +kernel
theorem dX7_turnBy_102 : decode cX7_turnBy 102 = .ok (.ireturn, 1) := by decide +kernel
theorem dX7_turnBy_103 : decode cX7_turnBy 103 = .ok (.sipush 448, 3) := by decide +kernel
theorem dX7_turnBy_106 : decode cX7_turnBy 106 = .ok (.ireturn, 1) := by decide +kernel
theorem dX7_turnBy_107 : decode cX7_turnBy 107 = .ok (.sipush 224, 3) := by decide +kernel
theorem dX7_turnBy_110 : decode cX7_turnBy 110 = .ok (.ireturn, 1) := by decide +kernel
theorem dX7_turnBy_111 : decode cX7_turnBy 111 = .ok (.bipush 112, 2) := by decide +kernel
theorem dX7_turnBy_113 : decode cX7_turnBy 113 = .ok (.ireturn, 1) := by decide +kernel
theorem dX7_turnBy_114 : decode cX7_turnBy 114 = .ok (.bipush 56, 2) := by decide +kernel
theorem dX7_turnBy_116 : decode cX7_turnBy 116 = .ok (.ireturn, 1) := by decide +kernel
theorem dX7_turnBy_117 : decode cX7_turnBy 117 = .ok (.bipush 28, 2) := by decide +kernel
theorem dX7_turnBy_119 : decode cX7_turnBy 119 = .ok (.ireturn, 1) := by decide +kernel
theorem dX7_turnBy_120 : decode cX7_turnBy 120 = .ok (.bipush 14, 2) := by decide +kernel
theorem dX7_turnBy_122 : decode cX7_turnBy 122 = .ok (.ireturn, 1) := by decide +kernel
theorem dX7_turnBy_123 : decode cX7_turnBy 123 = .ok (.bipush 7, 2) := by decide +kernel
theorem dX7_turnBy_125 : decode cX7_turnBy 125 = .ok (.ireturn, 1) := by decide +kernel
theorem dX7_turnBy_126 : decode cX7_turnBy 126 = .ok (.iconst 3, 1) := by decide +kernel
theorem dX7_turnBy_127 : decode cX7_turnBy 127 = .ok (.ireturn, 1) := by decide +kernel
theorem dX7_turnBy_128 : decode cX7_turnBy 128 = .ok (.iconst 2, 1) := by decide +kernel
theorem dX7_turnBy_129 : decode cX7_turnBy 129 = .ok (.ireturn, 1) := by decide +kernel
set_option maxRecDepth 20000 in
theorem ggX7_angle_X7_size : GoodIn wsX7_angle wsX7_size := goodIn_r _ [5] (by decide +kernel) (by decide +kernel)
set_option maxRecDepth 20000 in
theorem gX7_angle_X7_size : GoodIn wsX7_angle (va_wsS RX7 158 yX7_size wsX7_size) := goodIn_app (goodIn_of _ (by decide +kernel)) ggX7_angle_X7_size
set_option maxRecDepth 20000 in
theorem ggX7_angle_X7_turnBy : GoodIn wsX7_angle wsX7_turnBy := goodIn_r _ [8, 9] (by decide +kernel) (by decide +kernel)
set_option maxRecDepth 20000 in
theorem gX7_angle_X7_turnBy : GoodIn wsX7_angle (va_wsS RX7 161 yX7_turnBy wsX7_turnBy) := goodIn_app (goodIn_of _ (by decide +kernel)) ggX7_angle_X7_turnBy
set_option maxRecDepth 20000 in
theorem ggX7_angle_X7_around : GoodIn wsX7_angle wsX7_around := goodIn_r _ [12, 13] (by decide +kernel) (by decide +kernel)
set_option maxRecDepth 20000 in
theorem gX7_angle_X7_around : GoodIn wsX7_angle (va_wsS RX7 164 yX7_around wsX7_around) := goodIn_app (goodIn_of _ (by decide +kernel)) ggX7_angle_X7_around
theorem dX7_angle_0 : decode cX7_angle 0 = .ok (.iload_n 0, 1) := by decide +kernel
theorem dX7_angle_1 : decode cX7_angle 1 = .ok (.ifCond .ne 9, 3) := by decide +kernel
theorem dX7_angle_4 : decode cX7_angle 4 = .ok (.iload_n 1, 1) := by decide +kernel
theorem dX7_angle_5 : decode cX7_angle 5 = .ok (.ifCond .ne 5, 3) := by decide +kernel
theorem dX7_angle_8 : decode cX7_angle 8 = .ok (.iconst 0, 1) := by decide +kernel
theorem dX7_angle_9 : decode cX7_angle 9 = .ok (.ireturn, 1) := by decide +kernel
theorem dX7_angle_10 : decode cX7_angle 10 = .ok (.iload_n 0, 1) := by decide +kernel
theorem dX7_angle_11 : decode cX7_angle 11 = .ok (.ifCond .ge 8, 3) := by decide +kernel
theorem dX7_angle_14 : decode cX7_angle 14 = .ok (.ldc 85, 2) := by decide +kernel
theorem dX7_angle_16 : decode cX7_angle 16 = .ok (.goto 4, 3) := by decide +kernel
theorem dX7_angle_19 : decode cX7_angle 19 = .ok (.iconst 0, 1) := by decide +kernel
theorem dX7_angle_20 : decode cX7_angle 20 = .ok (.istore_n 2, 1) := by decide +kernel
theorem dX7_angle_21 : decode cX7_angle 21 = .ok (.sipush 1024, 3) := by decide +kernel
theorem dX7_angle_24 : decode cX7_angle 24 = .ok (.iload_n 0, 1) := by decide +kernel
theorem dX7_angle_25 : decode cX7_angle 25 = .ok (.invokestatic 158, 3) := by decide +kernel
theorem dX7_angle_28 : decode cX7_angle 28 = .ok (.imul, 1) := by decide +kernel
theorem dX7_angle_29 : decode cX7_angle 29 = .ok (.istore_n 3, 1) := by decide +kernel
theorem dX7_angle_30 : decode cX7_angle 30 = .ok (.sipush 1024, 3) := by decide +kernel
theorem dX7_angle_33 : decode cX7_angle 33 = .ok (.iload_n 0, 1) := by decide +kernel
theorem dX7_angle_34 : decode cX7_angle 34 = .ok (.ifCond .ge 8, 3) := by decide +kernel
theorem dX7_angle_37 : decode cX7_angle 37 = .ok (.iload_n 1, 1) := by decide +kernel
theorem dX7_angle_38 : decode cX7_angle 38 = .ok (.ineg, 1) := by decide +kernel
theorem dX7_angle_39 : decode cX7_angle 39 = .ok (.goto 4, 3) := by decide +kernel
theorem dX7_angle_42 : decode cX7_angle 42 = .ok (.iload_n 1, 1) := by decide +kernel
theorem dX7_angle_43 : decode cX7_angle 43 = .ok (.imul, 1) := by decide +kernel
theorem dX7_angle_44 : decode cX7_angle 44 = .ok (.istore 4, 2) := by decide +kernel
theorem dX7_angle_46 : decode cX7_angle 46 = .ok (.iconst 0, 1) := by decide +kernel
theorem dX7_angle_47 : decode cX7_angle 47 = .ok (.istore 5, 2) := by decide +kernel
theorem dX7_angle_49 : decode cX7_angle 49 = .ok (.iload 5, 2) := by decide +kernel
theorem dX7_angle_51 : decode cX7_angle 51 = .ok (.bipush 16, 2) := by decide +kernel
theorem dX7_angle_53 : decode cX7_angle 53 = .ok (.if_icmp .ge 72, 3) := by decide +kernel
theorem dX7_angle_56 : decode cX7_angle 56 = .ok (.iload 4, 2) := by decide +kernel
theorem dX7_angle_58 : decode cX7_angle 58 = .ok (.ifCond .le 7, 3) := by decide +kernel
theorem dX7_angle_61 : decode cX7_angle 61 = .ok (.iconst 1, 1) := by decide +kernel
theorem dX7_angle_62 : decode cX7_angle 62 = .ok (.goto 13, 3) := by decide +kernel
theorem dX7_angle_65 : decode cX7_angle 65 = .ok (.iload 4, 2) := by decide +kernel
theorem dX7_angle_67 : decode cX7_angle 67 = .ok (.ifCond .ge 7, 3) := by decide +kernel
theorem dX7_angle_70 : decode cX7_angle 70 = .ok (.iconst (-1), 1) := by decide +kernel
theorem dX7_angle_71 : decode cX7_angle 71 = .ok (.goto 4, 3) := by decide +kernel
theorem dX7_angle_74 : decode cX7_angle 74 = .ok (.iconst 0, 1) := by decide +kernel
theorem dX7_angle_75 : decode cX7_angle 75 = .ok (.istore 6, 2) := by decide +kernel
theorem dX7_angle_77 : decode cX7_angle 77 = .ok (.iload 6, 2) := by decide +kernel
theorem dX7_angle_79 : decode cX7_angle 79 = .ok (.iload 4, 2) := by decide +kernel
theorem dX7_angle_81 : decode cX7_angle 81 = .ok (.iload 5, 2) := by decide +kernel
theorem dX7_angle_83 : decode cX7_angle 83 = .ok (.ishr, 1) := by decide +kernel
theorem dX7_angle_84 : decode cX7_angle 84 = .ok (.imul, 1) := by decide +kernel
theorem dX7_angle_85 : decode cX7_angle 85 = .ok (.istore 7, 2) := by decide +kernel
theorem dX7_angle_87 : decode cX7_angle 87 = .ok (.iload 6, 2) := by decide +kernel
theorem dX7_angle_89 : decode cX7_angle 89 = .ok (.iload_n 3, 1) := by decide +kernel
theorem dX7_angle_90 : decode cX7_angle 90 = .ok (.iload 5, 2) := by decide +kernel
theorem dX7_angle_92 : decode cX7_angle 92 = .ok (.ishr, 1) := by decide +kernel
theorem dX7_angle_93 : decode cX7_angle 93 = .ok (.imul, 1) := by decide +kernel
theorem dX7_angle_94 : decode cX7_angle 94 = .ok (.istore 8, 2) := by decide +kernel
theorem dX7_angle_96 : decode cX7_angle 96 = .ok (.iload_n 3, 1) := by decide +kernel
theorem dX7_angle_97 : decode cX7_angle 97 = .ok (.iload 7, 2) := by decide +kernel
theorem dX7_angle_99 : decode cX7_angle 99 = .ok (.iadd, 1) := by decide +kernel
theorem dX7_angle_100 : decode cX7_angle 100 = .ok (.istore_n 3, 1) := by decide +kernel
theorem dX7_angle_101 : decode cX7_angle 101 = .ok (.iload 4, 2) := by decide +kernel
theorem dX7_angle_103 : decode cX7_angle 103 = .ok (.iload 8, 2) := by decide +kernel
theorem dX7_angle_105 : decode cX7_angle 105 = .ok (.isub, 1) := by decide +kernel
theorem dX7_angle_106 : decode cX7_angle 106 = .ok (.istore 4, 2) := by decide +kernel
theorem dX7_angle_108 : decode cX7_angle 108 = .ok (.iload_n 2, 1) := by decide +kernel
theorem dX7_angle_109 : decode cX7_angle 109 = .ok (.iload 6, 2) := by decide +kernel
theorem dX7_angle_111 : decode cX7_angle 111 = .ok (.iload 5, 2) := by decide +kernel
theorem dX7_angle_113 : decode cX7_angle 113 = .ok (.invokestatic 161, 3) := by decide +kernel
theorem dX7_angle_116 : decode cX7_angle 116 = .ok (.imul, 1) := by decide +kernel
theorem dX7_angle_117 : decode cX7_angle 117 = .ok (.iadd, 1) := by decide +kernel
theorem dX7_angle_118 : decode cX7_angle 118 = .ok (.istore_n 2, 1) := by decide +kernel
theorem dX7_angle_119 : decode cX7_angle 119 = .ok (.iinc 5 1, 3) := by decide +kernel
theorem dX7_angle_122 : decode cX7_angle 122 = .ok (.goto (-73), 3) := by decide +kernel
theorem dX7_angle_125 : decode cX7_angle 125 = .ok (.iload_n 2, 1) := by decide +kernel
theorem dX7_angle_126 : decode cX7_angle 126 = .ok (.invokestatic 164, 3) := by decide +kernel
theorem dX7_angle_129 : decode cX7_angle 129 = .ok (.ireturn, 1) := by decide +kernel
set_option maxRecDepth 20000 in
theorem ggX7_angleOf_X7_placeX : GoodIn wsX7_angleOf wsX7_placeX := goodIn_r _ [6, 1, 7, 8, 5, 9, 10, 11, 12, 13, 14, 15, 16, 36, 37, 38, 39, 40, 41, 42, 43, 44, 45, 46, 47, 48, 49, 50, 51, 52, 53, 54] (by decide +kernel) (by decide +kernel)
set_option maxRecDepth 20000 in
theorem gX7_angleOf_X7_placeX : GoodIn wsX7_angleOf (wsV RX7 142 RX7 yX7_placeX wsX7_placeX) := goodIn_app (goodIn_of _ (by decide +kernel)) ggX7_angleOf_X7_placeX
set_option maxRecDepth 20000 in
theorem ggX7_angleOf_X7_placeY : GoodIn wsX7_angleOf wsX7_placeY := goodIn_r _ [20, 1, 7, 8, 5, 9, 10, 11, 12, 13, 14, 15, 16, 36, 37, 38, 39, 40, 41, 42, 43, 44, 45, 46, 47, 48, 49, 50, 51, 52, 53, 54] (by decide +kernel) (by decide +kernel)
set_option maxRecDepth 20000 in
theorem gX7_angleOf_X7_placeY : GoodIn wsX7_angleOf (wsV RX7 145 RX7 yX7_placeY wsX7_placeY) := goodIn_app (goodIn_of _ (by decide +kernel)) ggX7_angleOf_X7_placeY
set_option maxRecDepth 20000 in
theorem ggX7_angleOf_X7_angle : GoodIn wsX7_angleOf wsX7_angle := goodIn_r _ [23, 24, 25, 26, 5, 27, 28, 29, 30, 31, 32, 33, 34, 35] (by decide +kernel) (by decide +kernel)
set_option maxRecDepth 20000 in
theorem gX7_angleOf_X7_angle : GoodIn wsX7_angleOf (va_wsS RX7 167 yX7_angle wsX7_angle) := goodIn_app (goodIn_of _ (by decide +kernel)) ggX7_angleOf_X7_angle
theorem dX7_angleOf_0 : decode cX7_angleOf 0 = .ok (.aload_n 0, 1) := by decide +kernel
theorem dX7_angleOf_1 : decode cX7_angleOf 1 = .ok (.iload_n 1, 1) := by decide +kernel
theorem dX7_angleOf_2 : decode cX7_angleOf 2 = .ok (.iload_n 2, 1) := by decide +kernel
theorem dX7_angleOf_3 : decode cX7_angleOf 3 = .ok (.invokevirtual 142, 3) := by decide +kernel
theorem dX7_angleOf_6 : decode cX7_angleOf 6 = .ok (.aload_n 0, 1) := by decide +kernel
theorem dX7_angleOf_7 : decode cX7_angleOf 7 = .ok (.getfield 7, 3) := by decide +kernel
theorem dX7_angleOf_10 : decode cX7_angleOf 10 = .ok (.bipush 10, 2) := by decide +kernel
theorem dX7_angleOf_12 : decode cX7_angleOf 12 = .ok (.iaload, 1) := by decide +kernel
theorem dX7_angleOf_13 : decode cX7_angleOf 13 = .ok (.isub, 1) := by decide +kernel
theorem dX7_angleOf_14 : decode cX7_angleOf 14 = .ok (.aload_n 0, 1) := by decide +kernel
theorem dX7_angleOf_15 : decode cX7_angleOf 15 = .ok (.iload_n 1, 1) := by decide +kernel
theorem dX7_angleOf_16 : decode cX7_angleOf 16 = .ok (.iload_n 2, 1) := by decide +kernel
theorem dX7_angleOf_17 : decode cX7_angleOf 17 = .ok (.invokevirtual 145, 3) := by decide +kernel
theorem dX7_angleOf_20 : decode cX7_angleOf 20 = .ok (.aload_n 0, 1) := by decide +kernel
theorem dX7_angleOf_21 : decode cX7_angleOf 21 = .ok (.getfield 7, 3) := by decide +kernel
theorem dX7_angleOf_24 : decode cX7_angleOf 24 = .ok (.bipush 11, 2) := by decide +kernel
theorem dX7_angleOf_26 : decode cX7_angleOf 26 = .ok (.iaload, 1) := by decide +kernel
theorem dX7_angleOf_27 : decode cX7_angleOf 27 = .ok (.isub, 1) := by decide +kernel
theorem dX7_angleOf_28 : decode cX7_angleOf 28 = .ok (.invokestatic 167, 3) := by decide +kernel
theorem dX7_angleOf_31 : decode cX7_angleOf 31 = .ok (.ireturn, 1) := by decide +kernel
set_option maxRecDepth 20000 in
theorem ggX7_turn_X7_around : GoodIn wsX7_turn wsX7_around := goodIn_r _ [6, 2] (by decide +kernel) (by decide +kernel)
set_option maxRecDepth 20000 in
theorem gX7_turn_X7_around : GoodIn wsX7_turn (va_wsS RX7 164 yX7_around wsX7_around) := goodIn_app (goodIn_of _ (by decide +kernel)) ggX7_turn_X7_around
theorem dX7_turn_0 : decode cX7_turn 0 = .ok (.iload_n 1, 1) := by decide +kernel
theorem dX7_turn_1 : decode cX7_turn 1 = .ok (.iload_n 0, 1) := by decide +kernel
theorem dX7_turn_2 : decode cX7_turn 2 = .ok (.isub, 1) := by decide +kernel
theorem dX7_turn_3 : decode cX7_turn 3 = .ok (.invokestatic 164, 3) := by decide +kernel
theorem dX7_turn_6 : decode cX7_turn 6 = .ok (.istore_n 2, 1) := by decide +kernel
theorem dX7_turn_7 : decode cX7_turn 7 = .ok (.iload_n 2, 1) := by decide +kernel
theorem dX7_turn_8 : decode cX7_turn 8 = .ok (.ldc 85, 2) := by decide +kernel
theorem dX7_turn_10 : decode cX7_turn 10 = .ok (.if_icmp .le 10, 3) := by decide +kernel
theorem dX7_turn_13 : decode cX7_turn 13 = .ok (.iload_n 2, 1) := by decide +kernel
theorem dX7_turn_14 : decode cX7_turn 14 = .ok (.ldc 35, 2) := by decide +kernel
theorem dX7_turn_16 : decode cX7_turn 16 = .ok (.isub, 1) := by decide +kernel
theorem dX7_turn_17 : decode cX7_turn 17 = .ok (.goto 4, 3) := by decide +kernel
theorem dX7_turn_20 : decode cX7_turn 20 = .ok (.iload_n 2, 1) := by decide +kernel
theorem dX7_turn_21 : decode cX7_turn 21 = .ok (.ireturn, 1) := by decide +kernel
set_option maxRecDepth 20000 in
theorem ggX7_sweep_X7_points : GoodIn wsX7_sweep wsX7_points := goodIn_r _ [5, 6, 47, 48, 49, 50, 51, 52, 53, 54, 55, 56, 57, 58, 59, 60, 61, 62, 63, 64, 65] (by decide +kernel) (by decide +kernel)
set_option maxRecDepth 20000 in
theorem gX7_sweep_X7_points : GoodIn wsX7_sweep (wsV RX7 51 RX7 yX7_points wsX7_points) := goodIn_app (goodIn_of _ (by decide +kernel)) ggX7_sweep_X7_points
set_option maxRecDepth 20000 in
theorem ggX7_sweep_X7_angleOf : GoodIn wsX7_sweep wsX7_angleOf := goodIn_r _ [10, 6, 11, 12, 13, 4, 14, 15, 16, 17, 18, 19, 20, 21, 22, 23, 24, 25, 26, 27, 28, 29, 30, 31, 32, 33, 34, 35, 36, 37, 38, 39, 40, 41, 42, 43, 47, 48, 49, 50, 51, 52, 53, 54, 55, 56, 57, 58, 59, 60, 61, 62, 63, 64, 65] (by decide +kernel) (by decide +kernel)
set_option maxRecDepth 20000 in
theorem gX7_sweep_X7_angleOf : GoodIn wsX7_sweep (wsV RX7 170 RX7 yX7_angleOf wsX7_angleOf) := goodIn_app (goodIn_of _ (by decide +kernel)) ggX7_sweep_X7_angleOf
set_option maxRecDepth 20000 in
theorem ggX7_sweep_X7_turn : GoodIn wsX7_sweep wsX7_turn := goodIn_r _ [46, 32, 43, 40, 41, 4, 42] (by decide +kernel) (by decide +kernel)
set_option maxRecDepth 20000 in
theorem gX7_sweep_X7_turn : GoodIn wsX7_sweep (va_wsS RX7 173 yX7_turn wsX7_turn) := goodIn_app (goodIn_of _ (by decide +kernel)) ggX7_sweep_X7_turn
theorem dX7_sweep_0 : decode cX7_sweep 0 = .ok (.iconst 0, 1) := by decide +kernel
theorem dX7_sweep_1 : decode cX7_sweep 1 = .ok (.istore_n 2, 1) := by decide +kernel
theorem dX7_sweep_2 : decode cX7_sweep 2 = .ok (.iconst 1, 1) := by decide +kernel
theorem dX7_sweep_3 : decode cX7_sweep 3 = .ok (.istore_n 3, 1) := by decide +kernel
theorem dX7_sweep_4 : decode cX7_sweep 4 = .ok (.iload_n 3, 1) := by decide +kernel
theorem dX7_sweep_5 : decode cX7_sweep 5 = .ok (.aload_n 0, 1) := by decide +kernel
theorem dX7_sweep_6 : decode cX7_sweep 6 = .ok (.iload_n 1, 1) := by decide +kernel
theorem dX7_sweep_7 : decode cX7_sweep 7 = .ok (.invokevirtual 51, 3) := by decide +kernel
theorem dX7_sweep_10 : decode cX7_sweep 10 = .ok (.if_icmp .ge 29, 3) := by decide +kernel
theorem dX7_sweep_13 : decode cX7_sweep 13 = .ok (.iload_n 2, 1) := by decide +kernel
theorem dX7_sweep_14 : decode cX7_sweep 14 = .ok (.aload_n 0, 1) := by decide +kernel
theorem dX7_sweep_15 : decode cX7_sweep 15 = .ok (.iload_n 1, 1) := by decide +kernel
theorem dX7_sweep_16 : decode cX7_sweep 16 = .ok (.iload_n 3, 1) := by decide +kernel
theorem dX7_sweep_17 : decode cX7_sweep 17 = .ok (.iconst 1, 1) := by decide +kernel
theorem dX7_sweep_18 : decode cX7_sweep 18 = .ok (.isub, 1) := by decide +kernel
theorem dX7_sweep_19 : decode cX7_sweep 19 = .ok (.invokevirtual 170, 3) := by decide +kernel
theorem dX7_sweep_22 : decode cX7_sweep 22 = .ok (.aload_n 0, 1) := by decide +kernel
theorem dX7_sweep_23 : decode cX7_sweep 23 = .ok (.iload_n 1, 1) := by decide +kernel
theorem dX7_sweep_24 : decode cX7_sweep 24 = .ok (.iload_n 3, 1) := by decide +kernel
theorem dX7_sweep_25 : decode cX7_sweep 25 = .ok (.invokevirtual 170, 3) := by decide +kernel
theorem dX7_sweep_28 : decode cX7_sweep 28 = .ok (.invokestatic 173, 3) := by decide +kernel
theorem dX7_sweep_31 : decode cX7_sweep 31 = .ok (.iadd, 1) := by decide +kernel
theorem dX7_sweep_32 : decode cX7_sweep 32 = .ok (.istore_n 2, 1) := by decide +kernel
theorem dX7_sweep_33 : decode cX7_sweep 33 = .ok (.iinc 3 1, 3) := by decide +kernel
theorem dX7_sweep_36 : decode cX7_sweep 36 = .ok (.goto (-32), 3) := by decide +kernel
theorem dX7_sweep_39 : decode cX7_sweep 39 = .ok (.iload_n 2, 1) := by decide +kernel
theorem dX7_sweep_40 : decode cX7_sweep 40 = .ok (.ireturn, 1) := by decide +kernel
set_option maxRecDepth 20000 in
theorem ggX7_frames_X7_points : GoodIn wsX7_frames wsX7_points := goodIn_r _ [5, 6, 14, 15, 16, 17, 18, 19, 20, 21, 22, 23, 24, 25, 26, 27, 28, 29, 30, 31, 32] (by decide +kernel) (by decide +kernel)
set_option maxRecDepth 20000 in
theorem gX7_frames_X7_points : GoodIn wsX7_frames (wsV RX7 51 RX7 yX7_points wsX7_points) := goodIn_app (goodIn_of _ (by decide +kernel)) ggX7_frames_X7_points
set_option maxRecDepth 20000 in
theorem ggX7_frames_X7_frameOf : GoodIn wsX7_frames wsX7_frameOf := goodIn_r _ [10, 6, 11, 12, 4, 13, 14, 15, 16, 17, 18, 19, 20, 21, 22, 23, 24, 25, 26, 27, 28, 29, 30, 31, 32] (by decide +kernel) (by decide +kernel)
set_option maxRecDepth 20000 in
theorem gX7_frames_X7_frameOf : GoodIn wsX7_frames (wsV RX7 65 RX7 yX7_frameOf wsX7_frameOf) := goodIn_app (goodIn_of _ (by decide +kernel)) ggX7_frames_X7_frameOf
theorem dX7_frames_0 : decode cX7_frames 0 = .ok (.aload_n 0, 1) := by decide +kernel
theorem dX7_frames_1 : decode cX7_frames 1 = .ok (.iload_n 1, 1) := by decide +kernel
theorem dX7_frames_2 : decode cX7_frames 2 = .ok (.aload_n 0, 1) := by decide +kernel
theorem dX7_frames_3 : decode cX7_frames 3 = .ok (.iload_n 1, 1) := by decide +kernel
theorem dX7_frames_4 : decode cX7_frames 4 = .ok (.invokevirtual 51, 3) := by decide +kernel
theorem dX7_frames_7 : decode cX7_frames 7 = .ok (.iconst 1, 1) := by decide +kernel
theorem dX7_frames_8 : decode cX7_frames 8 = .ok (.isub, 1) := by decide +kernel
theorem dX7_frames_9 : decode cX7_frames 9 = .ok (.invokevirtual 65, 3) := by decide +kernel
theorem dX7_frames_12 : decode cX7_frames 12 = .ok (.aload_n 0, 1) := by decide +kernel
theorem dX7_frames_13 : decode cX7_frames 13 = .ok (.iload_n 1, 1) := by decide +kernel
theorem dX7_frames_14 : decode cX7_frames 14 = .ok (.iconst 0, 1) := by decide +kernel
theorem dX7_frames_15 : decode cX7_frames 15 = .ok (.invokevirtual 65, 3) := by decide +kernel
theorem dX7_frames_18 : decode cX7_frames 18 = .ok (.isub, 1) := by decide +kernel
theorem dX7_frames_19 : decode cX7_frames 19 = .ok (.ireturn, 1) := by decide +kernel
set_option maxRecDepth 20000 in
theorem ggX7_misfit_X7_sweep : GoodIn wsX7_misfit wsX7_sweep := goodIn_r _ [6, 7, 8, 9, 5, 10, 1, 11, 12, 13, 14, 15, 16, 17, 18, 19, 20, 21, 22, 23, 24, 25, 26, 27, 28, 29, 30, 31, 32, 33, 34, 35, 36, 37, 38, 39, 40, 41, 42, 43, 44, 45, 46, 47, 48, 49, 50, 55, 56, 57, 58, 59, 60, 61, 62, 63, 64, 65, 66, 67, 68, 69, 70, 71, 72, 73] (by decide +kernel) (by decide +kernel)
set_option maxRecDepth 20000 in
theorem gX7_misfit_X7_sweep : GoodIn wsX7_misfit (wsV RX7 176 RX7 yX7_sweep wsX7_sweep) := goodIn_app (goodIn_of _ (by decide +kernel)) ggX7_misfit_X7_sweep
set_option maxRecDepth 20000 in
theorem ggX7_misfit_X7_frames : GoodIn wsX7_misfit wsX7_frames := goodIn_r _ [54, 7, 8, 9, 5, 10, 1, 22, 23, 24, 25, 19, 20, 21, 55, 56, 57, 58, 59, 60, 61, 62, 63, 64, 65, 66, 67, 68, 69, 70, 71, 72, 73] (by decide +kernel) (by decide +kernel)
set_option maxRecDepth 20000 in
theorem gX7_misfit_X7_frames : GoodIn wsX7_misfit (wsV RX7 179 RX7 yX7_frames wsX7_frames) := goodIn_app (goodIn_of _ (by decide +kernel)) ggX7_misfit_X7_frames
set_option maxRecDepth 20000 in
theorem ggX7_misfit_X7_size : GoodIn wsX7_misfit wsX7_size := goodIn_r _ [39] (by decide +kernel) (by decide +kernel)
set_option maxRecDepth 20000 in
theorem gX7_misfit_X7_size : GoodIn wsX7_misfit (va_wsS RX7 158 yX7_size wsX7_size) := goodIn_app (goodIn_of _ (by decide +kernel)) ggX7_misfit_X7_size
theorem dX7_misfit_0 : decode cX7_misfit 0 = .ok (.aload_n 0, 1) := by decide +kernel
theorem dX7_misfit_1 : decode cX7_misfit 1 = .ok (.iload_n 1, 1) := by decide +kernel
theorem dX7_misfit_2 : decode cX7_misfit 2 = .ok (.invokevirtual 176, 3) := by decide +kernel
theorem dX7_misfit_5 : decode cX7_misfit 5 = .ok (.aload_n 0, 1) := by decide +kernel
theorem dX7_misfit_6 : decode cX7_misfit 6 = .ok (.getfield 7, 3) := by decide +kernel
theorem dX7_misfit_9 : decode cX7_misfit 9 = .ok (.iconst 0, 1) := by decide +kernel
theorem dX7_misfit_10 : decode cX7_misfit 10 = .ok (.iaload, 1) := by decide +kernel
theorem dX7_misfit_11 : decode cX7_misfit 11 = .ok (.aload_n 0, 1) := by decide +kernel
theorem dX7_misfit_12 : decode cX7_misfit 12 = .ok (.iload_n 1, 1) := by decide +kernel
theorem dX7_misfit_13 : decode cX7_misfit 13 = .ok (.invokevirtual 179, 3) := by decide +kernel
theorem dX7_misfit_16 : decode cX7_misfit 16 = .ok (.imul, 1) := by decide +kernel
theorem dX7_misfit_17 : decode cX7_misfit 17 = .ok (.isub, 1) := by decide +kernel
theorem dX7_misfit_18 : decode cX7_misfit 18 = .ok (.invokestatic 158, 3) := by decide +kernel
theorem dX7_misfit_21 : decode cX7_misfit 21 = .ok (.ireturn, 1) := by decide +kernel
set_option maxRecDepth 20000 in
theorem ggX7_isGood_X7_points : GoodIn wsX7_isGood wsX7_points := goodIn_r _ [6, 1, 70, 71, 72, 73, 74, 75, 76, 77, 78, 79, 80, 81, 82, 83, 84, 85, 86, 87, 88] (by decide +kernel) (by decide +kernel)
set_option maxRecDepth 20000 in
theorem gX7_isGood_X7_points : GoodIn wsX7_isGood (wsV RX7 51 RX7 yX7_points wsX7_points) := goodIn_app (goodIn_of _ (by decide +kernel)) ggX7_isGood_X7_points
set_option maxRecDepth 20000 in
theorem ggX7_isGood_X7_spread : GoodIn wsX7_isGood wsX7_spread := goodIn_r _ [10, 11, 12, 13, 5, 14, 1, 15, 16, 17, 18, 19, 20, 21, 22, 23, 24, 25, 26, 27, 28, 29, 30, 31, 32, 33, 34, 35, 2, 3, 4, 6, 70, 71, 72, 73, 74, 75, 76, 77, 78, 79, 80, 81, 82, 83, 84, 85, 86, 87, 88] (by decide +kernel) (by decide +kernel)
set_option maxRecDepth 20000 in
theorem gX7_isGood_X7_spread : GoodIn wsX7_isGood (wsV RX7 154 RX7 yX7_spread wsX7_spread) := goodIn_app (goodIn_of _ (by decide +kernel)) ggX7_isGood_X7_spread
set_option maxRecDepth 20000 in
theorem ggX7_isGood_X7_misfit : GoodIn wsX7_isGood wsX7_misfit := goodIn_r _ [39, 1, 40, 41, 42, 5, 43, 2, 3, 4, 6, 44, 45, 46, 47, 15, 16, 17, 18, 19, 20, 21, 22, 23, 24, 25, 26, 27, 28, 29, 30, 31, 32, 48, 49, 50, 51, 52, 53, 54, 55, 56, 57, 58, 59, 60, 61, 62, 63, 64, 65, 66, 67, 68, 69, 70, 71, 72, 73, 74, 75, 76, 77, 78, 79, 80, 81, 82, 83, 84, 85, 86, 87, 88] (by decide +kernel) (by decide +kernel)
set_option maxRecDepth 20000 in
theorem gX7_isGood_X7_misfit : GoodIn wsX7_isGood (wsV RX7 182 RX7 yX7_misfit wsX7_misfit) := goodIn_app (goodIn_of _ (by decide +kernel)) ggX7_isGood_X7_misfit
theorem dX7_isGood_0 : decode cX7_isGood 0 = .ok (.aload_n 0, 1) := by decide +kernel
theorem dX7_isGood_1 : decode cX7_isGood 1 = .ok (.iload_n 1, 1) := by decide +kernel
theorem dX7_isGood_2 : decode cX7_isGood 2 = .ok (.invokevirtual 51, 3) := by decide +kernel
theorem dX7_isGood_5 : decode cX7_isGood 5 = .ok (.iconst 1, 1) := by decide +kernel
theorem dX7_isGood_6 : decode cX7_isGood 6 = .ok (.if_icmp .le 35, 3) := by decide +kernel
theorem dX7_isGood_9 : decode cX7_isGood 9 = .ok (.aload_n 0, 1) := by decide +kernel
theorem dX7_isGood_10 : decode cX7_isGood 10 = .ok (.iload_n 1, 1) := by decide +kernel
theorem dX7_isGood_11 : decode cX7_isGood 11 = .ok (.invokevirtual 154, 3) := by decide +kernel
theorem dX7_isGood_14 : decode cX7_isGood 14 = .ok (.aload_n 0, 1) := by decide +kernel
theorem dX7_isGood_15 : decode cX7_isGood 15 = .ok (.getfield 7, 3) := by decide +kernel
theorem dX7_isGood_18 : decode cX7_isGood 18 = .ok (.iconst 3, 1) := by decide +kernel
theorem dX7_isGood_19 : decode cX7_isGood 19 = .ok (.iaload, 1) := by decide +kernel
theorem dX7_isGood_20 : decode cX7_isGood 20 = .ok (.if_icmp .gt 21, 3) := by decide +kernel
theorem dX7_isGood_23 : decode cX7_isGood 23 = .ok (.aload_n 0, 1) := by decide +kernel
theorem dX7_isGood_24 : decode cX7_isGood 24 = .ok (.iload_n 1, 1) := by decide +kernel
theorem dX7_isGood_25 : decode cX7_isGood 25 = .ok (.invokevirtual 182, 3) := by decide +kernel
theorem dX7_isGood_28 : decode cX7_isGood 28 = .ok (.aload_n 0, 1) := by decide +kernel
theorem dX7_isGood_29 : decode cX7_isGood 29 = .ok (.getfield 7, 3) := by decide +kernel
theorem dX7_isGood_32 : decode cX7_isGood 32 = .ok (.iconst 4, 1) := by decide +kernel
theorem dX7_isGood_33 : decode cX7_isGood 33 = .ok (.iaload, 1) := by decide +kernel
theorem dX7_isGood_34 : decode cX7_isGood 34 = .ok (.if_icmp .gt 7, 3) := by decide +kernel
theorem dX7_isGood_37 : decode cX7_isGood 37 = .ok (.iconst 1, 1) := by decide +kernel
theorem dX7_isGood_38 : decode cX7_isGood 38 = .ok (.goto 4, 3) := by decide +kernel
theorem dX7_isGood_41 : decode cX7_isGood 41 = .ok (.iconst 0, 1) := by decide +kernel
theorem dX7_isGood_42 : decode cX7_isGood 42 = .ok (.ireturn, 1) := by decide +kernel
set_option maxRecDepth 20000 in
theorem ggX7_gaps_X7_points : GoodIn wsX7_gaps wsX7_points := goodIn_r _ [6, 1, 14, 15, 16, 17, 18, 19, 20, 21, 22, 23, 24, 25, 26, 27, 28, 29, 30, 31, 32] (by decide +kernel) (by decide +kernel)
set_option maxRecDepth 20000 in
theorem gX7_gaps_X7_points : GoodIn wsX7_gaps (wsV RX7 51 RX7 yX7_points wsX7_points) := goodIn_app (goodIn_of _ (by decide +kernel)) ggX7_gaps_X7_points
set_option maxRecDepth 20000 in
theorem ggX7_gaps_X7_frameOf : GoodIn wsX7_gaps wsX7_frameOf := goodIn_r _ [10, 1, 11, 12, 5, 13, 14, 15, 16, 17, 18, 19, 20, 21, 22, 23, 24, 25, 26, 27, 28, 29, 30, 31, 32] (by decide +kernel) (by decide +kernel)
set_option maxRecDepth 20000 in
theorem gX7_gaps_X7_frameOf : GoodIn wsX7_gaps (wsV RX7 65 RX7 yX7_frameOf wsX7_frameOf) := goodIn_app (goodIn_of _ (by decide +kernel)) ggX7_gaps_X7_frameOf
theorem dX7_gaps_0 : decode cX7_gaps 0 = .ok (.iconst 0, 1) := by decide +kernel
theorem dX7_gaps_1 : decode cX7_gaps 1 = .ok (.istore_n 2, 1) := by decide +kernel
theorem dX7_gaps_2 : decode cX7_gaps 2 = .ok (.iconst 1, 1) := by decide +kernel
theorem dX7_gaps_3 : decode cX7_gaps 3 = .ok (.istore_n 3, 1) := by decide +kernel
theorem dX7_gaps_4 : decode cX7_gaps 4 = .ok (.iload_n 3, 1) := by decide +kernel
theorem dX7_gaps_5 : decode cX7_gaps 5 = .ok (.aload_n 0, 1) := by decide +kernel
theorem dX7_gaps_6 : decode cX7_gaps 6 = .ok (.iload_n 1, 1) := by decide +kernel
theorem dX7_gaps_7 : decode cX7_gaps 7 = .ok (.invokevirtual 51, 3) := by decide +kernel
theorem dX7_gaps_10 : decode cX7_gaps 10 = .ok (.if_icmp .ge 42, 3) := by decide +kernel
theorem dX7_gaps_13 : decode cX7_gaps 13 = .ok (.iload_n 2, 1) := by decide +kernel
theorem dX7_gaps_14 : decode cX7_gaps 14 = .ok (.aload_n 0, 1) := by decide +kernel
theorem dX7_gaps_15 : decode cX7_gaps 15 = .ok (.iload_n 1, 1) := by decide +kernel
theorem dX7_gaps_16 : decode cX7_gaps 16 = .ok (.iload_n 3, 1) := by decide +kernel
theorem dX7_gaps_17 : decode cX7_gaps 17 = .ok (.invokevirtual 65, 3) := by decide +kernel
theorem dX7_gaps_20 : decode cX7_gaps 20 = .ok (.aload_n 0, 1) := by decide +kernel
theorem dX7_gaps_21 : decode cX7_gaps 21 = .ok (.iload_n 1, 1) := by decide +kernel
theorem dX7_gaps_22 : decode cX7_gaps 22 = .ok (.iload_n 3, 1) := by decide +kernel
theorem dX7_gaps_23 : decode cX7_gaps 23 = .ok (.iconst 1, 1) := by decide +kernel
theorem dX7_gaps_24 : decode cX7_gaps 24 = .ok (.isub, 1) := by decide +kernel
theorem dX7_gaps_25 : decode cX7_gaps 25 = .ok (.invokevirtual 65, 3) := by decide +kernel
theorem dX7_gaps_28 : decode cX7_gaps 28 = .ok (.isub, 1) := by decide +kernel
theorem dX7_gaps_29 : decode cX7_gaps 29 = .ok (.aload_n 0, 1) := by decide +kernel
theorem dX7_gaps_30 : decode cX7_gaps 30 = .ok (.getfield 7, 3) := by decide +kernel
theorem dX7_gaps_33 : decode cX7_gaps 33 = .ok (.bipush 6, 2) := by decide +kernel
theorem dX7_gaps_35 : decode cX7_gaps 35 = .ok (.iaload, 1) := by decide +kernel
theorem dX7_gaps_36 : decode cX7_gaps 36 = .ok (.if_icmp .le 7, 3) := by decide +kernel
theorem dX7_gaps_39 : decode cX7_gaps 39 = .ok (.iconst 1, 1) := by decide +kernel
theorem dX7_gaps_40 : decode cX7_gaps 40 = .ok (.goto 4, 3) := by decide +kernel
theorem dX7_gaps_43 : decode cX7_gaps 43 = .ok (.iconst 0, 1) := by decide +kernel
theorem dX7_gaps_44 : decode cX7_gaps 44 = .ok (.iadd, 1) := by decide +kernel
theorem dX7_gaps_45 : decode cX7_gaps 45 = .ok (.istore_n 2, 1) := by decide +kernel
theorem dX7_gaps_46 : decode cX7_gaps 46 = .ok (.iinc 3 1, 3) := by decide +kernel
theorem dX7_gaps_49 : decode cX7_gaps 49 = .ok (.goto (-45), 3) := by decide +kernel
theorem dX7_gaps_52 : decode cX7_gaps 52 = .ok (.iload_n 2, 1) := by decide +kernel
theorem dX7_gaps_53 : decode cX7_gaps 53 = .ok (.ireturn, 1) := by decide +kernel
set_option maxRecDepth 20000 in
theorem ggX7_plateRadius_X7_ofStar : GoodIn wsX7_plateRadius wsX7_ofStar := goodIn_r _ [7, 1, 8, 9, 10, 11, 12, 13, 14, 15, 16, 17, 18, 19, 20, 21, 22, 23, 24, 25, 26] (by decide +kernel) (by decide +kernel)
set_option maxRecDepth 20000 in
theorem gX7_plateRadius_X7_ofStar : GoodIn wsX7_plateRadius (wsV RX7 185 RX7 yX7_ofStar wsX7_ofStar) := goodIn_app (goodIn_of _ (by decide +kernel)) ggX7_plateRadius_X7_ofStar
theorem dX7_plateRadius_0 : decode cX7_plateRadius 0 = .ok (.aload_n 0, 1) := by decide +kernel
theorem dX7_plateRadius_1 : decode cX7_plateRadius 1 = .ok (.iload_n 1, 1) := by decide +kernel
theorem dX7_plateRadius_2 : decode cX7_plateRadius 2 = .ok (.iconst 0, 1) := by decide +kernel
theorem dX7_plateRadius_3 : decode cX7_plateRadius 3 = .ok (.invokevirtual 185, 3) := by decide +kernel
theorem dX7_plateRadius_6 : decode cX7_plateRadius 6 = .ok (.i2l, 1) := by decide +kernel
theorem dX7_plateRadius_7 : decode cX7_plateRadius 7 = .ok (.aload_n 0, 1) := by decide +kernel
theorem dX7_plateRadius_8 : decode cX7_plateRadius 8 = .ok (.getfield 7, 3) := by decide +kernel
theorem dX7_plateRadius_11 : decode cX7_plateRadius 11 = .ok (.bipush 7, 2) := by decide +kernel
theorem dX7_plateRadius_13 : decode cX7_plateRadius 13 = .ok (.iaload, 1) := by decide +kernel
theorem dX7_plateRadius_14 : decode cX7_plateRadius 14 = .ok (.i2l, 1) := by decide +kernel
theorem dX7_plateRadius_15 : decode cX7_plateRadius 15 = .ok (.lmul, 1) := by decide +kernel
theorem dX7_plateRadius_16 : decode cX7_plateRadius 16 = .ok (.ldc2_w 188, 3) := by decide +kernel
theorem dX7_plateRadius_19 : decode cX7_plateRadius 19 = .ok (.ldiv, 1) := by decide +kernel
theorem dX7_plateRadius_20 : decode cX7_plateRadius 20 = .ok (.l2i, 1) := by decide +kernel
theorem dX7_plateRadius_21 : decode cX7_plateRadius 21 = .ok (.ireturn, 1) := by decide +kernel
set_option maxRecDepth 20000 in
theorem ggX7_starAngleIn_X7_ofStar : GoodIn wsX7_starAngleIn wsX7_ofStar := goodIn_r _ [6, 1, 11, 12, 13, 14, 15, 16, 17, 18, 19, 20, 21, 22, 23, 24, 25, 26, 27, 28, 29] (by decide +kernel) (by decide +kernel)
set_option maxRecDepth 20000 in
theorem gX7_starAngleIn_X7_ofStar : GoodIn wsX7_starAngleIn (wsV RX7 185 RX7 yX7_ofStar wsX7_ofStar) := goodIn_app (goodIn_of _ (by decide +kernel)) ggX7_starAngleIn_X7_ofStar
set_option maxRecDepth 20000 in
theorem ggX7_starAngleIn_X7_around : GoodIn wsX7_starAngleIn wsX7_around := goodIn_r _ [9, 10] (by decide +kernel) (by decide +kernel)
set_option maxRecDepth 20000 in
theorem gX7_starAngleIn_X7_around : GoodIn wsX7_starAngleIn (va_wsS RX7 164 yX7_around wsX7_around) := goodIn_app (goodIn_of _ (by decide +kernel)) ggX7_starAngleIn_X7_around
theorem dX7_starAngleIn_0 : decode cX7_starAngleIn 0 = .ok (.aload_n 0, 1) := by decide +kernel
theorem dX7_starAngleIn_1 : decode cX7_starAngleIn 1 = .ok (.iload_n 1, 1) := by decide +kernel
theorem dX7_starAngleIn_2 : decode cX7_starAngleIn 2 = .ok (.iconst 1, 1) := by decide +kernel
theorem dX7_starAngleIn_3 : decode cX7_starAngleIn 3 = .ok (.invokevirtual 185, 3) := by decide +kernel
theorem dX7_starAngleIn_6 : decode cX7_starAngleIn 6 = .ok (.aload_n 0, 1) := by decide +kernel
theorem dX7_starAngleIn_7 : decode cX7_starAngleIn 7 = .ok (.getfield 7, 3) := by decide +kernel
theorem dX7_starAngleIn_10 : decode cX7_starAngleIn 10 = .ok (.bipush 8, 2) := by decide +kernel
theorem dX7_starAngleIn_12 : decode cX7_starAngleIn 12 = .ok (.iaload, 1) := by decide +kernel
theorem dX7_starAngleIn_13 : decode cX7_starAngleIn 13 = .ok (.iadd, 1) := by decide +kernel
theorem dX7_starAngleIn_14 : decode cX7_starAngleIn 14 = .ok (.aload_n 0, 1) := by decide +kernel
theorem dX7_starAngleIn_15 : decode cX7_starAngleIn 15 = .ok (.getfield 7, 3) := by decide +kernel
theorem dX7_starAngleIn_18 : decode cX7_starAngleIn 18 = .ok (.iconst 0, 1) := by decide +kernel
theorem dX7_starAngleIn_19 : decode cX7_starAngleIn 19 = .ok (.iaload, 1) := by decide +kernel
theorem dX7_starAngleIn_20 : decode cX7_starAngleIn 20 = .ok (.iload_n 2, 1) := by decide +kernel
theorem dX7_starAngleIn_21 : decode cX7_starAngleIn 21 = .ok (.imul, 1) := by decide +kernel
theorem dX7_starAngleIn_22 : decode cX7_starAngleIn 22 = .ok (.iadd, 1) := by decide +kernel
theorem dX7_starAngleIn_23 : decode cX7_starAngleIn 23 = .ok (.invokestatic 164, 3) := by decide +kernel
theorem dX7_starAngleIn_26 : decode cX7_starAngleIn 26 = .ok (.ireturn, 1) := by decide +kernel
set_option maxRecDepth 20000 in
theorem ggX7_costOf_X7_radius : GoodIn wsX7_costOf wsX7_radius := goodIn_r _ [6, 7, 8, 9, 5, 10, 11, 12, 13, 14, 15, 16, 17, 18, 19, 20, 21, 22, 23, 24, 25, 26, 27, 28, 29, 30, 31, 32, 33, 34, 35, 36, 72, 73, 74, 75, 76, 77, 78, 79, 80, 81, 82, 83, 84, 85, 86, 87, 88, 89, 90] (by decide +kernel) (by decide +kernel)
set_option maxRecDepth 20000 in
theorem gX7_costOf_X7_radius : GoodIn wsX7_costOf (wsV RX7 190 RX7 yX7_radius wsX7_radius) := goodIn_app (goodIn_of _ (by decide +kernel)) ggX7_costOf_X7_radius
set_option maxRecDepth 20000 in
theorem ggX7_costOf_X7_plateRadius : GoodIn wsX7_costOf wsX7_plateRadius := goodIn_r _ [40, 11, 41, 42, 43, 44, 5, 45, 72, 73, 74, 75, 76, 77, 78, 79, 80, 81, 82, 83, 84, 85, 86, 87, 88, 89, 90] (by decide +kernel) (by decide +kernel)
set_option maxRecDepth 20000 in
theorem gX7_costOf_X7_plateRadius : GoodIn wsX7_costOf (wsV RX7 193 RX7 yX7_plateRadius wsX7_plateRadius) := goodIn_app (goodIn_of _ (by decide +kernel)) ggX7_costOf_X7_plateRadius
set_option maxRecDepth 20000 in
theorem ggX7_costOf_X7_size : GoodIn wsX7_costOf wsX7_size := goodIn_r _ [48] (by decide +kernel) (by decide +kernel)
set_option maxRecDepth 20000 in
theorem gX7_costOf_X7_size : GoodIn wsX7_costOf (va_wsS RX7 158 yX7_size wsX7_size) := goodIn_app (goodIn_of _ (by decide +kernel)) ggX7_costOf_X7_size
set_option maxRecDepth 20000 in
theorem ggX7_costOf_X7_angleOf : GoodIn wsX7_costOf wsX7_angleOf := goodIn_r _ [52, 11, 16, 17, 18, 5, 19, 20, 21, 22, 23, 24, 25, 26, 27, 28, 29, 30, 31, 32, 33, 53, 54, 55, 56, 46, 47, 48, 57, 58, 59, 60, 61, 62, 63, 64, 72, 73, 74, 75, 76, 77, 78, 79, 80, 81, 82, 83, 84, 85, 86, 87, 88, 89, 90] (by decide +kernel) (by decide +kernel)
set_option maxRecDepth 20000 in
theorem gX7_costOf_X7_angleOf : GoodIn wsX7_costOf (wsV RX7 170 RX7 yX7_angleOf wsX7_angleOf) := goodIn_app (goodIn_of _ (by decide +kernel)) ggX7_costOf_X7_angleOf
set_option maxRecDepth 20000 in
theorem ggX7_costOf_X7_frameOf : GoodIn wsX7_costOf wsX7_frameOf := goodIn_r _ [26, 11, 20, 21, 5, 22, 72, 73, 74, 75, 76, 77, 78, 79, 80, 81, 82, 83, 84, 85, 86, 87, 88, 89, 90] (by decide +kernel) (by decide +kernel)
set_option maxRecDepth 20000 in
theorem gX7_costOf_X7_frameOf : GoodIn wsX7_costOf (wsV RX7 65 RX7 yX7_frameOf wsX7_frameOf) := goodIn_app (goodIn_of _ (by decide +kernel)) ggX7_costOf_X7_frameOf
set_option maxRecDepth 20000 in
theorem ggX7_costOf_X7_starAngleIn : GoodIn wsX7_costOf wsX7_starAngleIn := goodIn_r _ [68, 11, 42, 43, 44, 5, 45, 61, 62, 63, 64, 72, 73, 74, 75, 76, 77, 78, 79, 80, 81, 82, 83, 84, 85, 86, 87, 88, 89, 90] (by decide +kernel) (by decide +kernel)
set_option maxRecDepth 20000 in
theorem gX7_costOf_X7_starAngleIn : GoodIn wsX7_costOf (wsV RX7 196 RX7 yX7_starAngleIn wsX7_starAngleIn) := goodIn_app (goodIn_of _ (by decide +kernel)) ggX7_costOf_X7_starAngleIn
set_option maxRecDepth 20000 in
theorem ggX7_costOf_X7_turn : GoodIn wsX7_costOf wsX7_turn := goodIn_r _ [71, 56, 64, 61, 62, 5, 63] (by decide +kernel) (by decide +kernel)
set_option maxRecDepth 20000 in
theorem gX7_costOf_X7_turn : GoodIn wsX7_costOf (va_wsS RX7 173 yX7_turn wsX7_turn) := goodIn_app (goodIn_of _ (by decide +kernel)) ggX7_costOf_X7_turn
theorem dX7_costOf_0 : decode cX7_costOf 0 = .ok (.aload_n 0, 1) := by decide +kernel
theorem dX7_costOf_1 : decode cX7_costOf 1 = .ok (.iload_n 1, 1) := by decide +kernel
theorem dX7_costOf_2 : decode cX7_costOf 2 = .ok (.invokevirtual 190, 3) := by decide +kernel
theorem dX7_costOf_5 : decode cX7_costOf 5 = .ok (.aload_n 0, 1) := by decide +kernel
theorem dX7_costOf_6 : decode cX7_costOf 6 = .ok (.iload_n 2, 1) := by decide +kernel
theorem dX7_costOf_7 : decode cX7_costOf 7 = .ok (.invokevirtual 193, 3) := by decide +kernel
theorem dX7_costOf_10 : decode cX7_costOf 10 = .ok (.isub, 1) := by decide +kernel
theorem dX7_costOf_11 : decode cX7_costOf 11 = .ok (.invokestatic 158, 3) := by decide +kernel
theorem dX7_costOf_14 : decode cX7_costOf 14 = .ok (.istore_n 3, 1) := by decide +kernel
theorem dX7_costOf_15 : decode cX7_costOf 15 = .ok (.aload_n 0, 1) := by decide +kernel
theorem dX7_costOf_16 : decode cX7_costOf 16 = .ok (.iload_n 1, 1) := by decide +kernel
theorem dX7_costOf_17 : decode cX7_costOf 17 = .ok (.iconst 0, 1) := by decide +kernel
theorem dX7_costOf_18 : decode cX7_costOf 18 = .ok (.invokevirtual 170, 3) := by decide +kernel
theorem dX7_costOf_21 : decode cX7_costOf 21 = .ok (.aload_n 0, 1) := by decide +kernel
theorem dX7_costOf_22 : decode cX7_costOf 22 = .ok (.iload_n 2, 1) := by decide +kernel
theorem dX7_costOf_23 : decode cX7_costOf 23 = .ok (.aload_n 0, 1) := by decide +kernel
theorem dX7_costOf_24 : decode cX7_costOf 24 = .ok (.iload_n 1, 1) := by decide +kernel
theorem dX7_costOf_25 : decode cX7_costOf 25 = .ok (.iconst 0, 1) := by decide +kernel
theorem dX7_costOf_26 : decode cX7_costOf 26 = .ok (.invokevirtual 65, 3) := by decide +kernel
theorem dX7_costOf_29 : decode cX7_costOf 29 = .ok (.invokevirtual 196, 3) := by decide +kernel
theorem dX7_costOf_32 : decode cX7_costOf 32 = .ok (.invokestatic 173, 3) := by decide +kernel
theorem dX7_costOf_35 : decode cX7_costOf 35 = .ok (.invokestatic 158, 3) := by decide +kernel
theorem dX7_costOf_38 : decode cX7_costOf 38 = .ok (.i2l, 1) := by decide +kernel
theorem dX7_costOf_39 : decode cX7_costOf 39 = .ok (.lstore 4, 2) := by decide +kernel
theorem dX7_costOf_41 : decode cX7_costOf 41 = .ok (.iload_n 3, 1) := by decide +kernel
theorem dX7_costOf_42 : decode cX7_costOf 42 = .ok (.lload 4, 2) := by decide +kernel
theorem dX7_costOf_44 : decode cX7_costOf 44 = .ok (.aload_n 0, 1) := by decide +kernel
theorem dX7_costOf_45 : decode cX7_costOf 45 = .ok (.iload_n 1, 1) := by decide +kernel
theorem dX7_costOf_46 : decode cX7_costOf 46 = .ok (.invokevirtual 190, 3) := by decide +kernel
theorem dX7_costOf_49 : decode cX7_costOf 49 = .ok (.i2l, 1) := by decide +kernel
theorem dX7_costOf_50 : decode cX7_costOf 50 = .ok (.lmul, 1) := by decide +kernel
theorem dX7_costOf_51 : decode cX7_costOf 51 = .ok (.ldc2_w 199, 3) := by decide +kernel
theorem dX7_costOf_54 : decode cX7_costOf 54 = .ok (.ldiv, 1) := by decide +kernel
theorem dX7_costOf_55 : decode cX7_costOf 55 = .ok (.l2i, 1) := by decide +kernel
theorem dX7_costOf_56 : decode cX7_costOf 56 = .ok (.iadd, 1) := by decide +kernel
theorem dX7_costOf_57 : decode cX7_costOf 57 = .ok (.ireturn, 1) := by decide +kernel
set_option maxRecDepth 20000 in
theorem ggX7_matchNext_X7_points : GoodIn wsX7_matchNext wsX7_points := goodIn_r _ [12, 2, 13, 14, 15, 16, 17, 18, 19, 20, 21, 22, 23, 24, 25, 26, 27, 28, 29, 30, 31] (by decide +kernel) (by decide +kernel)
set_option maxRecDepth 20000 in
theorem gX7_matchNext_X7_points : GoodIn wsX7_matchNext (wsV RX7 51 RX7 yX7_points wsX7_points) := goodIn_app (goodIn_of _ (by decide +kernel)) ggX7_matchNext_X7_points
theorem dX7_matchNext_0 : decode cX7_matchNext 0 = .ok (.ldc 109, 2) := by decide +kernel
theorem dX7_matchNext_2 : decode cX7_matchNext 2 = .ok (.istore_n 1, 1) := by decide +kernel
theorem dX7_matchNext_3 : decode cX7_matchNext 3 = .ok (.iconst 0, 1) := by decide +kernel
theorem dX7_matchNext_4 : decode cX7_matchNext 4 = .ok (.istore_n 2, 1) := by decide +kernel
theorem dX7_matchNext_5 : decode cX7_matchNext 5 = .ok (.iload_n 2, 1) := by decide +kernel
theorem dX7_matchNext_6 : decode cX7_matchNext 6 = .ok (.bipush 12, 2) := by decide +kernel
theorem dX7_matchNext_8 : decode cX7_matchNext 8 = .ok (.aload_n 0, 1) := by decide +kernel
theorem dX7_matchNext_9 : decode cX7_matchNext 9 = .ok (.getfield 7, 3) := by decide +kernel
theorem dX7_matchNext_12 : decode cX7_matchNext 12 = .ok (.bipush 12, 2) := by decide +kernel
theorem dX7_matchNext_14 : decode cX7_matchNext 14 = .ok (.iaload, 1) := by decide +kernel
theorem dX7_matchNext_15 : decode cX7_matchNext 15 = .ok (.imul, 1) := by decide +kernel
theorem dX7_matchNext_16 : decode cX7_matchNext 16 = .ok (.if_icmp .ge 114, 3) := by decide +kernel
theorem dX7_matchNext_19 : decode cX7_matchNext 19 = .ok (.iload_n 2, 1) := by decide +kernel
theorem dX7_matchNext_20 : decode cX7_matchNext 20 = .ok (.bipush 12, 2) := by decide +kernel
theorem dX7_matchNext_22 : decode cX7_matchNext 22 = .ok (.irem, 1) := by decide +kernel
theorem dX7_matchNext_23 : decode cX7_matchNext 23 = .ok (.aload_n 0, 1) := by decide +kernel
theorem dX7_matchNext_24 : decode cX7_matchNext 24 = .ok (.getfield 7, 3) := by decide +kernel
theorem dX7_matchNext_27 : decode cX7_matchNext 27 = .ok (.bipush 13, 2) := by decide +kernel
theorem dX7_matchNext_29 : decode cX7_matchNext 29 = .ok (.iaload, 1) := by decide +kernel
theorem dX7_matchNext_30 : decode cX7_matchNext 30 = .ok (.if_icmp .ge 61, 3) := by decide +kernel
theorem dX7_matchNext_33 : decode cX7_matchNext 33 = .ok (.aload_n 0, 1) := by decide +kernel
theorem dX7_matchNext_34 : decode cX7_matchNext 34 = .ok (.iload_n 2, 1) := by decide +kernel
theorem dX7_matchNext_35 : decode cX7_matchNext 35 = .ok (.bipush 12, 2) := by decide +kernel
theorem dX7_matchNext_37 : decode cX7_matchNext 37 = .ok (.idiv, 1) := by decide +kernel
theorem dX7_matchNext_38 : decode cX7_matchNext 38 = .ok (.invokevirtual 51, 3) := by decide +kernel
theorem dX7_matchNext_41 : decode cX7_matchNext 41 = .ok (.ifCond .le 50, 3) := by decide +kernel
theorem dX7_matchNext_44 : decode cX7_matchNext 44 = .ok (.aload_n 0, 1) := by decide +kernel
theorem dX7_matchNext_45 : decode cX7_matchNext 45 = .ok (.getfield 22, 3) := by decide +kernel
theorem dX7_matchNext_48 : decode cX7_matchNext 48 = .ok (.iload_n 2, 1) := by decide +kernel
theorem dX7_matchNext_49 : decode cX7_matchNext 49 = .ok (.bipush 12, 2) := by decide +kernel
theorem dX7_matchNext_51 : decode cX7_matchNext 51 = .ok (.idiv, 1) := by decide +kernel
theorem dX7_matchNext_52 : decode cX7_matchNext 52 = .ok (.iaload, 1) := by decide +kernel
theorem dX7_matchNext_53 : decode cX7_matchNext 53 = .ok (.ldc 109, 2) := by decide +kernel
theorem dX7_matchNext_55 : decode cX7_matchNext 55 = .ok (.if_icmp .ne 36, 3) := by decide +kernel
theorem dX7_matchNext_58 : decode cX7_matchNext 58 = .ok (.aload_n 0, 1) := by decide +kernel
theorem dX7_matchNext_59 : decode cX7_matchNext 59 = .ok (.getfield 25, 3) := by decide +kernel
theorem dX7_matchNext_62 : decode cX7_matchNext 62 = .ok (.iload_n 2, 1) := by decide +kernel
theorem dX7_matchNext_63 : decode cX7_matchNext 63 = .ok (.bipush 12, 2) := by decide +kernel
theorem dX7_matchNext_65 : decode cX7_matchNext 65 = .ok (.irem, 1) := by decide +kernel
theorem dX7_matchNext_66 : decode cX7_matchNext 66 = .ok (.iaload, 1) := by decide +kernel
theorem dX7_matchNext_67 : decode cX7_matchNext 67 = .ok (.ldc 109, 2) := by decide +kernel
theorem dX7_matchNext_69 : decode cX7_matchNext 69 = .ok (.if_icmp .ne 22, 3) := by decide +kernel
theorem dX7_matchNext_72 : decode cX7_matchNext 72 = .ok (.aload_n 0, 1) := by decide +kernel
theorem dX7_matchNext_73 : decode cX7_matchNext 73 = .ok (.getfield 19, 3) := by decide +kernel
theorem dX7_matchNext_76 : decode cX7_matchNext 76 = .ok (.iload_n 2, 1) := by decide +kernel
theorem dX7_matchNext_77 : decode cX7_matchNext 77 = .ok (.iaload, 1) := by decide +kernel
theorem dX7_matchNext_78 : decode cX7_matchNext 78 = .ok (.aload_n 0, 1) := by decide +kernel
theorem dX7_matchNext_79 : decode cX7_matchNext 79 = .ok (.getfield 7, 3) := by decide +kernel
theorem dX7_matchNext_82 : decode cX7_matchNext 82 = .ok (.iconst 5, 1) := by decide +kernel
theorem dX7_matchNext_83 : decode cX7_matchNext 83 = .ok (.iaload, 1) := by decide +kernel
theorem dX7_matchNext_84 : decode cX7_matchNext 84 = .ok (.if_icmp .gt 7, 3) := by decide +kernel
theorem dX7_matchNext_87 : decode cX7_matchNext 87 = .ok (.iconst 1, 1) := by decide +kernel
theorem dX7_matchNext_88 : decode cX7_matchNext 88 = .ok (.goto 4, 3) := by decide +kernel
theorem dX7_matchNext_91 : decode cX7_matchNext 91 = .ok (.iconst 0, 1) := by decide +kernel
theorem dX7_matchNext_92 : decode cX7_matchNext 92 = .ok (.istore_n 3, 1) := by decide +kernel
theorem dX7_matchNext_93 : decode cX7_matchNext 93 = .ok (.iload_n 3, 1) := by decide +kernel
theorem dX7_matchNext_94 : decode cX7_matchNext 94 = .ok (.ifCond .eq 28, 3) := by decide +kernel
theorem dX7_matchNext_97 : decode cX7_matchNext 97 = .ok (.iload_n 1, 1) := by decide +kernel
theorem dX7_matchNext_98 : decode cX7_matchNext 98 = .ok (.ldc 109, 2) := by decide +kernel
theorem dX7_matchNext_100 : decode cX7_matchNext 100 = .ok (.if_icmp .eq 18, 3) := by decide +kernel
theorem dX7_matchNext_103 : decode cX7_matchNext 103 = .ok (.aload_n 0, 1) := by decide +kernel
theorem dX7_matchNext_104 : decode cX7_matchNext 104 = .ok (.getfield 19, 3) := by decide +kernel
theorem dX7_matchNext_107 : decode cX7_matchNext 107 = .ok (.iload_n 2, 1) := by decide +kernel
theorem dX7_matchNext_108 : decode cX7_matchNext 108 = .ok (.iaload, 1) := by decide +kernel
theorem dX7_matchNext_109 : decode cX7_matchNext 109 = .ok (.aload_n 0, 1) := by decide +kernel
theorem dX7_matchNext_110 : decode cX7_matchNext 110 = .ok (.getfield 19, 3) := by decide +kernel
theorem dX7_matchNext_113 : decode cX7_matchNext 113 = .ok (.iload_n 1, 1) := by decide +kernel
theorem dX7_matchNext_114 : decode cX7_matchNext 114 = .ok (.iaload, 1) := by decide +kernel
theorem dX7_matchNext_115 : decode cX7_matchNext 115 = .ok (.if_icmp .ge 7, 3) := by decide +kernel
theorem dX7_matchNext_118 : decode cX7_matchNext 118 = .ok (.iload_n 2, 1) := by decide +kernel
theorem dX7_matchNext_119 : decode cX7_matchNext 119 = .ok (.goto 4, 3) := by decide +kernel
theorem dX7_matchNext_122 : decode cX7_matchNext 122 = .ok (.iload_n 1, 1) := by decide +kernel
theorem dX7_matchNext_123 : decode cX7_matchNext 123 = .ok (.istore_n 1, 1) := by decide +kernel
theorem dX7_matchNext_124 : decode cX7_matchNext 124 = .ok (.iinc 2 1, 3) := by decide +kernel
theorem dX7_matchNext_127 : decode cX7_matchNext 127 = .ok (.goto (-122), 3) := by decide +kernel
theorem dX7_matchNext_130 : decode cX7_matchNext 130 = .ok (.iload_n 1, 1) := by decide +kernel
theorem dX7_matchNext_131 : decode cX7_matchNext 131 = .ok (.ldc 109, 2) := by decide +kernel
theorem dX7_matchNext_133 : decode cX7_matchNext 133 = .ok (.if_icmp .eq 54, 3) := by decide +kernel
theorem dX7_matchNext_136 : decode cX7_matchNext 136 = .ok (.aload_n 0, 1) := by decide +kernel
theorem dX7_matchNext_137 : decode cX7_matchNext 137 = .ok (.getfield 22, 3) := by decide +kernel
theorem dX7_matchNext_140 : decode cX7_matchNext 140 = .ok (.iload_n 1, 1) := by decide +kernel
theorem dX7_matchNext_141 : decode cX7_matchNext 141 = .ok (.bipush 12, 2) := by decide +kernel
theorem dX7_matchNext_143 : decode cX7_matchNext 143 = .ok (.idiv, 1) := by decide +kernel
theorem dX7_matchNext_144 : decode cX7_matchNext 144 = .ok (.iload_n 1, 1) := by decide +kernel
theorem dX7_matchNext_145 : decode cX7_matchNext 145 = .ok (.bipush 12, 2) := by decide +kernel
theorem dX7_matchNext_147 : decode cX7_matchNext 147 = .ok (.irem, 1) := by decide +kernel
theorem dX7_matchNext_148 : decode cX7_matchNext 148 = .ok (.iastore, 1) := by decide +kernel
theorem dX7_matchNext_149 : decode cX7_matchNext 149 = .ok (.aload_n 0, 1) := by decide +kernel
theorem dX7_matchNext_150 : decode cX7_matchNext 150 = .ok (.getfield 25, 3) := by decide +kernel
theorem dX7_matchNext_153 : decode cX7_matchNext 153 = .ok (.iload_n 1, 1) := by decide +kernel
theorem dX7_matchNext_154 : decode cX7_matchNext 154 = .ok (.bipush 12, 2) := by decide +kernel
theorem dX7_matchNext_156 : decode cX7_matchNext 156 = .ok (.irem, 1) := by decide +kernel
theorem dX7_matchNext_157 : decode cX7_matchNext 157 = .ok (.iload_n 1, 1) := by decide +kernel
theorem dX7_matchNext_158 : decode cX7_matchNext 158 = .ok (.bipush 12, 2) := by decide +kernel
theorem dX7_matchNext_160 : decode cX7_matchNext 160 = .ok (.idiv, 1) := by decide +kernel
theorem dX7_matchNext_161 : decode cX7_matchNext 161 = .ok (.iastore, 1) := by decide +kernel
theorem dX7_matchNext_162 : decode cX7_matchNext 162 = .ok (.aload_n 0, 1) := by decide +kernel
theorem dX7_matchNext_163 : decode cX7_matchNext 163 = .ok (.dup, 1) := by decide +kernel
theorem dX7_matchNext_164 : decode cX7_matchNext 164 = .ok (.getfield 201, 3) := by decide +kernel
theorem dX7_matchNext_167 : decode cX7_matchNext 167 = .ok (.iconst 1, 1) := by decide +kernel
theorem dX7_matchNext_168 : decode cX7_matchNext 168 = .ok (.iadd, 1) := by decide +kernel
theorem dX7_matchNext_169 : decode cX7_matchNext 169 = .ok (.putfield 201, 3) := by decide +kernel
theorem dX7_matchNext_172 : decode cX7_matchNext 172 = .ok (.aload_n 0, 1) := by decide +kernel
theorem dX7_matchNext_173 : decode cX7_matchNext 173 = .ok (.dup, 1) := by decide +kernel
theorem dX7_matchNext_174 : decode cX7_matchNext 174 = .ok (.getfield 204, 3) := by decide +kernel
theorem dX7_matchNext_177 : decode cX7_matchNext 177 = .ok (.aload_n 0, 1) := by decide +kernel
theorem dX7_matchNext_178 : decode cX7_matchNext 178 = .ok (.getfield 19, 3) := by decide +kernel
theorem dX7_matchNext_181 : decode cX7_matchNext 181 = .ok (.iload_n 1, 1) := by decide +kernel
theorem dX7_matchNext_182 : decode cX7_matchNext 182 = .ok (.iaload, 1) := by decide +kernel
theorem dX7_matchNext_183 : decode cX7_matchNext 183 = .ok (.iadd, 1) := by decide +kernel
theorem dX7_matchNext_184 : decode cX7_matchNext 184 = .ok (.putfield 204, 3) := by decide +kernel
theorem dX7_matchNext_187 : decode cX7_matchNext 187 = .ok (.iload_n 1, 1) := by decide +kernel
theorem dX7_matchNext_188 : decode cX7_matchNext 188 = .ok (.ldc 109, 2) := by decide +kernel
theorem dX7_matchNext_190 : decode cX7_matchNext 190 = .ok (.if_icmp .eq 7, 3) := by decide +kernel
theorem dX7_matchNext_193 : decode cX7_matchNext 193 = .ok (.iconst 1, 1) := by decide +kernel
theorem dX7_matchNext_194 : decode cX7_matchNext 194 = .ok (.goto 4, 3) := by decide +kernel
theorem dX7_matchNext_197 : decode cX7_matchNext 197 = .ok (.iconst 0, 1) := by decide +kernel
theorem dX7_matchNext_198 : decode cX7_matchNext 198 = .ok (.ireturn, 1) := by decide +kernel
set_option maxRecDepth 20000 in
theorem ggX7_match_X7_points : GoodIn wsX7_match wsX7_points := goodIn_r _ [12, 4, 86, 87, 88, 89, 90, 91, 92, 93, 94, 95, 96, 97, 98, 99, 100, 101, 102, 103, 104] (by decide +kernel) (by decide +kernel)
set_option maxRecDepth 20000 in
theorem gX7_match_X7_points : GoodIn wsX7_match (wsV RX7 51 RX7 yX7_points wsX7_points) := goodIn_app (goodIn_of _ (by decide +kernel)) ggX7_match_X7_points
set_option maxRecDepth 20000 in
theorem ggX7_match_X7_costOf : GoodIn wsX7_match wsX7_costOf := goodIn_r _ [16, 17, 18, 19, 20, 11, 21, 8, 9, 10, 12, 4, 22, 23, 24, 25, 26, 27, 28, 29, 30, 31, 32, 33, 34, 35, 36, 37, 38, 39, 40, 41, 42, 43, 44, 45, 46, 47, 48, 49, 50, 51, 52, 53, 54, 55, 56, 57, 58, 59, 60, 61, 62, 63, 64, 65, 66, 67, 68, 69, 70, 71, 72, 73, 74, 75, 76, 77, 78, 79, 80, 81, 86, 87, 88, 89, 90, 91, 92, 93, 94, 95, 96, 97, 98, 99, 100, 101, 102, 103, 104] (by decide +kernel) (by decide +kernel)
set_option maxRecDepth 20000 in
theorem gX7_match_X7_costOf : GoodIn wsX7_match (wsV RX7 207 RX7 yX7_costOf wsX7_costOf) := goodIn_app (goodIn_of _ (by decide +kernel)) ggX7_match_X7_costOf
set_option maxRecDepth 20000 in
theorem ggX7_match_X7_matchNext : GoodIn wsX7_match wsX7_matchNext := goodIn_r _ [85, 2, 4, 1, 3, 5, 6, 7, 8, 9, 10, 11, 12, 86, 87, 88, 89, 90, 91, 92, 93, 94, 95, 96, 97, 98, 99, 100, 101, 102, 103, 104] (by decide +kernel) (by decide +kernel)
set_option maxRecDepth 20000 in
theorem gX7_match_X7_matchNext : GoodIn wsX7_match (wsV RX7 210 RX7 yX7_matchNext wsX7_matchNext) := goodIn_app (goodIn_of _ (by decide +kernel)) ggX7_match_X7_matchNext
theorem dX7_match_0 : decode cX7_match 0 = .ok (.iconst 0, 1) := by decide +kernel
theorem dX7_match_1 : decode cX7_match 1 = .ok (.istore_n 1, 1) := by decide +kernel
theorem dX7_match_2 : decode cX7_match 2 = .ok (.iload_n 1, 1) := by decide +kernel
theorem dX7_match_3 : decode cX7_match 3 = .ok (.bipush 12, 2) := by decide +kernel
theorem dX7_match_5 : decode cX7_match 5 = .ok (.if_icmp .ge 25, 3) := by decide +kernel
theorem dX7_match_8 : decode cX7_match 8 = .ok (.aload_n 0, 1) := by decide +kernel
theorem dX7_match_9 : decode cX7_match 9 = .ok (.getfield 22, 3) := by decide +kernel
theorem dX7_match_12 : decode cX7_match 12 = .ok (.iload_n 1, 1) := by decide +kernel
theorem dX7_match_13 : decode cX7_match 13 = .ok (.ldc 109, 2) := by decide +kernel
theorem dX7_match_15 : decode cX7_match 15 = .ok (.iastore, 1) := by decide +kernel
theorem dX7_match_16 : decode cX7_match 16 = .ok (.aload_n 0, 1) := by decide +kernel
theorem dX7_match_17 : decode cX7_match 17 = .ok (.getfield 25, 3) := by decide +kernel
theorem dX7_match_20 : decode cX7_match 20 = .ok (.iload_n 1, 1) := by decide +kernel
theorem dX7_match_21 : decode cX7_match 21 = .ok (.ldc 109, 2) := by decide +kernel
theorem dX7_match_23 : decode cX7_match 23 = .ok (.iastore, 1) := by decide +kernel
theorem dX7_match_24 : decode cX7_match 24 = .ok (.iinc 1 1, 3) := by decide +kernel
theorem dX7_match_27 : decode cX7_match 27 = .ok (.goto (-25), 3) := by decide +kernel
theorem dX7_match_30 : decode cX7_match 30 = .ok (.iconst 0, 1) := by decide +kernel
theorem dX7_match_31 : decode cX7_match 31 = .ok (.istore_n 1, 1) := by decide +kernel
theorem dX7_match_32 : decode cX7_match 32 = .ok (.iload_n 1, 1) := by decide +kernel
theorem dX7_match_33 : decode cX7_match 33 = .ok (.bipush 12, 2) := by decide +kernel
theorem dX7_match_35 : decode cX7_match 35 = .ok (.aload_n 0, 1) := by decide +kernel
theorem dX7_match_36 : decode cX7_match 36 = .ok (.getfield 7, 3) := by decide +kernel
theorem dX7_match_39 : decode cX7_match 39 = .ok (.bipush 12, 2) := by decide +kernel
theorem dX7_match_41 : decode cX7_match 41 = .ok (.iaload, 1) := by decide +kernel
theorem dX7_match_42 : decode cX7_match 42 = .ok (.imul, 1) := by decide +kernel
theorem dX7_match_43 : decode cX7_match 43 = .ok (.if_icmp .ge 56, 3) := by decide +kernel
theorem dX7_match_46 : decode cX7_match 46 = .ok (.aload_n 0, 1) := by decide +kernel
theorem dX7_match_47 : decode cX7_match 47 = .ok (.getfield 19, 3) := by decide +kernel
theorem dX7_match_50 : decode cX7_match 50 = .ok (.iload_n 1, 1) := by decide +kernel
theorem dX7_match_51 : decode cX7_match 51 = .ok (.iload_n 1, 1) := by decide +kernel
theorem dX7_match_52 : decode cX7_match 52 = .ok (.bipush 12, 2) := by decide +kernel
theorem dX7_match_54 : decode cX7_match 54 = .ok (.irem, 1) := by decide +kernel
theorem dX7_match_55 : decode cX7_match 55 = .ok (.aload_n 0, 1) := by decide +kernel
theorem dX7_match_56 : decode cX7_match 56 = .ok (.getfield 7, 3) := by decide +kernel
theorem dX7_match_59 : decode cX7_match 59 = .ok (.bipush 13, 2) := by decide +kernel
theorem dX7_match_61 : decode cX7_match 61 = .ok (.iaload, 1) := by decide +kernel
theorem dX7_match_62 : decode cX7_match 62 = .ok (.if_icmp .ge 29, 3) := by decide +kernel
theorem dX7_match_65 : decode cX7_match 65 = .ok (.aload_n 0, 1) := by decide +kernel
theorem dX7_match_66 : decode cX7_match 66 = .ok (.iload_n 1, 1) := by decide +kernel
theorem dX7_match_67 : decode cX7_match 67 = .ok (.bipush 12, 2) := by decide +kernel
theorem dX7_match_69 : decode cX7_match 69 = .ok (.idiv, 1) := by decide +kernel
theorem dX7_match_70 : decode cX7_match 70 = .ok (.invokevirtual 51, 3) := by decide +kernel
theorem dX7_match_73 : decode cX7_match 73 = .ok (.ifCond .le 18, 3) := by decide +kernel
theorem dX7_match_76 : decode cX7_match 76 = .ok (.aload_n 0, 1) := by decide +kernel
theorem dX7_match_77 : decode cX7_match 77 = .ok (.iload_n 1, 1) := by decide +kernel
theorem dX7_match_78 : decode cX7_match 78 = .ok (.bipush 12, 2) := by decide +kernel
theorem dX7_match_80 : decode cX7_match 80 = .ok (.idiv, 1) := by decide +kernel
theorem dX7_match_81 : decode cX7_match 81 = .ok (.iload_n 1, 1) := by decide +kernel
theorem dX7_match_82 : decode cX7_match 82 = .ok (.bipush 12, 2) := by decide +kernel
theorem dX7_match_84 : decode cX7_match 84 = .ok (.irem, 1) := by decide +kernel
theorem dX7_match_85 : decode cX7_match 85 = .ok (.invokevirtual 207, 3) := by decide +kernel
theorem dX7_match_88 : decode cX7_match 88 = .ok (.goto 4, 3) := by decide +kernel
theorem dX7_match_91 : decode cX7_match 91 = .ok (.iconst 0, 1) := by decide +kernel
theorem dX7_match_92 : decode cX7_match 92 = .ok (.iastore, 1) := by decide +kernel
theorem dX7_match_93 : decode cX7_match 93 = .ok (.iinc 1 1, 3) := by decide +kernel
theorem dX7_match_96 : decode cX7_match 96 = .ok (.goto (-64), 3) := by decide +kernel
theorem dX7_match_99 : decode cX7_match 99 = .ok (.aload_n 0, 1) := by decide +kernel
theorem dX7_match_100 : decode cX7_match 100 = .ok (.iconst 0, 1) := by decide +kernel
theorem dX7_match_101 : decode cX7_match 101 = .ok (.putfield 201, 3) := by decide +kernel
theorem dX7_match_104 : decode cX7_match 104 = .ok (.aload_n 0, 1) := by decide +kernel
theorem dX7_match_105 : decode cX7_match 105 = .ok (.iconst 0, 1) := by decide +kernel
theorem dX7_match_106 : decode cX7_match 106 = .ok (.putfield 204, 3) := by decide +kernel
theorem dX7_match_109 : decode cX7_match 109 = .ok (.iconst 1, 1) := by decide +kernel
theorem dX7_match_110 : decode cX7_match 110 = .ok (.istore_n 1, 1) := by decide +kernel
theorem dX7_match_111 : decode cX7_match 111 = .ok (.iload_n 1, 1) := by decide +kernel
theorem dX7_match_112 : decode cX7_match 112 = .ok (.ifCond .eq 11, 3) := by decide +kernel
theorem dX7_match_115 : decode cX7_match 115 = .ok (.aload_n 0, 1) := by decide +kernel
theorem dX7_match_116 : decode cX7_match 116 = .ok (.invokevirtual 210, 3) := by decide +kernel
theorem dX7_match_119 : decode cX7_match 119 = .ok (.istore_n 1, 1) := by decide +kernel
theorem dX7_match_120 : decode cX7_match 120 = .ok (.goto (-9), 3) := by decide +kernel
theorem dX7_match_123 : decode cX7_match 123 = .ok (.return_, 1) := by decide +kernel
set_option maxRecDepth 20000 in
theorem ggX7_isMissing_X7_ofStar : GoodIn wsX7_isMissing wsX7_ofStar := goodIn_r _ [8, 3, 9, 10, 11, 12, 13, 14, 15, 16, 17, 18, 19, 20, 21, 22, 23, 24, 25, 26, 27] (by decide +kernel) (by decide +kernel)
set_option maxRecDepth 20000 in
theorem gX7_isMissing_X7_ofStar : GoodIn wsX7_isMissing (wsV RX7 185 RX7 yX7_ofStar wsX7_ofStar) := goodIn_app (goodIn_of _ (by decide +kernel)) ggX7_isMissing_X7_ofStar
theorem dX7_isMissing_0 : decode cX7_isMissing 0 = .ok (.aload_n 0, 1) := by decide +kernel
theorem dX7_isMissing_1 : decode cX7_isMissing 1 = .ok (.getfield 25, 3) := by decide +kernel
theorem dX7_isMissing_4 : decode cX7_isMissing 4 = .ok (.iload_n 1, 1) := by decide +kernel
theorem dX7_isMissing_5 : decode cX7_isMissing 5 = .ok (.iaload, 1) := by decide +kernel
theorem dX7_isMissing_6 : decode cX7_isMissing 6 = .ok (.ldc 109, 2) := by decide +kernel
theorem dX7_isMissing_8 : decode cX7_isMissing 8 = .ok (.if_icmp .ne 23, 3) := by decide +kernel
theorem dX7_isMissing_11 : decode cX7_isMissing 11 = .ok (.aload_n 0, 1) := by decide +kernel
theorem dX7_isMissing_12 : decode cX7_isMissing 12 = .ok (.iload_n 1, 1) := by decide +kernel
theorem dX7_isMissing_13 : decode cX7_isMissing 13 = .ok (.iconst 2, 1) := by decide +kernel
theorem dX7_isMissing_14 : decode cX7_isMissing 14 = .ok (.invokevirtual 185, 3) := by decide +kernel
theorem dX7_isMissing_17 : decode cX7_isMissing 17 = .ok (.aload_n 0, 1) := by decide +kernel
theorem dX7_isMissing_18 : decode cX7_isMissing 18 = .ok (.getfield 7, 3) := by decide +kernel
theorem dX7_isMissing_21 : decode cX7_isMissing 21 = .ok (.bipush 9, 2) := by decide +kernel
theorem dX7_isMissing_23 : decode cX7_isMissing 23 = .ok (.iaload, 1) := by decide +kernel
theorem dX7_isMissing_24 : decode cX7_isMissing 24 = .ok (.if_icmp .lt 7, 3) := by decide +kernel
theorem dX7_isMissing_27 : decode cX7_isMissing 27 = .ok (.iconst 1, 1) := by decide +kernel
theorem dX7_isMissing_28 : decode cX7_isMissing 28 = .ok (.goto 4, 3) := by decide +kernel
theorem dX7_isMissing_31 : decode cX7_isMissing 31 = .ok (.iconst 0, 1) := by decide +kernel
theorem dX7_isMissing_32 : decode cX7_isMissing 32 = .ok (.ireturn, 1) := by decide +kernel
set_option maxRecDepth 20000 in
theorem ggX7_pointOf_X7_placeX : GoodIn wsX7_pointOf wsX7_placeX := goodIn_r _ [6, 1, 7, 8, 5, 9, 10, 11, 12, 13, 14, 15, 16, 47, 48, 49, 50, 51, 52, 53, 54, 55, 56, 57, 58, 59, 60, 61, 62, 63, 64, 65] (by decide +kernel) (by decide +kernel)
set_option maxRecDepth 20000 in
theorem gX7_pointOf_X7_placeX : GoodIn wsX7_pointOf (wsV RX7 142 RX7 yX7_placeX wsX7_placeX) := goodIn_app (goodIn_of _ (by decide +kernel)) ggX7_pointOf_X7_placeX
set_option maxRecDepth 20000 in
theorem ggX7_pointOf_X7_placeY : GoodIn wsX7_pointOf wsX7_placeY := goodIn_r _ [20, 1, 7, 8, 5, 9, 10, 11, 12, 13, 14, 15, 16, 47, 48, 49, 50, 51, 52, 53, 54, 55, 56, 57, 58, 59, 60, 61, 62, 63, 64, 65] (by decide +kernel) (by decide +kernel)
set_option maxRecDepth 20000 in
theorem gX7_pointOf_X7_placeY : GoodIn wsX7_pointOf (wsV RX7 145 RX7 yX7_placeY wsX7_placeY) := goodIn_app (goodIn_of _ (by decide +kernel)) ggX7_pointOf_X7_placeY
set_option maxRecDepth 20000 in
theorem ggX7_pointOf_X7_radiusOf : GoodIn wsX7_pointOf wsX7_radiusOf := goodIn_r _ [24, 1, 2, 3, 4, 5, 6, 7, 8, 9, 10, 11, 12, 13, 14, 15, 16, 17, 18, 19, 20, 25, 26, 27, 47, 48, 49, 50, 51, 52, 53, 54, 55, 56, 57, 58, 59, 60, 61, 62, 63, 64, 65] (by decide +kernel) (by decide +kernel)
set_option maxRecDepth 20000 in
theorem gX7_pointOf_X7_radiusOf : GoodIn wsX7_pointOf (wsV RX7 151 RX7 yX7_radiusOf wsX7_radiusOf) := goodIn_app (goodIn_of _ (by decide +kernel)) ggX7_pointOf_X7_radiusOf
set_option maxRecDepth 20000 in
theorem ggX7_pointOf_X7_angleOf : GoodIn wsX7_pointOf wsX7_angleOf := goodIn_r _ [31, 1, 2, 3, 4, 5, 6, 7, 8, 9, 10, 11, 12, 13, 14, 15, 16, 17, 18, 19, 20, 32, 33, 34, 35, 36, 37, 38, 39, 40, 41, 42, 43, 44, 45, 46, 47, 48, 49, 50, 51, 52, 53, 54, 55, 56, 57, 58, 59, 60, 61, 62, 63, 64, 65] (by decide +kernel) (by decide +kernel)
set_option maxRecDepth 20000 in
theorem gX7_pointOf_X7_angleOf : GoodIn wsX7_pointOf (wsV RX7 170 RX7 yX7_angleOf wsX7_angleOf) := goodIn_app (goodIn_of _ (by decide +kernel)) ggX7_pointOf_X7_angleOf
set_option maxRecDepth 20000 in
theorem ggX7_pointOf_X7_cellOf : GoodIn wsX7_pointOf wsX7_cellOf := goodIn_r _ [9] (by decide +kernel) (by decide +kernel)
set_option maxRecDepth 20000 in
theorem gX7_pointOf_X7_cellOf : GoodIn wsX7_pointOf (va_wsS RX7 43 yX7_cellOf wsX7_cellOf) := goodIn_app (goodIn_of _ (by decide +kernel)) ggX7_pointOf_X7_cellOf
theorem dX7_pointOf_0 : decode cX7_pointOf 0 = .ok (.iload_n 3, 1) := by decide +kernel
theorem dX7_pointOf_1 : decode cX7_pointOf 1 = .ok (.tableswitch 59 3 6 #[31, 38, 45, 52], 31) := by decide +kernel
theorem dX7_pointOf_32 : decode cX7_pointOf 32 = .ok (.aload_n 0, 1) := by decide +kernel
theorem dX7_pointOf_33 : decode cX7_pointOf 33 = .ok (.iload_n 1, 1) := by decide +kernel
theorem dX7_pointOf_34 : decode cX7_pointOf 34 = .ok (.iload_n 2, 1) := by decide +kernel
theorem dX7_pointOf_35 : decode cX7_pointOf 35 = .ok (.invokevirtual 142, 3) := by decide +kernel
theorem dX7_pointOf_38 : decode cX7_pointOf 38 = .ok (.ireturn, 1) := by decide +kernel
theorem dX7_pointOf_39 : decode cX7_pointOf 39 = .ok (.aload_n 0, 1) := by decide +kernel
theorem dX7_pointOf_40 : decode cX7_pointOf 40 = .ok (.iload_n 1, 1) := by decide +kernel
theorem dX7_pointOf_41 : decode cX7_pointOf 41 = .ok (.iload_n 2, 1) := by decide +kernel
theorem dX7_pointOf_42 : decode cX7_pointOf 42 = .ok (.invokevirtual 145, 3) := by decide +kernel
theorem dX7_pointOf_45 : decode cX7_pointOf 45 = .ok (.ireturn, 1) := by decide +kernel
theorem dX7_pointOf_46 : decode cX7_pointOf 46 = .ok (.aload_n 0, 1) := by decide +kernel
theorem dX7_pointOf_47 : decode cX7_pointOf 47 = .ok (.iload_n 1, 1) := by decide +kernel
theorem dX7_pointOf_48 : decode cX7_pointOf 48 = .ok (.iload_n 2, 1) := by decide +kernel
theorem dX7_pointOf_49 : decode cX7_pointOf 49 = .ok (.invokevirtual 151, 3) := by decide +kernel
theorem dX7_pointOf_52 : decode cX7_pointOf 52 = .ok (.ireturn, 1) := by decide +kernel
theorem dX7_pointOf_53 : decode cX7_pointOf 53 = .ok (.aload_n 0, 1) := by decide +kernel
theorem dX7_pointOf_54 : decode cX7_pointOf 54 = .ok (.iload_n 1, 1) := by decide +kernel
theorem dX7_pointOf_55 : decode cX7_pointOf 55 = .ok (.iload_n 2, 1) := by decide +kernel
theorem dX7_pointOf_56 : decode cX7_pointOf 56 = .ok (.invokevirtual 170, 3) := by decide +kernel
theorem dX7_pointOf_59 : decode cX7_pointOf 59 = .ok (.ireturn, 1) := by decide +kernel
theorem dX7_pointOf_60 : decode cX7_pointOf 60 = .ok (.aload_n 0, 1) := by decide +kernel
theorem dX7_pointOf_61 : decode cX7_pointOf 61 = .ok (.getfield 7, 3) := by decide +kernel
theorem dX7_pointOf_64 : decode cX7_pointOf 64 = .ok (.iload_n 1, 1) := by decide +kernel
theorem dX7_pointOf_65 : decode cX7_pointOf 65 = .ok (.iload_n 2, 1) := by decide +kernel
theorem dX7_pointOf_66 : decode cX7_pointOf 66 = .ok (.invokestatic 43, 3) := by decide +kernel
theorem dX7_pointOf_69 : decode cX7_pointOf 69 = .ok (.iload_n 3, 1) := by decide +kernel
theorem dX7_pointOf_70 : decode cX7_pointOf 70 = .ok (.iadd, 1) := by decide +kernel
theorem dX7_pointOf_71 : decode cX7_pointOf 71 = .ok (.iaload, 1) := by decide +kernel
theorem dX7_pointOf_72 : decode cX7_pointOf 72 = .ok (.ireturn, 1) := by decide +kernel
set_option maxRecDepth 20000 in
theorem ggX7_point_X7_isPoint : GoodIn wsX7_point wsX7_isPoint := goodIn_r _ [6, 7, 8, 9, 5, 10, 11, 12, 13, 14, 15, 16, 17, 18, 67, 68, 69, 70, 71, 72, 73, 74, 75, 76, 77, 78, 79, 80, 81, 82, 83, 84, 85] (by decide +kernel) (by decide +kernel)
set_option maxRecDepth 20000 in
theorem gX7_point_X7_isPoint : GoodIn wsX7_point (wsV RX7 79 RX7 yX7_isPoint wsX7_isPoint) := goodIn_app (goodIn_of _ (by decide +kernel)) ggX7_point_X7_isPoint
set_option maxRecDepth 20000 in
theorem ggX7_point_X7_in : GoodIn wsX7_point wsX7_in := goodIn_r _ [14] (by decide +kernel) (by decide +kernel)
set_option maxRecDepth 20000 in
theorem gX7_point_X7_in : GoodIn wsX7_point (va_wsS RX7 39 yX7_in wsX7_in) := goodIn_app (goodIn_of _ (by decide +kernel)) ggX7_point_X7_in
set_option maxRecDepth 20000 in
theorem ggX7_point_X7_pointOf : GoodIn wsX7_point wsX7_pointOf := goodIn_r _ [22, 11, 23, 24, 25, 5, 26, 27, 28, 29, 30, 31, 32, 33, 34, 35, 36, 37, 38, 39, 40, 41, 42, 43, 44, 45, 46, 47, 48, 49, 50, 51, 52, 53, 54, 55, 56, 57, 58, 59, 60, 61, 62, 63, 64, 65, 66, 67, 68, 69, 70, 71, 72, 73, 74, 75, 76, 77, 78, 79, 80, 81, 82, 83, 84, 85] (by decide +kernel) (by decide +kernel)
set_option maxRecDepth 20000 in
theorem gX7_point_X7_pointOf : GoodIn wsX7_point (wsV RX7 214 RX7 yX7_pointOf wsX7_pointOf) := goodIn_app (goodIn_of _ (by decide +kernel)) ggX7_point_X7_pointOf
theorem dX7_point_0 : decode cX7_point 0 = .ok (.aload_n 0, 1) := by decide +kernel
theorem dX7_point_1 : decode cX7_point 1 = .ok (.aload_n 0, 1) := by decide +kernel
theorem dX7_point_2 : decode cX7_point 2 = .ok (.iload_n 1, 1) := by decide +kernel
theorem dX7_point_3 : decode cX7_point 3 = .ok (.iload_n 2, 1) := by decide +kernel
theorem dX7_point_4 : decode cX7_point 4 = .ok (.invokevirtual 79, 3) := by decide +kernel
theorem dX7_point_7 : decode cX7_point 7 = .ok (.ifCond .ne 7, 3) := by decide +kernel
theorem dX7_point_10 : decode cX7_point 10 = .ok (.iconst 1, 1) := by decide +kernel
theorem dX7_point_11 : decode cX7_point 11 = .ok (.goto 18, 3) := by decide +kernel
theorem dX7_point_14 : decode cX7_point 14 = .ok (.iload_n 3, 1) := by decide +kernel
theorem dX7_point_15 : decode cX7_point 15 = .ok (.iconst 0, 1) := by decide +kernel
theorem dX7_point_16 : decode cX7_point 16 = .ok (.bipush 6, 2) := by decide +kernel
theorem dX7_point_18 : decode cX7_point 18 = .ok (.invokestatic 39, 3) := by decide +kernel
theorem dX7_point_21 : decode cX7_point 21 = .ok (.ifCond .eq 7, 3) := by decide +kernel
theorem dX7_point_24 : decode cX7_point 24 = .ok (.iconst 0, 1) := by decide +kernel
theorem dX7_point_25 : decode cX7_point 25 = .ok (.goto 4, 3) := by decide +kernel
theorem dX7_point_28 : decode cX7_point 28 = .ok (.iconst 2, 1) := by decide +kernel
theorem dX7_point_29 : decode cX7_point 29 = .ok (.putfield 31, 3) := by decide +kernel
theorem dX7_point_32 : decode cX7_point 32 = .ok (.aload_n 0, 1) := by decide +kernel
theorem dX7_point_33 : decode cX7_point 33 = .ok (.getfield 31, 3) := by decide +kernel
theorem dX7_point_36 : decode cX7_point 36 = .ok (.ifCond .eq 7, 3) := by decide +kernel
theorem dX7_point_39 : decode cX7_point 39 = .ok (.iconst 0, 1) := by decide +kernel
theorem dX7_point_40 : decode cX7_point 40 = .ok (.goto 10, 3) := by decide +kernel
theorem dX7_point_43 : decode cX7_point 43 = .ok (.aload_n 0, 1) := by decide +kernel
theorem dX7_point_44 : decode cX7_point 44 = .ok (.iload_n 1, 1) := by decide +kernel
theorem dX7_point_45 : decode cX7_point 45 = .ok (.iload_n 2, 1) := by decide +kernel
theorem dX7_point_46 : decode cX7_point 46 = .ok (.iload_n 3, 1) := by decide +kernel
theorem dX7_point_47 : decode cX7_point 47 = .ok (.invokevirtual 214, 3) := by decide +kernel
theorem dX7_point_50 : decode cX7_point 50 = .ok (.ireturn, 1) := by decide +kernel
set_option maxRecDepth 20000 in
theorem ggX7_trailOfWhat_X7_points : GoodIn wsX7_trailOfWhat wsX7_points := goodIn_r _ [8, 2, 84, 85, 86, 87, 88, 89, 90, 91, 92, 93, 94, 95, 96, 97, 98, 99, 100, 101, 102] (by decide +kernel) (by decide +kernel)
set_option maxRecDepth 20000 in
theorem gX7_trailOfWhat_X7_points : GoodIn wsX7_trailOfWhat (wsV RX7 51 RX7 yX7_points wsX7_points) := goodIn_app (goodIn_of _ (by decide +kernel)) ggX7_trailOfWhat_X7_points
set_option maxRecDepth 20000 in
theorem ggX7_trailOfWhat_X7_radius : GoodIn wsX7_trailOfWhat wsX7_radius := goodIn_r _ [12, 4, 5, 6, 7, 8, 2, 13, 14, 15, 16, 17, 18, 19, 20, 21, 22, 23, 24, 25, 26, 27, 28, 29, 30, 31, 32, 33, 34, 35, 36, 37, 84, 85, 86, 87, 88, 89, 90, 91, 92, 93, 94, 95, 96, 97, 98, 99, 100, 101, 102] (by decide +kernel) (by decide +kernel)
set_option maxRecDepth 20000 in
theorem gX7_trailOfWhat_X7_radius : GoodIn wsX7_trailOfWhat (wsV RX7 190 RX7 yX7_radius wsX7_radius) := goodIn_app (goodIn_of _ (by decide +kernel)) ggX7_trailOfWhat_X7_radius
set_option maxRecDepth 20000 in
theorem ggX7_trailOfWhat_X7_spread : GoodIn wsX7_trailOfWhat wsX7_spread := goodIn_r _ [41, 13, 14, 15, 7, 16, 2, 17, 18, 19, 20, 21, 22, 23, 24, 25, 26, 27, 28, 29, 30, 31, 32, 33, 34, 35, 36, 37, 4, 5, 6, 8, 84, 85, 86, 87, 88, 89, 90, 91, 92, 93, 94, 95, 96, 97, 98, 99, 100, 101, 102] (by decide +kernel) (by decide +kernel)
set_option maxRecDepth 20000 in
theorem gX7_trailOfWhat_X7_spread : GoodIn wsX7_trailOfWhat (wsV RX7 154 RX7 yX7_spread wsX7_spread) := goodIn_app (goodIn_of _ (by decide +kernel)) ggX7_trailOfWhat_X7_spread
set_option maxRecDepth 20000 in
theorem ggX7_trailOfWhat_X7_sweep : GoodIn wsX7_trailOfWhat wsX7_sweep := goodIn_r _ [45, 4, 5, 6, 7, 8, 2, 46, 47, 48, 49, 17, 18, 19, 20, 21, 22, 23, 24, 25, 26, 27, 28, 29, 30, 31, 32, 33, 34, 50, 51, 52, 53, 54, 55, 56, 57, 58, 59, 60, 61, 62, 63, 64, 65, 66, 67, 84, 85, 86, 87, 88, 89, 90, 91, 92, 93, 94, 95, 96, 97, 98, 99, 100, 101, 102] (by decide +kernel) (by decide +kernel)
set_option maxRecDepth 20000 in
theorem gX7_trailOfWhat_X7_sweep : GoodIn wsX7_trailOfWhat (wsV RX7 176 RX7 yX7_sweep wsX7_sweep) := goodIn_app (goodIn_of _ (by decide +kernel)) ggX7_trailOfWhat_X7_sweep
set_option maxRecDepth 20000 in
theorem ggX7_trailOfWhat_X7_frames : GoodIn wsX7_trailOfWhat wsX7_frames := goodIn_r _ [71, 4, 5, 6, 7, 8, 2, 24, 25, 26, 27, 21, 22, 23, 84, 85, 86, 87, 88, 89, 90, 91, 92, 93, 94, 95, 96, 97, 98, 99, 100, 101, 102] (by decide +kernel) (by decide +kernel)
set_option maxRecDepth 20000 in
theorem gX7_trailOfWhat_X7_frames : GoodIn wsX7_trailOfWhat (wsV RX7 179 RX7 yX7_frames wsX7_frames) := goodIn_app (goodIn_of _ (by decide +kernel)) ggX7_trailOfWhat_X7_frames
set_option maxRecDepth 20000 in
theorem ggX7_trailOfWhat_X7_misfit : GoodIn wsX7_trailOfWhat wsX7_misfit := goodIn_r _ [75, 2, 42, 43, 44, 7, 45, 4, 5, 6, 8, 46, 47, 48, 49, 17, 18, 19, 20, 21, 22, 23, 24, 25, 26, 27, 28, 29, 30, 31, 32, 33, 34, 50, 51, 52, 53, 54, 55, 56, 57, 58, 59, 60, 61, 62, 63, 64, 65, 66, 67, 68, 69, 70, 71, 84, 85, 86, 87, 88, 89, 90, 91, 92, 93, 94, 95, 96, 97, 98, 99, 100, 101, 102] (by decide +kernel) (by decide +kernel)
set_option maxRecDepth 20000 in
theorem gX7_trailOfWhat_X7_misfit : GoodIn wsX7_trailOfWhat (wsV RX7 182 RX7 yX7_misfit wsX7_misfit) := goodIn_app (goodIn_of _ (by decide +kernel)) ggX7_trailOfWhat_X7_misfit
set_option maxRecDepth 20000 in
theorem ggX7_trailOfWhat_X7_isGood : GoodIn wsX7_trailOfWhat wsX7_isGood := goodIn_r _ [79, 2, 4, 5, 6, 7, 8, 38, 39, 40, 41, 13, 14, 15, 16, 17, 18, 19, 20, 21, 22, 23, 24, 25, 26, 27, 28, 29, 30, 31, 32, 33, 34, 35, 36, 37, 72, 73, 74, 75, 42, 43, 44, 45, 46, 47, 48, 49, 50, 51, 52, 53, 54, 55, 56, 57, 58, 59, 60, 61, 62, 63, 64, 65, 66, 67, 68, 69, 70, 71, 84, 85, 86, 87, 88, 89, 90, 91, 92, 93, 94, 95, 96, 97, 98, 99, 100, 101, 102] (by decide +kernel) (by decide +kernel)
set_option maxRecDepth 20000 in
theorem gX7_trailOfWhat_X7_isGood : GoodIn wsX7_trailOfWhat (wsV RX7 217 RX7 yX7_isGood wsX7_isGood) := goodIn_app (goodIn_of _ (by decide +kernel)) ggX7_trailOfWhat_X7_isGood
set_option maxRecDepth 20000 in
theorem ggX7_trailOfWhat_X7_gaps : GoodIn wsX7_trailOfWhat wsX7_gaps := goodIn_r _ [83, 2, 4, 5, 6, 7, 8, 24, 25, 26, 27, 21, 22, 23, 84, 85, 86, 87, 88, 89, 90, 91, 92, 93, 94, 95, 96, 97, 98, 99, 100, 101, 102] (by decide +kernel) (by decide +kernel)
set_option maxRecDepth 20000 in
theorem gX7_trailOfWhat_X7_gaps : GoodIn wsX7_trailOfWhat (wsV RX7 220 RX7 yX7_gaps wsX7_gaps) := goodIn_app (goodIn_of _ (by decide +kernel)) ggX7_trailOfWhat_X7_gaps
theorem dX7_trailOfWhat_0 : decode cX7_trailOfWhat 0 = .ok (.aload_n 0, 1) := by decide +kernel
theorem dX7_trailOfWhat_1 : decode cX7_trailOfWhat 1 = .ok (.iload_n 1, 1) := by decide +kernel
theorem dX7_trailOfWhat_2 : decode cX7_trailOfWhat 2 = .ok (.invokevirtual 51, 3) := by decide +kernel
theorem dX7_trailOfWhat_5 : decode cX7_trailOfWhat 5 = .ok (.ifCond .ne 16, 3) := by decide +kernel
theorem dX7_trailOfWhat_8 : decode cX7_trailOfWhat 8 = .ok (.iload_n 2, 1) := by decide +kernel
theorem dX7_trailOfWhat_9 : decode cX7_trailOfWhat 9 = .ok (.ifCond .le 12, 3) := by decide +kernel
theorem dX7_trailOfWhat_12 : decode cX7_trailOfWhat 12 = .ok (.iload_n 2, 1) := by decide +kernel
theorem dX7_trailOfWhat_13 : decode cX7_trailOfWhat 13 = .ok (.bipush 6, 2) := by decide +kernel
theorem dX7_trailOfWhat_15 : decode cX7_trailOfWhat 15 = .ok (.if_icmp .ge 6, 3) := by decide +kernel
theorem dX7_trailOfWhat_18 : decode cX7_trailOfWhat 18 = .ok (.ldc 109, 2) := by decide +kernel
theorem dX7_trailOfWhat_20 : decode cX7_trailOfWhat 20 = .ok (.ireturn, 1) := by decide +kernel
theorem dX7_trailOfWhat_21 : decode cX7_trailOfWhat 21 = .ok (.iload_n 2, 1) := by decide +kernel
theorem dX7_trailOfWhat_22 : decode cX7_trailOfWhat 22 = .ok (.tableswitch 109 0 7 #[46, 52, 58, 64, 70, 83, 89, 103], 46) := by decide +kernel
theorem dX7_trailOfWhat_68 : decode cX7_trailOfWhat 68 = .ok (.aload_n 0, 1) := by decide +kernel
theorem dX7_trailOfWhat_69 : decode cX7_trailOfWhat 69 = .ok (.iload_n 1, 1) := by decide +kernel
theorem dX7_trailOfWhat_70 : decode cX7_trailOfWhat 70 = .ok (.invokevirtual 51, 3) := by decide +kernel
theorem dX7_trailOfWhat_73 : decode cX7_trailOfWhat 73 = .ok (.ireturn, 1) := by decide +kernel
theorem dX7_trailOfWhat_74 : decode cX7_trailOfWhat 74 = .ok (.aload_n 0, 1) := by decide +kernel
theorem dX7_trailOfWhat_75 : decode cX7_trailOfWhat 75 = .ok (.iload_n 1, 1) := by decide +kernel
theorem dX7_trailOfWhat_76 : decode cX7_trailOfWhat 76 = .ok (.invokevirtual 190, 3) := by decide +kernel
theorem dX7_trailOfWhat_79 : decode cX7_trailOfWhat 79 = .ok (.ireturn, 1) := by decide +kernel
theorem dX7_trailOfWhat_80 : decode cX7_trailOfWhat 80 = .ok (.aload_n 0, 1) := by decide +kernel
theorem dX7_trailOfWhat_81 : decode cX7_trailOfWhat 81 = .ok (.iload_n 1, 1) := by decide +kernel
theorem dX7_trailOfWhat_82 : decode cX7_trailOfWhat 82 = .ok (.invokevirtual 154, 3) := by decide +kernel
theorem dX7_trailOfWhat_85 : decode cX7_trailOfWhat 85 = .ok (.ireturn, 1) := by decide +kernel
theorem dX7_trailOfWhat_86 : decode cX7_trailOfWhat 86 = .ok (.aload_n 0, 1) := by decide +kernel
theorem dX7_trailOfWhat_87 : decode cX7_trailOfWhat 87 = .ok (.iload_n 1, 1) := by decide +kernel
theorem dX7_trailOfWhat_88 : decode cX7_trailOfWhat 88 = .ok (.invokevirtual 176, 3) := by decide +kernel
theorem dX7_trailOfWhat_91 : decode cX7_trailOfWhat 91 = .ok (.ireturn, 1) := by decide +kernel
theorem dX7_trailOfWhat_92 : decode cX7_trailOfWhat 92 = .ok (.aload_n 0, 1) := by decide +kernel
theorem dX7_trailOfWhat_93 : decode cX7_trailOfWhat 93 = .ok (.getfield 7, 3) := by decide +kernel
theorem dX7_trailOfWhat_96 : decode cX7_trailOfWhat 96 = .ok (.iconst 0, 1) := by decide +kernel
theorem dX7_trailOfWhat_97 : decode cX7_trailOfWhat 97 = .ok (.iaload, 1) := by decide +kernel
theorem dX7_trailOfWhat_98 : decode cX7_trailOfWhat 98 = .ok (.aload_n 0, 1) := by decide +kernel
theorem dX7_trailOfWhat_99 : decode cX7_trailOfWhat 99 = .ok (.iload_n 1, 1) := by decide +kernel
theorem dX7_trailOfWhat_100 : decode cX7_trailOfWhat 100 = .ok (.invokevirtual 179, 3) := by decide +kernel
theorem dX7_trailOfWhat_103 : decode cX7_trailOfWhat 103 = .ok (.imul, 1) := by decide +kernel
theorem dX7_trailOfWhat_104 : decode cX7_trailOfWhat 104 = .ok (.ireturn, 1) := by decide +kernel
theorem dX7_trailOfWhat_105 : decode cX7_trailOfWhat 105 = .ok (.aload_n 0, 1) := by decide +kernel
theorem dX7_trailOfWhat_106 : decode cX7_trailOfWhat 106 = .ok (.iload_n 1, 1) := by decide +kernel
theorem dX7_trailOfWhat_107 : decode cX7_trailOfWhat 107 = .ok (.invokevirtual 182, 3) := by decide +kernel
theorem dX7_trailOfWhat_110 : decode cX7_trailOfWhat 110 = .ok (.ireturn, 1) := by decide +kernel
theorem dX7_trailOfWhat_111 : decode cX7_trailOfWhat 111 = .ok (.aload_n 0, 1) := by decide +kernel
theorem dX7_trailOfWhat_112 : decode cX7_trailOfWhat 112 = .ok (.iload_n 1, 1) := by decide +kernel
theorem dX7_trailOfWhat_113 : decode cX7_trailOfWhat 113 = .ok (.invokevirtual 217, 3) := by decide +kernel
theorem dX7_trailOfWhat_116 : decode cX7_trailOfWhat 116 = .ok (.ifCond .eq 7, 3) := by decide +kernel
theorem dX7_trailOfWhat_119 : decode cX7_trailOfWhat 119 = .ok (.iconst 1, 1) := by decide +kernel
theorem dX7_trailOfWhat_120 : decode cX7_trailOfWhat 120 = .ok (.goto 4, 3) := by decide +kernel
theorem dX7_trailOfWhat_123 : decode cX7_trailOfWhat 123 = .ok (.iconst 0, 1) := by decide +kernel
theorem dX7_trailOfWhat_124 : decode cX7_trailOfWhat 124 = .ok (.ireturn, 1) := by decide +kernel
theorem dX7_trailOfWhat_125 : decode cX7_trailOfWhat 125 = .ok (.aload_n 0, 1) := by decide +kernel
theorem dX7_trailOfWhat_126 : decode cX7_trailOfWhat 126 = .ok (.iload_n 1, 1) := by decide +kernel
theorem dX7_trailOfWhat_127 : decode cX7_trailOfWhat 127 = .ok (.invokevirtual 220, 3) := by decide +kernel
theorem dX7_trailOfWhat_130 : decode cX7_trailOfWhat 130 = .ok (.ireturn, 1) := by decide +kernel
theorem dX7_trailOfWhat_131 : decode cX7_trailOfWhat 131 = .ok (.aload_n 0, 1) := by decide +kernel
theorem dX7_trailOfWhat_132 : decode cX7_trailOfWhat 132 = .ok (.getfield 22, 3) := by decide +kernel
theorem dX7_trailOfWhat_135 : decode cX7_trailOfWhat 135 = .ok (.iload_n 1, 1) := by decide +kernel
theorem dX7_trailOfWhat_136 : decode cX7_trailOfWhat 136 = .ok (.iaload, 1) := by decide +kernel
theorem dX7_trailOfWhat_137 : decode cX7_trailOfWhat 137 = .ok (.ireturn, 1) := by decide +kernel
set_option maxRecDepth 20000 in
theorem ggX7_trail_X7_isTrail : GoodIn wsX7_trail wsX7_isTrail := goodIn_r _ [6, 7, 8, 9, 5, 10, 126, 127, 128, 129, 130, 131, 132, 133, 134, 135, 136, 137, 138, 139, 140, 141, 142, 143, 144] (by decide +kernel) (by decide +kernel)
set_option maxRecDepth 20000 in
theorem gX7_trail_X7_isTrail : GoodIn wsX7_trail (wsV RX7 47 RX7 yX7_isTrail wsX7_isTrail) := goodIn_app (goodIn_of _ (by decide +kernel)) ggX7_trail_X7_isTrail
set_option maxRecDepth 20000 in
theorem ggX7_trail_X7_in : GoodIn wsX7_trail wsX7_in := goodIn_r _ [10] (by decide +kernel) (by decide +kernel)
set_option maxRecDepth 20000 in
theorem gX7_trail_X7_in : GoodIn wsX7_trail (va_wsS RX7 39 yX7_in wsX7_in) := goodIn_app (goodIn_of _ (by decide +kernel)) ggX7_trail_X7_in
set_option maxRecDepth 20000 in
theorem ggX7_trail_X7_match : GoodIn wsX7_trail wsX7_match := goodIn_r _ [14, 15, 16, 17, 7, 18, 19, 20, 21, 22, 23, 5, 24, 25, 26, 27, 28, 29, 30, 31, 32, 33, 34, 35, 36, 37, 38, 39, 40, 41, 42, 43, 44, 45, 46, 47, 48, 49, 50, 51, 52, 53, 54, 55, 56, 57, 58, 59, 60, 61, 62, 63, 64, 65, 66, 67, 68, 69, 70, 71, 72, 73, 74, 75, 76, 77, 78, 79, 80, 81, 82, 83, 84, 85, 86, 87, 88, 89, 90, 91, 92, 93, 94, 95, 96, 97, 126, 127, 128, 129, 130, 131, 132, 133, 134, 135, 136, 137, 138, 139, 140, 141, 142, 143, 144] (by decide +kernel) (by decide +kernel)
set_option maxRecDepth 20000 in
theorem gX7_trail_X7_match : GoodIn wsX7_trail (wsV RX7 223 RX7 yX7_match wsX7_match) := goodIn_app (goodIn_of _ (by decide +kernel)) ggX7_trail_X7_match
set_option maxRecDepth 20000 in
theorem ggX7_trail_X7_trailOfWhat : GoodIn wsX7_trail wsX7_trailOfWhat := goodIn_r _ [101, 16, 7, 15, 21, 22, 23, 5, 24, 30, 31, 32, 33, 34, 35, 36, 37, 38, 39, 40, 41, 42, 43, 44, 45, 46, 47, 48, 49, 50, 51, 52, 53, 54, 55, 56, 57, 58, 102, 103, 104, 105, 106, 107, 108, 109, 71, 72, 73, 74, 75, 76, 77, 78, 68, 69, 70, 79, 80, 81, 82, 83, 84, 85, 86, 91, 92, 93, 110, 111, 112, 113, 114, 115, 116, 117, 118, 119, 120, 121, 122, 123, 124, 125, 126, 127, 128, 129, 130, 131, 132, 133, 134, 135, 136, 137, 138, 139, 140, 141, 142, 143, 144] (by decide +kernel) (by decide +kernel)
set_option maxRecDepth 20000 in
theorem gX7_trail_X7_trailOfWhat : GoodIn wsX7_trail (wsV RX7 226 RX7 yX7_trailOfWhat wsX7_trailOfWhat) := goodIn_app (goodIn_of _ (by decide +kernel)) ggX7_trail_X7_trailOfWhat
theorem dX7_trail_0 : decode cX7_trail 0 = .ok (.aload_n 0, 1) := by decide +kernel
theorem dX7_trail_1 : decode cX7_trail 1 = .ok (.aload_n 0, 1) := by decide +kernel
theorem dX7_trail_2 : decode cX7_trail 2 = .ok (.iload_n 1, 1) := by decide +kernel
theorem dX7_trail_3 : decode cX7_trail 3 = .ok (.invokevirtual 47, 3) := by decide +kernel
theorem dX7_trail_6 : decode cX7_trail 6 = .ok (.ifCond .ne 7, 3) := by decide +kernel
theorem dX7_trail_9 : decode cX7_trail 9 = .ok (.iconst 1, 1) := by decide +kernel
theorem dX7_trail_10 : decode cX7_trail 10 = .ok (.goto 18, 3) := by decide +kernel
theorem dX7_trail_13 : decode cX7_trail 13 = .ok (.iload_n 2, 1) := by decide +kernel
theorem dX7_trail_14 : decode cX7_trail 14 = .ok (.iconst 0, 1) := by decide +kernel
theorem dX7_trail_15 : decode cX7_trail 15 = .ok (.bipush 8, 2) := by decide +kernel
theorem dX7_trail_17 : decode cX7_trail 17 = .ok (.invokestatic 39, 3) := by decide +kernel
theorem dX7_trail_20 : decode cX7_trail 20 = .ok (.ifCond .eq 7, 3) := by decide +kernel
theorem dX7_trail_23 : decode cX7_trail 23 = .ok (.iconst 0, 1) := by decide +kernel
theorem dX7_trail_24 : decode cX7_trail 24 = .ok (.goto 4, 3) := by decide +kernel
theorem dX7_trail_27 : decode cX7_trail 27 = .ok (.iconst 2, 1) := by decide +kernel
theorem dX7_trail_28 : decode cX7_trail 28 = .ok (.putfield 31, 3) := by decide +kernel
theorem dX7_trail_31 : decode cX7_trail 31 = .ok (.aload_n 0, 1) := by decide +kernel
theorem dX7_trail_32 : decode cX7_trail 32 = .ok (.getfield 31, 3) := by decide +kernel
theorem dX7_trail_35 : decode cX7_trail 35 = .ok (.ifCond .eq 5, 3) := by decide +kernel
theorem dX7_trail_38 : decode cX7_trail 38 = .ok (.iconst 0, 1) := by decide +kernel
theorem dX7_trail_39 : decode cX7_trail 39 = .ok (.ireturn, 1) := by decide +kernel
theorem dX7_trail_40 : decode cX7_trail 40 = .ok (.aload_n 0, 1) := by decide +kernel
theorem dX7_trail_41 : decode cX7_trail 41 = .ok (.invokevirtual 223, 3) := by decide +kernel
theorem dX7_trail_44 : decode cX7_trail 44 = .ok (.aload_n 0, 1) := by decide +kernel
theorem dX7_trail_45 : decode cX7_trail 45 = .ok (.iload_n 1, 1) := by decide +kernel
theorem dX7_trail_46 : decode cX7_trail 46 = .ok (.iload_n 2, 1) := by decide +kernel
theorem dX7_trail_47 : decode cX7_trail 47 = .ok (.invokevirtual 226, 3) := by decide +kernel
theorem dX7_trail_50 : decode cX7_trail 50 = .ok (.ireturn, 1) := by decide +kernel
set_option maxRecDepth 20000 in
theorem ggX7_starOfWhat_X7_plateRadius : GoodIn wsX7_starOfWhat wsX7_plateRadius := goodIn_r _ [8, 9, 10, 11, 12, 13, 7, 14, 19, 20, 21, 22, 23, 24, 25, 26, 27, 28, 29, 30, 31, 32, 33, 34, 35, 36, 37] (by decide +kernel) (by decide +kernel)
set_option maxRecDepth 20000 in
theorem gX7_starOfWhat_X7_plateRadius : GoodIn wsX7_starOfWhat (wsV RX7 193 RX7 yX7_plateRadius wsX7_plateRadius) := goodIn_app (goodIn_of _ (by decide +kernel)) ggX7_starOfWhat_X7_plateRadius
set_option maxRecDepth 20000 in
theorem ggX7_starOfWhat_X7_isMissing : GoodIn wsX7_starOfWhat wsX7_isMissing := goodIn_r _ [18, 1, 2, 9, 11, 12, 13, 7, 14, 19, 20, 21, 22, 23, 24, 25, 26, 27, 28, 29, 30, 31, 32, 33, 34, 35, 36, 37] (by decide +kernel) (by decide +kernel)
set_option maxRecDepth 20000 in
theorem gX7_starOfWhat_X7_isMissing : GoodIn wsX7_starOfWhat (wsV RX7 229 RX7 yX7_isMissing wsX7_isMissing) := goodIn_app (goodIn_of _ (by decide +kernel)) ggX7_starOfWhat_X7_isMissing
set_option maxRecDepth 20000 in
theorem ggX7_starOfWhat_X7_ofStar : GoodIn wsX7_starOfWhat wsX7_ofStar := goodIn_r _ [14, 9, 19, 20, 21, 22, 23, 24, 25, 26, 27, 28, 29, 30, 31, 32, 33, 34, 35, 36, 37] (by decide +kernel) (by decide +kernel)
set_option maxRecDepth 20000 in
theorem gX7_starOfWhat_X7_ofStar : GoodIn wsX7_starOfWhat (wsV RX7 185 RX7 yX7_ofStar wsX7_ofStar) := goodIn_app (goodIn_of _ (by decide +kernel)) ggX7_starOfWhat_X7_ofStar
theorem dX7_starOfWhat_0 : decode cX7_starOfWhat 0 = .ok (.iload_n 2, 1) := by decide +kernel
theorem dX7_starOfWhat_1 : decode cX7_starOfWhat 1 = .ok (.tableswitch 91 3 6 #[31, 37, 44, 77], 31) := by decide +kernel
theorem dX7_starOfWhat_32 : decode cX7_starOfWhat 32 = .ok (.aload_n 0, 1) := by decide +kernel
theorem dX7_starOfWhat_33 : decode cX7_starOfWhat 33 = .ok (.iload_n 1, 1) := by decide +kernel
theorem dX7_starOfWhat_34 : decode cX7_starOfWhat 34 = .ok (.invokevirtual 193, 3) := by decide +kernel
theorem dX7_starOfWhat_37 : decode cX7_starOfWhat 37 = .ok (.ireturn, 1) := by decide +kernel
theorem dX7_starOfWhat_38 : decode cX7_starOfWhat 38 = .ok (.aload_n 0, 1) := by decide +kernel
theorem dX7_starOfWhat_39 : decode cX7_starOfWhat 39 = .ok (.getfield 25, 3) := by decide +kernel
theorem dX7_starOfWhat_42 : decode cX7_starOfWhat 42 = .ok (.iload_n 1, 1) := by decide +kernel
theorem dX7_starOfWhat_43 : decode cX7_starOfWhat 43 = .ok (.iaload, 1) := by decide +kernel
theorem dX7_starOfWhat_44 : decode cX7_starOfWhat 44 = .ok (.ireturn, 1) := by decide +kernel
theorem dX7_starOfWhat_45 : decode cX7_starOfWhat 45 = .ok (.aload_n 0, 1) := by decide +kernel
theorem dX7_starOfWhat_46 : decode cX7_starOfWhat 46 = .ok (.getfield 25, 3) := by decide +kernel
theorem dX7_starOfWhat_49 : decode cX7_starOfWhat 49 = .ok (.iload_n 1, 1) := by decide +kernel
theorem dX7_starOfWhat_50 : decode cX7_starOfWhat 50 = .ok (.iaload, 1) := by decide +kernel
theorem dX7_starOfWhat_51 : decode cX7_starOfWhat 51 = .ok (.ldc 109, 2) := by decide +kernel
theorem dX7_starOfWhat_53 : decode cX7_starOfWhat 53 = .ok (.if_icmp .ne 8, 3) := by decide +kernel
theorem dX7_starOfWhat_56 : decode cX7_starOfWhat 56 = .ok (.ldc 109, 2) := by decide +kernel
theorem dX7_starOfWhat_58 : decode cX7_starOfWhat 58 = .ok (.goto 19, 3) := by decide +kernel
theorem dX7_starOfWhat_61 : decode cX7_starOfWhat 61 = .ok (.aload_n 0, 1) := by decide +kernel
theorem dX7_starOfWhat_62 : decode cX7_starOfWhat 62 = .ok (.getfield 19, 3) := by decide +kernel
theorem dX7_starOfWhat_65 : decode cX7_starOfWhat 65 = .ok (.bipush 12, 2) := by decide +kernel
theorem dX7_starOfWhat_67 : decode cX7_starOfWhat 67 = .ok (.aload_n 0, 1) := by decide +kernel
theorem dX7_starOfWhat_68 : decode cX7_starOfWhat 68 = .ok (.getfield 25, 3) := by decide +kernel
theorem dX7_starOfWhat_71 : decode cX7_starOfWhat 71 = .ok (.iload_n 1, 1) := by decide +kernel
theorem dX7_starOfWhat_72 : decode cX7_starOfWhat 72 = .ok (.iaload, 1) := by decide +kernel
theorem dX7_starOfWhat_73 : decode cX7_starOfWhat 73 = .ok (.imul, 1) := by decide +kernel
theorem dX7_starOfWhat_74 : decode cX7_starOfWhat 74 = .ok (.iload_n 1, 1) := by decide +kernel
theorem dX7_starOfWhat_75 : decode cX7_starOfWhat 75 = .ok (.iadd, 1) := by decide +kernel
theorem dX7_starOfWhat_76 : decode cX7_starOfWhat 76 = .ok (.iaload, 1) := by decide +kernel
theorem dX7_starOfWhat_77 : decode cX7_starOfWhat 77 = .ok (.ireturn, 1) := by decide +kernel
theorem dX7_starOfWhat_78 : decode cX7_starOfWhat 78 = .ok (.aload_n 0, 1) := by decide +kernel
theorem dX7_starOfWhat_79 : decode cX7_starOfWhat 79 = .ok (.iload_n 1, 1) := by decide +kernel
theorem dX7_starOfWhat_80 : decode cX7_starOfWhat 80 = .ok (.invokevirtual 229, 3) := by decide +kernel
theorem dX7_starOfWhat_83 : decode cX7_starOfWhat 83 = .ok (.ifCond .eq 7, 3) := by decide +kernel
theorem dX7_starOfWhat_86 : decode cX7_starOfWhat 86 = .ok (.iconst 1, 1) := by decide +kernel
theorem dX7_starOfWhat_87 : decode cX7_starOfWhat 87 = .ok (.goto 4, 3) := by decide +kernel
theorem dX7_starOfWhat_90 : decode cX7_starOfWhat 90 = .ok (.iconst 0, 1) := by decide +kernel
theorem dX7_starOfWhat_91 : decode cX7_starOfWhat 91 = .ok (.ireturn, 1) := by decide +kernel
theorem dX7_starOfWhat_92 : decode cX7_starOfWhat 92 = .ok (.aload_n 0, 1) := by decide +kernel
theorem dX7_starOfWhat_93 : decode cX7_starOfWhat 93 = .ok (.iload_n 1, 1) := by decide +kernel
theorem dX7_starOfWhat_94 : decode cX7_starOfWhat 94 = .ok (.iload_n 2, 1) := by decide +kernel
theorem dX7_starOfWhat_95 : decode cX7_starOfWhat 95 = .ok (.invokevirtual 185, 3) := by decide +kernel
theorem dX7_starOfWhat_98 : decode cX7_starOfWhat 98 = .ok (.ireturn, 1) := by decide +kernel
set_option maxRecDepth 20000 in
theorem ggX7_star_X7_isStar : GoodIn wsX7_star wsX7_isStar := goodIn_r _ [6, 7, 8, 9, 5, 10, 106, 107, 108, 109, 110, 111, 112, 113, 114, 115, 116, 117, 118, 119, 120, 121, 122, 123, 124] (by decide +kernel) (by decide +kernel)
set_option maxRecDepth 20000 in
theorem gX7_star_X7_isStar : GoodIn wsX7_star (wsV RX7 136 RX7 yX7_isStar wsX7_isStar) := goodIn_app (goodIn_of _ (by decide +kernel)) ggX7_star_X7_isStar
set_option maxRecDepth 20000 in
theorem ggX7_star_X7_in : GoodIn wsX7_star wsX7_in := goodIn_r _ [10] (by decide +kernel) (by decide +kernel)
set_option maxRecDepth 20000 in
theorem gX7_star_X7_in : GoodIn wsX7_star (va_wsS RX7 39 yX7_in wsX7_in) := goodIn_app (goodIn_of _ (by decide +kernel)) ggX7_star_X7_in
set_option maxRecDepth 20000 in
theorem ggX7_star_X7_match : GoodIn wsX7_star wsX7_match := goodIn_r _ [14, 15, 16, 17, 7, 18, 19, 20, 21, 22, 23, 5, 24, 25, 26, 27, 28, 29, 30, 31, 32, 33, 34, 35, 36, 37, 38, 39, 40, 41, 42, 43, 44, 45, 46, 47, 48, 49, 50, 51, 52, 53, 54, 55, 56, 57, 58, 59, 60, 61, 62, 63, 64, 65, 66, 67, 68, 69, 70, 71, 72, 73, 74, 75, 76, 77, 78, 79, 80, 81, 82, 83, 84, 85, 86, 87, 88, 89, 90, 91, 92, 93, 94, 95, 96, 97, 106, 107, 108, 109, 110, 111, 112, 113, 114, 115, 116, 117, 118, 119, 120, 121, 122, 123, 124] (by decide +kernel) (by decide +kernel)
set_option maxRecDepth 20000 in
theorem gX7_star_X7_match : GoodIn wsX7_star (wsV RX7 223 RX7 yX7_match wsX7_match) := goodIn_app (goodIn_of _ (by decide +kernel)) ggX7_star_X7_match
set_option maxRecDepth 20000 in
theorem ggX7_star_X7_starOfWhat : GoodIn wsX7_star wsX7_starOfWhat := goodIn_r _ [101, 17, 16, 18, 59, 60, 61, 5, 62, 7, 63, 64, 65, 66, 67, 102, 103, 104, 105, 106, 107, 108, 109, 110, 111, 112, 113, 114, 115, 116, 117, 118, 119, 120, 121, 122, 123, 124] (by decide +kernel) (by decide +kernel)
set_option maxRecDepth 20000 in
theorem gX7_star_X7_starOfWhat : GoodIn wsX7_star (wsV RX7 232 RX7 yX7_starOfWhat wsX7_starOfWhat) := goodIn_app (goodIn_of _ (by decide +kernel)) ggX7_star_X7_starOfWhat
theorem dX7_star_0 : decode cX7_star 0 = .ok (.aload_n 0, 1) := by decide +kernel
theorem dX7_star_1 : decode cX7_star 1 = .ok (.aload_n 0, 1) := by decide +kernel
theorem dX7_star_2 : decode cX7_star 2 = .ok (.iload_n 1, 1) := by decide +kernel
theorem dX7_star_3 : decode cX7_star 3 = .ok (.invokevirtual 136, 3) := by decide +kernel
theorem dX7_star_6 : decode cX7_star 6 = .ok (.ifCond .ne 7, 3) := by decide +kernel
theorem dX7_star_9 : decode cX7_star 9 = .ok (.iconst 1, 1) := by decide +kernel
theorem dX7_star_10 : decode cX7_star 10 = .ok (.goto 18, 3) := by decide +kernel
theorem dX7_star_13 : decode cX7_star 13 = .ok (.iload_n 2, 1) := by decide +kernel
theorem dX7_star_14 : decode cX7_star 14 = .ok (.iconst 0, 1) := by decide +kernel
theorem dX7_star_15 : decode cX7_star 15 = .ok (.bipush 6, 2) := by decide +kernel
theorem dX7_star_17 : decode cX7_star 17 = .ok (.invokestatic 39, 3) := by decide +kernel
theorem dX7_star_20 : decode cX7_star 20 = .ok (.ifCond .eq 7, 3) := by decide +kernel
theorem dX7_star_23 : decode cX7_star 23 = .ok (.iconst 0, 1) := by decide +kernel
theorem dX7_star_24 : decode cX7_star 24 = .ok (.goto 4, 3) := by decide +kernel
theorem dX7_star_27 : decode cX7_star 27 = .ok (.iconst 2, 1) := by decide +kernel
theorem dX7_star_28 : decode cX7_star 28 = .ok (.putfield 31, 3) := by decide +kernel
theorem dX7_star_31 : decode cX7_star 31 = .ok (.aload_n 0, 1) := by decide +kernel
theorem dX7_star_32 : decode cX7_star 32 = .ok (.getfield 31, 3) := by decide +kernel
theorem dX7_star_35 : decode cX7_star 35 = .ok (.ifCond .eq 5, 3) := by decide +kernel
theorem dX7_star_38 : decode cX7_star 38 = .ok (.iconst 0, 1) := by decide +kernel
theorem dX7_star_39 : decode cX7_star 39 = .ok (.ireturn, 1) := by decide +kernel
theorem dX7_star_40 : decode cX7_star 40 = .ok (.aload_n 0, 1) := by decide +kernel
theorem dX7_star_41 : decode cX7_star 41 = .ok (.invokevirtual 223, 3) := by decide +kernel
theorem dX7_star_44 : decode cX7_star 44 = .ok (.aload_n 0, 1) := by decide +kernel
theorem dX7_star_45 : decode cX7_star 45 = .ok (.iload_n 1, 1) := by decide +kernel
theorem dX7_star_46 : decode cX7_star 46 = .ok (.iload_n 2, 1) := by decide +kernel
theorem dX7_star_47 : decode cX7_star 47 = .ok (.invokevirtual 232, 3) := by decide +kernel
theorem dX7_star_50 : decode cX7_star 50 = .ok (.ireturn, 1) := by decide +kernel
set_option maxRecDepth 20000 in
theorem ggX7_starAngle_X7_isStar : GoodIn wsX7_starAngle wsX7_isStar := goodIn_r _ [6, 7, 8, 9, 5, 10, 23, 24, 25, 26, 27, 28, 29, 30, 31, 32, 33, 34, 35, 36, 37, 38, 39, 40, 41] (by decide +kernel) (by decide +kernel)
set_option maxRecDepth 20000 in
theorem gX7_starAngle_X7_isStar : GoodIn wsX7_starAngle (wsV RX7 136 RX7 yX7_isStar wsX7_isStar) := goodIn_app (goodIn_of _ (by decide +kernel)) ggX7_starAngle_X7_isStar
set_option maxRecDepth 20000 in
theorem ggX7_starAngle_X7_in : GoodIn wsX7_starAngle wsX7_in := goodIn_r _ [10] (by decide +kernel) (by decide +kernel)
set_option maxRecDepth 20000 in
theorem gX7_starAngle_X7_in : GoodIn wsX7_starAngle (va_wsS RX7 39 yX7_in wsX7_in) := goodIn_app (goodIn_of _ (by decide +kernel)) ggX7_starAngle_X7_in
set_option maxRecDepth 20000 in
theorem ggX7_starAngle_X7_starAngleIn : GoodIn wsX7_starAngle wsX7_starAngleIn := goodIn_r _ [14, 7, 15, 16, 17, 5, 18, 19, 20, 21, 22, 23, 24, 25, 26, 27, 28, 29, 30, 31, 32, 33, 34, 35, 36, 37, 38, 39, 40, 41] (by decide +kernel) (by decide +kernel)
set_option maxRecDepth 20000 in
theorem gX7_starAngle_X7_starAngleIn : GoodIn wsX7_starAngle (wsV RX7 196 RX7 yX7_starAngleIn wsX7_starAngleIn) := goodIn_app (goodIn_of _ (by decide +kernel)) ggX7_starAngle_X7_starAngleIn
theorem dX7_starAngle_0 : decode cX7_starAngle 0 = .ok (.aload_n 0, 1) := by decide +kernel
theorem dX7_starAngle_1 : decode cX7_starAngle 1 = .ok (.aload_n 0, 1) := by decide +kernel
theorem dX7_starAngle_2 : decode cX7_starAngle 2 = .ok (.iload_n 1, 1) := by decide +kernel
theorem dX7_starAngle_3 : decode cX7_starAngle 3 = .ok (.invokevirtual 136, 3) := by decide +kernel
theorem dX7_starAngle_6 : decode cX7_starAngle 6 = .ok (.ifCond .ne 7, 3) := by decide +kernel
theorem dX7_starAngle_9 : decode cX7_starAngle 9 = .ok (.iconst 1, 1) := by decide +kernel
theorem dX7_starAngle_10 : decode cX7_starAngle 10 = .ok (.goto 19, 3) := by decide +kernel
theorem dX7_starAngle_13 : decode cX7_starAngle 13 = .ok (.iload_n 2, 1) := by decide +kernel
theorem dX7_starAngle_14 : decode cX7_starAngle 14 = .ok (.iconst 0, 1) := by decide +kernel
theorem dX7_starAngle_15 : decode cX7_starAngle 15 = .ok (.sipush 1000, 3) := by decide +kernel
theorem dX7_starAngle_18 : decode cX7_starAngle 18 = .ok (.invokestatic 39, 3) := by decide +kernel
theorem dX7_starAngle_21 : decode cX7_starAngle 21 = .ok (.ifCond .eq 7, 3) := by decide +kernel
theorem dX7_starAngle_24 : decode cX7_starAngle 24 = .ok (.iconst 0, 1) := by decide +kernel
theorem dX7_starAngle_25 : decode cX7_starAngle 25 = .ok (.goto 4, 3) := by decide +kernel
theorem dX7_starAngle_28 : decode cX7_starAngle 28 = .ok (.iconst 2, 1) := by decide +kernel
theorem dX7_starAngle_29 : decode cX7_starAngle 29 = .ok (.putfield 31, 3) := by decide +kernel
theorem dX7_starAngle_32 : decode cX7_starAngle 32 = .ok (.aload_n 0, 1) := by decide +kernel
theorem dX7_starAngle_33 : decode cX7_starAngle 33 = .ok (.getfield 31, 3) := by decide +kernel
theorem dX7_starAngle_36 : decode cX7_starAngle 36 = .ok (.ifCond .eq 7, 3) := by decide +kernel
theorem dX7_starAngle_39 : decode cX7_starAngle 39 = .ok (.iconst 0, 1) := by decide +kernel
theorem dX7_starAngle_40 : decode cX7_starAngle 40 = .ok (.goto 9, 3) := by decide +kernel
theorem dX7_starAngle_43 : decode cX7_starAngle 43 = .ok (.aload_n 0, 1) := by decide +kernel
theorem dX7_starAngle_44 : decode cX7_starAngle 44 = .ok (.iload_n 1, 1) := by decide +kernel
theorem dX7_starAngle_45 : decode cX7_starAngle 45 = .ok (.iload_n 2, 1) := by decide +kernel
theorem dX7_starAngle_46 : decode cX7_starAngle 46 = .ok (.invokevirtual 196, 3) := by decide +kernel
theorem dX7_starAngle_49 : decode cX7_starAngle 49 = .ok (.ireturn, 1) := by decide +kernel
set_option maxRecDepth 20000 in
theorem ggX7_cost_X7_isTrail : GoodIn wsX7_cost wsX7_isTrail := goodIn_r _ [7, 8, 9, 10, 6, 11, 89, 90, 91, 92, 93, 94, 95, 96, 97, 98, 99, 100, 101, 102, 103, 104, 105, 106, 107] (by decide +kernel) (by decide +kernel)
set_option maxRecDepth 20000 in
theorem gX7_cost_X7_isTrail : GoodIn wsX7_cost (wsV RX7 47 RX7 yX7_isTrail wsX7_isTrail) := goodIn_app (goodIn_of _ (by decide +kernel)) ggX7_cost_X7_isTrail
set_option maxRecDepth 20000 in
theorem ggX7_cost_X7_isStar : GoodIn wsX7_cost wsX7_isStar := goodIn_r _ [15, 8, 9, 10, 6, 11, 89, 90, 91, 92, 93, 94, 95, 96, 97, 98, 99, 100, 101, 102, 103, 104, 105, 106, 107] (by decide +kernel) (by decide +kernel)
set_option maxRecDepth 20000 in
theorem gX7_cost_X7_isStar : GoodIn wsX7_cost (wsV RX7 136 RX7 yX7_isStar wsX7_isStar) := goodIn_app (goodIn_of _ (by decide +kernel)) ggX7_cost_X7_isStar
set_option maxRecDepth 20000 in
theorem ggX7_cost_X7_points : GoodIn wsX7_cost wsX7_points := goodIn_r _ [19, 8, 89, 90, 91, 92, 93, 94, 95, 96, 97, 98, 99, 100, 101, 102, 103, 104, 105, 106, 107] (by decide +kernel) (by decide +kernel)
set_option maxRecDepth 20000 in
theorem gX7_cost_X7_points : GoodIn wsX7_cost (wsV RX7 51 RX7 yX7_points wsX7_points) := goodIn_app (goodIn_of _ (by decide +kernel)) ggX7_cost_X7_points
set_option maxRecDepth 20000 in
theorem ggX7_cost_X7_costOf : GoodIn wsX7_cost wsX7_costOf := goodIn_r _ [23, 24, 25, 26, 27, 6, 28, 16, 17, 18, 19, 8, 29, 30, 31, 32, 33, 34, 35, 36, 37, 38, 39, 40, 41, 42, 43, 44, 45, 46, 47, 48, 49, 50, 51, 52, 53, 54, 55, 56, 57, 58, 59, 60, 61, 62, 63, 64, 65, 66, 67, 68, 69, 70, 71, 72, 73, 74, 75, 76, 77, 78, 79, 80, 81, 82, 83, 84, 85, 86, 87, 88, 89, 90, 91, 92, 93, 94, 95, 96, 97, 98, 99, 100, 101, 102, 103, 104, 105, 106, 107] (by decide +kernel) (by decide +kernel)
set_option maxRecDepth 20000 in
theorem gX7_cost_X7_costOf : GoodIn wsX7_cost (wsV RX7 207 RX7 yX7_costOf wsX7_costOf) := goodIn_app (goodIn_of _ (by decide +kernel)) ggX7_cost_X7_costOf
theorem dX7_cost_0 : decode cX7_cost 0 = .ok (.aload_n 0, 1) := by decide +kernel
theorem dX7_cost_1 : decode cX7_cost 1 = .ok (.aload_n 0, 1) := by decide +kernel
theorem dX7_cost_2 : decode cX7_cost 2 = .ok (.iload_n 1, 1) := by decide +kernel
theorem dX7_cost_3 : decode cX7_cost 3 = .ok (.invokevirtual 47, 3) := by decide +kernel
theorem dX7_cost_6 : decode cX7_cost 6 = .ok (.ifCond .eq 15, 3) := by decide +kernel
theorem dX7_cost_9 : decode cX7_cost 9 = .ok (.aload_n 0, 1) := by decide +kernel
theorem dX7_cost_10 : decode cX7_cost 10 = .ok (.iload_n 2, 1) := by decide +kernel
theorem dX7_cost_11 : decode cX7_cost 11 = .ok (.invokevirtual 136, 3) := by decide +kernel
theorem dX7_cost_14 : decode cX7_cost 14 = .ok (.ifCond .eq 7, 3) := by decide +kernel
theorem dX7_cost_17 : decode cX7_cost 17 = .ok (.iconst 0, 1) := by decide +kernel
theorem dX7_cost_18 : decode cX7_cost 18 = .ok (.goto 4, 3) := by decide +kernel
theorem dX7_cost_21 : decode cX7_cost 21 = .ok (.iconst 1, 1) := by decide +kernel
theorem dX7_cost_22 : decode cX7_cost 22 = .ok (.putfield 31, 3) := by decide +kernel
theorem dX7_cost_25 : decode cX7_cost 25 = .ok (.aload_n 0, 1) := by decide +kernel
theorem dX7_cost_26 : decode cX7_cost 26 = .ok (.getfield 31, 3) := by decide +kernel
theorem dX7_cost_29 : decode cX7_cost 29 = .ok (.ifCond .eq 7, 3) := by decide +kernel
theorem dX7_cost_32 : decode cX7_cost 32 = .ok (.iconst 0, 1) := by decide +kernel
theorem dX7_cost_33 : decode cX7_cost 33 = .ok (.goto 22, 3) := by decide +kernel
theorem dX7_cost_36 : decode cX7_cost 36 = .ok (.aload_n 0, 1) := by decide +kernel
theorem dX7_cost_37 : decode cX7_cost 37 = .ok (.iload_n 1, 1) := by decide +kernel
theorem dX7_cost_38 : decode cX7_cost 38 = .ok (.invokevirtual 51, 3) := by decide +kernel
theorem dX7_cost_41 : decode cX7_cost 41 = .ok (.ifCond .ne 8, 3) := by decide +kernel
theorem dX7_cost_44 : decode cX7_cost 44 = .ok (.ldc 109, 2) := by decide +kernel
theorem dX7_cost_46 : decode cX7_cost 46 = .ok (.goto 9, 3) := by decide +kernel
theorem dX7_cost_49 : decode cX7_cost 49 = .ok (.aload_n 0, 1) := by decide +kernel
theorem dX7_cost_50 : decode cX7_cost 50 = .ok (.iload_n 1, 1) := by decide +kernel
theorem dX7_cost_51 : decode cX7_cost 51 = .ok (.iload_n 2, 1) := by decide +kernel
theorem dX7_cost_52 : decode cX7_cost 52 = .ok (.invokevirtual 207, 3) := by decide +kernel
theorem dX7_cost_55 : decode cX7_cost 55 = .ok (.ireturn, 1) := by decide +kernel
set_option maxRecDepth 20000 in
theorem ggX7_missing_X7_match : GoodIn wsX7_missing wsX7_match := goodIn_r _ [8, 9, 3, 10, 2, 11, 12, 13, 14, 15, 16, 7, 17, 18, 19, 20, 21, 22, 23, 24, 25, 26, 27, 28, 29, 30, 31, 32, 33, 34, 35, 36, 37, 38, 39, 40, 41, 42, 43, 44, 45, 46, 47, 48, 49, 50, 51, 52, 53, 54, 55, 56, 57, 58, 59, 60, 61, 62, 63, 64, 65, 66, 67, 68, 69, 70, 71, 72, 73, 74, 75, 76, 77, 78, 79, 80, 81, 82, 83, 84, 85, 86, 87, 88, 89, 90, 95, 96, 97, 98, 99, 100, 101, 102, 103, 104, 105, 106, 107, 108, 109, 110, 111, 112, 113] (by decide +kernel) (by decide +kernel)
set_option maxRecDepth 20000 in
theorem gX7_missing_X7_match : GoodIn wsX7_missing (wsV RX7 223 RX7 yX7_match wsX7_match) := goodIn_app (goodIn_of _ (by decide +kernel)) ggX7_missing_X7_match
set_option maxRecDepth 20000 in
theorem ggX7_missing_X7_isMissing : GoodIn wsX7_missing wsX7_isMissing := goodIn_r _ [94, 10, 3, 2, 57, 58, 59, 7, 60, 95, 96, 97, 98, 99, 100, 101, 102, 103, 104, 105, 106, 107, 108, 109, 110, 111, 112, 113] (by decide +kernel) (by decide +kernel)
set_option maxRecDepth 20000 in
theorem gX7_missing_X7_isMissing : GoodIn wsX7_missing (wsV RX7 229 RX7 yX7_isMissing wsX7_isMissing) := goodIn_app (goodIn_of _ (by decide +kernel)) ggX7_missing_X7_isMissing
theorem dX7_missing_0 : decode cX7_missing 0 = .ok (.aload_n 0, 1) := by decide +kernel
theorem dX7_missing_1 : decode cX7_missing 1 = .ok (.iload_n 1, 1) := by decide +kernel
theorem dX7_missing_2 : decode cX7_missing 2 = .ok (.ifCond .ge 7, 3) := by decide +kernel
theorem dX7_missing_5 : decode cX7_missing 5 = .ok (.iconst 1, 1) := by decide +kernel
theorem dX7_missing_6 : decode cX7_missing 6 = .ok (.goto 4, 3) := by decide +kernel
theorem dX7_missing_9 : decode cX7_missing 9 = .ok (.iconst 0, 1) := by decide +kernel
theorem dX7_missing_10 : decode cX7_missing 10 = .ok (.putfield 31, 3) := by decide +kernel
theorem dX7_missing_13 : decode cX7_missing 13 = .ok (.aload_n 0, 1) := by decide +kernel
theorem dX7_missing_14 : decode cX7_missing 14 = .ok (.getfield 31, 3) := by decide +kernel
theorem dX7_missing_17 : decode cX7_missing 17 = .ok (.ifCond .eq 5, 3) := by decide +kernel
theorem dX7_missing_20 : decode cX7_missing 20 = .ok (.iconst 0, 1) := by decide +kernel
theorem dX7_missing_21 : decode cX7_missing 21 = .ok (.ireturn, 1) := by decide +kernel
theorem dX7_missing_22 : decode cX7_missing 22 = .ok (.aload_n 0, 1) := by decide +kernel
theorem dX7_missing_23 : decode cX7_missing 23 = .ok (.invokevirtual 223, 3) := by decide +kernel
theorem dX7_missing_26 : decode cX7_missing 26 = .ok (.iload_n 1, 1) := by decide +kernel
theorem dX7_missing_27 : decode cX7_missing 27 = .ok (.istore_n 2, 1) := by decide +kernel
theorem dX7_missing_28 : decode cX7_missing 28 = .ok (.iconst 0, 1) := by decide +kernel
theorem dX7_missing_29 : decode cX7_missing 29 = .ok (.istore_n 3, 1) := by decide +kernel
theorem dX7_missing_30 : decode cX7_missing 30 = .ok (.iload_n 3, 1) := by decide +kernel
theorem dX7_missing_31 : decode cX7_missing 31 = .ok (.aload_n 0, 1) := by decide +kernel
theorem dX7_missing_32 : decode cX7_missing 32 = .ok (.getfield 7, 3) := by decide +kernel
theorem dX7_missing_35 : decode cX7_missing 35 = .ok (.bipush 13, 2) := by decide +kernel
theorem dX7_missing_37 : decode cX7_missing 37 = .ok (.iaload, 1) := by decide +kernel
theorem dX7_missing_38 : decode cX7_missing 38 = .ok (.if_icmp .ge 39, 3) := by decide +kernel
theorem dX7_missing_41 : decode cX7_missing 41 = .ok (.aload_n 0, 1) := by decide +kernel
theorem dX7_missing_42 : decode cX7_missing 42 = .ok (.iload_n 3, 1) := by decide +kernel
theorem dX7_missing_43 : decode cX7_missing 43 = .ok (.invokevirtual 229, 3) := by decide +kernel
theorem dX7_missing_46 : decode cX7_missing 46 = .ok (.ifCond .eq 9, 3) := by decide +kernel
theorem dX7_missing_49 : decode cX7_missing 49 = .ok (.iload_n 2, 1) := by decide +kernel
theorem dX7_missing_50 : decode cX7_missing 50 = .ok (.ifCond .ne 5, 3) := by decide +kernel
theorem dX7_missing_53 : decode cX7_missing 53 = .ok (.iload_n 3, 1) := by decide +kernel
theorem dX7_missing_54 : decode cX7_missing 54 = .ok (.ireturn, 1) := by decide +kernel
theorem dX7_missing_55 : decode cX7_missing 55 = .ok (.iload_n 2, 1) := by decide +kernel
theorem dX7_missing_56 : decode cX7_missing 56 = .ok (.aload_n 0, 1) := by decide +kernel
theorem dX7_missing_57 : decode cX7_missing 57 = .ok (.iload_n 3, 1) := by decide +kernel
theorem dX7_missing_58 : decode cX7_missing 58 = .ok (.invokevirtual 229, 3) := by decide +kernel
theorem dX7_missing_61 : decode cX7_missing 61 = .ok (.ifCond .eq 7, 3) := by decide +kernel
theorem dX7_missing_64 : decode cX7_missing 64 = .ok (.iconst 1, 1) := by decide +kernel
theorem dX7_missing_65 : decode cX7_missing 65 = .ok (.goto 4, 3) := by decide +kernel
theorem dX7_missing_68 : decode cX7_missing 68 = .ok (.iconst 0, 1) := by decide +kernel
theorem dX7_missing_69 : decode cX7_missing 69 = .ok (.isub, 1) := by decide +kernel
theorem dX7_missing_70 : decode cX7_missing 70 = .ok (.istore_n 2, 1) := by decide +kernel
theorem dX7_missing_71 : decode cX7_missing 71 = .ok (.iinc 3 1, 3) := by decide +kernel
theorem dX7_missing_74 : decode cX7_missing 74 = .ok (.goto (-44), 3) := by decide +kernel
theorem dX7_missing_77 : decode cX7_missing 77 = .ok (.ldc 109, 2) := by decide +kernel
theorem dX7_missing_79 : decode cX7_missing 79 = .ok (.ireturn, 1) := by decide +kernel
set_option maxRecDepth 20000 in
theorem ggX7_setting_X7_in : GoodIn wsX7_setting wsX7_in := goodIn_r _ [6] (by decide +kernel) (by decide +kernel)
set_option maxRecDepth 20000 in
theorem gX7_setting_X7_in : GoodIn wsX7_setting (va_wsS RX7 39 yX7_in wsX7_in) := goodIn_app (goodIn_of _ (by decide +kernel)) ggX7_setting_X7_in
theorem dX7_setting_0 : decode cX7_setting 0 = .ok (.aload_n 0, 1) := by decide +kernel
theorem dX7_setting_1 : decode cX7_setting 1 = .ok (.iload_n 1, 1) := by decide +kernel
theorem dX7_setting_2 : decode cX7_setting 2 = .ok (.iconst 0, 1) := by decide +kernel
theorem dX7_setting_3 : decode cX7_setting 3 = .ok (.bipush 9, 2) := by decide +kernel
theorem dX7_setting_5 : decode cX7_setting 5 = .ok (.invokestatic 39, 3) := by decide +kernel
theorem dX7_setting_8 : decode cX7_setting 8 = .ok (.ifCond .eq 7, 3) := by decide +kernel
theorem dX7_setting_11 : decode cX7_setting 11 = .ok (.iconst 0, 1) := by decide +kernel
theorem dX7_setting_12 : decode cX7_setting 12 = .ok (.goto 4, 3) := by decide +kernel
theorem dX7_setting_15 : decode cX7_setting 15 = .ok (.iconst 1, 1) := by decide +kernel
theorem dX7_setting_16 : decode cX7_setting 16 = .ok (.putfield 31, 3) := by decide +kernel
theorem dX7_setting_19 : decode cX7_setting 19 = .ok (.aload_n 0, 1) := by decide +kernel
theorem dX7_setting_20 : decode cX7_setting 20 = .ok (.getfield 31, 3) := by decide +kernel
theorem dX7_setting_23 : decode cX7_setting 23 = .ok (.ifCond .eq 7, 3) := by decide +kernel
theorem dX7_setting_26 : decode cX7_setting 26 = .ok (.iconst 0, 1) := by decide +kernel
theorem dX7_setting_27 : decode cX7_setting 27 = .ok (.goto 9, 3) := by decide +kernel
theorem dX7_setting_30 : decode cX7_setting 30 = .ok (.aload_n 0, 1) := by decide +kernel
theorem dX7_setting_31 : decode cX7_setting 31 = .ok (.getfield 7, 3) := by decide +kernel
theorem dX7_setting_34 : decode cX7_setting 34 = .ok (.iload_n 1, 1) := by decide +kernel
theorem dX7_setting_35 : decode cX7_setting 35 = .ok (.iaload, 1) := by decide +kernel
theorem dX7_setting_36 : decode cX7_setting 36 = .ok (.ireturn, 1) := by decide +kernel
set_option maxRecDepth 20000 in
theorem ggX7_overTrails_X7_points : GoodIn wsX7_overTrails wsX7_points := goodIn_r _ [6, 1, 78, 79, 80, 81, 82, 83, 84, 85, 86, 87, 88, 89, 90, 91, 92, 93, 94, 95, 96] (by decide +kernel) (by decide +kernel)
set_option maxRecDepth 20000 in
theorem gX7_overTrails_X7_points : GoodIn wsX7_overTrails (wsV RX7 51 RX7 yX7_points wsX7_points) := goodIn_app (goodIn_of _ (by decide +kernel)) ggX7_overTrails_X7_points
set_option maxRecDepth 20000 in
theorem ggX7_overTrails_X7_gaps : GoodIn wsX7_overTrails wsX7_gaps := goodIn_r _ [10, 1, 2, 3, 4, 5, 6, 11, 12, 13, 14, 15, 16, 17, 78, 79, 80, 81, 82, 83, 84, 85, 86, 87, 88, 89, 90, 91, 92, 93, 94, 95, 96] (by decide +kernel) (by decide +kernel)
set_option maxRecDepth 20000 in
theorem gX7_overTrails_X7_gaps : GoodIn wsX7_overTrails (wsV RX7 220 RX7 yX7_gaps wsX7_gaps) := goodIn_app (goodIn_of _ (by decide +kernel)) ggX7_overTrails_X7_gaps
set_option maxRecDepth 20000 in
theorem ggX7_overTrails_X7_isGood : GoodIn wsX7_overTrails wsX7_isGood := goodIn_r _ [21, 1, 2, 3, 4, 5, 6, 22, 23, 24, 25, 26, 27, 28, 29, 30, 31, 32, 33, 15, 16, 17, 11, 12, 13, 14, 34, 35, 36, 37, 38, 39, 40, 41, 42, 43, 44, 45, 46, 47, 48, 49, 50, 51, 52, 53, 54, 55, 56, 57, 58, 59, 60, 61, 62, 63, 64, 65, 66, 67, 68, 69, 70, 71, 72, 73, 74, 75, 76, 77, 78, 79, 80, 81, 82, 83, 84, 85, 86, 87, 88, 89, 90, 91, 92, 93, 94, 95, 96] (by decide +kernel) (by decide +kernel)
set_option maxRecDepth 20000 in
theorem gX7_overTrails_X7_isGood : GoodIn wsX7_overTrails (wsV RX7 217 RX7 yX7_isGood wsX7_isGood) := goodIn_app (goodIn_of _ (by decide +kernel)) ggX7_overTrails_X7_isGood
theorem dX7_overTrails_0 : decode cX7_overTrails 0 = .ok (.iconst 0, 1) := by decide +kernel
theorem dX7_overTrails_1 : decode cX7_overTrails 1 = .ok (.istore_n 2, 1) := by decide +kernel
theorem dX7_overTrails_2 : decode cX7_overTrails 2 = .ok (.iconst 0, 1) := by decide +kernel
theorem dX7_overTrails_3 : decode cX7_overTrails 3 = .ok (.istore_n 3, 1) := by decide +kernel
theorem dX7_overTrails_4 : decode cX7_overTrails 4 = .ok (.iload_n 3, 1) := by decide +kernel
theorem dX7_overTrails_5 : decode cX7_overTrails 5 = .ok (.aload_n 0, 1) := by decide +kernel
theorem dX7_overTrails_6 : decode cX7_overTrails 6 = .ok (.getfield 7, 3) := by decide +kernel
theorem dX7_overTrails_9 : decode cX7_overTrails 9 = .ok (.bipush 12, 2) := by decide +kernel
theorem dX7_overTrails_11 : decode cX7_overTrails 11 = .ok (.iaload, 1) := by decide +kernel
theorem dX7_overTrails_12 : decode cX7_overTrails 12 = .ok (.if_icmp .ge 53, 3) := by decide +kernel
theorem dX7_overTrails_15 : decode cX7_overTrails 15 = .ok (.iload_n 2, 1) := by decide +kernel
theorem dX7_overTrails_16 : decode cX7_overTrails 16 = .ok (.iload_n 1, 1) := by decide +kernel
theorem dX7_overTrails_17 : decode cX7_overTrails 17 = .ok (.bipush 9, 2) := by decide +kernel
theorem dX7_overTrails_19 : decode cX7_overTrails 19 = .ok (.if_icmp .ne 11, 3) := by decide +kernel
theorem dX7_overTrails_22 : decode cX7_overTrails 22 = .ok (.aload_n 0, 1) := by decide +kernel
theorem dX7_overTrails_23 : decode cX7_overTrails 23 = .ok (.iload_n 3, 1) := by decide +kernel
theorem dX7_overTrails_24 : decode cX7_overTrails 24 = .ok (.invokevirtual 51, 3) := by decide +kernel
theorem dX7_overTrails_27 : decode cX7_overTrails 27 = .ok (.goto 30, 3) := by decide +kernel
theorem dX7_overTrails_30 : decode cX7_overTrails 30 = .ok (.iload_n 1, 1) := by decide +kernel
theorem dX7_overTrails_31 : decode cX7_overTrails 31 = .ok (.bipush 10, 2) := by decide +kernel
theorem dX7_overTrails_33 : decode cX7_overTrails 33 = .ok (.if_icmp .ne 11, 3) := by decide +kernel
theorem dX7_overTrails_36 : decode cX7_overTrails 36 = .ok (.aload_n 0, 1) := by decide +kernel
theorem dX7_overTrails_37 : decode cX7_overTrails 37 = .ok (.iload_n 3, 1) := by decide +kernel
theorem dX7_overTrails_38 : decode cX7_overTrails 38 = .ok (.invokevirtual 220, 3) := by decide +kernel
theorem dX7_overTrails_41 : decode cX7_overTrails 41 = .ok (.goto 16, 3) := by decide +kernel
theorem dX7_overTrails_44 : decode cX7_overTrails 44 = .ok (.aload_n 0, 1) := by decide +kernel
theorem dX7_overTrails_45 : decode cX7_overTrails 45 = .ok (.iload_n 3, 1) := by decide +kernel
theorem dX7_overTrails_46 : decode cX7_overTrails 46 = .ok (.invokevirtual 217, 3) := by decide +kernel
theorem dX7_overTrails_49 : decode cX7_overTrails 49 = .ok (.ifCond .eq 7, 3) := by decide +kernel
theorem dX7_overTrails_52 : decode cX7_overTrails 52 = .ok (.iconst 1, 1) := by decide +kernel
theorem dX7_overTrails_53 : decode cX7_overTrails 53 = .ok (.goto 4, 3) := by decide +kernel
theorem dX7_overTrails_56 : decode cX7_overTrails 56 = .ok (.iconst 0, 1) := by decide +kernel
theorem dX7_overTrails_57 : decode cX7_overTrails 57 = .ok (.iadd, 1) := by decide +kernel
theorem dX7_overTrails_58 : decode cX7_overTrails 58 = .ok (.istore_n 2, 1) := by decide +kernel
theorem dX7_overTrails_59 : decode cX7_overTrails 59 = .ok (.iinc 3 1, 3) := by decide +kernel
theorem dX7_overTrails_62 : decode cX7_overTrails 62 = .ok (.goto (-58), 3) := by decide +kernel
theorem dX7_overTrails_65 : decode cX7_overTrails 65 = .ok (.iload_n 2, 1) := by decide +kernel
theorem dX7_overTrails_66 : decode cX7_overTrails 66 = .ok (.ireturn, 1) := by decide +kernel
set_option maxRecDepth 20000 in
theorem ggX7_missingStars_X7_isMissing : GoodIn wsX7_missingStars wsX7_isMissing := goodIn_r _ [6, 7, 8, 1, 9, 10, 11, 5, 12, 13, 14, 15, 16, 17, 18, 19, 20, 21, 22, 23, 24, 25, 26, 27, 28, 29, 30, 31] (by decide +kernel) (by decide +kernel)
set_option maxRecDepth 20000 in
theorem gX7_missingStars_X7_isMissing : GoodIn wsX7_missingStars (wsV RX7 229 RX7 yX7_isMissing wsX7_isMissing) := goodIn_app (goodIn_of _ (by decide +kernel)) ggX7_missingStars_X7_isMissing
theorem dX7_missingStars_0 : decode cX7_missingStars 0 = .ok (.iconst 0, 1) := by decide +kernel
theorem dX7_missingStars_1 : decode cX7_missingStars 1 = .ok (.istore_n 1, 1) := by decide +kernel
theorem dX7_missingStars_2 : decode cX7_missingStars 2 = .ok (.iconst 0, 1) := by decide +kernel
theorem dX7_missingStars_3 : decode cX7_missingStars 3 = .ok (.istore_n 2, 1) := by decide +kernel
theorem dX7_missingStars_4 : decode cX7_missingStars 4 = .ok (.iload_n 2, 1) := by decide +kernel
theorem dX7_missingStars_5 : decode cX7_missingStars 5 = .ok (.aload_n 0, 1) := by decide +kernel
theorem dX7_missingStars_6 : decode cX7_missingStars 6 = .ok (.getfield 7, 3) := by decide +kernel
theorem dX7_missingStars_9 : decode cX7_missingStars 9 = .ok (.bipush 13, 2) := by decide +kernel
theorem dX7_missingStars_11 : decode cX7_missingStars 11 = .ok (.iaload, 1) := by decide +kernel
theorem dX7_missingStars_12 : decode cX7_missingStars 12 = .ok (.if_icmp .ge 25, 3) := by decide +kernel
theorem dX7_missingStars_15 : decode cX7_missingStars 15 = .ok (.iload_n 1, 1) := by decide +kernel
theorem dX7_missingStars_16 : decode cX7_missingStars 16 = .ok (.aload_n 0, 1) := by decide +kernel
theorem dX7_missingStars_17 : decode cX7_missingStars 17 = .ok (.iload_n 2, 1) := by decide +kernel
theorem dX7_missingStars_18 : decode cX7_missingStars 18 = .ok (.invokevirtual 229, 3) := by decide +kernel
theorem dX7_missingStars_21 : decode cX7_missingStars 21 = .ok (.ifCond .eq 7, 3) := by decide +kernel
theorem dX7_missingStars_24 : decode cX7_missingStars 24 = .ok (.iconst 1, 1) := by decide +kernel
theorem dX7_missingStars_25 : decode cX7_missingStars 25 = .ok (.goto 4, 3) := by decide +kernel
theorem dX7_missingStars_28 : decode cX7_missingStars 28 = .ok (.iconst 0, 1) := by decide +kernel
theorem dX7_missingStars_29 : decode cX7_missingStars 29 = .ok (.iadd, 1) := by decide +kernel
theorem dX7_missingStars_30 : decode cX7_missingStars 30 = .ok (.istore_n 1, 1) := by decide +kernel
theorem dX7_missingStars_31 : decode cX7_missingStars 31 = .ok (.iinc 2 1, 3) := by decide +kernel
theorem dX7_missingStars_34 : decode cX7_missingStars 34 = .ok (.goto (-30), 3) := by decide +kernel
theorem dX7_missingStars_37 : decode cX7_missingStars 37 = .ok (.iload_n 1, 1) := by decide +kernel
theorem dX7_missingStars_38 : decode cX7_missingStars 38 = .ok (.ireturn, 1) := by decide +kernel
set_option maxRecDepth 20000 in
theorem ggX7_wholeOf_X7_plateCost : GoodIn wsX7_wholeOf wsX7_plateCost := goodIn_r _ [8, 1, 9, 10, 11, 7, 12, 13, 14, 15, 16, 17, 18, 19, 20, 21, 22, 23, 24, 25, 26, 27, 28, 29, 30, 31, 32, 33, 34, 35, 36, 37, 38, 39, 40, 41, 102, 103, 104, 105, 106, 107, 108, 109, 110, 111, 112, 113, 114, 115, 116, 117, 118, 119, 120] (by decide +kernel) (by decide +kernel)
set_option maxRecDepth 20000 in
theorem gX7_wholeOf_X7_plateCost : GoodIn wsX7_wholeOf (wsV RX7 100 RX7 yX7_plateCost wsX7_plateCost) := goodIn_app (goodIn_of _ (by decide +kernel)) ggX7_wholeOf_X7_plateCost
set_option maxRecDepth 20000 in
theorem ggX7_wholeOf_X7_missingStars : GoodIn wsX7_wholeOf wsX7_missingStars := goodIn_r _ [45, 1, 46, 47, 48, 7, 49, 50, 51, 52, 53, 54, 55, 102, 103, 104, 105, 106, 107, 108, 109, 110, 111, 112, 113, 114, 115, 116, 117, 118, 119, 120] (by decide +kernel) (by decide +kernel)
set_option maxRecDepth 20000 in
theorem gX7_wholeOf_X7_missingStars : GoodIn wsX7_wholeOf (wsV RX7 235 RX7 yX7_missingStars wsX7_missingStars) := goodIn_app (goodIn_of _ (by decide +kernel)) ggX7_wholeOf_X7_missingStars
set_option maxRecDepth 20000 in
theorem ggX7_wholeOf_X7_overTrails : GoodIn wsX7_wholeOf wsX7_overTrails := goodIn_r _ [59, 1, 9, 10, 11, 7, 12, 60, 61, 62, 63, 28, 29, 30, 31, 25, 26, 27, 64, 65, 66, 67, 13, 14, 15, 16, 17, 18, 19, 20, 21, 22, 23, 24, 32, 33, 34, 35, 36, 37, 38, 39, 40, 41, 68, 69, 70, 71, 72, 73, 74, 75, 76, 77, 78, 79, 80, 81, 82, 83, 84, 85, 86, 87, 88, 89, 90, 91, 92, 93, 94, 95, 96, 97, 98, 99, 100, 101, 102, 103, 104, 105, 106, 107, 108, 109, 110, 111, 112, 113, 114, 115, 116, 117, 118, 119, 120] (by decide +kernel) (by decide +kernel)
set_option maxRecDepth 20000 in
theorem gX7_wholeOf_X7_overTrails : GoodIn wsX7_wholeOf (wsV RX7 238 RX7 yX7_overTrails wsX7_overTrails) := goodIn_app (goodIn_of _ (by decide +kernel)) ggX7_wholeOf_X7_overTrails
theorem dX7_wholeOf_0 : decode cX7_wholeOf 0 = .ok (.iload_n 1, 1) := by decide +kernel
theorem dX7_wholeOf_1 : decode cX7_wholeOf 1 = .ok (.tableswitch 103 0 8 #[51, 59, 67, 75, 83, 103, 88, 93, 98], 51) := by decide +kernel
theorem dX7_wholeOf_52 : decode cX7_wholeOf 52 = .ok (.aload_n 0, 1) := by decide +kernel
theorem dX7_wholeOf_53 : decode cX7_wholeOf 53 = .ok (.getfield 7, 3) := by decide +kernel
theorem dX7_wholeOf_56 : decode cX7_wholeOf 56 = .ok (.bipush 12, 2) := by decide +kernel
theorem dX7_wholeOf_58 : decode cX7_wholeOf 58 = .ok (.iaload, 1) := by decide +kernel
theorem dX7_wholeOf_59 : decode cX7_wholeOf 59 = .ok (.ireturn, 1) := by decide +kernel
theorem dX7_wholeOf_60 : decode cX7_wholeOf 60 = .ok (.aload_n 0, 1) := by decide +kernel
theorem dX7_wholeOf_61 : decode cX7_wholeOf 61 = .ok (.getfield 7, 3) := by decide +kernel
theorem dX7_wholeOf_64 : decode cX7_wholeOf 64 = .ok (.bipush 13, 2) := by decide +kernel
theorem dX7_wholeOf_66 : decode cX7_wholeOf 66 = .ok (.iaload, 1) := by decide +kernel
theorem dX7_wholeOf_67 : decode cX7_wholeOf 67 = .ok (.ireturn, 1) := by decide +kernel
theorem dX7_wholeOf_68 : decode cX7_wholeOf 68 = .ok (.aload_n 0, 1) := by decide +kernel
theorem dX7_wholeOf_69 : decode cX7_wholeOf 69 = .ok (.getfield 7, 3) := by decide +kernel
theorem dX7_wholeOf_72 : decode cX7_wholeOf 72 = .ok (.bipush 10, 2) := by decide +kernel
theorem dX7_wholeOf_74 : decode cX7_wholeOf 74 = .ok (.iaload, 1) := by decide +kernel
theorem dX7_wholeOf_75 : decode cX7_wholeOf 75 = .ok (.ireturn, 1) := by decide +kernel
theorem dX7_wholeOf_76 : decode cX7_wholeOf 76 = .ok (.aload_n 0, 1) := by decide +kernel
theorem dX7_wholeOf_77 : decode cX7_wholeOf 77 = .ok (.getfield 7, 3) := by decide +kernel
theorem dX7_wholeOf_80 : decode cX7_wholeOf 80 = .ok (.bipush 11, 2) := by decide +kernel
theorem dX7_wholeOf_82 : decode cX7_wholeOf 82 = .ok (.iaload, 1) := by decide +kernel
theorem dX7_wholeOf_83 : decode cX7_wholeOf 83 = .ok (.ireturn, 1) := by decide +kernel
theorem dX7_wholeOf_84 : decode cX7_wholeOf 84 = .ok (.aload_n 0, 1) := by decide +kernel
theorem dX7_wholeOf_85 : decode cX7_wholeOf 85 = .ok (.invokevirtual 100, 3) := by decide +kernel
theorem dX7_wholeOf_88 : decode cX7_wholeOf 88 = .ok (.ireturn, 1) := by decide +kernel
theorem dX7_wholeOf_89 : decode cX7_wholeOf 89 = .ok (.aload_n 0, 1) := by decide +kernel
theorem dX7_wholeOf_90 : decode cX7_wholeOf 90 = .ok (.getfield 201, 3) := by decide +kernel
theorem dX7_wholeOf_93 : decode cX7_wholeOf 93 = .ok (.ireturn, 1) := by decide +kernel
theorem dX7_wholeOf_94 : decode cX7_wholeOf 94 = .ok (.aload_n 0, 1) := by decide +kernel
theorem dX7_wholeOf_95 : decode cX7_wholeOf 95 = .ok (.getfield 204, 3) := by decide +kernel
theorem dX7_wholeOf_98 : decode cX7_wholeOf 98 = .ok (.ireturn, 1) := by decide +kernel
theorem dX7_wholeOf_99 : decode cX7_wholeOf 99 = .ok (.aload_n 0, 1) := by decide +kernel
theorem dX7_wholeOf_100 : decode cX7_wholeOf 100 = .ok (.invokevirtual 235, 3) := by decide +kernel
theorem dX7_wholeOf_103 : decode cX7_wholeOf 103 = .ok (.ireturn, 1) := by decide +kernel
theorem dX7_wholeOf_104 : decode cX7_wholeOf 104 = .ok (.aload_n 0, 1) := by decide +kernel
theorem dX7_wholeOf_105 : decode cX7_wholeOf 105 = .ok (.iload_n 1, 1) := by decide +kernel
theorem dX7_wholeOf_106 : decode cX7_wholeOf 106 = .ok (.invokevirtual 238, 3) := by decide +kernel
theorem dX7_wholeOf_109 : decode cX7_wholeOf 109 = .ok (.ireturn, 1) := by decide +kernel
set_option maxRecDepth 20000 in
theorem ggX7_whole_X7_in : GoodIn wsX7_whole wsX7_in := goodIn_r _ [5] (by decide +kernel) (by decide +kernel)
set_option maxRecDepth 20000 in
theorem gX7_whole_X7_in : GoodIn wsX7_whole (va_wsS RX7 39 yX7_in wsX7_in) := goodIn_app (goodIn_of _ (by decide +kernel)) ggX7_whole_X7_in
set_option maxRecDepth 20000 in
theorem ggX7_whole_X7_match : GoodIn wsX7_whole wsX7_match := goodIn_r _ [9, 10, 11, 12, 13, 14, 15, 16, 17, 18, 19, 4, 20, 21, 22, 23, 24, 25, 26, 27, 28, 29, 30, 31, 32, 33, 34, 35, 36, 37, 38, 39, 40, 41, 42, 43, 44, 45, 46, 47, 48, 49, 50, 51, 52, 53, 54, 55, 56, 57, 58, 59, 60, 61, 62, 63, 64, 65, 66, 67, 68, 69, 70, 71, 72, 73, 74, 75, 76, 77, 78, 79, 80, 81, 82, 83, 84, 85, 86, 87, 88, 89, 90, 91, 92, 93, 138, 139, 140, 141, 142, 143, 144, 145, 146, 147, 148, 149, 150, 151, 152, 153, 154, 155, 156] (by decide +kernel) (by decide +kernel)
set_option maxRecDepth 20000 in
theorem gX7_whole_X7_match : GoodIn wsX7_whole (wsV RX7 223 RX7 yX7_match wsX7_match) := goodIn_app (goodIn_of _ (by decide +kernel)) ggX7_whole_X7_match
set_option maxRecDepth 20000 in
theorem ggX7_whole_X7_wholeOf : GoodIn wsX7_whole wsX7_wholeOf := goodIn_r _ [97, 13, 15, 16, 98, 99, 100, 4, 101, 17, 18, 19, 20, 102, 103, 104, 105, 30, 31, 32, 33, 34, 35, 36, 37, 38, 39, 40, 41, 42, 43, 44, 45, 46, 47, 48, 49, 50, 51, 52, 53, 54, 106, 107, 108, 109, 110, 111, 112, 113, 12, 11, 60, 61, 62, 63, 114, 115, 116, 117, 118, 119, 120, 121, 122, 123, 124, 125, 126, 127, 128, 129, 130, 131, 132, 133, 67, 68, 69, 70, 71, 72, 73, 74, 64, 65, 66, 75, 76, 77, 78, 79, 80, 81, 82, 87, 88, 89, 134, 135, 136, 137, 138, 139, 140, 141, 142, 143, 144, 145, 146, 147, 148, 149, 150, 151, 152, 153, 154, 155, 156] (by decide +kernel) (by decide +kernel)
set_option maxRecDepth 20000 in
theorem gX7_whole_X7_wholeOf : GoodIn wsX7_whole (wsV RX7 241 RX7 yX7_wholeOf wsX7_wholeOf) := goodIn_app (goodIn_of _ (by decide +kernel)) ggX7_whole_X7_wholeOf
theorem dX7_whole_0 : decode cX7_whole 0 = .ok (.aload_n 0, 1) := by decide +kernel
theorem dX7_whole_1 : decode cX7_whole 1 = .ok (.iload_n 1, 1) := by decide +kernel
theorem dX7_whole_2 : decode cX7_whole 2 = .ok (.iconst 0, 1) := by decide +kernel
theorem dX7_whole_3 : decode cX7_whole 3 = .ok (.bipush 10, 2) := by decide +kernel
theorem dX7_whole_5 : decode cX7_whole 5 = .ok (.invokestatic 39, 3) := by decide +kernel
theorem dX7_whole_8 : decode cX7_whole 8 = .ok (.ifCond .eq 7, 3) := by decide +kernel
theorem dX7_whole_11 : decode cX7_whole 11 = .ok (.iconst 0, 1) := by decide +kernel
theorem dX7_whole_12 : decode cX7_whole 12 = .ok (.goto 4, 3) := by decide +kernel
theorem dX7_whole_15 : decode cX7_whole 15 = .ok (.iconst 1, 1) := by decide +kernel
theorem dX7_whole_16 : decode cX7_whole 16 = .ok (.putfield 31, 3) := by decide +kernel
theorem dX7_whole_19 : decode cX7_whole 19 = .ok (.aload_n 0, 1) := by decide +kernel
theorem dX7_whole_20 : decode cX7_whole 20 = .ok (.getfield 31, 3) := by decide +kernel
theorem dX7_whole_23 : decode cX7_whole 23 = .ok (.ifCond .eq 5, 3) := by decide +kernel
theorem dX7_whole_26 : decode cX7_whole 26 = .ok (.iconst 0, 1) := by decide +kernel
theorem dX7_whole_27 : decode cX7_whole 27 = .ok (.ireturn, 1) := by decide +kernel
theorem dX7_whole_28 : decode cX7_whole 28 = .ok (.aload_n 0, 1) := by decide +kernel
theorem dX7_whole_29 : decode cX7_whole 29 = .ok (.invokevirtual 223, 3) := by decide +kernel
theorem dX7_whole_32 : decode cX7_whole 32 = .ok (.aload_n 0, 1) := by decide +kernel
theorem dX7_whole_33 : decode cX7_whole 33 = .ok (.iload_n 1, 1) := by decide +kernel
theorem dX7_whole_34 : decode cX7_whole 34 = .ok (.invokevirtual 241, 3) := by decide +kernel
theorem dX7_whole_37 : decode cX7_whole 37 = .ok (.ireturn, 1) := by decide +kernel
set_option maxRecDepth 20000 in
theorem ggX7_costAt_X7_isPole : GoodIn wsX7_costAt wsX7_isPole := goodIn_r _ [6, 7, 8, 5, 9] (by decide +kernel) (by decide +kernel)
set_option maxRecDepth 20000 in
theorem gX7_costAt_X7_isPole : GoodIn wsX7_costAt (va_wsS RX7 97 yX7_isPole wsX7_isPole) := goodIn_app (goodIn_of _ (by decide +kernel)) ggX7_costAt_X7_isPole
set_option maxRecDepth 20000 in
theorem ggX7_costAt_X7_setsPole : GoodIn wsX7_costAt wsX7_setsPole := goodIn_r _ [13, 2, 14, 15, 16, 5, 17, 18, 19, 20, 21, 22, 23, 24, 25, 26, 27, 28, 29, 30, 31, 32, 33, 34, 35, 36, 37, 38, 39, 40, 41, 42, 43, 44, 45, 46, 47, 48, 49, 50, 51, 52, 53, 54, 55, 56, 57, 58, 59, 60, 61, 62, 63, 64, 65, 66, 67, 68, 69] (by decide +kernel) (by decide +kernel)
set_option maxRecDepth 20000 in
theorem gX7_costAt_X7_setsPole : GoodIn wsX7_costAt (wsV RX7 106 RX7 yX7_setsPole wsX7_setsPole) := goodIn_app (goodIn_of _ (by decide +kernel)) ggX7_costAt_X7_setsPole
theorem dX7_costAt_0 : decode cX7_costAt 0 = .ok (.aload_n 0, 1) := by decide +kernel
theorem dX7_costAt_1 : decode cX7_costAt 1 = .ok (.iload_n 1, 1) := by decide +kernel
theorem dX7_costAt_2 : decode cX7_costAt 2 = .ok (.iload_n 2, 1) := by decide +kernel
theorem dX7_costAt_3 : decode cX7_costAt 3 = .ok (.invokestatic 97, 3) := by decide +kernel
theorem dX7_costAt_6 : decode cX7_costAt 6 = .ok (.ifCond .eq 7, 3) := by decide +kernel
theorem dX7_costAt_9 : decode cX7_costAt 9 = .ok (.iconst 0, 1) := by decide +kernel
theorem dX7_costAt_10 : decode cX7_costAt 10 = .ok (.goto 4, 3) := by decide +kernel
theorem dX7_costAt_13 : decode cX7_costAt 13 = .ok (.iconst 1, 1) := by decide +kernel
theorem dX7_costAt_14 : decode cX7_costAt 14 = .ok (.putfield 31, 3) := by decide +kernel
theorem dX7_costAt_17 : decode cX7_costAt 17 = .ok (.aload_n 0, 1) := by decide +kernel
theorem dX7_costAt_18 : decode cX7_costAt 18 = .ok (.getfield 31, 3) := by decide +kernel
theorem dX7_costAt_21 : decode cX7_costAt 21 = .ok (.ifCond .eq 5, 3) := by decide +kernel
theorem dX7_costAt_24 : decode cX7_costAt 24 = .ok (.iconst 0, 1) := by decide +kernel
theorem dX7_costAt_25 : decode cX7_costAt 25 = .ok (.ireturn, 1) := by decide +kernel
theorem dX7_costAt_26 : decode cX7_costAt 26 = .ok (.aload_n 0, 1) := by decide +kernel
theorem dX7_costAt_27 : decode cX7_costAt 27 = .ok (.getfield 7, 3) := by decide +kernel
theorem dX7_costAt_30 : decode cX7_costAt 30 = .ok (.bipush 10, 2) := by decide +kernel
theorem dX7_costAt_32 : decode cX7_costAt 32 = .ok (.iaload, 1) := by decide +kernel
theorem dX7_costAt_33 : decode cX7_costAt 33 = .ok (.istore_n 3, 1) := by decide +kernel
theorem dX7_costAt_34 : decode cX7_costAt 34 = .ok (.aload_n 0, 1) := by decide +kernel
theorem dX7_costAt_35 : decode cX7_costAt 35 = .ok (.getfield 7, 3) := by decide +kernel
theorem dX7_costAt_38 : decode cX7_costAt 38 = .ok (.bipush 11, 2) := by decide +kernel
theorem dX7_costAt_40 : decode cX7_costAt 40 = .ok (.iaload, 1) := by decide +kernel
theorem dX7_costAt_41 : decode cX7_costAt 41 = .ok (.istore 4, 2) := by decide +kernel
theorem dX7_costAt_43 : decode cX7_costAt 43 = .ok (.aload_n 0, 1) := by decide +kernel
theorem dX7_costAt_44 : decode cX7_costAt 44 = .ok (.iload_n 1, 1) := by decide +kernel
theorem dX7_costAt_45 : decode cX7_costAt 45 = .ok (.iload_n 2, 1) := by decide +kernel
theorem dX7_costAt_46 : decode cX7_costAt 46 = .ok (.invokevirtual 106, 3) := by decide +kernel
theorem dX7_costAt_49 : decode cX7_costAt 49 = .ok (.istore 5, 2) := by decide +kernel
theorem dX7_costAt_51 : decode cX7_costAt 51 = .ok (.aload_n 0, 1) := by decide +kernel
theorem dX7_costAt_52 : decode cX7_costAt 52 = .ok (.getfield 7, 3) := by decide +kernel
theorem dX7_costAt_55 : decode cX7_costAt 55 = .ok (.bipush 10, 2) := by decide +kernel
theorem dX7_costAt_57 : decode cX7_costAt 57 = .ok (.iload_n 3, 1) := by decide +kernel
theorem dX7_costAt_58 : decode cX7_costAt 58 = .ok (.iastore, 1) := by decide +kernel
theorem dX7_costAt_59 : decode cX7_costAt 59 = .ok (.aload_n 0, 1) := by decide +kernel
theorem dX7_costAt_60 : decode cX7_costAt 60 = .ok (.getfield 7, 3) := by decide +kernel
theorem dX7_costAt_63 : decode cX7_costAt 63 = .ok (.bipush 11, 2) := by decide +kernel
theorem dX7_costAt_65 : decode cX7_costAt 65 = .ok (.iload 4, 2) := by decide +kernel
theorem dX7_costAt_67 : decode cX7_costAt 67 = .ok (.iastore, 1) := by decide +kernel
theorem dX7_costAt_68 : decode cX7_costAt 68 = .ok (.iload 5, 2) := by decide +kernel
theorem dX7_costAt_70 : decode cX7_costAt 70 = .ok (.ireturn, 1) := by decide +kernel
set_option maxRecDepth 20000 in
theorem ggX7_meanRate_X7_isGood : GoodIn wsX7_meanRate wsX7_isGood := goodIn_r _ [8, 2, 9, 10, 11, 7, 12, 13, 14, 15, 16, 17, 18, 19, 20, 21, 22, 23, 24, 25, 26, 27, 28, 29, 30, 31, 32, 33, 34, 35, 36, 37, 38, 39, 40, 41, 42, 43, 44, 45, 46, 47, 48, 49, 50, 51, 52, 53, 54, 55, 56, 57, 58, 59, 60, 61, 62, 63, 64, 65, 66, 67, 68, 69, 70, 71, 72, 73, 74, 75, 76, 77, 78, 79, 80, 81, 82, 83, 84, 85, 86, 87, 88, 89, 90, 91, 92, 93, 94] (by decide +kernel) (by decide +kernel)
set_option maxRecDepth 20000 in
theorem gX7_meanRate_X7_isGood : GoodIn wsX7_meanRate (wsV RX7 217 RX7 yX7_isGood wsX7_isGood) := goodIn_app (goodIn_of _ (by decide +kernel)) ggX7_meanRate_X7_isGood
set_option maxRecDepth 20000 in
theorem ggX7_meanRate_X7_sweep : GoodIn wsX7_meanRate wsX7_sweep := goodIn_r _ [49, 9, 10, 11, 7, 12, 2, 50, 51, 52, 53, 21, 22, 23, 24, 25, 26, 27, 28, 29, 30, 31, 32, 33, 34, 35, 36, 37, 38, 54, 55, 56, 57, 58, 59, 60, 61, 62, 63, 64, 65, 66, 67, 68, 69, 70, 71, 76, 77, 78, 79, 80, 81, 82, 83, 84, 85, 86, 87, 88, 89, 90, 91, 92, 93, 94] (by decide +kernel) (by decide +kernel)
set_option maxRecDepth 20000 in
theorem gX7_meanRate_X7_sweep : GoodIn wsX7_meanRate (wsV RX7 176 RX7 yX7_sweep wsX7_sweep) := goodIn_app (goodIn_of _ (by decide +kernel)) ggX7_meanRate_X7_sweep
set_option maxRecDepth 20000 in
theorem ggX7_meanRate_X7_frames : GoodIn wsX7_meanRate wsX7_frames := goodIn_r _ [75, 9, 10, 11, 7, 12, 2, 28, 29, 30, 31, 25, 26, 27, 76, 77, 78, 79, 80, 81, 82, 83, 84, 85, 86, 87, 88, 89, 90, 91, 92, 93, 94] (by decide +kernel) (by decide +kernel)
set_option maxRecDepth 20000 in
theorem gX7_meanRate_X7_frames : GoodIn wsX7_meanRate (wsV RX7 179 RX7 yX7_frames wsX7_frames) := goodIn_app (goodIn_of _ (by decide +kernel)) ggX7_meanRate_X7_frames
set_option maxRecDepth 20000 in
theorem ggX7_meanRate_X7_floor : GoodIn wsX7_meanRate wsX7_floor := goodIn_r _ [34] (by decide +kernel) (by decide +kernel)
set_option maxRecDepth 20000 in
theorem gX7_meanRate_X7_floor : GoodIn wsX7_meanRate (va_wsS RX7 139 yX7_floor wsX7_floor) := goodIn_app (goodIn_of _ (by decide +kernel)) ggX7_meanRate_X7_floor
theorem dX7_meanRate_0 : decode cX7_meanRate 0 = .ok (.aload_n 0, 1) := by decide +kernel
theorem dX7_meanRate_1 : decode cX7_meanRate 1 = .ok (.iconst 0, 1) := by decide +kernel
theorem dX7_meanRate_2 : decode cX7_meanRate 2 = .ok (.putfield 31, 3) := by decide +kernel
theorem dX7_meanRate_5 : decode cX7_meanRate 5 = .ok (.iconst 0, 1) := by decide +kernel
theorem dX7_meanRate_6 : decode cX7_meanRate 6 = .ok (.istore_n 1, 1) := by decide +kernel
theorem dX7_meanRate_7 : decode cX7_meanRate 7 = .ok (.iconst 0, 1) := by decide +kernel
theorem dX7_meanRate_8 : decode cX7_meanRate 8 = .ok (.istore_n 2, 1) := by decide +kernel
theorem dX7_meanRate_9 : decode cX7_meanRate 9 = .ok (.iconst 0, 1) := by decide +kernel
theorem dX7_meanRate_10 : decode cX7_meanRate 10 = .ok (.istore_n 3, 1) := by decide +kernel
theorem dX7_meanRate_11 : decode cX7_meanRate 11 = .ok (.iload_n 3, 1) := by decide +kernel
theorem dX7_meanRate_12 : decode cX7_meanRate 12 = .ok (.aload_n 0, 1) := by decide +kernel
theorem dX7_meanRate_13 : decode cX7_meanRate 13 = .ok (.getfield 7, 3) := by decide +kernel
theorem dX7_meanRate_16 : decode cX7_meanRate 16 = .ok (.bipush 12, 2) := by decide +kernel
theorem dX7_meanRate_18 : decode cX7_meanRate 18 = .ok (.iaload, 1) := by decide +kernel
theorem dX7_meanRate_19 : decode cX7_meanRate 19 = .ok (.if_icmp .ge 49, 3) := by decide +kernel
theorem dX7_meanRate_22 : decode cX7_meanRate 22 = .ok (.iload_n 1, 1) := by decide +kernel
theorem dX7_meanRate_23 : decode cX7_meanRate 23 = .ok (.aload_n 0, 1) := by decide +kernel
theorem dX7_meanRate_24 : decode cX7_meanRate 24 = .ok (.iload_n 3, 1) := by decide +kernel
theorem dX7_meanRate_25 : decode cX7_meanRate 25 = .ok (.invokevirtual 217, 3) := by decide +kernel
theorem dX7_meanRate_28 : decode cX7_meanRate 28 = .ok (.ifCond .eq 11, 3) := by decide +kernel
theorem dX7_meanRate_31 : decode cX7_meanRate 31 = .ok (.aload_n 0, 1) := by decide +kernel
theorem dX7_meanRate_32 : decode cX7_meanRate 32 = .ok (.iload_n 3, 1) := by decide +kernel
theorem dX7_meanRate_33 : decode cX7_meanRate 33 = .ok (.invokevirtual 176, 3) := by decide +kernel
theorem dX7_meanRate_36 : decode cX7_meanRate 36 = .ok (.goto 4, 3) := by decide +kernel
theorem dX7_meanRate_39 : decode cX7_meanRate 39 = .ok (.iconst 0, 1) := by decide +kernel
theorem dX7_meanRate_40 : decode cX7_meanRate 40 = .ok (.iadd, 1) := by decide +kernel
theorem dX7_meanRate_41 : decode cX7_meanRate 41 = .ok (.istore_n 1, 1) := by decide +kernel
theorem dX7_meanRate_42 : decode cX7_meanRate 42 = .ok (.iload_n 2, 1) := by decide +kernel
theorem dX7_meanRate_43 : decode cX7_meanRate 43 = .ok (.aload_n 0, 1) := by decide +kernel
theorem dX7_meanRate_44 : decode cX7_meanRate 44 = .ok (.iload_n 3, 1) := by decide +kernel
theorem dX7_meanRate_45 : decode cX7_meanRate 45 = .ok (.invokevirtual 217, 3) := by decide +kernel
theorem dX7_meanRate_48 : decode cX7_meanRate 48 = .ok (.ifCond .eq 11, 3) := by decide +kernel
theorem dX7_meanRate_51 : decode cX7_meanRate 51 = .ok (.aload_n 0, 1) := by decide +kernel
theorem dX7_meanRate_52 : decode cX7_meanRate 52 = .ok (.iload_n 3, 1) := by decide +kernel
theorem dX7_meanRate_53 : decode cX7_meanRate 53 = .ok (.invokevirtual 179, 3) := by decide +kernel
theorem dX7_meanRate_56 : decode cX7_meanRate 56 = .ok (.goto 4, 3) := by decide +kernel
theorem dX7_meanRate_59 : decode cX7_meanRate 59 = .ok (.iconst 0, 1) := by decide +kernel
theorem dX7_meanRate_60 : decode cX7_meanRate 60 = .ok (.iadd, 1) := by decide +kernel
theorem dX7_meanRate_61 : decode cX7_meanRate 61 = .ok (.istore_n 2, 1) := by decide +kernel
theorem dX7_meanRate_62 : decode cX7_meanRate 62 = .ok (.iinc 3 1, 3) := by decide +kernel
theorem dX7_meanRate_65 : decode cX7_meanRate 65 = .ok (.goto (-54), 3) := by decide +kernel
theorem dX7_meanRate_68 : decode cX7_meanRate 68 = .ok (.iload_n 2, 1) := by decide +kernel
theorem dX7_meanRate_69 : decode cX7_meanRate 69 = .ok (.ifCond .ne 8, 3) := by decide +kernel
theorem dX7_meanRate_72 : decode cX7_meanRate 72 = .ok (.ldc 109, 2) := by decide +kernel
theorem dX7_meanRate_74 : decode cX7_meanRate 74 = .ok (.goto 8, 3) := by decide +kernel
theorem dX7_meanRate_77 : decode cX7_meanRate 77 = .ok (.iload_n 1, 1) := by decide +kernel
theorem dX7_meanRate_78 : decode cX7_meanRate 78 = .ok (.iload_n 2, 1) := by decide +kernel
theorem dX7_meanRate_79 : decode cX7_meanRate 79 = .ok (.invokestatic 139, 3) := by decide +kernel
theorem dX7_meanRate_82 : decode cX7_meanRate 82 = .ok (.ireturn, 1) := by decide +kernel
set_option maxRecDepth 20000 in
theorem ggX7_meanScale_X7_match : GoodIn wsX7_meanScale wsX7_match := goodIn_r _ [9, 3, 4, 10, 2, 11, 12, 13, 14, 15, 16, 8, 17, 18, 19, 20, 21, 22, 23, 24, 25, 26, 27, 28, 29, 30, 31, 32, 33, 34, 35, 36, 37, 38, 39, 40, 41, 42, 43, 44, 45, 46, 47, 48, 49, 50, 51, 52, 53, 54, 55, 56, 57, 58, 59, 60, 61, 62, 63, 64, 65, 66, 67, 68, 69, 70, 71, 72, 73, 74, 75, 76, 77, 78, 79, 80, 81, 82, 83, 84, 85, 86, 87, 88, 89, 90, 91, 92, 93, 94, 95, 96, 97, 98, 99, 100, 101, 102, 103, 104, 105, 106, 107, 108, 109] (by decide +kernel) (by decide +kernel)
set_option maxRecDepth 20000 in
theorem gX7_meanScale_X7_match : GoodIn wsX7_meanScale (wsV RX7 223 RX7 yX7_match wsX7_match) := goodIn_app (goodIn_of _ (by decide +kernel)) ggX7_meanScale_X7_match
set_option maxRecDepth 20000 in
theorem ggX7_meanScale_X7_radius : GoodIn wsX7_meanScale wsX7_radius := goodIn_r _ [26, 14, 15, 16, 8, 17, 2, 27, 28, 29, 30, 31, 32, 33, 34, 35, 36, 37, 38, 39, 40, 41, 42, 43, 44, 45, 46, 47, 48, 49, 50, 51, 91, 92, 93, 94, 95, 96, 97, 98, 99, 100, 101, 102, 103, 104, 105, 106, 107, 108, 109] (by decide +kernel) (by decide +kernel)
set_option maxRecDepth 20000 in
theorem gX7_meanScale_X7_radius : GoodIn wsX7_meanScale (wsV RX7 190 RX7 yX7_radius wsX7_radius) := goodIn_app (goodIn_of _ (by decide +kernel)) ggX7_meanScale_X7_radius
set_option maxRecDepth 20000 in
theorem ggX7_meanScale_X7_ofStar : GoodIn wsX7_meanScale wsX7_ofStar := goodIn_r _ [60, 2, 91, 92, 93, 94, 95, 96, 97, 98, 99, 100, 101, 102, 103, 104, 105, 106, 107, 108, 109] (by decide +kernel) (by decide +kernel)
set_option maxRecDepth 20000 in
theorem gX7_meanScale_X7_ofStar : GoodIn wsX7_meanScale (wsV RX7 185 RX7 yX7_ofStar wsX7_ofStar) := goodIn_app (goodIn_of _ (by decide +kernel)) ggX7_meanScale_X7_ofStar
theorem dX7_meanScale_0 : decode cX7_meanScale 0 = .ok (.aload_n 0, 1) := by decide +kernel
theorem dX7_meanScale_1 : decode cX7_meanScale 1 = .ok (.iconst 0, 1) := by decide +kernel
theorem dX7_meanScale_2 : decode cX7_meanScale 2 = .ok (.putfield 31, 3) := by decide +kernel
theorem dX7_meanScale_5 : decode cX7_meanScale 5 = .ok (.aload_n 0, 1) := by decide +kernel
theorem dX7_meanScale_6 : decode cX7_meanScale 6 = .ok (.invokevirtual 223, 3) := by decide +kernel
theorem dX7_meanScale_9 : decode cX7_meanScale 9 = .ok (.iconst 0, 1) := by decide +kernel
theorem dX7_meanScale_10 : decode cX7_meanScale 10 = .ok (.istore_n 1, 1) := by decide +kernel
theorem dX7_meanScale_11 : decode cX7_meanScale 11 = .ok (.iconst 0, 1) := by decide +kernel
theorem dX7_meanScale_12 : decode cX7_meanScale 12 = .ok (.istore_n 2, 1) := by decide +kernel
theorem dX7_meanScale_13 : decode cX7_meanScale 13 = .ok (.iconst 0, 1) := by decide +kernel
theorem dX7_meanScale_14 : decode cX7_meanScale 14 = .ok (.istore_n 3, 1) := by decide +kernel
theorem dX7_meanScale_15 : decode cX7_meanScale 15 = .ok (.iload_n 3, 1) := by decide +kernel
theorem dX7_meanScale_16 : decode cX7_meanScale 16 = .ok (.aload_n 0, 1) := by decide +kernel
theorem dX7_meanScale_17 : decode cX7_meanScale 17 = .ok (.getfield 7, 3) := by decide +kernel
theorem dX7_meanScale_20 : decode cX7_meanScale 20 = .ok (.bipush 12, 2) := by decide +kernel
theorem dX7_meanScale_22 : decode cX7_meanScale 22 = .ok (.iaload, 1) := by decide +kernel
theorem dX7_meanScale_23 : decode cX7_meanScale 23 = .ok (.if_icmp .ge 61, 3) := by decide +kernel
theorem dX7_meanScale_26 : decode cX7_meanScale 26 = .ok (.iload_n 1, 1) := by decide +kernel
theorem dX7_meanScale_27 : decode cX7_meanScale 27 = .ok (.aload_n 0, 1) := by decide +kernel
theorem dX7_meanScale_28 : decode cX7_meanScale 28 = .ok (.getfield 22, 3) := by decide +kernel
theorem dX7_meanScale_31 : decode cX7_meanScale 31 = .ok (.iload_n 3, 1) := by decide +kernel
theorem dX7_meanScale_32 : decode cX7_meanScale 32 = .ok (.iaload, 1) := by decide +kernel
theorem dX7_meanScale_33 : decode cX7_meanScale 33 = .ok (.ldc 109, 2) := by decide +kernel
theorem dX7_meanScale_35 : decode cX7_meanScale 35 = .ok (.if_icmp .ne 7, 3) := by decide +kernel
theorem dX7_meanScale_38 : decode cX7_meanScale 38 = .ok (.iconst 0, 1) := by decide +kernel
theorem dX7_meanScale_39 : decode cX7_meanScale 39 = .ok (.goto 8, 3) := by decide +kernel
theorem dX7_meanScale_42 : decode cX7_meanScale 42 = .ok (.aload_n 0, 1) := by decide +kernel
theorem dX7_meanScale_43 : decode cX7_meanScale 43 = .ok (.iload_n 3, 1) := by decide +kernel
theorem dX7_meanScale_44 : decode cX7_meanScale 44 = .ok (.invokevirtual 190, 3) := by decide +kernel
theorem dX7_meanScale_47 : decode cX7_meanScale 47 = .ok (.iadd, 1) := by decide +kernel
theorem dX7_meanScale_48 : decode cX7_meanScale 48 = .ok (.istore_n 1, 1) := by decide +kernel
theorem dX7_meanScale_49 : decode cX7_meanScale 49 = .ok (.iload_n 2, 1) := by decide +kernel
theorem dX7_meanScale_50 : decode cX7_meanScale 50 = .ok (.aload_n 0, 1) := by decide +kernel
theorem dX7_meanScale_51 : decode cX7_meanScale 51 = .ok (.getfield 22, 3) := by decide +kernel
theorem dX7_meanScale_54 : decode cX7_meanScale 54 = .ok (.iload_n 3, 1) := by decide +kernel
theorem dX7_meanScale_55 : decode cX7_meanScale 55 = .ok (.iaload, 1) := by decide +kernel
theorem dX7_meanScale_56 : decode cX7_meanScale 56 = .ok (.ldc 109, 2) := by decide +kernel
theorem dX7_meanScale_58 : decode cX7_meanScale 58 = .ok (.if_icmp .ne 7, 3) := by decide +kernel
theorem dX7_meanScale_61 : decode cX7_meanScale 61 = .ok (.iconst 0, 1) := by decide +kernel
theorem dX7_meanScale_62 : decode cX7_meanScale 62 = .ok (.goto 14, 3) := by decide +kernel
theorem dX7_meanScale_65 : decode cX7_meanScale 65 = .ok (.aload_n 0, 1) := by decide +kernel
theorem dX7_meanScale_66 : decode cX7_meanScale 66 = .ok (.aload_n 0, 1) := by decide +kernel
theorem dX7_meanScale_67 : decode cX7_meanScale 67 = .ok (.getfield 22, 3) := by decide +kernel
theorem dX7_meanScale_70 : decode cX7_meanScale 70 = .ok (.iload_n 3, 1) := by decide +kernel
theorem dX7_meanScale_71 : decode cX7_meanScale 71 = .ok (.iaload, 1) := by decide +kernel
theorem dX7_meanScale_72 : decode cX7_meanScale 72 = .ok (.iconst 0, 1) := by decide +kernel
theorem dX7_meanScale_73 : decode cX7_meanScale 73 = .ok (.invokevirtual 185, 3) := by decide +kernel
theorem dX7_meanScale_76 : decode cX7_meanScale 76 = .ok (.iadd, 1) := by decide +kernel
theorem dX7_meanScale_77 : decode cX7_meanScale 77 = .ok (.istore_n 2, 1) := by decide +kernel
theorem dX7_meanScale_78 : decode cX7_meanScale 78 = .ok (.iinc 3 1, 3) := by decide +kernel
theorem dX7_meanScale_81 : decode cX7_meanScale 81 = .ok (.goto (-66), 3) := by decide +kernel
theorem dX7_meanScale_84 : decode cX7_meanScale 84 = .ok (.iload_n 2, 1) := by decide +kernel
theorem dX7_meanScale_85 : decode cX7_meanScale 85 = .ok (.ifCond .ne 8, 3) := by decide +kernel
theorem dX7_meanScale_88 : decode cX7_meanScale 88 = .ok (.ldc 109, 2) := by decide +kernel
theorem dX7_meanScale_90 : decode cX7_meanScale 90 = .ok (.goto 10, 3) := by decide +kernel
theorem dX7_meanScale_93 : decode cX7_meanScale 93 = .ok (.sipush 1000, 3) := by decide +kernel
theorem dX7_meanScale_96 : decode cX7_meanScale 96 = .ok (.iload_n 1, 1) := by decide +kernel
theorem dX7_meanScale_97 : decode cX7_meanScale 97 = .ok (.imul, 1) := by decide +kernel
theorem dX7_meanScale_98 : decode cX7_meanScale 98 = .ok (.iload_n 2, 1) := by decide +kernel
theorem dX7_meanScale_99 : decode cX7_meanScale 99 = .ok (.idiv, 1) := by decide +kernel
theorem dX7_meanScale_100 : decode cX7_meanScale 100 = .ok (.ireturn, 1) := by decide +kernel
set_option maxRecDepth 20000 in
theorem ggX7_zeroFor_X7_angleOf : GoodIn wsX7_zeroFor wsX7_angleOf := goodIn_r _ [6, 1, 7, 8, 9, 5, 10, 11, 12, 13, 14, 15, 16, 17, 18, 19, 20, 21, 22, 23, 24, 25, 26, 27, 28, 29, 30, 31, 32, 33, 34, 35, 36, 37, 38, 39, 44, 45, 46, 47, 48, 49, 50, 51, 52, 53, 54, 55, 56, 57, 58, 59, 60, 61, 62] (by decide +kernel) (by decide +kernel)
set_option maxRecDepth 20000 in
theorem gX7_zeroFor_X7_angleOf : GoodIn wsX7_zeroFor (wsV RX7 170 RX7 yX7_angleOf wsX7_angleOf) := goodIn_app (goodIn_of _ (by decide +kernel)) ggX7_zeroFor_X7_angleOf
set_option maxRecDepth 20000 in
theorem ggX7_zeroFor_X7_ofStar : GoodIn wsX7_zeroFor wsX7_ofStar := goodIn_r _ [43, 1, 44, 45, 46, 47, 48, 49, 50, 51, 52, 53, 54, 55, 56, 57, 58, 59, 60, 61, 62] (by decide +kernel) (by decide +kernel)
set_option maxRecDepth 20000 in
theorem gX7_zeroFor_X7_ofStar : GoodIn wsX7_zeroFor (wsV RX7 185 RX7 yX7_ofStar wsX7_ofStar) := goodIn_app (goodIn_of _ (by decide +kernel)) ggX7_zeroFor_X7_ofStar
set_option maxRecDepth 20000 in
theorem ggX7_zeroFor_X7_frameOf : GoodIn wsX7_zeroFor wsX7_frameOf := goodIn_r _ [17, 1, 11, 12, 5, 13, 44, 45, 46, 47, 48, 49, 50, 51, 52, 53, 54, 55, 56, 57, 58, 59, 60, 61, 62] (by decide +kernel) (by decide +kernel)
set_option maxRecDepth 20000 in
theorem gX7_zeroFor_X7_frameOf : GoodIn wsX7_zeroFor (wsV RX7 65 RX7 yX7_frameOf wsX7_frameOf) := goodIn_app (goodIn_of _ (by decide +kernel)) ggX7_zeroFor_X7_frameOf
set_option maxRecDepth 20000 in
theorem ggX7_zeroFor_X7_around : GoodIn wsX7_zeroFor wsX7_around := goodIn_r _ [38, 39] (by decide +kernel) (by decide +kernel)
set_option maxRecDepth 20000 in
theorem gX7_zeroFor_X7_around : GoodIn wsX7_zeroFor (va_wsS RX7 164 yX7_around wsX7_around) := goodIn_app (goodIn_of _ (by decide +kernel)) ggX7_zeroFor_X7_around
theorem dX7_zeroFor_0 : decode cX7_zeroFor 0 = .ok (.aload_n 0, 1) := by decide +kernel
theorem dX7_zeroFor_1 : decode cX7_zeroFor 1 = .ok (.iload_n 1, 1) := by decide +kernel
theorem dX7_zeroFor_2 : decode cX7_zeroFor 2 = .ok (.iconst 0, 1) := by decide +kernel
theorem dX7_zeroFor_3 : decode cX7_zeroFor 3 = .ok (.invokevirtual 170, 3) := by decide +kernel
theorem dX7_zeroFor_6 : decode cX7_zeroFor 6 = .ok (.aload_n 0, 1) := by decide +kernel
theorem dX7_zeroFor_7 : decode cX7_zeroFor 7 = .ok (.iload_n 2, 1) := by decide +kernel
theorem dX7_zeroFor_8 : decode cX7_zeroFor 8 = .ok (.iconst 1, 1) := by decide +kernel
theorem dX7_zeroFor_9 : decode cX7_zeroFor 9 = .ok (.invokevirtual 185, 3) := by decide +kernel
theorem dX7_zeroFor_12 : decode cX7_zeroFor 12 = .ok (.isub, 1) := by decide +kernel
theorem dX7_zeroFor_13 : decode cX7_zeroFor 13 = .ok (.aload_n 0, 1) := by decide +kernel
theorem dX7_zeroFor_14 : decode cX7_zeroFor 14 = .ok (.getfield 7, 3) := by decide +kernel
theorem dX7_zeroFor_17 : decode cX7_zeroFor 17 = .ok (.iconst 0, 1) := by decide +kernel
theorem dX7_zeroFor_18 : decode cX7_zeroFor 18 = .ok (.iaload, 1) := by decide +kernel
theorem dX7_zeroFor_19 : decode cX7_zeroFor 19 = .ok (.aload_n 0, 1) := by decide +kernel
theorem dX7_zeroFor_20 : decode cX7_zeroFor 20 = .ok (.iload_n 1, 1) := by decide +kernel
theorem dX7_zeroFor_21 : decode cX7_zeroFor 21 = .ok (.iconst 0, 1) := by decide +kernel
theorem dX7_zeroFor_22 : decode cX7_zeroFor 22 = .ok (.invokevirtual 65, 3) := by decide +kernel
theorem dX7_zeroFor_25 : decode cX7_zeroFor 25 = .ok (.imul, 1) := by decide +kernel
theorem dX7_zeroFor_26 : decode cX7_zeroFor 26 = .ok (.isub, 1) := by decide +kernel
theorem dX7_zeroFor_27 : decode cX7_zeroFor 27 = .ok (.invokestatic 164, 3) := by decide +kernel
theorem dX7_zeroFor_30 : decode cX7_zeroFor 30 = .ok (.ireturn, 1) := by decide +kernel
set_option maxRecDepth 20000 in
theorem ggX7_bestZero_X7_points : GoodIn wsX7_bestZero wsX7_points := goodIn_r _ [10, 2, 95, 96, 97, 98, 99, 100, 101, 102, 103, 104, 105, 106, 107, 108, 109, 110, 111, 112, 113] (by decide +kernel) (by decide +kernel)
set_option maxRecDepth 20000 in
theorem gX7_bestZero_X7_points : GoodIn wsX7_bestZero (wsV RX7 51 RX7 yX7_points wsX7_points) := goodIn_app (goodIn_of _ (by decide +kernel)) ggX7_bestZero_X7_points
set_option maxRecDepth 20000 in
theorem ggX7_bestZero_X7_zeroFor : GoodIn wsX7_bestZero wsX7_zeroFor := goodIn_r _ [14, 2, 15, 16, 17, 9, 18, 19, 20, 21, 22, 23, 24, 25, 26, 27, 28, 29, 30, 31, 32, 33, 34, 35, 36, 37, 38, 39, 40, 41, 42, 43, 44, 45, 46, 47, 48, 49, 50, 51, 52, 53, 54, 55, 95, 96, 97, 98, 99, 100, 101, 102, 103, 104, 105, 106, 107, 108, 109, 110, 111, 112, 113] (by decide +kernel) (by decide +kernel)
set_option maxRecDepth 20000 in
theorem gX7_bestZero_X7_zeroFor : GoodIn wsX7_bestZero (wsV RX7 244 RX7 yX7_zeroFor wsX7_zeroFor) := goodIn_app (goodIn_of _ (by decide +kernel)) ggX7_bestZero_X7_zeroFor
set_option maxRecDepth 20000 in
theorem ggX7_bestZero_X7_match : GoodIn wsX7_bestZero wsX7_match := goodIn_r _ [59, 60, 3, 61, 2, 62, 4, 5, 6, 7, 8, 9, 10, 63, 64, 65, 66, 67, 68, 69, 70, 71, 72, 73, 74, 75, 19, 20, 21, 22, 23, 24, 25, 26, 27, 28, 29, 30, 31, 32, 33, 34, 35, 36, 76, 77, 78, 79, 80, 81, 82, 83, 52, 53, 54, 55, 41, 42, 43, 15, 16, 17, 18, 37, 38, 39, 40, 44, 45, 46, 47, 48, 49, 50, 51, 84, 85, 86, 87, 88, 89, 90, 91, 92, 93, 94, 95, 96, 97, 98, 99, 100, 101, 102, 103, 104, 105, 106, 107, 108, 109, 110, 111, 112, 113] (by decide +kernel) (by decide +kernel)
set_option maxRecDepth 20000 in
theorem gX7_bestZero_X7_match : GoodIn wsX7_bestZero (wsV RX7 223 RX7 yX7_match wsX7_match) := goodIn_app (goodIn_of _ (by decide +kernel)) ggX7_bestZero_X7_match
theorem dX7_bestZero_0 : decode cX7_bestZero 0 = .ok (.aload_n 0, 1) := by decide +kernel
theorem dX7_bestZero_1 : decode cX7_bestZero 1 = .ok (.iconst 0, 1) := by decide +kernel
theorem dX7_bestZero_2 : decode cX7_bestZero 2 = .ok (.putfield 31, 3) := by decide +kernel
theorem dX7_bestZero_5 : decode cX7_bestZero 5 = .ok (.aload_n 0, 1) := by decide +kernel
theorem dX7_bestZero_6 : decode cX7_bestZero 6 = .ok (.getfield 7, 3) := by decide +kernel
theorem dX7_bestZero_9 : decode cX7_bestZero 9 = .ok (.bipush 8, 2) := by decide +kernel
theorem dX7_bestZero_11 : decode cX7_bestZero 11 = .ok (.iaload, 1) := by decide +kernel
theorem dX7_bestZero_12 : decode cX7_bestZero 12 = .ok (.istore_n 1, 1) := by decide +kernel
theorem dX7_bestZero_13 : decode cX7_bestZero 13 = .ok (.ldc 109, 2) := by decide +kernel
theorem dX7_bestZero_15 : decode cX7_bestZero 15 = .ok (.istore_n 2, 1) := by decide +kernel
theorem dX7_bestZero_16 : decode cX7_bestZero 16 = .ok (.iconst 0, 1) := by decide +kernel
theorem dX7_bestZero_17 : decode cX7_bestZero 17 = .ok (.istore_n 3, 1) := by decide +kernel
theorem dX7_bestZero_18 : decode cX7_bestZero 18 = .ok (.iconst 0, 1) := by decide +kernel
theorem dX7_bestZero_19 : decode cX7_bestZero 19 = .ok (.istore 4, 2) := by decide +kernel
theorem dX7_bestZero_21 : decode cX7_bestZero 21 = .ok (.iconst 0, 1) := by decide +kernel
theorem dX7_bestZero_22 : decode cX7_bestZero 22 = .ok (.istore 5, 2) := by decide +kernel
theorem dX7_bestZero_24 : decode cX7_bestZero 24 = .ok (.iload 5, 2) := by decide +kernel
theorem dX7_bestZero_26 : decode cX7_bestZero 26 = .ok (.aload_n 0, 1) := by decide +kernel
theorem dX7_bestZero_27 : decode cX7_bestZero 27 = .ok (.getfield 7, 3) := by decide +kernel
theorem dX7_bestZero_30 : decode cX7_bestZero 30 = .ok (.bipush 13, 2) := by decide +kernel
theorem dX7_bestZero_32 : decode cX7_bestZero 32 = .ok (.iaload, 1) := by decide +kernel
theorem dX7_bestZero_33 : decode cX7_bestZero 33 = .ok (.aload_n 0, 1) := by decide +kernel
theorem dX7_bestZero_34 : decode cX7_bestZero 34 = .ok (.getfield 7, 3) := by decide +kernel
theorem dX7_bestZero_37 : decode cX7_bestZero 37 = .ok (.bipush 12, 2) := by decide +kernel
theorem dX7_bestZero_39 : decode cX7_bestZero 39 = .ok (.iaload, 1) := by decide +kernel
theorem dX7_bestZero_40 : decode cX7_bestZero 40 = .ok (.imul, 1) := by decide +kernel
theorem dX7_bestZero_41 : decode cX7_bestZero 41 = .ok (.if_icmp .ge 188, 3) := by decide +kernel
theorem dX7_bestZero_44 : decode cX7_bestZero 44 = .ok (.iload 5, 2) := by decide +kernel
theorem dX7_bestZero_46 : decode cX7_bestZero 46 = .ok (.aload_n 0, 1) := by decide +kernel
theorem dX7_bestZero_47 : decode cX7_bestZero 47 = .ok (.getfield 7, 3) := by decide +kernel
theorem dX7_bestZero_50 : decode cX7_bestZero 50 = .ok (.bipush 13, 2) := by decide +kernel
theorem dX7_bestZero_52 : decode cX7_bestZero 52 = .ok (.iaload, 1) := by decide +kernel
theorem dX7_bestZero_53 : decode cX7_bestZero 53 = .ok (.idiv, 1) := by decide +kernel
theorem dX7_bestZero_54 : decode cX7_bestZero 54 = .ok (.istore 6, 2) := by decide +kernel
theorem dX7_bestZero_56 : decode cX7_bestZero 56 = .ok (.aload_n 0, 1) := by decide +kernel
theorem dX7_bestZero_57 : decode cX7_bestZero 57 = .ok (.iload 6, 2) := by decide +kernel
theorem dX7_bestZero_59 : decode cX7_bestZero 59 = .ok (.invokevirtual 51, 3) := by decide +kernel
theorem dX7_bestZero_62 : decode cX7_bestZero 62 = .ok (.ifCond .ne 8, 3) := by decide +kernel
theorem dX7_bestZero_65 : decode cX7_bestZero 65 = .ok (.ldc 109, 2) := by decide +kernel
theorem dX7_bestZero_67 : decode cX7_bestZero 67 = .ok (.goto 19, 3) := by decide +kernel
theorem dX7_bestZero_70 : decode cX7_bestZero 70 = .ok (.aload_n 0, 1) := by decide +kernel
theorem dX7_bestZero_71 : decode cX7_bestZero 71 = .ok (.iload 6, 2) := by decide +kernel
theorem dX7_bestZero_73 : decode cX7_bestZero 73 = .ok (.iload 5, 2) := by decide +kernel
theorem dX7_bestZero_75 : decode cX7_bestZero 75 = .ok (.aload_n 0, 1) := by decide +kernel
theorem dX7_bestZero_76 : decode cX7_bestZero 76 = .ok (.getfield 7, 3) := by decide +kernel
theorem dX7_bestZero_79 : decode cX7_bestZero 79 = .ok (.bipush 13, 2) := by decide +kernel
theorem dX7_bestZero_81 : decode cX7_bestZero 81 = .ok (.iaload, 1) := by decide +kernel
theorem dX7_bestZero_82 : decode cX7_bestZero 82 = .ok (.irem, 1) := by decide +kernel
theorem dX7_bestZero_83 : decode cX7_bestZero 83 = .ok (.invokevirtual 244, 3) := by decide +kernel
theorem dX7_bestZero_86 : decode cX7_bestZero 86 = .ok (.istore 7, 2) := by decide +kernel
theorem dX7_bestZero_88 : decode cX7_bestZero 88 = .ok (.iload 7, 2) := by decide +kernel
theorem dX7_bestZero_90 : decode cX7_bestZero 90 = .ok (.ldc 109, 2) := by decide +kernel
theorem dX7_bestZero_92 : decode cX7_bestZero 92 = .ok (.if_icmp .eq 131, 3) := by decide +kernel
theorem dX7_bestZero_95 : decode cX7_bestZero 95 = .ok (.aload_n 0, 1) := by decide +kernel
theorem dX7_bestZero_96 : decode cX7_bestZero 96 = .ok (.getfield 7, 3) := by decide +kernel
theorem dX7_bestZero_99 : decode cX7_bestZero 99 = .ok (.bipush 8, 2) := by decide +kernel
theorem dX7_bestZero_101 : decode cX7_bestZero 101 = .ok (.iload 7, 2) := by decide +kernel
theorem dX7_bestZero_103 : decode cX7_bestZero 103 = .ok (.iastore, 1) := by decide +kernel
theorem dX7_bestZero_104 : decode cX7_bestZero 104 = .ok (.aload_n 0, 1) := by decide +kernel
theorem dX7_bestZero_105 : decode cX7_bestZero 105 = .ok (.invokevirtual 223, 3) := by decide +kernel
theorem dX7_bestZero_108 : decode cX7_bestZero 108 = .ok (.aload_n 0, 1) := by decide +kernel
theorem dX7_bestZero_109 : decode cX7_bestZero 109 = .ok (.getfield 201, 3) := by decide +kernel
theorem dX7_bestZero_112 : decode cX7_bestZero 112 = .ok (.iload_n 3, 1) := by decide +kernel
theorem dX7_bestZero_113 : decode cX7_bestZero 113 = .ok (.if_icmp .ne 22, 3) := by decide +kernel
theorem dX7_bestZero_116 : decode cX7_bestZero 116 = .ok (.aload_n 0, 1) := by decide +kernel
theorem dX7_bestZero_117 : decode cX7_bestZero 117 = .ok (.getfield 204, 3) := by decide +kernel
theorem dX7_bestZero_120 : decode cX7_bestZero 120 = .ok (.iload 4, 2) := by decide +kernel
theorem dX7_bestZero_122 : decode cX7_bestZero 122 = .ok (.if_icmp .ne 13, 3) := by decide +kernel
theorem dX7_bestZero_125 : decode cX7_bestZero 125 = .ok (.iload 7, 2) := by decide +kernel
theorem dX7_bestZero_127 : decode cX7_bestZero 127 = .ok (.iload_n 2, 1) := by decide +kernel
theorem dX7_bestZero_128 : decode cX7_bestZero 128 = .ok (.if_icmp .ge 7, 3) := by decide +kernel
theorem dX7_bestZero_131 : decode cX7_bestZero 131 = .ok (.iconst 1, 1) := by decide +kernel
theorem dX7_bestZero_132 : decode cX7_bestZero 132 = .ok (.goto 4, 3) := by decide +kernel
theorem dX7_bestZero_135 : decode cX7_bestZero 135 = .ok (.iconst 0, 1) := by decide +kernel
theorem dX7_bestZero_136 : decode cX7_bestZero 136 = .ok (.istore 8, 2) := by decide +kernel
theorem dX7_bestZero_138 : decode cX7_bestZero 138 = .ok (.iload_n 2, 1) := by decide +kernel
theorem dX7_bestZero_139 : decode cX7_bestZero 139 = .ok (.ldc 109, 2) := by decide +kernel
theorem dX7_bestZero_141 : decode cX7_bestZero 141 = .ok (.if_icmp .eq 33, 3) := by decide +kernel
theorem dX7_bestZero_144 : decode cX7_bestZero 144 = .ok (.aload_n 0, 1) := by decide +kernel
theorem dX7_bestZero_145 : decode cX7_bestZero 145 = .ok (.getfield 201, 3) := by decide +kernel
theorem dX7_bestZero_148 : decode cX7_bestZero 148 = .ok (.iload_n 3, 1) := by decide +kernel
theorem dX7_bestZero_149 : decode cX7_bestZero 149 = .ok (.if_icmp .gt 25, 3) := by decide +kernel
theorem dX7_bestZero_152 : decode cX7_bestZero 152 = .ok (.aload_n 0, 1) := by decide +kernel
theorem dX7_bestZero_153 : decode cX7_bestZero 153 = .ok (.getfield 201, 3) := by decide +kernel
theorem dX7_bestZero_156 : decode cX7_bestZero 156 = .ok (.iload_n 3, 1) := by decide +kernel
theorem dX7_bestZero_157 : decode cX7_bestZero 157 = .ok (.if_icmp .ne 12, 3) := by decide +kernel
theorem dX7_bestZero_160 : decode cX7_bestZero 160 = .ok (.aload_n 0, 1) := by decide +kernel
theorem dX7_bestZero_161 : decode cX7_bestZero 161 = .ok (.getfield 204, 3) := by decide +kernel
theorem dX7_bestZero_164 : decode cX7_bestZero 164 = .ok (.iload 4, 2) := by decide +kernel
theorem dX7_bestZero_166 : decode cX7_bestZero 166 = .ok (.if_icmp .lt 8, 3) := by decide +kernel
theorem dX7_bestZero_169 : decode cX7_bestZero 169 = .ok (.iload 8, 2) := by decide +kernel
theorem dX7_bestZero_171 : decode cX7_bestZero 171 = .ok (.ifCond .eq 7, 3) := by decide +kernel
theorem dX7_bestZero_174 : decode cX7_bestZero 174 = .ok (.iconst 1, 1) := by decide +kernel
theorem dX7_bestZero_175 : decode cX7_bestZero 175 = .ok (.goto 4, 3) := by decide +kernel
theorem dX7_bestZero_178 : decode cX7_bestZero 178 = .ok (.iconst 0, 1) := by decide +kernel
theorem dX7_bestZero_179 : decode cX7_bestZero 179 = .ok (.istore 9, 2) := by decide +kernel
theorem dX7_bestZero_181 : decode cX7_bestZero 181 = .ok (.iload 9, 2) := by decide +kernel
theorem dX7_bestZero_183 : decode cX7_bestZero 183 = .ok (.ifCond .eq 8, 3) := by decide +kernel
theorem dX7_bestZero_186 : decode cX7_bestZero 186 = .ok (.iload 7, 2) := by decide +kernel
theorem dX7_bestZero_188 : decode cX7_bestZero 188 = .ok (.goto 4, 3) := by decide +kernel
theorem dX7_bestZero_191 : decode cX7_bestZero 191 = .ok (.iload_n 2, 1) := by decide +kernel
theorem dX7_bestZero_192 : decode cX7_bestZero 192 = .ok (.istore_n 2, 1) := by decide +kernel
theorem dX7_bestZero_193 : decode cX7_bestZero 193 = .ok (.iload 9, 2) := by decide +kernel
theorem dX7_bestZero_195 : decode cX7_bestZero 195 = .ok (.ifCond .eq 10, 3) := by decide +kernel
theorem dX7_bestZero_198 : decode cX7_bestZero 198 = .ok (.aload_n 0, 1) := by decide +kernel
theorem dX7_bestZero_199 : decode cX7_bestZero 199 = .ok (.getfield 201, 3) := by decide +kernel
theorem dX7_bestZero_202 : decode cX7_bestZero 202 = .ok (.goto 4, 3) := by decide +kernel
theorem dX7_bestZero_205 : decode cX7_bestZero 205 = .ok (.iload_n 3, 1) := by decide +kernel
theorem dX7_bestZero_206 : decode cX7_bestZero 206 = .ok (.istore_n 3, 1) := by decide +kernel
theorem dX7_bestZero_207 : decode cX7_bestZero 207 = .ok (.iload 9, 2) := by decide +kernel
theorem dX7_bestZero_209 : decode cX7_bestZero 209 = .ok (.ifCond .eq 10, 3) := by decide +kernel
theorem dX7_bestZero_212 : decode cX7_bestZero 212 = .ok (.aload_n 0, 1) := by decide +kernel
theorem dX7_bestZero_213 : decode cX7_bestZero 213 = .ok (.getfield 204, 3) := by decide +kernel
theorem dX7_bestZero_216 : decode cX7_bestZero 216 = .ok (.goto 5, 3) := by decide +kernel
theorem dX7_bestZero_219 : decode cX7_bestZero 219 = .ok (.iload 4, 2) := by decide +kernel
theorem dX7_bestZero_221 : decode cX7_bestZero 221 = .ok (.istore 4, 2) := by decide +kernel
theorem dX7_bestZero_223 : decode cX7_bestZero 223 = .ok (.iinc 5 1, 3) := by decide +kernel
theorem dX7_bestZero_226 : decode cX7_bestZero 226 = .ok (.goto (-202), 3) := by decide +kernel
theorem dX7_bestZero_229 : decode cX7_bestZero 229 = .ok (.aload_n 0, 1) := by decide +kernel
theorem dX7_bestZero_230 : decode cX7_bestZero 230 = .ok (.getfield 7, 3) := by decide +kernel
theorem dX7_bestZero_233 : decode cX7_bestZero 233 = .ok (.bipush 8, 2) := by decide +kernel
theorem dX7_bestZero_235 : decode cX7_bestZero 235 = .ok (.iload_n 1, 1) := by decide +kernel
theorem dX7_bestZero_236 : decode cX7_bestZero 236 = .ok (.iastore, 1) := by decide +kernel
theorem dX7_bestZero_237 : decode cX7_bestZero 237 = .ok (.iload_n 2, 1) := by decide +kernel
theorem dX7_bestZero_238 : decode cX7_bestZero 238 = .ok (.ireturn, 1) := by decide +kernel
set_option maxRecDepth 20000 in
theorem ggX7_bestDrift_X7_in : GoodIn wsX7_bestDrift wsX7_in := goodIn_r _ [7] (by decide +kernel) (by decide +kernel)
set_option maxRecDepth 20000 in
theorem gX7_bestDrift_X7_in : GoodIn wsX7_bestDrift (va_wsS RX7 39 yX7_in wsX7_in) := goodIn_app (goodIn_of _ (by decide +kernel)) ggX7_bestDrift_X7_in
set_option maxRecDepth 20000 in
theorem ggX7_bestDrift_X7_isDrift : GoodIn wsX7_bestDrift wsX7_isDrift := goodIn_r _ [10, 4, 5, 6, 7] (by decide +kernel) (by decide +kernel)
set_option maxRecDepth 20000 in
theorem gX7_bestDrift_X7_isDrift : GoodIn wsX7_bestDrift (va_wsS RX7 82 yX7_isDrift wsX7_isDrift) := goodIn_app (goodIn_of _ (by decide +kernel)) ggX7_bestDrift_X7_isDrift
set_option maxRecDepth 20000 in
theorem ggX7_bestDrift_X7_plateCost : GoodIn wsX7_bestDrift wsX7_plateCost := goodIn_r _ [14, 2, 15, 16, 17, 6, 18, 19, 20, 21, 22, 23, 24, 25, 26, 27, 28, 29, 30, 31, 32, 33, 34, 35, 36, 37, 38, 39, 40, 41, 42, 43, 44, 45, 46, 47, 48, 49, 50, 51, 52, 53, 54, 55, 56, 57, 58, 59, 60, 61, 62, 63, 64, 65, 66] (by decide +kernel) (by decide +kernel)
set_option maxRecDepth 20000 in
theorem gX7_bestDrift_X7_plateCost : GoodIn wsX7_bestDrift (wsV RX7 100 RX7 yX7_plateCost wsX7_plateCost) := goodIn_app (goodIn_of _ (by decide +kernel)) ggX7_bestDrift_X7_plateCost
theorem dX7_bestDrift_0 : decode cX7_bestDrift 0 = .ok (.aload_n 0, 1) := by decide +kernel
theorem dX7_bestDrift_1 : decode cX7_bestDrift 1 = .ok (.iload_n 1, 1) := by decide +kernel
theorem dX7_bestDrift_2 : decode cX7_bestDrift 2 = .ok (.iconst 0, 1) := by decide +kernel
theorem dX7_bestDrift_3 : decode cX7_bestDrift 3 = .ok (.iconst 5, 1) := by decide +kernel
theorem dX7_bestDrift_4 : decode cX7_bestDrift 4 = .ok (.invokestatic 39, 3) := by decide +kernel
theorem dX7_bestDrift_7 : decode cX7_bestDrift 7 = .ok (.ifCond .eq 7, 3) := by decide +kernel
theorem dX7_bestDrift_10 : decode cX7_bestDrift 10 = .ok (.iconst 0, 1) := by decide +kernel
theorem dX7_bestDrift_11 : decode cX7_bestDrift 11 = .ok (.goto 4, 3) := by decide +kernel
theorem dX7_bestDrift_14 : decode cX7_bestDrift 14 = .ok (.iconst 1, 1) := by decide +kernel
theorem dX7_bestDrift_15 : decode cX7_bestDrift 15 = .ok (.putfield 31, 3) := by decide +kernel
theorem dX7_bestDrift_18 : decode cX7_bestDrift 18 = .ok (.aload_n 0, 1) := by decide +kernel
theorem dX7_bestDrift_19 : decode cX7_bestDrift 19 = .ok (.getfield 31, 3) := by decide +kernel
theorem dX7_bestDrift_22 : decode cX7_bestDrift 22 = .ok (.ifCond .eq 5, 3) := by decide +kernel
theorem dX7_bestDrift_25 : decode cX7_bestDrift 25 = .ok (.iconst 0, 1) := by decide +kernel
theorem dX7_bestDrift_26 : decode cX7_bestDrift 26 = .ok (.ireturn, 1) := by decide +kernel
theorem dX7_bestDrift_27 : decode cX7_bestDrift 27 = .ok (.aload_n 0, 1) := by decide +kernel
theorem dX7_bestDrift_28 : decode cX7_bestDrift 28 = .ok (.getfield 7, 3) := by decide +kernel
theorem dX7_bestDrift_31 : decode cX7_bestDrift 31 = .ok (.iconst 1, 1) := by decide +kernel
theorem dX7_bestDrift_32 : decode cX7_bestDrift 32 = .ok (.iaload, 1) := by decide +kernel
theorem dX7_bestDrift_33 : decode cX7_bestDrift 33 = .ok (.istore_n 2, 1) := by decide +kernel
theorem dX7_bestDrift_34 : decode cX7_bestDrift 34 = .ok (.aload_n 0, 1) := by decide +kernel
theorem dX7_bestDrift_35 : decode cX7_bestDrift 35 = .ok (.getfield 7, 3) := by decide +kernel
theorem dX7_bestDrift_38 : decode cX7_bestDrift 38 = .ok (.iconst 2, 1) := by decide +kernel
theorem dX7_bestDrift_39 : decode cX7_bestDrift 39 = .ok (.iaload, 1) := by decide +kernel
theorem dX7_bestDrift_40 : decode cX7_bestDrift 40 = .ok (.istore_n 3, 1) := by decide +kernel
theorem dX7_bestDrift_41 : decode cX7_bestDrift 41 = .ok (.ldc 109, 2) := by decide +kernel
theorem dX7_bestDrift_43 : decode cX7_bestDrift 43 = .ok (.istore 4, 2) := by decide +kernel
theorem dX7_bestDrift_45 : decode cX7_bestDrift 45 = .ok (.iconst 0, 1) := by decide +kernel
theorem dX7_bestDrift_46 : decode cX7_bestDrift 46 = .ok (.istore 5, 2) := by decide +kernel
theorem dX7_bestDrift_48 : decode cX7_bestDrift 48 = .ok (.iconst 0, 1) := by decide +kernel
theorem dX7_bestDrift_49 : decode cX7_bestDrift 49 = .ok (.istore 6, 2) := by decide +kernel
theorem dX7_bestDrift_51 : decode cX7_bestDrift 51 = .ok (.iload 6, 2) := by decide +kernel
theorem dX7_bestDrift_53 : decode cX7_bestDrift 53 = .ok (.iconst 2, 1) := by decide +kernel
theorem dX7_bestDrift_54 : decode cX7_bestDrift 54 = .ok (.iload_n 1, 1) := by decide +kernel
theorem dX7_bestDrift_55 : decode cX7_bestDrift 55 = .ok (.imul, 1) := by decide +kernel
theorem dX7_bestDrift_56 : decode cX7_bestDrift 56 = .ok (.iconst 1, 1) := by decide +kernel
theorem dX7_bestDrift_57 : decode cX7_bestDrift 57 = .ok (.iadd, 1) := by decide +kernel
theorem dX7_bestDrift_58 : decode cX7_bestDrift 58 = .ok (.iconst 2, 1) := by decide +kernel
theorem dX7_bestDrift_59 : decode cX7_bestDrift 59 = .ok (.iload_n 1, 1) := by decide +kernel
theorem dX7_bestDrift_60 : decode cX7_bestDrift 60 = .ok (.imul, 1) := by decide +kernel
theorem dX7_bestDrift_61 : decode cX7_bestDrift 61 = .ok (.iconst 1, 1) := by decide +kernel
theorem dX7_bestDrift_62 : decode cX7_bestDrift 62 = .ok (.iadd, 1) := by decide +kernel
theorem dX7_bestDrift_63 : decode cX7_bestDrift 63 = .ok (.imul, 1) := by decide +kernel
theorem dX7_bestDrift_64 : decode cX7_bestDrift 64 = .ok (.if_icmp .ge 145, 3) := by decide +kernel
theorem dX7_bestDrift_67 : decode cX7_bestDrift 67 = .ok (.aload_n 0, 1) := by decide +kernel
theorem dX7_bestDrift_68 : decode cX7_bestDrift 68 = .ok (.getfield 7, 3) := by decide +kernel
theorem dX7_bestDrift_71 : decode cX7_bestDrift 71 = .ok (.iconst 1, 1) := by decide +kernel
theorem dX7_bestDrift_72 : decode cX7_bestDrift 72 = .ok (.iload_n 2, 1) := by decide +kernel
theorem dX7_bestDrift_73 : decode cX7_bestDrift 73 = .ok (.iload_n 1, 1) := by decide +kernel
theorem dX7_bestDrift_74 : decode cX7_bestDrift 74 = .ok (.isub, 1) := by decide +kernel
theorem dX7_bestDrift_75 : decode cX7_bestDrift 75 = .ok (.iload 6, 2) := by decide +kernel
theorem dX7_bestDrift_77 : decode cX7_bestDrift 77 = .ok (.iconst 2, 1) := by decide +kernel
theorem dX7_bestDrift_78 : decode cX7_bestDrift 78 = .ok (.iload_n 1, 1) := by decide +kernel
theorem dX7_bestDrift_79 : decode cX7_bestDrift 79 = .ok (.imul, 1) := by decide +kernel
theorem dX7_bestDrift_80 : decode cX7_bestDrift 80 = .ok (.iconst 1, 1) := by decide +kernel
theorem dX7_bestDrift_81 : decode cX7_bestDrift 81 = .ok (.iadd, 1) := by decide +kernel
theorem dX7_bestDrift_82 : decode cX7_bestDrift 82 = .ok (.idiv, 1) := by decide +kernel
theorem dX7_bestDrift_83 : decode cX7_bestDrift 83 = .ok (.iadd, 1) := by decide +kernel
theorem dX7_bestDrift_84 : decode cX7_bestDrift 84 = .ok (.iastore, 1) := by decide +kernel
theorem dX7_bestDrift_85 : decode cX7_bestDrift 85 = .ok (.aload_n 0, 1) := by decide +kernel
theorem dX7_bestDrift_86 : decode cX7_bestDrift 86 = .ok (.getfield 7, 3) := by decide +kernel
theorem dX7_bestDrift_89 : decode cX7_bestDrift 89 = .ok (.iconst 2, 1) := by decide +kernel
theorem dX7_bestDrift_90 : decode cX7_bestDrift 90 = .ok (.iload_n 3, 1) := by decide +kernel
theorem dX7_bestDrift_91 : decode cX7_bestDrift 91 = .ok (.iload_n 1, 1) := by decide +kernel
theorem dX7_bestDrift_92 : decode cX7_bestDrift 92 = .ok (.isub, 1) := by decide +kernel
theorem dX7_bestDrift_93 : decode cX7_bestDrift 93 = .ok (.iload 6, 2) := by decide +kernel
theorem dX7_bestDrift_95 : decode cX7_bestDrift 95 = .ok (.iconst 2, 1) := by decide +kernel
theorem dX7_bestDrift_96 : decode cX7_bestDrift 96 = .ok (.iload_n 1, 1) := by decide +kernel
theorem dX7_bestDrift_97 : decode cX7_bestDrift 97 = .ok (.imul, 1) := by decide +kernel
theorem dX7_bestDrift_98 : decode cX7_bestDrift 98 = .ok (.iconst 1, 1) := by decide +kernel
theorem dX7_bestDrift_99 : decode cX7_bestDrift 99 = .ok (.iadd, 1) := by decide +kernel
theorem dX7_bestDrift_100 : decode cX7_bestDrift 100 = .ok (.irem, 1) := by decide +kernel
theorem dX7_bestDrift_101 : decode cX7_bestDrift 101 = .ok (.iadd, 1) := by decide +kernel
theorem dX7_bestDrift_102 : decode cX7_bestDrift 102 = .ok (.iastore, 1) := by decide +kernel
theorem dX7_bestDrift_103 : decode cX7_bestDrift 103 = .ok (.aload_n 0, 1) := by decide +kernel
theorem dX7_bestDrift_104 : decode cX7_bestDrift 104 = .ok (.getfield 7, 3) := by decide +kernel
theorem dX7_bestDrift_107 : decode cX7_bestDrift 107 = .ok (.iconst 1, 1) := by decide +kernel
theorem dX7_bestDrift_108 : decode cX7_bestDrift 108 = .ok (.iaload, 1) := by decide +kernel
theorem dX7_bestDrift_109 : decode cX7_bestDrift 109 = .ok (.invokestatic 82, 3) := by decide +kernel
theorem dX7_bestDrift_112 : decode cX7_bestDrift 112 = .ok (.ifCond .eq 91, 3) := by decide +kernel
theorem dX7_bestDrift_115 : decode cX7_bestDrift 115 = .ok (.aload_n 0, 1) := by decide +kernel
theorem dX7_bestDrift_116 : decode cX7_bestDrift 116 = .ok (.getfield 7, 3) := by decide +kernel
theorem dX7_bestDrift_119 : decode cX7_bestDrift 119 = .ok (.iconst 2, 1) := by decide +kernel
theorem dX7_bestDrift_120 : decode cX7_bestDrift 120 = .ok (.iaload, 1) := by decide +kernel
theorem dX7_bestDrift_121 : decode cX7_bestDrift 121 = .ok (.invokestatic 82, 3) := by decide +kernel
theorem dX7_bestDrift_124 : decode cX7_bestDrift 124 = .ok (.ifCond .eq 79, 3) := by decide +kernel
theorem dX7_bestDrift_127 : decode cX7_bestDrift 127 = .ok (.aload_n 0, 1) := by decide +kernel
theorem dX7_bestDrift_128 : decode cX7_bestDrift 128 = .ok (.invokevirtual 100, 3) := by decide +kernel
theorem dX7_bestDrift_131 : decode cX7_bestDrift 131 = .ok (.istore 7, 2) := by decide +kernel
theorem dX7_bestDrift_133 : decode cX7_bestDrift 133 = .ok (.iload 4, 2) := by decide +kernel
theorem dX7_bestDrift_135 : decode cX7_bestDrift 135 = .ok (.ldc 109, 2) := by decide +kernel
theorem dX7_bestDrift_137 : decode cX7_bestDrift 137 = .ok (.if_icmp .eq 10, 3) := by decide +kernel
theorem dX7_bestDrift_140 : decode cX7_bestDrift 140 = .ok (.iload 7, 2) := by decide +kernel
theorem dX7_bestDrift_142 : decode cX7_bestDrift 142 = .ok (.iload 5, 2) := by decide +kernel
theorem dX7_bestDrift_144 : decode cX7_bestDrift 144 = .ok (.if_icmp .ge 7, 3) := by decide +kernel
theorem dX7_bestDrift_147 : decode cX7_bestDrift 147 = .ok (.iconst 1, 1) := by decide +kernel
theorem dX7_bestDrift_148 : decode cX7_bestDrift 148 = .ok (.goto 4, 3) := by decide +kernel
theorem dX7_bestDrift_151 : decode cX7_bestDrift 151 = .ok (.iconst 0, 1) := by decide +kernel
theorem dX7_bestDrift_152 : decode cX7_bestDrift 152 = .ok (.istore 8, 2) := by decide +kernel
theorem dX7_bestDrift_154 : decode cX7_bestDrift 154 = .ok (.iload 8, 2) := by decide +kernel
theorem dX7_bestDrift_156 : decode cX7_bestDrift 156 = .ok (.ifCond .eq 29, 3) := by decide +kernel
theorem dX7_bestDrift_159 : decode cX7_bestDrift 159 = .ok (.sipush 1000, 3) := by decide +kernel
theorem dX7_bestDrift_162 : decode cX7_bestDrift 162 = .ok (.aload_n 0, 1) := by decide +kernel
theorem dX7_bestDrift_163 : decode cX7_bestDrift 163 = .ok (.getfield 7, 3) := by decide +kernel
theorem dX7_bestDrift_166 : decode cX7_bestDrift 166 = .ok (.iconst 1, 1) := by decide +kernel
theorem dX7_bestDrift_167 : decode cX7_bestDrift 167 = .ok (.iaload, 1) := by decide +kernel
theorem dX7_bestDrift_168 : decode cX7_bestDrift 168 = .ok (.bipush 100, 2) := by decide +kernel
theorem dX7_bestDrift_170 : decode cX7_bestDrift 170 = .ok (.iadd, 1) := by decide +kernel
theorem dX7_bestDrift_171 : decode cX7_bestDrift 171 = .ok (.imul, 1) := by decide +kernel
theorem dX7_bestDrift_172 : decode cX7_bestDrift 172 = .ok (.aload_n 0, 1) := by decide +kernel
theorem dX7_bestDrift_173 : decode cX7_bestDrift 173 = .ok (.getfield 7, 3) := by decide +kernel
theorem dX7_bestDrift_176 : decode cX7_bestDrift 176 = .ok (.iconst 2, 1) := by decide +kernel
theorem dX7_bestDrift_177 : decode cX7_bestDrift 177 = .ok (.iaload, 1) := by decide +kernel
theorem dX7_bestDrift_178 : decode cX7_bestDrift 178 = .ok (.iadd, 1) := by decide +kernel
theorem dX7_bestDrift_179 : decode cX7_bestDrift 179 = .ok (.bipush 100, 2) := by decide +kernel
theorem dX7_bestDrift_181 : decode cX7_bestDrift 181 = .ok (.iadd, 1) := by decide +kernel
theorem dX7_bestDrift_182 : decode cX7_bestDrift 182 = .ok (.goto 5, 3) := by decide +kernel
theorem dX7_bestDrift_185 : decode cX7_bestDrift 185 = .ok (.iload 4, 2) := by decide +kernel
theorem dX7_bestDrift_187 : decode cX7_bestDrift 187 = .ok (.istore 4, 2) := by decide +kernel
theorem dX7_bestDrift_189 : decode cX7_bestDrift 189 = .ok (.iload 8, 2) := by decide +kernel
theorem dX7_bestDrift_191 : decode cX7_bestDrift 191 = .ok (.ifCond .eq 8, 3) := by decide +kernel
theorem dX7_bestDrift_194 : decode cX7_bestDrift 194 = .ok (.iload 7, 2) := by decide +kernel
theorem dX7_bestDrift_196 : decode cX7_bestDrift 196 = .ok (.goto 5, 3) := by decide +kernel
theorem dX7_bestDrift_199 : decode cX7_bestDrift 199 = .ok (.iload 5, 2) := by decide +kernel
theorem dX7_bestDrift_201 : decode cX7_bestDrift 201 = .ok (.istore 5, 2) := by decide +kernel
theorem dX7_bestDrift_203 : decode cX7_bestDrift 203 = .ok (.iinc 6 1, 3) := by decide +kernel
theorem dX7_bestDrift_206 : decode cX7_bestDrift 206 = .ok (.goto (-155), 3) := by decide +kernel
theorem dX7_bestDrift_209 : decode cX7_bestDrift 209 = .ok (.aload_n 0, 1) := by decide +kernel
theorem dX7_bestDrift_210 : decode cX7_bestDrift 210 = .ok (.getfield 7, 3) := by decide +kernel
theorem dX7_bestDrift_213 : decode cX7_bestDrift 213 = .ok (.iconst 1, 1) := by decide +kernel
theorem dX7_bestDrift_214 : decode cX7_bestDrift 214 = .ok (.iload_n 2, 1) := by decide +kernel
theorem dX7_bestDrift_215 : decode cX7_bestDrift 215 = .ok (.iastore, 1) := by decide +kernel
theorem dX7_bestDrift_216 : decode cX7_bestDrift 216 = .ok (.aload_n 0, 1) := by decide +kernel
theorem dX7_bestDrift_217 : decode cX7_bestDrift 217 = .ok (.getfield 7, 3) := by decide +kernel
theorem dX7_bestDrift_220 : decode cX7_bestDrift 220 = .ok (.iconst 2, 1) := by decide +kernel
theorem dX7_bestDrift_221 : decode cX7_bestDrift 221 = .ok (.iload_n 3, 1) := by decide +kernel
theorem dX7_bestDrift_222 : decode cX7_bestDrift 222 = .ok (.iastore, 1) := by decide +kernel
theorem dX7_bestDrift_223 : decode cX7_bestDrift 223 = .ok (.iload 4, 2) := by decide +kernel
theorem dX7_bestDrift_225 : decode cX7_bestDrift 225 = .ok (.ireturn, 1) := by decide +kernel
set_option maxRecDepth 20000 in
theorem ggX7_type_X7_in : GoodIn wsX7_type wsX7_in := goodIn_r _ [7] (by decide +kernel) (by decide +kernel)
set_option maxRecDepth 20000 in
theorem gX7_type_X7_in : GoodIn wsX7_type (va_wsS RX7 39 yX7_in wsX7_in) := goodIn_app (goodIn_of _ (by decide +kernel)) ggX7_type_X7_in
theorem dX7_type_0 : decode cX7_type 0 = .ok (.aload_n 0, 1) := by decide +kernel
theorem dX7_type_1 : decode cX7_type 1 = .ok (.iload_n 1, 1) := by decide +kernel
theorem dX7_type_2 : decode cX7_type 2 = .ok (.iconst 0, 1) := by decide +kernel
theorem dX7_type_3 : decode cX7_type 3 = .ok (.bipush 127, 2) := by decide +kernel
theorem dX7_type_5 : decode cX7_type 5 = .ok (.invokestatic 39, 3) := by decide +kernel
theorem dX7_type_8 : decode cX7_type 8 = .ok (.ifCond .ne 7, 3) := by decide +kernel
theorem dX7_type_11 : decode cX7_type 11 = .ok (.iconst 1, 1) := by decide +kernel
theorem dX7_type_12 : decode cX7_type 12 = .ok (.goto 18, 3) := by decide +kernel
theorem dX7_type_15 : decode cX7_type 15 = .ok (.aload_n 0, 1) := by decide +kernel
theorem dX7_type_16 : decode cX7_type 16 = .ok (.getfield 247, 3) := by decide +kernel
theorem dX7_type_19 : decode cX7_type 19 = .ok (.sipush 150, 3) := by decide +kernel
theorem dX7_type_22 : decode cX7_type 22 = .ok (.if_icmp .ne 7, 3) := by decide +kernel
theorem dX7_type_25 : decode cX7_type 25 = .ok (.iconst 2, 1) := by decide +kernel
theorem dX7_type_26 : decode cX7_type 26 = .ok (.goto 4, 3) := by decide +kernel
theorem dX7_type_29 : decode cX7_type 29 = .ok (.iconst 0, 1) := by decide +kernel
theorem dX7_type_30 : decode cX7_type 30 = .ok (.putfield 31, 3) := by decide +kernel
theorem dX7_type_33 : decode cX7_type 33 = .ok (.aload_n 0, 1) := by decide +kernel
theorem dX7_type_34 : decode cX7_type 34 = .ok (.getfield 31, 3) := by decide +kernel
theorem dX7_type_37 : decode cX7_type 37 = .ok (.ifCond .eq 5, 3) := by decide +kernel
theorem dX7_type_40 : decode cX7_type 40 = .ok (.iconst 0, 1) := by decide +kernel
theorem dX7_type_41 : decode cX7_type 41 = .ok (.ireturn, 1) := by decide +kernel
theorem dX7_type_42 : decode cX7_type 42 = .ok (.aload_n 0, 1) := by decide +kernel
theorem dX7_type_43 : decode cX7_type 43 = .ok (.getfield 16, 3) := by decide +kernel
theorem dX7_type_46 : decode cX7_type 46 = .ok (.aload_n 0, 1) := by decide +kernel
theorem dX7_type_47 : decode cX7_type 47 = .ok (.getfield 247, 3) := by decide +kernel
theorem dX7_type_50 : decode cX7_type 50 = .ok (.iload_n 1, 1) := by decide +kernel
theorem dX7_type_51 : decode cX7_type 51 = .ok (.iastore, 1) := by decide +kernel
theorem dX7_type_52 : decode cX7_type 52 = .ok (.aload_n 0, 1) := by decide +kernel
theorem dX7_type_53 : decode cX7_type 53 = .ok (.dup, 1) := by decide +kernel
theorem dX7_type_54 : decode cX7_type 54 = .ok (.getfield 247, 3) := by decide +kernel
theorem dX7_type_57 : decode cX7_type 57 = .ok (.iconst 1, 1) := by decide +kernel
theorem dX7_type_58 : decode cX7_type 58 = .ok (.iadd, 1) := by decide +kernel
theorem dX7_type_59 : decode cX7_type 59 = .ok (.putfield 247, 3) := by decide +kernel
theorem dX7_type_62 : decode cX7_type 62 = .ok (.aload_n 0, 1) := by decide +kernel
theorem dX7_type_63 : decode cX7_type 63 = .ok (.getfield 247, 3) := by decide +kernel
theorem dX7_type_66 : decode cX7_type 66 = .ok (.ireturn, 1) := by decide +kernel
theorem dX7_clearCommands_0 : decode cX7_clearCommands 0 = .ok (.aload_n 0, 1) := by decide +kernel
theorem dX7_clearCommands_1 : decode cX7_clearCommands 1 = .ok (.iconst 0, 1) := by decide +kernel
theorem dX7_clearCommands_2 : decode cX7_clearCommands 2 = .ok (.putfield 31, 3) := by decide +kernel
theorem dX7_clearCommands_5 : decode cX7_clearCommands 5 = .ok (.aload_n 0, 1) := by decide +kernel
theorem dX7_clearCommands_6 : decode cX7_clearCommands 6 = .ok (.getfield 247, 3) := by decide +kernel
theorem dX7_clearCommands_9 : decode cX7_clearCommands 9 = .ok (.istore_n 1, 1) := by decide +kernel
theorem dX7_clearCommands_10 : decode cX7_clearCommands 10 = .ok (.aload_n 0, 1) := by decide +kernel
theorem dX7_clearCommands_11 : decode cX7_clearCommands 11 = .ok (.iconst 0, 1) := by decide +kernel
theorem dX7_clearCommands_12 : decode cX7_clearCommands 12 = .ok (.putfield 247, 3) := by decide +kernel
theorem dX7_clearCommands_15 : decode cX7_clearCommands 15 = .ok (.iload_n 1, 1) := by decide +kernel
theorem dX7_clearCommands_16 : decode cX7_clearCommands 16 = .ok (.ireturn, 1) := by decide +kernel
theorem dX7_here_0 : decode cX7_here 0 = .ok (.aload_n 0, 1) := by decide +kernel
theorem dX7_here_1 : decode cX7_here 1 = .ok (.getfield 250, 3) := by decide +kernel
theorem dX7_here_4 : decode cX7_here 4 = .ok (.aload_n 0, 1) := by decide +kernel
theorem dX7_here_5 : decode cX7_here 5 = .ok (.getfield 247, 3) := by decide +kernel
theorem dX7_here_8 : decode cX7_here 8 = .ok (.if_icmp .ge 15, 3) := by decide +kernel
theorem dX7_here_11 : decode cX7_here 11 = .ok (.aload_n 0, 1) := by decide +kernel
theorem dX7_here_12 : decode cX7_here 12 = .ok (.getfield 16, 3) := by decide +kernel
theorem dX7_here_15 : decode cX7_here 15 = .ok (.aload_n 0, 1) := by decide +kernel
theorem dX7_here_16 : decode cX7_here 16 = .ok (.getfield 250, 3) := by decide +kernel
theorem dX7_here_19 : decode cX7_here 19 = .ok (.iaload, 1) := by decide +kernel
theorem dX7_here_20 : decode cX7_here 20 = .ok (.goto 5, 3) := by decide +kernel
theorem dX7_here_23 : decode cX7_here 23 = .ok (.ldc 109, 2) := by decide +kernel
theorem dX7_here_25 : decode cX7_here 25 = .ok (.ireturn, 1) := by decide +kernel
set_option maxRecDepth 20000 in
theorem ggX7_skips_X7_here : GoodIn wsX7_skips wsX7_here := goodIn_r _ [6, 1, 7, 8, 9, 10, 11, 12, 13, 14, 15, 16, 17, 18, 19, 20, 21, 22, 23, 24, 25, 26, 27, 28] (by decide +kernel) (by decide +kernel)
set_option maxRecDepth 20000 in
theorem gX7_skips_X7_here : GoodIn wsX7_skips (wsV RX7 253 RX7 yX7_here wsX7_here) := goodIn_app (goodIn_of _ (by decide +kernel)) ggX7_skips_X7_here
theorem dX7_skips_0 : decode cX7_skips 0 = .ok (.aload_n 0, 1) := by decide +kernel
theorem dX7_skips_1 : decode cX7_skips 1 = .ok (.getfield 250, 3) := by decide +kernel
theorem dX7_skips_4 : decode cX7_skips 4 = .ok (.istore_n 1, 1) := by decide +kernel
theorem dX7_skips_5 : decode cX7_skips 5 = .ok (.aload_n 0, 1) := by decide +kernel
theorem dX7_skips_6 : decode cX7_skips 6 = .ok (.invokevirtual 253, 3) := by decide +kernel
theorem dX7_skips_9 : decode cX7_skips 9 = .ok (.bipush 32, 2) := by decide +kernel
theorem dX7_skips_11 : decode cX7_skips 11 = .ok (.if_icmp .ne 16, 3) := by decide +kernel
theorem dX7_skips_14 : decode cX7_skips 14 = .ok (.aload_n 0, 1) := by decide +kernel
theorem dX7_skips_15 : decode cX7_skips 15 = .ok (.dup, 1) := by decide +kernel
theorem dX7_skips_16 : decode cX7_skips 16 = .ok (.getfield 250, 3) := by decide +kernel
theorem dX7_skips_19 : decode cX7_skips 19 = .ok (.iconst 1, 1) := by decide +kernel
theorem dX7_skips_20 : decode cX7_skips 20 = .ok (.iadd, 1) := by decide +kernel
theorem dX7_skips_21 : decode cX7_skips 21 = .ok (.putfield 250, 3) := by decide +kernel
theorem dX7_skips_24 : decode cX7_skips 24 = .ok (.goto (-19), 3) := by decide +kernel
theorem dX7_skips_27 : decode cX7_skips 27 = .ok (.aload_n 0, 1) := by decide +kernel
theorem dX7_skips_28 : decode cX7_skips 28 = .ok (.getfield 250, 3) := by decide +kernel
theorem dX7_skips_31 : decode cX7_skips 31 = .ok (.iload_n 1, 1) := by decide +kernel
theorem dX7_skips_32 : decode cX7_skips 32 = .ok (.if_icmp .le 7, 3) := by decide +kernel
theorem dX7_skips_35 : decode cX7_skips 35 = .ok (.iconst 1, 1) := by decide +kernel
theorem dX7_skips_36 : decode cX7_skips 36 = .ok (.goto 4, 3) := by decide +kernel
theorem dX7_skips_39 : decode cX7_skips 39 = .ok (.iconst 0, 1) := by decide +kernel
theorem dX7_skips_40 : decode cX7_skips 40 = .ok (.ireturn, 1) := by decide +kernel
theorem dX7_commandOf_0 : decode cX7_commandOf 0 = .ok (.lload_n 0, 1) := by decide +kernel
theorem dX7_commandOf_1 : decode cX7_commandOf 1 = .ok (.ldc2_w 256, 3) := by decide +kernel
theorem dX7_commandOf_4 : decode cX7_commandOf 4 = .ok (.lcmp, 1) := by decide +kernel
theorem dX7_commandOf_5 : decode cX7_commandOf 5 = .ok (.ifCond .ne 7, 3) := by decide +kernel
theorem dX7_commandOf_8 : decode cX7_commandOf 8 = .ok (.iconst 0, 1) := by decide +kernel
theorem dX7_commandOf_9 : decode cX7_commandOf 9 = .ok (.goto 78, 3) := by decide +kernel
theorem dX7_commandOf_12 : decode cX7_commandOf 12 = .ok (.lload_n 0, 1) := by decide +kernel
theorem dX7_commandOf_13 : decode cX7_commandOf 13 = .ok (.ldc2_w 258, 3) := by decide +kernel
theorem dX7_commandOf_16 : decode cX7_commandOf 16 = .ok (.lcmp, 1) := by decide +kernel
theorem dX7_commandOf_17 : decode cX7_commandOf 17 = .ok (.ifCond .ne 7, 3) := by decide +kernel
theorem dX7_commandOf_20 : decode cX7_commandOf 20 = .ok (.iconst 1, 1) := by decide +kernel
theorem dX7_commandOf_21 : decode cX7_commandOf 21 = .ok (.goto 66, 3) := by decide +kernel
theorem dX7_commandOf_24 : decode cX7_commandOf 24 = .ok (.lload_n 0, 1) := by decide +kernel
theorem dX7_commandOf_25 : decode cX7_commandOf 25 = .ok (.ldc2_w 260, 3) := by decide +kernel
theorem dX7_commandOf_28 : decode cX7_commandOf 28 = .ok (.lcmp, 1) := by decide +kernel
theorem dX7_commandOf_29 : decode cX7_commandOf 29 = .ok (.ifCond .ne 7, 3) := by decide +kernel
theorem dX7_commandOf_32 : decode cX7_commandOf 32 = .ok (.iconst 2, 1) := by decide +kernel
theorem dX7_commandOf_33 : decode cX7_commandOf 33 = .ok (.goto 54, 3) := by decide +kernel
theorem dX7_commandOf_36 : decode cX7_commandOf 36 = .ok (.lload_n 0, 1) := by decide +kernel
theorem dX7_commandOf_37 : decode cX7_commandOf 37 = .ok (.ldc2_w 262, 3) := by decide +kernel
theorem dX7_commandOf_40 : decode cX7_commandOf 40 = .ok (.lcmp, 1) := by decide +kernel
theorem dX7_commandOf_41 : decode cX7_commandOf 41 = .ok (.ifCond .ne 7, 3) := by decide +kernel
theorem dX7_commandOf_44 : decode cX7_commandOf 44 = .ok (.iconst 3, 1) := by decide +kernel
theorem dX7_commandOf_45 : decode cX7_commandOf 45 = .ok (.goto 42, 3) := by decide +kernel
theorem dX7_commandOf_48 : decode cX7_commandOf 48 = .ok (.lload_n 0, 1) := by decide +kernel
theorem dX7_commandOf_49 : decode cX7_commandOf 49 = .ok (.ldc2_w 264, 3) := by decide +kernel
theorem dX7_commandOf_52 : decode cX7_commandOf 52 = .ok (.lcmp, 1) := by decide +kernel
theorem dX7_commandOf_53 : decode cX7_commandOf 53 = .ok (.ifCond .ne 7, 3) := by decide +kernel
theorem dX7_commandOf_56 : decode cX7_commandOf 56 = .ok (.iconst 4, 1) := by decide +kernel
theorem dX7_commandOf_57 : decode cX7_commandOf 57 = .ok (.goto 30, 3) := by decide +kernel
theorem dX7_commandOf_60 : decode cX7_commandOf 60 = .ok (.lload_n 0, 1) := by decide +kernel
theorem dX7_commandOf_61 : decode cX7_commandOf 61 = .ok (.ldc2_w 266, 3) := by decide +kernel
theorem dX7_commandOf_64 : decode cX7_commandOf 64 = .ok (.lcmp, 1) := by decide +kernel
theorem dX7_commandOf_65 : decode cX7_commandOf 65 = .ok (.ifCond .ne 7, 3) := by decide +kernel
theorem dX7_commandOf_68 : decode cX7_commandOf 68 = .ok (.iconst 5, 1) := by decide +kernel
theorem dX7_commandOf_69 : decode cX7_commandOf 69 = .ok (.goto 18, 3) := by decide +kernel
theorem dX7_commandOf_72 : decode cX7_commandOf 72 = .ok (.lload_n 0, 1) := by decide +kernel
theorem dX7_commandOf_73 : decode cX7_commandOf 73 = .ok (.ldc2_w 268, 3) := by decide +kernel
theorem dX7_commandOf_76 : decode cX7_commandOf 76 = .ok (.lcmp, 1) := by decide +kernel
theorem dX7_commandOf_77 : decode cX7_commandOf 77 = .ok (.ifCond .ne 8, 3) := by decide +kernel
theorem dX7_commandOf_80 : decode cX7_commandOf 80 = .ok (.bipush 6, 2) := by decide +kernel
theorem dX7_commandOf_82 : decode cX7_commandOf 82 = .ok (.goto 5, 3) := by decide +kernel
theorem dX7_commandOf_85 : decode cX7_commandOf 85 = .ok (.ldc 109, 2) := by decide +kernel
theorem dX7_commandOf_87 : decode cX7_commandOf 87 = .ok (.ireturn, 1) := by decide +kernel
set_option maxRecDepth 20000 in
theorem ggX7_readWord_X7_here : GoodIn wsX7_readWord wsX7_here := goodIn_r _ [11, 1, 12, 13, 5, 27, 28, 29, 30, 31, 32, 33, 34, 35, 36, 37, 38, 39, 40, 41, 42, 43, 44, 45] (by decide +kernel) (by decide +kernel)
set_option maxRecDepth 20000 in
theorem gX7_readWord_X7_here : GoodIn wsX7_readWord (wsV RX7 253 RX7 yX7_here wsX7_here) := goodIn_app (goodIn_of _ (by decide +kernel)) ggX7_readWord_X7_here
set_option maxRecDepth 20000 in
theorem ggX7_readWord_X7_in : GoodIn wsX7_readWord wsX7_in := goodIn_r _ [16] (by decide +kernel) (by decide +kernel)
set_option maxRecDepth 20000 in
theorem gX7_readWord_X7_in : GoodIn wsX7_readWord (va_wsS RX7 39 yX7_in wsX7_in) := goodIn_app (goodIn_of _ (by decide +kernel)) ggX7_readWord_X7_in
set_option maxRecDepth 20000 in
theorem ggX7_readWord_X7_commandOf : GoodIn wsX7_readWord wsX7_commandOf := goodIn_r _ [19, 20, 21, 22, 23, 24, 25, 26, 5] (by decide +kernel) (by decide +kernel)
set_option maxRecDepth 20000 in
theorem gX7_readWord_X7_commandOf : GoodIn wsX7_readWord (va_wsS RX7 276 yX7_commandOf wsX7_commandOf) := goodIn_app (goodIn_of _ (by decide +kernel)) ggX7_readWord_X7_commandOf
theorem dX7_readWord_0 : decode cX7_readWord 0 = .ok (.aload_n 0, 1) := by decide +kernel
theorem dX7_readWord_1 : decode cX7_readWord 1 = .ok (.getfield 250, 3) := by decide +kernel
theorem dX7_readWord_4 : decode cX7_readWord 4 = .ok (.istore_n 1, 1) := by decide +kernel
theorem dX7_readWord_5 : decode cX7_readWord 5 = .ok (.lconst 0, 1) := by decide +kernel
theorem dX7_readWord_6 : decode cX7_readWord 6 = .ok (.lstore_n 2, 1) := by decide +kernel
theorem dX7_readWord_7 : decode cX7_readWord 7 = .ok (.aload_n 0, 1) := by decide +kernel
theorem dX7_readWord_8 : decode cX7_readWord 8 = .ok (.invokevirtual 253, 3) := by decide +kernel
theorem dX7_readWord_11 : decode cX7_readWord 11 = .ok (.bipush 97, 2) := by decide +kernel
theorem dX7_readWord_13 : decode cX7_readWord 13 = .ok (.bipush 122, 2) := by decide +kernel
theorem dX7_readWord_15 : decode cX7_readWord 15 = .ok (.invokestatic 39, 3) := by decide +kernel
theorem dX7_readWord_18 : decode cX7_readWord 18 = .ok (.ifCond .eq 49, 3) := by decide +kernel
theorem dX7_readWord_21 : decode cX7_readWord 21 = .ok (.aload_n 0, 1) := by decide +kernel
theorem dX7_readWord_22 : decode cX7_readWord 22 = .ok (.getfield 250, 3) := by decide +kernel
theorem dX7_readWord_25 : decode cX7_readWord 25 = .ok (.iload_n 1, 1) := by decide +kernel
theorem dX7_readWord_26 : decode cX7_readWord 26 = .ok (.isub, 1) := by decide +kernel
theorem dX7_readWord_27 : decode cX7_readWord 27 = .ok (.bipush 7, 2) := by decide +kernel
theorem dX7_readWord_29 : decode cX7_readWord 29 = .ok (.if_icmp .ge 21, 3) := by decide +kernel
theorem dX7_readWord_32 : decode cX7_readWord 32 = .ok (.lload_n 2, 1) := by decide +kernel
theorem dX7_readWord_33 : decode cX7_readWord 33 = .ok (.ldc2_w 270, 3) := by decide +kernel
theorem dX7_readWord_36 : decode cX7_readWord 36 = .ok (.lmul, 1) := by decide +kernel
theorem dX7_readWord_37 : decode cX7_readWord 37 = .ok (.aload_n 0, 1) := by decide +kernel
theorem dX7_readWord_38 : decode cX7_readWord 38 = .ok (.invokevirtual 253, 3) := by decide +kernel
theorem dX7_readWord_41 : decode cX7_readWord 41 = .ok (.i2l, 1) := by decide +kernel
theorem dX7_readWord_42 : decode cX7_readWord 42 = .ok (.ladd, 1) := by decide +kernel
theorem dX7_readWord_43 : decode cX7_readWord 43 = .ok (.ldc2_w 272, 3) := by decide +kernel
theorem dX7_readWord_46 : decode cX7_readWord 46 = .ok (.lsub, 1) := by decide +kernel
theorem dX7_readWord_47 : decode cX7_readWord 47 = .ok (.goto 6, 3) := by decide +kernel
theorem dX7_readWord_50 : decode cX7_readWord 50 = .ok (.ldc2_w 274, 3) := by decide +kernel
theorem dX7_readWord_53 : decode cX7_readWord 53 = .ok (.lstore_n 2, 1) := by decide +kernel
theorem dX7_readWord_54 : decode cX7_readWord 54 = .ok (.aload_n 0, 1) := by decide +kernel
theorem dX7_readWord_55 : decode cX7_readWord 55 = .ok (.dup, 1) := by decide +kernel
theorem dX7_readWord_56 : decode cX7_readWord 56 = .ok (.getfield 250, 3) := by decide +kernel
theorem dX7_readWord_59 : decode cX7_readWord 59 = .ok (.iconst 1, 1) := by decide +kernel
theorem dX7_readWord_60 : decode cX7_readWord 60 = .ok (.iadd, 1) := by decide +kernel
theorem dX7_readWord_61 : decode cX7_readWord 61 = .ok (.putfield 250, 3) := by decide +kernel
theorem dX7_readWord_64 : decode cX7_readWord 64 = .ok (.goto (-57), 3) := by decide +kernel
theorem dX7_readWord_67 : decode cX7_readWord 67 = .ok (.aload_n 0, 1) := by decide +kernel
theorem dX7_readWord_68 : decode cX7_readWord 68 = .ok (.aload_n 0, 1) := by decide +kernel
theorem dX7_readWord_69 : decode cX7_readWord 69 = .ok (.getfield 250, 3) := by decide +kernel
theorem dX7_readWord_72 : decode cX7_readWord 72 = .ok (.iload_n 1, 1) := by decide +kernel
theorem dX7_readWord_73 : decode cX7_readWord 73 = .ok (.isub, 1) := by decide +kernel
theorem dX7_readWord_74 : decode cX7_readWord 74 = .ok (.bipush 6, 2) := by decide +kernel
theorem dX7_readWord_76 : decode cX7_readWord 76 = .ok (.if_icmp .le 8, 3) := by decide +kernel
theorem dX7_readWord_79 : decode cX7_readWord 79 = .ok (.ldc 109, 2) := by decide +kernel
theorem dX7_readWord_81 : decode cX7_readWord 81 = .ok (.goto 7, 3) := by decide +kernel
theorem dX7_readWord_84 : decode cX7_readWord 84 = .ok (.lload_n 2, 1) := by decide +kernel
theorem dX7_readWord_85 : decode cX7_readWord 85 = .ok (.invokestatic 276, 3) := by decide +kernel
theorem dX7_readWord_88 : decode cX7_readWord 88 = .ok (.putfield 280, 3) := by decide +kernel
theorem dX7_readWord_91 : decode cX7_readWord 91 = .ok (.aload_n 0, 1) := by decide +kernel
theorem dX7_readWord_92 : decode cX7_readWord 92 = .ok (.aload_n 0, 1) := by decide +kernel
theorem dX7_readWord_93 : decode cX7_readWord 93 = .ok (.getfield 280, 3) := by decide +kernel
theorem dX7_readWord_96 : decode cX7_readWord 96 = .ok (.ldc 109, 2) := by decide +kernel
theorem dX7_readWord_98 : decode cX7_readWord 98 = .ok (.if_icmp .ne 7, 3) := by decide +kernel
theorem dX7_readWord_101 : decode cX7_readWord 101 = .ok (.iload_n 1, 1) := by decide +kernel
theorem dX7_readWord_102 : decode cX7_readWord 102 = .ok (.goto 7, 3) := by decide +kernel
theorem dX7_readWord_105 : decode cX7_readWord 105 = .ok (.aload_n 0, 1) := by decide +kernel
theorem dX7_readWord_106 : decode cX7_readWord 106 = .ok (.getfield 250, 3) := by decide +kernel
theorem dX7_readWord_109 : decode cX7_readWord 109 = .ok (.putfield 250, 3) := by decide +kernel
theorem dX7_readWord_112 : decode cX7_readWord 112 = .ok (.aload_n 0, 1) := by decide +kernel
theorem dX7_readWord_113 : decode cX7_readWord 113 = .ok (.getfield 280, 3) := by decide +kernel
theorem dX7_readWord_116 : decode cX7_readWord 116 = .ok (.ldc 109, 2) := by decide +kernel
theorem dX7_readWord_118 : decode cX7_readWord 118 = .ok (.if_icmp .eq 7, 3) := by decide +kernel
theorem dX7_readWord_121 : decode cX7_readWord 121 = .ok (.iconst 1, 1) := by decide +kernel
theorem dX7_readWord_122 : decode cX7_readWord 122 = .ok (.goto 4, 3) := by decide +kernel
theorem dX7_readWord_125 : decode cX7_readWord 125 = .ok (.iconst 0, 1) := by decide +kernel
theorem dX7_readWord_126 : decode cX7_readWord 126 = .ok (.ireturn, 1) := by decide +kernel
set_option maxRecDepth 20000 in
theorem ggX7_readNumber_X7_skips : GoodIn wsX7_readNumber wsX7_skips := goodIn_r _ [7, 1, 8, 9, 10, 6, 11, 12, 13, 14, 18, 19, 20, 21, 22, 23, 24, 25, 26, 27, 28, 29, 30, 31, 32, 33, 34, 35, 36] (by decide +kernel) (by decide +kernel)
set_option maxRecDepth 20000 in
theorem gX7_readNumber_X7_skips : GoodIn wsX7_readNumber (wsV RX7 283 RX7 yX7_skips wsX7_skips) := goodIn_app (goodIn_of _ (by decide +kernel)) ggX7_readNumber_X7_skips
set_option maxRecDepth 20000 in
theorem ggX7_readNumber_X7_here : GoodIn wsX7_readNumber wsX7_here := goodIn_r _ [11, 1, 12, 13, 14, 18, 19, 20, 21, 22, 23, 24, 25, 26, 27, 28, 29, 30, 31, 32, 33, 34, 35, 36] (by decide +kernel) (by decide +kernel)
set_option maxRecDepth 20000 in
theorem gX7_readNumber_X7_here : GoodIn wsX7_readNumber (wsV RX7 253 RX7 yX7_here wsX7_here) := goodIn_app (goodIn_of _ (by decide +kernel)) ggX7_readNumber_X7_here
set_option maxRecDepth 20000 in
theorem ggX7_readNumber_X7_in : GoodIn wsX7_readNumber wsX7_in := goodIn_r _ [17] (by decide +kernel) (by decide +kernel)
set_option maxRecDepth 20000 in
theorem gX7_readNumber_X7_in : GoodIn wsX7_readNumber (va_wsS RX7 39 yX7_in wsX7_in) := goodIn_app (goodIn_of _ (by decide +kernel)) ggX7_readNumber_X7_in
theorem dX7_readNumber_0 : decode cX7_readNumber 0 = .ok (.aload_n 0, 1) := by decide +kernel
theorem dX7_readNumber_1 : decode cX7_readNumber 1 = .ok (.invokevirtual 283, 3) := by decide +kernel
theorem dX7_readNumber_4 : decode cX7_readNumber 4 = .ok (.ifCond .ne 5, 3) := by decide +kernel
theorem dX7_readNumber_7 : decode cX7_readNumber 7 = .ok (.iconst 0, 1) := by decide +kernel
theorem dX7_readNumber_8 : decode cX7_readNumber 8 = .ok (.ireturn, 1) := by decide +kernel
theorem dX7_readNumber_9 : decode cX7_readNumber 9 = .ok (.aload_n 0, 1) := by decide +kernel
theorem dX7_readNumber_10 : decode cX7_readNumber 10 = .ok (.getfield 250, 3) := by decide +kernel
theorem dX7_readNumber_13 : decode cX7_readNumber 13 = .ok (.istore_n 2, 1) := by decide +kernel
theorem dX7_readNumber_14 : decode cX7_readNumber 14 = .ok (.iconst 0, 1) := by decide +kernel
theorem dX7_readNumber_15 : decode cX7_readNumber 15 = .ok (.istore_n 3, 1) := by decide +kernel
theorem dX7_readNumber_16 : decode cX7_readNumber 16 = .ok (.aload_n 0, 1) := by decide +kernel
theorem dX7_readNumber_17 : decode cX7_readNumber 17 = .ok (.getfield 250, 3) := by decide +kernel
theorem dX7_readNumber_20 : decode cX7_readNumber 20 = .ok (.iload_n 2, 1) := by decide +kernel
theorem dX7_readNumber_21 : decode cX7_readNumber 21 = .ok (.bipush 6, 2) := by decide +kernel
theorem dX7_readNumber_23 : decode cX7_readNumber 23 = .ok (.iadd, 1) := by decide +kernel
theorem dX7_readNumber_24 : decode cX7_readNumber 24 = .ok (.if_icmp .ge 43, 3) := by decide +kernel
theorem dX7_readNumber_27 : decode cX7_readNumber 27 = .ok (.aload_n 0, 1) := by decide +kernel
theorem dX7_readNumber_28 : decode cX7_readNumber 28 = .ok (.invokevirtual 253, 3) := by decide +kernel
theorem dX7_readNumber_31 : decode cX7_readNumber 31 = .ok (.bipush 48, 2) := by decide +kernel
theorem dX7_readNumber_33 : decode cX7_readNumber 33 = .ok (.bipush 57, 2) := by decide +kernel
theorem dX7_readNumber_35 : decode cX7_readNumber 35 = .ok (.invokestatic 39, 3) := by decide +kernel
theorem dX7_readNumber_38 : decode cX7_readNumber 38 = .ok (.ifCond .eq 29, 3) := by decide +kernel
theorem dX7_readNumber_41 : decode cX7_readNumber 41 = .ok (.bipush 10, 2) := by decide +kernel
theorem dX7_readNumber_43 : decode cX7_readNumber 43 = .ok (.iload_n 3, 1) := by decide +kernel
theorem dX7_readNumber_44 : decode cX7_readNumber 44 = .ok (.imul, 1) := by decide +kernel
theorem dX7_readNumber_45 : decode cX7_readNumber 45 = .ok (.aload_n 0, 1) := by decide +kernel
theorem dX7_readNumber_46 : decode cX7_readNumber 46 = .ok (.invokevirtual 253, 3) := by decide +kernel
theorem dX7_readNumber_49 : decode cX7_readNumber 49 = .ok (.iadd, 1) := by decide +kernel
theorem dX7_readNumber_50 : decode cX7_readNumber 50 = .ok (.bipush 48, 2) := by decide +kernel
theorem dX7_readNumber_52 : decode cX7_readNumber 52 = .ok (.isub, 1) := by decide +kernel
theorem dX7_readNumber_53 : decode cX7_readNumber 53 = .ok (.istore_n 3, 1) := by decide +kernel
theorem dX7_readNumber_54 : decode cX7_readNumber 54 = .ok (.aload_n 0, 1) := by decide +kernel
theorem dX7_readNumber_55 : decode cX7_readNumber 55 = .ok (.dup, 1) := by decide +kernel
theorem dX7_readNumber_56 : decode cX7_readNumber 56 = .ok (.getfield 250, 3) := by decide +kernel
theorem dX7_readNumber_59 : decode cX7_readNumber 59 = .ok (.iconst 1, 1) := by decide +kernel
theorem dX7_readNumber_60 : decode cX7_readNumber 60 = .ok (.iadd, 1) := by decide +kernel
theorem dX7_readNumber_61 : decode cX7_readNumber 61 = .ok (.putfield 250, 3) := by decide +kernel
theorem dX7_readNumber_64 : decode cX7_readNumber 64 = .ok (.goto (-48), 3) := by decide +kernel
theorem dX7_readNumber_67 : decode cX7_readNumber 67 = .ok (.aload_n 0, 1) := by decide +kernel
theorem dX7_readNumber_68 : decode cX7_readNumber 68 = .ok (.getfield 28, 3) := by decide +kernel
theorem dX7_readNumber_71 : decode cX7_readNumber 71 = .ok (.iload_n 1, 1) := by decide +kernel
theorem dX7_readNumber_72 : decode cX7_readNumber 72 = .ok (.iload_n 3, 1) := by decide +kernel
theorem dX7_readNumber_73 : decode cX7_readNumber 73 = .ok (.iastore, 1) := by decide +kernel
theorem dX7_readNumber_74 : decode cX7_readNumber 74 = .ok (.aload_n 0, 1) := by decide +kernel
theorem dX7_readNumber_75 : decode cX7_readNumber 75 = .ok (.getfield 250, 3) := by decide +kernel
theorem dX7_readNumber_78 : decode cX7_readNumber 78 = .ok (.iload_n 2, 1) := by decide +kernel
theorem dX7_readNumber_79 : decode cX7_readNumber 79 = .ok (.if_icmp .le 7, 3) := by decide +kernel
theorem dX7_readNumber_82 : decode cX7_readNumber 82 = .ok (.iconst 1, 1) := by decide +kernel
theorem dX7_readNumber_83 : decode cX7_readNumber 83 = .ok (.goto 4, 3) := by decide +kernel
theorem dX7_readNumber_86 : decode cX7_readNumber 86 = .ok (.iconst 0, 1) := by decide +kernel
theorem dX7_readNumber_87 : decode cX7_readNumber 87 = .ok (.ireturn, 1) := by decide +kernel
theorem dX7_manyFor_0 : decode cX7_manyFor 0 = .ok (.aload_n 0, 1) := by decide +kernel
theorem dX7_manyFor_1 : decode cX7_manyFor 1 = .ok (.getfield 280, 3) := by decide +kernel
theorem dX7_manyFor_4 : decode cX7_manyFor 4 = .ok (.tableswitch 52 0 6 #[44, 46, 48, 52, 52, 50, 50], 44) := by decide +kernel
theorem dX7_manyFor_48 : decode cX7_manyFor 48 = .ok (.iconst 0, 1) := by decide +kernel
theorem dX7_manyFor_49 : decode cX7_manyFor 49 = .ok (.ireturn, 1) := by decide +kernel
theorem dX7_manyFor_50 : decode cX7_manyFor 50 = .ok (.iconst 4, 1) := by decide +kernel
theorem dX7_manyFor_51 : decode cX7_manyFor 51 = .ok (.ireturn, 1) := by decide +kernel
theorem dX7_manyFor_52 : decode cX7_manyFor 52 = .ok (.iconst 3, 1) := by decide +kernel
theorem dX7_manyFor_53 : decode cX7_manyFor 53 = .ok (.ireturn, 1) := by decide +kernel
theorem dX7_manyFor_54 : decode cX7_manyFor 54 = .ok (.iconst 1, 1) := by decide +kernel
theorem dX7_manyFor_55 : decode cX7_manyFor 55 = .ok (.ireturn, 1) := by decide +kernel
theorem dX7_manyFor_56 : decode cX7_manyFor 56 = .ok (.iconst 2, 1) := by decide +kernel
theorem dX7_manyFor_57 : decode cX7_manyFor 57 = .ok (.ireturn, 1) := by decide +kernel
set_option maxRecDepth 20000 in
theorem ggX7_readCommand_X7_readWord : GoodIn wsX7_readCommand wsX7_readWord := goodIn_r _ [6, 1, 7, 8, 9, 10, 11, 12, 13, 14, 5, 15, 16, 17, 18, 19, 20, 21, 22, 23, 24, 25, 26, 27, 28, 29, 30, 44, 45, 46, 47, 48, 49, 50, 51, 52, 53, 54, 55, 56, 57, 58, 59, 60, 61, 62] (by decide +kernel) (by decide +kernel)
set_option maxRecDepth 20000 in
theorem gX7_readCommand_X7_readWord : GoodIn wsX7_readCommand (wsV RX7 286 RX7 yX7_readWord wsX7_readWord) := goodIn_app (goodIn_of _ (by decide +kernel)) ggX7_readCommand_X7_readWord
set_option maxRecDepth 20000 in
theorem ggX7_readCommand_X7_manyFor : GoodIn wsX7_readCommand wsX7_manyFor := goodIn_r _ [34, 11, 44, 45, 46, 47, 48, 49, 50, 51, 52, 53, 54, 55, 56, 57, 58, 59, 60, 61, 62] (by decide +kernel) (by decide +kernel)
set_option maxRecDepth 20000 in
theorem gX7_readCommand_X7_manyFor : GoodIn wsX7_readCommand (wsV RX7 289 RX7 yX7_manyFor wsX7_manyFor) := goodIn_app (goodIn_of _ (by decide +kernel)) ggX7_readCommand_X7_manyFor
set_option maxRecDepth 20000 in
theorem ggX7_readCommand_X7_readNumber : GoodIn wsX7_readCommand wsX7_readNumber := goodIn_r _ [38, 1, 39, 40, 41, 42, 5, 43, 12, 13, 14, 15, 16, 17, 10, 18, 19, 20, 44, 45, 46, 47, 48, 49, 50, 51, 52, 53, 54, 55, 56, 57, 58, 59, 60, 61, 62] (by decide +kernel) (by decide +kernel)
set_option maxRecDepth 20000 in
theorem gX7_readCommand_X7_readNumber : GoodIn wsX7_readCommand (wsV RX7 292 RX7 yX7_readNumber wsX7_readNumber) := goodIn_app (goodIn_of _ (by decide +kernel)) ggX7_readCommand_X7_readNumber
set_option maxRecDepth 20000 in
theorem ggX7_readCommand_X7_skips : GoodIn wsX7_readCommand wsX7_skips := goodIn_r _ [43, 1, 12, 13, 14, 5, 15, 16, 17, 10, 44, 45, 46, 47, 48, 49, 50, 51, 52, 53, 54, 55, 56, 57, 58, 59, 60, 61, 62] (by decide +kernel) (by decide +kernel)
set_option maxRecDepth 20000 in
theorem gX7_readCommand_X7_skips : GoodIn wsX7_readCommand (wsV RX7 283 RX7 yX7_skips wsX7_skips) := goodIn_app (goodIn_of _ (by decide +kernel)) ggX7_readCommand_X7_skips
set_option maxRecDepth 20000 in
theorem ggX7_readCommand_X7_here : GoodIn wsX7_readCommand wsX7_here := goodIn_r _ [15, 1, 16, 17, 10, 44, 45, 46, 47, 48, 49, 50, 51, 52, 53, 54, 55, 56, 57, 58, 59, 60, 61, 62] (by decide +kernel) (by decide +kernel)
set_option maxRecDepth 20000 in
theorem gX7_readCommand_X7_here : GoodIn wsX7_readCommand (wsV RX7 253 RX7 yX7_here wsX7_here) := goodIn_app (goodIn_of _ (by decide +kernel)) ggX7_readCommand_X7_here
theorem dX7_readCommand_0 : decode cX7_readCommand 0 = .ok (.aload_n 0, 1) := by decide +kernel
theorem dX7_readCommand_1 : decode cX7_readCommand 1 = .ok (.invokevirtual 286, 3) := by decide +kernel
theorem dX7_readCommand_4 : decode cX7_readCommand 4 = .ok (.ifCond .ne 5, 3) := by decide +kernel
theorem dX7_readCommand_7 : decode cX7_readCommand 7 = .ok (.iconst 0, 1) := by decide +kernel
theorem dX7_readCommand_8 : decode cX7_readCommand 8 = .ok (.ireturn, 1) := by decide +kernel
theorem dX7_readCommand_9 : decode cX7_readCommand 9 = .ok (.iconst 0, 1) := by decide +kernel
theorem dX7_readCommand_10 : decode cX7_readCommand 10 = .ok (.istore_n 1, 1) := by decide +kernel
theorem dX7_readCommand_11 : decode cX7_readCommand 11 = .ok (.iload_n 1, 1) := by decide +kernel
theorem dX7_readCommand_12 : decode cX7_readCommand 12 = .ok (.aload_n 0, 1) := by decide +kernel
theorem dX7_readCommand_13 : decode cX7_readCommand 13 = .ok (.invokevirtual 289, 3) := by decide +kernel
theorem dX7_readCommand_16 : decode cX7_readCommand 16 = .ok (.if_icmp .ge 19, 3) := by decide +kernel
theorem dX7_readCommand_19 : decode cX7_readCommand 19 = .ok (.aload_n 0, 1) := by decide +kernel
theorem dX7_readCommand_20 : decode cX7_readCommand 20 = .ok (.iload_n 1, 1) := by decide +kernel
theorem dX7_readCommand_21 : decode cX7_readCommand 21 = .ok (.invokevirtual 292, 3) := by decide +kernel
theorem dX7_readCommand_24 : decode cX7_readCommand 24 = .ok (.ifCond .ne 5, 3) := by decide +kernel
theorem dX7_readCommand_27 : decode cX7_readCommand 27 = .ok (.iconst 0, 1) := by decide +kernel
theorem dX7_readCommand_28 : decode cX7_readCommand 28 = .ok (.ireturn, 1) := by decide +kernel
theorem dX7_readCommand_29 : decode cX7_readCommand 29 = .ok (.iinc 1 1, 3) := by decide +kernel
theorem dX7_readCommand_32 : decode cX7_readCommand 32 = .ok (.goto (-21), 3) := by decide +kernel
theorem dX7_readCommand_35 : decode cX7_readCommand 35 = .ok (.aload_n 0, 1) := by decide +kernel
theorem dX7_readCommand_36 : decode cX7_readCommand 36 = .ok (.invokevirtual 283, 3) := by decide +kernel
theorem dX7_readCommand_39 : decode cX7_readCommand 39 = .ok (.istore_n 1, 1) := by decide +kernel
theorem dX7_readCommand_40 : decode cX7_readCommand 40 = .ok (.aload_n 0, 1) := by decide +kernel
theorem dX7_readCommand_41 : decode cX7_readCommand 41 = .ok (.invokevirtual 253, 3) := by decide +kernel
theorem dX7_readCommand_44 : decode cX7_readCommand 44 = .ok (.bipush 59, 2) := by decide +kernel
theorem dX7_readCommand_46 : decode cX7_readCommand 46 = .ok (.if_icmp .eq 5, 3) := by decide +kernel
theorem dX7_readCommand_49 : decode cX7_readCommand 49 = .ok (.iconst 0, 1) := by decide +kernel
theorem dX7_readCommand_50 : decode cX7_readCommand 50 = .ok (.ireturn, 1) := by decide +kernel
theorem dX7_readCommand_51 : decode cX7_readCommand 51 = .ok (.aload_n 0, 1) := by decide +kernel
theorem dX7_readCommand_52 : decode cX7_readCommand 52 = .ok (.dup, 1) := by decide +kernel
theorem dX7_readCommand_53 : decode cX7_readCommand 53 = .ok (.getfield 250, 3) := by decide +kernel
theorem dX7_readCommand_56 : decode cX7_readCommand 56 = .ok (.iconst 1, 1) := by decide +kernel
theorem dX7_readCommand_57 : decode cX7_readCommand 57 = .ok (.iadd, 1) := by decide +kernel
theorem dX7_readCommand_58 : decode cX7_readCommand 58 = .ok (.putfield 250, 3) := by decide +kernel
theorem dX7_readCommand_61 : decode cX7_readCommand 61 = .ok (.iconst 1, 1) := by decide +kernel
theorem dX7_readCommand_62 : decode cX7_readCommand 62 = .ok (.ireturn, 1) := by decide +kernel
set_option maxRecDepth 20000 in
theorem ggX7_isText_X7_skips : GoodIn wsX7_isText wsX7_skips := goodIn_r _ [7, 1, 8, 9, 10, 6, 11, 2, 12, 13, 48, 49, 50, 51, 52, 53, 54, 55, 56, 57, 58, 59, 60, 61, 62, 63, 64, 65, 66] (by decide +kernel) (by decide +kernel)
set_option maxRecDepth 20000 in
theorem gX7_isText_X7_skips : GoodIn wsX7_isText (wsV RX7 283 RX7 yX7_skips wsX7_skips) := goodIn_app (goodIn_of _ (by decide +kernel)) ggX7_isText_X7_skips
set_option maxRecDepth 20000 in
theorem ggX7_isText_X7_readCommand : GoodIn wsX7_isText wsX7_readCommand := goodIn_r _ [17, 1, 18, 19, 20, 6, 21, 22, 23, 24, 13, 25, 8, 9, 10, 11, 2, 12, 26, 27, 28, 29, 30, 31, 32, 33, 34, 35, 36, 37, 38, 39, 40, 41, 42, 43, 44, 45, 46, 47, 3, 4, 5, 7, 48, 49, 50, 51, 52, 53, 54, 55, 56, 57, 58, 59, 60, 61, 62, 63, 64, 65, 66] (by decide +kernel) (by decide +kernel)
set_option maxRecDepth 20000 in
theorem gX7_isText_X7_readCommand : GoodIn wsX7_isText (wsV RX7 295 RX7 yX7_readCommand wsX7_readCommand) := goodIn_app (goodIn_of _ (by decide +kernel)) ggX7_isText_X7_readCommand
theorem dX7_isText_0 : decode cX7_isText 0 = .ok (.aload_n 0, 1) := by decide +kernel
theorem dX7_isText_1 : decode cX7_isText 1 = .ok (.iconst 0, 1) := by decide +kernel
theorem dX7_isText_2 : decode cX7_isText 2 = .ok (.putfield 250, 3) := by decide +kernel
theorem dX7_isText_5 : decode cX7_isText 5 = .ok (.iconst 1, 1) := by decide +kernel
theorem dX7_isText_6 : decode cX7_isText 6 = .ok (.istore_n 1, 1) := by decide +kernel
theorem dX7_isText_7 : decode cX7_isText 7 = .ok (.aload_n 0, 1) := by decide +kernel
theorem dX7_isText_8 : decode cX7_isText 8 = .ok (.invokevirtual 283, 3) := by decide +kernel
theorem dX7_isText_11 : decode cX7_isText 11 = .ok (.istore_n 2, 1) := by decide +kernel
theorem dX7_isText_12 : decode cX7_isText 12 = .ok (.iload_n 1, 1) := by decide +kernel
theorem dX7_isText_13 : decode cX7_isText 13 = .ok (.ifCond .eq 39, 3) := by decide +kernel
theorem dX7_isText_16 : decode cX7_isText 16 = .ok (.aload_n 0, 1) := by decide +kernel
theorem dX7_isText_17 : decode cX7_isText 17 = .ok (.getfield 250, 3) := by decide +kernel
theorem dX7_isText_20 : decode cX7_isText 20 = .ok (.aload_n 0, 1) := by decide +kernel
theorem dX7_isText_21 : decode cX7_isText 21 = .ok (.getfield 247, 3) := by decide +kernel
theorem dX7_isText_24 : decode cX7_isText 24 = .ok (.if_icmp .ge 28, 3) := by decide +kernel
theorem dX7_isText_27 : decode cX7_isText 27 = .ok (.aload_n 0, 1) := by decide +kernel
theorem dX7_isText_28 : decode cX7_isText 28 = .ok (.invokevirtual 295, 3) := by decide +kernel
theorem dX7_isText_31 : decode cX7_isText 31 = .ok (.istore_n 1, 1) := by decide +kernel
theorem dX7_isText_32 : decode cX7_isText 32 = .ok (.iload_n 1, 1) := by decide +kernel
theorem dX7_isText_33 : decode cX7_isText 33 = .ok (.ifCond .eq 14, 3) := by decide +kernel
theorem dX7_isText_36 : decode cX7_isText 36 = .ok (.aload_n 0, 1) := by decide +kernel
theorem dX7_isText_37 : decode cX7_isText 37 = .ok (.invokevirtual 283, 3) := by decide +kernel
theorem dX7_isText_40 : decode cX7_isText 40 = .ok (.ifCond .eq 7, 3) := by decide +kernel
theorem dX7_isText_43 : decode cX7_isText 43 = .ok (.iconst 1, 1) := by decide +kernel
theorem dX7_isText_44 : decode cX7_isText 44 = .ok (.goto 4, 3) := by decide +kernel
theorem dX7_isText_47 : decode cX7_isText 47 = .ok (.iconst 0, 1) := by decide +kernel
theorem dX7_isText_48 : decode cX7_isText 48 = .ok (.istore_n 2, 1) := by decide +kernel
theorem dX7_isText_49 : decode cX7_isText 49 = .ok (.goto (-37), 3) := by decide +kernel
theorem dX7_isText_52 : decode cX7_isText 52 = .ok (.iload_n 1, 1) := by decide +kernel
theorem dX7_isText_53 : decode cX7_isText 53 = .ok (.ireturn, 1) := by decide +kernel
set_option maxRecDepth 20000 in
theorem ggX7_whyNot_X7_notTrail : GoodIn wsX7_whyNot wsX7_notTrail := goodIn_r _ [7, 8, 60, 61, 62, 63, 64, 65, 66, 67, 68, 69, 70, 71, 72, 73, 74, 75, 76, 77, 78] (by decide +kernel) (by decide +kernel)
set_option maxRecDepth 20000 in
theorem gX7_whyNot_X7_notTrail : GoodIn wsX7_whyNot (wsV RX7 55 RX7 yX7_notTrail wsX7_notTrail) := goodIn_app (goodIn_of _ (by decide +kernel)) ggX7_whyNot_X7_notTrail
set_option maxRecDepth 20000 in
theorem ggX7_whyNot_X7_notPoint : GoodIn wsX7_whyNot wsX7_notPoint := goodIn_r _ [12, 13, 14, 15, 6, 16, 8, 17, 18, 19, 20, 21, 22, 23, 24, 25, 26, 27, 28, 29, 30, 31, 32, 33, 34, 60, 61, 62, 63, 64, 65, 66, 67, 68, 69, 70, 71, 72, 73, 74, 75, 76, 77, 78] (by decide +kernel) (by decide +kernel)
set_option maxRecDepth 20000 in
theorem gX7_whyNot_X7_notPoint : GoodIn wsX7_whyNot (wsV RX7 72 RX7 yX7_notPoint wsX7_notPoint) := goodIn_app (goodIn_of _ (by decide +kernel)) ggX7_whyNot_X7_notPoint
set_option maxRecDepth 20000 in
theorem ggX7_whyNot_X7_notStar : GoodIn wsX7_whyNot wsX7_notStar := goodIn_r _ [38, 39, 40, 8, 17, 18, 6, 19, 60, 61, 62, 63, 64, 65, 66, 67, 68, 69, 70, 71, 72, 73, 74, 75, 76, 77, 78] (by decide +kernel) (by decide +kernel)
set_option maxRecDepth 20000 in
theorem gX7_whyNot_X7_notStar : GoodIn wsX7_whyNot (wsV RX7 129 RX7 yX7_notStar wsX7_notStar) := goodIn_app (goodIn_of _ (by decide +kernel)) ggX7_whyNot_X7_notStar
set_option maxRecDepth 20000 in
theorem ggX7_whyNot_X7_notPole : GoodIn wsX7_whyNot wsX7_notPole := goodIn_r _ [43, 44, 45, 6, 46, 17, 18, 19] (by decide +kernel) (by decide +kernel)
set_option maxRecDepth 20000 in
theorem gX7_whyNot_X7_notPole : GoodIn wsX7_whyNot (va_wsS RX7 103 yX7_notPole wsX7_notPole) := goodIn_app (goodIn_of _ (by decide +kernel)) ggX7_whyNot_X7_notPole
set_option maxRecDepth 20000 in
theorem ggX7_whyNot_X7_notSet : GoodIn wsX7_whyNot wsX7_notSet := goodIn_r _ [49, 50, 51, 6, 52, 53, 39, 40, 17, 18, 19, 54, 55, 56] (by decide +kernel) (by decide +kernel)
set_option maxRecDepth 20000 in
theorem gX7_whyNot_X7_notSet : GoodIn wsX7_whyNot (va_wsS RX7 91 yX7_notSet wsX7_notSet) := goodIn_app (goodIn_of _ (by decide +kernel)) ggX7_whyNot_X7_notSet
set_option maxRecDepth 20000 in
theorem ggX7_whyNot_X7_notSearch : GoodIn wsX7_whyNot wsX7_notSearch := goodIn_r _ [59, 17, 18, 6, 19] (by decide +kernel) (by decide +kernel)
set_option maxRecDepth 20000 in
theorem gX7_whyNot_X7_notSearch : GoodIn wsX7_whyNot (va_wsS RX7 123 yX7_notSearch wsX7_notSearch) := goodIn_app (goodIn_of _ (by decide +kernel)) ggX7_whyNot_X7_notSearch
theorem dX7_whyNot_0 : decode cX7_whyNot 0 = .ok (.aload_n 0, 1) := by decide +kernel
theorem dX7_whyNot_1 : decode cX7_whyNot 1 = .ok (.getfield 280, 3) := by decide +kernel
theorem dX7_whyNot_4 : decode cX7_whyNot 4 = .ok (.tableswitch 141 0 5 #[40, 45, 74, 97, 113, 129], 40) := by decide +kernel
theorem dX7_whyNot_44 : decode cX7_whyNot 44 = .ok (.aload_n 0, 1) := by decide +kernel
theorem dX7_whyNot_45 : decode cX7_whyNot 45 = .ok (.invokevirtual 55, 3) := by decide +kernel
theorem dX7_whyNot_48 : decode cX7_whyNot 48 = .ok (.ireturn, 1) := by decide +kernel
theorem dX7_whyNot_49 : decode cX7_whyNot 49 = .ok (.aload_n 0, 1) := by decide +kernel
theorem dX7_whyNot_50 : decode cX7_whyNot 50 = .ok (.aload_n 0, 1) := by decide +kernel
theorem dX7_whyNot_51 : decode cX7_whyNot 51 = .ok (.getfield 28, 3) := by decide +kernel
theorem dX7_whyNot_54 : decode cX7_whyNot 54 = .ok (.iconst 0, 1) := by decide +kernel
theorem dX7_whyNot_55 : decode cX7_whyNot 55 = .ok (.iaload, 1) := by decide +kernel
theorem dX7_whyNot_56 : decode cX7_whyNot 56 = .ok (.aload_n 0, 1) := by decide +kernel
theorem dX7_whyNot_57 : decode cX7_whyNot 57 = .ok (.getfield 28, 3) := by decide +kernel
theorem dX7_whyNot_60 : decode cX7_whyNot 60 = .ok (.iconst 1, 1) := by decide +kernel
theorem dX7_whyNot_61 : decode cX7_whyNot 61 = .ok (.iaload, 1) := by decide +kernel
theorem dX7_whyNot_62 : decode cX7_whyNot 62 = .ok (.aload_n 0, 1) := by decide +kernel
theorem dX7_whyNot_63 : decode cX7_whyNot 63 = .ok (.getfield 28, 3) := by decide +kernel
theorem dX7_whyNot_66 : decode cX7_whyNot 66 = .ok (.iconst 2, 1) := by decide +kernel
theorem dX7_whyNot_67 : decode cX7_whyNot 67 = .ok (.iaload, 1) := by decide +kernel
theorem dX7_whyNot_68 : decode cX7_whyNot 68 = .ok (.aload_n 0, 1) := by decide +kernel
theorem dX7_whyNot_69 : decode cX7_whyNot 69 = .ok (.getfield 28, 3) := by decide +kernel
theorem dX7_whyNot_72 : decode cX7_whyNot 72 = .ok (.iconst 3, 1) := by decide +kernel
theorem dX7_whyNot_73 : decode cX7_whyNot 73 = .ok (.iaload, 1) := by decide +kernel
theorem dX7_whyNot_74 : decode cX7_whyNot 74 = .ok (.invokevirtual 72, 3) := by decide +kernel
theorem dX7_whyNot_77 : decode cX7_whyNot 77 = .ok (.ireturn, 1) := by decide +kernel
theorem dX7_whyNot_78 : decode cX7_whyNot 78 = .ok (.aload_n 0, 1) := by decide +kernel
theorem dX7_whyNot_79 : decode cX7_whyNot 79 = .ok (.aload_n 0, 1) := by decide +kernel
theorem dX7_whyNot_80 : decode cX7_whyNot 80 = .ok (.getfield 28, 3) := by decide +kernel
theorem dX7_whyNot_83 : decode cX7_whyNot 83 = .ok (.iconst 0, 1) := by decide +kernel
theorem dX7_whyNot_84 : decode cX7_whyNot 84 = .ok (.iaload, 1) := by decide +kernel
theorem dX7_whyNot_85 : decode cX7_whyNot 85 = .ok (.aload_n 0, 1) := by decide +kernel
theorem dX7_whyNot_86 : decode cX7_whyNot 86 = .ok (.getfield 28, 3) := by decide +kernel
theorem dX7_whyNot_89 : decode cX7_whyNot 89 = .ok (.iconst 1, 1) := by decide +kernel
theorem dX7_whyNot_90 : decode cX7_whyNot 90 = .ok (.iaload, 1) := by decide +kernel
theorem dX7_whyNot_91 : decode cX7_whyNot 91 = .ok (.aload_n 0, 1) := by decide +kernel
theorem dX7_whyNot_92 : decode cX7_whyNot 92 = .ok (.getfield 28, 3) := by decide +kernel
theorem dX7_whyNot_95 : decode cX7_whyNot 95 = .ok (.iconst 2, 1) := by decide +kernel
theorem dX7_whyNot_96 : decode cX7_whyNot 96 = .ok (.iaload, 1) := by decide +kernel
theorem dX7_whyNot_97 : decode cX7_whyNot 97 = .ok (.invokevirtual 129, 3) := by decide +kernel
theorem dX7_whyNot_100 : decode cX7_whyNot 100 = .ok (.ireturn, 1) := by decide +kernel
theorem dX7_whyNot_101 : decode cX7_whyNot 101 = .ok (.aload_n 0, 1) := by decide +kernel
theorem dX7_whyNot_102 : decode cX7_whyNot 102 = .ok (.getfield 28, 3) := by decide +kernel
theorem dX7_whyNot_105 : decode cX7_whyNot 105 = .ok (.iconst 0, 1) := by decide +kernel
theorem dX7_whyNot_106 : decode cX7_whyNot 106 = .ok (.iaload, 1) := by decide +kernel
theorem dX7_whyNot_107 : decode cX7_whyNot 107 = .ok (.aload_n 0, 1) := by decide +kernel
theorem dX7_whyNot_108 : decode cX7_whyNot 108 = .ok (.getfield 28, 3) := by decide +kernel
theorem dX7_whyNot_111 : decode cX7_whyNot 111 = .ok (.iconst 1, 1) := by decide +kernel
theorem dX7_whyNot_112 : decode cX7_whyNot 112 = .ok (.iaload, 1) := by decide +kernel
theorem dX7_whyNot_113 : decode cX7_whyNot 113 = .ok (.invokestatic 103, 3) := by decide +kernel
theorem dX7_whyNot_116 : decode cX7_whyNot 116 = .ok (.ireturn, 1) := by decide +kernel
theorem dX7_whyNot_117 : decode cX7_whyNot 117 = .ok (.aload_n 0, 1) := by decide +kernel
theorem dX7_whyNot_118 : decode cX7_whyNot 118 = .ok (.getfield 28, 3) := by decide +kernel
theorem dX7_whyNot_121 : decode cX7_whyNot 121 = .ok (.iconst 0, 1) := by decide +kernel
theorem dX7_whyNot_122 : decode cX7_whyNot 122 = .ok (.iaload, 1) := by decide +kernel
theorem dX7_whyNot_123 : decode cX7_whyNot 123 = .ok (.aload_n 0, 1) := by decide +kernel
theorem dX7_whyNot_124 : decode cX7_whyNot 124 = .ok (.getfield 28, 3) := by decide +kernel
theorem dX7_whyNot_127 : decode cX7_whyNot 127 = .ok (.iconst 1, 1) := by decide +kernel
theorem dX7_whyNot_128 : decode cX7_whyNot 128 = .ok (.iaload, 1) := by decide +kernel
theorem dX7_whyNot_129 : decode cX7_whyNot 129 = .ok (.invokestatic 91, 3) := by decide +kernel
theorem dX7_whyNot_132 : decode cX7_whyNot 132 = .ok (.ireturn, 1) := by decide +kernel
theorem dX7_whyNot_133 : decode cX7_whyNot 133 = .ok (.iconst 0, 1) := by decide +kernel
theorem dX7_whyNot_134 : decode cX7_whyNot 134 = .ok (.aload_n 0, 1) := by decide +kernel
theorem dX7_whyNot_135 : decode cX7_whyNot 135 = .ok (.getfield 28, 3) := by decide +kernel
theorem dX7_whyNot_138 : decode cX7_whyNot 138 = .ok (.iconst 0, 1) := by decide +kernel
theorem dX7_whyNot_139 : decode cX7_whyNot 139 = .ok (.iaload, 1) := by decide +kernel
theorem dX7_whyNot_140 : decode cX7_whyNot 140 = .ok (.ineg, 1) := by decide +kernel
theorem dX7_whyNot_141 : decode cX7_whyNot 141 = .ok (.invokestatic 91, 3) := by decide +kernel
theorem dX7_whyNot_144 : decode cX7_whyNot 144 = .ok (.ireturn, 1) := by decide +kernel
theorem dX7_whyNot_145 : decode cX7_whyNot 145 = .ok (.aload_n 0, 1) := by decide +kernel
theorem dX7_whyNot_146 : decode cX7_whyNot 146 = .ok (.getfield 28, 3) := by decide +kernel
theorem dX7_whyNot_149 : decode cX7_whyNot 149 = .ok (.iconst 0, 1) := by decide +kernel
theorem dX7_whyNot_150 : decode cX7_whyNot 150 = .ok (.iaload, 1) := by decide +kernel
theorem dX7_whyNot_151 : decode cX7_whyNot 151 = .ok (.invokestatic 123, 3) := by decide +kernel
theorem dX7_whyNot_154 : decode cX7_whyNot 154 = .ok (.ireturn, 1) := by decide +kernel
set_option maxRecDepth 20000 in
theorem ggX7_carryOut_X7_addsTrail : GoodIn wsX7_carryOut wsX7_addsTrail := goodIn_r _ [7, 8, 80, 81, 82, 83, 84, 85, 86, 87, 88, 89, 90, 91, 92, 93, 94, 95, 96, 97, 98] (by decide +kernel) (by decide +kernel)
set_option maxRecDepth 20000 in
theorem gX7_carryOut_X7_addsTrail : GoodIn wsX7_carryOut (wsV RX7 62 RX7 yX7_addsTrail wsX7_addsTrail) := goodIn_app (goodIn_of _ (by decide +kernel)) ggX7_carryOut_X7_addsTrail
set_option maxRecDepth 20000 in
theorem ggX7_carryOut_X7_addsPoint : GoodIn wsX7_carryOut wsX7_addsPoint := goodIn_r _ [12, 8, 13, 14, 15, 6, 16, 17, 18, 19, 20, 21, 22, 23, 80, 81, 82, 83, 84, 85, 86, 87, 88, 89, 90, 91, 92, 93, 94, 95, 96, 97, 98] (by decide +kernel) (by decide +kernel)
set_option maxRecDepth 20000 in
theorem gX7_carryOut_X7_addsPoint : GoodIn wsX7_carryOut (wsV RX7 76 RX7 yX7_addsPoint wsX7_addsPoint) := goodIn_app (goodIn_of _ (by decide +kernel)) ggX7_carryOut_X7_addsPoint
set_option maxRecDepth 20000 in
theorem ggX7_carryOut_X7_addsStar : GoodIn wsX7_carryOut wsX7_addsStar := goodIn_r _ [27, 8, 80, 81, 82, 83, 84, 85, 86, 87, 88, 89, 90, 91, 92, 93, 94, 95, 96, 97, 98] (by decide +kernel) (by decide +kernel)
set_option maxRecDepth 20000 in
theorem gX7_carryOut_X7_addsStar : GoodIn wsX7_carryOut (wsV RX7 133 RX7 yX7_addsStar wsX7_addsStar) := goodIn_app (goodIn_of _ (by decide +kernel)) ggX7_carryOut_X7_addsStar
set_option maxRecDepth 20000 in
theorem ggX7_carryOut_X7_setsPole : GoodIn wsX7_carryOut wsX7_setsPole := goodIn_r _ [31, 8, 32, 33, 34, 6, 35, 13, 14, 15, 16, 36, 37, 38, 39, 40, 41, 42, 43, 44, 45, 46, 47, 21, 22, 23, 17, 18, 19, 20, 48, 49, 50, 51, 52, 53, 54, 55, 56, 57, 80, 81, 82, 83, 84, 85, 86, 87, 88, 89, 90, 91, 92, 93, 94, 95, 96, 97, 98] (by decide +kernel) (by decide +kernel)
set_option maxRecDepth 20000 in
theorem gX7_carryOut_X7_setsPole : GoodIn wsX7_carryOut (wsV RX7 106 RX7 yX7_setsPole wsX7_setsPole) := goodIn_app (goodIn_of _ (by decide +kernel)) ggX7_carryOut_X7_setsPole
set_option maxRecDepth 20000 in
theorem ggX7_carryOut_X7_sets : GoodIn wsX7_carryOut wsX7_sets := goodIn_r _ [61, 8, 80, 81, 82, 83, 84, 85, 86, 87, 88, 89, 90, 91, 92, 93, 94, 95, 96, 97, 98] (by decide +kernel) (by decide +kernel)
set_option maxRecDepth 20000 in
theorem gX7_carryOut_X7_sets : GoodIn wsX7_carryOut (wsV RX7 94 RX7 yX7_sets wsX7_sets) := goodIn_app (goodIn_of _ (by decide +kernel)) ggX7_carryOut_X7_sets
set_option maxRecDepth 20000 in
theorem ggX7_carryOut_X7_searches : GoodIn wsX7_carryOut wsX7_searches := goodIn_r _ [65, 66, 67, 68, 69, 32, 33, 34, 6, 35, 8, 13, 14, 15, 16, 36, 37, 38, 39, 40, 41, 42, 43, 44, 45, 46, 47, 21, 22, 23, 17, 18, 19, 20, 48, 49, 50, 51, 52, 53, 54, 55, 56, 57, 70, 71, 72, 73, 74, 75, 76, 77, 78, 79, 28, 29, 30, 31, 80, 81, 82, 83, 84, 85, 86, 87, 88, 89, 90, 91, 92, 93, 94, 95, 96, 97, 98] (by decide +kernel) (by decide +kernel)
set_option maxRecDepth 20000 in
theorem gX7_carryOut_X7_searches : GoodIn wsX7_carryOut (wsV RX7 126 RX7 yX7_searches wsX7_searches) := goodIn_app (goodIn_of _ (by decide +kernel)) ggX7_carryOut_X7_searches
theorem dX7_carryOut_0 : decode cX7_carryOut 0 = .ok (.aload_n 0, 1) := by decide +kernel
theorem dX7_carryOut_1 : decode cX7_carryOut 1 = .ok (.getfield 280, 3) := by decide +kernel
theorem dX7_carryOut_4 : decode cX7_carryOut 4 = .ok (.tableswitch 144 0 5 #[40, 45, 74, 97, 114, 131], 40) := by decide +kernel
theorem dX7_carryOut_44 : decode cX7_carryOut 44 = .ok (.aload_n 0, 1) := by decide +kernel
theorem dX7_carryOut_45 : decode cX7_carryOut 45 = .ok (.invokevirtual 62, 3) := by decide +kernel
theorem dX7_carryOut_48 : decode cX7_carryOut 48 = .ok (.ireturn, 1) := by decide +kernel
theorem dX7_carryOut_49 : decode cX7_carryOut 49 = .ok (.aload_n 0, 1) := by decide +kernel
theorem dX7_carryOut_50 : decode cX7_carryOut 50 = .ok (.aload_n 0, 1) := by decide +kernel
theorem dX7_carryOut_51 : decode cX7_carryOut 51 = .ok (.getfield 28, 3) := by decide +kernel
theorem dX7_carryOut_54 : decode cX7_carryOut 54 = .ok (.iconst 0, 1) := by decide +kernel
theorem dX7_carryOut_55 : decode cX7_carryOut 55 = .ok (.iaload, 1) := by decide +kernel
theorem dX7_carryOut_56 : decode cX7_carryOut 56 = .ok (.aload_n 0, 1) := by decide +kernel
theorem dX7_carryOut_57 : decode cX7_carryOut 57 = .ok (.getfield 28, 3) := by decide +kernel
theorem dX7_carryOut_60 : decode cX7_carryOut 60 = .ok (.iconst 1, 1) := by decide +kernel
theorem dX7_carryOut_61 : decode cX7_carryOut 61 = .ok (.iaload, 1) := by decide +kernel
theorem dX7_carryOut_62 : decode cX7_carryOut 62 = .ok (.aload_n 0, 1) := by decide +kernel
theorem dX7_carryOut_63 : decode cX7_carryOut 63 = .ok (.getfield 28, 3) := by decide +kernel
theorem dX7_carryOut_66 : decode cX7_carryOut 66 = .ok (.iconst 2, 1) := by decide +kernel
theorem dX7_carryOut_67 : decode cX7_carryOut 67 = .ok (.iaload, 1) := by decide +kernel
theorem dX7_carryOut_68 : decode cX7_carryOut 68 = .ok (.aload_n 0, 1) := by decide +kernel
theorem dX7_carryOut_69 : decode cX7_carryOut 69 = .ok (.getfield 28, 3) := by decide +kernel
theorem dX7_carryOut_72 : decode cX7_carryOut 72 = .ok (.iconst 3, 1) := by decide +kernel
theorem dX7_carryOut_73 : decode cX7_carryOut 73 = .ok (.iaload, 1) := by decide +kernel
theorem dX7_carryOut_74 : decode cX7_carryOut 74 = .ok (.invokevirtual 76, 3) := by decide +kernel
theorem dX7_carryOut_77 : decode cX7_carryOut 77 = .ok (.ireturn, 1) := by decide +kernel
theorem dX7_carryOut_78 : decode cX7_carryOut 78 = .ok (.aload_n 0, 1) := by decide +kernel
theorem dX7_carryOut_79 : decode cX7_carryOut 79 = .ok (.aload_n 0, 1) := by decide +kernel
theorem dX7_carryOut_80 : decode cX7_carryOut 80 = .ok (.getfield 28, 3) := by decide +kernel
theorem dX7_carryOut_83 : decode cX7_carryOut 83 = .ok (.iconst 0, 1) := by decide +kernel
theorem dX7_carryOut_84 : decode cX7_carryOut 84 = .ok (.iaload, 1) := by decide +kernel
theorem dX7_carryOut_85 : decode cX7_carryOut 85 = .ok (.aload_n 0, 1) := by decide +kernel
theorem dX7_carryOut_86 : decode cX7_carryOut 86 = .ok (.getfield 28, 3) := by decide +kernel
theorem dX7_carryOut_89 : decode cX7_carryOut 89 = .ok (.iconst 1, 1) := by decide +kernel
theorem dX7_carryOut_90 : decode cX7_carryOut 90 = .ok (.iaload, 1) := by decide +kernel
theorem dX7_carryOut_91 : decode cX7_carryOut 91 = .ok (.aload_n 0, 1) := by decide +kernel
theorem dX7_carryOut_92 : decode cX7_carryOut 92 = .ok (.getfield 28, 3) := by decide +kernel
theorem dX7_carryOut_95 : decode cX7_carryOut 95 = .ok (.iconst 2, 1) := by decide +kernel
theorem dX7_carryOut_96 : decode cX7_carryOut 96 = .ok (.iaload, 1) := by decide +kernel
theorem dX7_carryOut_97 : decode cX7_carryOut 97 = .ok (.invokevirtual 133, 3) := by decide +kernel
theorem dX7_carryOut_100 : decode cX7_carryOut 100 = .ok (.ireturn, 1) := by decide +kernel
theorem dX7_carryOut_101 : decode cX7_carryOut 101 = .ok (.aload_n 0, 1) := by decide +kernel
theorem dX7_carryOut_102 : decode cX7_carryOut 102 = .ok (.aload_n 0, 1) := by decide +kernel
theorem dX7_carryOut_103 : decode cX7_carryOut 103 = .ok (.getfield 28, 3) := by decide +kernel
theorem dX7_carryOut_106 : decode cX7_carryOut 106 = .ok (.iconst 0, 1) := by decide +kernel
theorem dX7_carryOut_107 : decode cX7_carryOut 107 = .ok (.iaload, 1) := by decide +kernel
theorem dX7_carryOut_108 : decode cX7_carryOut 108 = .ok (.aload_n 0, 1) := by decide +kernel
theorem dX7_carryOut_109 : decode cX7_carryOut 109 = .ok (.getfield 28, 3) := by decide +kernel
theorem dX7_carryOut_112 : decode cX7_carryOut 112 = .ok (.iconst 1, 1) := by decide +kernel
theorem dX7_carryOut_113 : decode cX7_carryOut 113 = .ok (.iaload, 1) := by decide +kernel
theorem dX7_carryOut_114 : decode cX7_carryOut 114 = .ok (.invokevirtual 106, 3) := by decide +kernel
theorem dX7_carryOut_117 : decode cX7_carryOut 117 = .ok (.ireturn, 1) := by decide +kernel
theorem dX7_carryOut_118 : decode cX7_carryOut 118 = .ok (.aload_n 0, 1) := by decide +kernel
theorem dX7_carryOut_119 : decode cX7_carryOut 119 = .ok (.aload_n 0, 1) := by decide +kernel
theorem dX7_carryOut_120 : decode cX7_carryOut 120 = .ok (.getfield 28, 3) := by decide +kernel
theorem dX7_carryOut_123 : decode cX7_carryOut 123 = .ok (.iconst 0, 1) := by decide +kernel
theorem dX7_carryOut_124 : decode cX7_carryOut 124 = .ok (.iaload, 1) := by decide +kernel
theorem dX7_carryOut_125 : decode cX7_carryOut 125 = .ok (.aload_n 0, 1) := by decide +kernel
theorem dX7_carryOut_126 : decode cX7_carryOut 126 = .ok (.getfield 28, 3) := by decide +kernel
theorem dX7_carryOut_129 : decode cX7_carryOut 129 = .ok (.iconst 1, 1) := by decide +kernel
theorem dX7_carryOut_130 : decode cX7_carryOut 130 = .ok (.iaload, 1) := by decide +kernel
theorem dX7_carryOut_131 : decode cX7_carryOut 131 = .ok (.invokevirtual 94, 3) := by decide +kernel
theorem dX7_carryOut_134 : decode cX7_carryOut 134 = .ok (.ireturn, 1) := by decide +kernel
theorem dX7_carryOut_135 : decode cX7_carryOut 135 = .ok (.aload_n 0, 1) := by decide +kernel
theorem dX7_carryOut_136 : decode cX7_carryOut 136 = .ok (.iconst 0, 1) := by decide +kernel
theorem dX7_carryOut_137 : decode cX7_carryOut 137 = .ok (.aload_n 0, 1) := by decide +kernel
theorem dX7_carryOut_138 : decode cX7_carryOut 138 = .ok (.getfield 28, 3) := by decide +kernel
theorem dX7_carryOut_141 : decode cX7_carryOut 141 = .ok (.iconst 0, 1) := by decide +kernel
theorem dX7_carryOut_142 : decode cX7_carryOut 142 = .ok (.iaload, 1) := by decide +kernel
theorem dX7_carryOut_143 : decode cX7_carryOut 143 = .ok (.ineg, 1) := by decide +kernel
theorem dX7_carryOut_144 : decode cX7_carryOut 144 = .ok (.invokevirtual 94, 3) := by decide +kernel
theorem dX7_carryOut_147 : decode cX7_carryOut 147 = .ok (.ireturn, 1) := by decide +kernel
theorem dX7_carryOut_148 : decode cX7_carryOut 148 = .ok (.aload_n 0, 1) := by decide +kernel
theorem dX7_carryOut_149 : decode cX7_carryOut 149 = .ok (.aload_n 0, 1) := by decide +kernel
theorem dX7_carryOut_150 : decode cX7_carryOut 150 = .ok (.getfield 28, 3) := by decide +kernel
theorem dX7_carryOut_153 : decode cX7_carryOut 153 = .ok (.iconst 0, 1) := by decide +kernel
theorem dX7_carryOut_154 : decode cX7_carryOut 154 = .ok (.iaload, 1) := by decide +kernel
theorem dX7_carryOut_155 : decode cX7_carryOut 155 = .ok (.invokevirtual 126, 3) := by decide +kernel
theorem dX7_carryOut_158 : decode cX7_carryOut 158 = .ok (.ireturn, 1) := by decide +kernel
set_option maxRecDepth 20000 in
theorem ggX7_runCommands_X7_isText : GoodIn wsX7_runCommands wsX7_isText := goodIn_r _ [9, 2, 4, 10, 11, 12, 8, 13, 14, 15, 16, 17, 18, 19, 20, 21, 22, 23, 24, 25, 26, 27, 28, 29, 30, 31, 32, 33, 34, 35, 36, 37, 38, 39, 40, 41, 42, 43, 44, 45, 46, 47, 48, 49, 50, 51, 52, 53, 178, 179, 180, 181, 182, 183, 184, 185, 186, 187, 188, 189, 190, 191, 192, 193, 194, 195, 196] (by decide +kernel) (by decide +kernel)
set_option maxRecDepth 20000 in
theorem gX7_runCommands_X7_isText : GoodIn wsX7_runCommands (wsV RX7 298 RX7 yX7_isText wsX7_isText) := goodIn_app (goodIn_of _ (by decide +kernel)) ggX7_runCommands_X7_isText
set_option maxRecDepth 20000 in
theorem ggX7_runCommands_X7_keep : GoodIn wsX7_runCommands wsX7_keep := goodIn_r _ [57, 58, 59, 60, 178, 179, 180, 181, 182, 183, 184, 185, 186, 187, 188, 189, 190, 191, 192, 193, 194, 195, 196] (by decide +kernel) (by decide +kernel)
set_option maxRecDepth 20000 in
theorem gX7_runCommands_X7_keep : GoodIn wsX7_runCommands (wsV RX7 59 RX7 yX7_keep wsX7_keep) := goodIn_app (goodIn_of _ (by decide +kernel)) ggX7_runCommands_X7_keep
set_option maxRecDepth 20000 in
theorem ggX7_runCommands_X7_skips : GoodIn wsX7_runCommands wsX7_skips := goodIn_r _ [13, 2, 14, 15, 16, 8, 17, 4, 18, 19, 178, 179, 180, 181, 182, 183, 184, 185, 186, 187, 188, 189, 190, 191, 192, 193, 194, 195, 196] (by decide +kernel) (by decide +kernel)
set_option maxRecDepth 20000 in
theorem gX7_runCommands_X7_skips : GoodIn wsX7_runCommands (wsV RX7 283 RX7 yX7_skips wsX7_skips) := goodIn_app (goodIn_of _ (by decide +kernel)) ggX7_runCommands_X7_skips
set_option maxRecDepth 20000 in
theorem ggX7_runCommands_X7_readCommand : GoodIn wsX7_runCommands wsX7_readCommand := goodIn_r _ [23, 2, 24, 25, 26, 8, 27, 28, 29, 30, 19, 31, 14, 15, 16, 17, 4, 18, 32, 33, 34, 35, 36, 37, 38, 39, 40, 41, 42, 43, 44, 45, 46, 47, 48, 49, 50, 51, 52, 53, 10, 11, 12, 13, 178, 179, 180, 181, 182, 183, 184, 185, 186, 187, 188, 189, 190, 191, 192, 193, 194, 195, 196] (by decide +kernel) (by decide +kernel)
set_option maxRecDepth 20000 in
theorem gX7_runCommands_X7_readCommand : GoodIn wsX7_runCommands (wsV RX7 295 RX7 yX7_readCommand wsX7_readCommand) := goodIn_app (goodIn_of _ (by decide +kernel)) ggX7_runCommands_X7_readCommand
set_option maxRecDepth 20000 in
theorem ggX7_runCommands_X7_whyNot : GoodIn wsX7_runCommands wsX7_whyNot := goodIn_r _ [64, 31, 53, 65, 66, 67, 8, 68, 60, 69, 70, 71, 72, 73, 74, 75, 76, 32, 33, 34, 77, 78, 79, 80, 81, 82, 83, 84, 85, 86, 87, 88, 89, 90, 91, 92, 93, 94, 95, 96, 97, 98, 99, 100, 101, 102, 103, 104, 105, 106, 107, 108, 109, 110, 111, 112, 113, 114, 115, 116, 178, 179, 180, 181, 182, 183, 184, 185, 186, 187, 188, 189, 190, 191, 192, 193, 194, 195, 196] (by decide +kernel) (by decide +kernel)
set_option maxRecDepth 20000 in
theorem gX7_runCommands_X7_whyNot : GoodIn wsX7_runCommands (wsV RX7 304 RX7 yX7_whyNot wsX7_whyNot) := goodIn_app (goodIn_of _ (by decide +kernel)) ggX7_runCommands_X7_whyNot
set_option maxRecDepth 20000 in
theorem ggX7_runCommands_X7_carryOut : GoodIn wsX7_runCommands wsX7_carryOut := goodIn_r _ [120, 31, 53, 121, 122, 123, 8, 124, 60, 125, 126, 127, 128, 77, 78, 79, 80, 85, 86, 87, 88, 89, 90, 91, 129, 130, 131, 132, 133, 134, 135, 136, 137, 138, 139, 140, 141, 142, 143, 144, 145, 146, 147, 148, 149, 150, 151, 152, 153, 154, 155, 156, 157, 158, 159, 160, 161, 162, 163, 164, 165, 166, 167, 168, 169, 170, 171, 19, 172, 173, 174, 175, 176, 177, 101, 102, 103, 32, 33, 34, 178, 179, 180, 181, 182, 183, 184, 185, 186, 187, 188, 189, 190, 191, 192, 193, 194, 195, 196] (by decide +kernel) (by decide +kernel)
set_option maxRecDepth 20000 in
theorem gX7_runCommands_X7_carryOut : GoodIn wsX7_runCommands (wsV RX7 307 RX7 yX7_carryOut wsX7_carryOut) := goodIn_app (goodIn_of _ (by decide +kernel)) ggX7_runCommands_X7_carryOut
theorem dX7_runCommands_0 : decode cX7_runCommands 0 = .ok (.aload_n 0, 1) := by decide +kernel
theorem dX7_runCommands_1 : decode cX7_runCommands 1 = .ok (.iconst 0, 1) := by decide +kernel
theorem dX7_runCommands_2 : decode cX7_runCommands 2 = .ok (.putfield 31, 3) := by decide +kernel
theorem dX7_runCommands_5 : decode cX7_runCommands 5 = .ok (.aload_n 0, 1) := by decide +kernel
theorem dX7_runCommands_6 : decode cX7_runCommands 6 = .ok (.invokevirtual 298, 3) := by decide +kernel
theorem dX7_runCommands_9 : decode cX7_runCommands 9 = .ok (.ifCond .ne 11, 3) := by decide +kernel
theorem dX7_runCommands_12 : decode cX7_runCommands 12 = .ok (.bipush (-10), 2) := by decide +kernel
theorem dX7_runCommands_14 : decode cX7_runCommands 14 = .ok (.aload_n 0, 1) := by decide +kernel
theorem dX7_runCommands_15 : decode cX7_runCommands 15 = .ok (.getfield 250, 3) := by decide +kernel
theorem dX7_runCommands_18 : decode cX7_runCommands 18 = .ok (.isub, 1) := by decide +kernel
theorem dX7_runCommands_19 : decode cX7_runCommands 19 = .ok (.ireturn, 1) := by decide +kernel
theorem dX7_runCommands_20 : decode cX7_runCommands 20 = .ok (.aload_n 0, 1) := by decide +kernel
theorem dX7_runCommands_21 : decode cX7_runCommands 21 = .ok (.invokevirtual 59, 3) := by decide +kernel
theorem dX7_runCommands_24 : decode cX7_runCommands 24 = .ok (.aload_n 0, 1) := by decide +kernel
theorem dX7_runCommands_25 : decode cX7_runCommands 25 = .ok (.iconst 0, 1) := by decide +kernel
theorem dX7_runCommands_26 : decode cX7_runCommands 26 = .ok (.putfield 250, 3) := by decide +kernel
theorem dX7_runCommands_29 : decode cX7_runCommands 29 = .ok (.aload_n 0, 1) := by decide +kernel
theorem dX7_runCommands_30 : decode cX7_runCommands 30 = .ok (.iconst 0, 1) := by decide +kernel
theorem dX7_runCommands_31 : decode cX7_runCommands 31 = .ok (.putfield 301, 3) := by decide +kernel
theorem dX7_runCommands_34 : decode cX7_runCommands 34 = .ok (.iconst 0, 1) := by decide +kernel
theorem dX7_runCommands_35 : decode cX7_runCommands 35 = .ok (.istore_n 1, 1) := by decide +kernel
theorem dX7_runCommands_36 : decode cX7_runCommands 36 = .ok (.aload_n 0, 1) := by decide +kernel
theorem dX7_runCommands_37 : decode cX7_runCommands 37 = .ok (.invokevirtual 283, 3) := by decide +kernel
theorem dX7_runCommands_40 : decode cX7_runCommands 40 = .ok (.istore_n 2, 1) := by decide +kernel
theorem dX7_runCommands_41 : decode cX7_runCommands 41 = .ok (.aload_n 0, 1) := by decide +kernel
theorem dX7_runCommands_42 : decode cX7_runCommands 42 = .ok (.getfield 301, 3) := by decide +kernel
theorem dX7_runCommands_45 : decode cX7_runCommands 45 = .ok (.ifCond .ne 52, 3) := by decide +kernel
theorem dX7_runCommands_48 : decode cX7_runCommands 48 = .ok (.aload_n 0, 1) := by decide +kernel
theorem dX7_runCommands_49 : decode cX7_runCommands 49 = .ok (.getfield 250, 3) := by decide +kernel
theorem dX7_runCommands_52 : decode cX7_runCommands 52 = .ok (.aload_n 0, 1) := by decide +kernel
theorem dX7_runCommands_53 : decode cX7_runCommands 53 = .ok (.getfield 247, 3) := by decide +kernel
theorem dX7_runCommands_56 : decode cX7_runCommands 56 = .ok (.if_icmp .ge 41, 3) := by decide +kernel
theorem dX7_runCommands_59 : decode cX7_runCommands 59 = .ok (.aload_n 0, 1) := by decide +kernel
theorem dX7_runCommands_60 : decode cX7_runCommands 60 = .ok (.invokevirtual 295, 3) := by decide +kernel
theorem dX7_runCommands_63 : decode cX7_runCommands 63 = .ok (.ifCond .eq 34, 3) := by decide +kernel
theorem dX7_runCommands_66 : decode cX7_runCommands 66 = .ok (.aload_n 0, 1) := by decide +kernel
theorem dX7_runCommands_67 : decode cX7_runCommands 67 = .ok (.aload_n 0, 1) := by decide +kernel
theorem dX7_runCommands_68 : decode cX7_runCommands 68 = .ok (.invokevirtual 304, 3) := by decide +kernel
theorem dX7_runCommands_71 : decode cX7_runCommands 71 = .ok (.putfield 301, 3) := by decide +kernel
theorem dX7_runCommands_74 : decode cX7_runCommands 74 = .ok (.aload_n 0, 1) := by decide +kernel
theorem dX7_runCommands_75 : decode cX7_runCommands 75 = .ok (.getfield 301, 3) := by decide +kernel
theorem dX7_runCommands_78 : decode cX7_runCommands 78 = .ok (.ifCond .ne 11, 3) := by decide +kernel
theorem dX7_runCommands_81 : decode cX7_runCommands 81 = .ok (.aload_n 0, 1) := by decide +kernel
theorem dX7_runCommands_82 : decode cX7_runCommands 82 = .ok (.invokevirtual 307, 3) := by decide +kernel
theorem dX7_runCommands_85 : decode cX7_runCommands 85 = .ok (.istore_n 3, 1) := by decide +kernel
theorem dX7_runCommands_86 : decode cX7_runCommands 86 = .ok (.iinc 1 1, 3) := by decide +kernel
theorem dX7_runCommands_89 : decode cX7_runCommands 89 = .ok (.aload_n 0, 1) := by decide +kernel
theorem dX7_runCommands_90 : decode cX7_runCommands 90 = .ok (.invokevirtual 283, 3) := by decide +kernel
theorem dX7_runCommands_93 : decode cX7_runCommands 93 = .ok (.istore_n 2, 1) := by decide +kernel
theorem dX7_runCommands_94 : decode cX7_runCommands 94 = .ok (.goto (-53), 3) := by decide +kernel
theorem dX7_runCommands_97 : decode cX7_runCommands 97 = .ok (.iload_n 1, 1) := by decide +kernel
theorem dX7_runCommands_98 : decode cX7_runCommands 98 = .ok (.ireturn, 1) := by decide +kernel
theorem dX7_stop_0 : decode cX7_stop 0 = .ok (.aload_n 0, 1) := by decide +kernel
theorem dX7_stop_1 : decode cX7_stop 1 = .ok (.iconst 0, 1) := by decide +kernel
theorem dX7_stop_2 : decode cX7_stop 2 = .ok (.putfield 31, 3) := by decide +kernel
theorem dX7_stop_5 : decode cX7_stop 5 = .ok (.aload_n 0, 1) := by decide +kernel
theorem dX7_stop_6 : decode cX7_stop 6 = .ok (.getfield 301, 3) := by decide +kernel
theorem dX7_stop_9 : decode cX7_stop 9 = .ok (.ireturn, 1) := by decide +kernel
theorem dX7_undo_0 : decode cX7_undo 0 = .ok (.aload_n 0, 1) := by decide +kernel
theorem dX7_undo_1 : decode cX7_undo 1 = .ok (.aload_n 0, 1) := by decide +kernel
theorem dX7_undo_2 : decode cX7_undo 2 = .ok (.getfield 36, 3) := by decide +kernel
theorem dX7_undo_5 : decode cX7_undo 5 = .ok (.ifCond .ne 7, 3) := by decide +kernel
theorem dX7_undo_8 : decode cX7_undo 8 = .ok (.iconst 1, 1) := by decide +kernel
theorem dX7_undo_9 : decode cX7_undo 9 = .ok (.goto 4, 3) := by decide +kernel
theorem dX7_undo_12 : decode cX7_undo 12 = .ok (.iconst 0, 1) := by decide +kernel
theorem dX7_undo_13 : decode cX7_undo 13 = .ok (.putfield 31, 3) := by decide +kernel
theorem dX7_undo_16 : decode cX7_undo 16 = .ok (.aload_n 0, 1) := by decide +kernel
theorem dX7_undo_17 : decode cX7_undo 17 = .ok (.getfield 31, 3) := by decide +kernel
theorem dX7_undo_20 : decode cX7_undo 20 = .ok (.ifCond .eq 5, 3) := by decide +kernel
theorem dX7_undo_23 : decode cX7_undo 23 = .ok (.iconst 0, 1) := by decide +kernel
theorem dX7_undo_24 : decode cX7_undo 24 = .ok (.ireturn, 1) := by decide +kernel
theorem dX7_undo_25 : decode cX7_undo 25 = .ok (.aload_n 0, 1) := by decide +kernel
theorem dX7_undo_26 : decode cX7_undo 26 = .ok (.dup, 1) := by decide +kernel
theorem dX7_undo_27 : decode cX7_undo 27 = .ok (.getfield 36, 3) := by decide +kernel
theorem dX7_undo_30 : decode cX7_undo 30 = .ok (.iconst 1, 1) := by decide +kernel
theorem dX7_undo_31 : decode cX7_undo 31 = .ok (.isub, 1) := by decide +kernel
theorem dX7_undo_32 : decode cX7_undo 32 = .ok (.putfield 36, 3) := by decide +kernel
theorem dX7_undo_35 : decode cX7_undo 35 = .ok (.iconst 0, 1) := by decide +kernel
theorem dX7_undo_36 : decode cX7_undo 36 = .ok (.istore_n 1, 1) := by decide +kernel
theorem dX7_undo_37 : decode cX7_undo 37 = .ok (.iload_n 1, 1) := by decide +kernel
theorem dX7_undo_38 : decode cX7_undo 38 = .ok (.sipush 494, 3) := by decide +kernel
theorem dX7_undo_41 : decode cX7_undo 41 = .ok (.if_icmp .ge 30, 3) := by decide +kernel
theorem dX7_undo_44 : decode cX7_undo 44 = .ok (.aload_n 0, 1) := by decide +kernel
theorem dX7_undo_45 : decode cX7_undo 45 = .ok (.getfield 7, 3) := by decide +kernel
theorem dX7_undo_48 : decode cX7_undo 48 = .ok (.iload_n 1, 1) := by decide +kernel
theorem dX7_undo_49 : decode cX7_undo 49 = .ok (.aload_n 0, 1) := by decide +kernel
theorem dX7_undo_50 : decode cX7_undo 50 = .ok (.getfield 13, 3) := by decide +kernel
theorem dX7_undo_53 : decode cX7_undo 53 = .ok (.sipush 494, 3) := by decide +kernel
theorem dX7_undo_56 : decode cX7_undo 56 = .ok (.aload_n 0, 1) := by decide +kernel
theorem dX7_undo_57 : decode cX7_undo 57 = .ok (.getfield 36, 3) := by decide +kernel
theorem dX7_undo_60 : decode cX7_undo 60 = .ok (.imul, 1) := by decide +kernel
theorem dX7_undo_61 : decode cX7_undo 61 = .ok (.iload_n 1, 1) := by decide +kernel
theorem dX7_undo_62 : decode cX7_undo 62 = .ok (.iadd, 1) := by decide +kernel
theorem dX7_undo_63 : decode cX7_undo 63 = .ok (.iaload, 1) := by decide +kernel
theorem dX7_undo_64 : decode cX7_undo 64 = .ok (.iastore, 1) := by decide +kernel
theorem dX7_undo_65 : decode cX7_undo 65 = .ok (.iinc 1 1, 3) := by decide +kernel
theorem dX7_undo_68 : decode cX7_undo 68 = .ok (.goto (-31), 3) := by decide +kernel
theorem dX7_undo_71 : decode cX7_undo 71 = .ok (.aload_n 0, 1) := by decide +kernel
theorem dX7_undo_72 : decode cX7_undo 72 = .ok (.getfield 36, 3) := by decide +kernel
theorem dX7_undo_75 : decode cX7_undo 75 = .ok (.ireturn, 1) := by decide +kernel
theorem dX7_mix_0 : decode cX7_mix 0 = .ok (.aload_n 0, 1) := by decide +kernel
theorem dX7_mix_1 : decode cX7_mix 1 = .ok (.ldc2_w 310, 3) := by decide +kernel
theorem dX7_mix_4 : decode cX7_mix 4 = .ok (.aload_n 0, 1) := by decide +kernel
theorem dX7_mix_5 : decode cX7_mix 5 = .ok (.getfield 312, 3) := by decide +kernel
theorem dX7_mix_8 : decode cX7_mix 8 = .ok (.lmul, 1) := by decide +kernel
theorem dX7_mix_9 : decode cX7_mix 9 = .ok (.lload_n 1, 1) := by decide +kernel
theorem dX7_mix_10 : decode cX7_mix 10 = .ok (.ladd, 1) := by decide +kernel
theorem dX7_mix_11 : decode cX7_mix 11 = .ok (.putfield 312, 3) := by decide +kernel
theorem dX7_mix_14 : decode cX7_mix 14 = .ok (.return_, 1) := by decide +kernel
set_option maxRecDepth 20000 in
theorem ggX7_mixTrail_X7_trailOfWhat : GoodIn wsX7_mixTrail wsX7_trailOfWhat := goodIn_r _ [5, 6, 7, 8, 9, 10, 11, 4, 12, 13, 14, 15, 16, 17, 18, 19, 20, 21, 22, 23, 24, 25, 26, 27, 28, 29, 30, 31, 32, 33, 34, 35, 36, 37, 38, 39, 40, 41, 42, 43, 44, 45, 46, 47, 48, 49, 50, 51, 52, 53, 54, 55, 56, 57, 58, 59, 60, 61, 62, 63, 64, 65, 66, 67, 68, 69, 70, 71, 72, 73, 74, 75, 76, 77, 78, 79, 80, 81, 82, 83, 84, 85, 86, 87, 98, 99, 100, 101, 102, 103, 104, 105, 106, 107, 108, 109, 110, 111, 112, 113, 114, 115, 116] (by decide +kernel) (by decide +kernel)
set_option maxRecDepth 20000 in
theorem gX7_mixTrail_X7_trailOfWhat : GoodIn wsX7_mixTrail (wsV RX7 226 RX7 yX7_trailOfWhat wsX7_trailOfWhat) := goodIn_app (goodIn_of _ (by decide +kernel)) ggX7_mixTrail_X7_trailOfWhat
set_option maxRecDepth 20000 in
theorem ggX7_mixTrail_X7_mix : GoodIn wsX7_mixTrail wsX7_mix := goodIn_r _ [91, 92, 93, 98, 99, 100, 101, 102, 103, 104, 105, 106, 107, 108, 109, 110, 111, 112, 113, 114, 115, 116] (by decide +kernel) (by decide +kernel)
set_option maxRecDepth 20000 in
theorem gX7_mixTrail_X7_mix : GoodIn wsX7_mixTrail (wsV RX7 316 RX7 yX7_mix wsX7_mix) := goodIn_app (goodIn_of _ (by decide +kernel)) ggX7_mixTrail_X7_mix
set_option maxRecDepth 20000 in
theorem ggX7_mixTrail_X7_points : GoodIn wsX7_mixTrail wsX7_points := goodIn_r _ [12, 7, 98, 99, 100, 101, 102, 103, 104, 105, 106, 107, 108, 109, 110, 111, 112, 113, 114, 115, 116] (by decide +kernel) (by decide +kernel)
set_option maxRecDepth 20000 in
theorem gX7_mixTrail_X7_points : GoodIn wsX7_mixTrail (wsV RX7 51 RX7 yX7_points wsX7_points) := goodIn_app (goodIn_of _ (by decide +kernel)) ggX7_mixTrail_X7_points
set_option maxRecDepth 20000 in
theorem ggX7_mixTrail_X7_pointOf : GoodIn wsX7_mixTrail wsX7_pointOf := goodIn_r _ [97, 7, 21, 22, 23, 4, 24, 25, 26, 27, 28, 29, 30, 31, 32, 33, 34, 35, 36, 37, 38, 17, 18, 19, 20, 39, 40, 41, 50, 51, 52, 53, 54, 55, 56, 57, 58, 59, 60, 61, 62, 63, 64, 65, 66, 67, 68, 98, 99, 100, 101, 102, 103, 104, 105, 106, 107, 108, 109, 110, 111, 112, 113, 114, 115, 116] (by decide +kernel) (by decide +kernel)
set_option maxRecDepth 20000 in
theorem gX7_mixTrail_X7_pointOf : GoodIn wsX7_mixTrail (wsV RX7 214 RX7 yX7_pointOf wsX7_pointOf) := goodIn_app (goodIn_of _ (by decide +kernel)) ggX7_mixTrail_X7_pointOf
theorem dX7_mixTrail_0 : decode cX7_mixTrail 0 = .ok (.iconst 0, 1) := by decide +kernel
theorem dX7_mixTrail_1 : decode cX7_mixTrail 1 = .ok (.istore_n 2, 1) := by decide +kernel
theorem dX7_mixTrail_2 : decode cX7_mixTrail 2 = .ok (.iload_n 2, 1) := by decide +kernel
theorem dX7_mixTrail_3 : decode cX7_mixTrail 3 = .ok (.bipush 9, 2) := by decide +kernel
theorem dX7_mixTrail_5 : decode cX7_mixTrail 5 = .ok (.if_icmp .ge 20, 3) := by decide +kernel
theorem dX7_mixTrail_8 : decode cX7_mixTrail 8 = .ok (.aload_n 0, 1) := by decide +kernel
theorem dX7_mixTrail_9 : decode cX7_mixTrail 9 = .ok (.aload_n 0, 1) := by decide +kernel
theorem dX7_mixTrail_10 : decode cX7_mixTrail 10 = .ok (.iload_n 1, 1) := by decide +kernel
theorem dX7_mixTrail_11 : decode cX7_mixTrail 11 = .ok (.iload_n 2, 1) := by decide +kernel
theorem dX7_mixTrail_12 : decode cX7_mixTrail 12 = .ok (.invokevirtual 226, 3) := by decide +kernel
theorem dX7_mixTrail_15 : decode cX7_mixTrail 15 = .ok (.i2l, 1) := by decide +kernel
theorem dX7_mixTrail_16 : decode cX7_mixTrail 16 = .ok (.invokevirtual 316, 3) := by decide +kernel
theorem dX7_mixTrail_19 : decode cX7_mixTrail 19 = .ok (.iinc 2 1, 3) := by decide +kernel
theorem dX7_mixTrail_22 : decode cX7_mixTrail 22 = .ok (.goto (-20), 3) := by decide +kernel
theorem dX7_mixTrail_25 : decode cX7_mixTrail 25 = .ok (.iconst 0, 1) := by decide +kernel
theorem dX7_mixTrail_26 : decode cX7_mixTrail 26 = .ok (.istore_n 2, 1) := by decide +kernel
theorem dX7_mixTrail_27 : decode cX7_mixTrail 27 = .ok (.iload_n 2, 1) := by decide +kernel
theorem dX7_mixTrail_28 : decode cX7_mixTrail 28 = .ok (.bipush 7, 2) := by decide +kernel
theorem dX7_mixTrail_30 : decode cX7_mixTrail 30 = .ok (.aload_n 0, 1) := by decide +kernel
theorem dX7_mixTrail_31 : decode cX7_mixTrail 31 = .ok (.iload_n 1, 1) := by decide +kernel
theorem dX7_mixTrail_32 : decode cX7_mixTrail 32 = .ok (.invokevirtual 51, 3) := by decide +kernel
theorem dX7_mixTrail_35 : decode cX7_mixTrail 35 = .ok (.imul, 1) := by decide +kernel
theorem dX7_mixTrail_36 : decode cX7_mixTrail 36 = .ok (.if_icmp .ge 27, 3) := by decide +kernel
theorem dX7_mixTrail_39 : decode cX7_mixTrail 39 = .ok (.aload_n 0, 1) := by decide +kernel
theorem dX7_mixTrail_40 : decode cX7_mixTrail 40 = .ok (.aload_n 0, 1) := by decide +kernel
theorem dX7_mixTrail_41 : decode cX7_mixTrail 41 = .ok (.iload_n 1, 1) := by decide +kernel
theorem dX7_mixTrail_42 : decode cX7_mixTrail 42 = .ok (.iload_n 2, 1) := by decide +kernel
theorem dX7_mixTrail_43 : decode cX7_mixTrail 43 = .ok (.bipush 7, 2) := by decide +kernel
theorem dX7_mixTrail_45 : decode cX7_mixTrail 45 = .ok (.idiv, 1) := by decide +kernel
theorem dX7_mixTrail_46 : decode cX7_mixTrail 46 = .ok (.iload_n 2, 1) := by decide +kernel
theorem dX7_mixTrail_47 : decode cX7_mixTrail 47 = .ok (.bipush 7, 2) := by decide +kernel
theorem dX7_mixTrail_49 : decode cX7_mixTrail 49 = .ok (.irem, 1) := by decide +kernel
theorem dX7_mixTrail_50 : decode cX7_mixTrail 50 = .ok (.invokevirtual 214, 3) := by decide +kernel
theorem dX7_mixTrail_53 : decode cX7_mixTrail 53 = .ok (.i2l, 1) := by decide +kernel
theorem dX7_mixTrail_54 : decode cX7_mixTrail 54 = .ok (.invokevirtual 316, 3) := by decide +kernel
theorem dX7_mixTrail_57 : decode cX7_mixTrail 57 = .ok (.iinc 2 1, 3) := by decide +kernel
theorem dX7_mixTrail_60 : decode cX7_mixTrail 60 = .ok (.goto (-33), 3) := by decide +kernel
theorem dX7_mixTrail_63 : decode cX7_mixTrail 63 = .ok (.return_, 1) := by decide +kernel
set_option maxRecDepth 20000 in
theorem ggX7_digest_X7_match : GoodIn wsX7_digest wsX7_match := goodIn_r _ [12, 13, 14, 15, 7, 16, 17, 18, 19, 20, 21, 11, 22, 23, 24, 25, 26, 27, 28, 29, 30, 31, 32, 33, 34, 35, 36, 37, 38, 39, 40, 41, 42, 43, 44, 45, 46, 47, 48, 49, 50, 51, 52, 53, 54, 55, 56, 57, 58, 59, 60, 61, 62, 63, 64, 65, 66, 67, 68, 69, 70, 71, 72, 73, 74, 75, 76, 77, 78, 79, 80, 81, 82, 83, 84, 85, 86, 87, 88, 89, 90, 91, 92, 93, 94, 95, 161, 162, 163, 164, 165, 166, 167, 168, 169, 170, 171, 172, 173, 174, 175, 176, 177, 178, 179] (by decide +kernel) (by decide +kernel)
set_option maxRecDepth 20000 in
theorem gX7_digest_X7_match : GoodIn wsX7_digest (wsV RX7 223 RX7 yX7_match wsX7_match) := goodIn_app (goodIn_of _ (by decide +kernel)) ggX7_digest_X7_match
set_option maxRecDepth 20000 in
theorem ggX7_digest_X7_mix : GoodIn wsX7_digest wsX7_mix := goodIn_r _ [99, 100, 3, 161, 162, 163, 164, 165, 166, 167, 168, 169, 170, 171, 172, 173, 174, 175, 176, 177, 178, 179] (by decide +kernel) (by decide +kernel)
set_option maxRecDepth 20000 in
theorem gX7_digest_X7_mix : GoodIn wsX7_digest (wsV RX7 316 RX7 yX7_mix wsX7_mix) := goodIn_app (goodIn_of _ (by decide +kernel)) ggX7_digest_X7_mix
set_option maxRecDepth 20000 in
theorem ggX7_digest_X7_wholeOf : GoodIn wsX7_digest wsX7_wholeOf := goodIn_r _ [104, 7, 17, 18, 105, 106, 107, 11, 108, 19, 20, 21, 22, 109, 110, 111, 112, 32, 33, 34, 35, 36, 37, 38, 39, 40, 41, 42, 43, 44, 45, 46, 47, 48, 49, 50, 51, 52, 53, 54, 55, 56, 113, 114, 115, 116, 117, 118, 119, 120, 15, 14, 62, 63, 64, 65, 121, 122, 123, 124, 125, 126, 127, 128, 129, 130, 131, 132, 133, 134, 135, 136, 137, 138, 139, 140, 69, 70, 71, 72, 73, 74, 75, 76, 66, 67, 68, 77, 78, 79, 80, 81, 82, 83, 84, 89, 90, 91, 141, 142, 143, 144, 161, 162, 163, 164, 165, 166, 167, 168, 169, 170, 171, 172, 173, 174, 175, 176, 177, 178, 179] (by decide +kernel) (by decide +kernel)
set_option maxRecDepth 20000 in
theorem gX7_digest_X7_wholeOf : GoodIn wsX7_digest (wsV RX7 241 RX7 yX7_wholeOf wsX7_wholeOf) := goodIn_app (goodIn_of _ (by decide +kernel)) ggX7_digest_X7_wholeOf
set_option maxRecDepth 20000 in
theorem ggX7_digest_X7_mixTrail : GoodIn wsX7_digest wsX7_mixTrail := goodIn_r _ [148, 149, 150, 151, 11, 152, 14, 7, 13, 19, 20, 21, 22, 28, 29, 30, 31, 32, 33, 34, 35, 36, 37, 38, 39, 40, 41, 42, 43, 44, 45, 46, 47, 48, 49, 50, 51, 52, 53, 54, 55, 56, 109, 110, 111, 112, 137, 138, 139, 140, 69, 70, 71, 72, 73, 74, 75, 76, 66, 67, 68, 77, 78, 79, 80, 81, 82, 83, 84, 89, 90, 91, 141, 142, 143, 144, 133, 134, 135, 136, 129, 130, 131, 132, 125, 126, 127, 128, 96, 97, 98, 99, 100, 3, 153, 154, 155, 156, 161, 162, 163, 164, 165, 166, 167, 168, 169, 170, 171, 172, 173, 174, 175, 176, 177, 178, 179] (by decide +kernel) (by decide +kernel)
set_option maxRecDepth 20000 in
theorem gX7_digest_X7_mixTrail : GoodIn wsX7_digest (wsV RX7 322 RX7 yX7_mixTrail wsX7_mixTrail) := goodIn_app (goodIn_of _ (by decide +kernel)) ggX7_digest_X7_mixTrail
set_option maxRecDepth 20000 in
theorem ggX7_digest_X7_starOfWhat : GoodIn wsX7_digest wsX7_starOfWhat := goodIn_r _ [160, 15, 14, 16, 57, 58, 59, 11, 60, 7, 61, 62, 63, 64, 65, 117, 118, 119, 120, 161, 162, 163, 164, 165, 166, 167, 168, 169, 170, 171, 172, 173, 174, 175, 176, 177, 178, 179] (by decide +kernel) (by decide +kernel)
set_option maxRecDepth 20000 in
theorem gX7_digest_X7_starOfWhat : GoodIn wsX7_digest (wsV RX7 232 RX7 yX7_starOfWhat wsX7_starOfWhat) := goodIn_app (goodIn_of _ (by decide +kernel)) ggX7_digest_X7_starOfWhat
theorem dX7_digest_0 : decode cX7_digest 0 = .ok (.aload_n 0, 1) := by decide +kernel
theorem dX7_digest_1 : decode cX7_digest 1 = .ok (.iconst 0, 1) := by decide +kernel
theorem dX7_digest_2 : decode cX7_digest 2 = .ok (.putfield 31, 3) := by decide +kernel
theorem dX7_digest_5 : decode cX7_digest 5 = .ok (.aload_n 0, 1) := by decide +kernel
theorem dX7_digest_6 : decode cX7_digest 6 = .ok (.invokevirtual 223, 3) := by decide +kernel
theorem dX7_digest_9 : decode cX7_digest 9 = .ok (.aload_n 0, 1) := by decide +kernel
theorem dX7_digest_10 : decode cX7_digest 10 = .ok (.ldc2_w 320, 3) := by decide +kernel
theorem dX7_digest_13 : decode cX7_digest 13 = .ok (.putfield 312, 3) := by decide +kernel
theorem dX7_digest_16 : decode cX7_digest 16 = .ok (.aload_n 0, 1) := by decide +kernel
theorem dX7_digest_17 : decode cX7_digest 17 = .ok (.aload_n 0, 1) := by decide +kernel
theorem dX7_digest_18 : decode cX7_digest 18 = .ok (.getfield 36, 3) := by decide +kernel
theorem dX7_digest_21 : decode cX7_digest 21 = .ok (.i2l, 1) := by decide +kernel
theorem dX7_digest_22 : decode cX7_digest 22 = .ok (.invokevirtual 316, 3) := by decide +kernel
theorem dX7_digest_25 : decode cX7_digest 25 = .ok (.aload_n 0, 1) := by decide +kernel
theorem dX7_digest_26 : decode cX7_digest 26 = .ok (.aload_n 0, 1) := by decide +kernel
theorem dX7_digest_27 : decode cX7_digest 27 = .ok (.getfield 247, 3) := by decide +kernel
theorem dX7_digest_30 : decode cX7_digest 30 = .ok (.i2l, 1) := by decide +kernel
theorem dX7_digest_31 : decode cX7_digest 31 = .ok (.invokevirtual 316, 3) := by decide +kernel
theorem dX7_digest_34 : decode cX7_digest 34 = .ok (.aload_n 0, 1) := by decide +kernel
theorem dX7_digest_35 : decode cX7_digest 35 = .ok (.aload_n 0, 1) := by decide +kernel
theorem dX7_digest_36 : decode cX7_digest 36 = .ok (.getfield 301, 3) := by decide +kernel
theorem dX7_digest_39 : decode cX7_digest 39 = .ok (.i2l, 1) := by decide +kernel
theorem dX7_digest_40 : decode cX7_digest 40 = .ok (.invokevirtual 316, 3) := by decide +kernel
theorem dX7_digest_43 : decode cX7_digest 43 = .ok (.iconst 0, 1) := by decide +kernel
theorem dX7_digest_44 : decode cX7_digest 44 = .ok (.istore_n 1, 1) := by decide +kernel
theorem dX7_digest_45 : decode cX7_digest 45 = .ok (.iload_n 1, 1) := by decide +kernel
theorem dX7_digest_46 : decode cX7_digest 46 = .ok (.bipush 11, 2) := by decide +kernel
theorem dX7_digest_48 : decode cX7_digest 48 = .ok (.if_icmp .ge 19, 3) := by decide +kernel
theorem dX7_digest_51 : decode cX7_digest 51 = .ok (.aload_n 0, 1) := by decide +kernel
theorem dX7_digest_52 : decode cX7_digest 52 = .ok (.aload_n 0, 1) := by decide +kernel
theorem dX7_digest_53 : decode cX7_digest 53 = .ok (.iload_n 1, 1) := by decide +kernel
theorem dX7_digest_54 : decode cX7_digest 54 = .ok (.invokevirtual 241, 3) := by decide +kernel
theorem dX7_digest_57 : decode cX7_digest 57 = .ok (.i2l, 1) := by decide +kernel
theorem dX7_digest_58 : decode cX7_digest 58 = .ok (.invokevirtual 316, 3) := by decide +kernel
theorem dX7_digest_61 : decode cX7_digest 61 = .ok (.iinc 1 1, 3) := by decide +kernel
theorem dX7_digest_64 : decode cX7_digest 64 = .ok (.goto (-19), 3) := by decide +kernel
theorem dX7_digest_67 : decode cX7_digest 67 = .ok (.iconst 0, 1) := by decide +kernel
theorem dX7_digest_68 : decode cX7_digest 68 = .ok (.istore_n 1, 1) := by decide +kernel
theorem dX7_digest_69 : decode cX7_digest 69 = .ok (.iload_n 1, 1) := by decide +kernel
theorem dX7_digest_70 : decode cX7_digest 70 = .ok (.bipush 9, 2) := by decide +kernel
theorem dX7_digest_72 : decode cX7_digest 72 = .ok (.if_icmp .gt 20, 3) := by decide +kernel
theorem dX7_digest_75 : decode cX7_digest 75 = .ok (.aload_n 0, 1) := by decide +kernel
theorem dX7_digest_76 : decode cX7_digest 76 = .ok (.aload_n 0, 1) := by decide +kernel
theorem dX7_digest_77 : decode cX7_digest 77 = .ok (.getfield 7, 3) := by decide +kernel
theorem dX7_digest_80 : decode cX7_digest 80 = .ok (.iload_n 1, 1) := by decide +kernel
theorem dX7_digest_81 : decode cX7_digest 81 = .ok (.iaload, 1) := by decide +kernel
theorem dX7_digest_82 : decode cX7_digest 82 = .ok (.i2l, 1) := by decide +kernel
theorem dX7_digest_83 : decode cX7_digest 83 = .ok (.invokevirtual 316, 3) := by decide +kernel
theorem dX7_digest_86 : decode cX7_digest 86 = .ok (.iinc 1 1, 3) := by decide +kernel
theorem dX7_digest_89 : decode cX7_digest 89 = .ok (.goto (-20), 3) := by decide +kernel
theorem dX7_digest_92 : decode cX7_digest 92 = .ok (.iconst 0, 1) := by decide +kernel
theorem dX7_digest_93 : decode cX7_digest 93 = .ok (.istore_n 1, 1) := by decide +kernel
theorem dX7_digest_94 : decode cX7_digest 94 = .ok (.iload_n 1, 1) := by decide +kernel
theorem dX7_digest_95 : decode cX7_digest 95 = .ok (.aload_n 0, 1) := by decide +kernel
theorem dX7_digest_96 : decode cX7_digest 96 = .ok (.getfield 7, 3) := by decide +kernel
theorem dX7_digest_99 : decode cX7_digest 99 = .ok (.bipush 12, 2) := by decide +kernel
theorem dX7_digest_101 : decode cX7_digest 101 = .ok (.iaload, 1) := by decide +kernel
theorem dX7_digest_102 : decode cX7_digest 102 = .ok (.if_icmp .ge 14, 3) := by decide +kernel
theorem dX7_digest_105 : decode cX7_digest 105 = .ok (.aload_n 0, 1) := by decide +kernel
theorem dX7_digest_106 : decode cX7_digest 106 = .ok (.iload_n 1, 1) := by decide +kernel
theorem dX7_digest_107 : decode cX7_digest 107 = .ok (.invokevirtual 322, 3) := by decide +kernel
theorem dX7_digest_110 : decode cX7_digest 110 = .ok (.iinc 1 1, 3) := by decide +kernel
theorem dX7_digest_113 : decode cX7_digest 113 = .ok (.goto (-19), 3) := by decide +kernel
theorem dX7_digest_116 : decode cX7_digest 116 = .ok (.iconst 0, 1) := by decide +kernel
theorem dX7_digest_117 : decode cX7_digest 117 = .ok (.istore_n 1, 1) := by decide +kernel
theorem dX7_digest_118 : decode cX7_digest 118 = .ok (.iload_n 1, 1) := by decide +kernel
theorem dX7_digest_119 : decode cX7_digest 119 = .ok (.bipush 7, 2) := by decide +kernel
theorem dX7_digest_121 : decode cX7_digest 121 = .ok (.aload_n 0, 1) := by decide +kernel
theorem dX7_digest_122 : decode cX7_digest 122 = .ok (.getfield 7, 3) := by decide +kernel
theorem dX7_digest_125 : decode cX7_digest 125 = .ok (.bipush 13, 2) := by decide +kernel
theorem dX7_digest_127 : decode cX7_digest 127 = .ok (.iaload, 1) := by decide +kernel
theorem dX7_digest_128 : decode cX7_digest 128 = .ok (.imul, 1) := by decide +kernel
theorem dX7_digest_129 : decode cX7_digest 129 = .ok (.if_icmp .ge 26, 3) := by decide +kernel
theorem dX7_digest_132 : decode cX7_digest 132 = .ok (.aload_n 0, 1) := by decide +kernel
theorem dX7_digest_133 : decode cX7_digest 133 = .ok (.aload_n 0, 1) := by decide +kernel
theorem dX7_digest_134 : decode cX7_digest 134 = .ok (.iload_n 1, 1) := by decide +kernel
theorem dX7_digest_135 : decode cX7_digest 135 = .ok (.bipush 7, 2) := by decide +kernel
theorem dX7_digest_137 : decode cX7_digest 137 = .ok (.idiv, 1) := by decide +kernel
theorem dX7_digest_138 : decode cX7_digest 138 = .ok (.iload_n 1, 1) := by decide +kernel
theorem dX7_digest_139 : decode cX7_digest 139 = .ok (.bipush 7, 2) := by decide +kernel
theorem dX7_digest_141 : decode cX7_digest 141 = .ok (.irem, 1) := by decide +kernel
theorem dX7_digest_142 : decode cX7_digest 142 = .ok (.invokevirtual 232, 3) := by decide +kernel
theorem dX7_digest_145 : decode cX7_digest 145 = .ok (.i2l, 1) := by decide +kernel
theorem dX7_digest_146 : decode cX7_digest 146 = .ok (.invokevirtual 316, 3) := by decide +kernel
theorem dX7_digest_149 : decode cX7_digest 149 = .ok (.iinc 1 1, 3) := by decide +kernel
theorem dX7_digest_152 : decode cX7_digest 152 = .ok (.goto (-34), 3) := by decide +kernel
theorem dX7_digest_155 : decode cX7_digest 155 = .ok (.aload_n 0, 1) := by decide +kernel
theorem dX7_digest_156 : decode cX7_digest 156 = .ok (.getfield 312, 3) := by decide +kernel
theorem dX7_digest_159 : decode cX7_digest 159 = .ok (.lreturn, 1) := by decide +kernel
