theorem dX0_root_0 : decode cX0_root 0 = .ok (.iload_n 0, 1) := by decide +kernel
theorem dX0_root_1 : decode cX0_root 1 = .ok (.istore_n 1, 1) := by decide +kernel
theorem dX0_root_2 : decode cX0_root 2 = .ok (.iconst 0, 1) := by decide +kernel
theorem dX0_root_3 : decode cX0_root 3 = .ok (.istore_n 2, 1) := by decide +kernel
theorem dX0_root_4 : decode cX0_root 4 = .ok (.bipush 30, 2) := by decide +kernel
theorem dX0_root_6 : decode cX0_root 6 = .ok (.istore_n 3, 1) := by decide +kernel
theorem dX0_root_7 : decode cX0_root 7 = .ok (.iload_n 3, 1) := by decide +kernel
theorem dX0_root_8 : decode cX0_root 8 = .ok (.ifCond .lt 43, 3) := by decide +kernel
theorem dX0_root_11 : decode cX0_root 11 = .ok (.iconst 1, 1) := by decide +kernel
theorem dX0_root_12 : decode cX0_root 12 = .ok (.iload_n 3, 1) := by decide +kernel
theorem dX0_root_13 : decode cX0_root 13 = .ok (.ishl, 1) := by decide +kernel
theorem dX0_root_14 : decode cX0_root 14 = .ok (.istore 4, 2) := by decide +kernel
theorem dX0_root_16 : decode cX0_root 16 = .ok (.iload_n 1, 1) := by decide +kernel
theorem dX0_root_17 : decode cX0_root 17 = .ok (.iload_n 2, 1) := by decide +kernel
theorem dX0_root_18 : decode cX0_root 18 = .ok (.iload 4, 2) := by decide +kernel
theorem dX0_root_20 : decode cX0_root 20 = .ok (.iadd, 1) := by decide +kernel
theorem dX0_root_21 : decode cX0_root 21 = .ok (.if_icmp .lt 20, 3) := by decide +kernel
theorem dX0_root_24 : decode cX0_root 24 = .ok (.iload_n 1, 1) := by decide +kernel
theorem dX0_root_25 : decode cX0_root 25 = .ok (.iload_n 2, 1) := by decide +kernel
theorem dX0_root_26 : decode cX0_root 26 = .ok (.iload 4, 2) := by decide +kernel
theorem dX0_root_28 : decode cX0_root 28 = .ok (.iadd, 1) := by decide +kernel
theorem dX0_root_29 : decode cX0_root 29 = .ok (.isub, 1) := by decide +kernel
theorem dX0_root_30 : decode cX0_root 30 = .ok (.istore_n 1, 1) := by decide +kernel
theorem dX0_root_31 : decode cX0_root 31 = .ok (.iload_n 2, 1) := by decide +kernel
theorem dX0_root_32 : decode cX0_root 32 = .ok (.iconst 1, 1) := by decide +kernel
theorem dX0_root_33 : decode cX0_root 33 = .ok (.ishr, 1) := by decide +kernel
theorem dX0_root_34 : decode cX0_root 34 = .ok (.iload 4, 2) := by decide +kernel
theorem dX0_root_36 : decode cX0_root 36 = .ok (.iadd, 1) := by decide +kernel
theorem dX0_root_37 : decode cX0_root 37 = .ok (.istore_n 2, 1) := by decide +kernel
theorem dX0_root_38 : decode cX0_root 38 = .ok (.goto 7, 3) := by decide +kernel
theorem dX0_root_41 : decode cX0_root 41 = .ok (.iload_n 2, 1) := by decide +kernel
theorem dX0_root_42 : decode cX0_root 42 = .ok (.iconst 1, 1) := by decide +kernel
theorem dX0_root_43 : decode cX0_root 43 = .ok (.ishr, 1) := by decide +kernel
theorem dX0_root_44 : decode cX0_root 44 = .ok (.istore_n 2, 1) := by decide +kernel
theorem dX0_root_45 : decode cX0_root 45 = .ok (.iinc 3 (-2), 3) := by decide +kernel
theorem dX0_root_48 : decode cX0_root 48 = .ok (.goto (-41), 3) := by decide +kernel
theorem dX0_root_51 : decode cX0_root 51 = .ok (.iload_n 2, 1) := by decide +kernel
theorem dX0_root_52 : decode cX0_root 52 = .ok (.ireturn, 1) := by decide +kernel
set_option maxRecDepth 20000 in
theorem ggX0_angle_J9_floorMod_7cf53 : GoodIn wsX0_angle wsJ9_floorMod_7cf53 := goodIn_r _ [7] (by decide +kernel) (by decide +kernel)
set_option maxRecDepth 20000 in
theorem gX0_angle_J9_floorMod_7cf53 : GoodIn wsX0_angle (va_wsS RX0 17 yJ9_floorMod_7cf53 wsJ9_floorMod_7cf53) := goodIn_app (goodIn_of _ (by decide +kernel)) ggX0_angle_J9_floorMod_7cf53
theorem dX0_angle_0 : decode cX0_angle 0 = .ok (.iload_n 0, 1) := by decide +kernel
theorem dX0_angle_1 : decode cX0_angle 1 = .ok (.ifCond .ne 9, 3) := by decide +kernel
theorem dX0_angle_4 : decode cX0_angle 4 = .ok (.iload_n 1, 1) := by decide +kernel
theorem dX0_angle_5 : decode cX0_angle 5 = .ok (.ifCond .ne 5, 3) := by decide +kernel
theorem dX0_angle_8 : decode cX0_angle 8 = .ok (.iconst 0, 1) := by decide +kernel
theorem dX0_angle_9 : decode cX0_angle 9 = .ok (.ireturn, 1) := by decide +kernel
theorem dX0_angle_10 : decode cX0_angle 10 = .ok (.iload_n 0, 1) := by decide +kernel
theorem dX0_angle_11 : decode cX0_angle 11 = .ok (.ifCond .ge 8, 3) := by decide +kernel
theorem dX0_angle_14 : decode cX0_angle 14 = .ok (.ldc 9, 2) := by decide +kernel
theorem dX0_angle_16 : decode cX0_angle 16 = .ok (.goto 4, 3) := by decide +kernel
theorem dX0_angle_19 : decode cX0_angle 19 = .ok (.iconst 0, 1) := by decide +kernel
theorem dX0_angle_20 : decode cX0_angle 20 = .ok (.istore_n 2, 1) := by decide +kernel
theorem dX0_angle_21 : decode cX0_angle 21 = .ok (.iload_n 0, 1) := by decide +kernel
theorem dX0_angle_22 : decode cX0_angle 22 = .ok (.ifCond .ge 9, 3) := by decide +kernel
theorem dX0_angle_25 : decode cX0_angle 25 = .ok (.sipush (-1024), 3) := by decide +kernel
theorem dX0_angle_28 : decode cX0_angle 28 = .ok (.goto 6, 3) := by decide +kernel
theorem dX0_angle_31 : decode cX0_angle 31 = .ok (.sipush 1024, 3) := by decide +kernel
theorem dX0_angle_34 : decode cX0_angle 34 = .ok (.istore_n 3, 1) := by decide +kernel
theorem dX0_angle_35 : decode cX0_angle 35 = .ok (.iload_n 3, 1) := by decide +kernel
theorem dX0_angle_36 : decode cX0_angle 36 = .ok (.iload_n 0, 1) := by decide +kernel
theorem dX0_angle_37 : decode cX0_angle 37 = .ok (.imul, 1) := by decide +kernel
theorem dX0_angle_38 : decode cX0_angle 38 = .ok (.istore 4, 2) := by decide +kernel
theorem dX0_angle_40 : decode cX0_angle 40 = .ok (.iload_n 3, 1) := by decide +kernel
theorem dX0_angle_41 : decode cX0_angle 41 = .ok (.iload_n 1, 1) := by decide +kernel
theorem dX0_angle_42 : decode cX0_angle 42 = .ok (.imul, 1) := by decide +kernel
theorem dX0_angle_43 : decode cX0_angle 43 = .ok (.istore 5, 2) := by decide +kernel
theorem dX0_angle_45 : decode cX0_angle 45 = .ok (.iconst 0, 1) := by decide +kernel
theorem dX0_angle_46 : decode cX0_angle 46 = .ok (.istore 6, 2) := by decide +kernel
theorem dX0_angle_48 : decode cX0_angle 48 = .ok (.iload 6, 2) := by decide +kernel
theorem dX0_angle_50 : decode cX0_angle 50 = .ok (.getstatic 10, 3) := by decide +kernel
theorem dX0_angle_53 : decode cX0_angle 53 = .ok (.arraylength, 1) := by decide +kernel
theorem dX0_angle_54 : decode cX0_angle 54 = .ok (.if_icmp .ge 82, 3) := by decide +kernel
theorem dX0_angle_57 : decode cX0_angle 57 = .ok (.iload 4, 2) := by decide +kernel
theorem dX0_angle_59 : decode cX0_angle 59 = .ok (.iload 6, 2) := by decide +kernel
theorem dX0_angle_61 : decode cX0_angle 61 = .ok (.ishr, 1) := by decide +kernel
theorem dX0_angle_62 : decode cX0_angle 62 = .ok (.istore 7, 2) := by decide +kernel
theorem dX0_angle_64 : decode cX0_angle 64 = .ok (.iload 5, 2) := by decide +kernel
theorem dX0_angle_66 : decode cX0_angle 66 = .ok (.iload 6, 2) := by decide +kernel
theorem dX0_angle_68 : decode cX0_angle 68 = .ok (.ishr, 1) := by decide +kernel
theorem dX0_angle_69 : decode cX0_angle 69 = .ok (.istore 8, 2) := by decide +kernel
theorem dX0_angle_71 : decode cX0_angle 71 = .ok (.iload 5, 2) := by decide +kernel
theorem dX0_angle_73 : decode cX0_angle 73 = .ok (.ifCond .le 29, 3) := by decide +kernel
theorem dX0_angle_76 : decode cX0_angle 76 = .ok (.iload 4, 2) := by decide +kernel
theorem dX0_angle_78 : decode cX0_angle 78 = .ok (.iload 8, 2) := by decide +kernel
theorem dX0_angle_80 : decode cX0_angle 80 = .ok (.iadd, 1) := by decide +kernel
theorem dX0_angle_81 : decode cX0_angle 81 = .ok (.istore 4, 2) := by decide +kernel
theorem dX0_angle_83 : decode cX0_angle 83 = .ok (.iload 5, 2) := by decide +kernel
theorem dX0_angle_85 : decode cX0_angle 85 = .ok (.iload 7, 2) := by decide +kernel
theorem dX0_angle_87 : decode cX0_angle 87 = .ok (.isub, 1) := by decide +kernel
theorem dX0_angle_88 : decode cX0_angle 88 = .ok (.istore 5, 2) := by decide +kernel
theorem dX0_angle_90 : decode cX0_angle 90 = .ok (.iload_n 2, 1) := by decide +kernel
theorem dX0_angle_91 : decode cX0_angle 91 = .ok (.getstatic 10, 3) := by decide +kernel
theorem dX0_angle_94 : decode cX0_angle 94 = .ok (.iload 6, 2) := by decide +kernel
theorem dX0_angle_96 : decode cX0_angle 96 = .ok (.iaload, 1) := by decide +kernel
theorem dX0_angle_97 : decode cX0_angle 97 = .ok (.iadd, 1) := by decide +kernel
theorem dX0_angle_98 : decode cX0_angle 98 = .ok (.istore_n 2, 1) := by decide +kernel
theorem dX0_angle_99 : decode cX0_angle 99 = .ok (.goto 31, 3) := by decide +kernel
theorem dX0_angle_102 : decode cX0_angle 102 = .ok (.iload 5, 2) := by decide +kernel
theorem dX0_angle_104 : decode cX0_angle 104 = .ok (.ifCond .ge 26, 3) := by decide +kernel
theorem dX0_angle_107 : decode cX0_angle 107 = .ok (.iload 4, 2) := by decide +kernel
theorem dX0_angle_109 : decode cX0_angle 109 = .ok (.iload 8, 2) := by decide +kernel
theorem dX0_angle_111 : decode cX0_angle 111 = .ok (.isub, 1) := by decide +kernel
theorem dX0_angle_112 : decode cX0_angle 112 = .ok (.istore 4, 2) := by decide +kernel
theorem dX0_angle_114 : decode cX0_angle 114 = .ok (.iload 5, 2) := by decide +kernel
theorem dX0_angle_116 : decode cX0_angle 116 = .ok (.iload 7, 2) := by decide +kernel
theorem dX0_angle_118 : decode cX0_angle 118 = .ok (.iadd, 1) := by decide +kernel
theorem dX0_angle_119 : decode cX0_angle 119 = .ok (.istore 5, 2) := by decide +kernel
theorem dX0_angle_121 : decode cX0_angle 121 = .ok (.iload_n 2, 1) := by decide +kernel
theorem dX0_angle_122 : decode cX0_angle 122 = .ok (.getstatic 10, 3) := by decide +kernel
theorem dX0_angle_125 : decode cX0_angle 125 = .ok (.iload 6, 2) := by decide +kernel
theorem dX0_angle_127 : decode cX0_angle 127 = .ok (.iaload, 1) := by decide +kernel
theorem dX0_angle_128 : decode cX0_angle 128 = .ok (.isub, 1) := by decide +kernel
theorem dX0_angle_129 : decode cX0_angle 129 = .ok (.istore_n 2, 1) := by decide +kernel
theorem dX0_angle_130 : decode cX0_angle 130 = .ok (.iinc 6 1, 3) := by decide +kernel
theorem dX0_angle_133 : decode cX0_angle 133 = .ok (.goto (-85), 3) := by decide +kernel
theorem dX0_angle_136 : decode cX0_angle 136 = .ok (.iload_n 2, 1) := by decide +kernel
theorem dX0_angle_137 : decode cX0_angle 137 = .ok (.ldc 16, 2) := by decide +kernel
theorem dX0_angle_139 : decode cX0_angle 139 = .ok (.invokestatic 17, 3) := by decide +kernel
theorem dX0_angle_142 : decode cX0_angle 142 = .ok (.ireturn, 1) := by decide +kernel
set_option maxRecDepth 20000 in
theorem ggX0_turn_J9_floorMod_7cf53 : GoodIn wsX0_turn wsJ9_floorMod_7cf53 := goodIn_r _ [6] (by decide +kernel) (by decide +kernel)
set_option maxRecDepth 20000 in
theorem gX0_turn_J9_floorMod_7cf53 : GoodIn wsX0_turn (va_wsS RX0 17 yJ9_floorMod_7cf53 wsJ9_floorMod_7cf53) := goodIn_app (goodIn_of _ (by decide +kernel)) ggX0_turn_J9_floorMod_7cf53
theorem dX0_turn_0 : decode cX0_turn 0 = .ok (.iload_n 1, 1) := by decide +kernel
theorem dX0_turn_1 : decode cX0_turn 1 = .ok (.iload_n 0, 1) := by decide +kernel
theorem dX0_turn_2 : decode cX0_turn 2 = .ok (.isub, 1) := by decide +kernel
theorem dX0_turn_3 : decode cX0_turn 3 = .ok (.ldc 16, 2) := by decide +kernel
theorem dX0_turn_5 : decode cX0_turn 5 = .ok (.invokestatic 17, 3) := by decide +kernel
theorem dX0_turn_8 : decode cX0_turn 8 = .ok (.istore_n 2, 1) := by decide +kernel
theorem dX0_turn_9 : decode cX0_turn 9 = .ok (.iload_n 2, 1) := by decide +kernel
theorem dX0_turn_10 : decode cX0_turn 10 = .ok (.ldc 9, 2) := by decide +kernel
theorem dX0_turn_12 : decode cX0_turn 12 = .ok (.if_icmp .le 10, 3) := by decide +kernel
theorem dX0_turn_15 : decode cX0_turn 15 = .ok (.iload_n 2, 1) := by decide +kernel
theorem dX0_turn_16 : decode cX0_turn 16 = .ok (.ldc 16, 2) := by decide +kernel
theorem dX0_turn_18 : decode cX0_turn 18 = .ok (.isub, 1) := by decide +kernel
theorem dX0_turn_19 : decode cX0_turn 19 = .ok (.goto 4, 3) := by decide +kernel
theorem dX0_turn_22 : decode cX0_turn 22 = .ok (.iload_n 2, 1) := by decide +kernel
theorem dX0_turn_23 : decode cX0_turn 23 = .ok (.ireturn, 1) := by decide +kernel
theorem dX1_init_0 : decode cX1_init 0 = .ok (.aload_n 0, 1) := by decide +kernel
theorem dX1_init_1 : decode cX1_init 1 = .ok (.invokespecial 3, 3) := by decide +kernel
theorem dX1_init_4 : decode cX1_init 4 = .ok (.aload_n 0, 1) := by decide +kernel
theorem dX1_init_5 : decode cX1_init 5 = .ok (.bipush 12, 2) := by decide +kernel
theorem dX1_init_7 : decode cX1_init 7 = .ok (.newarray .int, 2) := by decide +kernel
theorem dX1_init_9 : decode cX1_init 9 = .ok (.putfield 9, 3) := by decide +kernel
theorem dX1_init_12 : decode cX1_init 12 = .ok (.aload_n 0, 1) := by decide +kernel
theorem dX1_init_13 : decode cX1_init 13 = .ok (.bipush 12, 2) := by decide +kernel
theorem dX1_init_15 : decode cX1_init 15 = .ok (.newarray .int, 2) := by decide +kernel
theorem dX1_init_17 : decode cX1_init 17 = .ok (.putfield 15, 3) := by decide +kernel
theorem dX1_init_20 : decode cX1_init 20 = .ok (.aload_n 0, 1) := by decide +kernel
theorem dX1_init_21 : decode cX1_init 21 = .ok (.bipush 12, 2) := by decide +kernel
theorem dX1_init_23 : decode cX1_init 23 = .ok (.newarray .int, 2) := by decide +kernel
theorem dX1_init_25 : decode cX1_init 25 = .ok (.putfield 18, 3) := by decide +kernel
theorem dX1_init_28 : decode cX1_init 28 = .ok (.aload_n 0, 1) := by decide +kernel
theorem dX1_init_29 : decode cX1_init 29 = .ok (.bipush 12, 2) := by decide +kernel
theorem dX1_init_31 : decode cX1_init 31 = .ok (.newarray .int, 2) := by decide +kernel
theorem dX1_init_33 : decode cX1_init 33 = .ok (.putfield 21, 3) := by decide +kernel
theorem dX1_init_36 : decode cX1_init 36 = .ok (.aload_n 0, 1) := by decide +kernel
theorem dX1_init_37 : decode cX1_init 37 = .ok (.bipush 12, 2) := by decide +kernel
theorem dX1_init_39 : decode cX1_init 39 = .ok (.newarray .int, 2) := by decide +kernel
theorem dX1_init_41 : decode cX1_init 41 = .ok (.putfield 24, 3) := by decide +kernel
theorem dX1_init_44 : decode cX1_init 44 = .ok (.aload_n 0, 1) := by decide +kernel
theorem dX1_init_45 : decode cX1_init 45 = .ok (.bipush 12, 2) := by decide +kernel
theorem dX1_init_47 : decode cX1_init 47 = .ok (.newarray .int, 2) := by decide +kernel
theorem dX1_init_49 : decode cX1_init 49 = .ok (.putfield 27, 3) := by decide +kernel
theorem dX1_init_52 : decode cX1_init 52 = .ok (.aload_n 0, 1) := by decide +kernel
theorem dX1_init_53 : decode cX1_init 53 = .ok (.bipush 12, 2) := by decide +kernel
theorem dX1_init_55 : decode cX1_init 55 = .ok (.newarray .int, 2) := by decide +kernel
theorem dX1_init_57 : decode cX1_init 57 = .ok (.putfield 30, 3) := by decide +kernel
theorem dX1_init_60 : decode cX1_init 60 = .ok (.aload_n 0, 1) := by decide +kernel
theorem dX1_init_61 : decode cX1_init 61 = .ok (.bipush 12, 2) := by decide +kernel
theorem dX1_init_63 : decode cX1_init 63 = .ok (.newarray .boolean, 2) := by decide +kernel
theorem dX1_init_65 : decode cX1_init 65 = .ok (.putfield 33, 3) := by decide +kernel
theorem dX1_init_68 : decode cX1_init 68 = .ok (.return_, 1) := by decide +kernel
set_option maxRecDepth 20000 in
theorem ggX1_measure_X1_measureRadii : GoodIn wsX1_measure wsX1_measureRadii := goodIn_r _ [7, 8, 9, 10, 11, 12, 13, 14, 15, 16, 17, 18, 19, 20, 21, 22, 23, 24, 25, 26, 27, 28, 29, 30, 31, 32, 33, 34, 35, 36, 37, 38, 39, 40, 41, 42, 43, 44, 45, 46, 47, 105, 106, 107, 108, 109, 110, 111, 112, 93, 94, 95, 96, 97, 98, 99, 100, 101, 102, 103, 104] (by decide +kernel) (by decide +kernel)
set_option maxRecDepth 20000 in
theorem gX1_measure_X1_measureRadii : GoodIn wsX1_measure (wsV RX1 46 RX1 yX1_measureRadii wsX1_measureRadii) := goodIn_app (goodIn_of _ (by decide +kernel)) ggX1_measure_X1_measureRadii
set_option maxRecDepth 20000 in
theorem ggX1_measure_X1_measureAngles : GoodIn wsX1_measure wsX1_measureAngles := goodIn_r _ [51, 52, 53, 54, 55, 56, 18, 19, 20, 21, 57, 58, 59, 60, 26, 27, 28, 29, 30, 31, 32, 33, 34, 35, 36, 37, 38, 39, 40, 41, 42, 43, 61, 62, 46, 63, 64, 65, 66, 67, 68, 69, 70, 71, 72, 105, 106, 107, 108, 109, 110, 111, 112, 93, 94, 95, 96, 97, 98, 99, 100, 101, 102, 103, 104] (by decide +kernel) (by decide +kernel)
set_option maxRecDepth 20000 in
theorem gX1_measure_X1_measureAngles : GoodIn wsX1_measure (wsV RX1 50 RX1 yX1_measureAngles wsX1_measureAngles) := goodIn_app (goodIn_of _ (by decide +kernel)) ggX1_measure_X1_measureAngles
set_option maxRecDepth 20000 in
theorem ggX1_measure_X1_judge : GoodIn wsX1_measure wsX1_judge := goodIn_r _ [76, 77, 54, 78, 55, 79, 80, 10, 81, 82, 2, 17, 83, 84, 85, 20, 86, 87, 34, 88, 19, 21, 105, 106, 107, 108, 109, 110, 111, 112, 93, 94, 95, 96, 97, 98, 99, 100, 101, 102, 103, 104] (by decide +kernel) (by decide +kernel)
set_option maxRecDepth 20000 in
theorem gX1_measure_X1_judge : GoodIn wsX1_measure (wsV RX1 53 RX1 yX1_judge wsX1_judge) := goodIn_app (goodIn_of _ (by decide +kernel)) ggX1_measure_X1_judge
set_option maxRecDepth 20000 in
theorem ggX1_measure_X1_leaveOut : GoodIn wsX1_measure wsX1_leaveOut := goodIn_r _ [92, 15, 16, 17, 55, 77, 78, 52, 56, 82, 105, 106, 107, 108, 109, 110, 111, 112] (by decide +kernel) (by decide +kernel)
set_option maxRecDepth 20000 in
theorem gX1_measure_X1_leaveOut : GoodIn wsX1_measure (wsV RX1 57 RX1 yX1_leaveOut wsX1_leaveOut) := goodIn_app (goodIn_of _ (by decide +kernel)) ggX1_measure_X1_leaveOut
theorem dX1_measure_0 : decode cX1_measure 0 = .ok (.iconst 0, 1) := by decide +kernel
theorem dX1_measure_1 : decode cX1_measure 1 = .ok (.istore_n 2, 1) := by decide +kernel
theorem dX1_measure_2 : decode cX1_measure 2 = .ok (.iload_n 2, 1) := by decide +kernel
theorem dX1_measure_3 : decode cX1_measure 3 = .ok (.aload_n 1, 1) := by decide +kernel
theorem dX1_measure_4 : decode cX1_measure 4 = .ok (.getfield 37, 3) := by decide +kernel
theorem dX1_measure_7 : decode cX1_measure 7 = .ok (.if_icmp .ge 56, 3) := by decide +kernel
theorem dX1_measure_10 : decode cX1_measure 10 = .ok (.aload_n 1, 1) := by decide +kernel
theorem dX1_measure_11 : decode cX1_measure 11 = .ok (.getfield 43, 3) := by decide +kernel
theorem dX1_measure_14 : decode cX1_measure 14 = .ok (.iload_n 2, 1) := by decide +kernel
theorem dX1_measure_15 : decode cX1_measure 15 = .ok (.iaload, 1) := by decide +kernel
theorem dX1_measure_16 : decode cX1_measure 16 = .ok (.ifCond .le 36, 3) := by decide +kernel
theorem dX1_measure_19 : decode cX1_measure 19 = .ok (.aload_n 0, 1) := by decide +kernel
theorem dX1_measure_20 : decode cX1_measure 20 = .ok (.aload_n 1, 1) := by decide +kernel
theorem dX1_measure_21 : decode cX1_measure 21 = .ok (.iload_n 2, 1) := by decide +kernel
theorem dX1_measure_22 : decode cX1_measure 22 = .ok (.aload_n 1, 1) := by decide +kernel
theorem dX1_measure_23 : decode cX1_measure 23 = .ok (.getfield 43, 3) := by decide +kernel
theorem dX1_measure_26 : decode cX1_measure 26 = .ok (.iload_n 2, 1) := by decide +kernel
theorem dX1_measure_27 : decode cX1_measure 27 = .ok (.iaload, 1) := by decide +kernel
theorem dX1_measure_28 : decode cX1_measure 28 = .ok (.invokevirtual 46, 3) := by decide +kernel
theorem dX1_measure_31 : decode cX1_measure 31 = .ok (.aload_n 0, 1) := by decide +kernel
theorem dX1_measure_32 : decode cX1_measure 32 = .ok (.aload_n 1, 1) := by decide +kernel
theorem dX1_measure_33 : decode cX1_measure 33 = .ok (.iload_n 2, 1) := by decide +kernel
theorem dX1_measure_34 : decode cX1_measure 34 = .ok (.aload_n 1, 1) := by decide +kernel
theorem dX1_measure_35 : decode cX1_measure 35 = .ok (.getfield 43, 3) := by decide +kernel
theorem dX1_measure_38 : decode cX1_measure 38 = .ok (.iload_n 2, 1) := by decide +kernel
theorem dX1_measure_39 : decode cX1_measure 39 = .ok (.iaload, 1) := by decide +kernel
theorem dX1_measure_40 : decode cX1_measure 40 = .ok (.invokevirtual 50, 3) := by decide +kernel
theorem dX1_measure_43 : decode cX1_measure 43 = .ok (.aload_n 0, 1) := by decide +kernel
theorem dX1_measure_44 : decode cX1_measure 44 = .ok (.aload_n 1, 1) := by decide +kernel
theorem dX1_measure_45 : decode cX1_measure 45 = .ok (.iload_n 2, 1) := by decide +kernel
theorem dX1_measure_46 : decode cX1_measure 46 = .ok (.invokevirtual 53, 3) := by decide +kernel
theorem dX1_measure_49 : decode cX1_measure 49 = .ok (.goto 8, 3) := by decide +kernel
theorem dX1_measure_52 : decode cX1_measure 52 = .ok (.aload_n 0, 1) := by decide +kernel
theorem dX1_measure_53 : decode cX1_measure 53 = .ok (.iload_n 2, 1) := by decide +kernel
theorem dX1_measure_54 : decode cX1_measure 54 = .ok (.invokevirtual 57, 3) := by decide +kernel
theorem dX1_measure_57 : decode cX1_measure 57 = .ok (.iinc 2 1, 3) := by decide +kernel
theorem dX1_measure_60 : decode cX1_measure 60 = .ok (.goto (-58), 3) := by decide +kernel
theorem dX1_measure_63 : decode cX1_measure 63 = .ok (.return_, 1) := by decide +kernel
theorem dX1_leaveOut_0 : decode cX1_leaveOut 0 = .ok (.aload_n 0, 1) := by decide +kernel
theorem dX1_leaveOut_1 : decode cX1_leaveOut 1 = .ok (.getfield 9, 3) := by decide +kernel
theorem dX1_leaveOut_4 : decode cX1_leaveOut 4 = .ok (.iload_n 1, 1) := by decide +kernel
theorem dX1_leaveOut_5 : decode cX1_leaveOut 5 = .ok (.ldc 61, 2) := by decide +kernel
theorem dX1_leaveOut_7 : decode cX1_leaveOut 7 = .ok (.iastore, 1) := by decide +kernel
theorem dX1_leaveOut_8 : decode cX1_leaveOut 8 = .ok (.aload_n 0, 1) := by decide +kernel
theorem dX1_leaveOut_9 : decode cX1_leaveOut 9 = .ok (.getfield 15, 3) := by decide +kernel
theorem dX1_leaveOut_12 : decode cX1_leaveOut 12 = .ok (.iload_n 1, 1) := by decide +kernel
theorem dX1_leaveOut_13 : decode cX1_leaveOut 13 = .ok (.ldc 61, 2) := by decide +kernel
theorem dX1_leaveOut_15 : decode cX1_leaveOut 15 = .ok (.iastore, 1) := by decide +kernel
theorem dX1_leaveOut_16 : decode cX1_leaveOut 16 = .ok (.aload_n 0, 1) := by decide +kernel
theorem dX1_leaveOut_17 : decode cX1_leaveOut 17 = .ok (.getfield 18, 3) := by decide +kernel
theorem dX1_leaveOut_20 : decode cX1_leaveOut 20 = .ok (.iload_n 1, 1) := by decide +kernel
theorem dX1_leaveOut_21 : decode cX1_leaveOut 21 = .ok (.ldc 61, 2) := by decide +kernel
theorem dX1_leaveOut_23 : decode cX1_leaveOut 23 = .ok (.iastore, 1) := by decide +kernel
theorem dX1_leaveOut_24 : decode cX1_leaveOut 24 = .ok (.aload_n 0, 1) := by decide +kernel
theorem dX1_leaveOut_25 : decode cX1_leaveOut 25 = .ok (.getfield 21, 3) := by decide +kernel
theorem dX1_leaveOut_28 : decode cX1_leaveOut 28 = .ok (.iload_n 1, 1) := by decide +kernel
theorem dX1_leaveOut_29 : decode cX1_leaveOut 29 = .ok (.ldc 61, 2) := by decide +kernel
theorem dX1_leaveOut_31 : decode cX1_leaveOut 31 = .ok (.iastore, 1) := by decide +kernel
theorem dX1_leaveOut_32 : decode cX1_leaveOut 32 = .ok (.aload_n 0, 1) := by decide +kernel
theorem dX1_leaveOut_33 : decode cX1_leaveOut 33 = .ok (.getfield 24, 3) := by decide +kernel
theorem dX1_leaveOut_36 : decode cX1_leaveOut 36 = .ok (.iload_n 1, 1) := by decide +kernel
theorem dX1_leaveOut_37 : decode cX1_leaveOut 37 = .ok (.ldc 61, 2) := by decide +kernel
theorem dX1_leaveOut_39 : decode cX1_leaveOut 39 = .ok (.iastore, 1) := by decide +kernel
theorem dX1_leaveOut_40 : decode cX1_leaveOut 40 = .ok (.aload_n 0, 1) := by decide +kernel
theorem dX1_leaveOut_41 : decode cX1_leaveOut 41 = .ok (.getfield 30, 3) := by decide +kernel
theorem dX1_leaveOut_44 : decode cX1_leaveOut 44 = .ok (.iload_n 1, 1) := by decide +kernel
theorem dX1_leaveOut_45 : decode cX1_leaveOut 45 = .ok (.ldc 61, 2) := by decide +kernel
theorem dX1_leaveOut_47 : decode cX1_leaveOut 47 = .ok (.iastore, 1) := by decide +kernel
theorem dX1_leaveOut_48 : decode cX1_leaveOut 48 = .ok (.aload_n 0, 1) := by decide +kernel
theorem dX1_leaveOut_49 : decode cX1_leaveOut 49 = .ok (.getfield 27, 3) := by decide +kernel
theorem dX1_leaveOut_52 : decode cX1_leaveOut 52 = .ok (.iload_n 1, 1) := by decide +kernel
theorem dX1_leaveOut_53 : decode cX1_leaveOut 53 = .ok (.iconst 0, 1) := by decide +kernel
theorem dX1_leaveOut_54 : decode cX1_leaveOut 54 = .ok (.iastore, 1) := by decide +kernel
theorem dX1_leaveOut_55 : decode cX1_leaveOut 55 = .ok (.aload_n 0, 1) := by decide +kernel
theorem dX1_leaveOut_56 : decode cX1_leaveOut 56 = .ok (.getfield 33, 3) := by decide +kernel
theorem dX1_leaveOut_59 : decode cX1_leaveOut 59 = .ok (.iload_n 1, 1) := by decide +kernel
theorem dX1_leaveOut_60 : decode cX1_leaveOut 60 = .ok (.iconst 0, 1) := by decide +kernel
theorem dX1_leaveOut_61 : decode cX1_leaveOut 61 = .ok (.bastore, 1) := by decide +kernel
theorem dX1_leaveOut_62 : decode cX1_leaveOut 62 = .ok (.return_, 1) := by decide +kernel
set_option maxRecDepth 20000 in
theorem ggX1_measureRadii_X4_slot : GoodIn wsX1_measureRadii wsX4_slot := goodIn_r _ [14] (by decide +kernel) (by decide +kernel)
set_option maxRecDepth 20000 in
theorem gX1_measureRadii_X4_slot : GoodIn wsX1_measureRadii (va_wsS RX1 62 yX4_slot wsX4_slot) := goodIn_app (goodIn_of _ (by decide +kernel)) ggX1_measureRadii_X4_slot
set_option maxRecDepth 20000 in
theorem ggX1_measureRadii_X4_radiusAt : GoodIn wsX1_measureRadii wsX4_radiusAt := goodIn_r _ [18, 19, 20, 21, 22, 23, 24, 13, 25, 26, 27, 28, 29, 30, 31, 32, 33, 34, 35, 36, 37, 38, 39, 40, 49, 50, 51, 52, 53, 54, 55, 56, 57, 58, 59, 60] (by decide +kernel) (by decide +kernel)
set_option maxRecDepth 20000 in
theorem gX1_measureRadii_X4_radiusAt : GoodIn wsX1_measureRadii (wsV RX1 66 RX4 yX4_radiusAt wsX4_radiusAt) := goodIn_app (goodIn_of _ (by decide +kernel)) ggX1_measureRadii_X4_radiusAt
theorem dX1_measureRadii_0 : decode cX1_measureRadii 0 = .ok (.iconst 0, 1) := by decide +kernel
theorem dX1_measureRadii_1 : decode cX1_measureRadii 1 = .ok (.istore 4, 2) := by decide +kernel
theorem dX1_measureRadii_3 : decode cX1_measureRadii 3 = .ok (.iconst 0, 1) := by decide +kernel
theorem dX1_measureRadii_4 : decode cX1_measureRadii 4 = .ok (.istore 5, 2) := by decide +kernel
theorem dX1_measureRadii_6 : decode cX1_measureRadii 6 = .ok (.iconst 0, 1) := by decide +kernel
theorem dX1_measureRadii_7 : decode cX1_measureRadii 7 = .ok (.istore 6, 2) := by decide +kernel
theorem dX1_measureRadii_9 : decode cX1_measureRadii 9 = .ok (.iconst 0, 1) := by decide +kernel
theorem dX1_measureRadii_10 : decode cX1_measureRadii 10 = .ok (.istore 7, 2) := by decide +kernel
theorem dX1_measureRadii_12 : decode cX1_measureRadii 12 = .ok (.iload 7, 2) := by decide +kernel
theorem dX1_measureRadii_14 : decode cX1_measureRadii 14 = .ok (.iload_n 3, 1) := by decide +kernel
theorem dX1_measureRadii_15 : decode cX1_measureRadii 15 = .ok (.if_icmp .ge 66, 3) := by decide +kernel
theorem dX1_measureRadii_18 : decode cX1_measureRadii 18 = .ok (.aload_n 1, 1) := by decide +kernel
theorem dX1_measureRadii_19 : decode cX1_measureRadii 19 = .ok (.iload_n 2, 1) := by decide +kernel
theorem dX1_measureRadii_20 : decode cX1_measureRadii 20 = .ok (.iload 7, 2) := by decide +kernel
theorem dX1_measureRadii_22 : decode cX1_measureRadii 22 = .ok (.invokestatic 62, 3) := by decide +kernel
theorem dX1_measureRadii_25 : decode cX1_measureRadii 25 = .ok (.invokevirtual 66, 3) := by decide +kernel
theorem dX1_measureRadii_28 : decode cX1_measureRadii 28 = .ok (.istore 8, 2) := by decide +kernel
theorem dX1_measureRadii_30 : decode cX1_measureRadii 30 = .ok (.iload 4, 2) := by decide +kernel
theorem dX1_measureRadii_32 : decode cX1_measureRadii 32 = .ok (.iload 8, 2) := by decide +kernel
theorem dX1_measureRadii_34 : decode cX1_measureRadii 34 = .ok (.iadd, 1) := by decide +kernel
theorem dX1_measureRadii_35 : decode cX1_measureRadii 35 = .ok (.istore 4, 2) := by decide +kernel
theorem dX1_measureRadii_37 : decode cX1_measureRadii 37 = .ok (.iload 7, 2) := by decide +kernel
theorem dX1_measureRadii_39 : decode cX1_measureRadii 39 = .ok (.ifCond .ne 8, 3) := by decide +kernel
theorem dX1_measureRadii_42 : decode cX1_measureRadii 42 = .ok (.iload 8, 2) := by decide +kernel
theorem dX1_measureRadii_44 : decode cX1_measureRadii 44 = .ok (.goto 10, 3) := by decide +kernel
theorem dX1_measureRadii_47 : decode cX1_measureRadii 47 = .ok (.iload 5, 2) := by decide +kernel
theorem dX1_measureRadii_49 : decode cX1_measureRadii 49 = .ok (.iload 8, 2) := by decide +kernel
theorem dX1_measureRadii_51 : decode cX1_measureRadii 51 = .ok (.invokestatic 70, 3) := by decide +kernel
theorem dX1_measureRadii_54 : decode cX1_measureRadii 54 = .ok (.istore 5, 2) := by decide +kernel
theorem dX1_measureRadii_56 : decode cX1_measureRadii 56 = .ok (.iload 7, 2) := by decide +kernel
theorem dX1_measureRadii_58 : decode cX1_measureRadii 58 = .ok (.ifCond .ne 8, 3) := by decide +kernel
theorem dX1_measureRadii_61 : decode cX1_measureRadii 61 = .ok (.iload 8, 2) := by decide +kernel
theorem dX1_measureRadii_63 : decode cX1_measureRadii 63 = .ok (.goto 10, 3) := by decide +kernel
theorem dX1_measureRadii_66 : decode cX1_measureRadii 66 = .ok (.iload 6, 2) := by decide +kernel
theorem dX1_measureRadii_68 : decode cX1_measureRadii 68 = .ok (.iload 8, 2) := by decide +kernel
theorem dX1_measureRadii_70 : decode cX1_measureRadii 70 = .ok (.invokestatic 75, 3) := by decide +kernel
theorem dX1_measureRadii_73 : decode cX1_measureRadii 73 = .ok (.istore 6, 2) := by decide +kernel
theorem dX1_measureRadii_75 : decode cX1_measureRadii 75 = .ok (.iinc 7 1, 3) := by decide +kernel
theorem dX1_measureRadii_78 : decode cX1_measureRadii 78 = .ok (.goto (-66), 3) := by decide +kernel
theorem dX1_measureRadii_81 : decode cX1_measureRadii 81 = .ok (.aload_n 0, 1) := by decide +kernel
theorem dX1_measureRadii_82 : decode cX1_measureRadii 82 = .ok (.getfield 9, 3) := by decide +kernel
theorem dX1_measureRadii_85 : decode cX1_measureRadii 85 = .ok (.iload_n 2, 1) := by decide +kernel
theorem dX1_measureRadii_86 : decode cX1_measureRadii 86 = .ok (.iload_n 3, 1) := by decide +kernel
theorem dX1_measureRadii_87 : decode cX1_measureRadii 87 = .ok (.ifCond .le 10, 3) := by decide +kernel
theorem dX1_measureRadii_90 : decode cX1_measureRadii 90 = .ok (.iload 4, 2) := by decide +kernel
theorem dX1_measureRadii_92 : decode cX1_measureRadii 92 = .ok (.iload_n 3, 1) := by decide +kernel
theorem dX1_measureRadii_93 : decode cX1_measureRadii 93 = .ok (.idiv, 1) := by decide +kernel
theorem dX1_measureRadii_94 : decode cX1_measureRadii 94 = .ok (.goto 5, 3) := by decide +kernel
theorem dX1_measureRadii_97 : decode cX1_measureRadii 97 = .ok (.ldc 61, 2) := by decide +kernel
theorem dX1_measureRadii_99 : decode cX1_measureRadii 99 = .ok (.iastore, 1) := by decide +kernel
theorem dX1_measureRadii_100 : decode cX1_measureRadii 100 = .ok (.aload_n 0, 1) := by decide +kernel
theorem dX1_measureRadii_101 : decode cX1_measureRadii 101 = .ok (.getfield 15, 3) := by decide +kernel
theorem dX1_measureRadii_104 : decode cX1_measureRadii 104 = .ok (.iload_n 2, 1) := by decide +kernel
theorem dX1_measureRadii_105 : decode cX1_measureRadii 105 = .ok (.iload 6, 2) := by decide +kernel
theorem dX1_measureRadii_107 : decode cX1_measureRadii 107 = .ok (.iload 5, 2) := by decide +kernel
theorem dX1_measureRadii_109 : decode cX1_measureRadii 109 = .ok (.isub, 1) := by decide +kernel
theorem dX1_measureRadii_110 : decode cX1_measureRadii 110 = .ok (.iastore, 1) := by decide +kernel
theorem dX1_measureRadii_111 : decode cX1_measureRadii 111 = .ok (.return_, 1) := by decide +kernel
set_option maxRecDepth 20000 in
theorem ggX1_measureAngles_X4_slot : GoodIn wsX1_measureAngles wsX4_slot := goodIn_r _ [9] (by decide +kernel) (by decide +kernel)
set_option maxRecDepth 20000 in
theorem gX1_measureAngles_X4_slot : GoodIn wsX1_measureAngles (va_wsS RX1 62 yX4_slot wsX4_slot) := goodIn_app (goodIn_of _ (by decide +kernel)) ggX1_measureAngles_X4_slot
set_option maxRecDepth 20000 in
theorem ggX1_measureAngles_X4_angleAt : GoodIn wsX1_measureAngles wsX4_angleAt := goodIn_r _ [13, 14, 15, 16, 17, 18, 19, 8, 20, 21, 22, 23, 24, 25, 26, 27, 28, 29, 30, 31, 32, 33, 34, 35, 36, 37, 38, 39, 40, 41, 53, 54, 55, 56, 57, 58, 59, 60, 61, 62, 63, 64] (by decide +kernel) (by decide +kernel)
set_option maxRecDepth 20000 in
theorem gX1_measureAngles_X4_angleAt : GoodIn wsX1_measureAngles (wsV RX1 78 RX4 yX4_angleAt wsX4_angleAt) := goodIn_app (goodIn_of _ (by decide +kernel)) ggX1_measureAngles_X4_angleAt
set_option maxRecDepth 20000 in
theorem ggX1_measureAngles_X0_turn : GoodIn wsX1_measureAngles wsX0_turn := goodIn_r _ [44, 38, 36, 39, 40, 25, 41] (by decide +kernel) (by decide +kernel)
set_option maxRecDepth 20000 in
theorem gX1_measureAngles_X0_turn : GoodIn wsX1_measureAngles (va_wsS RX1 81 yX0_turn wsX0_turn) := goodIn_app (goodIn_of _ (by decide +kernel)) ggX1_measureAngles_X0_turn
theorem dX1_measureAngles_0 : decode cX1_measureAngles 0 = .ok (.iconst 0, 1) := by decide +kernel
theorem dX1_measureAngles_1 : decode cX1_measureAngles 1 = .ok (.istore 4, 2) := by decide +kernel
theorem dX1_measureAngles_3 : decode cX1_measureAngles 3 = .ok (.iconst 0, 1) := by decide +kernel
theorem dX1_measureAngles_4 : decode cX1_measureAngles 4 = .ok (.istore 5, 2) := by decide +kernel
theorem dX1_measureAngles_6 : decode cX1_measureAngles 6 = .ok (.aload_n 1, 1) := by decide +kernel
theorem dX1_measureAngles_7 : decode cX1_measureAngles 7 = .ok (.iload_n 2, 1) := by decide +kernel
theorem dX1_measureAngles_8 : decode cX1_measureAngles 8 = .ok (.iconst 0, 1) := by decide +kernel
theorem dX1_measureAngles_9 : decode cX1_measureAngles 9 = .ok (.invokestatic 62, 3) := by decide +kernel
theorem dX1_measureAngles_12 : decode cX1_measureAngles 12 = .ok (.invokevirtual 78, 3) := by decide +kernel
theorem dX1_measureAngles_15 : decode cX1_measureAngles 15 = .ok (.istore 6, 2) := by decide +kernel
theorem dX1_measureAngles_17 : decode cX1_measureAngles 17 = .ok (.aload_n 0, 1) := by decide +kernel
theorem dX1_measureAngles_18 : decode cX1_measureAngles 18 = .ok (.getfield 30, 3) := by decide +kernel
theorem dX1_measureAngles_21 : decode cX1_measureAngles 21 = .ok (.iload_n 2, 1) := by decide +kernel
theorem dX1_measureAngles_22 : decode cX1_measureAngles 22 = .ok (.iload 6, 2) := by decide +kernel
theorem dX1_measureAngles_24 : decode cX1_measureAngles 24 = .ok (.iastore, 1) := by decide +kernel
theorem dX1_measureAngles_25 : decode cX1_measureAngles 25 = .ok (.iconst 1, 1) := by decide +kernel
theorem dX1_measureAngles_26 : decode cX1_measureAngles 26 = .ok (.istore 7, 2) := by decide +kernel
theorem dX1_measureAngles_28 : decode cX1_measureAngles 28 = .ok (.iload 7, 2) := by decide +kernel
theorem dX1_measureAngles_30 : decode cX1_measureAngles 30 = .ok (.iload_n 3, 1) := by decide +kernel
theorem dX1_measureAngles_31 : decode cX1_measureAngles 31 = .ok (.if_icmp .ge 71, 3) := by decide +kernel
theorem dX1_measureAngles_34 : decode cX1_measureAngles 34 = .ok (.iload_n 2, 1) := by decide +kernel
theorem dX1_measureAngles_35 : decode cX1_measureAngles 35 = .ok (.iload 7, 2) := by decide +kernel
theorem dX1_measureAngles_37 : decode cX1_measureAngles 37 = .ok (.invokestatic 62, 3) := by decide +kernel
theorem dX1_measureAngles_40 : decode cX1_measureAngles 40 = .ok (.istore 8, 2) := by decide +kernel
theorem dX1_measureAngles_42 : decode cX1_measureAngles 42 = .ok (.aload_n 1, 1) := by decide +kernel
theorem dX1_measureAngles_43 : decode cX1_measureAngles 43 = .ok (.iload 8, 2) := by decide +kernel
theorem dX1_measureAngles_45 : decode cX1_measureAngles 45 = .ok (.invokevirtual 78, 3) := by decide +kernel
theorem dX1_measureAngles_48 : decode cX1_measureAngles 48 = .ok (.istore 9, 2) := by decide +kernel
theorem dX1_measureAngles_50 : decode cX1_measureAngles 50 = .ok (.iload 4, 2) := by decide +kernel
theorem dX1_measureAngles_52 : decode cX1_measureAngles 52 = .ok (.iload 6, 2) := by decide +kernel
theorem dX1_measureAngles_54 : decode cX1_measureAngles 54 = .ok (.iload 9, 2) := by decide +kernel
theorem dX1_measureAngles_56 : decode cX1_measureAngles 56 = .ok (.invokestatic 81, 3) := by decide +kernel
theorem dX1_measureAngles_59 : decode cX1_measureAngles 59 = .ok (.iadd, 1) := by decide +kernel
theorem dX1_measureAngles_60 : decode cX1_measureAngles 60 = .ok (.istore 4, 2) := by decide +kernel
theorem dX1_measureAngles_62 : decode cX1_measureAngles 62 = .ok (.iload 9, 2) := by decide +kernel
theorem dX1_measureAngles_64 : decode cX1_measureAngles 64 = .ok (.istore 6, 2) := by decide +kernel
theorem dX1_measureAngles_66 : decode cX1_measureAngles 66 = .ok (.aload_n 1, 1) := by decide +kernel
theorem dX1_measureAngles_67 : decode cX1_measureAngles 67 = .ok (.getfield 86, 3) := by decide +kernel
theorem dX1_measureAngles_70 : decode cX1_measureAngles 70 = .ok (.iload 8, 2) := by decide +kernel
theorem dX1_measureAngles_72 : decode cX1_measureAngles 72 = .ok (.iaload, 1) := by decide +kernel
theorem dX1_measureAngles_73 : decode cX1_measureAngles 73 = .ok (.aload_n 1, 1) := by decide +kernel
theorem dX1_measureAngles_74 : decode cX1_measureAngles 74 = .ok (.getfield 86, 3) := by decide +kernel
theorem dX1_measureAngles_77 : decode cX1_measureAngles 77 = .ok (.iload 8, 2) := by decide +kernel
theorem dX1_measureAngles_79 : decode cX1_measureAngles 79 = .ok (.iconst 1, 1) := by decide +kernel
theorem dX1_measureAngles_80 : decode cX1_measureAngles 80 = .ok (.isub, 1) := by decide +kernel
theorem dX1_measureAngles_81 : decode cX1_measureAngles 81 = .ok (.iaload, 1) := by decide +kernel
theorem dX1_measureAngles_82 : decode cX1_measureAngles 82 = .ok (.isub, 1) := by decide +kernel
theorem dX1_measureAngles_83 : decode cX1_measureAngles 83 = .ok (.aload_n 1, 1) := by decide +kernel
theorem dX1_measureAngles_84 : decode cX1_measureAngles 84 = .ok (.getfield 89, 3) := by decide +kernel
theorem dX1_measureAngles_87 : decode cX1_measureAngles 87 = .ok (.bipush 6, 2) := by decide +kernel
theorem dX1_measureAngles_89 : decode cX1_measureAngles 89 = .ok (.iaload, 1) := by decide +kernel
theorem dX1_measureAngles_90 : decode cX1_measureAngles 90 = .ok (.if_icmp .le 6, 3) := by decide +kernel
theorem dX1_measureAngles_93 : decode cX1_measureAngles 93 = .ok (.iinc 5 1, 3) := by decide +kernel
theorem dX1_measureAngles_96 : decode cX1_measureAngles 96 = .ok (.iinc 7 1, 3) := by decide +kernel
theorem dX1_measureAngles_99 : decode cX1_measureAngles 99 = .ok (.goto (-71), 3) := by decide +kernel
theorem dX1_measureAngles_102 : decode cX1_measureAngles 102 = .ok (.aload_n 0, 1) := by decide +kernel
theorem dX1_measureAngles_103 : decode cX1_measureAngles 103 = .ok (.getfield 18, 3) := by decide +kernel
theorem dX1_measureAngles_106 : decode cX1_measureAngles 106 = .ok (.iload_n 2, 1) := by decide +kernel
theorem dX1_measureAngles_107 : decode cX1_measureAngles 107 = .ok (.iload 4, 2) := by decide +kernel
theorem dX1_measureAngles_109 : decode cX1_measureAngles 109 = .ok (.iastore, 1) := by decide +kernel
theorem dX1_measureAngles_110 : decode cX1_measureAngles 110 = .ok (.aload_n 0, 1) := by decide +kernel
theorem dX1_measureAngles_111 : decode cX1_measureAngles 111 = .ok (.getfield 27, 3) := by decide +kernel
theorem dX1_measureAngles_114 : decode cX1_measureAngles 114 = .ok (.iload_n 2, 1) := by decide +kernel
theorem dX1_measureAngles_115 : decode cX1_measureAngles 115 = .ok (.iload 5, 2) := by decide +kernel
theorem dX1_measureAngles_117 : decode cX1_measureAngles 117 = .ok (.iastore, 1) := by decide +kernel
theorem dX1_measureAngles_118 : decode cX1_measureAngles 118 = .ok (.return_, 1) := by decide +kernel
set_option maxRecDepth 20000 in
theorem ggX1_judge_X4_frameSpan : GoodIn wsX1_judge wsX4_frameSpan := goodIn_r _ [16, 17, 18, 19, 20, 15, 21, 30, 31, 32, 33, 34, 35, 36, 37, 38, 39, 40, 41] (by decide +kernel) (by decide +kernel)
set_option maxRecDepth 20000 in
theorem gX1_judge_X4_frameSpan : GoodIn wsX1_judge (wsV RX1 92 RX4 yX4_frameSpan wsX4_frameSpan) := goodIn_app (goodIn_of _ (by decide +kernel)) ggX1_judge_X4_frameSpan
theorem dX1_judge_0 : decode cX1_judge 0 = .ok (.aload_n 0, 1) := by decide +kernel
theorem dX1_judge_1 : decode cX1_judge 1 = .ok (.getfield 21, 3) := by decide +kernel
theorem dX1_judge_4 : decode cX1_judge 4 = .ok (.iload_n 2, 1) := by decide +kernel
theorem dX1_judge_5 : decode cX1_judge 5 = .ok (.aload_n 1, 1) := by decide +kernel
theorem dX1_judge_6 : decode cX1_judge 6 = .ok (.getfield 89, 3) := by decide +kernel
theorem dX1_judge_9 : decode cX1_judge 9 = .ok (.iconst 0, 1) := by decide +kernel
theorem dX1_judge_10 : decode cX1_judge 10 = .ok (.iaload, 1) := by decide +kernel
theorem dX1_judge_11 : decode cX1_judge 11 = .ok (.aload_n 1, 1) := by decide +kernel
theorem dX1_judge_12 : decode cX1_judge 12 = .ok (.iload_n 2, 1) := by decide +kernel
theorem dX1_judge_13 : decode cX1_judge 13 = .ok (.invokevirtual 92, 3) := by decide +kernel
theorem dX1_judge_16 : decode cX1_judge 16 = .ok (.imul, 1) := by decide +kernel
theorem dX1_judge_17 : decode cX1_judge 17 = .ok (.iastore, 1) := by decide +kernel
theorem dX1_judge_18 : decode cX1_judge 18 = .ok (.aload_n 0, 1) := by decide +kernel
theorem dX1_judge_19 : decode cX1_judge 19 = .ok (.getfield 24, 3) := by decide +kernel
theorem dX1_judge_22 : decode cX1_judge 22 = .ok (.iload_n 2, 1) := by decide +kernel
theorem dX1_judge_23 : decode cX1_judge 23 = .ok (.aload_n 0, 1) := by decide +kernel
theorem dX1_judge_24 : decode cX1_judge 24 = .ok (.getfield 18, 3) := by decide +kernel
theorem dX1_judge_27 : decode cX1_judge 27 = .ok (.iload_n 2, 1) := by decide +kernel
theorem dX1_judge_28 : decode cX1_judge 28 = .ok (.iaload, 1) := by decide +kernel
theorem dX1_judge_29 : decode cX1_judge 29 = .ok (.aload_n 0, 1) := by decide +kernel
theorem dX1_judge_30 : decode cX1_judge 30 = .ok (.getfield 21, 3) := by decide +kernel
theorem dX1_judge_33 : decode cX1_judge 33 = .ok (.iload_n 2, 1) := by decide +kernel
theorem dX1_judge_34 : decode cX1_judge 34 = .ok (.iaload, 1) := by decide +kernel
theorem dX1_judge_35 : decode cX1_judge 35 = .ok (.isub, 1) := by decide +kernel
theorem dX1_judge_36 : decode cX1_judge 36 = .ok (.invokestatic 95, 3) := by decide +kernel
theorem dX1_judge_39 : decode cX1_judge 39 = .ok (.iastore, 1) := by decide +kernel
theorem dX1_judge_40 : decode cX1_judge 40 = .ok (.aload_n 0, 1) := by decide +kernel
theorem dX1_judge_41 : decode cX1_judge 41 = .ok (.getfield 33, 3) := by decide +kernel
theorem dX1_judge_44 : decode cX1_judge 44 = .ok (.iload_n 2, 1) := by decide +kernel
theorem dX1_judge_45 : decode cX1_judge 45 = .ok (.aload_n 1, 1) := by decide +kernel
theorem dX1_judge_46 : decode cX1_judge 46 = .ok (.getfield 43, 3) := by decide +kernel
theorem dX1_judge_49 : decode cX1_judge 49 = .ok (.iload_n 2, 1) := by decide +kernel
theorem dX1_judge_50 : decode cX1_judge 50 = .ok (.iaload, 1) := by decide +kernel
theorem dX1_judge_51 : decode cX1_judge 51 = .ok (.iconst 2, 1) := by decide +kernel
theorem dX1_judge_52 : decode cX1_judge 52 = .ok (.if_icmp .lt 37, 3) := by decide +kernel
theorem dX1_judge_55 : decode cX1_judge 55 = .ok (.aload_n 0, 1) := by decide +kernel
theorem dX1_judge_56 : decode cX1_judge 56 = .ok (.getfield 15, 3) := by decide +kernel
theorem dX1_judge_59 : decode cX1_judge 59 = .ok (.iload_n 2, 1) := by decide +kernel
theorem dX1_judge_60 : decode cX1_judge 60 = .ok (.iaload, 1) := by decide +kernel
theorem dX1_judge_61 : decode cX1_judge 61 = .ok (.aload_n 1, 1) := by decide +kernel
theorem dX1_judge_62 : decode cX1_judge 62 = .ok (.getfield 89, 3) := by decide +kernel
theorem dX1_judge_65 : decode cX1_judge 65 = .ok (.iconst 3, 1) := by decide +kernel
theorem dX1_judge_66 : decode cX1_judge 66 = .ok (.iaload, 1) := by decide +kernel
theorem dX1_judge_67 : decode cX1_judge 67 = .ok (.if_icmp .gt 22, 3) := by decide +kernel
theorem dX1_judge_70 : decode cX1_judge 70 = .ok (.aload_n 0, 1) := by decide +kernel
theorem dX1_judge_71 : decode cX1_judge 71 = .ok (.getfield 24, 3) := by decide +kernel
theorem dX1_judge_74 : decode cX1_judge 74 = .ok (.iload_n 2, 1) := by decide +kernel
theorem dX1_judge_75 : decode cX1_judge 75 = .ok (.iaload, 1) := by decide +kernel
theorem dX1_judge_76 : decode cX1_judge 76 = .ok (.aload_n 1, 1) := by decide +kernel
theorem dX1_judge_77 : decode cX1_judge 77 = .ok (.getfield 89, 3) := by decide +kernel
theorem dX1_judge_80 : decode cX1_judge 80 = .ok (.iconst 4, 1) := by decide +kernel
theorem dX1_judge_81 : decode cX1_judge 81 = .ok (.iaload, 1) := by decide +kernel
theorem dX1_judge_82 : decode cX1_judge 82 = .ok (.if_icmp .gt 7, 3) := by decide +kernel
theorem dX1_judge_85 : decode cX1_judge 85 = .ok (.iconst 1, 1) := by decide +kernel
theorem dX1_judge_86 : decode cX1_judge 86 = .ok (.goto 4, 3) := by decide +kernel
theorem dX1_judge_89 : decode cX1_judge 89 = .ok (.iconst 0, 1) := by decide +kernel
theorem dX1_judge_90 : decode cX1_judge 90 = .ok (.bastore, 1) := by decide +kernel
theorem dX1_judge_91 : decode cX1_judge 91 = .ok (.return_, 1) := by decide +kernel
set_option maxRecDepth 20000 in
theorem ggX2_init_X4_init : GoodIn wsX2_init wsX4_init := goodIn_r _ [11, 12, 2, 3, 13, 14, 15, 16, 17, 18, 19, 20, 21, 22, 23, 24, 25, 26, 27, 28, 29, 30, 31, 32, 35, 36, 37, 38, 39, 40, 41, 42, 43, 44, 45, 46] (by decide +kernel) (by decide +kernel)
set_option maxRecDepth 20000 in
theorem gX2_init_X4_init : GoodIn wsX2_init (wsX4_init) := ggX2_init_X4_init
theorem dX2_init_0 : decode cX2_init 0 = .ok (.aload_n 0, 1) := by decide +kernel
theorem dX2_init_1 : decode cX2_init 1 = .ok (.invokespecial 3, 3) := by decide +kernel
theorem dX2_init_4 : decode cX2_init 4 = .ok (.aload_n 0, 1) := by decide +kernel
theorem dX2_init_5 : decode cX2_init 5 = .ok (.iconst 0, 1) := by decide +kernel
theorem dX2_init_6 : decode cX2_init 6 = .ok (.putfield 9, 3) := by decide +kernel
theorem dX2_init_9 : decode cX2_init 9 = .ok (.aload_n 0, 1) := by decide +kernel
theorem dX2_init_10 : decode cX2_init 10 = .ok (.iconst 4, 1) := by decide +kernel
theorem dX2_init_11 : decode cX2_init 11 = .ok (.anewarray 15, 3) := by decide +kernel
theorem dX2_init_14 : decode cX2_init 14 = .ok (.putfield 17, 3) := by decide +kernel
theorem dX2_init_17 : decode cX2_init 17 = .ok (.iconst 0, 1) := by decide +kernel
theorem dX2_init_18 : decode cX2_init 18 = .ok (.istore_n 1, 1) := by decide +kernel
theorem dX2_init_19 : decode cX2_init 19 = .ok (.iload_n 1, 1) := by decide +kernel
theorem dX2_init_20 : decode cX2_init 20 = .ok (.iconst 4, 1) := by decide +kernel
theorem dX2_init_21 : decode cX2_init 21 = .ok (.if_icmp .ge 22, 3) := by decide +kernel
theorem dX2_init_24 : decode cX2_init 24 = .ok (.aload_n 0, 1) := by decide +kernel
theorem dX2_init_25 : decode cX2_init 25 = .ok (.getfield 17, 3) := by decide +kernel
theorem dX2_init_28 : decode cX2_init 28 = .ok (.iload_n 1, 1) := by decide +kernel
theorem dX2_init_29 : decode cX2_init 29 = .ok (.new 15, 3) := by decide +kernel
theorem dX2_init_32 : decode cX2_init 32 = .ok (.dup, 1) := by decide +kernel
theorem dX2_init_33 : decode cX2_init 33 = .ok (.invokespecial 21, 3) := by decide +kernel
theorem dX2_init_36 : decode cX2_init 36 = .ok (.aastore, 1) := by decide +kernel
theorem dX2_init_37 : decode cX2_init 37 = .ok (.iinc 1 1, 3) := by decide +kernel
theorem dX2_init_40 : decode cX2_init 40 = .ok (.goto (-21), 3) := by decide +kernel
theorem dX2_init_43 : decode cX2_init 43 = .ok (.return_, 1) := by decide +kernel
set_option maxRecDepth 20000 in
theorem ggX2_save_X2_dropOldest : GoodIn wsX2_save wsX2_dropOldest := goodIn_r _ [7, 2, 1, 36, 37] (by decide +kernel) (by decide +kernel)
set_option maxRecDepth 20000 in
theorem gX2_save_X2_dropOldest : GoodIn wsX2_save (wsV RX2 22 RX2 yX2_dropOldest wsX2_dropOldest) := goodIn_app (goodIn_of _ (by decide +kernel)) ggX2_save_X2_dropOldest
set_option maxRecDepth 20000 in
theorem ggX2_save_X4_copyFrom : GoodIn wsX2_save wsX4_copyFrom := goodIn_r _ [12, 13, 14, 15, 16, 17, 18, 19, 20, 21, 22, 23, 24, 25, 26, 11, 27, 28, 29, 30, 31, 32, 33, 34, 35, 38, 39, 40, 41, 42, 43, 44, 45, 46, 47, 48, 49] (by decide +kernel) (by decide +kernel)
set_option maxRecDepth 20000 in
theorem gX2_save_X4_copyFrom : GoodIn wsX2_save (wsV RX2 25 RX4 yX4_copyFrom wsX4_copyFrom) := goodIn_app (goodIn_of _ (by decide +kernel)) ggX2_save_X4_copyFrom
theorem dX2_save_0 : decode cX2_save 0 = .ok (.aload_n 0, 1) := by decide +kernel
theorem dX2_save_1 : decode cX2_save 1 = .ok (.getfield 9, 3) := by decide +kernel
theorem dX2_save_4 : decode cX2_save 4 = .ok (.iconst 4, 1) := by decide +kernel
theorem dX2_save_5 : decode cX2_save 5 = .ok (.if_icmp .lt 7, 3) := by decide +kernel
theorem dX2_save_8 : decode cX2_save 8 = .ok (.aload_n 0, 1) := by decide +kernel
theorem dX2_save_9 : decode cX2_save 9 = .ok (.invokevirtual 22, 3) := by decide +kernel
theorem dX2_save_12 : decode cX2_save 12 = .ok (.aload_n 0, 1) := by decide +kernel
theorem dX2_save_13 : decode cX2_save 13 = .ok (.getfield 17, 3) := by decide +kernel
theorem dX2_save_16 : decode cX2_save 16 = .ok (.aload_n 0, 1) := by decide +kernel
theorem dX2_save_17 : decode cX2_save 17 = .ok (.getfield 9, 3) := by decide +kernel
theorem dX2_save_20 : decode cX2_save 20 = .ok (.aaload, 1) := by decide +kernel
theorem dX2_save_21 : decode cX2_save 21 = .ok (.aload_n 1, 1) := by decide +kernel
theorem dX2_save_22 : decode cX2_save 22 = .ok (.invokevirtual 25, 3) := by decide +kernel
theorem dX2_save_25 : decode cX2_save 25 = .ok (.aload_n 0, 1) := by decide +kernel
theorem dX2_save_26 : decode cX2_save 26 = .ok (.dup, 1) := by decide +kernel
theorem dX2_save_27 : decode cX2_save 27 = .ok (.getfield 9, 3) := by decide +kernel
theorem dX2_save_30 : decode cX2_save 30 = .ok (.iconst 1, 1) := by decide +kernel
theorem dX2_save_31 : decode cX2_save 31 = .ok (.iadd, 1) := by decide +kernel
theorem dX2_save_32 : decode cX2_save 32 = .ok (.putfield 9, 3) := by decide +kernel
theorem dX2_save_35 : decode cX2_save 35 = .ok (.return_, 1) := by decide +kernel
theorem dX2_dropOldest_0 : decode cX2_dropOldest 0 = .ok (.aload_n 0, 1) := by decide +kernel
theorem dX2_dropOldest_1 : decode cX2_dropOldest 1 = .ok (.getfield 17, 3) := by decide +kernel
theorem dX2_dropOldest_4 : decode cX2_dropOldest 4 = .ok (.iconst 0, 1) := by decide +kernel
theorem dX2_dropOldest_5 : decode cX2_dropOldest 5 = .ok (.aaload, 1) := by decide +kernel
theorem dX2_dropOldest_6 : decode cX2_dropOldest 6 = .ok (.astore_n 1, 1) := by decide +kernel
theorem dX2_dropOldest_7 : decode cX2_dropOldest 7 = .ok (.iconst 1, 1) := by decide +kernel
theorem dX2_dropOldest_8 : decode cX2_dropOldest 8 = .ok (.istore_n 2, 1) := by decide +kernel
theorem dX2_dropOldest_9 : decode cX2_dropOldest 9 = .ok (.iload_n 2, 1) := by decide +kernel
theorem dX2_dropOldest_10 : decode cX2_dropOldest 10 = .ok (.iconst 4, 1) := by decide +kernel
theorem dX2_dropOldest_11 : decode cX2_dropOldest 11 = .ok (.if_icmp .ge 23, 3) := by decide +kernel
theorem dX2_dropOldest_14 : decode cX2_dropOldest 14 = .ok (.aload_n 0, 1) := by decide +kernel
theorem dX2_dropOldest_15 : decode cX2_dropOldest 15 = .ok (.getfield 17, 3) := by decide +kernel
theorem dX2_dropOldest_18 : decode cX2_dropOldest 18 = .ok (.iload_n 2, 1) := by decide +kernel
theorem dX2_dropOldest_19 : decode cX2_dropOldest 19 = .ok (.iconst 1, 1) := by decide +kernel
theorem dX2_dropOldest_20 : decode cX2_dropOldest 20 = .ok (.isub, 1) := by decide +kernel
theorem dX2_dropOldest_21 : decode cX2_dropOldest 21 = .ok (.aload_n 0, 1) := by decide +kernel
theorem dX2_dropOldest_22 : decode cX2_dropOldest 22 = .ok (.getfield 17, 3) := by decide +kernel
theorem dX2_dropOldest_25 : decode cX2_dropOldest 25 = .ok (.iload_n 2, 1) := by decide +kernel
theorem dX2_dropOldest_26 : decode cX2_dropOldest 26 = .ok (.aaload, 1) := by decide +kernel
theorem dX2_dropOldest_27 : decode cX2_dropOldest 27 = .ok (.aastore, 1) := by decide +kernel
theorem dX2_dropOldest_28 : decode cX2_dropOldest 28 = .ok (.iinc 2 1, 3) := by decide +kernel
theorem dX2_dropOldest_31 : decode cX2_dropOldest 31 = .ok (.goto (-22), 3) := by decide +kernel
theorem dX2_dropOldest_34 : decode cX2_dropOldest 34 = .ok (.aload_n 0, 1) := by decide +kernel
theorem dX2_dropOldest_35 : decode cX2_dropOldest 35 = .ok (.getfield 17, 3) := by decide +kernel
theorem dX2_dropOldest_38 : decode cX2_dropOldest 38 = .ok (.iconst 3, 1) := by decide +kernel
theorem dX2_dropOldest_39 : decode cX2_dropOldest 39 = .ok (.aload_n 1, 1) := by decide +kernel
theorem dX2_dropOldest_40 : decode cX2_dropOldest 40 = .ok (.aastore, 1) := by decide +kernel
theorem dX2_dropOldest_41 : decode cX2_dropOldest 41 = .ok (.aload_n 0, 1) := by decide +kernel
theorem dX2_dropOldest_42 : decode cX2_dropOldest 42 = .ok (.iconst 3, 1) := by decide +kernel
theorem dX2_dropOldest_43 : decode cX2_dropOldest 43 = .ok (.putfield 9, 3) := by decide +kernel
theorem dX2_dropOldest_46 : decode cX2_dropOldest 46 = .ok (.return_, 1) := by decide +kernel
set_option maxRecDepth 20000 in
theorem ggX2_restore_X4_copyFrom : GoodIn wsX2_restore wsX4_copyFrom := goodIn_r _ [7, 8, 9, 10, 11, 12, 13, 14, 15, 16, 17, 18, 19, 20, 21, 6, 22, 23, 24, 25, 26, 27, 28, 29, 30, 33, 34, 35, 36, 37, 38, 39, 40, 41, 42, 43, 44] (by decide +kernel) (by decide +kernel)
set_option maxRecDepth 20000 in
theorem gX2_restore_X4_copyFrom : GoodIn wsX2_restore (wsV RX2 25 RX4 yX4_copyFrom wsX4_copyFrom) := goodIn_app (goodIn_of _ (by decide +kernel)) ggX2_restore_X4_copyFrom
theorem dX2_restore_0 : decode cX2_restore 0 = .ok (.aload_n 0, 1) := by decide +kernel
theorem dX2_restore_1 : decode cX2_restore 1 = .ok (.dup, 1) := by decide +kernel
theorem dX2_restore_2 : decode cX2_restore 2 = .ok (.getfield 9, 3) := by decide +kernel
theorem dX2_restore_5 : decode cX2_restore 5 = .ok (.iconst 1, 1) := by decide +kernel
theorem dX2_restore_6 : decode cX2_restore 6 = .ok (.isub, 1) := by decide +kernel
theorem dX2_restore_7 : decode cX2_restore 7 = .ok (.putfield 9, 3) := by decide +kernel
theorem dX2_restore_10 : decode cX2_restore 10 = .ok (.aload_n 1, 1) := by decide +kernel
theorem dX2_restore_11 : decode cX2_restore 11 = .ok (.aload_n 0, 1) := by decide +kernel
theorem dX2_restore_12 : decode cX2_restore 12 = .ok (.getfield 17, 3) := by decide +kernel
theorem dX2_restore_15 : decode cX2_restore 15 = .ok (.aload_n 0, 1) := by decide +kernel
theorem dX2_restore_16 : decode cX2_restore 16 = .ok (.getfield 9, 3) := by decide +kernel
theorem dX2_restore_19 : decode cX2_restore 19 = .ok (.aaload, 1) := by decide +kernel
theorem dX2_restore_20 : decode cX2_restore 20 = .ok (.invokevirtual 25, 3) := by decide +kernel
theorem dX2_restore_23 : decode cX2_restore 23 = .ok (.aload_n 0, 1) := by decide +kernel
theorem dX2_restore_24 : decode cX2_restore 24 = .ok (.getfield 9, 3) := by decide +kernel
theorem dX2_restore_27 : decode cX2_restore 27 = .ok (.ireturn, 1) := by decide +kernel
theorem dX3_init_0 : decode cX3_init 0 = .ok (.aload_n 0, 1) := by decide +kernel
theorem dX3_init_1 : decode cX3_init 1 = .ok (.invokespecial 3, 3) := by decide +kernel
theorem dX3_init_4 : decode cX3_init 4 = .ok (.aload_n 0, 1) := by decide +kernel
theorem dX3_init_5 : decode cX3_init 5 = .ok (.bipush 12, 2) := by decide +kernel
theorem dX3_init_7 : decode cX3_init 7 = .ok (.newarray .int, 2) := by decide +kernel
theorem dX3_init_9 : decode cX3_init 9 = .ok (.putfield 9, 3) := by decide +kernel
theorem dX3_init_12 : decode cX3_init 12 = .ok (.aload_n 0, 1) := by decide +kernel
theorem dX3_init_13 : decode cX3_init 13 = .ok (.bipush 12, 2) := by decide +kernel
theorem dX3_init_15 : decode cX3_init 15 = .ok (.newarray .int, 2) := by decide +kernel
theorem dX3_init_17 : decode cX3_init 17 = .ok (.putfield 15, 3) := by decide +kernel
theorem dX3_init_20 : decode cX3_init 20 = .ok (.aload_n 0, 1) := by decide +kernel
theorem dX3_init_21 : decode cX3_init 21 = .ok (.bipush 12, 2) := by decide +kernel
theorem dX3_init_23 : decode cX3_init 23 = .ok (.newarray .int, 2) := by decide +kernel
theorem dX3_init_25 : decode cX3_init 25 = .ok (.putfield 18, 3) := by decide +kernel
theorem dX3_init_28 : decode cX3_init 28 = .ok (.aload_n 0, 1) := by decide +kernel
theorem dX3_init_29 : decode cX3_init 29 = .ok (.iconst 0, 1) := by decide +kernel
theorem dX3_init_30 : decode cX3_init 30 = .ok (.putfield 21, 3) := by decide +kernel
theorem dX3_init_33 : decode cX3_init 33 = .ok (.aload_n 0, 1) := by decide +kernel
theorem dX3_init_34 : decode cX3_init 34 = .ok (.iconst 0, 1) := by decide +kernel
theorem dX3_init_35 : decode cX3_init 35 = .ok (.putfield 25, 3) := by decide +kernel
theorem dX3_init_38 : decode cX3_init 38 = .ok (.aload_n 0, 1) := by decide +kernel
theorem dX3_init_39 : decode cX3_init 39 = .ok (.sipush 144, 3) := by decide +kernel
theorem dX3_init_42 : decode cX3_init 42 = .ok (.newarray .int, 2) := by decide +kernel
theorem dX3_init_44 : decode cX3_init 44 = .ok (.putfield 28, 3) := by decide +kernel
theorem dX3_init_47 : decode cX3_init 47 = .ok (.aload_n 0, 1) := by decide +kernel
theorem dX3_init_48 : decode cX3_init 48 = .ok (.sipush 144, 3) := by decide +kernel
theorem dX3_init_51 : decode cX3_init 51 = .ok (.newarray .int, 2) := by decide +kernel
theorem dX3_init_53 : decode cX3_init 53 = .ok (.putfield 31, 3) := by decide +kernel
theorem dX3_init_56 : decode cX3_init 56 = .ok (.aload_n 0, 1) := by decide +kernel
theorem dX3_init_57 : decode cX3_init 57 = .ok (.sipush 144, 3) := by decide +kernel
theorem dX3_init_60 : decode cX3_init 60 = .ok (.newarray .int, 2) := by decide +kernel
theorem dX3_init_62 : decode cX3_init 62 = .ok (.putfield 34, 3) := by decide +kernel
theorem dX3_init_65 : decode cX3_init 65 = .ok (.aload_n 0, 1) := by decide +kernel
theorem dX3_init_66 : decode cX3_init 66 = .ok (.iconst 0, 1) := by decide +kernel
theorem dX3_init_67 : decode cX3_init 67 = .ok (.putfield 37, 3) := by decide +kernel
theorem dX3_init_70 : decode cX3_init 70 = .ok (.return_, 1) := by decide +kernel
set_option maxRecDepth 20000 in
theorem ggX3_pairCost_X4_radiusOfStar : GoodIn wsX3_pairCost wsX4_radiusOfStar := goodIn_r _ [13, 14, 15, 16, 45, 46, 47, 48, 49, 50, 51, 52, 53, 54, 55, 56] (by decide +kernel) (by decide +kernel)
set_option maxRecDepth 20000 in
theorem gX3_pairCost_X4_radiusOfStar : GoodIn wsX3_pairCost (wsV RX3 45 RX4 yX4_radiusOfStar wsX4_radiusOfStar) := goodIn_app (goodIn_of _ (by decide +kernel)) ggX3_pairCost_X4_radiusOfStar
set_option maxRecDepth 20000 in
theorem ggX3_pairCost_X4_slot : GoodIn wsX3_pairCost wsX4_slot := goodIn_r _ [19] (by decide +kernel) (by decide +kernel)
set_option maxRecDepth 20000 in
theorem gX3_pairCost_X4_slot : GoodIn wsX3_pairCost (va_wsS RX3 59 yX4_slot wsX4_slot) := goodIn_app (goodIn_of _ (by decide +kernel)) ggX3_pairCost_X4_slot
set_option maxRecDepth 20000 in
theorem ggX3_pairCost_X4_angleOfStar : GoodIn wsX3_pairCost wsX4_angleOfStar := goodIn_r _ [23, 24, 15, 25, 26, 27, 28, 29, 45, 46, 47, 48, 49, 50, 51, 52, 53, 54, 55, 56] (by decide +kernel) (by decide +kernel)
set_option maxRecDepth 20000 in
theorem gX3_pairCost_X4_angleOfStar : GoodIn wsX3_pairCost (wsV RX3 63 RX4 yX4_angleOfStar wsX4_angleOfStar) := goodIn_app (goodIn_of _ (by decide +kernel)) ggX3_pairCost_X4_angleOfStar
set_option maxRecDepth 20000 in
theorem ggX3_pairCost_X0_turn : GoodIn wsX3_pairCost wsX0_turn := goodIn_r _ [33, 34, 35, 36, 27, 28, 29] (by decide +kernel) (by decide +kernel)
set_option maxRecDepth 20000 in
theorem gX3_pairCost_X0_turn : GoodIn wsX3_pairCost (va_wsS RX3 70 yX0_turn wsX0_turn) := goodIn_app (goodIn_of _ (by decide +kernel)) ggX3_pairCost_X0_turn
theorem dX3_pairCost_0 : decode cX3_pairCost 0 = .ok (.aload_n 1, 1) := by decide +kernel
theorem dX3_pairCost_1 : decode cX3_pairCost 1 = .ok (.getfield 40, 3) := by decide +kernel
theorem dX3_pairCost_4 : decode cX3_pairCost 4 = .ok (.iload_n 2, 1) := by decide +kernel
theorem dX3_pairCost_5 : decode cX3_pairCost 5 = .ok (.iaload, 1) := by decide +kernel
theorem dX3_pairCost_6 : decode cX3_pairCost 6 = .ok (.aload_n 0, 1) := by decide +kernel
theorem dX3_pairCost_7 : decode cX3_pairCost 7 = .ok (.iload_n 3, 1) := by decide +kernel
theorem dX3_pairCost_8 : decode cX3_pairCost 8 = .ok (.invokevirtual 45, 3) := by decide +kernel
theorem dX3_pairCost_11 : decode cX3_pairCost 11 = .ok (.isub, 1) := by decide +kernel
theorem dX3_pairCost_12 : decode cX3_pairCost 12 = .ok (.invokestatic 51, 3) := by decide +kernel
theorem dX3_pairCost_15 : decode cX3_pairCost 15 = .ok (.istore 5, 2) := by decide +kernel
theorem dX3_pairCost_17 : decode cX3_pairCost 17 = .ok (.aload_n 0, 1) := by decide +kernel
theorem dX3_pairCost_18 : decode cX3_pairCost 18 = .ok (.iload_n 3, 1) := by decide +kernel
theorem dX3_pairCost_19 : decode cX3_pairCost 19 = .ok (.iload 4, 2) := by decide +kernel
theorem dX3_pairCost_21 : decode cX3_pairCost 21 = .ok (.aload_n 0, 1) := by decide +kernel
theorem dX3_pairCost_22 : decode cX3_pairCost 22 = .ok (.getfield 56, 3) := by decide +kernel
theorem dX3_pairCost_25 : decode cX3_pairCost 25 = .ok (.iload_n 2, 1) := by decide +kernel
theorem dX3_pairCost_26 : decode cX3_pairCost 26 = .ok (.iconst 0, 1) := by decide +kernel
theorem dX3_pairCost_27 : decode cX3_pairCost 27 = .ok (.invokestatic 59, 3) := by decide +kernel
theorem dX3_pairCost_30 : decode cX3_pairCost 30 = .ok (.iaload, 1) := by decide +kernel
theorem dX3_pairCost_31 : decode cX3_pairCost 31 = .ok (.invokevirtual 63, 3) := by decide +kernel
theorem dX3_pairCost_34 : decode cX3_pairCost 34 = .ok (.istore 6, 2) := by decide +kernel
theorem dX3_pairCost_36 : decode cX3_pairCost 36 = .ok (.aload_n 1, 1) := by decide +kernel
theorem dX3_pairCost_37 : decode cX3_pairCost 37 = .ok (.getfield 67, 3) := by decide +kernel
theorem dX3_pairCost_40 : decode cX3_pairCost 40 = .ok (.iload_n 2, 1) := by decide +kernel
theorem dX3_pairCost_41 : decode cX3_pairCost 41 = .ok (.iaload, 1) := by decide +kernel
theorem dX3_pairCost_42 : decode cX3_pairCost 42 = .ok (.iload 6, 2) := by decide +kernel
theorem dX3_pairCost_44 : decode cX3_pairCost 44 = .ok (.invokestatic 70, 3) := by decide +kernel
theorem dX3_pairCost_47 : decode cX3_pairCost 47 = .ok (.invokestatic 51, 3) := by decide +kernel
theorem dX3_pairCost_50 : decode cX3_pairCost 50 = .ok (.i2l, 1) := by decide +kernel
theorem dX3_pairCost_51 : decode cX3_pairCost 51 = .ok (.lstore 7, 2) := by decide +kernel
theorem dX3_pairCost_53 : decode cX3_pairCost 53 = .ok (.iload 5, 2) := by decide +kernel
theorem dX3_pairCost_55 : decode cX3_pairCost 55 = .ok (.lload 7, 2) := by decide +kernel
theorem dX3_pairCost_57 : decode cX3_pairCost 57 = .ok (.aload_n 1, 1) := by decide +kernel
theorem dX3_pairCost_58 : decode cX3_pairCost 58 = .ok (.getfield 40, 3) := by decide +kernel
theorem dX3_pairCost_61 : decode cX3_pairCost 61 = .ok (.iload_n 2, 1) := by decide +kernel
theorem dX3_pairCost_62 : decode cX3_pairCost 62 = .ok (.iaload, 1) := by decide +kernel
theorem dX3_pairCost_63 : decode cX3_pairCost 63 = .ok (.i2l, 1) := by decide +kernel
theorem dX3_pairCost_64 : decode cX3_pairCost 64 = .ok (.lmul, 1) := by decide +kernel
theorem dX3_pairCost_65 : decode cX3_pairCost 65 = .ok (.ldc2_w 75, 3) := by decide +kernel
theorem dX3_pairCost_68 : decode cX3_pairCost 68 = .ok (.ldiv, 1) := by decide +kernel
theorem dX3_pairCost_69 : decode cX3_pairCost 69 = .ok (.l2i, 1) := by decide +kernel
theorem dX3_pairCost_70 : decode cX3_pairCost 70 = .ok (.iadd, 1) := by decide +kernel
theorem dX3_pairCost_71 : decode cX3_pairCost 71 = .ok (.ireturn, 1) := by decide +kernel
set_option maxRecDepth 20000 in
theorem ggX3_pairUp_X3_clearMatches : GoodIn wsX3_pairUp wsX3_clearMatches := goodIn_r _ [19, 9, 20, 10, 11, 13, 14, 82, 83, 84, 85, 86, 87, 88, 89, 90] (by decide +kernel) (by decide +kernel)
set_option maxRecDepth 20000 in
theorem gX3_pairUp_X3_clearMatches : GoodIn wsX3_pairUp (wsV RX3 77 RX3 yX3_clearMatches wsX3_clearMatches) := goodIn_app (goodIn_of _ (by decide +kernel)) ggX3_pairUp_X3_clearMatches
set_option maxRecDepth 20000 in
theorem ggX3_pairUp_X3_collectPairs : GoodIn wsX3_pairUp wsX3_collectPairs := goodIn_r _ [24, 25, 1, 26, 2, 27, 12, 7, 8, 28, 29, 18, 30, 31, 32, 33, 5, 34, 35, 36, 37, 38, 39, 40, 41, 42, 43, 44, 45, 46, 47, 48, 49, 50, 51, 52, 53, 54, 55, 56, 57, 58, 59, 60, 61, 62, 63, 64, 65, 82, 83, 84, 85, 86, 87, 88, 89, 90, 70, 71, 72, 73, 74, 75, 76, 77, 78, 79, 80, 81, 91, 92, 93, 94, 95, 96, 97, 98] (by decide +kernel) (by decide +kernel)
set_option maxRecDepth 20000 in
theorem gX3_pairUp_X3_collectPairs : GoodIn wsX3_pairUp (wsV RX3 80 RX3 yX3_collectPairs wsX3_collectPairs) := goodIn_app (goodIn_of _ (by decide +kernel)) ggX3_pairUp_X3_collectPairs
set_option maxRecDepth 20000 in
theorem ggX3_pairUp_X3_bestFreePair : GoodIn wsX3_pairUp wsX3_bestFreePair := goodIn_r _ [69, 25, 9, 7, 20, 10, 8, 12, 82, 83, 84, 85, 86, 87, 88, 89, 90] (by decide +kernel) (by decide +kernel)
set_option maxRecDepth 20000 in
theorem gX3_pairUp_X3_bestFreePair : GoodIn wsX3_pairUp (wsV RX3 93 RX3 yX3_bestFreePair wsX3_bestFreePair) := goodIn_app (goodIn_of _ (by decide +kernel)) ggX3_pairUp_X3_bestFreePair
theorem dX3_pairUp_0 : decode cX3_pairUp 0 = .ok (.aload_n 0, 1) := by decide +kernel
theorem dX3_pairUp_1 : decode cX3_pairUp 1 = .ok (.invokevirtual 77, 3) := by decide +kernel
theorem dX3_pairUp_4 : decode cX3_pairUp 4 = .ok (.aload_n 0, 1) := by decide +kernel
theorem dX3_pairUp_5 : decode cX3_pairUp 5 = .ok (.aload_n 1, 1) := by decide +kernel
theorem dX3_pairUp_6 : decode cX3_pairUp 6 = .ok (.aload_n 2, 1) := by decide +kernel
theorem dX3_pairUp_7 : decode cX3_pairUp 7 = .ok (.iload_n 3, 1) := by decide +kernel
theorem dX3_pairUp_8 : decode cX3_pairUp 8 = .ok (.invokevirtual 80, 3) := by decide +kernel
theorem dX3_pairUp_11 : decode cX3_pairUp 11 = .ok (.aload_n 1, 1) := by decide +kernel
theorem dX3_pairUp_12 : decode cX3_pairUp 12 = .ok (.getfield 84, 3) := by decide +kernel
theorem dX3_pairUp_15 : decode cX3_pairUp 15 = .ok (.aload_n 1, 1) := by decide +kernel
theorem dX3_pairUp_16 : decode cX3_pairUp 16 = .ok (.getfield 87, 3) := by decide +kernel
theorem dX3_pairUp_19 : decode cX3_pairUp 19 = .ok (.invokestatic 90, 3) := by decide +kernel
theorem dX3_pairUp_22 : decode cX3_pairUp 22 = .ok (.istore 4, 2) := by decide +kernel
theorem dX3_pairUp_24 : decode cX3_pairUp 24 = .ok (.iconst 0, 1) := by decide +kernel
theorem dX3_pairUp_25 : decode cX3_pairUp 25 = .ok (.istore 5, 2) := by decide +kernel
theorem dX3_pairUp_27 : decode cX3_pairUp 27 = .ok (.iload 5, 2) := by decide +kernel
theorem dX3_pairUp_29 : decode cX3_pairUp 29 = .ok (.iload 4, 2) := by decide +kernel
theorem dX3_pairUp_31 : decode cX3_pairUp 31 = .ok (.if_icmp .ge 97, 3) := by decide +kernel
theorem dX3_pairUp_34 : decode cX3_pairUp 34 = .ok (.aload_n 0, 1) := by decide +kernel
theorem dX3_pairUp_35 : decode cX3_pairUp 35 = .ok (.invokevirtual 93, 3) := by decide +kernel
theorem dX3_pairUp_38 : decode cX3_pairUp 38 = .ok (.istore 6, 2) := by decide +kernel
theorem dX3_pairUp_40 : decode cX3_pairUp 40 = .ok (.iload 6, 2) := by decide +kernel
theorem dX3_pairUp_42 : decode cX3_pairUp 42 = .ok (.ifCond .ge 4, 3) := by decide +kernel
theorem dX3_pairUp_45 : decode cX3_pairUp 45 = .ok (.return_, 1) := by decide +kernel
theorem dX3_pairUp_46 : decode cX3_pairUp 46 = .ok (.aload_n 0, 1) := by decide +kernel
theorem dX3_pairUp_47 : decode cX3_pairUp 47 = .ok (.getfield 28, 3) := by decide +kernel
theorem dX3_pairUp_50 : decode cX3_pairUp 50 = .ok (.iload 6, 2) := by decide +kernel
theorem dX3_pairUp_52 : decode cX3_pairUp 52 = .ok (.iaload, 1) := by decide +kernel
theorem dX3_pairUp_53 : decode cX3_pairUp 53 = .ok (.istore 7, 2) := by decide +kernel
theorem dX3_pairUp_55 : decode cX3_pairUp 55 = .ok (.aload_n 0, 1) := by decide +kernel
theorem dX3_pairUp_56 : decode cX3_pairUp 56 = .ok (.getfield 31, 3) := by decide +kernel
theorem dX3_pairUp_59 : decode cX3_pairUp 59 = .ok (.iload 6, 2) := by decide +kernel
theorem dX3_pairUp_61 : decode cX3_pairUp 61 = .ok (.iaload, 1) := by decide +kernel
theorem dX3_pairUp_62 : decode cX3_pairUp 62 = .ok (.istore 8, 2) := by decide +kernel
theorem dX3_pairUp_64 : decode cX3_pairUp 64 = .ok (.aload_n 0, 1) := by decide +kernel
theorem dX3_pairUp_65 : decode cX3_pairUp 65 = .ok (.getfield 9, 3) := by decide +kernel
theorem dX3_pairUp_68 : decode cX3_pairUp 68 = .ok (.iload 7, 2) := by decide +kernel
theorem dX3_pairUp_70 : decode cX3_pairUp 70 = .ok (.iload 8, 2) := by decide +kernel
theorem dX3_pairUp_72 : decode cX3_pairUp 72 = .ok (.iastore, 1) := by decide +kernel
theorem dX3_pairUp_73 : decode cX3_pairUp 73 = .ok (.aload_n 0, 1) := by decide +kernel
theorem dX3_pairUp_74 : decode cX3_pairUp 74 = .ok (.getfield 15, 3) := by decide +kernel
theorem dX3_pairUp_77 : decode cX3_pairUp 77 = .ok (.iload 8, 2) := by decide +kernel
theorem dX3_pairUp_79 : decode cX3_pairUp 79 = .ok (.iload 7, 2) := by decide +kernel
theorem dX3_pairUp_81 : decode cX3_pairUp 81 = .ok (.iastore, 1) := by decide +kernel
theorem dX3_pairUp_82 : decode cX3_pairUp 82 = .ok (.aload_n 0, 1) := by decide +kernel
theorem dX3_pairUp_83 : decode cX3_pairUp 83 = .ok (.getfield 18, 3) := by decide +kernel
theorem dX3_pairUp_86 : decode cX3_pairUp 86 = .ok (.iload 8, 2) := by decide +kernel
theorem dX3_pairUp_88 : decode cX3_pairUp 88 = .ok (.aload_n 0, 1) := by decide +kernel
theorem dX3_pairUp_89 : decode cX3_pairUp 89 = .ok (.getfield 34, 3) := by decide +kernel
theorem dX3_pairUp_92 : decode cX3_pairUp 92 = .ok (.iload 6, 2) := by decide +kernel
theorem dX3_pairUp_94 : decode cX3_pairUp 94 = .ok (.iaload, 1) := by decide +kernel
theorem dX3_pairUp_95 : decode cX3_pairUp 95 = .ok (.iastore, 1) := by decide +kernel
theorem dX3_pairUp_96 : decode cX3_pairUp 96 = .ok (.aload_n 0, 1) := by decide +kernel
theorem dX3_pairUp_97 : decode cX3_pairUp 97 = .ok (.dup, 1) := by decide +kernel
theorem dX3_pairUp_98 : decode cX3_pairUp 98 = .ok (.getfield 21, 3) := by decide +kernel
theorem dX3_pairUp_101 : decode cX3_pairUp 101 = .ok (.iconst 1, 1) := by decide +kernel
theorem dX3_pairUp_102 : decode cX3_pairUp 102 = .ok (.iadd, 1) := by decide +kernel
theorem dX3_pairUp_103 : decode cX3_pairUp 103 = .ok (.putfield 21, 3) := by decide +kernel
theorem dX3_pairUp_106 : decode cX3_pairUp 106 = .ok (.aload_n 0, 1) := by decide +kernel
theorem dX3_pairUp_107 : decode cX3_pairUp 107 = .ok (.dup, 1) := by decide +kernel
theorem dX3_pairUp_108 : decode cX3_pairUp 108 = .ok (.getfield 25, 3) := by decide +kernel
theorem dX3_pairUp_111 : decode cX3_pairUp 111 = .ok (.aload_n 0, 1) := by decide +kernel
theorem dX3_pairUp_112 : decode cX3_pairUp 112 = .ok (.getfield 34, 3) := by decide +kernel
theorem dX3_pairUp_115 : decode cX3_pairUp 115 = .ok (.iload 6, 2) := by decide +kernel
theorem dX3_pairUp_117 : decode cX3_pairUp 117 = .ok (.iaload, 1) := by decide +kernel
theorem dX3_pairUp_118 : decode cX3_pairUp 118 = .ok (.iadd, 1) := by decide +kernel
theorem dX3_pairUp_119 : decode cX3_pairUp 119 = .ok (.putfield 25, 3) := by decide +kernel
theorem dX3_pairUp_122 : decode cX3_pairUp 122 = .ok (.iinc 5 1, 3) := by decide +kernel
theorem dX3_pairUp_125 : decode cX3_pairUp 125 = .ok (.goto (-98), 3) := by decide +kernel
theorem dX3_pairUp_128 : decode cX3_pairUp 128 = .ok (.return_, 1) := by decide +kernel
theorem dX3_clearMatches_0 : decode cX3_clearMatches 0 = .ok (.iconst 0, 1) := by decide +kernel
theorem dX3_clearMatches_1 : decode cX3_clearMatches 1 = .ok (.istore_n 1, 1) := by decide +kernel
theorem dX3_clearMatches_2 : decode cX3_clearMatches 2 = .ok (.iload_n 1, 1) := by decide +kernel
theorem dX3_clearMatches_3 : decode cX3_clearMatches 3 = .ok (.bipush 12, 2) := by decide +kernel
theorem dX3_clearMatches_5 : decode cX3_clearMatches 5 = .ok (.if_icmp .ge 17, 3) := by decide +kernel
theorem dX3_clearMatches_8 : decode cX3_clearMatches 8 = .ok (.aload_n 0, 1) := by decide +kernel
theorem dX3_clearMatches_9 : decode cX3_clearMatches 9 = .ok (.getfield 9, 3) := by decide +kernel
theorem dX3_clearMatches_12 : decode cX3_clearMatches 12 = .ok (.iload_n 1, 1) := by decide +kernel
theorem dX3_clearMatches_13 : decode cX3_clearMatches 13 = .ok (.ldc 97, 2) := by decide +kernel
theorem dX3_clearMatches_15 : decode cX3_clearMatches 15 = .ok (.iastore, 1) := by decide +kernel
theorem dX3_clearMatches_16 : decode cX3_clearMatches 16 = .ok (.iinc 1 1, 3) := by decide +kernel
theorem dX3_clearMatches_19 : decode cX3_clearMatches 19 = .ok (.goto (-17), 3) := by decide +kernel
theorem dX3_clearMatches_22 : decode cX3_clearMatches 22 = .ok (.iconst 0, 1) := by decide +kernel
theorem dX3_clearMatches_23 : decode cX3_clearMatches 23 = .ok (.istore_n 1, 1) := by decide +kernel
theorem dX3_clearMatches_24 : decode cX3_clearMatches 24 = .ok (.iload_n 1, 1) := by decide +kernel
theorem dX3_clearMatches_25 : decode cX3_clearMatches 25 = .ok (.bipush 12, 2) := by decide +kernel
theorem dX3_clearMatches_27 : decode cX3_clearMatches 27 = .ok (.if_icmp .ge 25, 3) := by decide +kernel
theorem dX3_clearMatches_30 : decode cX3_clearMatches 30 = .ok (.aload_n 0, 1) := by decide +kernel
theorem dX3_clearMatches_31 : decode cX3_clearMatches 31 = .ok (.getfield 15, 3) := by decide +kernel
theorem dX3_clearMatches_34 : decode cX3_clearMatches 34 = .ok (.iload_n 1, 1) := by decide +kernel
theorem dX3_clearMatches_35 : decode cX3_clearMatches 35 = .ok (.ldc 97, 2) := by decide +kernel
theorem dX3_clearMatches_37 : decode cX3_clearMatches 37 = .ok (.iastore, 1) := by decide +kernel
theorem dX3_clearMatches_38 : decode cX3_clearMatches 38 = .ok (.aload_n 0, 1) := by decide +kernel
theorem dX3_clearMatches_39 : decode cX3_clearMatches 39 = .ok (.getfield 18, 3) := by decide +kernel
theorem dX3_clearMatches_42 : decode cX3_clearMatches 42 = .ok (.iload_n 1, 1) := by decide +kernel
theorem dX3_clearMatches_43 : decode cX3_clearMatches 43 = .ok (.ldc 97, 2) := by decide +kernel
theorem dX3_clearMatches_45 : decode cX3_clearMatches 45 = .ok (.iastore, 1) := by decide +kernel
theorem dX3_clearMatches_46 : decode cX3_clearMatches 46 = .ok (.iinc 1 1, 3) := by decide +kernel
theorem dX3_clearMatches_49 : decode cX3_clearMatches 49 = .ok (.goto (-25), 3) := by decide +kernel
theorem dX3_clearMatches_52 : decode cX3_clearMatches 52 = .ok (.aload_n 0, 1) := by decide +kernel
theorem dX3_clearMatches_53 : decode cX3_clearMatches 53 = .ok (.iconst 0, 1) := by decide +kernel
theorem dX3_clearMatches_54 : decode cX3_clearMatches 54 = .ok (.putfield 21, 3) := by decide +kernel
theorem dX3_clearMatches_57 : decode cX3_clearMatches 57 = .ok (.aload_n 0, 1) := by decide +kernel
theorem dX3_clearMatches_58 : decode cX3_clearMatches 58 = .ok (.iconst 0, 1) := by decide +kernel
theorem dX3_clearMatches_59 : decode cX3_clearMatches 59 = .ok (.putfield 25, 3) := by decide +kernel
theorem dX3_clearMatches_62 : decode cX3_clearMatches 62 = .ok (.return_, 1) := by decide +kernel
set_option maxRecDepth 20000 in
theorem ggX3_collectPairs_X3_pairCost : GoodIn wsX3_collectPairs wsX3_pairCost := goodIn_r _ [12, 13, 14, 15, 16, 17, 18, 19, 20, 21, 22, 23, 24, 25, 26, 27, 28, 29, 30, 31, 32, 33, 34, 35, 36, 37, 38, 39, 40, 41, 42, 43, 44, 45, 46, 47, 48, 70, 71, 72, 73, 74, 75, 76, 77, 58, 59, 60, 61, 62, 63, 64, 65, 66, 67, 68, 69] (by decide +kernel) (by decide +kernel)
set_option maxRecDepth 20000 in
theorem gX3_collectPairs_X3_pairCost : GoodIn wsX3_collectPairs (va_wsS RX3 101 yX3_pairCost wsX3_pairCost) := goodIn_app (goodIn_of _ (by decide +kernel)) ggX3_collectPairs_X3_pairCost
theorem dX3_collectPairs_0 : decode cX3_collectPairs 0 = .ok (.aload_n 0, 1) := by decide +kernel
theorem dX3_collectPairs_1 : decode cX3_collectPairs 1 = .ok (.iconst 0, 1) := by decide +kernel
theorem dX3_collectPairs_2 : decode cX3_collectPairs 2 = .ok (.putfield 37, 3) := by decide +kernel
theorem dX3_collectPairs_5 : decode cX3_collectPairs 5 = .ok (.iconst 0, 1) := by decide +kernel
theorem dX3_collectPairs_6 : decode cX3_collectPairs 6 = .ok (.istore 4, 2) := by decide +kernel
theorem dX3_collectPairs_8 : decode cX3_collectPairs 8 = .ok (.iload 4, 2) := by decide +kernel
theorem dX3_collectPairs_10 : decode cX3_collectPairs 10 = .ok (.aload_n 1, 1) := by decide +kernel
theorem dX3_collectPairs_11 : decode cX3_collectPairs 11 = .ok (.getfield 84, 3) := by decide +kernel
theorem dX3_collectPairs_14 : decode cX3_collectPairs 14 = .ok (.if_icmp .ge 123, 3) := by decide +kernel
theorem dX3_collectPairs_17 : decode cX3_collectPairs 17 = .ok (.aload_n 1, 1) := by decide +kernel
theorem dX3_collectPairs_18 : decode cX3_collectPairs 18 = .ok (.getfield 98, 3) := by decide +kernel
theorem dX3_collectPairs_21 : decode cX3_collectPairs 21 = .ok (.iload 4, 2) := by decide +kernel
theorem dX3_collectPairs_23 : decode cX3_collectPairs 23 = .ok (.iaload, 1) := by decide +kernel
theorem dX3_collectPairs_24 : decode cX3_collectPairs 24 = .ok (.ifCond .le 10, 3) := by decide +kernel
theorem dX3_collectPairs_27 : decode cX3_collectPairs 27 = .ok (.aload_n 1, 1) := by decide +kernel
theorem dX3_collectPairs_28 : decode cX3_collectPairs 28 = .ok (.getfield 87, 3) := by decide +kernel
theorem dX3_collectPairs_31 : decode cX3_collectPairs 31 = .ok (.goto 4, 3) := by decide +kernel
theorem dX3_collectPairs_34 : decode cX3_collectPairs 34 = .ok (.iconst 0, 1) := by decide +kernel
theorem dX3_collectPairs_35 : decode cX3_collectPairs 35 = .ok (.istore 5, 2) := by decide +kernel
theorem dX3_collectPairs_37 : decode cX3_collectPairs 37 = .ok (.iconst 0, 1) := by decide +kernel
theorem dX3_collectPairs_38 : decode cX3_collectPairs 38 = .ok (.istore 6, 2) := by decide +kernel
theorem dX3_collectPairs_40 : decode cX3_collectPairs 40 = .ok (.iload 6, 2) := by decide +kernel
theorem dX3_collectPairs_42 : decode cX3_collectPairs 42 = .ok (.iload 5, 2) := by decide +kernel
theorem dX3_collectPairs_44 : decode cX3_collectPairs 44 = .ok (.if_icmp .ge 87, 3) := by decide +kernel
theorem dX3_collectPairs_47 : decode cX3_collectPairs 47 = .ok (.aload_n 1, 1) := by decide +kernel
theorem dX3_collectPairs_48 : decode cX3_collectPairs 48 = .ok (.aload_n 2, 1) := by decide +kernel
theorem dX3_collectPairs_49 : decode cX3_collectPairs 49 = .ok (.iload 4, 2) := by decide +kernel
theorem dX3_collectPairs_51 : decode cX3_collectPairs 51 = .ok (.iload 6, 2) := by decide +kernel
theorem dX3_collectPairs_53 : decode cX3_collectPairs 53 = .ok (.iload_n 3, 1) := by decide +kernel
theorem dX3_collectPairs_54 : decode cX3_collectPairs 54 = .ok (.invokestatic 101, 3) := by decide +kernel
theorem dX3_collectPairs_57 : decode cX3_collectPairs 57 = .ok (.istore 7, 2) := by decide +kernel
theorem dX3_collectPairs_59 : decode cX3_collectPairs 59 = .ok (.iload 7, 2) := by decide +kernel
theorem dX3_collectPairs_61 : decode cX3_collectPairs 61 = .ok (.aload_n 1, 1) := by decide +kernel
theorem dX3_collectPairs_62 : decode cX3_collectPairs 62 = .ok (.getfield 105, 3) := by decide +kernel
theorem dX3_collectPairs_65 : decode cX3_collectPairs 65 = .ok (.iconst 5, 1) := by decide +kernel
theorem dX3_collectPairs_66 : decode cX3_collectPairs 66 = .ok (.iaload, 1) := by decide +kernel
theorem dX3_collectPairs_67 : decode cX3_collectPairs 67 = .ok (.if_icmp .gt 58, 3) := by decide +kernel
theorem dX3_collectPairs_70 : decode cX3_collectPairs 70 = .ok (.aload_n 0, 1) := by decide +kernel
theorem dX3_collectPairs_71 : decode cX3_collectPairs 71 = .ok (.getfield 37, 3) := by decide +kernel
theorem dX3_collectPairs_74 : decode cX3_collectPairs 74 = .ok (.aload_n 0, 1) := by decide +kernel
theorem dX3_collectPairs_75 : decode cX3_collectPairs 75 = .ok (.getfield 34, 3) := by decide +kernel
theorem dX3_collectPairs_78 : decode cX3_collectPairs 78 = .ok (.arraylength, 1) := by decide +kernel
theorem dX3_collectPairs_79 : decode cX3_collectPairs 79 = .ok (.if_icmp .ge 46, 3) := by decide +kernel
theorem dX3_collectPairs_82 : decode cX3_collectPairs 82 = .ok (.aload_n 0, 1) := by decide +kernel
theorem dX3_collectPairs_83 : decode cX3_collectPairs 83 = .ok (.getfield 28, 3) := by decide +kernel
theorem dX3_collectPairs_86 : decode cX3_collectPairs 86 = .ok (.aload_n 0, 1) := by decide +kernel
theorem dX3_collectPairs_87 : decode cX3_collectPairs 87 = .ok (.getfield 37, 3) := by decide +kernel
theorem dX3_collectPairs_90 : decode cX3_collectPairs 90 = .ok (.iload 4, 2) := by decide +kernel
theorem dX3_collectPairs_92 : decode cX3_collectPairs 92 = .ok (.iastore, 1) := by decide +kernel
theorem dX3_collectPairs_93 : decode cX3_collectPairs 93 = .ok (.aload_n 0, 1) := by decide +kernel
theorem dX3_collectPairs_94 : decode cX3_collectPairs 94 = .ok (.getfield 31, 3) := by decide +kernel
theorem dX3_collectPairs_97 : decode cX3_collectPairs 97 = .ok (.aload_n 0, 1) := by decide +kernel
theorem dX3_collectPairs_98 : decode cX3_collectPairs 98 = .ok (.getfield 37, 3) := by decide +kernel
theorem dX3_collectPairs_101 : decode cX3_collectPairs 101 = .ok (.iload 6, 2) := by decide +kernel
theorem dX3_collectPairs_103 : decode cX3_collectPairs 103 = .ok (.iastore, 1) := by decide +kernel
theorem dX3_collectPairs_104 : decode cX3_collectPairs 104 = .ok (.aload_n 0, 1) := by decide +kernel
theorem dX3_collectPairs_105 : decode cX3_collectPairs 105 = .ok (.getfield 34, 3) := by decide +kernel
theorem dX3_collectPairs_108 : decode cX3_collectPairs 108 = .ok (.aload_n 0, 1) := by decide +kernel
theorem dX3_collectPairs_109 : decode cX3_collectPairs 109 = .ok (.getfield 37, 3) := by decide +kernel
theorem dX3_collectPairs_112 : decode cX3_collectPairs 112 = .ok (.iload 7, 2) := by decide +kernel
theorem dX3_collectPairs_114 : decode cX3_collectPairs 114 = .ok (.iastore, 1) := by decide +kernel
theorem dX3_collectPairs_115 : decode cX3_collectPairs 115 = .ok (.aload_n 0, 1) := by decide +kernel
theorem dX3_collectPairs_116 : decode cX3_collectPairs 116 = .ok (.dup, 1) := by decide +kernel
theorem dX3_collectPairs_117 : decode cX3_collectPairs 117 = .ok (.getfield 37, 3) := by decide +kernel
theorem dX3_collectPairs_120 : decode cX3_collectPairs 120 = .ok (.iconst 1, 1) := by decide +kernel
theorem dX3_collectPairs_121 : decode cX3_collectPairs 121 = .ok (.iadd, 1) := by decide +kernel
theorem dX3_collectPairs_122 : decode cX3_collectPairs 122 = .ok (.putfield 37, 3) := by decide +kernel
theorem dX3_collectPairs_125 : decode cX3_collectPairs 125 = .ok (.iinc 6 1, 3) := by decide +kernel
theorem dX3_collectPairs_128 : decode cX3_collectPairs 128 = .ok (.goto (-88), 3) := by decide +kernel
theorem dX3_collectPairs_131 : decode cX3_collectPairs 131 = .ok (.iinc 4 1, 3) := by decide +kernel
theorem dX3_collectPairs_134 : decode cX3_collectPairs 134 = .ok (.goto (-126), 3) := by decide +kernel
theorem dX3_collectPairs_137 : decode cX3_collectPairs 137 = .ok (.return_, 1) := by decide +kernel
theorem dX3_bestFreePair_0 : decode cX3_bestFreePair 0 = .ok (.iconst (-1), 1) := by decide +kernel
theorem dX3_bestFreePair_1 : decode cX3_bestFreePair 1 = .ok (.istore_n 1, 1) := by decide +kernel
theorem dX3_bestFreePair_2 : decode cX3_bestFreePair 2 = .ok (.iconst 0, 1) := by decide +kernel
theorem dX3_bestFreePair_3 : decode cX3_bestFreePair 3 = .ok (.istore_n 2, 1) := by decide +kernel
theorem dX3_bestFreePair_4 : decode cX3_bestFreePair 4 = .ok (.iload_n 2, 1) := by decide +kernel
theorem dX3_bestFreePair_5 : decode cX3_bestFreePair 5 = .ok (.aload_n 0, 1) := by decide +kernel
theorem dX3_bestFreePair_6 : decode cX3_bestFreePair 6 = .ok (.getfield 37, 3) := by decide +kernel
theorem dX3_bestFreePair_9 : decode cX3_bestFreePair 9 = .ok (.if_icmp .ge 72, 3) := by decide +kernel
theorem dX3_bestFreePair_12 : decode cX3_bestFreePair 12 = .ok (.aload_n 0, 1) := by decide +kernel
theorem dX3_bestFreePair_13 : decode cX3_bestFreePair 13 = .ok (.getfield 9, 3) := by decide +kernel
theorem dX3_bestFreePair_16 : decode cX3_bestFreePair 16 = .ok (.aload_n 0, 1) := by decide +kernel
theorem dX3_bestFreePair_17 : decode cX3_bestFreePair 17 = .ok (.getfield 28, 3) := by decide +kernel
theorem dX3_bestFreePair_20 : decode cX3_bestFreePair 20 = .ok (.iload_n 2, 1) := by decide +kernel
theorem dX3_bestFreePair_21 : decode cX3_bestFreePair 21 = .ok (.iaload, 1) := by decide +kernel
theorem dX3_bestFreePair_22 : decode cX3_bestFreePair 22 = .ok (.iaload, 1) := by decide +kernel
theorem dX3_bestFreePair_23 : decode cX3_bestFreePair 23 = .ok (.ldc 97, 2) := by decide +kernel
theorem dX3_bestFreePair_25 : decode cX3_bestFreePair 25 = .ok (.if_icmp .ne 23, 3) := by decide +kernel
theorem dX3_bestFreePair_28 : decode cX3_bestFreePair 28 = .ok (.aload_n 0, 1) := by decide +kernel
theorem dX3_bestFreePair_29 : decode cX3_bestFreePair 29 = .ok (.getfield 15, 3) := by decide +kernel
theorem dX3_bestFreePair_32 : decode cX3_bestFreePair 32 = .ok (.aload_n 0, 1) := by decide +kernel
theorem dX3_bestFreePair_33 : decode cX3_bestFreePair 33 = .ok (.getfield 31, 3) := by decide +kernel
theorem dX3_bestFreePair_36 : decode cX3_bestFreePair 36 = .ok (.iload_n 2, 1) := by decide +kernel
theorem dX3_bestFreePair_37 : decode cX3_bestFreePair 37 = .ok (.iaload, 1) := by decide +kernel
theorem dX3_bestFreePair_38 : decode cX3_bestFreePair 38 = .ok (.iaload, 1) := by decide +kernel
theorem dX3_bestFreePair_39 : decode cX3_bestFreePair 39 = .ok (.ldc 97, 2) := by decide +kernel
theorem dX3_bestFreePair_41 : decode cX3_bestFreePair 41 = .ok (.if_icmp .ne 7, 3) := by decide +kernel
theorem dX3_bestFreePair_44 : decode cX3_bestFreePair 44 = .ok (.iconst 1, 1) := by decide +kernel
theorem dX3_bestFreePair_45 : decode cX3_bestFreePair 45 = .ok (.goto 4, 3) := by decide +kernel
theorem dX3_bestFreePair_48 : decode cX3_bestFreePair 48 = .ok (.iconst 0, 1) := by decide +kernel
theorem dX3_bestFreePair_49 : decode cX3_bestFreePair 49 = .ok (.istore_n 3, 1) := by decide +kernel
theorem dX3_bestFreePair_50 : decode cX3_bestFreePair 50 = .ok (.iload_n 3, 1) := by decide +kernel
theorem dX3_bestFreePair_51 : decode cX3_bestFreePair 51 = .ok (.ifCond .eq 24, 3) := by decide +kernel
theorem dX3_bestFreePair_54 : decode cX3_bestFreePair 54 = .ok (.iload_n 1, 1) := by decide +kernel
theorem dX3_bestFreePair_55 : decode cX3_bestFreePair 55 = .ok (.ifCond .lt 18, 3) := by decide +kernel
theorem dX3_bestFreePair_58 : decode cX3_bestFreePair 58 = .ok (.aload_n 0, 1) := by decide +kernel
theorem dX3_bestFreePair_59 : decode cX3_bestFreePair 59 = .ok (.getfield 34, 3) := by decide +kernel
theorem dX3_bestFreePair_62 : decode cX3_bestFreePair 62 = .ok (.iload_n 2, 1) := by decide +kernel
theorem dX3_bestFreePair_63 : decode cX3_bestFreePair 63 = .ok (.iaload, 1) := by decide +kernel
theorem dX3_bestFreePair_64 : decode cX3_bestFreePair 64 = .ok (.aload_n 0, 1) := by decide +kernel
theorem dX3_bestFreePair_65 : decode cX3_bestFreePair 65 = .ok (.getfield 34, 3) := by decide +kernel
theorem dX3_bestFreePair_68 : decode cX3_bestFreePair 68 = .ok (.iload_n 1, 1) := by decide +kernel
theorem dX3_bestFreePair_69 : decode cX3_bestFreePair 69 = .ok (.iaload, 1) := by decide +kernel
theorem dX3_bestFreePair_70 : decode cX3_bestFreePair 70 = .ok (.if_icmp .ge 5, 3) := by decide +kernel
theorem dX3_bestFreePair_73 : decode cX3_bestFreePair 73 = .ok (.iload_n 2, 1) := by decide +kernel
theorem dX3_bestFreePair_74 : decode cX3_bestFreePair 74 = .ok (.istore_n 1, 1) := by decide +kernel
theorem dX3_bestFreePair_75 : decode cX3_bestFreePair 75 = .ok (.iinc 2 1, 3) := by decide +kernel
theorem dX3_bestFreePair_78 : decode cX3_bestFreePair 78 = .ok (.goto (-74), 3) := by decide +kernel
theorem dX3_bestFreePair_81 : decode cX3_bestFreePair 81 = .ok (.iload_n 1, 1) := by decide +kernel
theorem dX3_bestFreePair_82 : decode cX3_bestFreePair 82 = .ok (.ireturn, 1) := by decide +kernel
theorem dX4_init_0 : decode cX4_init 0 = .ok (.aload_n 0, 1) := by decide +kernel
theorem dX4_init_1 : decode cX4_init 1 = .ok (.invokespecial 3, 3) := by decide +kernel
theorem dX4_init_4 : decode cX4_init 4 = .ok (.aload_n 0, 1) := by decide +kernel
theorem dX4_init_5 : decode cX4_init 5 = .ok (.iconst 0, 1) := by decide +kernel
theorem dX4_init_6 : decode cX4_init 6 = .ok (.putfield 9, 3) := by decide +kernel
theorem dX4_init_9 : decode cX4_init 9 = .ok (.aload_n 0, 1) := by decide +kernel
theorem dX4_init_10 : decode cX4_init 10 = .ok (.iconst 0, 1) := by decide +kernel
theorem dX4_init_11 : decode cX4_init 11 = .ok (.putfield 15, 3) := by decide +kernel
theorem dX4_init_14 : decode cX4_init 14 = .ok (.aload_n 0, 1) := by decide +kernel
theorem dX4_init_15 : decode cX4_init 15 = .ok (.sipush 2000, 3) := by decide +kernel
theorem dX4_init_18 : decode cX4_init 18 = .ok (.putfield 18, 3) := by decide +kernel
theorem dX4_init_21 : decode cX4_init 21 = .ok (.aload_n 0, 1) := by decide +kernel
theorem dX4_init_22 : decode cX4_init 22 = .ok (.sipush 2000, 3) := by decide +kernel
theorem dX4_init_25 : decode cX4_init 25 = .ok (.putfield 21, 3) := by decide +kernel
theorem dX4_init_28 : decode cX4_init 28 = .ok (.aload_n 0, 1) := by decide +kernel
theorem dX4_init_29 : decode cX4_init 29 = .ok (.bipush 12, 2) := by decide +kernel
theorem dX4_init_31 : decode cX4_init 31 = .ok (.newarray .int, 2) := by decide +kernel
theorem dX4_init_33 : decode cX4_init 33 = .ok (.putfield 24, 3) := by decide +kernel
theorem dX4_init_36 : decode cX4_init 36 = .ok (.aload_n 0, 1) := by decide +kernel
theorem dX4_init_37 : decode cX4_init 37 = .ok (.sipush 144, 3) := by decide +kernel
theorem dX4_init_40 : decode cX4_init 40 = .ok (.newarray .int, 2) := by decide +kernel
theorem dX4_init_42 : decode cX4_init 42 = .ok (.putfield 28, 3) := by decide +kernel
theorem dX4_init_45 : decode cX4_init 45 = .ok (.aload_n 0, 1) := by decide +kernel
theorem dX4_init_46 : decode cX4_init 46 = .ok (.sipush 144, 3) := by decide +kernel
theorem dX4_init_49 : decode cX4_init 49 = .ok (.newarray .int, 2) := by decide +kernel
theorem dX4_init_51 : decode cX4_init 51 = .ok (.putfield 31, 3) := by decide +kernel
theorem dX4_init_54 : decode cX4_init 54 = .ok (.aload_n 0, 1) := by decide +kernel
theorem dX4_init_55 : decode cX4_init 55 = .ok (.sipush 144, 3) := by decide +kernel
theorem dX4_init_58 : decode cX4_init 58 = .ok (.newarray .int, 2) := by decide +kernel
theorem dX4_init_60 : decode cX4_init 60 = .ok (.putfield 34, 3) := by decide +kernel
theorem dX4_init_63 : decode cX4_init 63 = .ok (.aload_n 0, 1) := by decide +kernel
theorem dX4_init_64 : decode cX4_init 64 = .ok (.bipush 12, 2) := by decide +kernel
theorem dX4_init_66 : decode cX4_init 66 = .ok (.newarray .int, 2) := by decide +kernel
theorem dX4_init_68 : decode cX4_init 68 = .ok (.putfield 37, 3) := by decide +kernel
theorem dX4_init_71 : decode cX4_init 71 = .ok (.aload_n 0, 1) := by decide +kernel
theorem dX4_init_72 : decode cX4_init 72 = .ok (.bipush 12, 2) := by decide +kernel
theorem dX4_init_74 : decode cX4_init 74 = .ok (.newarray .int, 2) := by decide +kernel
theorem dX4_init_76 : decode cX4_init 76 = .ok (.putfield 40, 3) := by decide +kernel
theorem dX4_init_79 : decode cX4_init 79 = .ok (.aload_n 0, 1) := by decide +kernel
theorem dX4_init_80 : decode cX4_init 80 = .ok (.bipush 12, 2) := by decide +kernel
theorem dX4_init_82 : decode cX4_init 82 = .ok (.newarray .int, 2) := by decide +kernel
theorem dX4_init_84 : decode cX4_init 84 = .ok (.putfield 43, 3) := by decide +kernel
theorem dX4_init_87 : decode cX4_init 87 = .ok (.aload_n 0, 1) := by decide +kernel
theorem dX4_init_88 : decode cX4_init 88 = .ok (.getstatic 46, 3) := by decide +kernel
theorem dX4_init_91 : decode cX4_init 91 = .ok (.invokevirtual 49, 3) := by decide +kernel
theorem dX4_init_94 : decode cX4_init 94 = .ok (.checkcast 50, 3) := by decide +kernel
theorem dX4_init_97 : decode cX4_init 97 = .ok (.putfield 54, 3) := by decide +kernel
theorem dX4_init_100 : decode cX4_init 100 = .ok (.return_, 1) := by decide +kernel
set_option maxRecDepth 20000 in
theorem ggX4_copyFrom_X4_copyRow : GoodIn wsX4_copyFrom wsX4_copyRow := goodIn_r _ [16, 17, 18, 19, 20, 21, 22, 23, 24] (by decide +kernel) (by decide +kernel)
set_option maxRecDepth 20000 in
theorem gX4_copyFrom_X4_copyRow : GoodIn wsX4_copyFrom (va_wsS RX4 57 yX4_copyRow wsX4_copyRow) := goodIn_app (goodIn_of _ (by decide +kernel)) ggX4_copyFrom_X4_copyRow
theorem dX4_copyFrom_0 : decode cX4_copyFrom 0 = .ok (.aload_n 0, 1) := by decide +kernel
theorem dX4_copyFrom_1 : decode cX4_copyFrom 1 = .ok (.aload_n 1, 1) := by decide +kernel
theorem dX4_copyFrom_2 : decode cX4_copyFrom 2 = .ok (.getfield 9, 3) := by decide +kernel
theorem dX4_copyFrom_5 : decode cX4_copyFrom 5 = .ok (.putfield 9, 3) := by decide +kernel
theorem dX4_copyFrom_8 : decode cX4_copyFrom 8 = .ok (.aload_n 0, 1) := by decide +kernel
theorem dX4_copyFrom_9 : decode cX4_copyFrom 9 = .ok (.aload_n 1, 1) := by decide +kernel
theorem dX4_copyFrom_10 : decode cX4_copyFrom 10 = .ok (.getfield 15, 3) := by decide +kernel
theorem dX4_copyFrom_13 : decode cX4_copyFrom 13 = .ok (.putfield 15, 3) := by decide +kernel
theorem dX4_copyFrom_16 : decode cX4_copyFrom 16 = .ok (.aload_n 0, 1) := by decide +kernel
theorem dX4_copyFrom_17 : decode cX4_copyFrom 17 = .ok (.aload_n 1, 1) := by decide +kernel
theorem dX4_copyFrom_18 : decode cX4_copyFrom 18 = .ok (.getfield 18, 3) := by decide +kernel
theorem dX4_copyFrom_21 : decode cX4_copyFrom 21 = .ok (.putfield 18, 3) := by decide +kernel
theorem dX4_copyFrom_24 : decode cX4_copyFrom 24 = .ok (.aload_n 0, 1) := by decide +kernel
theorem dX4_copyFrom_25 : decode cX4_copyFrom 25 = .ok (.aload_n 1, 1) := by decide +kernel
theorem dX4_copyFrom_26 : decode cX4_copyFrom 26 = .ok (.getfield 21, 3) := by decide +kernel
theorem dX4_copyFrom_29 : decode cX4_copyFrom 29 = .ok (.putfield 21, 3) := by decide +kernel
theorem dX4_copyFrom_32 : decode cX4_copyFrom 32 = .ok (.aload_n 1, 1) := by decide +kernel
theorem dX4_copyFrom_33 : decode cX4_copyFrom 33 = .ok (.getfield 24, 3) := by decide +kernel
theorem dX4_copyFrom_36 : decode cX4_copyFrom 36 = .ok (.aload_n 0, 1) := by decide +kernel
theorem dX4_copyFrom_37 : decode cX4_copyFrom 37 = .ok (.getfield 24, 3) := by decide +kernel
theorem dX4_copyFrom_40 : decode cX4_copyFrom 40 = .ok (.invokestatic 57, 3) := by decide +kernel
theorem dX4_copyFrom_43 : decode cX4_copyFrom 43 = .ok (.aload_n 1, 1) := by decide +kernel
theorem dX4_copyFrom_44 : decode cX4_copyFrom 44 = .ok (.getfield 28, 3) := by decide +kernel
theorem dX4_copyFrom_47 : decode cX4_copyFrom 47 = .ok (.aload_n 0, 1) := by decide +kernel
theorem dX4_copyFrom_48 : decode cX4_copyFrom 48 = .ok (.getfield 28, 3) := by decide +kernel
theorem dX4_copyFrom_51 : decode cX4_copyFrom 51 = .ok (.invokestatic 57, 3) := by decide +kernel
theorem dX4_copyFrom_54 : decode cX4_copyFrom 54 = .ok (.aload_n 1, 1) := by decide +kernel
theorem dX4_copyFrom_55 : decode cX4_copyFrom 55 = .ok (.getfield 31, 3) := by decide +kernel
theorem dX4_copyFrom_58 : decode cX4_copyFrom 58 = .ok (.aload_n 0, 1) := by decide +kernel
theorem dX4_copyFrom_59 : decode cX4_copyFrom 59 = .ok (.getfield 31, 3) := by decide +kernel
theorem dX4_copyFrom_62 : decode cX4_copyFrom 62 = .ok (.invokestatic 57, 3) := by decide +kernel
theorem dX4_copyFrom_65 : decode cX4_copyFrom 65 = .ok (.aload_n 1, 1) := by decide +kernel
theorem dX4_copyFrom_66 : decode cX4_copyFrom 66 = .ok (.getfield 34, 3) := by decide +kernel
theorem dX4_copyFrom_69 : decode cX4_copyFrom 69 = .ok (.aload_n 0, 1) := by decide +kernel
theorem dX4_copyFrom_70 : decode cX4_copyFrom 70 = .ok (.getfield 34, 3) := by decide +kernel
theorem dX4_copyFrom_73 : decode cX4_copyFrom 73 = .ok (.invokestatic 57, 3) := by decide +kernel
theorem dX4_copyFrom_76 : decode cX4_copyFrom 76 = .ok (.aload_n 1, 1) := by decide +kernel
theorem dX4_copyFrom_77 : decode cX4_copyFrom 77 = .ok (.getfield 37, 3) := by decide +kernel
theorem dX4_copyFrom_80 : decode cX4_copyFrom 80 = .ok (.aload_n 0, 1) := by decide +kernel
theorem dX4_copyFrom_81 : decode cX4_copyFrom 81 = .ok (.getfield 37, 3) := by decide +kernel
theorem dX4_copyFrom_84 : decode cX4_copyFrom 84 = .ok (.invokestatic 57, 3) := by decide +kernel
theorem dX4_copyFrom_87 : decode cX4_copyFrom 87 = .ok (.aload_n 1, 1) := by decide +kernel
theorem dX4_copyFrom_88 : decode cX4_copyFrom 88 = .ok (.getfield 40, 3) := by decide +kernel
theorem dX4_copyFrom_91 : decode cX4_copyFrom 91 = .ok (.aload_n 0, 1) := by decide +kernel
theorem dX4_copyFrom_92 : decode cX4_copyFrom 92 = .ok (.getfield 40, 3) := by decide +kernel
theorem dX4_copyFrom_95 : decode cX4_copyFrom 95 = .ok (.invokestatic 57, 3) := by decide +kernel
theorem dX4_copyFrom_98 : decode cX4_copyFrom 98 = .ok (.aload_n 1, 1) := by decide +kernel
theorem dX4_copyFrom_99 : decode cX4_copyFrom 99 = .ok (.getfield 43, 3) := by decide +kernel
theorem dX4_copyFrom_102 : decode cX4_copyFrom 102 = .ok (.aload_n 0, 1) := by decide +kernel
theorem dX4_copyFrom_103 : decode cX4_copyFrom 103 = .ok (.getfield 43, 3) := by decide +kernel
theorem dX4_copyFrom_106 : decode cX4_copyFrom 106 = .ok (.invokestatic 57, 3) := by decide +kernel
theorem dX4_copyFrom_109 : decode cX4_copyFrom 109 = .ok (.aload_n 1, 1) := by decide +kernel
theorem dX4_copyFrom_110 : decode cX4_copyFrom 110 = .ok (.getfield 54, 3) := by decide +kernel
theorem dX4_copyFrom_113 : decode cX4_copyFrom 113 = .ok (.aload_n 0, 1) := by decide +kernel
theorem dX4_copyFrom_114 : decode cX4_copyFrom 114 = .ok (.getfield 54, 3) := by decide +kernel
theorem dX4_copyFrom_117 : decode cX4_copyFrom 117 = .ok (.invokestatic 57, 3) := by decide +kernel
theorem dX4_copyFrom_120 : decode cX4_copyFrom 120 = .ok (.return_, 1) := by decide +kernel
theorem dX4_copyRow_0 : decode cX4_copyRow 0 = .ok (.aload_n 0, 1) := by decide +kernel
theorem dX4_copyRow_1 : decode cX4_copyRow 1 = .ok (.iconst 0, 1) := by decide +kernel
theorem dX4_copyRow_2 : decode cX4_copyRow 2 = .ok (.aload_n 1, 1) := by decide +kernel
theorem dX4_copyRow_3 : decode cX4_copyRow 3 = .ok (.iconst 0, 1) := by decide +kernel
theorem dX4_copyRow_4 : decode cX4_copyRow 4 = .ok (.aload_n 0, 1) := by decide +kernel
theorem dX4_copyRow_5 : decode cX4_copyRow 5 = .ok (.arraylength, 1) := by decide +kernel
theorem dX4_copyRow_6 : decode cX4_copyRow 6 = .ok (.aload_n 1, 1) := by decide +kernel
theorem dX4_copyRow_7 : decode cX4_copyRow 7 = .ok (.arraylength, 1) := by decide +kernel
theorem dX4_copyRow_8 : decode cX4_copyRow 8 = .ok (.invokestatic 61, 3) := by decide +kernel
theorem dX4_copyRow_11 : decode cX4_copyRow 11 = .ok (.invokestatic 67, 3) := by decide +kernel
theorem dX4_copyRow_14 : decode cX4_copyRow 14 = .ok (.return_, 1) := by decide +kernel
theorem dX4_slot_0 : decode cX4_slot 0 = .ok (.iload_n 0, 1) := by decide +kernel
theorem dX4_slot_1 : decode cX4_slot 1 = .ok (.bipush 12, 2) := by decide +kernel
theorem dX4_slot_3 : decode cX4_slot 3 = .ok (.imul, 1) := by decide +kernel
theorem dX4_slot_4 : decode cX4_slot 4 = .ok (.iload_n 1, 1) := by decide +kernel
theorem dX4_slot_5 : decode cX4_slot 5 = .ok (.iadd, 1) := by decide +kernel
theorem dX4_slot_6 : decode cX4_slot 6 = .ok (.ireturn, 1) := by decide +kernel
theorem dX4_hasTrail_0 : decode cX4_hasTrail 0 = .ok (.iload_n 1, 1) := by decide +kernel
theorem dX4_hasTrail_1 : decode cX4_hasTrail 1 = .ok (.ifCond .lt 15, 3) := by decide +kernel
theorem dX4_hasTrail_4 : decode cX4_hasTrail 4 = .ok (.iload_n 1, 1) := by decide +kernel
theorem dX4_hasTrail_5 : decode cX4_hasTrail 5 = .ok (.aload_n 0, 1) := by decide +kernel
theorem dX4_hasTrail_6 : decode cX4_hasTrail 6 = .ok (.getfield 9, 3) := by decide +kernel
theorem dX4_hasTrail_9 : decode cX4_hasTrail 9 = .ok (.if_icmp .ge 7, 3) := by decide +kernel
theorem dX4_hasTrail_12 : decode cX4_hasTrail 12 = .ok (.iconst 1, 1) := by decide +kernel
theorem dX4_hasTrail_13 : decode cX4_hasTrail 13 = .ok (.goto 4, 3) := by decide +kernel
theorem dX4_hasTrail_16 : decode cX4_hasTrail 16 = .ok (.iconst 0, 1) := by decide +kernel
theorem dX4_hasTrail_17 : decode cX4_hasTrail 17 = .ok (.ireturn, 1) := by decide +kernel
set_option maxRecDepth 20000 in
theorem ggX4_hasPoint_X4_hasTrail : GoodIn wsX4_hasPoint wsX4_hasTrail := goodIn_r _ [6, 7, 8, 9, 10, 11, 12, 13, 14, 15, 16, 17, 18, 19] (by decide +kernel) (by decide +kernel)
set_option maxRecDepth 20000 in
theorem gX4_hasPoint_X4_hasTrail : GoodIn wsX4_hasPoint (wsV RX4 73 RX4 yX4_hasTrail wsX4_hasTrail) := goodIn_app (goodIn_of _ (by decide +kernel)) ggX4_hasPoint_X4_hasTrail
theorem dX4_hasPoint_0 : decode cX4_hasPoint 0 = .ok (.aload_n 0, 1) := by decide +kernel
theorem dX4_hasPoint_1 : decode cX4_hasPoint 1 = .ok (.iload_n 1, 1) := by decide +kernel
theorem dX4_hasPoint_2 : decode cX4_hasPoint 2 = .ok (.invokevirtual 73, 3) := by decide +kernel
theorem dX4_hasPoint_5 : decode cX4_hasPoint 5 = .ok (.ifCond .eq 21, 3) := by decide +kernel
theorem dX4_hasPoint_8 : decode cX4_hasPoint 8 = .ok (.iload_n 2, 1) := by decide +kernel
theorem dX4_hasPoint_9 : decode cX4_hasPoint 9 = .ok (.ifCond .lt 17, 3) := by decide +kernel
theorem dX4_hasPoint_12 : decode cX4_hasPoint 12 = .ok (.iload_n 2, 1) := by decide +kernel
theorem dX4_hasPoint_13 : decode cX4_hasPoint 13 = .ok (.aload_n 0, 1) := by decide +kernel
theorem dX4_hasPoint_14 : decode cX4_hasPoint 14 = .ok (.getfield 24, 3) := by decide +kernel
theorem dX4_hasPoint_17 : decode cX4_hasPoint 17 = .ok (.iload_n 1, 1) := by decide +kernel
theorem dX4_hasPoint_18 : decode cX4_hasPoint 18 = .ok (.iaload, 1) := by decide +kernel
theorem dX4_hasPoint_19 : decode cX4_hasPoint 19 = .ok (.if_icmp .ge 7, 3) := by decide +kernel
theorem dX4_hasPoint_22 : decode cX4_hasPoint 22 = .ok (.iconst 1, 1) := by decide +kernel
theorem dX4_hasPoint_23 : decode cX4_hasPoint 23 = .ok (.goto 4, 3) := by decide +kernel
theorem dX4_hasPoint_26 : decode cX4_hasPoint 26 = .ok (.iconst 0, 1) := by decide +kernel
theorem dX4_hasPoint_27 : decode cX4_hasPoint 27 = .ok (.ireturn, 1) := by decide +kernel
theorem dX4_hasStar_0 : decode cX4_hasStar 0 = .ok (.iload_n 1, 1) := by decide +kernel
theorem dX4_hasStar_1 : decode cX4_hasStar 1 = .ok (.ifCond .lt 15, 3) := by decide +kernel
theorem dX4_hasStar_4 : decode cX4_hasStar 4 = .ok (.iload_n 1, 1) := by decide +kernel
theorem dX4_hasStar_5 : decode cX4_hasStar 5 = .ok (.aload_n 0, 1) := by decide +kernel
theorem dX4_hasStar_6 : decode cX4_hasStar 6 = .ok (.getfield 15, 3) := by decide +kernel
theorem dX4_hasStar_9 : decode cX4_hasStar 9 = .ok (.if_icmp .ge 7, 3) := by decide +kernel
theorem dX4_hasStar_12 : decode cX4_hasStar 12 = .ok (.iconst 1, 1) := by decide +kernel
theorem dX4_hasStar_13 : decode cX4_hasStar 13 = .ok (.goto 4, 3) := by decide +kernel
theorem dX4_hasStar_16 : decode cX4_hasStar 16 = .ok (.iconst 0, 1) := by decide +kernel
theorem dX4_hasStar_17 : decode cX4_hasStar 17 = .ok (.ireturn, 1) := by decide +kernel
theorem dX4_faultOfNewTrail_0 : decode cX4_faultOfNewTrail 0 = .ok (.aload_n 0, 1) := by decide +kernel
theorem dX4_faultOfNewTrail_1 : decode cX4_faultOfNewTrail 1 = .ok (.getfield 9, 3) := by decide +kernel
theorem dX4_faultOfNewTrail_4 : decode cX4_faultOfNewTrail 4 = .ok (.bipush 12, 2) := by decide +kernel
theorem dX4_faultOfNewTrail_6 : decode cX4_faultOfNewTrail 6 = .ok (.if_icmp .ge 7, 3) := by decide +kernel
theorem dX4_faultOfNewTrail_9 : decode cX4_faultOfNewTrail 9 = .ok (.iconst 0, 1) := by decide +kernel
theorem dX4_faultOfNewTrail_10 : decode cX4_faultOfNewTrail 10 = .ok (.goto 4, 3) := by decide +kernel
theorem dX4_faultOfNewTrail_13 : decode cX4_faultOfNewTrail 13 = .ok (.iconst 3, 1) := by decide +kernel
theorem dX4_faultOfNewTrail_14 : decode cX4_faultOfNewTrail 14 = .ok (.ireturn, 1) := by decide +kernel
set_option maxRecDepth 20000 in
theorem ggX4_faultOfNewPoint_X4_hasTrail : GoodIn wsX4_faultOfNewPoint wsX4_hasTrail := goodIn_r _ [6, 7, 19, 20, 21, 22, 23, 24, 25, 26, 27, 28, 29, 30] (by decide +kernel) (by decide +kernel)
set_option maxRecDepth 20000 in
theorem gX4_faultOfNewPoint_X4_hasTrail : GoodIn wsX4_faultOfNewPoint (wsV RX4 73 RX4 yX4_hasTrail wsX4_hasTrail) := goodIn_app (goodIn_of _ (by decide +kernel)) ggX4_faultOfNewPoint_X4_hasTrail
set_option maxRecDepth 20000 in
theorem ggX4_faultOfNewPoint_X6_inRange : GoodIn wsX4_faultOfNewPoint wsX6_inRange := goodIn_r _ [10] (by decide +kernel) (by decide +kernel)
set_option maxRecDepth 20000 in
theorem gX4_faultOfNewPoint_X6_inRange_n77 : GoodIn wsX4_faultOfNewPoint (wsX6_inRange) := ggX4_faultOfNewPoint_X6_inRange
set_option maxRecDepth 20000 in
theorem ggX4_faultOfNewPoint_X4_hasFrame : GoodIn wsX4_faultOfNewPoint wsX4_hasFrame := goodIn_r _ [14, 1, 15, 16, 17, 5, 18, 19, 20, 21, 22, 23, 24, 25, 26, 27, 28, 29, 30] (by decide +kernel) (by decide +kernel)
set_option maxRecDepth 20000 in
theorem gX4_faultOfNewPoint_X4_hasFrame : GoodIn wsX4_faultOfNewPoint (wsV RX4 81 RX4 yX4_hasFrame wsX4_hasFrame) := goodIn_app (goodIn_of _ (by decide +kernel)) ggX4_faultOfNewPoint_X4_hasFrame
theorem dX4_faultOfNewPoint_0 : decode cX4_faultOfNewPoint 0 = .ok (.aload_n 0, 1) := by decide +kernel
theorem dX4_faultOfNewPoint_1 : decode cX4_faultOfNewPoint 1 = .ok (.iload_n 1, 1) := by decide +kernel
theorem dX4_faultOfNewPoint_2 : decode cX4_faultOfNewPoint 2 = .ok (.invokevirtual 73, 3) := by decide +kernel
theorem dX4_faultOfNewPoint_5 : decode cX4_faultOfNewPoint 5 = .ok (.ifCond .ne 5, 3) := by decide +kernel
theorem dX4_faultOfNewPoint_8 : decode cX4_faultOfNewPoint 8 = .ok (.iconst 1, 1) := by decide +kernel
theorem dX4_faultOfNewPoint_9 : decode cX4_faultOfNewPoint 9 = .ok (.ireturn, 1) := by decide +kernel
theorem dX4_faultOfNewPoint_10 : decode cX4_faultOfNewPoint 10 = .ok (.iload_n 2, 1) := by decide +kernel
theorem dX4_faultOfNewPoint_11 : decode cX4_faultOfNewPoint 11 = .ok (.iconst 0, 1) := by decide +kernel
theorem dX4_faultOfNewPoint_12 : decode cX4_faultOfNewPoint 12 = .ok (.sipush 1000, 3) := by decide +kernel
theorem dX4_faultOfNewPoint_15 : decode cX4_faultOfNewPoint 15 = .ok (.invokestatic 77, 3) := by decide +kernel
theorem dX4_faultOfNewPoint_18 : decode cX4_faultOfNewPoint 18 = .ok (.ifCond .eq 26, 3) := by decide +kernel
theorem dX4_faultOfNewPoint_21 : decode cX4_faultOfNewPoint 21 = .ok (.iload_n 3, 1) := by decide +kernel
theorem dX4_faultOfNewPoint_22 : decode cX4_faultOfNewPoint 22 = .ok (.iconst 0, 1) := by decide +kernel
theorem dX4_faultOfNewPoint_23 : decode cX4_faultOfNewPoint 23 = .ok (.sipush 4000, 3) := by decide +kernel
theorem dX4_faultOfNewPoint_26 : decode cX4_faultOfNewPoint 26 = .ok (.invokestatic 77, 3) := by decide +kernel
theorem dX4_faultOfNewPoint_29 : decode cX4_faultOfNewPoint 29 = .ok (.ifCond .eq 15, 3) := by decide +kernel
theorem dX4_faultOfNewPoint_32 : decode cX4_faultOfNewPoint 32 = .ok (.iload 4, 2) := by decide +kernel
theorem dX4_faultOfNewPoint_34 : decode cX4_faultOfNewPoint 34 = .ok (.iconst 0, 1) := by decide +kernel
theorem dX4_faultOfNewPoint_35 : decode cX4_faultOfNewPoint 35 = .ok (.sipush 4000, 3) := by decide +kernel
theorem dX4_faultOfNewPoint_38 : decode cX4_faultOfNewPoint 38 = .ok (.invokestatic 77, 3) := by decide +kernel
theorem dX4_faultOfNewPoint_41 : decode cX4_faultOfNewPoint 41 = .ok (.ifCond .ne 5, 3) := by decide +kernel
theorem dX4_faultOfNewPoint_44 : decode cX4_faultOfNewPoint 44 = .ok (.iconst 2, 1) := by decide +kernel
theorem dX4_faultOfNewPoint_45 : decode cX4_faultOfNewPoint 45 = .ok (.ireturn, 1) := by decide +kernel
theorem dX4_faultOfNewPoint_46 : decode cX4_faultOfNewPoint 46 = .ok (.aload_n 0, 1) := by decide +kernel
theorem dX4_faultOfNewPoint_47 : decode cX4_faultOfNewPoint 47 = .ok (.getfield 24, 3) := by decide +kernel
theorem dX4_faultOfNewPoint_50 : decode cX4_faultOfNewPoint 50 = .ok (.iload_n 1, 1) := by decide +kernel
theorem dX4_faultOfNewPoint_51 : decode cX4_faultOfNewPoint 51 = .ok (.iaload, 1) := by decide +kernel
theorem dX4_faultOfNewPoint_52 : decode cX4_faultOfNewPoint 52 = .ok (.bipush 12, 2) := by decide +kernel
theorem dX4_faultOfNewPoint_54 : decode cX4_faultOfNewPoint 54 = .ok (.if_icmp .ge 16, 3) := by decide +kernel
theorem dX4_faultOfNewPoint_57 : decode cX4_faultOfNewPoint 57 = .ok (.aload_n 0, 1) := by decide +kernel
theorem dX4_faultOfNewPoint_58 : decode cX4_faultOfNewPoint 58 = .ok (.iload_n 1, 1) := by decide +kernel
theorem dX4_faultOfNewPoint_59 : decode cX4_faultOfNewPoint 59 = .ok (.iload_n 2, 1) := by decide +kernel
theorem dX4_faultOfNewPoint_60 : decode cX4_faultOfNewPoint 60 = .ok (.invokevirtual 81, 3) := by decide +kernel
theorem dX4_faultOfNewPoint_63 : decode cX4_faultOfNewPoint 63 = .ok (.ifCond .ne 7, 3) := by decide +kernel
theorem dX4_faultOfNewPoint_66 : decode cX4_faultOfNewPoint 66 = .ok (.iconst 0, 1) := by decide +kernel
theorem dX4_faultOfNewPoint_67 : decode cX4_faultOfNewPoint 67 = .ok (.goto 4, 3) := by decide +kernel
theorem dX4_faultOfNewPoint_70 : decode cX4_faultOfNewPoint 70 = .ok (.iconst 3, 1) := by decide +kernel
theorem dX4_faultOfNewPoint_71 : decode cX4_faultOfNewPoint 71 = .ok (.ireturn, 1) := by decide +kernel
set_option maxRecDepth 20000 in
theorem ggX4_hasFrame_X4_slot : GoodIn wsX4_hasFrame wsX4_slot := goodIn_r _ [6] (by decide +kernel) (by decide +kernel)
set_option maxRecDepth 20000 in
theorem gX4_hasFrame_X4_slot : GoodIn wsX4_hasFrame (va_wsS RX4 85 yX4_slot wsX4_slot) := goodIn_app (goodIn_of _ (by decide +kernel)) ggX4_hasFrame_X4_slot
theorem dX4_hasFrame_0 : decode cX4_hasFrame 0 = .ok (.iconst 0, 1) := by decide +kernel
theorem dX4_hasFrame_1 : decode cX4_hasFrame 1 = .ok (.istore_n 3, 1) := by decide +kernel
theorem dX4_hasFrame_2 : decode cX4_hasFrame 2 = .ok (.iload_n 3, 1) := by decide +kernel
theorem dX4_hasFrame_3 : decode cX4_hasFrame 3 = .ok (.aload_n 0, 1) := by decide +kernel
theorem dX4_hasFrame_4 : decode cX4_hasFrame 4 = .ok (.getfield 24, 3) := by decide +kernel
theorem dX4_hasFrame_7 : decode cX4_hasFrame 7 = .ok (.iload_n 1, 1) := by decide +kernel
theorem dX4_hasFrame_8 : decode cX4_hasFrame 8 = .ok (.iaload, 1) := by decide +kernel
theorem dX4_hasFrame_9 : decode cX4_hasFrame 9 = .ok (.if_icmp .ge 25, 3) := by decide +kernel
theorem dX4_hasFrame_12 : decode cX4_hasFrame 12 = .ok (.aload_n 0, 1) := by decide +kernel
theorem dX4_hasFrame_13 : decode cX4_hasFrame 13 = .ok (.getfield 28, 3) := by decide +kernel
theorem dX4_hasFrame_16 : decode cX4_hasFrame 16 = .ok (.iload_n 1, 1) := by decide +kernel
theorem dX4_hasFrame_17 : decode cX4_hasFrame 17 = .ok (.iload_n 3, 1) := by decide +kernel
theorem dX4_hasFrame_18 : decode cX4_hasFrame 18 = .ok (.invokestatic 85, 3) := by decide +kernel
theorem dX4_hasFrame_21 : decode cX4_hasFrame 21 = .ok (.iaload, 1) := by decide +kernel
theorem dX4_hasFrame_22 : decode cX4_hasFrame 22 = .ok (.iload_n 2, 1) := by decide +kernel
theorem dX4_hasFrame_23 : decode cX4_hasFrame 23 = .ok (.if_icmp .ne 5, 3) := by decide +kernel
theorem dX4_hasFrame_26 : decode cX4_hasFrame 26 = .ok (.iconst 1, 1) := by decide +kernel
theorem dX4_hasFrame_27 : decode cX4_hasFrame 27 = .ok (.ireturn, 1) := by decide +kernel
theorem dX4_hasFrame_28 : decode cX4_hasFrame 28 = .ok (.iinc 3 1, 3) := by decide +kernel
theorem dX4_hasFrame_31 : decode cX4_hasFrame 31 = .ok (.goto (-29), 3) := by decide +kernel
theorem dX4_hasFrame_34 : decode cX4_hasFrame 34 = .ok (.iconst 0, 1) := by decide +kernel
theorem dX4_hasFrame_35 : decode cX4_hasFrame 35 = .ok (.ireturn, 1) := by decide +kernel
set_option maxRecDepth 20000 in
theorem ggX4_faultOfSetting_X6_inRange : GoodIn wsX4_faultOfSetting wsX6_inRange := goodIn_r _ [5] (by decide +kernel) (by decide +kernel)
set_option maxRecDepth 20000 in
theorem gX4_faultOfSetting_X6_inRange_n77 : GoodIn wsX4_faultOfSetting (wsX6_inRange) := ggX4_faultOfSetting_X6_inRange
theorem dX4_faultOfSetting_0 : decode cX4_faultOfSetting 0 = .ok (.iload_n 0, 1) := by decide +kernel
theorem dX4_faultOfSetting_1 : decode cX4_faultOfSetting 1 = .ok (.iconst 0, 1) := by decide +kernel
theorem dX4_faultOfSetting_2 : decode cX4_faultOfSetting 2 = .ok (.bipush 9, 2) := by decide +kernel
theorem dX4_faultOfSetting_4 : decode cX4_faultOfSetting 4 = .ok (.invokestatic 77, 3) := by decide +kernel
theorem dX4_faultOfSetting_7 : decode cX4_faultOfSetting 7 = .ok (.ifCond .eq 24, 3) := by decide +kernel
theorem dX4_faultOfSetting_10 : decode cX4_faultOfSetting 10 = .ok (.iload_n 1, 1) := by decide +kernel
theorem dX4_faultOfSetting_11 : decode cX4_faultOfSetting 11 = .ok (.getstatic 88, 3) := by decide +kernel
theorem dX4_faultOfSetting_14 : decode cX4_faultOfSetting 14 = .ok (.iload_n 0, 1) := by decide +kernel
theorem dX4_faultOfSetting_15 : decode cX4_faultOfSetting 15 = .ok (.iaload, 1) := by decide +kernel
theorem dX4_faultOfSetting_16 : decode cX4_faultOfSetting 16 = .ok (.getstatic 91, 3) := by decide +kernel
theorem dX4_faultOfSetting_19 : decode cX4_faultOfSetting 19 = .ok (.iload_n 0, 1) := by decide +kernel
theorem dX4_faultOfSetting_20 : decode cX4_faultOfSetting 20 = .ok (.iaload, 1) := by decide +kernel
theorem dX4_faultOfSetting_21 : decode cX4_faultOfSetting 21 = .ok (.invokestatic 77, 3) := by decide +kernel
theorem dX4_faultOfSetting_24 : decode cX4_faultOfSetting 24 = .ok (.ifCond .eq 7, 3) := by decide +kernel
theorem dX4_faultOfSetting_27 : decode cX4_faultOfSetting 27 = .ok (.iconst 0, 1) := by decide +kernel
theorem dX4_faultOfSetting_28 : decode cX4_faultOfSetting 28 = .ok (.goto 4, 3) := by decide +kernel
theorem dX4_faultOfSetting_31 : decode cX4_faultOfSetting 31 = .ok (.iconst 2, 1) := by decide +kernel
theorem dX4_faultOfSetting_32 : decode cX4_faultOfSetting 32 = .ok (.ireturn, 1) := by decide +kernel
set_option maxRecDepth 20000 in
theorem ggX4_faultOfPole_X4_isPole : GoodIn wsX4_faultOfPole wsX4_isPole := goodIn_r _ [4, 5, 6, 7] (by decide +kernel) (by decide +kernel)
set_option maxRecDepth 20000 in
theorem gX4_faultOfPole_X4_isPole : GoodIn wsX4_faultOfPole (va_wsS RX4 94 yX4_isPole wsX4_isPole) := goodIn_app (goodIn_of _ (by decide +kernel)) ggX4_faultOfPole_X4_isPole
theorem dX4_faultOfPole_0 : decode cX4_faultOfPole 0 = .ok (.iload_n 0, 1) := by decide +kernel
theorem dX4_faultOfPole_1 : decode cX4_faultOfPole 1 = .ok (.iload_n 1, 1) := by decide +kernel
theorem dX4_faultOfPole_2 : decode cX4_faultOfPole 2 = .ok (.invokestatic 94, 3) := by decide +kernel
theorem dX4_faultOfPole_5 : decode cX4_faultOfPole 5 = .ok (.ifCond .eq 7, 3) := by decide +kernel
theorem dX4_faultOfPole_8 : decode cX4_faultOfPole 8 = .ok (.iconst 0, 1) := by decide +kernel
theorem dX4_faultOfPole_9 : decode cX4_faultOfPole 9 = .ok (.goto 4, 3) := by decide +kernel
theorem dX4_faultOfPole_12 : decode cX4_faultOfPole 12 = .ok (.iconst 2, 1) := by decide +kernel
theorem dX4_faultOfPole_13 : decode cX4_faultOfPole 13 = .ok (.ireturn, 1) := by decide +kernel
set_option maxRecDepth 20000 in
theorem ggX4_isPole_X6_inRange : GoodIn wsX4_isPole wsX6_inRange := goodIn_r _ [3] (by decide +kernel) (by decide +kernel)
set_option maxRecDepth 20000 in
theorem gX4_isPole_X6_inRange_n77 : GoodIn wsX4_isPole (wsX6_inRange) := ggX4_isPole_X6_inRange
theorem dX4_isPole_0 : decode cX4_isPole 0 = .ok (.iload_n 0, 1) := by decide +kernel
theorem dX4_isPole_1 : decode cX4_isPole 1 = .ok (.sipush (-2000), 3) := by decide +kernel
theorem dX4_isPole_4 : decode cX4_isPole 4 = .ok (.sipush 6000, 3) := by decide +kernel
theorem dX4_isPole_7 : decode cX4_isPole 7 = .ok (.invokestatic 77, 3) := by decide +kernel
theorem dX4_isPole_10 : decode cX4_isPole 10 = .ok (.ifCond .eq 20, 3) := by decide +kernel
theorem dX4_isPole_13 : decode cX4_isPole 13 = .ok (.iload_n 1, 1) := by decide +kernel
theorem dX4_isPole_14 : decode cX4_isPole 14 = .ok (.sipush (-2000), 3) := by decide +kernel
theorem dX4_isPole_17 : decode cX4_isPole 17 = .ok (.sipush 6000, 3) := by decide +kernel
theorem dX4_isPole_20 : decode cX4_isPole 20 = .ok (.invokestatic 77, 3) := by decide +kernel
theorem dX4_isPole_23 : decode cX4_isPole 23 = .ok (.ifCond .eq 7, 3) := by decide +kernel
theorem dX4_isPole_26 : decode cX4_isPole 26 = .ok (.iconst 1, 1) := by decide +kernel
theorem dX4_isPole_27 : decode cX4_isPole 27 = .ok (.goto 4, 3) := by decide +kernel
theorem dX4_isPole_30 : decode cX4_isPole 30 = .ok (.iconst 0, 1) := by decide +kernel
theorem dX4_isPole_31 : decode cX4_isPole 31 = .ok (.ireturn, 1) := by decide +kernel
set_option maxRecDepth 20000 in
theorem ggX4_faultOfStep_X6_inRange : GoodIn wsX4_faultOfStep wsX6_inRange := goodIn_r _ [3] (by decide +kernel) (by decide +kernel)
set_option maxRecDepth 20000 in
theorem gX4_faultOfStep_X6_inRange_n77 : GoodIn wsX4_faultOfStep (wsX6_inRange) := ggX4_faultOfStep_X6_inRange
theorem dX4_faultOfStep_0 : decode cX4_faultOfStep 0 = .ok (.iload_n 0, 1) := by decide +kernel
theorem dX4_faultOfStep_1 : decode cX4_faultOfStep 1 = .ok (.iconst 1, 1) := by decide +kernel
theorem dX4_faultOfStep_2 : decode cX4_faultOfStep 2 = .ok (.sipush 512, 3) := by decide +kernel
theorem dX4_faultOfStep_5 : decode cX4_faultOfStep 5 = .ok (.invokestatic 77, 3) := by decide +kernel
theorem dX4_faultOfStep_8 : decode cX4_faultOfStep 8 = .ok (.ifCond .eq 7, 3) := by decide +kernel
theorem dX4_faultOfStep_11 : decode cX4_faultOfStep 11 = .ok (.iconst 0, 1) := by decide +kernel
theorem dX4_faultOfStep_12 : decode cX4_faultOfStep 12 = .ok (.goto 4, 3) := by decide +kernel
theorem dX4_faultOfStep_15 : decode cX4_faultOfStep 15 = .ok (.iconst 2, 1) := by decide +kernel
theorem dX4_faultOfStep_16 : decode cX4_faultOfStep 16 = .ok (.ireturn, 1) := by decide +kernel
set_option maxRecDepth 20000 in
theorem ggX4_faultOfNewStar_X6_inRange : GoodIn wsX4_faultOfNewStar wsX6_inRange := goodIn_r _ [6] (by decide +kernel) (by decide +kernel)
set_option maxRecDepth 20000 in
theorem gX4_faultOfNewStar_X6_inRange_n77 : GoodIn wsX4_faultOfNewStar (wsX6_inRange) := ggX4_faultOfNewStar_X6_inRange
theorem dX4_faultOfNewStar_0 : decode cX4_faultOfNewStar 0 = .ok (.iload_n 1, 1) := by decide +kernel
theorem dX4_faultOfNewStar_1 : decode cX4_faultOfNewStar 1 = .ok (.iconst 1, 1) := by decide +kernel
theorem dX4_faultOfNewStar_2 : decode cX4_faultOfNewStar 2 = .ok (.ldc 97, 2) := by decide +kernel
theorem dX4_faultOfNewStar_4 : decode cX4_faultOfNewStar 4 = .ok (.invokestatic 77, 3) := by decide +kernel
theorem dX4_faultOfNewStar_7 : decode cX4_faultOfNewStar 7 = .ok (.ifCond .eq 23, 3) := by decide +kernel
theorem dX4_faultOfNewStar_10 : decode cX4_faultOfNewStar 10 = .ok (.iload_n 2, 1) := by decide +kernel
theorem dX4_faultOfNewStar_11 : decode cX4_faultOfNewStar 11 = .ok (.iconst 0, 1) := by decide +kernel
theorem dX4_faultOfNewStar_12 : decode cX4_faultOfNewStar 12 = .ok (.ldc 98, 2) := by decide +kernel
theorem dX4_faultOfNewStar_14 : decode cX4_faultOfNewStar 14 = .ok (.invokestatic 77, 3) := by decide +kernel
theorem dX4_faultOfNewStar_17 : decode cX4_faultOfNewStar 17 = .ok (.ifCond .eq 13, 3) := by decide +kernel
theorem dX4_faultOfNewStar_20 : decode cX4_faultOfNewStar 20 = .ok (.iload_n 3, 1) := by decide +kernel
theorem dX4_faultOfNewStar_21 : decode cX4_faultOfNewStar 21 = .ok (.iconst 0, 1) := by decide +kernel
theorem dX4_faultOfNewStar_22 : decode cX4_faultOfNewStar 22 = .ok (.bipush 9, 2) := by decide +kernel
theorem dX4_faultOfNewStar_24 : decode cX4_faultOfNewStar 24 = .ok (.invokestatic 77, 3) := by decide +kernel
theorem dX4_faultOfNewStar_27 : decode cX4_faultOfNewStar 27 = .ok (.ifCond .ne 5, 3) := by decide +kernel
theorem dX4_faultOfNewStar_30 : decode cX4_faultOfNewStar 30 = .ok (.iconst 2, 1) := by decide +kernel
theorem dX4_faultOfNewStar_31 : decode cX4_faultOfNewStar 31 = .ok (.ireturn, 1) := by decide +kernel
theorem dX4_faultOfNewStar_32 : decode cX4_faultOfNewStar 32 = .ok (.aload_n 0, 1) := by decide +kernel
theorem dX4_faultOfNewStar_33 : decode cX4_faultOfNewStar 33 = .ok (.getfield 15, 3) := by decide +kernel
theorem dX4_faultOfNewStar_36 : decode cX4_faultOfNewStar 36 = .ok (.bipush 12, 2) := by decide +kernel
theorem dX4_faultOfNewStar_38 : decode cX4_faultOfNewStar 38 = .ok (.if_icmp .ge 7, 3) := by decide +kernel
theorem dX4_faultOfNewStar_41 : decode cX4_faultOfNewStar 41 = .ok (.iconst 0, 1) := by decide +kernel
theorem dX4_faultOfNewStar_42 : decode cX4_faultOfNewStar 42 = .ok (.goto 4, 3) := by decide +kernel
theorem dX4_faultOfNewStar_45 : decode cX4_faultOfNewStar 45 = .ok (.iconst 3, 1) := by decide +kernel
theorem dX4_faultOfNewStar_46 : decode cX4_faultOfNewStar 46 = .ok (.ireturn, 1) := by decide +kernel
theorem dX4_putTrail_0 : decode cX4_putTrail 0 = .ok (.aload_n 0, 1) := by decide +kernel
theorem dX4_putTrail_1 : decode cX4_putTrail 1 = .ok (.getfield 24, 3) := by decide +kernel
theorem dX4_putTrail_4 : decode cX4_putTrail 4 = .ok (.aload_n 0, 1) := by decide +kernel
theorem dX4_putTrail_5 : decode cX4_putTrail 5 = .ok (.getfield 9, 3) := by decide +kernel
theorem dX4_putTrail_8 : decode cX4_putTrail 8 = .ok (.iconst 0, 1) := by decide +kernel
theorem dX4_putTrail_9 : decode cX4_putTrail 9 = .ok (.iastore, 1) := by decide +kernel
theorem dX4_putTrail_10 : decode cX4_putTrail 10 = .ok (.aload_n 0, 1) := by decide +kernel
theorem dX4_putTrail_11 : decode cX4_putTrail 11 = .ok (.dup, 1) := by decide +kernel
theorem dX4_putTrail_12 : decode cX4_putTrail 12 = .ok (.getfield 9, 3) := by decide +kernel
theorem dX4_putTrail_15 : decode cX4_putTrail 15 = .ok (.iconst 1, 1) := by decide +kernel
theorem dX4_putTrail_16 : decode cX4_putTrail 16 = .ok (.iadd, 1) := by decide +kernel
theorem dX4_putTrail_17 : decode cX4_putTrail 17 = .ok (.putfield 9, 3) := by decide +kernel
theorem dX4_putTrail_20 : decode cX4_putTrail 20 = .ok (.aload_n 0, 1) := by decide +kernel
theorem dX4_putTrail_21 : decode cX4_putTrail 21 = .ok (.getfield 9, 3) := by decide +kernel
theorem dX4_putTrail_24 : decode cX4_putTrail 24 = .ok (.iconst 1, 1) := by decide +kernel
theorem dX4_putTrail_25 : decode cX4_putTrail 25 = .ok (.isub, 1) := by decide +kernel
theorem dX4_putTrail_26 : decode cX4_putTrail 26 = .ok (.ireturn, 1) := by decide +kernel
set_option maxRecDepth 20000 in
theorem ggX4_dropTrail_X4_closeUp : GoodIn wsX4_dropTrail wsX4_closeUp := goodIn_r _ [9] (by decide +kernel) (by decide +kernel)
set_option maxRecDepth 20000 in
theorem gX4_dropTrail_X4_closeUp : GoodIn wsX4_dropTrail (va_wsS RX4 99 yX4_closeUp wsX4_closeUp) := goodIn_app (goodIn_of _ (by decide +kernel)) ggX4_dropTrail_X4_closeUp
set_option maxRecDepth 20000 in
theorem ggX4_dropTrail_X4_slot : GoodIn wsX4_dropTrail wsX4_slot := goodIn_r _ [12] (by decide +kernel) (by decide +kernel)
set_option maxRecDepth 20000 in
theorem gX4_dropTrail_X4_slot : GoodIn wsX4_dropTrail (va_wsS RX4 85 yX4_slot wsX4_slot) := goodIn_app (goodIn_of _ (by decide +kernel)) ggX4_dropTrail_X4_slot
theorem dX4_dropTrail_0 : decode cX4_dropTrail 0 = .ok (.aload_n 0, 1) := by decide +kernel
theorem dX4_dropTrail_1 : decode cX4_dropTrail 1 = .ok (.getfield 24, 3) := by decide +kernel
theorem dX4_dropTrail_4 : decode cX4_dropTrail 4 = .ok (.iload_n 1, 1) := by decide +kernel
theorem dX4_dropTrail_5 : decode cX4_dropTrail 5 = .ok (.iconst 1, 1) := by decide +kernel
theorem dX4_dropTrail_6 : decode cX4_dropTrail 6 = .ok (.aload_n 0, 1) := by decide +kernel
theorem dX4_dropTrail_7 : decode cX4_dropTrail 7 = .ok (.getfield 9, 3) := by decide +kernel
theorem dX4_dropTrail_10 : decode cX4_dropTrail 10 = .ok (.invokestatic 99, 3) := by decide +kernel
theorem dX4_dropTrail_13 : decode cX4_dropTrail 13 = .ok (.iload_n 1, 1) := by decide +kernel
theorem dX4_dropTrail_14 : decode cX4_dropTrail 14 = .ok (.iconst 0, 1) := by decide +kernel
theorem dX4_dropTrail_15 : decode cX4_dropTrail 15 = .ok (.invokestatic 85, 3) := by decide +kernel
theorem dX4_dropTrail_18 : decode cX4_dropTrail 18 = .ok (.istore_n 2, 1) := by decide +kernel
theorem dX4_dropTrail_19 : decode cX4_dropTrail 19 = .ok (.aload_n 0, 1) := by decide +kernel
theorem dX4_dropTrail_20 : decode cX4_dropTrail 20 = .ok (.getfield 9, 3) := by decide +kernel
theorem dX4_dropTrail_23 : decode cX4_dropTrail 23 = .ok (.iconst 0, 1) := by decide +kernel
theorem dX4_dropTrail_24 : decode cX4_dropTrail 24 = .ok (.invokestatic 85, 3) := by decide +kernel
theorem dX4_dropTrail_27 : decode cX4_dropTrail 27 = .ok (.istore_n 3, 1) := by decide +kernel
theorem dX4_dropTrail_28 : decode cX4_dropTrail 28 = .ok (.aload_n 0, 1) := by decide +kernel
theorem dX4_dropTrail_29 : decode cX4_dropTrail 29 = .ok (.getfield 28, 3) := by decide +kernel
theorem dX4_dropTrail_32 : decode cX4_dropTrail 32 = .ok (.iload_n 2, 1) := by decide +kernel
theorem dX4_dropTrail_33 : decode cX4_dropTrail 33 = .ok (.bipush 12, 2) := by decide +kernel
theorem dX4_dropTrail_35 : decode cX4_dropTrail 35 = .ok (.iload_n 3, 1) := by decide +kernel
theorem dX4_dropTrail_36 : decode cX4_dropTrail 36 = .ok (.invokestatic 99, 3) := by decide +kernel
theorem dX4_dropTrail_39 : decode cX4_dropTrail 39 = .ok (.aload_n 0, 1) := by decide +kernel
theorem dX4_dropTrail_40 : decode cX4_dropTrail 40 = .ok (.getfield 31, 3) := by decide +kernel
theorem dX4_dropTrail_43 : decode cX4_dropTrail 43 = .ok (.iload_n 2, 1) := by decide +kernel
theorem dX4_dropTrail_44 : decode cX4_dropTrail 44 = .ok (.bipush 12, 2) := by decide +kernel
theorem dX4_dropTrail_46 : decode cX4_dropTrail 46 = .ok (.iload_n 3, 1) := by decide +kernel
theorem dX4_dropTrail_47 : decode cX4_dropTrail 47 = .ok (.invokestatic 99, 3) := by decide +kernel
theorem dX4_dropTrail_50 : decode cX4_dropTrail 50 = .ok (.aload_n 0, 1) := by decide +kernel
theorem dX4_dropTrail_51 : decode cX4_dropTrail 51 = .ok (.getfield 34, 3) := by decide +kernel
theorem dX4_dropTrail_54 : decode cX4_dropTrail 54 = .ok (.iload_n 2, 1) := by decide +kernel
theorem dX4_dropTrail_55 : decode cX4_dropTrail 55 = .ok (.bipush 12, 2) := by decide +kernel
theorem dX4_dropTrail_57 : decode cX4_dropTrail 57 = .ok (.iload_n 3, 1) := by decide +kernel
theorem dX4_dropTrail_58 : decode cX4_dropTrail 58 = .ok (.invokestatic 99, 3) := by decide +kernel
theorem dX4_dropTrail_61 : decode cX4_dropTrail 61 = .ok (.aload_n 0, 1) := by decide +kernel
theorem dX4_dropTrail_62 : decode cX4_dropTrail 62 = .ok (.dup, 1) := by decide +kernel
theorem dX4_dropTrail_63 : decode cX4_dropTrail 63 = .ok (.getfield 9, 3) := by decide +kernel
theorem dX4_dropTrail_66 : decode cX4_dropTrail 66 = .ok (.iconst 1, 1) := by decide +kernel
theorem dX4_dropTrail_67 : decode cX4_dropTrail 67 = .ok (.isub, 1) := by decide +kernel
theorem dX4_dropTrail_68 : decode cX4_dropTrail 68 = .ok (.putfield 9, 3) := by decide +kernel
theorem dX4_dropTrail_71 : decode cX4_dropTrail 71 = .ok (.aload_n 0, 1) := by decide +kernel
theorem dX4_dropTrail_72 : decode cX4_dropTrail 72 = .ok (.getfield 9, 3) := by decide +kernel
theorem dX4_dropTrail_75 : decode cX4_dropTrail 75 = .ok (.ireturn, 1) := by decide +kernel
set_option maxRecDepth 20000 in
theorem ggX4_putPoint_X4_slot : GoodIn wsX4_putPoint wsX4_slot := goodIn_r _ [8] (by decide +kernel) (by decide +kernel)
set_option maxRecDepth 20000 in
theorem gX4_putPoint_X4_slot : GoodIn wsX4_putPoint (va_wsS RX4 85 yX4_slot wsX4_slot) := goodIn_app (goodIn_of _ (by decide +kernel)) ggX4_putPoint_X4_slot
set_option maxRecDepth 20000 in
theorem ggX4_putPoint_X4_insert : GoodIn wsX4_putPoint wsX4_insert := goodIn_r _ [11] (by decide +kernel) (by decide +kernel)
set_option maxRecDepth 20000 in
theorem gX4_putPoint_X4_insert : GoodIn wsX4_putPoint (va_wsS RX4 103 yX4_insert wsX4_insert) := goodIn_app (goodIn_of _ (by decide +kernel)) ggX4_putPoint_X4_insert
theorem dX4_putPoint_0 : decode cX4_putPoint 0 = .ok (.iconst 0, 1) := by decide +kernel
theorem dX4_putPoint_1 : decode cX4_putPoint 1 = .ok (.istore 5, 2) := by decide +kernel
theorem dX4_putPoint_3 : decode cX4_putPoint 3 = .ok (.iload 5, 2) := by decide +kernel
theorem dX4_putPoint_5 : decode cX4_putPoint 5 = .ok (.aload_n 0, 1) := by decide +kernel
theorem dX4_putPoint_6 : decode cX4_putPoint 6 = .ok (.getfield 24, 3) := by decide +kernel
theorem dX4_putPoint_9 : decode cX4_putPoint 9 = .ok (.iload_n 1, 1) := by decide +kernel
theorem dX4_putPoint_10 : decode cX4_putPoint 10 = .ok (.iaload, 1) := by decide +kernel
theorem dX4_putPoint_11 : decode cX4_putPoint 11 = .ok (.if_icmp .ge 24, 3) := by decide +kernel
theorem dX4_putPoint_14 : decode cX4_putPoint 14 = .ok (.aload_n 0, 1) := by decide +kernel
theorem dX4_putPoint_15 : decode cX4_putPoint 15 = .ok (.getfield 28, 3) := by decide +kernel
theorem dX4_putPoint_18 : decode cX4_putPoint 18 = .ok (.iload_n 1, 1) := by decide +kernel
theorem dX4_putPoint_19 : decode cX4_putPoint 19 = .ok (.iload 5, 2) := by decide +kernel
theorem dX4_putPoint_21 : decode cX4_putPoint 21 = .ok (.invokestatic 85, 3) := by decide +kernel
theorem dX4_putPoint_24 : decode cX4_putPoint 24 = .ok (.iaload, 1) := by decide +kernel
theorem dX4_putPoint_25 : decode cX4_putPoint 25 = .ok (.iload_n 2, 1) := by decide +kernel
theorem dX4_putPoint_26 : decode cX4_putPoint 26 = .ok (.if_icmp .ge 9, 3) := by decide +kernel
theorem dX4_putPoint_29 : decode cX4_putPoint 29 = .ok (.iinc 5 1, 3) := by decide +kernel
theorem dX4_putPoint_32 : decode cX4_putPoint 32 = .ok (.goto (-29), 3) := by decide +kernel
theorem dX4_putPoint_35 : decode cX4_putPoint 35 = .ok (.iload_n 1, 1) := by decide +kernel
theorem dX4_putPoint_36 : decode cX4_putPoint 36 = .ok (.iload 5, 2) := by decide +kernel
theorem dX4_putPoint_38 : decode cX4_putPoint 38 = .ok (.invokestatic 85, 3) := by decide +kernel
theorem dX4_putPoint_41 : decode cX4_putPoint 41 = .ok (.istore 6, 2) := by decide +kernel
theorem dX4_putPoint_43 : decode cX4_putPoint 43 = .ok (.iload_n 1, 1) := by decide +kernel
theorem dX4_putPoint_44 : decode cX4_putPoint 44 = .ok (.aload_n 0, 1) := by decide +kernel
theorem dX4_putPoint_45 : decode cX4_putPoint 45 = .ok (.getfield 24, 3) := by decide +kernel
theorem dX4_putPoint_48 : decode cX4_putPoint 48 = .ok (.iload_n 1, 1) := by decide +kernel
theorem dX4_putPoint_49 : decode cX4_putPoint 49 = .ok (.iaload, 1) := by decide +kernel
theorem dX4_putPoint_50 : decode cX4_putPoint 50 = .ok (.invokestatic 85, 3) := by decide +kernel
theorem dX4_putPoint_53 : decode cX4_putPoint 53 = .ok (.istore 7, 2) := by decide +kernel
theorem dX4_putPoint_55 : decode cX4_putPoint 55 = .ok (.aload_n 0, 1) := by decide +kernel
theorem dX4_putPoint_56 : decode cX4_putPoint 56 = .ok (.getfield 28, 3) := by decide +kernel
theorem dX4_putPoint_59 : decode cX4_putPoint 59 = .ok (.iload 6, 2) := by decide +kernel
theorem dX4_putPoint_61 : decode cX4_putPoint 61 = .ok (.iload 7, 2) := by decide +kernel
theorem dX4_putPoint_63 : decode cX4_putPoint 63 = .ok (.iload_n 2, 1) := by decide +kernel
theorem dX4_putPoint_64 : decode cX4_putPoint 64 = .ok (.invokestatic 103, 3) := by decide +kernel
theorem dX4_putPoint_67 : decode cX4_putPoint 67 = .ok (.aload_n 0, 1) := by decide +kernel
theorem dX4_putPoint_68 : decode cX4_putPoint 68 = .ok (.getfield 31, 3) := by decide +kernel
theorem dX4_putPoint_71 : decode cX4_putPoint 71 = .ok (.iload 6, 2) := by decide +kernel
theorem dX4_putPoint_73 : decode cX4_putPoint 73 = .ok (.iload 7, 2) := by decide +kernel
theorem dX4_putPoint_75 : decode cX4_putPoint 75 = .ok (.iload_n 3, 1) := by decide +kernel
theorem dX4_putPoint_76 : decode cX4_putPoint 76 = .ok (.invokestatic 103, 3) := by decide +kernel
theorem dX4_putPoint_79 : decode cX4_putPoint 79 = .ok (.aload_n 0, 1) := by decide +kernel
theorem dX4_putPoint_80 : decode cX4_putPoint 80 = .ok (.getfield 34, 3) := by decide +kernel
theorem dX4_putPoint_83 : decode cX4_putPoint 83 = .ok (.iload 6, 2) := by decide +kernel
theorem dX4_putPoint_85 : decode cX4_putPoint 85 = .ok (.iload 7, 2) := by decide +kernel
theorem dX4_putPoint_87 : decode cX4_putPoint 87 = .ok (.iload 4, 2) := by decide +kernel
theorem dX4_putPoint_89 : decode cX4_putPoint 89 = .ok (.invokestatic 103, 3) := by decide +kernel
theorem dX4_putPoint_92 : decode cX4_putPoint 92 = .ok (.aload_n 0, 1) := by decide +kernel
theorem dX4_putPoint_93 : decode cX4_putPoint 93 = .ok (.getfield 24, 3) := by decide +kernel
theorem dX4_putPoint_96 : decode cX4_putPoint 96 = .ok (.iload_n 1, 1) := by decide +kernel
theorem dX4_putPoint_97 : decode cX4_putPoint 97 = .ok (.dup2, 1) := by decide +kernel
theorem dX4_putPoint_98 : decode cX4_putPoint 98 = .ok (.iaload, 1) := by decide +kernel
theorem dX4_putPoint_99 : decode cX4_putPoint 99 = .ok (.iconst 1, 1) := by decide +kernel
theorem dX4_putPoint_100 : decode cX4_putPoint 100 = .ok (.iadd, 1) := by decide +kernel
theorem dX4_putPoint_101 : decode cX4_putPoint 101 = .ok (.iastore, 1) := by decide +kernel
theorem dX4_putPoint_102 : decode cX4_putPoint 102 = .ok (.iload 5, 2) := by decide +kernel
theorem dX4_putPoint_104 : decode cX4_putPoint 104 = .ok (.ireturn, 1) := by decide +kernel
set_option maxRecDepth 20000 in
theorem ggX4_dropPoint_X4_slot : GoodIn wsX4_dropPoint wsX4_slot := goodIn_r _ [8] (by decide +kernel) (by decide +kernel)
set_option maxRecDepth 20000 in
theorem gX4_dropPoint_X4_slot : GoodIn wsX4_dropPoint (va_wsS RX4 85 yX4_slot wsX4_slot) := goodIn_app (goodIn_of _ (by decide +kernel)) ggX4_dropPoint_X4_slot
set_option maxRecDepth 20000 in
theorem ggX4_dropPoint_X4_closeUp : GoodIn wsX4_dropPoint wsX4_closeUp := goodIn_r _ [11] (by decide +kernel) (by decide +kernel)
set_option maxRecDepth 20000 in
theorem gX4_dropPoint_X4_closeUp : GoodIn wsX4_dropPoint (va_wsS RX4 99 yX4_closeUp wsX4_closeUp) := goodIn_app (goodIn_of _ (by decide +kernel)) ggX4_dropPoint_X4_closeUp
theorem dX4_dropPoint_0 : decode cX4_dropPoint 0 = .ok (.iload_n 1, 1) := by decide +kernel
theorem dX4_dropPoint_1 : decode cX4_dropPoint 1 = .ok (.iload_n 2, 1) := by decide +kernel
theorem dX4_dropPoint_2 : decode cX4_dropPoint 2 = .ok (.invokestatic 85, 3) := by decide +kernel
theorem dX4_dropPoint_5 : decode cX4_dropPoint 5 = .ok (.istore_n 3, 1) := by decide +kernel
theorem dX4_dropPoint_6 : decode cX4_dropPoint 6 = .ok (.iload_n 1, 1) := by decide +kernel
theorem dX4_dropPoint_7 : decode cX4_dropPoint 7 = .ok (.aload_n 0, 1) := by decide +kernel
theorem dX4_dropPoint_8 : decode cX4_dropPoint 8 = .ok (.getfield 24, 3) := by decide +kernel
theorem dX4_dropPoint_11 : decode cX4_dropPoint 11 = .ok (.iload_n 1, 1) := by decide +kernel
theorem dX4_dropPoint_12 : decode cX4_dropPoint 12 = .ok (.iaload, 1) := by decide +kernel
theorem dX4_dropPoint_13 : decode cX4_dropPoint 13 = .ok (.invokestatic 85, 3) := by decide +kernel
theorem dX4_dropPoint_16 : decode cX4_dropPoint 16 = .ok (.istore 4, 2) := by decide +kernel
theorem dX4_dropPoint_18 : decode cX4_dropPoint 18 = .ok (.aload_n 0, 1) := by decide +kernel
theorem dX4_dropPoint_19 : decode cX4_dropPoint 19 = .ok (.getfield 28, 3) := by decide +kernel
theorem dX4_dropPoint_22 : decode cX4_dropPoint 22 = .ok (.iload_n 3, 1) := by decide +kernel
theorem dX4_dropPoint_23 : decode cX4_dropPoint 23 = .ok (.iconst 1, 1) := by decide +kernel
theorem dX4_dropPoint_24 : decode cX4_dropPoint 24 = .ok (.iload 4, 2) := by decide +kernel
theorem dX4_dropPoint_26 : decode cX4_dropPoint 26 = .ok (.invokestatic 99, 3) := by decide +kernel
theorem dX4_dropPoint_29 : decode cX4_dropPoint 29 = .ok (.aload_n 0, 1) := by decide +kernel
theorem dX4_dropPoint_30 : decode cX4_dropPoint 30 = .ok (.getfield 31, 3) := by decide +kernel
theorem dX4_dropPoint_33 : decode cX4_dropPoint 33 = .ok (.iload_n 3, 1) := by decide +kernel
theorem dX4_dropPoint_34 : decode cX4_dropPoint 34 = .ok (.iconst 1, 1) := by decide +kernel
theorem dX4_dropPoint_35 : decode cX4_dropPoint 35 = .ok (.iload 4, 2) := by decide +kernel
theorem dX4_dropPoint_37 : decode cX4_dropPoint 37 = .ok (.invokestatic 99, 3) := by decide +kernel
theorem dX4_dropPoint_40 : decode cX4_dropPoint 40 = .ok (.aload_n 0, 1) := by decide +kernel
theorem dX4_dropPoint_41 : decode cX4_dropPoint 41 = .ok (.getfield 34, 3) := by decide +kernel
theorem dX4_dropPoint_44 : decode cX4_dropPoint 44 = .ok (.iload_n 3, 1) := by decide +kernel
theorem dX4_dropPoint_45 : decode cX4_dropPoint 45 = .ok (.iconst 1, 1) := by decide +kernel
theorem dX4_dropPoint_46 : decode cX4_dropPoint 46 = .ok (.iload 4, 2) := by decide +kernel
theorem dX4_dropPoint_48 : decode cX4_dropPoint 48 = .ok (.invokestatic 99, 3) := by decide +kernel
theorem dX4_dropPoint_51 : decode cX4_dropPoint 51 = .ok (.aload_n 0, 1) := by decide +kernel
theorem dX4_dropPoint_52 : decode cX4_dropPoint 52 = .ok (.getfield 24, 3) := by decide +kernel
theorem dX4_dropPoint_55 : decode cX4_dropPoint 55 = .ok (.iload_n 1, 1) := by decide +kernel
theorem dX4_dropPoint_56 : decode cX4_dropPoint 56 = .ok (.dup2, 1) := by decide +kernel
theorem dX4_dropPoint_57 : decode cX4_dropPoint 57 = .ok (.iaload, 1) := by decide +kernel
theorem dX4_dropPoint_58 : decode cX4_dropPoint 58 = .ok (.iconst 1, 1) := by decide +kernel
theorem dX4_dropPoint_59 : decode cX4_dropPoint 59 = .ok (.isub, 1) := by decide +kernel
theorem dX4_dropPoint_60 : decode cX4_dropPoint 60 = .ok (.iastore, 1) := by decide +kernel
theorem dX4_dropPoint_61 : decode cX4_dropPoint 61 = .ok (.aload_n 0, 1) := by decide +kernel
theorem dX4_dropPoint_62 : decode cX4_dropPoint 62 = .ok (.getfield 24, 3) := by decide +kernel
theorem dX4_dropPoint_65 : decode cX4_dropPoint 65 = .ok (.iload_n 1, 1) := by decide +kernel
theorem dX4_dropPoint_66 : decode cX4_dropPoint 66 = .ok (.iaload, 1) := by decide +kernel
theorem dX4_dropPoint_67 : decode cX4_dropPoint 67 = .ok (.ireturn, 1) := by decide +kernel
theorem dX4_putSetting_0 : decode cX4_putSetting 0 = .ok (.aload_n 0, 1) := by decide +kernel
theorem dX4_putSetting_1 : decode cX4_putSetting 1 = .ok (.getfield 54, 3) := by decide +kernel
theorem dX4_putSetting_4 : decode cX4_putSetting 4 = .ok (.iload_n 1, 1) := by decide +kernel
theorem dX4_putSetting_5 : decode cX4_putSetting 5 = .ok (.iaload, 1) := by decide +kernel
theorem dX4_putSetting_6 : decode cX4_putSetting 6 = .ok (.istore_n 3, 1) := by decide +kernel
theorem dX4_putSetting_7 : decode cX4_putSetting 7 = .ok (.aload_n 0, 1) := by decide +kernel
theorem dX4_putSetting_8 : decode cX4_putSetting 8 = .ok (.getfield 54, 3) := by decide +kernel
theorem dX4_putSetting_11 : decode cX4_putSetting 11 = .ok (.iload_n 1, 1) := by decide +kernel
theorem dX4_putSetting_12 : decode cX4_putSetting 12 = .ok (.iload_n 2, 1) := by decide +kernel
theorem dX4_putSetting_13 : decode cX4_putSetting 13 = .ok (.iastore, 1) := by decide +kernel
theorem dX4_putSetting_14 : decode cX4_putSetting 14 = .ok (.iload_n 3, 1) := by decide +kernel
theorem dX4_putSetting_15 : decode cX4_putSetting 15 = .ok (.ireturn, 1) := by decide +kernel
theorem dX4_putPole_0 : decode cX4_putPole 0 = .ok (.aload_n 0, 1) := by decide +kernel
theorem dX4_putPole_1 : decode cX4_putPole 1 = .ok (.iload_n 1, 1) := by decide +kernel
theorem dX4_putPole_2 : decode cX4_putPole 2 = .ok (.putfield 18, 3) := by decide +kernel
theorem dX4_putPole_5 : decode cX4_putPole 5 = .ok (.aload_n 0, 1) := by decide +kernel
theorem dX4_putPole_6 : decode cX4_putPole 6 = .ok (.iload_n 2, 1) := by decide +kernel
theorem dX4_putPole_7 : decode cX4_putPole 7 = .ok (.putfield 21, 3) := by decide +kernel
theorem dX4_putPole_10 : decode cX4_putPole 10 = .ok (.return_, 1) := by decide +kernel
theorem dX4_putStar_0 : decode cX4_putStar 0 = .ok (.aload_n 0, 1) := by decide +kernel
theorem dX4_putStar_1 : decode cX4_putStar 1 = .ok (.getfield 37, 3) := by decide +kernel
theorem dX4_putStar_4 : decode cX4_putStar 4 = .ok (.aload_n 0, 1) := by decide +kernel
theorem dX4_putStar_5 : decode cX4_putStar 5 = .ok (.getfield 15, 3) := by decide +kernel
theorem dX4_putStar_8 : decode cX4_putStar 8 = .ok (.iload_n 1, 1) := by decide +kernel
theorem dX4_putStar_9 : decode cX4_putStar 9 = .ok (.iastore, 1) := by decide +kernel
theorem dX4_putStar_10 : decode cX4_putStar 10 = .ok (.aload_n 0, 1) := by decide +kernel
theorem dX4_putStar_11 : decode cX4_putStar 11 = .ok (.getfield 40, 3) := by decide +kernel
theorem dX4_putStar_14 : decode cX4_putStar 14 = .ok (.aload_n 0, 1) := by decide +kernel
theorem dX4_putStar_15 : decode cX4_putStar 15 = .ok (.getfield 15, 3) := by decide +kernel
theorem dX4_putStar_18 : decode cX4_putStar 18 = .ok (.iload_n 2, 1) := by decide +kernel
theorem dX4_putStar_19 : decode cX4_putStar 19 = .ok (.iastore, 1) := by decide +kernel
theorem dX4_putStar_20 : decode cX4_putStar 20 = .ok (.aload_n 0, 1) := by decide +kernel
theorem dX4_putStar_21 : decode cX4_putStar 21 = .ok (.getfield 43, 3) := by decide +kernel
theorem dX4_putStar_24 : decode cX4_putStar 24 = .ok (.aload_n 0, 1) := by decide +kernel
theorem dX4_putStar_25 : decode cX4_putStar 25 = .ok (.getfield 15, 3) := by decide +kernel
theorem dX4_putStar_28 : decode cX4_putStar 28 = .ok (.iload_n 3, 1) := by decide +kernel
theorem dX4_putStar_29 : decode cX4_putStar 29 = .ok (.iastore, 1) := by decide +kernel
theorem dX4_putStar_30 : decode cX4_putStar 30 = .ok (.aload_n 0, 1) := by decide +kernel
theorem dX4_putStar_31 : decode cX4_putStar 31 = .ok (.dup, 1) := by decide +kernel
theorem dX4_putStar_32 : decode cX4_putStar 32 = .ok (.getfield 15, 3) := by decide +kernel
theorem dX4_putStar_35 : decode cX4_putStar 35 = .ok (.iconst 1, 1) := by decide +kernel
theorem dX4_putStar_36 : decode cX4_putStar 36 = .ok (.iadd, 1) := by decide +kernel
theorem dX4_putStar_37 : decode cX4_putStar 37 = .ok (.putfield 15, 3) := by decide +kernel
theorem dX4_putStar_40 : decode cX4_putStar 40 = .ok (.aload_n 0, 1) := by decide +kernel
theorem dX4_putStar_41 : decode cX4_putStar 41 = .ok (.getfield 15, 3) := by decide +kernel
theorem dX4_putStar_44 : decode cX4_putStar 44 = .ok (.iconst 1, 1) := by decide +kernel
theorem dX4_putStar_45 : decode cX4_putStar 45 = .ok (.isub, 1) := by decide +kernel
theorem dX4_putStar_46 : decode cX4_putStar 46 = .ok (.ireturn, 1) := by decide +kernel
set_option maxRecDepth 20000 in
theorem ggX4_dropStar_X4_closeUp : GoodIn wsX4_dropStar wsX4_closeUp := goodIn_r _ [8] (by decide +kernel) (by decide +kernel)
set_option maxRecDepth 20000 in
theorem gX4_dropStar_X4_closeUp : GoodIn wsX4_dropStar (va_wsS RX4 99 yX4_closeUp wsX4_closeUp) := goodIn_app (goodIn_of _ (by decide +kernel)) ggX4_dropStar_X4_closeUp
theorem dX4_dropStar_0 : decode cX4_dropStar 0 = .ok (.aload_n 0, 1) := by decide +kernel
theorem dX4_dropStar_1 : decode cX4_dropStar 1 = .ok (.getfield 37, 3) := by decide +kernel
theorem dX4_dropStar_4 : decode cX4_dropStar 4 = .ok (.iload_n 1, 1) := by decide +kernel
theorem dX4_dropStar_5 : decode cX4_dropStar 5 = .ok (.iconst 1, 1) := by decide +kernel
theorem dX4_dropStar_6 : decode cX4_dropStar 6 = .ok (.aload_n 0, 1) := by decide +kernel
theorem dX4_dropStar_7 : decode cX4_dropStar 7 = .ok (.getfield 15, 3) := by decide +kernel
theorem dX4_dropStar_10 : decode cX4_dropStar 10 = .ok (.invokestatic 99, 3) := by decide +kernel
theorem dX4_dropStar_13 : decode cX4_dropStar 13 = .ok (.aload_n 0, 1) := by decide +kernel
theorem dX4_dropStar_14 : decode cX4_dropStar 14 = .ok (.getfield 40, 3) := by decide +kernel
theorem dX4_dropStar_17 : decode cX4_dropStar 17 = .ok (.iload_n 1, 1) := by decide +kernel
theorem dX4_dropStar_18 : decode cX4_dropStar 18 = .ok (.iconst 1, 1) := by decide +kernel
theorem dX4_dropStar_19 : decode cX4_dropStar 19 = .ok (.aload_n 0, 1) := by decide +kernel
theorem dX4_dropStar_20 : decode cX4_dropStar 20 = .ok (.getfield 15, 3) := by decide +kernel
theorem dX4_dropStar_23 : decode cX4_dropStar 23 = .ok (.invokestatic 99, 3) := by decide +kernel
theorem dX4_dropStar_26 : decode cX4_dropStar 26 = .ok (.aload_n 0, 1) := by decide +kernel
theorem dX4_dropStar_27 : decode cX4_dropStar 27 = .ok (.getfield 43, 3) := by decide +kernel
theorem dX4_dropStar_30 : decode cX4_dropStar 30 = .ok (.iload_n 1, 1) := by decide +kernel
theorem dX4_dropStar_31 : decode cX4_dropStar 31 = .ok (.iconst 1, 1) := by decide +kernel
theorem dX4_dropStar_32 : decode cX4_dropStar 32 = .ok (.aload_n 0, 1) := by decide +kernel
theorem dX4_dropStar_33 : decode cX4_dropStar 33 = .ok (.getfield 15, 3) := by decide +kernel
theorem dX4_dropStar_36 : decode cX4_dropStar 36 = .ok (.invokestatic 99, 3) := by decide +kernel
theorem dX4_dropStar_39 : decode cX4_dropStar 39 = .ok (.aload_n 0, 1) := by decide +kernel
theorem dX4_dropStar_40 : decode cX4_dropStar 40 = .ok (.dup, 1) := by decide +kernel
theorem dX4_dropStar_41 : decode cX4_dropStar 41 = .ok (.getfield 15, 3) := by decide +kernel
theorem dX4_dropStar_44 : decode cX4_dropStar 44 = .ok (.iconst 1, 1) := by decide +kernel
theorem dX4_dropStar_45 : decode cX4_dropStar 45 = .ok (.isub, 1) := by decide +kernel
theorem dX4_dropStar_46 : decode cX4_dropStar 46 = .ok (.putfield 15, 3) := by decide +kernel
theorem dX4_dropStar_49 : decode cX4_dropStar 49 = .ok (.aload_n 0, 1) := by decide +kernel
theorem dX4_dropStar_50 : decode cX4_dropStar 50 = .ok (.getfield 15, 3) := by decide +kernel
theorem dX4_dropStar_53 : decode cX4_dropStar 53 = .ok (.ireturn, 1) := by decide +kernel
theorem dX4_closeUp_0 : decode cX4_closeUp 0 = .ok (.iload_n 1, 1) := by decide +kernel
theorem dX4_closeUp_1 : decode cX4_closeUp 1 = .ok (.istore 4, 2) := by decide +kernel
theorem dX4_closeUp_3 : decode cX4_closeUp 3 = .ok (.iload 4, 2) := by decide +kernel
theorem dX4_closeUp_5 : decode cX4_closeUp 5 = .ok (.iload_n 2, 1) := by decide +kernel
theorem dX4_closeUp_6 : decode cX4_closeUp 6 = .ok (.iadd, 1) := by decide +kernel
theorem dX4_closeUp_7 : decode cX4_closeUp 7 = .ok (.iload_n 3, 1) := by decide +kernel
theorem dX4_closeUp_8 : decode cX4_closeUp 8 = .ok (.if_icmp .ge 28, 3) := by decide +kernel
theorem dX4_closeUp_11 : decode cX4_closeUp 11 = .ok (.iload 4, 2) := by decide +kernel
theorem dX4_closeUp_13 : decode cX4_closeUp 13 = .ok (.iload_n 2, 1) := by decide +kernel
theorem dX4_closeUp_14 : decode cX4_closeUp 14 = .ok (.iadd, 1) := by decide +kernel
theorem dX4_closeUp_15 : decode cX4_closeUp 15 = .ok (.aload_n 0, 1) := by decide +kernel
theorem dX4_closeUp_16 : decode cX4_closeUp 16 = .ok (.arraylength, 1) := by decide +kernel
theorem dX4_closeUp_17 : decode cX4_closeUp 17 = .ok (.if_icmp .ge 19, 3) := by decide +kernel
theorem dX4_closeUp_20 : decode cX4_closeUp 20 = .ok (.aload_n 0, 1) := by decide +kernel
theorem dX4_closeUp_21 : decode cX4_closeUp 21 = .ok (.iload 4, 2) := by decide +kernel
theorem dX4_closeUp_23 : decode cX4_closeUp 23 = .ok (.aload_n 0, 1) := by decide +kernel
theorem dX4_closeUp_24 : decode cX4_closeUp 24 = .ok (.iload 4, 2) := by decide +kernel
theorem dX4_closeUp_26 : decode cX4_closeUp 26 = .ok (.iload_n 2, 1) := by decide +kernel
theorem dX4_closeUp_27 : decode cX4_closeUp 27 = .ok (.iadd, 1) := by decide +kernel
theorem dX4_closeUp_28 : decode cX4_closeUp 28 = .ok (.iaload, 1) := by decide +kernel
theorem dX4_closeUp_29 : decode cX4_closeUp 29 = .ok (.iastore, 1) := by decide +kernel
theorem dX4_closeUp_30 : decode cX4_closeUp 30 = .ok (.iinc 4 1, 3) := by decide +kernel
theorem dX4_closeUp_33 : decode cX4_closeUp 33 = .ok (.goto (-30), 3) := by decide +kernel
theorem dX4_closeUp_36 : decode cX4_closeUp 36 = .ok (.return_, 1) := by decide +kernel
theorem dX4_insert_0 : decode cX4_insert 0 = .ok (.iload_n 2, 1) := by decide +kernel
theorem dX4_insert_1 : decode cX4_insert 1 = .ok (.istore 4, 2) := by decide +kernel
theorem dX4_insert_3 : decode cX4_insert 3 = .ok (.iload 4, 2) := by decide +kernel
theorem dX4_insert_5 : decode cX4_insert 5 = .ok (.iload_n 1, 1) := by decide +kernel
theorem dX4_insert_6 : decode cX4_insert 6 = .ok (.if_icmp .le 26, 3) := by decide +kernel
theorem dX4_insert_9 : decode cX4_insert 9 = .ok (.iload 4, 2) := by decide +kernel
theorem dX4_insert_11 : decode cX4_insert 11 = .ok (.aload_n 0, 1) := by decide +kernel
theorem dX4_insert_12 : decode cX4_insert 12 = .ok (.arraylength, 1) := by decide +kernel
theorem dX4_insert_13 : decode cX4_insert 13 = .ok (.if_icmp .ge 19, 3) := by decide +kernel
theorem dX4_insert_16 : decode cX4_insert 16 = .ok (.aload_n 0, 1) := by decide +kernel
theorem dX4_insert_17 : decode cX4_insert 17 = .ok (.iload 4, 2) := by decide +kernel
theorem dX4_insert_19 : decode cX4_insert 19 = .ok (.aload_n 0, 1) := by decide +kernel
theorem dX4_insert_20 : decode cX4_insert 20 = .ok (.iload 4, 2) := by decide +kernel
theorem dX4_insert_22 : decode cX4_insert 22 = .ok (.iconst 1, 1) := by decide +kernel
theorem dX4_insert_23 : decode cX4_insert 23 = .ok (.isub, 1) := by decide +kernel
theorem dX4_insert_24 : decode cX4_insert 24 = .ok (.iaload, 1) := by decide +kernel
theorem dX4_insert_25 : decode cX4_insert 25 = .ok (.iastore, 1) := by decide +kernel
theorem dX4_insert_26 : decode cX4_insert 26 = .ok (.iinc 4 (-1), 3) := by decide +kernel
theorem dX4_insert_29 : decode cX4_insert 29 = .ok (.goto (-26), 3) := by decide +kernel
theorem dX4_insert_32 : decode cX4_insert 32 = .ok (.aload_n 0, 1) := by decide +kernel
theorem dX4_insert_33 : decode cX4_insert 33 = .ok (.iload_n 1, 1) := by decide +kernel
theorem dX4_insert_34 : decode cX4_insert 34 = .ok (.iload_n 3, 1) := by decide +kernel
theorem dX4_insert_35 : decode cX4_insert 35 = .ok (.iastore, 1) := by decide +kernel
theorem dX4_insert_36 : decode cX4_insert 36 = .ok (.return_, 1) := by decide +kernel
theorem dX4_pointsInAll_0 : decode cX4_pointsInAll 0 = .ok (.iconst 0, 1) := by decide +kernel
theorem dX4_pointsInAll_1 : decode cX4_pointsInAll 1 = .ok (.istore_n 1, 1) := by decide +kernel
theorem dX4_pointsInAll_2 : decode cX4_pointsInAll 2 = .ok (.iconst 0, 1) := by decide +kernel
theorem dX4_pointsInAll_3 : decode cX4_pointsInAll 3 = .ok (.istore_n 2, 1) := by decide +kernel
theorem dX4_pointsInAll_4 : decode cX4_pointsInAll 4 = .ok (.iload_n 2, 1) := by decide +kernel
theorem dX4_pointsInAll_5 : decode cX4_pointsInAll 5 = .ok (.aload_n 0, 1) := by decide +kernel
theorem dX4_pointsInAll_6 : decode cX4_pointsInAll 6 = .ok (.getfield 9, 3) := by decide +kernel
theorem dX4_pointsInAll_9 : decode cX4_pointsInAll 9 = .ok (.if_icmp .ge 18, 3) := by decide +kernel
theorem dX4_pointsInAll_12 : decode cX4_pointsInAll 12 = .ok (.iload_n 1, 1) := by decide +kernel
theorem dX4_pointsInAll_13 : decode cX4_pointsInAll 13 = .ok (.aload_n 0, 1) := by decide +kernel
theorem dX4_pointsInAll_14 : decode cX4_pointsInAll 14 = .ok (.getfield 24, 3) := by decide +kernel
theorem dX4_pointsInAll_17 : decode cX4_pointsInAll 17 = .ok (.iload_n 2, 1) := by decide +kernel
theorem dX4_pointsInAll_18 : decode cX4_pointsInAll 18 = .ok (.iaload, 1) := by decide +kernel
theorem dX4_pointsInAll_19 : decode cX4_pointsInAll 19 = .ok (.iadd, 1) := by decide +kernel
theorem dX4_pointsInAll_20 : decode cX4_pointsInAll 20 = .ok (.istore_n 1, 1) := by decide +kernel
theorem dX4_pointsInAll_21 : decode cX4_pointsInAll 21 = .ok (.iinc 2 1, 3) := by decide +kernel
theorem dX4_pointsInAll_24 : decode cX4_pointsInAll 24 = .ok (.goto (-20), 3) := by decide +kernel
theorem dX4_pointsInAll_27 : decode cX4_pointsInAll 27 = .ok (.iload_n 1, 1) := by decide +kernel
theorem dX4_pointsInAll_28 : decode cX4_pointsInAll 28 = .ok (.ireturn, 1) := by decide +kernel
set_option maxRecDepth 20000 in
theorem ggX4_frameSpan_X4_slot : GoodIn wsX4_frameSpan wsX4_slot := goodIn_r _ [6] (by decide +kernel) (by decide +kernel)
set_option maxRecDepth 20000 in
theorem gX4_frameSpan_X4_slot : GoodIn wsX4_frameSpan (va_wsS RX4 85 yX4_slot wsX4_slot) := goodIn_app (goodIn_of _ (by decide +kernel)) ggX4_frameSpan_X4_slot
theorem dX4_frameSpan_0 : decode cX4_frameSpan 0 = .ok (.aload_n 0, 1) := by decide +kernel
theorem dX4_frameSpan_1 : decode cX4_frameSpan 1 = .ok (.getfield 24, 3) := by decide +kernel
theorem dX4_frameSpan_4 : decode cX4_frameSpan 4 = .ok (.iload_n 1, 1) := by decide +kernel
theorem dX4_frameSpan_5 : decode cX4_frameSpan 5 = .ok (.iaload, 1) := by decide +kernel
theorem dX4_frameSpan_6 : decode cX4_frameSpan 6 = .ok (.iconst 1, 1) := by decide +kernel
theorem dX4_frameSpan_7 : decode cX4_frameSpan 7 = .ok (.isub, 1) := by decide +kernel
theorem dX4_frameSpan_8 : decode cX4_frameSpan 8 = .ok (.istore_n 2, 1) := by decide +kernel
theorem dX4_frameSpan_9 : decode cX4_frameSpan 9 = .ok (.iload_n 2, 1) := by decide +kernel
theorem dX4_frameSpan_10 : decode cX4_frameSpan 10 = .ok (.ifCond .le 27, 3) := by decide +kernel
theorem dX4_frameSpan_13 : decode cX4_frameSpan 13 = .ok (.aload_n 0, 1) := by decide +kernel
theorem dX4_frameSpan_14 : decode cX4_frameSpan 14 = .ok (.getfield 28, 3) := by decide +kernel
theorem dX4_frameSpan_17 : decode cX4_frameSpan 17 = .ok (.iload_n 1, 1) := by decide +kernel
theorem dX4_frameSpan_18 : decode cX4_frameSpan 18 = .ok (.iload_n 2, 1) := by decide +kernel
theorem dX4_frameSpan_19 : decode cX4_frameSpan 19 = .ok (.invokestatic 85, 3) := by decide +kernel
theorem dX4_frameSpan_22 : decode cX4_frameSpan 22 = .ok (.iaload, 1) := by decide +kernel
theorem dX4_frameSpan_23 : decode cX4_frameSpan 23 = .ok (.aload_n 0, 1) := by decide +kernel
theorem dX4_frameSpan_24 : decode cX4_frameSpan 24 = .ok (.getfield 28, 3) := by decide +kernel
theorem dX4_frameSpan_27 : decode cX4_frameSpan 27 = .ok (.iload_n 1, 1) := by decide +kernel
theorem dX4_frameSpan_28 : decode cX4_frameSpan 28 = .ok (.iconst 0, 1) := by decide +kernel
theorem dX4_frameSpan_29 : decode cX4_frameSpan 29 = .ok (.invokestatic 85, 3) := by decide +kernel
theorem dX4_frameSpan_32 : decode cX4_frameSpan 32 = .ok (.iaload, 1) := by decide +kernel
theorem dX4_frameSpan_33 : decode cX4_frameSpan 33 = .ok (.isub, 1) := by decide +kernel
theorem dX4_frameSpan_34 : decode cX4_frameSpan 34 = .ok (.goto 4, 3) := by decide +kernel
theorem dX4_frameSpan_37 : decode cX4_frameSpan 37 = .ok (.iconst 0, 1) := by decide +kernel
theorem dX4_frameSpan_38 : decode cX4_frameSpan 38 = .ok (.ireturn, 1) := by decide +kernel
set_option maxRecDepth 20000 in
theorem ggX4_placeX_J9_floorDiv_7cf53 : GoodIn wsX4_placeX wsJ9_floorDiv_7cf53 := goodIn_r _ [6] (by decide +kernel) (by decide +kernel)
set_option maxRecDepth 20000 in
theorem gX4_placeX_J9_floorDiv_7cf53 : GoodIn wsX4_placeX (va_wsS RX4 106 yJ9_floorDiv_7cf53 wsJ9_floorDiv_7cf53) := goodIn_app (goodIn_of _ (by decide +kernel)) ggX4_placeX_J9_floorDiv_7cf53
theorem dX4_placeX_0 : decode cX4_placeX 0 = .ok (.aload_n 0, 1) := by decide +kernel
theorem dX4_placeX_1 : decode cX4_placeX 1 = .ok (.getfield 31, 3) := by decide +kernel
theorem dX4_placeX_4 : decode cX4_placeX 4 = .ok (.iload_n 1, 1) := by decide +kernel
theorem dX4_placeX_5 : decode cX4_placeX 5 = .ok (.iaload, 1) := by decide +kernel
theorem dX4_placeX_6 : decode cX4_placeX 6 = .ok (.iload_n 2, 1) := by decide +kernel
theorem dX4_placeX_7 : decode cX4_placeX 7 = .ok (.aload_n 0, 1) := by decide +kernel
theorem dX4_placeX_8 : decode cX4_placeX 8 = .ok (.getfield 28, 3) := by decide +kernel
theorem dX4_placeX_11 : decode cX4_placeX 11 = .ok (.iload_n 1, 1) := by decide +kernel
theorem dX4_placeX_12 : decode cX4_placeX 12 = .ok (.iaload, 1) := by decide +kernel
theorem dX4_placeX_13 : decode cX4_placeX 13 = .ok (.imul, 1) := by decide +kernel
theorem dX4_placeX_14 : decode cX4_placeX 14 = .ok (.bipush 100, 2) := by decide +kernel
theorem dX4_placeX_16 : decode cX4_placeX 16 = .ok (.invokestatic 106, 3) := by decide +kernel
theorem dX4_placeX_19 : decode cX4_placeX 19 = .ok (.isub, 1) := by decide +kernel
theorem dX4_placeX_20 : decode cX4_placeX 20 = .ok (.ireturn, 1) := by decide +kernel
set_option maxRecDepth 20000 in
theorem ggX4_placeY_J9_floorDiv_7cf53 : GoodIn wsX4_placeY wsJ9_floorDiv_7cf53 := goodIn_r _ [6] (by decide +kernel) (by decide +kernel)
set_option maxRecDepth 20000 in
theorem gX4_placeY_J9_floorDiv_7cf53 : GoodIn wsX4_placeY (va_wsS RX4 106 yJ9_floorDiv_7cf53 wsJ9_floorDiv_7cf53) := goodIn_app (goodIn_of _ (by decide +kernel)) ggX4_placeY_J9_floorDiv_7cf53
theorem dX4_placeY_0 : decode cX4_placeY 0 = .ok (.aload_n 0, 1) := by decide +kernel
theorem dX4_placeY_1 : decode cX4_placeY 1 = .ok (.getfield 34, 3) := by decide +kernel
theorem dX4_placeY_4 : decode cX4_placeY 4 = .ok (.iload_n 1, 1) := by decide +kernel
theorem dX4_placeY_5 : decode cX4_placeY 5 = .ok (.iaload, 1) := by decide +kernel
theorem dX4_placeY_6 : decode cX4_placeY 6 = .ok (.iload_n 2, 1) := by decide +kernel
theorem dX4_placeY_7 : decode cX4_placeY 7 = .ok (.aload_n 0, 1) := by decide +kernel
theorem dX4_placeY_8 : decode cX4_placeY 8 = .ok (.getfield 28, 3) := by decide +kernel
theorem dX4_placeY_11 : decode cX4_placeY 11 = .ok (.iload_n 1, 1) := by decide +kernel
theorem dX4_placeY_12 : decode cX4_placeY 12 = .ok (.iaload, 1) := by decide +kernel
theorem dX4_placeY_13 : decode cX4_placeY 13 = .ok (.imul, 1) := by decide +kernel
theorem dX4_placeY_14 : decode cX4_placeY 14 = .ok (.bipush 100, 2) := by decide +kernel
theorem dX4_placeY_16 : decode cX4_placeY 16 = .ok (.invokestatic 106, 3) := by decide +kernel
theorem dX4_placeY_19 : decode cX4_placeY 19 = .ok (.isub, 1) := by decide +kernel
theorem dX4_placeY_20 : decode cX4_placeY 20 = .ok (.ireturn, 1) := by decide +kernel
set_option maxRecDepth 20000 in
theorem ggX4_radiusAt_X4_placeX : GoodIn wsX4_radiusAt wsX4_placeX := goodIn_r _ [8, 9, 10, 11, 12, 13, 14, 24, 25, 26, 27, 28, 29, 30, 31, 32, 33, 34, 35] (by decide +kernel) (by decide +kernel)
set_option maxRecDepth 20000 in
theorem gX4_radiusAt_X4_placeX : GoodIn wsX4_radiusAt (wsV RX4 109 RX4 yX4_placeX wsX4_placeX) := goodIn_app (goodIn_of _ (by decide +kernel)) ggX4_radiusAt_X4_placeX
set_option maxRecDepth 20000 in
theorem ggX4_radiusAt_X4_placeY : GoodIn wsX4_radiusAt wsX4_placeY := goodIn_r _ [18, 19, 10, 11, 12, 13, 14, 24, 25, 26, 27, 28, 29, 30, 31, 32, 33, 34, 35] (by decide +kernel) (by decide +kernel)
set_option maxRecDepth 20000 in
theorem gX4_radiusAt_X4_placeY : GoodIn wsX4_radiusAt (wsV RX4 112 RX4 yX4_placeY wsX4_placeY) := goodIn_app (goodIn_of _ (by decide +kernel)) ggX4_radiusAt_X4_placeY
set_option maxRecDepth 20000 in
theorem ggX4_radiusAt_X0_root : GoodIn wsX4_radiusAt wsX0_root := goodIn_r _ [23] (by decide +kernel) (by decide +kernel)
set_option maxRecDepth 20000 in
theorem gX4_radiusAt_X0_root : GoodIn wsX4_radiusAt (va_wsS RX4 115 yX0_root wsX0_root) := goodIn_app (goodIn_of _ (by decide +kernel)) ggX4_radiusAt_X0_root
theorem dX4_radiusAt_0 : decode cX4_radiusAt 0 = .ok (.aload_n 0, 1) := by decide +kernel
theorem dX4_radiusAt_1 : decode cX4_radiusAt 1 = .ok (.iload_n 1, 1) := by decide +kernel
theorem dX4_radiusAt_2 : decode cX4_radiusAt 2 = .ok (.aload_n 0, 1) := by decide +kernel
theorem dX4_radiusAt_3 : decode cX4_radiusAt 3 = .ok (.getfield 54, 3) := by decide +kernel
theorem dX4_radiusAt_6 : decode cX4_radiusAt 6 = .ok (.iconst 1, 1) := by decide +kernel
theorem dX4_radiusAt_7 : decode cX4_radiusAt 7 = .ok (.iaload, 1) := by decide +kernel
theorem dX4_radiusAt_8 : decode cX4_radiusAt 8 = .ok (.invokevirtual 109, 3) := by decide +kernel
theorem dX4_radiusAt_11 : decode cX4_radiusAt 11 = .ok (.aload_n 0, 1) := by decide +kernel
theorem dX4_radiusAt_12 : decode cX4_radiusAt 12 = .ok (.getfield 18, 3) := by decide +kernel
theorem dX4_radiusAt_15 : decode cX4_radiusAt 15 = .ok (.isub, 1) := by decide +kernel
theorem dX4_radiusAt_16 : decode cX4_radiusAt 16 = .ok (.istore_n 2, 1) := by decide +kernel
theorem dX4_radiusAt_17 : decode cX4_radiusAt 17 = .ok (.aload_n 0, 1) := by decide +kernel
theorem dX4_radiusAt_18 : decode cX4_radiusAt 18 = .ok (.iload_n 1, 1) := by decide +kernel
theorem dX4_radiusAt_19 : decode cX4_radiusAt 19 = .ok (.aload_n 0, 1) := by decide +kernel
theorem dX4_radiusAt_20 : decode cX4_radiusAt 20 = .ok (.getfield 54, 3) := by decide +kernel
theorem dX4_radiusAt_23 : decode cX4_radiusAt 23 = .ok (.iconst 2, 1) := by decide +kernel
theorem dX4_radiusAt_24 : decode cX4_radiusAt 24 = .ok (.iaload, 1) := by decide +kernel
theorem dX4_radiusAt_25 : decode cX4_radiusAt 25 = .ok (.invokevirtual 112, 3) := by decide +kernel
theorem dX4_radiusAt_28 : decode cX4_radiusAt 28 = .ok (.aload_n 0, 1) := by decide +kernel
theorem dX4_radiusAt_29 : decode cX4_radiusAt 29 = .ok (.getfield 21, 3) := by decide +kernel
theorem dX4_radiusAt_32 : decode cX4_radiusAt 32 = .ok (.isub, 1) := by decide +kernel
theorem dX4_radiusAt_33 : decode cX4_radiusAt 33 = .ok (.istore_n 3, 1) := by decide +kernel
theorem dX4_radiusAt_34 : decode cX4_radiusAt 34 = .ok (.iload_n 2, 1) := by decide +kernel
theorem dX4_radiusAt_35 : decode cX4_radiusAt 35 = .ok (.iload_n 2, 1) := by decide +kernel
theorem dX4_radiusAt_36 : decode cX4_radiusAt 36 = .ok (.imul, 1) := by decide +kernel
theorem dX4_radiusAt_37 : decode cX4_radiusAt 37 = .ok (.iload_n 3, 1) := by decide +kernel
theorem dX4_radiusAt_38 : decode cX4_radiusAt 38 = .ok (.iload_n 3, 1) := by decide +kernel
theorem dX4_radiusAt_39 : decode cX4_radiusAt 39 = .ok (.imul, 1) := by decide +kernel
theorem dX4_radiusAt_40 : decode cX4_radiusAt 40 = .ok (.iadd, 1) := by decide +kernel
theorem dX4_radiusAt_41 : decode cX4_radiusAt 41 = .ok (.invokestatic 115, 3) := by decide +kernel
theorem dX4_radiusAt_44 : decode cX4_radiusAt 44 = .ok (.ireturn, 1) := by decide +kernel
set_option maxRecDepth 20000 in
theorem ggX4_angleAt_X4_placeX : GoodIn wsX4_angleAt wsX4_placeX := goodIn_r _ [8, 9, 10, 11, 12, 13, 14, 30, 31, 32, 33, 34, 35, 36, 37, 38, 39, 40, 41] (by decide +kernel) (by decide +kernel)
set_option maxRecDepth 20000 in
theorem gX4_angleAt_X4_placeX : GoodIn wsX4_angleAt (wsV RX4 109 RX4 yX4_placeX wsX4_placeX) := goodIn_app (goodIn_of _ (by decide +kernel)) ggX4_angleAt_X4_placeX
set_option maxRecDepth 20000 in
theorem ggX4_angleAt_X4_placeY : GoodIn wsX4_angleAt wsX4_placeY := goodIn_r _ [18, 19, 10, 11, 12, 13, 14, 30, 31, 32, 33, 34, 35, 36, 37, 38, 39, 40, 41] (by decide +kernel) (by decide +kernel)
set_option maxRecDepth 20000 in
theorem gX4_angleAt_X4_placeY : GoodIn wsX4_angleAt (wsV RX4 112 RX4 yX4_placeY wsX4_placeY) := goodIn_app (goodIn_of _ (by decide +kernel)) ggX4_angleAt_X4_placeY
set_option maxRecDepth 20000 in
theorem ggX4_angleAt_X0_angle : GoodIn wsX4_angleAt wsX0_angle := goodIn_r _ [23, 24, 25, 26, 27, 28, 13, 29] (by decide +kernel) (by decide +kernel)
set_option maxRecDepth 20000 in
theorem gX4_angleAt_X0_angle : GoodIn wsX4_angleAt (va_wsS RX4 121 yX0_angle wsX0_angle) := goodIn_app (goodIn_of _ (by decide +kernel)) ggX4_angleAt_X0_angle
theorem dX4_angleAt_0 : decode cX4_angleAt 0 = .ok (.aload_n 0, 1) := by decide +kernel
theorem dX4_angleAt_1 : decode cX4_angleAt 1 = .ok (.iload_n 1, 1) := by decide +kernel
theorem dX4_angleAt_2 : decode cX4_angleAt 2 = .ok (.aload_n 0, 1) := by decide +kernel
theorem dX4_angleAt_3 : decode cX4_angleAt 3 = .ok (.getfield 54, 3) := by decide +kernel
theorem dX4_angleAt_6 : decode cX4_angleAt 6 = .ok (.iconst 1, 1) := by decide +kernel
theorem dX4_angleAt_7 : decode cX4_angleAt 7 = .ok (.iaload, 1) := by decide +kernel
theorem dX4_angleAt_8 : decode cX4_angleAt 8 = .ok (.invokevirtual 109, 3) := by decide +kernel
theorem dX4_angleAt_11 : decode cX4_angleAt 11 = .ok (.aload_n 0, 1) := by decide +kernel
theorem dX4_angleAt_12 : decode cX4_angleAt 12 = .ok (.getfield 18, 3) := by decide +kernel
theorem dX4_angleAt_15 : decode cX4_angleAt 15 = .ok (.isub, 1) := by decide +kernel
theorem dX4_angleAt_16 : decode cX4_angleAt 16 = .ok (.istore_n 2, 1) := by decide +kernel
theorem dX4_angleAt_17 : decode cX4_angleAt 17 = .ok (.aload_n 0, 1) := by decide +kernel
theorem dX4_angleAt_18 : decode cX4_angleAt 18 = .ok (.iload_n 1, 1) := by decide +kernel
theorem dX4_angleAt_19 : decode cX4_angleAt 19 = .ok (.aload_n 0, 1) := by decide +kernel
theorem dX4_angleAt_20 : decode cX4_angleAt 20 = .ok (.getfield 54, 3) := by decide +kernel
theorem dX4_angleAt_23 : decode cX4_angleAt 23 = .ok (.iconst 2, 1) := by decide +kernel
theorem dX4_angleAt_24 : decode cX4_angleAt 24 = .ok (.iaload, 1) := by decide +kernel
theorem dX4_angleAt_25 : decode cX4_angleAt 25 = .ok (.invokevirtual 112, 3) := by decide +kernel
theorem dX4_angleAt_28 : decode cX4_angleAt 28 = .ok (.aload_n 0, 1) := by decide +kernel
theorem dX4_angleAt_29 : decode cX4_angleAt 29 = .ok (.getfield 21, 3) := by decide +kernel
theorem dX4_angleAt_32 : decode cX4_angleAt 32 = .ok (.isub, 1) := by decide +kernel
theorem dX4_angleAt_33 : decode cX4_angleAt 33 = .ok (.istore_n 3, 1) := by decide +kernel
theorem dX4_angleAt_34 : decode cX4_angleAt 34 = .ok (.iload_n 2, 1) := by decide +kernel
theorem dX4_angleAt_35 : decode cX4_angleAt 35 = .ok (.iload_n 3, 1) := by decide +kernel
theorem dX4_angleAt_36 : decode cX4_angleAt 36 = .ok (.invokestatic 121, 3) := by decide +kernel
theorem dX4_angleAt_39 : decode cX4_angleAt 39 = .ok (.ireturn, 1) := by decide +kernel
set_option maxRecDepth 20000 in
theorem ggX4_pointValue_X4_slot : GoodIn wsX4_pointValue wsX4_slot := goodIn_r _ [8] (by decide +kernel) (by decide +kernel)
set_option maxRecDepth 20000 in
theorem gX4_pointValue_X4_slot : GoodIn wsX4_pointValue (va_wsS RX4 85 yX4_slot wsX4_slot) := goodIn_app (goodIn_of _ (by decide +kernel)) ggX4_pointValue_X4_slot
set_option maxRecDepth 20000 in
theorem ggX4_pointValue_X4_placeX : GoodIn wsX4_pointValue wsX4_placeX := goodIn_r _ [12, 2, 1, 13, 14, 15, 16, 44, 45, 46, 47, 48, 49, 50, 51, 52, 53, 54, 55] (by decide +kernel) (by decide +kernel)
set_option maxRecDepth 20000 in
theorem gX4_pointValue_X4_placeX : GoodIn wsX4_pointValue (wsV RX4 109 RX4 yX4_placeX wsX4_placeX) := goodIn_app (goodIn_of _ (by decide +kernel)) ggX4_pointValue_X4_placeX
set_option maxRecDepth 20000 in
theorem ggX4_pointValue_X4_placeY : GoodIn wsX4_pointValue wsX4_placeY := goodIn_r _ [20, 3, 1, 13, 14, 15, 16, 44, 45, 46, 47, 48, 49, 50, 51, 52, 53, 54, 55] (by decide +kernel) (by decide +kernel)
set_option maxRecDepth 20000 in
theorem gX4_pointValue_X4_placeY : GoodIn wsX4_pointValue (wsV RX4 112 RX4 yX4_placeY wsX4_placeY) := goodIn_app (goodIn_of _ (by decide +kernel)) ggX4_pointValue_X4_placeY
set_option maxRecDepth 20000 in
theorem ggX4_pointValue_X4_radiusAt : GoodIn wsX4_pointValue wsX4_radiusAt := goodIn_r _ [24, 4, 25, 26, 9, 10, 11, 7, 12, 2, 1, 13, 14, 15, 16, 17, 18, 19, 20, 3, 27, 28, 29, 30, 44, 45, 46, 47, 48, 49, 50, 51, 52, 53, 54, 55] (by decide +kernel) (by decide +kernel)
set_option maxRecDepth 20000 in
theorem gX4_pointValue_X4_radiusAt : GoodIn wsX4_pointValue (wsV RX4 124 RX4 yX4_radiusAt wsX4_radiusAt) := goodIn_app (goodIn_of _ (by decide +kernel)) ggX4_pointValue_X4_radiusAt
set_option maxRecDepth 20000 in
theorem ggX4_pointValue_X4_angleAt : GoodIn wsX4_pointValue wsX4_angleAt := goodIn_r _ [34, 4, 25, 26, 9, 10, 11, 7, 12, 2, 1, 13, 14, 15, 16, 17, 18, 19, 20, 3, 35, 36, 29, 37, 38, 39, 40, 41, 42, 43, 44, 45, 46, 47, 48, 49, 50, 51, 52, 53, 54, 55] (by decide +kernel) (by decide +kernel)
set_option maxRecDepth 20000 in
theorem gX4_pointValue_X4_angleAt : GoodIn wsX4_pointValue (wsV RX4 127 RX4 yX4_angleAt wsX4_angleAt) := goodIn_app (goodIn_of _ (by decide +kernel)) ggX4_pointValue_X4_angleAt
theorem dX4_pointValue_0 : decode cX4_pointValue 0 = .ok (.iload_n 1, 1) := by decide +kernel
theorem dX4_pointValue_1 : decode cX4_pointValue 1 = .ok (.iload_n 2, 1) := by decide +kernel
theorem dX4_pointValue_2 : decode cX4_pointValue 2 = .ok (.invokestatic 85, 3) := by decide +kernel
theorem dX4_pointValue_5 : decode cX4_pointValue 5 = .ok (.istore 4, 2) := by decide +kernel
theorem dX4_pointValue_7 : decode cX4_pointValue 7 = .ok (.iload_n 3, 1) := by decide +kernel
theorem dX4_pointValue_8 : decode cX4_pointValue 8 = .ok (.tableswitch 97 0 5 #[40, 48, 56, 64, 77, 90], 40) := by decide +kernel
theorem dX4_pointValue_48 : decode cX4_pointValue 48 = .ok (.aload_n 0, 1) := by decide +kernel
theorem dX4_pointValue_49 : decode cX4_pointValue 49 = .ok (.getfield 28, 3) := by decide +kernel
theorem dX4_pointValue_52 : decode cX4_pointValue 52 = .ok (.iload 4, 2) := by decide +kernel
theorem dX4_pointValue_54 : decode cX4_pointValue 54 = .ok (.iaload, 1) := by decide +kernel
theorem dX4_pointValue_55 : decode cX4_pointValue 55 = .ok (.ireturn, 1) := by decide +kernel
theorem dX4_pointValue_56 : decode cX4_pointValue 56 = .ok (.aload_n 0, 1) := by decide +kernel
theorem dX4_pointValue_57 : decode cX4_pointValue 57 = .ok (.getfield 31, 3) := by decide +kernel
theorem dX4_pointValue_60 : decode cX4_pointValue 60 = .ok (.iload 4, 2) := by decide +kernel
theorem dX4_pointValue_62 : decode cX4_pointValue 62 = .ok (.iaload, 1) := by decide +kernel
theorem dX4_pointValue_63 : decode cX4_pointValue 63 = .ok (.ireturn, 1) := by decide +kernel
theorem dX4_pointValue_64 : decode cX4_pointValue 64 = .ok (.aload_n 0, 1) := by decide +kernel
theorem dX4_pointValue_65 : decode cX4_pointValue 65 = .ok (.getfield 34, 3) := by decide +kernel
theorem dX4_pointValue_68 : decode cX4_pointValue 68 = .ok (.iload 4, 2) := by decide +kernel
theorem dX4_pointValue_70 : decode cX4_pointValue 70 = .ok (.iaload, 1) := by decide +kernel
theorem dX4_pointValue_71 : decode cX4_pointValue 71 = .ok (.ireturn, 1) := by decide +kernel
theorem dX4_pointValue_72 : decode cX4_pointValue 72 = .ok (.aload_n 0, 1) := by decide +kernel
theorem dX4_pointValue_73 : decode cX4_pointValue 73 = .ok (.iload 4, 2) := by decide +kernel
theorem dX4_pointValue_75 : decode cX4_pointValue 75 = .ok (.aload_n 0, 1) := by decide +kernel
theorem dX4_pointValue_76 : decode cX4_pointValue 76 = .ok (.getfield 54, 3) := by decide +kernel
theorem dX4_pointValue_79 : decode cX4_pointValue 79 = .ok (.iconst 1, 1) := by decide +kernel
theorem dX4_pointValue_80 : decode cX4_pointValue 80 = .ok (.iaload, 1) := by decide +kernel
theorem dX4_pointValue_81 : decode cX4_pointValue 81 = .ok (.invokevirtual 109, 3) := by decide +kernel
theorem dX4_pointValue_84 : decode cX4_pointValue 84 = .ok (.ireturn, 1) := by decide +kernel
theorem dX4_pointValue_85 : decode cX4_pointValue 85 = .ok (.aload_n 0, 1) := by decide +kernel
theorem dX4_pointValue_86 : decode cX4_pointValue 86 = .ok (.iload 4, 2) := by decide +kernel
theorem dX4_pointValue_88 : decode cX4_pointValue 88 = .ok (.aload_n 0, 1) := by decide +kernel
theorem dX4_pointValue_89 : decode cX4_pointValue 89 = .ok (.getfield 54, 3) := by decide +kernel
theorem dX4_pointValue_92 : decode cX4_pointValue 92 = .ok (.iconst 2, 1) := by decide +kernel
theorem dX4_pointValue_93 : decode cX4_pointValue 93 = .ok (.iaload, 1) := by decide +kernel
theorem dX4_pointValue_94 : decode cX4_pointValue 94 = .ok (.invokevirtual 112, 3) := by decide +kernel
theorem dX4_pointValue_97 : decode cX4_pointValue 97 = .ok (.ireturn, 1) := by decide +kernel
theorem dX4_pointValue_98 : decode cX4_pointValue 98 = .ok (.aload_n 0, 1) := by decide +kernel
theorem dX4_pointValue_99 : decode cX4_pointValue 99 = .ok (.iload 4, 2) := by decide +kernel
theorem dX4_pointValue_101 : decode cX4_pointValue 101 = .ok (.invokevirtual 124, 3) := by decide +kernel
theorem dX4_pointValue_104 : decode cX4_pointValue 104 = .ok (.ireturn, 1) := by decide +kernel
theorem dX4_pointValue_105 : decode cX4_pointValue 105 = .ok (.aload_n 0, 1) := by decide +kernel
theorem dX4_pointValue_106 : decode cX4_pointValue 106 = .ok (.iload 4, 2) := by decide +kernel
theorem dX4_pointValue_108 : decode cX4_pointValue 108 = .ok (.invokevirtual 127, 3) := by decide +kernel
theorem dX4_pointValue_111 : decode cX4_pointValue 111 = .ok (.ireturn, 1) := by decide +kernel
theorem dX4_radiusOfStar_0 : decode cX4_radiusOfStar 0 = .ok (.aload_n 0, 1) := by decide +kernel
theorem dX4_radiusOfStar_1 : decode cX4_radiusOfStar 1 = .ok (.getfield 37, 3) := by decide +kernel
theorem dX4_radiusOfStar_4 : decode cX4_radiusOfStar 4 = .ok (.iload_n 1, 1) := by decide +kernel
theorem dX4_radiusOfStar_5 : decode cX4_radiusOfStar 5 = .ok (.iaload, 1) := by decide +kernel
theorem dX4_radiusOfStar_6 : decode cX4_radiusOfStar 6 = .ok (.i2l, 1) := by decide +kernel
theorem dX4_radiusOfStar_7 : decode cX4_radiusOfStar 7 = .ok (.aload_n 0, 1) := by decide +kernel
theorem dX4_radiusOfStar_8 : decode cX4_radiusOfStar 8 = .ok (.getfield 54, 3) := by decide +kernel
theorem dX4_radiusOfStar_11 : decode cX4_radiusOfStar 11 = .ok (.bipush 7, 2) := by decide +kernel
theorem dX4_radiusOfStar_13 : decode cX4_radiusOfStar 13 = .ok (.iaload, 1) := by decide +kernel
theorem dX4_radiusOfStar_14 : decode cX4_radiusOfStar 14 = .ok (.i2l, 1) := by decide +kernel
theorem dX4_radiusOfStar_15 : decode cX4_radiusOfStar 15 = .ok (.lmul, 1) := by decide +kernel
theorem dX4_radiusOfStar_16 : decode cX4_radiusOfStar 16 = .ok (.ldc2_w 130, 3) := by decide +kernel
theorem dX4_radiusOfStar_19 : decode cX4_radiusOfStar 19 = .ok (.ldiv, 1) := by decide +kernel
theorem dX4_radiusOfStar_20 : decode cX4_radiusOfStar 20 = .ok (.l2i, 1) := by decide +kernel
theorem dX4_radiusOfStar_21 : decode cX4_radiusOfStar 21 = .ok (.ireturn, 1) := by decide +kernel
set_option maxRecDepth 20000 in
theorem ggX4_angleOfStar_J9_floorMod_7cf53 : GoodIn wsX4_angleOfStar wsJ9_floorMod_7cf53 := goodIn_r _ [7] (by decide +kernel) (by decide +kernel)
set_option maxRecDepth 20000 in
theorem gX4_angleOfStar_J9_floorMod_7cf53 : GoodIn wsX4_angleOfStar (va_wsS RX4 133 yJ9_floorMod_7cf53 wsJ9_floorMod_7cf53) := goodIn_app (goodIn_of _ (by decide +kernel)) ggX4_angleOfStar_J9_floorMod_7cf53
theorem dX4_angleOfStar_0 : decode cX4_angleOfStar 0 = .ok (.aload_n 0, 1) := by decide +kernel
theorem dX4_angleOfStar_1 : decode cX4_angleOfStar 1 = .ok (.getfield 40, 3) := by decide +kernel
theorem dX4_angleOfStar_4 : decode cX4_angleOfStar 4 = .ok (.iload_n 1, 1) := by decide +kernel
theorem dX4_angleOfStar_5 : decode cX4_angleOfStar 5 = .ok (.iaload, 1) := by decide +kernel
theorem dX4_angleOfStar_6 : decode cX4_angleOfStar 6 = .ok (.iload_n 2, 1) := by decide +kernel
theorem dX4_angleOfStar_7 : decode cX4_angleOfStar 7 = .ok (.iadd, 1) := by decide +kernel
theorem dX4_angleOfStar_8 : decode cX4_angleOfStar 8 = .ok (.aload_n 0, 1) := by decide +kernel
theorem dX4_angleOfStar_9 : decode cX4_angleOfStar 9 = .ok (.getfield 54, 3) := by decide +kernel
theorem dX4_angleOfStar_12 : decode cX4_angleOfStar 12 = .ok (.iconst 0, 1) := by decide +kernel
theorem dX4_angleOfStar_13 : decode cX4_angleOfStar 13 = .ok (.iaload, 1) := by decide +kernel
theorem dX4_angleOfStar_14 : decode cX4_angleOfStar 14 = .ok (.iload_n 3, 1) := by decide +kernel
theorem dX4_angleOfStar_15 : decode cX4_angleOfStar 15 = .ok (.imul, 1) := by decide +kernel
theorem dX4_angleOfStar_16 : decode cX4_angleOfStar 16 = .ok (.iadd, 1) := by decide +kernel
theorem dX4_angleOfStar_17 : decode cX4_angleOfStar 17 = .ok (.ldc 132, 2) := by decide +kernel
theorem dX4_angleOfStar_19 : decode cX4_angleOfStar 19 = .ok (.invokestatic 133, 3) := by decide +kernel
theorem dX4_angleOfStar_22 : decode cX4_angleOfStar 22 = .ok (.ireturn, 1) := by decide +kernel
set_option maxRecDepth 20000 in
theorem ggX4_costWithPole_X4_costWith : GoodIn wsX4_costWithPole wsX4_costWith := goodIn_r _ [6, 7, 8, 9, 10, 11, 5, 12, 13, 14, 15, 16, 17, 18, 19, 20, 21, 22, 23, 24, 25, 26, 27, 28, 29, 30, 31, 32, 33, 34, 35, 36, 37, 38, 39, 40, 41, 42, 43, 44, 45, 46, 47, 48, 49, 50, 51, 52, 53] (by decide +kernel) (by decide +kernel)
set_option maxRecDepth 20000 in
theorem gX4_costWithPole_X4_costWith : GoodIn wsX4_costWithPole (wsV RX4 136 RX4 yX4_costWith wsX4_costWith) := goodIn_app (goodIn_of _ (by decide +kernel)) ggX4_costWithPole_X4_costWith
theorem dX4_costWithPole_0 : decode cX4_costWithPole 0 = .ok (.aload_n 0, 1) := by decide +kernel
theorem dX4_costWithPole_1 : decode cX4_costWithPole 1 = .ok (.iload_n 1, 1) := by decide +kernel
theorem dX4_costWithPole_2 : decode cX4_costWithPole 2 = .ok (.iload_n 2, 1) := by decide +kernel
theorem dX4_costWithPole_3 : decode cX4_costWithPole 3 = .ok (.aload_n 0, 1) := by decide +kernel
theorem dX4_costWithPole_4 : decode cX4_costWithPole 4 = .ok (.getfield 54, 3) := by decide +kernel
theorem dX4_costWithPole_7 : decode cX4_costWithPole 7 = .ok (.iconst 1, 1) := by decide +kernel
theorem dX4_costWithPole_8 : decode cX4_costWithPole 8 = .ok (.iaload, 1) := by decide +kernel
theorem dX4_costWithPole_9 : decode cX4_costWithPole 9 = .ok (.aload_n 0, 1) := by decide +kernel
theorem dX4_costWithPole_10 : decode cX4_costWithPole 10 = .ok (.getfield 54, 3) := by decide +kernel
theorem dX4_costWithPole_13 : decode cX4_costWithPole 13 = .ok (.iconst 2, 1) := by decide +kernel
theorem dX4_costWithPole_14 : decode cX4_costWithPole 14 = .ok (.iaload, 1) := by decide +kernel
theorem dX4_costWithPole_15 : decode cX4_costWithPole 15 = .ok (.invokevirtual 136, 3) := by decide +kernel
theorem dX4_costWithPole_18 : decode cX4_costWithPole 18 = .ok (.ireturn, 1) := by decide +kernel
set_option maxRecDepth 20000 in
theorem ggX4_costWith_X4_spreadWith : GoodIn wsX4_costWith wsX4_spreadWith := goodIn_r _ [7, 2, 8, 9, 10, 11, 12, 13, 14, 15, 16, 6, 17, 18, 19, 20, 21, 22, 23, 24, 25, 26, 27, 28, 29, 30, 31, 32, 33, 34, 35, 36, 37, 38, 39, 40, 41, 42, 43, 44, 45, 46, 47, 48] (by decide +kernel) (by decide +kernel)
set_option maxRecDepth 20000 in
theorem gX4_costWith_X4_spreadWith : GoodIn wsX4_costWith (wsV RX4 140 RX4 yX4_spreadWith wsX4_spreadWith) := goodIn_app (goodIn_of _ (by decide +kernel)) ggX4_costWith_X4_spreadWith
theorem dX4_costWith_0 : decode cX4_costWith 0 = .ok (.iconst 0, 1) := by decide +kernel
theorem dX4_costWith_1 : decode cX4_costWith 1 = .ok (.istore 5, 2) := by decide +kernel
theorem dX4_costWith_3 : decode cX4_costWith 3 = .ok (.iconst 0, 1) := by decide +kernel
theorem dX4_costWith_4 : decode cX4_costWith 4 = .ok (.istore 6, 2) := by decide +kernel
theorem dX4_costWith_6 : decode cX4_costWith 6 = .ok (.iload 6, 2) := by decide +kernel
theorem dX4_costWith_8 : decode cX4_costWith 8 = .ok (.aload_n 0, 1) := by decide +kernel
theorem dX4_costWith_9 : decode cX4_costWith 9 = .ok (.getfield 9, 3) := by decide +kernel
theorem dX4_costWith_12 : decode cX4_costWith 12 = .ok (.if_icmp .ge 36, 3) := by decide +kernel
theorem dX4_costWith_15 : decode cX4_costWith 15 = .ok (.aload_n 0, 1) := by decide +kernel
theorem dX4_costWith_16 : decode cX4_costWith 16 = .ok (.getfield 24, 3) := by decide +kernel
theorem dX4_costWith_19 : decode cX4_costWith 19 = .ok (.iload 6, 2) := by decide +kernel
theorem dX4_costWith_21 : decode cX4_costWith 21 = .ok (.iaload, 1) := by decide +kernel
theorem dX4_costWith_22 : decode cX4_costWith 22 = .ok (.iconst 2, 1) := by decide +kernel
theorem dX4_costWith_23 : decode cX4_costWith 23 = .ok (.if_icmp .lt 19, 3) := by decide +kernel
theorem dX4_costWith_26 : decode cX4_costWith 26 = .ok (.iload 5, 2) := by decide +kernel
theorem dX4_costWith_28 : decode cX4_costWith 28 = .ok (.aload_n 0, 1) := by decide +kernel
theorem dX4_costWith_29 : decode cX4_costWith 29 = .ok (.iload 6, 2) := by decide +kernel
theorem dX4_costWith_31 : decode cX4_costWith 31 = .ok (.iload_n 1, 1) := by decide +kernel
theorem dX4_costWith_32 : decode cX4_costWith 32 = .ok (.iload_n 2, 1) := by decide +kernel
theorem dX4_costWith_33 : decode cX4_costWith 33 = .ok (.iload_n 3, 1) := by decide +kernel
theorem dX4_costWith_34 : decode cX4_costWith 34 = .ok (.iload 4, 2) := by decide +kernel
theorem dX4_costWith_36 : decode cX4_costWith 36 = .ok (.invokevirtual 140, 3) := by decide +kernel
theorem dX4_costWith_39 : decode cX4_costWith 39 = .ok (.iadd, 1) := by decide +kernel
theorem dX4_costWith_40 : decode cX4_costWith 40 = .ok (.istore 5, 2) := by decide +kernel
theorem dX4_costWith_42 : decode cX4_costWith 42 = .ok (.iinc 6 1, 3) := by decide +kernel
theorem dX4_costWith_45 : decode cX4_costWith 45 = .ok (.goto (-39), 3) := by decide +kernel
theorem dX4_costWith_48 : decode cX4_costWith 48 = .ok (.iload 5, 2) := by decide +kernel
theorem dX4_costWith_50 : decode cX4_costWith 50 = .ok (.ireturn, 1) := by decide +kernel
set_option maxRecDepth 20000 in
theorem ggX4_spreadWith_X4_slot : GoodIn wsX4_spreadWith wsX4_slot := goodIn_r _ [12] (by decide +kernel) (by decide +kernel)
set_option maxRecDepth 20000 in
theorem gX4_spreadWith_X4_slot : GoodIn wsX4_spreadWith (va_wsS RX4 85 yX4_slot wsX4_slot) := goodIn_app (goodIn_of _ (by decide +kernel)) ggX4_spreadWith_X4_slot
set_option maxRecDepth 20000 in
theorem ggX4_spreadWith_X4_placeX : GoodIn wsX4_spreadWith wsX4_placeX := goodIn_r _ [16, 17, 18, 19, 20, 21, 22, 32, 33, 34, 35, 36, 37, 38, 39, 40, 41, 42, 43] (by decide +kernel) (by decide +kernel)
set_option maxRecDepth 20000 in
theorem gX4_spreadWith_X4_placeX : GoodIn wsX4_spreadWith (wsV RX4 109 RX4 yX4_placeX wsX4_placeX) := goodIn_app (goodIn_of _ (by decide +kernel)) ggX4_spreadWith_X4_placeX
set_option maxRecDepth 20000 in
theorem ggX4_spreadWith_X4_placeY : GoodIn wsX4_spreadWith wsX4_placeY := goodIn_r _ [26, 27, 18, 19, 20, 21, 22, 32, 33, 34, 35, 36, 37, 38, 39, 40, 41, 42, 43] (by decide +kernel) (by decide +kernel)
set_option maxRecDepth 20000 in
theorem gX4_spreadWith_X4_placeY : GoodIn wsX4_spreadWith (wsV RX4 112 RX4 yX4_placeY wsX4_placeY) := goodIn_app (goodIn_of _ (by decide +kernel)) ggX4_spreadWith_X4_placeY
set_option maxRecDepth 20000 in
theorem ggX4_spreadWith_X0_root : GoodIn wsX4_spreadWith wsX0_root := goodIn_r _ [31] (by decide +kernel) (by decide +kernel)
set_option maxRecDepth 20000 in
theorem gX4_spreadWith_X0_root : GoodIn wsX4_spreadWith (va_wsS RX4 115 yX0_root wsX0_root) := goodIn_app (goodIn_of _ (by decide +kernel)) ggX4_spreadWith_X0_root
theorem dX4_spreadWith_0 : decode cX4_spreadWith 0 = .ok (.iconst 0, 1) := by decide +kernel
theorem dX4_spreadWith_1 : decode cX4_spreadWith 1 = .ok (.istore 6, 2) := by decide +kernel
theorem dX4_spreadWith_3 : decode cX4_spreadWith 3 = .ok (.iconst 0, 1) := by decide +kernel
theorem dX4_spreadWith_4 : decode cX4_spreadWith 4 = .ok (.istore 7, 2) := by decide +kernel
theorem dX4_spreadWith_6 : decode cX4_spreadWith 6 = .ok (.iconst 0, 1) := by decide +kernel
theorem dX4_spreadWith_7 : decode cX4_spreadWith 7 = .ok (.istore 8, 2) := by decide +kernel
theorem dX4_spreadWith_9 : decode cX4_spreadWith 9 = .ok (.iload 8, 2) := by decide +kernel
theorem dX4_spreadWith_11 : decode cX4_spreadWith 11 = .ok (.aload_n 0, 1) := by decide +kernel
theorem dX4_spreadWith_12 : decode cX4_spreadWith 12 = .ok (.getfield 24, 3) := by decide +kernel
theorem dX4_spreadWith_15 : decode cX4_spreadWith 15 = .ok (.iload_n 1, 1) := by decide +kernel
theorem dX4_spreadWith_16 : decode cX4_spreadWith 16 = .ok (.iaload, 1) := by decide +kernel
theorem dX4_spreadWith_17 : decode cX4_spreadWith 17 = .ok (.if_icmp .ge 92, 3) := by decide +kernel
theorem dX4_spreadWith_20 : decode cX4_spreadWith 20 = .ok (.iload_n 1, 1) := by decide +kernel
theorem dX4_spreadWith_21 : decode cX4_spreadWith 21 = .ok (.iload 8, 2) := by decide +kernel
theorem dX4_spreadWith_23 : decode cX4_spreadWith 23 = .ok (.invokestatic 85, 3) := by decide +kernel
theorem dX4_spreadWith_26 : decode cX4_spreadWith 26 = .ok (.istore 9, 2) := by decide +kernel
theorem dX4_spreadWith_28 : decode cX4_spreadWith 28 = .ok (.aload_n 0, 1) := by decide +kernel
theorem dX4_spreadWith_29 : decode cX4_spreadWith 29 = .ok (.iload 9, 2) := by decide +kernel
theorem dX4_spreadWith_31 : decode cX4_spreadWith 31 = .ok (.iload 4, 2) := by decide +kernel
theorem dX4_spreadWith_33 : decode cX4_spreadWith 33 = .ok (.invokevirtual 109, 3) := by decide +kernel
theorem dX4_spreadWith_36 : decode cX4_spreadWith 36 = .ok (.iload_n 2, 1) := by decide +kernel
theorem dX4_spreadWith_37 : decode cX4_spreadWith 37 = .ok (.isub, 1) := by decide +kernel
theorem dX4_spreadWith_38 : decode cX4_spreadWith 38 = .ok (.istore 10, 2) := by decide +kernel
theorem dX4_spreadWith_40 : decode cX4_spreadWith 40 = .ok (.aload_n 0, 1) := by decide +kernel
theorem dX4_spreadWith_41 : decode cX4_spreadWith 41 = .ok (.iload 9, 2) := by decide +kernel
theorem dX4_spreadWith_43 : decode cX4_spreadWith 43 = .ok (.iload 5, 2) := by decide +kernel
theorem dX4_spreadWith_45 : decode cX4_spreadWith 45 = .ok (.invokevirtual 112, 3) := by decide +kernel
theorem dX4_spreadWith_48 : decode cX4_spreadWith 48 = .ok (.iload_n 3, 1) := by decide +kernel
theorem dX4_spreadWith_49 : decode cX4_spreadWith 49 = .ok (.isub, 1) := by decide +kernel
theorem dX4_spreadWith_50 : decode cX4_spreadWith 50 = .ok (.istore 11, 2) := by decide +kernel
theorem dX4_spreadWith_52 : decode cX4_spreadWith 52 = .ok (.iload 10, 2) := by decide +kernel
theorem dX4_spreadWith_54 : decode cX4_spreadWith 54 = .ok (.iload 10, 2) := by decide +kernel
theorem dX4_spreadWith_56 : decode cX4_spreadWith 56 = .ok (.imul, 1) := by decide +kernel
theorem dX4_spreadWith_57 : decode cX4_spreadWith 57 = .ok (.iload 11, 2) := by decide +kernel
theorem dX4_spreadWith_59 : decode cX4_spreadWith 59 = .ok (.iload 11, 2) := by decide +kernel
theorem dX4_spreadWith_61 : decode cX4_spreadWith 61 = .ok (.imul, 1) := by decide +kernel
theorem dX4_spreadWith_62 : decode cX4_spreadWith 62 = .ok (.iadd, 1) := by decide +kernel
theorem dX4_spreadWith_63 : decode cX4_spreadWith 63 = .ok (.istore 12, 2) := by decide +kernel
theorem dX4_spreadWith_65 : decode cX4_spreadWith 65 = .ok (.iload 8, 2) := by decide +kernel
theorem dX4_spreadWith_67 : decode cX4_spreadWith 67 = .ok (.ifCond .ne 8, 3) := by decide +kernel
theorem dX4_spreadWith_70 : decode cX4_spreadWith 70 = .ok (.iload 12, 2) := by decide +kernel
theorem dX4_spreadWith_72 : decode cX4_spreadWith 72 = .ok (.goto 10, 3) := by decide +kernel
theorem dX4_spreadWith_75 : decode cX4_spreadWith 75 = .ok (.iload 6, 2) := by decide +kernel
theorem dX4_spreadWith_77 : decode cX4_spreadWith 77 = .ok (.iload 12, 2) := by decide +kernel
theorem dX4_spreadWith_79 : decode cX4_spreadWith 79 = .ok (.invokestatic 61, 3) := by decide +kernel
theorem dX4_spreadWith_82 : decode cX4_spreadWith 82 = .ok (.istore 6, 2) := by decide +kernel
theorem dX4_spreadWith_84 : decode cX4_spreadWith 84 = .ok (.iload 8, 2) := by decide +kernel
theorem dX4_spreadWith_86 : decode cX4_spreadWith 86 = .ok (.ifCond .ne 8, 3) := by decide +kernel
theorem dX4_spreadWith_89 : decode cX4_spreadWith 89 = .ok (.iload 12, 2) := by decide +kernel
theorem dX4_spreadWith_91 : decode cX4_spreadWith 91 = .ok (.goto 10, 3) := by decide +kernel
theorem dX4_spreadWith_94 : decode cX4_spreadWith 94 = .ok (.iload 7, 2) := by decide +kernel
theorem dX4_spreadWith_96 : decode cX4_spreadWith 96 = .ok (.iload 12, 2) := by decide +kernel
theorem dX4_spreadWith_98 : decode cX4_spreadWith 98 = .ok (.invokestatic 144, 3) := by decide +kernel
theorem dX4_spreadWith_101 : decode cX4_spreadWith 101 = .ok (.istore 7, 2) := by decide +kernel
theorem dX4_spreadWith_103 : decode cX4_spreadWith 103 = .ok (.iinc 8 1, 3) := by decide +kernel
theorem dX4_spreadWith_106 : decode cX4_spreadWith 106 = .ok (.goto (-97), 3) := by decide +kernel
theorem dX4_spreadWith_109 : decode cX4_spreadWith 109 = .ok (.iload 7, 2) := by decide +kernel
theorem dX4_spreadWith_111 : decode cX4_spreadWith 111 = .ok (.invokestatic 115, 3) := by decide +kernel
theorem dX4_spreadWith_114 : decode cX4_spreadWith 114 = .ok (.iload 6, 2) := by decide +kernel
theorem dX4_spreadWith_116 : decode cX4_spreadWith 116 = .ok (.invokestatic 115, 3) := by decide +kernel
theorem dX4_spreadWith_119 : decode cX4_spreadWith 119 = .ok (.isub, 1) := by decide +kernel
theorem dX4_spreadWith_120 : decode cX4_spreadWith 120 = .ok (.ireturn, 1) := by decide +kernel
set_option maxRecDepth 20000 in
theorem ggX4_seekPole_X4_costWith : GoodIn wsX4_seekPole wsX4_costWith := goodIn_r _ [9, 10, 11, 12, 13, 14, 8, 15, 16, 17, 18, 19, 20, 21, 22, 23, 24, 25, 26, 27, 28, 29, 30, 31, 32, 33, 34, 35, 36, 37, 38, 39, 40, 41, 42, 43, 44, 55, 56, 57, 58, 59, 60, 61, 62, 63, 64, 65, 66] (by decide +kernel) (by decide +kernel)
set_option maxRecDepth 20000 in
theorem gX4_seekPole_X4_costWith : GoodIn wsX4_seekPole (wsV RX4 136 RX4 yX4_costWith wsX4_costWith) := goodIn_app (goodIn_of _ (by decide +kernel)) ggX4_seekPole_X4_costWith
set_option maxRecDepth 20000 in
theorem ggX4_seekPole_X4_isPole : GoodIn wsX4_seekPole wsX4_isPole := goodIn_r _ [47, 48, 49, 50] (by decide +kernel) (by decide +kernel)
set_option maxRecDepth 20000 in
theorem gX4_seekPole_X4_isPole : GoodIn wsX4_seekPole (va_wsS RX4 94 yX4_isPole wsX4_isPole) := goodIn_app (goodIn_of _ (by decide +kernel)) ggX4_seekPole_X4_isPole
set_option maxRecDepth 20000 in
theorem ggX4_seekPole_X4_putPole : GoodIn wsX4_seekPole wsX4_putPole := goodIn_r _ [54, 2, 3, 55, 56, 57, 58, 59, 60, 61, 62, 63, 64, 65, 66] (by decide +kernel) (by decide +kernel)
set_option maxRecDepth 20000 in
theorem gX4_seekPole_X4_putPole : GoodIn wsX4_seekPole (wsV RX4 148 RX4 yX4_putPole wsX4_putPole) := goodIn_app (goodIn_of _ (by decide +kernel)) ggX4_seekPole_X4_putPole
theorem dX4_seekPole_0 : decode cX4_seekPole 0 = .ok (.iconst 0, 1) := by decide +kernel
theorem dX4_seekPole_1 : decode cX4_seekPole 1 = .ok (.istore_n 2, 1) := by decide +kernel
theorem dX4_seekPole_2 : decode cX4_seekPole 2 = .ok (.iload_n 1, 1) := by decide +kernel
theorem dX4_seekPole_3 : decode cX4_seekPole 3 = .ok (.istore_n 3, 1) := by decide +kernel
theorem dX4_seekPole_4 : decode cX4_seekPole 4 = .ok (.aload_n 0, 1) := by decide +kernel
theorem dX4_seekPole_5 : decode cX4_seekPole 5 = .ok (.getfield 54, 3) := by decide +kernel
theorem dX4_seekPole_8 : decode cX4_seekPole 8 = .ok (.iconst 1, 1) := by decide +kernel
theorem dX4_seekPole_9 : decode cX4_seekPole 9 = .ok (.iaload, 1) := by decide +kernel
theorem dX4_seekPole_10 : decode cX4_seekPole 10 = .ok (.istore 4, 2) := by decide +kernel
theorem dX4_seekPole_12 : decode cX4_seekPole 12 = .ok (.aload_n 0, 1) := by decide +kernel
theorem dX4_seekPole_13 : decode cX4_seekPole 13 = .ok (.getfield 54, 3) := by decide +kernel
theorem dX4_seekPole_16 : decode cX4_seekPole 16 = .ok (.iconst 2, 1) := by decide +kernel
theorem dX4_seekPole_17 : decode cX4_seekPole 17 = .ok (.iaload, 1) := by decide +kernel
theorem dX4_seekPole_18 : decode cX4_seekPole 18 = .ok (.istore 5, 2) := by decide +kernel
theorem dX4_seekPole_20 : decode cX4_seekPole 20 = .ok (.aload_n 0, 1) := by decide +kernel
theorem dX4_seekPole_21 : decode cX4_seekPole 21 = .ok (.aload_n 0, 1) := by decide +kernel
theorem dX4_seekPole_22 : decode cX4_seekPole 22 = .ok (.getfield 18, 3) := by decide +kernel
theorem dX4_seekPole_25 : decode cX4_seekPole 25 = .ok (.aload_n 0, 1) := by decide +kernel
theorem dX4_seekPole_26 : decode cX4_seekPole 26 = .ok (.getfield 21, 3) := by decide +kernel
theorem dX4_seekPole_29 : decode cX4_seekPole 29 = .ok (.iload 4, 2) := by decide +kernel
theorem dX4_seekPole_31 : decode cX4_seekPole 31 = .ok (.iload 5, 2) := by decide +kernel
theorem dX4_seekPole_33 : decode cX4_seekPole 33 = .ok (.invokevirtual 136, 3) := by decide +kernel
theorem dX4_seekPole_36 : decode cX4_seekPole 36 = .ok (.istore 6, 2) := by decide +kernel
theorem dX4_seekPole_38 : decode cX4_seekPole 38 = .ok (.iconst 0, 1) := by decide +kernel
theorem dX4_seekPole_39 : decode cX4_seekPole 39 = .ok (.istore 7, 2) := by decide +kernel
theorem dX4_seekPole_41 : decode cX4_seekPole 41 = .ok (.iload 7, 2) := by decide +kernel
theorem dX4_seekPole_43 : decode cX4_seekPole 43 = .ok (.ldc 147, 2) := by decide +kernel
theorem dX4_seekPole_45 : decode cX4_seekPole 45 = .ok (.if_icmp .ge 158, 3) := by decide +kernel
theorem dX4_seekPole_48 : decode cX4_seekPole 48 = .ok (.iload_n 3, 1) := by decide +kernel
theorem dX4_seekPole_49 : decode cX4_seekPole 49 = .ok (.ifCond .le 154, 3) := by decide +kernel
theorem dX4_seekPole_52 : decode cX4_seekPole 52 = .ok (.iload 6, 2) := by decide +kernel
theorem dX4_seekPole_54 : decode cX4_seekPole 54 = .ok (.istore 8, 2) := by decide +kernel
theorem dX4_seekPole_56 : decode cX4_seekPole 56 = .ok (.aload_n 0, 1) := by decide +kernel
theorem dX4_seekPole_57 : decode cX4_seekPole 57 = .ok (.getfield 18, 3) := by decide +kernel
theorem dX4_seekPole_60 : decode cX4_seekPole 60 = .ok (.istore 9, 2) := by decide +kernel
theorem dX4_seekPole_62 : decode cX4_seekPole 62 = .ok (.aload_n 0, 1) := by decide +kernel
theorem dX4_seekPole_63 : decode cX4_seekPole 63 = .ok (.getfield 21, 3) := by decide +kernel
theorem dX4_seekPole_66 : decode cX4_seekPole 66 = .ok (.istore 10, 2) := by decide +kernel
theorem dX4_seekPole_68 : decode cX4_seekPole 68 = .ok (.iconst 0, 1) := by decide +kernel
theorem dX4_seekPole_69 : decode cX4_seekPole 69 = .ok (.istore 11, 2) := by decide +kernel
theorem dX4_seekPole_71 : decode cX4_seekPole 71 = .ok (.iload 11, 2) := by decide +kernel
theorem dX4_seekPole_73 : decode cX4_seekPole 73 = .ok (.bipush 9, 2) := by decide +kernel
theorem dX4_seekPole_75 : decode cX4_seekPole 75 = .ok (.if_icmp .ge 93, 3) := by decide +kernel
theorem dX4_seekPole_78 : decode cX4_seekPole 78 = .ok (.aload_n 0, 1) := by decide +kernel
theorem dX4_seekPole_79 : decode cX4_seekPole 79 = .ok (.getfield 18, 3) := by decide +kernel
theorem dX4_seekPole_82 : decode cX4_seekPole 82 = .ok (.iload 11, 2) := by decide +kernel
theorem dX4_seekPole_84 : decode cX4_seekPole 84 = .ok (.iconst 3, 1) := by decide +kernel
theorem dX4_seekPole_85 : decode cX4_seekPole 85 = .ok (.irem, 1) := by decide +kernel
theorem dX4_seekPole_86 : decode cX4_seekPole 86 = .ok (.iconst 1, 1) := by decide +kernel
theorem dX4_seekPole_87 : decode cX4_seekPole 87 = .ok (.isub, 1) := by decide +kernel
theorem dX4_seekPole_88 : decode cX4_seekPole 88 = .ok (.iload_n 3, 1) := by decide +kernel
theorem dX4_seekPole_89 : decode cX4_seekPole 89 = .ok (.imul, 1) := by decide +kernel
theorem dX4_seekPole_90 : decode cX4_seekPole 90 = .ok (.iadd, 1) := by decide +kernel
theorem dX4_seekPole_91 : decode cX4_seekPole 91 = .ok (.istore 12, 2) := by decide +kernel
theorem dX4_seekPole_93 : decode cX4_seekPole 93 = .ok (.aload_n 0, 1) := by decide +kernel
theorem dX4_seekPole_94 : decode cX4_seekPole 94 = .ok (.getfield 21, 3) := by decide +kernel
theorem dX4_seekPole_97 : decode cX4_seekPole 97 = .ok (.iload 11, 2) := by decide +kernel
theorem dX4_seekPole_99 : decode cX4_seekPole 99 = .ok (.iconst 3, 1) := by decide +kernel
theorem dX4_seekPole_100 : decode cX4_seekPole 100 = .ok (.idiv, 1) := by decide +kernel
theorem dX4_seekPole_101 : decode cX4_seekPole 101 = .ok (.iconst 1, 1) := by decide +kernel
theorem dX4_seekPole_102 : decode cX4_seekPole 102 = .ok (.isub, 1) := by decide +kernel
theorem dX4_seekPole_103 : decode cX4_seekPole 103 = .ok (.iload_n 3, 1) := by decide +kernel
theorem dX4_seekPole_104 : decode cX4_seekPole 104 = .ok (.imul, 1) := by decide +kernel
theorem dX4_seekPole_105 : decode cX4_seekPole 105 = .ok (.iadd, 1) := by decide +kernel
theorem dX4_seekPole_106 : decode cX4_seekPole 106 = .ok (.istore 13, 2) := by decide +kernel
theorem dX4_seekPole_108 : decode cX4_seekPole 108 = .ok (.iload 11, 2) := by decide +kernel
theorem dX4_seekPole_110 : decode cX4_seekPole 110 = .ok (.iconst 4, 1) := by decide +kernel
theorem dX4_seekPole_111 : decode cX4_seekPole 111 = .ok (.if_icmp .eq 28, 3) := by decide +kernel
theorem dX4_seekPole_114 : decode cX4_seekPole 114 = .ok (.iload 12, 2) := by decide +kernel
theorem dX4_seekPole_116 : decode cX4_seekPole 116 = .ok (.iload 13, 2) := by decide +kernel
theorem dX4_seekPole_118 : decode cX4_seekPole 118 = .ok (.invokestatic 94, 3) := by decide +kernel
theorem dX4_seekPole_121 : decode cX4_seekPole 121 = .ok (.ifCond .eq 18, 3) := by decide +kernel
theorem dX4_seekPole_124 : decode cX4_seekPole 124 = .ok (.aload_n 0, 1) := by decide +kernel
theorem dX4_seekPole_125 : decode cX4_seekPole 125 = .ok (.iload 12, 2) := by decide +kernel
theorem dX4_seekPole_127 : decode cX4_seekPole 127 = .ok (.iload 13, 2) := by decide +kernel
theorem dX4_seekPole_129 : decode cX4_seekPole 129 = .ok (.iload 4, 2) := by decide +kernel
theorem dX4_seekPole_131 : decode cX4_seekPole 131 = .ok (.iload 5, 2) := by decide +kernel
theorem dX4_seekPole_133 : decode cX4_seekPole 133 = .ok (.invokevirtual 136, 3) := by decide +kernel
theorem dX4_seekPole_136 : decode cX4_seekPole 136 = .ok (.goto 5, 3) := by decide +kernel
theorem dX4_seekPole_139 : decode cX4_seekPole 139 = .ok (.iload 6, 2) := by decide +kernel
theorem dX4_seekPole_141 : decode cX4_seekPole 141 = .ok (.istore 14, 2) := by decide +kernel
theorem dX4_seekPole_143 : decode cX4_seekPole 143 = .ok (.iload 14, 2) := by decide +kernel
theorem dX4_seekPole_145 : decode cX4_seekPole 145 = .ok (.iload 8, 2) := by decide +kernel
theorem dX4_seekPole_147 : decode cX4_seekPole 147 = .ok (.if_icmp .ge 15, 3) := by decide +kernel
theorem dX4_seekPole_150 : decode cX4_seekPole 150 = .ok (.iload 14, 2) := by decide +kernel
theorem dX4_seekPole_152 : decode cX4_seekPole 152 = .ok (.istore 8, 2) := by decide +kernel
theorem dX4_seekPole_154 : decode cX4_seekPole 154 = .ok (.iload 12, 2) := by decide +kernel
theorem dX4_seekPole_156 : decode cX4_seekPole 156 = .ok (.istore 9, 2) := by decide +kernel
theorem dX4_seekPole_158 : decode cX4_seekPole 158 = .ok (.iload 13, 2) := by decide +kernel
theorem dX4_seekPole_160 : decode cX4_seekPole 160 = .ok (.istore 10, 2) := by decide +kernel
theorem dX4_seekPole_162 : decode cX4_seekPole 162 = .ok (.iinc 11 1, 3) := by decide +kernel
theorem dX4_seekPole_165 : decode cX4_seekPole 165 = .ok (.goto (-94), 3) := by decide +kernel
theorem dX4_seekPole_168 : decode cX4_seekPole 168 = .ok (.iload 8, 2) := by decide +kernel
theorem dX4_seekPole_170 : decode cX4_seekPole 170 = .ok (.iload 6, 2) := by decide +kernel
theorem dX4_seekPole_172 : decode cX4_seekPole 172 = .ok (.if_icmp .ge 21, 3) := by decide +kernel
theorem dX4_seekPole_175 : decode cX4_seekPole 175 = .ok (.aload_n 0, 1) := by decide +kernel
theorem dX4_seekPole_176 : decode cX4_seekPole 176 = .ok (.iload 9, 2) := by decide +kernel
theorem dX4_seekPole_178 : decode cX4_seekPole 178 = .ok (.iload 10, 2) := by decide +kernel
theorem dX4_seekPole_180 : decode cX4_seekPole 180 = .ok (.invokevirtual 148, 3) := by decide +kernel
theorem dX4_seekPole_183 : decode cX4_seekPole 183 = .ok (.iload 8, 2) := by decide +kernel
theorem dX4_seekPole_185 : decode cX4_seekPole 185 = .ok (.istore 6, 2) := by decide +kernel
theorem dX4_seekPole_187 : decode cX4_seekPole 187 = .ok (.iinc 2 1, 3) := by decide +kernel
theorem dX4_seekPole_190 : decode cX4_seekPole 190 = .ok (.goto 7, 3) := by decide +kernel
theorem dX4_seekPole_193 : decode cX4_seekPole 193 = .ok (.iload_n 3, 1) := by decide +kernel
theorem dX4_seekPole_194 : decode cX4_seekPole 194 = .ok (.iconst 2, 1) := by decide +kernel
theorem dX4_seekPole_195 : decode cX4_seekPole 195 = .ok (.idiv, 1) := by decide +kernel
theorem dX4_seekPole_196 : decode cX4_seekPole 196 = .ok (.istore_n 3, 1) := by decide +kernel
theorem dX4_seekPole_197 : decode cX4_seekPole 197 = .ok (.iinc 7 1, 3) := by decide +kernel
theorem dX4_seekPole_200 : decode cX4_seekPole 200 = .ok (.goto (-159), 3) := by decide +kernel
theorem dX4_seekPole_203 : decode cX4_seekPole 203 = .ok (.iload_n 2, 1) := by decide +kernel
theorem dX4_seekPole_204 : decode cX4_seekPole 204 = .ok (.ireturn, 1) := by decide +kernel
theorem dX5_init_0 : decode cX5_init 0 = .ok (.aload_n 0, 1) := by decide +kernel
theorem dX5_init_1 : decode cX5_init 1 = .ok (.invokespecial 3, 3) := by decide +kernel
theorem dX5_init_4 : decode cX5_init 4 = .ok (.aload_n 0, 1) := by decide +kernel
theorem dX5_init_5 : decode cX5_init 5 = .ok (.iconst 0, 1) := by decide +kernel
theorem dX5_init_6 : decode cX5_init 6 = .ok (.putfield 9, 3) := by decide +kernel
theorem dX5_init_9 : decode cX5_init 9 = .ok (.aload_n 0, 1) := by decide +kernel
theorem dX5_init_10 : decode cX5_init 10 = .ok (.iconst 0, 1) := by decide +kernel
theorem dX5_init_11 : decode cX5_init 11 = .ok (.putfield 15, 3) := by decide +kernel
theorem dX5_init_14 : decode cX5_init 14 = .ok (.aload_n 0, 1) := by decide +kernel
theorem dX5_init_15 : decode cX5_init 15 = .ok (.sipush 150, 3) := by decide +kernel
theorem dX5_init_18 : decode cX5_init 18 = .ok (.newarray .byte, 2) := by decide +kernel
theorem dX5_init_20 : decode cX5_init 20 = .ok (.putfield 18, 3) := by decide +kernel
theorem dX5_init_23 : decode cX5_init 23 = .ok (.aload_n 0, 1) := by decide +kernel
theorem dX5_init_24 : decode cX5_init 24 = .ok (.sipush 150, 3) := by decide +kernel
theorem dX5_init_27 : decode cX5_init 27 = .ok (.newarray .int, 2) := by decide +kernel
theorem dX5_init_29 : decode cX5_init 29 = .ok (.putfield 22, 3) := by decide +kernel
theorem dX5_init_32 : decode cX5_init 32 = .ok (.aload_n 0, 1) := by decide +kernel
theorem dX5_init_33 : decode cX5_init 33 = .ok (.sipush 600, 3) := by decide +kernel
theorem dX5_init_36 : decode cX5_init 36 = .ok (.newarray .int, 2) := by decide +kernel
theorem dX5_init_38 : decode cX5_init 38 = .ok (.putfield 26, 3) := by decide +kernel
theorem dX5_init_41 : decode cX5_init 41 = .ok (.aload_n 0, 1) := by decide +kernel
theorem dX5_init_42 : decode cX5_init 42 = .ok (.iconst 0, 1) := by decide +kernel
theorem dX5_init_43 : decode cX5_init 43 = .ok (.putfield 29, 3) := by decide +kernel
theorem dX5_init_46 : decode cX5_init 46 = .ok (.return_, 1) := by decide +kernel
theorem dX5_append_0 : decode cX5_append 0 = .ok (.aload_n 0, 1) := by decide +kernel
theorem dX5_append_1 : decode cX5_append 1 = .ok (.getfield 18, 3) := by decide +kernel
theorem dX5_append_4 : decode cX5_append 4 = .ok (.aload_n 0, 1) := by decide +kernel
theorem dX5_append_5 : decode cX5_append 5 = .ok (.getfield 9, 3) := by decide +kernel
theorem dX5_append_8 : decode cX5_append 8 = .ok (.iload_n 1, 1) := by decide +kernel
theorem dX5_append_9 : decode cX5_append 9 = .ok (.i2b, 1) := by decide +kernel
theorem dX5_append_10 : decode cX5_append 10 = .ok (.bastore, 1) := by decide +kernel
theorem dX5_append_11 : decode cX5_append 11 = .ok (.aload_n 0, 1) := by decide +kernel
theorem dX5_append_12 : decode cX5_append 12 = .ok (.dup, 1) := by decide +kernel
theorem dX5_append_13 : decode cX5_append 13 = .ok (.getfield 9, 3) := by decide +kernel
theorem dX5_append_16 : decode cX5_append 16 = .ok (.iconst 1, 1) := by decide +kernel
theorem dX5_append_17 : decode cX5_append 17 = .ok (.iadd, 1) := by decide +kernel
theorem dX5_append_18 : decode cX5_append 18 = .ok (.putfield 9, 3) := by decide +kernel
theorem dX5_append_21 : decode cX5_append 21 = .ok (.aload_n 0, 1) := by decide +kernel
theorem dX5_append_22 : decode cX5_append 22 = .ok (.getfield 9, 3) := by decide +kernel
theorem dX5_append_25 : decode cX5_append 25 = .ok (.ireturn, 1) := by decide +kernel
set_option maxRecDepth 20000 in
theorem ggX5_read_X5_skipSpaces : GoodIn wsX5_read wsX5_skipSpaces := goodIn_r _ [8, 2, 3, 9, 86, 87, 88, 89, 90, 91] (by decide +kernel) (by decide +kernel)
set_option maxRecDepth 20000 in
theorem gX5_read_X5_skipSpaces : GoodIn wsX5_read (wsV RX5 32 RX5 yX5_skipSpaces wsX5_skipSpaces) := goodIn_app (goodIn_of _ (by decide +kernel)) ggX5_read_X5_skipSpaces
set_option maxRecDepth 20000 in
theorem ggX5_read_X5_readCommand : GoodIn wsX5_read wsX5_readCommand := goodIn_r _ [13, 2, 3, 9, 14, 1, 15, 16, 17, 18, 7, 19, 20, 21, 22, 23, 24, 25, 26, 27, 28, 29, 30, 31, 32, 33, 34, 35, 36, 37, 38, 39, 40, 41, 42, 43, 44, 45, 46, 47, 48, 49, 50, 51, 52, 53, 54, 55, 56, 57, 58, 59, 60, 61, 62, 63, 64, 65, 66, 67, 68, 69, 70, 71, 72, 73, 74, 75, 76, 77, 78, 79, 80, 81, 4, 5, 6, 8, 82, 83, 84, 85, 86, 87, 88, 89, 90, 91] (by decide +kernel) (by decide +kernel)
set_option maxRecDepth 20000 in
theorem gX5_read_X5_readCommand : GoodIn wsX5_read (wsV RX5 35 RX5 yX5_readCommand wsX5_readCommand) := goodIn_app (goodIn_of _ (by decide +kernel)) ggX5_read_X5_readCommand
theorem dX5_read_0 : decode cX5_read 0 = .ok (.aload_n 0, 1) := by decide +kernel
theorem dX5_read_1 : decode cX5_read 1 = .ok (.iconst 0, 1) := by decide +kernel
theorem dX5_read_2 : decode cX5_read 2 = .ok (.putfield 15, 3) := by decide +kernel
theorem dX5_read_5 : decode cX5_read 5 = .ok (.aload_n 0, 1) := by decide +kernel
theorem dX5_read_6 : decode cX5_read 6 = .ok (.iconst 0, 1) := by decide +kernel
theorem dX5_read_7 : decode cX5_read 7 = .ok (.putfield 29, 3) := by decide +kernel
theorem dX5_read_10 : decode cX5_read 10 = .ok (.aload_n 0, 1) := by decide +kernel
theorem dX5_read_11 : decode cX5_read 11 = .ok (.invokevirtual 32, 3) := by decide +kernel
theorem dX5_read_14 : decode cX5_read 14 = .ok (.iconst 0, 1) := by decide +kernel
theorem dX5_read_15 : decode cX5_read 15 = .ok (.istore_n 1, 1) := by decide +kernel
theorem dX5_read_16 : decode cX5_read 16 = .ok (.iload_n 1, 1) := by decide +kernel
theorem dX5_read_17 : decode cX5_read 17 = .ok (.sipush 150, 3) := by decide +kernel
theorem dX5_read_20 : decode cX5_read 20 = .ok (.if_icmp .ge 36, 3) := by decide +kernel
theorem dX5_read_23 : decode cX5_read 23 = .ok (.aload_n 0, 1) := by decide +kernel
theorem dX5_read_24 : decode cX5_read 24 = .ok (.getfield 29, 3) := by decide +kernel
theorem dX5_read_27 : decode cX5_read 27 = .ok (.aload_n 0, 1) := by decide +kernel
theorem dX5_read_28 : decode cX5_read 28 = .ok (.getfield 9, 3) := by decide +kernel
theorem dX5_read_31 : decode cX5_read 31 = .ok (.if_icmp .ge 25, 3) := by decide +kernel
theorem dX5_read_34 : decode cX5_read 34 = .ok (.aload_n 0, 1) := by decide +kernel
theorem dX5_read_35 : decode cX5_read 35 = .ok (.invokevirtual 35, 3) := by decide +kernel
theorem dX5_read_38 : decode cX5_read 38 = .ok (.istore_n 2, 1) := by decide +kernel
theorem dX5_read_39 : decode cX5_read 39 = .ok (.iload_n 2, 1) := by decide +kernel
theorem dX5_read_40 : decode cX5_read 40 = .ok (.iconst (-1), 1) := by decide +kernel
theorem dX5_read_41 : decode cX5_read 41 = .ok (.if_icmp .eq 5, 3) := by decide +kernel
theorem dX5_read_44 : decode cX5_read 44 = .ok (.iload_n 2, 1) := by decide +kernel
theorem dX5_read_45 : decode cX5_read 45 = .ok (.ireturn, 1) := by decide +kernel
theorem dX5_read_46 : decode cX5_read 46 = .ok (.aload_n 0, 1) := by decide +kernel
theorem dX5_read_47 : decode cX5_read 47 = .ok (.invokevirtual 32, 3) := by decide +kernel
theorem dX5_read_50 : decode cX5_read 50 = .ok (.iinc 1 1, 3) := by decide +kernel
theorem dX5_read_53 : decode cX5_read 53 = .ok (.goto (-37), 3) := by decide +kernel
theorem dX5_read_56 : decode cX5_read 56 = .ok (.iconst (-1), 1) := by decide +kernel
theorem dX5_read_57 : decode cX5_read 57 = .ok (.ireturn, 1) := by decide +kernel
set_option maxRecDepth 20000 in
theorem ggX5_readCommand_X5_kindOf : GoodIn wsX5_readCommand wsX5_kindOf := goodIn_r _ [11, 12, 13, 14, 10, 15, 3, 16, 17, 18, 19, 20, 21, 22, 23, 24, 25, 26, 27, 28, 29, 30, 31, 32, 33, 34, 35, 36, 37, 38, 39, 40, 41, 42, 43, 44, 45, 46, 47, 48, 49, 50, 51, 52, 53, 54, 55, 56, 57, 58, 59, 60, 61, 62, 63, 64, 82, 83, 84, 85, 86, 87] (by decide +kernel) (by decide +kernel)
set_option maxRecDepth 20000 in
theorem gX5_readCommand_X5_kindOf : GoodIn wsX5_readCommand (wsV RX5 39 RX5 yX5_kindOf wsX5_kindOf) := goodIn_app (goodIn_of _ (by decide +kernel)) ggX5_readCommand_X5_kindOf
set_option maxRecDepth 20000 in
theorem ggX5_readCommand_X5_readNumber : GoodIn wsX5_readCommand wsX5_readNumber := goodIn_r _ [68, 1, 69, 70, 71, 72, 10, 73, 2, 3, 74, 75, 76, 77, 78, 79, 80, 81, 82, 83, 84, 85, 86, 87] (by decide +kernel) (by decide +kernel)
set_option maxRecDepth 20000 in
theorem gX5_readCommand_X5_readNumber : GoodIn wsX5_readCommand (wsV RX5 46 RX5 yX5_readNumber wsX5_readNumber) := goodIn_app (goodIn_of _ (by decide +kernel)) ggX5_readCommand_X5_readNumber
set_option maxRecDepth 20000 in
theorem ggX5_readCommand_X5_skipSpaces : GoodIn wsX5_readCommand wsX5_skipSpaces := goodIn_r _ [77, 1, 2, 3, 82, 83, 84, 85, 86, 87] (by decide +kernel) (by decide +kernel)
set_option maxRecDepth 20000 in
theorem gX5_readCommand_X5_skipSpaces : GoodIn wsX5_readCommand (wsV RX5 32 RX5 yX5_skipSpaces wsX5_skipSpaces) := goodIn_app (goodIn_of _ (by decide +kernel)) ggX5_readCommand_X5_skipSpaces
set_option maxRecDepth 20000 in
theorem ggX5_readCommand_X5_here : GoodIn wsX5_readCommand wsX5_here := goodIn_r _ [73, 1, 2, 3, 82, 83, 84, 85, 86, 87] (by decide +kernel) (by decide +kernel)
set_option maxRecDepth 20000 in
theorem gX5_readCommand_X5_here : GoodIn wsX5_readCommand (wsV RX5 50 RX5 yX5_here wsX5_here) := goodIn_app (goodIn_of _ (by decide +kernel)) ggX5_readCommand_X5_here
theorem dX5_readCommand_0 : decode cX5_readCommand 0 = .ok (.aload_n 0, 1) := by decide +kernel
theorem dX5_readCommand_1 : decode cX5_readCommand 1 = .ok (.getfield 29, 3) := by decide +kernel
theorem dX5_readCommand_4 : decode cX5_readCommand 4 = .ok (.istore_n 1, 1) := by decide +kernel
theorem dX5_readCommand_5 : decode cX5_readCommand 5 = .ok (.aload_n 0, 1) := by decide +kernel
theorem dX5_readCommand_6 : decode cX5_readCommand 6 = .ok (.getfield 29, 3) := by decide +kernel
theorem dX5_readCommand_9 : decode cX5_readCommand 9 = .ok (.aload_n 0, 1) := by decide +kernel
theorem dX5_readCommand_10 : decode cX5_readCommand 10 = .ok (.getfield 9, 3) := by decide +kernel
theorem dX5_readCommand_13 : decode cX5_readCommand 13 = .ok (.if_icmp .ge 44, 3) := by decide +kernel
theorem dX5_readCommand_16 : decode cX5_readCommand 16 = .ok (.aload_n 0, 1) := by decide +kernel
theorem dX5_readCommand_17 : decode cX5_readCommand 17 = .ok (.getfield 18, 3) := by decide +kernel
theorem dX5_readCommand_20 : decode cX5_readCommand 20 = .ok (.aload_n 0, 1) := by decide +kernel
theorem dX5_readCommand_21 : decode cX5_readCommand 21 = .ok (.getfield 29, 3) := by decide +kernel
theorem dX5_readCommand_24 : decode cX5_readCommand 24 = .ok (.baload, 1) := by decide +kernel
theorem dX5_readCommand_25 : decode cX5_readCommand 25 = .ok (.bipush 97, 2) := by decide +kernel
theorem dX5_readCommand_27 : decode cX5_readCommand 27 = .ok (.if_icmp .lt 30, 3) := by decide +kernel
theorem dX5_readCommand_30 : decode cX5_readCommand 30 = .ok (.aload_n 0, 1) := by decide +kernel
theorem dX5_readCommand_31 : decode cX5_readCommand 31 = .ok (.getfield 18, 3) := by decide +kernel
theorem dX5_readCommand_34 : decode cX5_readCommand 34 = .ok (.aload_n 0, 1) := by decide +kernel
theorem dX5_readCommand_35 : decode cX5_readCommand 35 = .ok (.getfield 29, 3) := by decide +kernel
theorem dX5_readCommand_38 : decode cX5_readCommand 38 = .ok (.baload, 1) := by decide +kernel
theorem dX5_readCommand_39 : decode cX5_readCommand 39 = .ok (.bipush 122, 2) := by decide +kernel
theorem dX5_readCommand_41 : decode cX5_readCommand 41 = .ok (.if_icmp .gt 16, 3) := by decide +kernel
theorem dX5_readCommand_44 : decode cX5_readCommand 44 = .ok (.aload_n 0, 1) := by decide +kernel
theorem dX5_readCommand_45 : decode cX5_readCommand 45 = .ok (.dup, 1) := by decide +kernel
theorem dX5_readCommand_46 : decode cX5_readCommand 46 = .ok (.getfield 29, 3) := by decide +kernel
theorem dX5_readCommand_49 : decode cX5_readCommand 49 = .ok (.iconst 1, 1) := by decide +kernel
theorem dX5_readCommand_50 : decode cX5_readCommand 50 = .ok (.iadd, 1) := by decide +kernel
theorem dX5_readCommand_51 : decode cX5_readCommand 51 = .ok (.putfield 29, 3) := by decide +kernel
theorem dX5_readCommand_54 : decode cX5_readCommand 54 = .ok (.goto (-49), 3) := by decide +kernel
theorem dX5_readCommand_57 : decode cX5_readCommand 57 = .ok (.aload_n 0, 1) := by decide +kernel
theorem dX5_readCommand_58 : decode cX5_readCommand 58 = .ok (.iload_n 1, 1) := by decide +kernel
theorem dX5_readCommand_59 : decode cX5_readCommand 59 = .ok (.aload_n 0, 1) := by decide +kernel
theorem dX5_readCommand_60 : decode cX5_readCommand 60 = .ok (.getfield 29, 3) := by decide +kernel
theorem dX5_readCommand_63 : decode cX5_readCommand 63 = .ok (.invokevirtual 39, 3) := by decide +kernel
theorem dX5_readCommand_66 : decode cX5_readCommand 66 = .ok (.istore_n 2, 1) := by decide +kernel
theorem dX5_readCommand_67 : decode cX5_readCommand 67 = .ok (.iload_n 2, 1) := by decide +kernel
theorem dX5_readCommand_68 : decode cX5_readCommand 68 = .ok (.iconst (-1), 1) := by decide +kernel
theorem dX5_readCommand_69 : decode cX5_readCommand 69 = .ok (.if_icmp .ne 5, 3) := by decide +kernel
theorem dX5_readCommand_72 : decode cX5_readCommand 72 = .ok (.iload_n 1, 1) := by decide +kernel
theorem dX5_readCommand_73 : decode cX5_readCommand 73 = .ok (.ireturn, 1) := by decide +kernel
theorem dX5_readCommand_74 : decode cX5_readCommand 74 = .ok (.iconst 0, 1) := by decide +kernel
theorem dX5_readCommand_75 : decode cX5_readCommand 75 = .ok (.istore_n 3, 1) := by decide +kernel
theorem dX5_readCommand_76 : decode cX5_readCommand 76 = .ok (.iload_n 3, 1) := by decide +kernel
theorem dX5_readCommand_77 : decode cX5_readCommand 77 = .ok (.getstatic 43, 3) := by decide +kernel
theorem dX5_readCommand_80 : decode cX5_readCommand 80 = .ok (.iload_n 2, 1) := by decide +kernel
theorem dX5_readCommand_81 : decode cX5_readCommand 81 = .ok (.iaload, 1) := by decide +kernel
theorem dX5_readCommand_82 : decode cX5_readCommand 82 = .ok (.if_icmp .ge 29, 3) := by decide +kernel
theorem dX5_readCommand_85 : decode cX5_readCommand 85 = .ok (.aload_n 0, 1) := by decide +kernel
theorem dX5_readCommand_86 : decode cX5_readCommand 86 = .ok (.aload_n 0, 1) := by decide +kernel
theorem dX5_readCommand_87 : decode cX5_readCommand 87 = .ok (.getfield 15, 3) := by decide +kernel
theorem dX5_readCommand_90 : decode cX5_readCommand 90 = .ok (.iconst 4, 1) := by decide +kernel
theorem dX5_readCommand_91 : decode cX5_readCommand 91 = .ok (.imul, 1) := by decide +kernel
theorem dX5_readCommand_92 : decode cX5_readCommand 92 = .ok (.iload_n 3, 1) := by decide +kernel
theorem dX5_readCommand_93 : decode cX5_readCommand 93 = .ok (.iadd, 1) := by decide +kernel
theorem dX5_readCommand_94 : decode cX5_readCommand 94 = .ok (.invokevirtual 46, 3) := by decide +kernel
theorem dX5_readCommand_97 : decode cX5_readCommand 97 = .ok (.ifCond .ne 8, 3) := by decide +kernel
theorem dX5_readCommand_100 : decode cX5_readCommand 100 = .ok (.aload_n 0, 1) := by decide +kernel
theorem dX5_readCommand_101 : decode cX5_readCommand 101 = .ok (.getfield 29, 3) := by decide +kernel
theorem dX5_readCommand_104 : decode cX5_readCommand 104 = .ok (.ireturn, 1) := by decide +kernel
theorem dX5_readCommand_105 : decode cX5_readCommand 105 = .ok (.iinc 3 1, 3) := by decide +kernel
theorem dX5_readCommand_108 : decode cX5_readCommand 108 = .ok (.goto (-32), 3) := by decide +kernel
theorem dX5_readCommand_111 : decode cX5_readCommand 111 = .ok (.aload_n 0, 1) := by decide +kernel
theorem dX5_readCommand_112 : decode cX5_readCommand 112 = .ok (.invokevirtual 32, 3) := by decide +kernel
theorem dX5_readCommand_115 : decode cX5_readCommand 115 = .ok (.aload_n 0, 1) := by decide +kernel
theorem dX5_readCommand_116 : decode cX5_readCommand 116 = .ok (.invokevirtual 50, 3) := by decide +kernel
theorem dX5_readCommand_119 : decode cX5_readCommand 119 = .ok (.bipush 59, 2) := by decide +kernel
theorem dX5_readCommand_121 : decode cX5_readCommand 121 = .ok (.if_icmp .eq 8, 3) := by decide +kernel
theorem dX5_readCommand_124 : decode cX5_readCommand 124 = .ok (.aload_n 0, 1) := by decide +kernel
theorem dX5_readCommand_125 : decode cX5_readCommand 125 = .ok (.getfield 29, 3) := by decide +kernel
theorem dX5_readCommand_128 : decode cX5_readCommand 128 = .ok (.ireturn, 1) := by decide +kernel
theorem dX5_readCommand_129 : decode cX5_readCommand 129 = .ok (.aload_n 0, 1) := by decide +kernel
theorem dX5_readCommand_130 : decode cX5_readCommand 130 = .ok (.dup, 1) := by decide +kernel
theorem dX5_readCommand_131 : decode cX5_readCommand 131 = .ok (.getfield 29, 3) := by decide +kernel
theorem dX5_readCommand_134 : decode cX5_readCommand 134 = .ok (.iconst 1, 1) := by decide +kernel
theorem dX5_readCommand_135 : decode cX5_readCommand 135 = .ok (.iadd, 1) := by decide +kernel
theorem dX5_readCommand_136 : decode cX5_readCommand 136 = .ok (.putfield 29, 3) := by decide +kernel
theorem dX5_readCommand_139 : decode cX5_readCommand 139 = .ok (.aload_n 0, 1) := by decide +kernel
theorem dX5_readCommand_140 : decode cX5_readCommand 140 = .ok (.getfield 22, 3) := by decide +kernel
theorem dX5_readCommand_143 : decode cX5_readCommand 143 = .ok (.aload_n 0, 1) := by decide +kernel
theorem dX5_readCommand_144 : decode cX5_readCommand 144 = .ok (.getfield 15, 3) := by decide +kernel
theorem dX5_readCommand_147 : decode cX5_readCommand 147 = .ok (.iload_n 2, 1) := by decide +kernel
theorem dX5_readCommand_148 : decode cX5_readCommand 148 = .ok (.iastore, 1) := by decide +kernel
theorem dX5_readCommand_149 : decode cX5_readCommand 149 = .ok (.aload_n 0, 1) := by decide +kernel
theorem dX5_readCommand_150 : decode cX5_readCommand 150 = .ok (.dup, 1) := by decide +kernel
theorem dX5_readCommand_151 : decode cX5_readCommand 151 = .ok (.getfield 15, 3) := by decide +kernel
theorem dX5_readCommand_154 : decode cX5_readCommand 154 = .ok (.iconst 1, 1) := by decide +kernel
theorem dX5_readCommand_155 : decode cX5_readCommand 155 = .ok (.iadd, 1) := by decide +kernel
theorem dX5_readCommand_156 : decode cX5_readCommand 156 = .ok (.putfield 15, 3) := by decide +kernel
theorem dX5_readCommand_159 : decode cX5_readCommand 159 = .ok (.iconst (-1), 1) := by decide +kernel
theorem dX5_readCommand_160 : decode cX5_readCommand 160 = .ok (.ireturn, 1) := by decide +kernel
set_option maxRecDepth 20000 in
theorem ggX5_readNumber_X5_here : GoodIn wsX5_readNumber wsX5_here := goodIn_r _ [7, 1, 8, 9, 18, 19, 20, 21, 22, 23] (by decide +kernel) (by decide +kernel)
set_option maxRecDepth 20000 in
theorem gX5_readNumber_X5_here : GoodIn wsX5_readNumber (wsV RX5 50 RX5 yX5_here wsX5_here) := goodIn_app (goodIn_of _ (by decide +kernel)) ggX5_readNumber_X5_here
set_option maxRecDepth 20000 in
theorem ggX5_readNumber_X5_skipSpaces : GoodIn wsX5_readNumber wsX5_skipSpaces := goodIn_r _ [13, 1, 8, 9, 18, 19, 20, 21, 22, 23] (by decide +kernel) (by decide +kernel)
set_option maxRecDepth 20000 in
theorem gX5_readNumber_X5_skipSpaces : GoodIn wsX5_readNumber (wsV RX5 32 RX5 yX5_skipSpaces wsX5_skipSpaces) := goodIn_app (goodIn_of _ (by decide +kernel)) ggX5_readNumber_X5_skipSpaces
set_option maxRecDepth 20000 in
theorem ggX5_readNumber_X5_atDigit : GoodIn wsX5_readNumber wsX5_atDigit := goodIn_r _ [17, 3, 4, 5, 6, 7, 1, 8, 9, 18, 19, 20, 21, 22, 23] (by decide +kernel) (by decide +kernel)
set_option maxRecDepth 20000 in
theorem gX5_readNumber_X5_atDigit : GoodIn wsX5_readNumber (wsV RX5 53 RX5 yX5_atDigit wsX5_atDigit) := goodIn_app (goodIn_of _ (by decide +kernel)) ggX5_readNumber_X5_atDigit
theorem dX5_readNumber_0 : decode cX5_readNumber 0 = .ok (.aload_n 0, 1) := by decide +kernel
theorem dX5_readNumber_1 : decode cX5_readNumber 1 = .ok (.invokevirtual 50, 3) := by decide +kernel
theorem dX5_readNumber_4 : decode cX5_readNumber 4 = .ok (.bipush 32, 2) := by decide +kernel
theorem dX5_readNumber_6 : decode cX5_readNumber 6 = .ok (.if_icmp .eq 5, 3) := by decide +kernel
theorem dX5_readNumber_9 : decode cX5_readNumber 9 = .ok (.iconst 0, 1) := by decide +kernel
theorem dX5_readNumber_10 : decode cX5_readNumber 10 = .ok (.ireturn, 1) := by decide +kernel
theorem dX5_readNumber_11 : decode cX5_readNumber 11 = .ok (.aload_n 0, 1) := by decide +kernel
theorem dX5_readNumber_12 : decode cX5_readNumber 12 = .ok (.invokevirtual 32, 3) := by decide +kernel
theorem dX5_readNumber_15 : decode cX5_readNumber 15 = .ok (.aload_n 0, 1) := by decide +kernel
theorem dX5_readNumber_16 : decode cX5_readNumber 16 = .ok (.invokevirtual 53, 3) := by decide +kernel
theorem dX5_readNumber_19 : decode cX5_readNumber 19 = .ok (.ifCond .ne 5, 3) := by decide +kernel
theorem dX5_readNumber_22 : decode cX5_readNumber 22 = .ok (.iconst 0, 1) := by decide +kernel
theorem dX5_readNumber_23 : decode cX5_readNumber 23 = .ok (.ireturn, 1) := by decide +kernel
theorem dX5_readNumber_24 : decode cX5_readNumber 24 = .ok (.iconst 0, 1) := by decide +kernel
theorem dX5_readNumber_25 : decode cX5_readNumber 25 = .ok (.istore_n 2, 1) := by decide +kernel
theorem dX5_readNumber_26 : decode cX5_readNumber 26 = .ok (.iconst 0, 1) := by decide +kernel
theorem dX5_readNumber_27 : decode cX5_readNumber 27 = .ok (.istore_n 3, 1) := by decide +kernel
theorem dX5_readNumber_28 : decode cX5_readNumber 28 = .ok (.iload_n 3, 1) := by decide +kernel
theorem dX5_readNumber_29 : decode cX5_readNumber 29 = .ok (.bipush 6, 2) := by decide +kernel
theorem dX5_readNumber_31 : decode cX5_readNumber 31 = .ok (.if_icmp .ge 39, 3) := by decide +kernel
theorem dX5_readNumber_34 : decode cX5_readNumber 34 = .ok (.aload_n 0, 1) := by decide +kernel
theorem dX5_readNumber_35 : decode cX5_readNumber 35 = .ok (.invokevirtual 53, 3) := by decide +kernel
theorem dX5_readNumber_38 : decode cX5_readNumber 38 = .ok (.ifCond .eq 32, 3) := by decide +kernel
theorem dX5_readNumber_41 : decode cX5_readNumber 41 = .ok (.bipush 10, 2) := by decide +kernel
theorem dX5_readNumber_43 : decode cX5_readNumber 43 = .ok (.iload_n 2, 1) := by decide +kernel
theorem dX5_readNumber_44 : decode cX5_readNumber 44 = .ok (.imul, 1) := by decide +kernel
theorem dX5_readNumber_45 : decode cX5_readNumber 45 = .ok (.aload_n 0, 1) := by decide +kernel
theorem dX5_readNumber_46 : decode cX5_readNumber 46 = .ok (.invokevirtual 50, 3) := by decide +kernel
theorem dX5_readNumber_49 : decode cX5_readNumber 49 = .ok (.iadd, 1) := by decide +kernel
theorem dX5_readNumber_50 : decode cX5_readNumber 50 = .ok (.bipush 48, 2) := by decide +kernel
theorem dX5_readNumber_52 : decode cX5_readNumber 52 = .ok (.isub, 1) := by decide +kernel
theorem dX5_readNumber_53 : decode cX5_readNumber 53 = .ok (.istore_n 2, 1) := by decide +kernel
theorem dX5_readNumber_54 : decode cX5_readNumber 54 = .ok (.aload_n 0, 1) := by decide +kernel
theorem dX5_readNumber_55 : decode cX5_readNumber 55 = .ok (.dup, 1) := by decide +kernel
theorem dX5_readNumber_56 : decode cX5_readNumber 56 = .ok (.getfield 29, 3) := by decide +kernel
theorem dX5_readNumber_59 : decode cX5_readNumber 59 = .ok (.iconst 1, 1) := by decide +kernel
theorem dX5_readNumber_60 : decode cX5_readNumber 60 = .ok (.iadd, 1) := by decide +kernel
theorem dX5_readNumber_61 : decode cX5_readNumber 61 = .ok (.putfield 29, 3) := by decide +kernel
theorem dX5_readNumber_64 : decode cX5_readNumber 64 = .ok (.iinc 3 1, 3) := by decide +kernel
theorem dX5_readNumber_67 : decode cX5_readNumber 67 = .ok (.goto (-39), 3) := by decide +kernel
theorem dX5_readNumber_70 : decode cX5_readNumber 70 = .ok (.aload_n 0, 1) := by decide +kernel
theorem dX5_readNumber_71 : decode cX5_readNumber 71 = .ok (.getfield 26, 3) := by decide +kernel
theorem dX5_readNumber_74 : decode cX5_readNumber 74 = .ok (.iload_n 1, 1) := by decide +kernel
theorem dX5_readNumber_75 : decode cX5_readNumber 75 = .ok (.iload_n 2, 1) := by decide +kernel
theorem dX5_readNumber_76 : decode cX5_readNumber 76 = .ok (.iastore, 1) := by decide +kernel
theorem dX5_readNumber_77 : decode cX5_readNumber 77 = .ok (.aload_n 0, 1) := by decide +kernel
theorem dX5_readNumber_78 : decode cX5_readNumber 78 = .ok (.invokevirtual 53, 3) := by decide +kernel
theorem dX5_readNumber_81 : decode cX5_readNumber 81 = .ok (.ifCond .ne 7, 3) := by decide +kernel
theorem dX5_readNumber_84 : decode cX5_readNumber 84 = .ok (.iconst 1, 1) := by decide +kernel
theorem dX5_readNumber_85 : decode cX5_readNumber 85 = .ok (.goto 4, 3) := by decide +kernel
theorem dX5_readNumber_88 : decode cX5_readNumber 88 = .ok (.iconst 0, 1) := by decide +kernel
theorem dX5_readNumber_89 : decode cX5_readNumber 89 = .ok (.ireturn, 1) := by decide +kernel
theorem dX5_here_0 : decode cX5_here 0 = .ok (.aload_n 0, 1) := by decide +kernel
theorem dX5_here_1 : decode cX5_here 1 = .ok (.getfield 29, 3) := by decide +kernel
theorem dX5_here_4 : decode cX5_here 4 = .ok (.aload_n 0, 1) := by decide +kernel
theorem dX5_here_5 : decode cX5_here 5 = .ok (.getfield 9, 3) := by decide +kernel
theorem dX5_here_8 : decode cX5_here 8 = .ok (.if_icmp .ge 15, 3) := by decide +kernel
theorem dX5_here_11 : decode cX5_here 11 = .ok (.aload_n 0, 1) := by decide +kernel
theorem dX5_here_12 : decode cX5_here 12 = .ok (.getfield 18, 3) := by decide +kernel
theorem dX5_here_15 : decode cX5_here 15 = .ok (.aload_n 0, 1) := by decide +kernel
theorem dX5_here_16 : decode cX5_here 16 = .ok (.getfield 29, 3) := by decide +kernel
theorem dX5_here_19 : decode cX5_here 19 = .ok (.baload, 1) := by decide +kernel
theorem dX5_here_20 : decode cX5_here 20 = .ok (.goto 4, 3) := by decide +kernel
theorem dX5_here_23 : decode cX5_here 23 = .ok (.iconst (-1), 1) := by decide +kernel
theorem dX5_here_24 : decode cX5_here 24 = .ok (.ireturn, 1) := by decide +kernel
set_option maxRecDepth 20000 in
theorem ggX5_atDigit_X5_here : GoodIn wsX5_atDigit wsX5_here := goodIn_r _ [5, 6, 7, 8, 9, 10, 11, 12, 13, 14] (by decide +kernel) (by decide +kernel)
set_option maxRecDepth 20000 in
theorem gX5_atDigit_X5_here : GoodIn wsX5_atDigit (wsV RX5 50 RX5 yX5_here wsX5_here) := goodIn_app (goodIn_of _ (by decide +kernel)) ggX5_atDigit_X5_here
theorem dX5_atDigit_0 : decode cX5_atDigit 0 = .ok (.aload_n 0, 1) := by decide +kernel
theorem dX5_atDigit_1 : decode cX5_atDigit 1 = .ok (.invokevirtual 50, 3) := by decide +kernel
theorem dX5_atDigit_4 : decode cX5_atDigit 4 = .ok (.bipush 48, 2) := by decide +kernel
theorem dX5_atDigit_6 : decode cX5_atDigit 6 = .ok (.if_icmp .lt 16, 3) := by decide +kernel
theorem dX5_atDigit_9 : decode cX5_atDigit 9 = .ok (.aload_n 0, 1) := by decide +kernel
theorem dX5_atDigit_10 : decode cX5_atDigit 10 = .ok (.invokevirtual 50, 3) := by decide +kernel
theorem dX5_atDigit_13 : decode cX5_atDigit 13 = .ok (.bipush 57, 2) := by decide +kernel
theorem dX5_atDigit_15 : decode cX5_atDigit 15 = .ok (.if_icmp .gt 7, 3) := by decide +kernel
theorem dX5_atDigit_18 : decode cX5_atDigit 18 = .ok (.iconst 1, 1) := by decide +kernel
theorem dX5_atDigit_19 : decode cX5_atDigit 19 = .ok (.goto 4, 3) := by decide +kernel
theorem dX5_atDigit_22 : decode cX5_atDigit 22 = .ok (.iconst 0, 1) := by decide +kernel
theorem dX5_atDigit_23 : decode cX5_atDigit 23 = .ok (.ireturn, 1) := by decide +kernel
theorem dX5_skipSpaces_0 : decode cX5_skipSpaces 0 = .ok (.aload_n 0, 1) := by decide +kernel
theorem dX5_skipSpaces_1 : decode cX5_skipSpaces 1 = .ok (.getfield 29, 3) := by decide +kernel
theorem dX5_skipSpaces_4 : decode cX5_skipSpaces 4 = .ok (.aload_n 0, 1) := by decide +kernel
theorem dX5_skipSpaces_5 : decode cX5_skipSpaces 5 = .ok (.getfield 9, 3) := by decide +kernel
theorem dX5_skipSpaces_8 : decode cX5_skipSpaces 8 = .ok (.if_icmp .ge 30, 3) := by decide +kernel
theorem dX5_skipSpaces_11 : decode cX5_skipSpaces 11 = .ok (.aload_n 0, 1) := by decide +kernel
theorem dX5_skipSpaces_12 : decode cX5_skipSpaces 12 = .ok (.getfield 18, 3) := by decide +kernel
theorem dX5_skipSpaces_15 : decode cX5_skipSpaces 15 = .ok (.aload_n 0, 1) := by decide +kernel
theorem dX5_skipSpaces_16 : decode cX5_skipSpaces 16 = .ok (.getfield 29, 3) := by decide +kernel
theorem dX5_skipSpaces_19 : decode cX5_skipSpaces 19 = .ok (.baload, 1) := by decide +kernel
theorem dX5_skipSpaces_20 : decode cX5_skipSpaces 20 = .ok (.bipush 32, 2) := by decide +kernel
theorem dX5_skipSpaces_22 : decode cX5_skipSpaces 22 = .ok (.if_icmp .ne 16, 3) := by decide +kernel
theorem dX5_skipSpaces_25 : decode cX5_skipSpaces 25 = .ok (.aload_n 0, 1) := by decide +kernel
theorem dX5_skipSpaces_26 : decode cX5_skipSpaces 26 = .ok (.dup, 1) := by decide +kernel
theorem dX5_skipSpaces_27 : decode cX5_skipSpaces 27 = .ok (.getfield 29, 3) := by decide +kernel
theorem dX5_skipSpaces_30 : decode cX5_skipSpaces 30 = .ok (.iconst 1, 1) := by decide +kernel
theorem dX5_skipSpaces_31 : decode cX5_skipSpaces 31 = .ok (.iadd, 1) := by decide +kernel
theorem dX5_skipSpaces_32 : decode cX5_skipSpaces 32 = .ok (.putfield 29, 3) := by decide +kernel
theorem dX5_skipSpaces_35 : decode cX5_skipSpaces 35 = .ok (.goto (-35), 3) := by decide +kernel
theorem dX5_skipSpaces_38 : decode cX5_skipSpaces 38 = .ok (.return_, 1) := by decide +kernel
set_option maxRecDepth 20000 in
theorem ggX5_kindOf_X5_isWord : GoodIn wsX5_kindOf wsX5_isWord := goodIn_r _ [5, 6, 7, 8, 9, 10, 11, 12, 13, 14, 15, 16, 17, 18, 19, 20, 21, 22, 23, 24, 25, 26, 27, 28, 29, 30, 31, 32, 33, 34, 35, 36, 37, 38, 39, 40, 41, 42, 43, 44, 45, 46, 47, 48, 49, 50, 51, 52, 53, 54, 55, 56, 57, 58, 59, 60, 61] (by decide +kernel) (by decide +kernel)
set_option maxRecDepth 20000 in
theorem gX5_kindOf_X5_isWord : GoodIn wsX5_kindOf (wsV RX5 59 RX5 yX5_isWord wsX5_isWord) := goodIn_app (goodIn_of _ (by decide +kernel)) ggX5_kindOf_X5_isWord
theorem dX5_kindOf_0 : decode cX5_kindOf 0 = .ok (.aload_n 0, 1) := by decide +kernel
theorem dX5_kindOf_1 : decode cX5_kindOf 1 = .ok (.ldc 57, 2) := by decide +kernel
theorem dX5_kindOf_3 : decode cX5_kindOf 3 = .ok (.iload_n 1, 1) := by decide +kernel
theorem dX5_kindOf_4 : decode cX5_kindOf 4 = .ok (.iload_n 2, 1) := by decide +kernel
theorem dX5_kindOf_5 : decode cX5_kindOf 5 = .ok (.invokevirtual 59, 3) := by decide +kernel
theorem dX5_kindOf_8 : decode cX5_kindOf 8 = .ok (.ifCond .eq 5, 3) := by decide +kernel
theorem dX5_kindOf_11 : decode cX5_kindOf 11 = .ok (.iconst 0, 1) := by decide +kernel
theorem dX5_kindOf_12 : decode cX5_kindOf 12 = .ok (.ireturn, 1) := by decide +kernel
theorem dX5_kindOf_13 : decode cX5_kindOf 13 = .ok (.aload_n 0, 1) := by decide +kernel
theorem dX5_kindOf_14 : decode cX5_kindOf 14 = .ok (.ldc 63, 2) := by decide +kernel
theorem dX5_kindOf_16 : decode cX5_kindOf 16 = .ok (.iload_n 1, 1) := by decide +kernel
theorem dX5_kindOf_17 : decode cX5_kindOf 17 = .ok (.iload_n 2, 1) := by decide +kernel
theorem dX5_kindOf_18 : decode cX5_kindOf 18 = .ok (.invokevirtual 59, 3) := by decide +kernel
theorem dX5_kindOf_21 : decode cX5_kindOf 21 = .ok (.ifCond .eq 5, 3) := by decide +kernel
theorem dX5_kindOf_24 : decode cX5_kindOf 24 = .ok (.iconst 1, 1) := by decide +kernel
theorem dX5_kindOf_25 : decode cX5_kindOf 25 = .ok (.ireturn, 1) := by decide +kernel
theorem dX5_kindOf_26 : decode cX5_kindOf 26 = .ok (.aload_n 0, 1) := by decide +kernel
theorem dX5_kindOf_27 : decode cX5_kindOf 27 = .ok (.ldc 65, 2) := by decide +kernel
theorem dX5_kindOf_29 : decode cX5_kindOf 29 = .ok (.iload_n 1, 1) := by decide +kernel
theorem dX5_kindOf_30 : decode cX5_kindOf 30 = .ok (.iload_n 2, 1) := by decide +kernel
theorem dX5_kindOf_31 : decode cX5_kindOf 31 = .ok (.invokevirtual 59, 3) := by decide +kernel
theorem dX5_kindOf_34 : decode cX5_kindOf 34 = .ok (.ifCond .eq 5, 3) := by decide +kernel
theorem dX5_kindOf_37 : decode cX5_kindOf 37 = .ok (.iconst 2, 1) := by decide +kernel
theorem dX5_kindOf_38 : decode cX5_kindOf 38 = .ok (.ireturn, 1) := by decide +kernel
theorem dX5_kindOf_39 : decode cX5_kindOf 39 = .ok (.aload_n 0, 1) := by decide +kernel
theorem dX5_kindOf_40 : decode cX5_kindOf 40 = .ok (.ldc 67, 2) := by decide +kernel
theorem dX5_kindOf_42 : decode cX5_kindOf 42 = .ok (.iload_n 1, 1) := by decide +kernel
theorem dX5_kindOf_43 : decode cX5_kindOf 43 = .ok (.iload_n 2, 1) := by decide +kernel
theorem dX5_kindOf_44 : decode cX5_kindOf 44 = .ok (.invokevirtual 59, 3) := by decide +kernel
theorem dX5_kindOf_47 : decode cX5_kindOf 47 = .ok (.ifCond .eq 5, 3) := by decide +kernel
theorem dX5_kindOf_50 : decode cX5_kindOf 50 = .ok (.iconst 3, 1) := by decide +kernel
theorem dX5_kindOf_51 : decode cX5_kindOf 51 = .ok (.ireturn, 1) := by decide +kernel
theorem dX5_kindOf_52 : decode cX5_kindOf 52 = .ok (.aload_n 0, 1) := by decide +kernel
theorem dX5_kindOf_53 : decode cX5_kindOf 53 = .ok (.ldc 69, 2) := by decide +kernel
theorem dX5_kindOf_55 : decode cX5_kindOf 55 = .ok (.iload_n 1, 1) := by decide +kernel
theorem dX5_kindOf_56 : decode cX5_kindOf 56 = .ok (.iload_n 2, 1) := by decide +kernel
theorem dX5_kindOf_57 : decode cX5_kindOf 57 = .ok (.invokevirtual 59, 3) := by decide +kernel
theorem dX5_kindOf_60 : decode cX5_kindOf 60 = .ok (.ifCond .eq 5, 3) := by decide +kernel
theorem dX5_kindOf_63 : decode cX5_kindOf 63 = .ok (.iconst 4, 1) := by decide +kernel
theorem dX5_kindOf_64 : decode cX5_kindOf 64 = .ok (.ireturn, 1) := by decide +kernel
theorem dX5_kindOf_65 : decode cX5_kindOf 65 = .ok (.aload_n 0, 1) := by decide +kernel
theorem dX5_kindOf_66 : decode cX5_kindOf 66 = .ok (.ldc 71, 2) := by decide +kernel
theorem dX5_kindOf_68 : decode cX5_kindOf 68 = .ok (.iload_n 1, 1) := by decide +kernel
theorem dX5_kindOf_69 : decode cX5_kindOf 69 = .ok (.iload_n 2, 1) := by decide +kernel
theorem dX5_kindOf_70 : decode cX5_kindOf 70 = .ok (.invokevirtual 59, 3) := by decide +kernel
theorem dX5_kindOf_73 : decode cX5_kindOf 73 = .ok (.ifCond .eq 5, 3) := by decide +kernel
theorem dX5_kindOf_76 : decode cX5_kindOf 76 = .ok (.iconst 5, 1) := by decide +kernel
theorem dX5_kindOf_77 : decode cX5_kindOf 77 = .ok (.ireturn, 1) := by decide +kernel
theorem dX5_kindOf_78 : decode cX5_kindOf 78 = .ok (.aload_n 0, 1) := by decide +kernel
theorem dX5_kindOf_79 : decode cX5_kindOf 79 = .ok (.ldc 73, 2) := by decide +kernel
theorem dX5_kindOf_81 : decode cX5_kindOf 81 = .ok (.iload_n 1, 1) := by decide +kernel
theorem dX5_kindOf_82 : decode cX5_kindOf 82 = .ok (.iload_n 2, 1) := by decide +kernel
theorem dX5_kindOf_83 : decode cX5_kindOf 83 = .ok (.invokevirtual 59, 3) := by decide +kernel
theorem dX5_kindOf_86 : decode cX5_kindOf 86 = .ok (.ifCond .eq 8, 3) := by decide +kernel
theorem dX5_kindOf_89 : decode cX5_kindOf 89 = .ok (.bipush 6, 2) := by decide +kernel
theorem dX5_kindOf_91 : decode cX5_kindOf 91 = .ok (.goto 4, 3) := by decide +kernel
theorem dX5_kindOf_94 : decode cX5_kindOf 94 = .ok (.iconst (-1), 1) := by decide +kernel
theorem dX5_kindOf_95 : decode cX5_kindOf 95 = .ok (.ireturn, 1) := by decide +kernel
set_option maxRecDepth 20000 in
theorem ggX5_isWord_J0_length_8abf5 : GoodIn wsX5_isWord wsJ0_length_8abf5 := goodIn_r _ [6, 7, 8, 9, 10, 5, 11, 12, 13] (by decide +kernel) (by decide +kernel)
set_option maxRecDepth 20000 in
theorem gX5_isWord_J0_length_8abf5 : GoodIn wsX5_isWord (wsV RX5 75 RJ0 yJ0_length_8abf5 wsJ0_length_8abf5) := goodIn_app (goodIn_of _ (by decide +kernel)) ggX5_isWord_J0_length_8abf5
set_option maxRecDepth 20000 in
theorem ggX5_isWord_J0_charAt_5068e : GoodIn wsX5_isWord wsJ0_charAt_5068e := goodIn_r _ [17, 7, 18, 19, 20, 5, 21, 12, 13, 22, 23, 24, 25, 26, 27, 28, 29, 30, 31, 32, 33, 34, 35, 36, 37, 38, 39, 40, 41, 42, 43, 44, 45, 46, 47, 48, 49, 50] (by decide +kernel) (by decide +kernel)
set_option maxRecDepth 20000 in
theorem gX5_isWord_J0_charAt_5068e : GoodIn wsX5_isWord (wsV RX5 79 RJ0 yJ0_charAt_5068e wsJ0_charAt_5068e) := goodIn_app (goodIn_of _ (by decide +kernel)) ggX5_isWord_J0_charAt_5068e
theorem dX5_isWord_0 : decode cX5_isWord 0 = .ok (.aload_n 1, 1) := by decide +kernel
theorem dX5_isWord_1 : decode cX5_isWord 1 = .ok (.invokevirtual 75, 3) := by decide +kernel
theorem dX5_isWord_4 : decode cX5_isWord 4 = .ok (.iload_n 3, 1) := by decide +kernel
theorem dX5_isWord_5 : decode cX5_isWord 5 = .ok (.iload_n 2, 1) := by decide +kernel
theorem dX5_isWord_6 : decode cX5_isWord 6 = .ok (.isub, 1) := by decide +kernel
theorem dX5_isWord_7 : decode cX5_isWord 7 = .ok (.if_icmp .eq 5, 3) := by decide +kernel
theorem dX5_isWord_10 : decode cX5_isWord 10 = .ok (.iconst 0, 1) := by decide +kernel
theorem dX5_isWord_11 : decode cX5_isWord 11 = .ok (.ireturn, 1) := by decide +kernel
theorem dX5_isWord_12 : decode cX5_isWord 12 = .ok (.iconst 0, 1) := by decide +kernel
theorem dX5_isWord_13 : decode cX5_isWord 13 = .ok (.istore 4, 2) := by decide +kernel
theorem dX5_isWord_15 : decode cX5_isWord 15 = .ok (.iload 4, 2) := by decide +kernel
theorem dX5_isWord_17 : decode cX5_isWord 17 = .ok (.aload_n 1, 1) := by decide +kernel
theorem dX5_isWord_18 : decode cX5_isWord 18 = .ok (.invokevirtual 75, 3) := by decide +kernel
theorem dX5_isWord_21 : decode cX5_isWord 21 = .ok (.if_icmp .ge 29, 3) := by decide +kernel
theorem dX5_isWord_24 : decode cX5_isWord 24 = .ok (.aload_n 1, 1) := by decide +kernel
theorem dX5_isWord_25 : decode cX5_isWord 25 = .ok (.iload 4, 2) := by decide +kernel
theorem dX5_isWord_27 : decode cX5_isWord 27 = .ok (.invokevirtual 79, 3) := by decide +kernel
theorem dX5_isWord_30 : decode cX5_isWord 30 = .ok (.aload_n 0, 1) := by decide +kernel
theorem dX5_isWord_31 : decode cX5_isWord 31 = .ok (.getfield 18, 3) := by decide +kernel
theorem dX5_isWord_34 : decode cX5_isWord 34 = .ok (.iload_n 2, 1) := by decide +kernel
theorem dX5_isWord_35 : decode cX5_isWord 35 = .ok (.iload 4, 2) := by decide +kernel
theorem dX5_isWord_37 : decode cX5_isWord 37 = .ok (.iadd, 1) := by decide +kernel
theorem dX5_isWord_38 : decode cX5_isWord 38 = .ok (.baload, 1) := by decide +kernel
theorem dX5_isWord_39 : decode cX5_isWord 39 = .ok (.if_icmp .eq 5, 3) := by decide +kernel
theorem dX5_isWord_42 : decode cX5_isWord 42 = .ok (.iconst 0, 1) := by decide +kernel
theorem dX5_isWord_43 : decode cX5_isWord 43 = .ok (.ireturn, 1) := by decide +kernel
theorem dX5_isWord_44 : decode cX5_isWord 44 = .ok (.iinc 4 1, 3) := by decide +kernel
theorem dX5_isWord_47 : decode cX5_isWord 47 = .ok (.goto (-32), 3) := by decide +kernel
theorem dX5_isWord_50 : decode cX5_isWord 50 = .ok (.iconst 1, 1) := by decide +kernel
theorem dX5_isWord_51 : decode cX5_isWord 51 = .ok (.ireturn, 1) := by decide +kernel
set_option maxRecDepth 20000 in
theorem ggX5_faultOf_X4_faultOfNewTrail : GoodIn wsX5_faultOf wsX4_faultOfNewTrail := goodIn_r _ [7, 8, 56, 57, 58, 59, 60, 61, 62, 63, 64, 65, 66, 67] (by decide +kernel) (by decide +kernel)
set_option maxRecDepth 20000 in
theorem gX5_faultOf_X4_faultOfNewTrail : GoodIn wsX5_faultOf (wsV RX5 83 RX4 yX4_faultOfNewTrail wsX4_faultOfNewTrail) := goodIn_app (goodIn_of _ (by decide +kernel)) ggX5_faultOf_X4_faultOfNewTrail
set_option maxRecDepth 20000 in
theorem ggX5_faultOf_X4_faultOfNewPoint : GoodIn wsX5_faultOf wsX4_faultOfNewPoint := goodIn_r _ [12, 13, 14, 15, 16, 6, 17, 8, 18, 19, 20, 21, 22, 23, 24, 25, 26, 27, 28, 56, 57, 58, 59, 60, 61, 62, 63, 64, 65, 66, 67] (by decide +kernel) (by decide +kernel)
set_option maxRecDepth 20000 in
theorem gX5_faultOf_X4_faultOfNewPoint : GoodIn wsX5_faultOf (wsV RX5 88 RX4 yX4_faultOfNewPoint wsX4_faultOfNewPoint) := goodIn_app (goodIn_of _ (by decide +kernel)) ggX5_faultOf_X4_faultOfNewPoint
set_option maxRecDepth 20000 in
theorem ggX5_faultOf_X4_faultOfNewStar : GoodIn wsX5_faultOf wsX4_faultOfNewStar := goodIn_r _ [32, 33, 34, 35, 18, 19, 20, 56, 57, 58, 59, 60, 61, 62, 63, 64, 65, 66, 67] (by decide +kernel) (by decide +kernel)
set_option maxRecDepth 20000 in
theorem gX5_faultOf_X4_faultOfNewStar : GoodIn wsX5_faultOf (wsV RX5 92 RX4 yX4_faultOfNewStar wsX4_faultOfNewStar) := goodIn_app (goodIn_of _ (by decide +kernel)) ggX5_faultOf_X4_faultOfNewStar
set_option maxRecDepth 20000 in
theorem ggX5_faultOf_X4_faultOfPole : GoodIn wsX5_faultOf wsX4_faultOfPole := goodIn_r _ [38, 39, 40, 6, 41, 18, 19, 20] (by decide +kernel) (by decide +kernel)
set_option maxRecDepth 20000 in
theorem gX5_faultOf_X4_faultOfPole : GoodIn wsX5_faultOf (va_wsS RX5 96 yX4_faultOfPole wsX4_faultOfPole) := goodIn_app (goodIn_of _ (by decide +kernel)) ggX5_faultOf_X4_faultOfPole
set_option maxRecDepth 20000 in
theorem ggX5_faultOf_X4_faultOfSetting : GoodIn wsX5_faultOf wsX4_faultOfSetting := goodIn_r _ [44, 45, 46, 18, 19, 20] (by decide +kernel) (by decide +kernel)
set_option maxRecDepth 20000 in
theorem gX5_faultOf_X4_faultOfSetting : GoodIn wsX5_faultOf (va_wsS RX5 99 yX4_faultOfSetting wsX4_faultOfSetting) := goodIn_app (goodIn_of _ (by decide +kernel)) ggX5_faultOf_X4_faultOfSetting
set_option maxRecDepth 20000 in
theorem ggX5_faultOf_X4_faultOfStep : GoodIn wsX5_faultOf wsX4_faultOfStep := goodIn_r _ [49, 18, 19, 20] (by decide +kernel) (by decide +kernel)
set_option maxRecDepth 20000 in
theorem gX5_faultOf_X4_faultOfStep : GoodIn wsX5_faultOf (va_wsS RX5 102 yX4_faultOfStep wsX4_faultOfStep) := goodIn_app (goodIn_of _ (by decide +kernel)) ggX5_faultOf_X4_faultOfStep
theorem dX5_faultOf_0 : decode cX5_faultOf 0 = .ok (.iload_n 1, 1) := by decide +kernel
theorem dX5_faultOf_1 : decode cX5_faultOf 1 = .ok (.iconst 4, 1) := by decide +kernel
theorem dX5_faultOf_2 : decode cX5_faultOf 2 = .ok (.imul, 1) := by decide +kernel
theorem dX5_faultOf_3 : decode cX5_faultOf 3 = .ok (.istore_n 3, 1) := by decide +kernel
theorem dX5_faultOf_4 : decode cX5_faultOf 4 = .ok (.aload_n 0, 1) := by decide +kernel
theorem dX5_faultOf_5 : decode cX5_faultOf 5 = .ok (.getfield 22, 3) := by decide +kernel
theorem dX5_faultOf_8 : decode cX5_faultOf 8 = .ok (.iload_n 1, 1) := by decide +kernel
theorem dX5_faultOf_9 : decode cX5_faultOf 9 = .ok (.iaload, 1) := by decide +kernel
theorem dX5_faultOf_10 : decode cX5_faultOf 10 = .ok (.tableswitch 153 0 5 #[38, 43, 78, 105, 123, 141], 38) := by decide +kernel
theorem dX5_faultOf_48 : decode cX5_faultOf 48 = .ok (.aload_n 2, 1) := by decide +kernel
theorem dX5_faultOf_49 : decode cX5_faultOf 49 = .ok (.invokevirtual 83, 3) := by decide +kernel
theorem dX5_faultOf_52 : decode cX5_faultOf 52 = .ok (.ireturn, 1) := by decide +kernel
theorem dX5_faultOf_53 : decode cX5_faultOf 53 = .ok (.aload_n 2, 1) := by decide +kernel
theorem dX5_faultOf_54 : decode cX5_faultOf 54 = .ok (.aload_n 0, 1) := by decide +kernel
theorem dX5_faultOf_55 : decode cX5_faultOf 55 = .ok (.getfield 26, 3) := by decide +kernel
theorem dX5_faultOf_58 : decode cX5_faultOf 58 = .ok (.iload_n 3, 1) := by decide +kernel
theorem dX5_faultOf_59 : decode cX5_faultOf 59 = .ok (.iaload, 1) := by decide +kernel
theorem dX5_faultOf_60 : decode cX5_faultOf 60 = .ok (.aload_n 0, 1) := by decide +kernel
theorem dX5_faultOf_61 : decode cX5_faultOf 61 = .ok (.getfield 26, 3) := by decide +kernel
theorem dX5_faultOf_64 : decode cX5_faultOf 64 = .ok (.iload_n 3, 1) := by decide +kernel
theorem dX5_faultOf_65 : decode cX5_faultOf 65 = .ok (.iconst 1, 1) := by decide +kernel
theorem dX5_faultOf_66 : decode cX5_faultOf 66 = .ok (.iadd, 1) := by decide +kernel
theorem dX5_faultOf_67 : decode cX5_faultOf 67 = .ok (.iaload, 1) := by decide +kernel
theorem dX5_faultOf_68 : decode cX5_faultOf 68 = .ok (.aload_n 0, 1) := by decide +kernel
theorem dX5_faultOf_69 : decode cX5_faultOf 69 = .ok (.getfield 26, 3) := by decide +kernel
theorem dX5_faultOf_72 : decode cX5_faultOf 72 = .ok (.iload_n 3, 1) := by decide +kernel
theorem dX5_faultOf_73 : decode cX5_faultOf 73 = .ok (.iconst 2, 1) := by decide +kernel
theorem dX5_faultOf_74 : decode cX5_faultOf 74 = .ok (.iadd, 1) := by decide +kernel
theorem dX5_faultOf_75 : decode cX5_faultOf 75 = .ok (.iaload, 1) := by decide +kernel
theorem dX5_faultOf_76 : decode cX5_faultOf 76 = .ok (.aload_n 0, 1) := by decide +kernel
theorem dX5_faultOf_77 : decode cX5_faultOf 77 = .ok (.getfield 26, 3) := by decide +kernel
theorem dX5_faultOf_80 : decode cX5_faultOf 80 = .ok (.iload_n 3, 1) := by decide +kernel
theorem dX5_faultOf_81 : decode cX5_faultOf 81 = .ok (.iconst 3, 1) := by decide +kernel
theorem dX5_faultOf_82 : decode cX5_faultOf 82 = .ok (.iadd, 1) := by decide +kernel
theorem dX5_faultOf_83 : decode cX5_faultOf 83 = .ok (.iaload, 1) := by decide +kernel
theorem dX5_faultOf_84 : decode cX5_faultOf 84 = .ok (.invokevirtual 88, 3) := by decide +kernel
theorem dX5_faultOf_87 : decode cX5_faultOf 87 = .ok (.ireturn, 1) := by decide +kernel
theorem dX5_faultOf_88 : decode cX5_faultOf 88 = .ok (.aload_n 2, 1) := by decide +kernel
theorem dX5_faultOf_89 : decode cX5_faultOf 89 = .ok (.aload_n 0, 1) := by decide +kernel
theorem dX5_faultOf_90 : decode cX5_faultOf 90 = .ok (.getfield 26, 3) := by decide +kernel
theorem dX5_faultOf_93 : decode cX5_faultOf 93 = .ok (.iload_n 3, 1) := by decide +kernel
theorem dX5_faultOf_94 : decode cX5_faultOf 94 = .ok (.iaload, 1) := by decide +kernel
theorem dX5_faultOf_95 : decode cX5_faultOf 95 = .ok (.aload_n 0, 1) := by decide +kernel
theorem dX5_faultOf_96 : decode cX5_faultOf 96 = .ok (.getfield 26, 3) := by decide +kernel
theorem dX5_faultOf_99 : decode cX5_faultOf 99 = .ok (.iload_n 3, 1) := by decide +kernel
theorem dX5_faultOf_100 : decode cX5_faultOf 100 = .ok (.iconst 1, 1) := by decide +kernel
theorem dX5_faultOf_101 : decode cX5_faultOf 101 = .ok (.iadd, 1) := by decide +kernel
theorem dX5_faultOf_102 : decode cX5_faultOf 102 = .ok (.iaload, 1) := by decide +kernel
theorem dX5_faultOf_103 : decode cX5_faultOf 103 = .ok (.aload_n 0, 1) := by decide +kernel
theorem dX5_faultOf_104 : decode cX5_faultOf 104 = .ok (.getfield 26, 3) := by decide +kernel
theorem dX5_faultOf_107 : decode cX5_faultOf 107 = .ok (.iload_n 3, 1) := by decide +kernel
theorem dX5_faultOf_108 : decode cX5_faultOf 108 = .ok (.iconst 2, 1) := by decide +kernel
theorem dX5_faultOf_109 : decode cX5_faultOf 109 = .ok (.iadd, 1) := by decide +kernel
theorem dX5_faultOf_110 : decode cX5_faultOf 110 = .ok (.iaload, 1) := by decide +kernel
theorem dX5_faultOf_111 : decode cX5_faultOf 111 = .ok (.invokevirtual 92, 3) := by decide +kernel
theorem dX5_faultOf_114 : decode cX5_faultOf 114 = .ok (.ireturn, 1) := by decide +kernel
theorem dX5_faultOf_115 : decode cX5_faultOf 115 = .ok (.aload_n 0, 1) := by decide +kernel
theorem dX5_faultOf_116 : decode cX5_faultOf 116 = .ok (.getfield 26, 3) := by decide +kernel
theorem dX5_faultOf_119 : decode cX5_faultOf 119 = .ok (.iload_n 3, 1) := by decide +kernel
theorem dX5_faultOf_120 : decode cX5_faultOf 120 = .ok (.iaload, 1) := by decide +kernel
theorem dX5_faultOf_121 : decode cX5_faultOf 121 = .ok (.aload_n 0, 1) := by decide +kernel
theorem dX5_faultOf_122 : decode cX5_faultOf 122 = .ok (.getfield 26, 3) := by decide +kernel
theorem dX5_faultOf_125 : decode cX5_faultOf 125 = .ok (.iload_n 3, 1) := by decide +kernel
theorem dX5_faultOf_126 : decode cX5_faultOf 126 = .ok (.iconst 1, 1) := by decide +kernel
theorem dX5_faultOf_127 : decode cX5_faultOf 127 = .ok (.iadd, 1) := by decide +kernel
theorem dX5_faultOf_128 : decode cX5_faultOf 128 = .ok (.iaload, 1) := by decide +kernel
theorem dX5_faultOf_129 : decode cX5_faultOf 129 = .ok (.invokestatic 96, 3) := by decide +kernel
theorem dX5_faultOf_132 : decode cX5_faultOf 132 = .ok (.ireturn, 1) := by decide +kernel
theorem dX5_faultOf_133 : decode cX5_faultOf 133 = .ok (.aload_n 0, 1) := by decide +kernel
theorem dX5_faultOf_134 : decode cX5_faultOf 134 = .ok (.getfield 26, 3) := by decide +kernel
theorem dX5_faultOf_137 : decode cX5_faultOf 137 = .ok (.iload_n 3, 1) := by decide +kernel
theorem dX5_faultOf_138 : decode cX5_faultOf 138 = .ok (.iaload, 1) := by decide +kernel
theorem dX5_faultOf_139 : decode cX5_faultOf 139 = .ok (.aload_n 0, 1) := by decide +kernel
theorem dX5_faultOf_140 : decode cX5_faultOf 140 = .ok (.getfield 26, 3) := by decide +kernel
theorem dX5_faultOf_143 : decode cX5_faultOf 143 = .ok (.iload_n 3, 1) := by decide +kernel
theorem dX5_faultOf_144 : decode cX5_faultOf 144 = .ok (.iconst 1, 1) := by decide +kernel
theorem dX5_faultOf_145 : decode cX5_faultOf 145 = .ok (.iadd, 1) := by decide +kernel
theorem dX5_faultOf_146 : decode cX5_faultOf 146 = .ok (.iaload, 1) := by decide +kernel
theorem dX5_faultOf_147 : decode cX5_faultOf 147 = .ok (.invokestatic 99, 3) := by decide +kernel
theorem dX5_faultOf_150 : decode cX5_faultOf 150 = .ok (.ireturn, 1) := by decide +kernel
theorem dX5_faultOf_151 : decode cX5_faultOf 151 = .ok (.iconst 0, 1) := by decide +kernel
theorem dX5_faultOf_152 : decode cX5_faultOf 152 = .ok (.aload_n 0, 1) := by decide +kernel
theorem dX5_faultOf_153 : decode cX5_faultOf 153 = .ok (.getfield 26, 3) := by decide +kernel
theorem dX5_faultOf_156 : decode cX5_faultOf 156 = .ok (.iload_n 3, 1) := by decide +kernel
theorem dX5_faultOf_157 : decode cX5_faultOf 157 = .ok (.iaload, 1) := by decide +kernel
theorem dX5_faultOf_158 : decode cX5_faultOf 158 = .ok (.ineg, 1) := by decide +kernel
theorem dX5_faultOf_159 : decode cX5_faultOf 159 = .ok (.invokestatic 99, 3) := by decide +kernel
theorem dX5_faultOf_162 : decode cX5_faultOf 162 = .ok (.ireturn, 1) := by decide +kernel
theorem dX5_faultOf_163 : decode cX5_faultOf 163 = .ok (.aload_n 0, 1) := by decide +kernel
theorem dX5_faultOf_164 : decode cX5_faultOf 164 = .ok (.getfield 26, 3) := by decide +kernel
theorem dX5_faultOf_167 : decode cX5_faultOf 167 = .ok (.iload_n 3, 1) := by decide +kernel
theorem dX5_faultOf_168 : decode cX5_faultOf 168 = .ok (.iaload, 1) := by decide +kernel
theorem dX5_faultOf_169 : decode cX5_faultOf 169 = .ok (.invokestatic 102, 3) := by decide +kernel
theorem dX5_faultOf_172 : decode cX5_faultOf 172 = .ok (.ireturn, 1) := by decide +kernel
set_option maxRecDepth 20000 in
theorem ggX5_carryOut_X4_putTrail : GoodIn wsX5_carryOut wsX4_putTrail := goodIn_r _ [7, 8, 9, 91, 92, 93, 94, 95, 96, 97, 98, 99, 100, 101, 102] (by decide +kernel) (by decide +kernel)
set_option maxRecDepth 20000 in
theorem gX5_carryOut_X4_putTrail : GoodIn wsX5_carryOut (wsV RX5 106 RX4 yX4_putTrail wsX4_putTrail) := goodIn_app (goodIn_of _ (by decide +kernel)) ggX5_carryOut_X4_putTrail
set_option maxRecDepth 20000 in
theorem ggX5_carryOut_X4_putPoint : GoodIn wsX5_carryOut wsX4_putPoint := goodIn_r _ [13, 8, 14, 15, 16, 17, 18, 6, 19, 20, 21, 22, 91, 92, 93, 94, 95, 96, 97, 98, 99, 100, 101, 102] (by decide +kernel) (by decide +kernel)
set_option maxRecDepth 20000 in
theorem gX5_carryOut_X4_putPoint : GoodIn wsX5_carryOut (wsV RX5 109 RX4 yX4_putPoint wsX4_putPoint) := goodIn_app (goodIn_of _ (by decide +kernel)) ggX5_carryOut_X4_putPoint
set_option maxRecDepth 20000 in
theorem ggX5_carryOut_X4_putStar : GoodIn wsX5_carryOut wsX4_putStar := goodIn_r _ [26, 27, 28, 29, 30, 91, 92, 93, 94, 95, 96, 97, 98, 99, 100, 101, 102] (by decide +kernel) (by decide +kernel)
set_option maxRecDepth 20000 in
theorem gX5_carryOut_X4_putStar : GoodIn wsX5_carryOut (wsV RX5 112 RX4 yX4_putStar wsX4_putStar) := goodIn_app (goodIn_of _ (by decide +kernel)) ggX5_carryOut_X4_putStar
set_option maxRecDepth 20000 in
theorem ggX5_carryOut_X4_putPole : GoodIn wsX5_carryOut wsX4_putPole := goodIn_r _ [34, 35, 36, 91, 92, 93, 94, 95, 96, 97, 98, 99, 100, 101, 102] (by decide +kernel) (by decide +kernel)
set_option maxRecDepth 20000 in
theorem gX5_carryOut_X4_putPole : GoodIn wsX5_carryOut (wsV RX5 115 RX4 yX4_putPole wsX4_putPole) := goodIn_app (goodIn_of _ (by decide +kernel)) ggX5_carryOut_X4_putPole
set_option maxRecDepth 20000 in
theorem ggX5_carryOut_X4_putSetting : GoodIn wsX5_carryOut wsX4_putSetting := goodIn_r _ [40, 41, 91, 92, 93, 94, 95, 96, 97, 98, 99, 100, 101, 102] (by decide +kernel) (by decide +kernel)
set_option maxRecDepth 20000 in
theorem gX5_carryOut_X4_putSetting : GoodIn wsX5_carryOut (wsV RX5 119 RX4 yX4_putSetting wsX4_putSetting) := goodIn_app (goodIn_of _ (by decide +kernel)) ggX5_carryOut_X4_putSetting
set_option maxRecDepth 20000 in
theorem ggX5_carryOut_X4_seekPole : GoodIn wsX5_carryOut wsX4_seekPole := goodIn_r _ [45, 41, 35, 36, 46, 47, 48, 49, 6, 50, 9, 8, 51, 52, 53, 54, 55, 56, 57, 58, 59, 60, 61, 17, 18, 19, 62, 63, 64, 65, 15, 14, 66, 67, 68, 69, 70, 71, 72, 73, 16, 74, 75, 76, 77, 78, 79, 80, 81, 82, 83, 84, 32, 33, 34, 91, 92, 93, 94, 95, 96, 97, 98, 99, 100, 101, 102] (by decide +kernel) (by decide +kernel)
set_option maxRecDepth 20000 in
theorem gX5_carryOut_X4_seekPole : GoodIn wsX5_carryOut (wsV RX5 122 RX4 yX4_seekPole wsX4_seekPole) := goodIn_app (goodIn_of _ (by decide +kernel)) ggX5_carryOut_X4_seekPole
theorem dX5_carryOut_0 : decode cX5_carryOut 0 = .ok (.iload_n 1, 1) := by decide +kernel
theorem dX5_carryOut_1 : decode cX5_carryOut 1 = .ok (.iconst 4, 1) := by decide +kernel
theorem dX5_carryOut_2 : decode cX5_carryOut 2 = .ok (.imul, 1) := by decide +kernel
theorem dX5_carryOut_3 : decode cX5_carryOut 3 = .ok (.istore_n 3, 1) := by decide +kernel
theorem dX5_carryOut_4 : decode cX5_carryOut 4 = .ok (.aload_n 0, 1) := by decide +kernel
theorem dX5_carryOut_5 : decode cX5_carryOut 5 = .ok (.getfield 22, 3) := by decide +kernel
theorem dX5_carryOut_8 : decode cX5_carryOut 8 = .ok (.iload_n 1, 1) := by decide +kernel
theorem dX5_carryOut_9 : decode cX5_carryOut 9 = .ok (.iaload, 1) := by decide +kernel
theorem dX5_carryOut_10 : decode cX5_carryOut 10 = .ok (.tableswitch 173 0 5 #[38, 46, 84, 114, 135, 157], 38) := by decide +kernel
theorem dX5_carryOut_48 : decode cX5_carryOut 48 = .ok (.aload_n 2, 1) := by decide +kernel
theorem dX5_carryOut_49 : decode cX5_carryOut 49 = .ok (.invokevirtual 106, 3) := by decide +kernel
theorem dX5_carryOut_52 : decode cX5_carryOut 52 = .ok (.pop, 1) := by decide +kernel
theorem dX5_carryOut_53 : decode cX5_carryOut 53 = .ok (.goto 141, 3) := by decide +kernel
theorem dX5_carryOut_56 : decode cX5_carryOut 56 = .ok (.aload_n 2, 1) := by decide +kernel
theorem dX5_carryOut_57 : decode cX5_carryOut 57 = .ok (.aload_n 0, 1) := by decide +kernel
theorem dX5_carryOut_58 : decode cX5_carryOut 58 = .ok (.getfield 26, 3) := by decide +kernel
theorem dX5_carryOut_61 : decode cX5_carryOut 61 = .ok (.iload_n 3, 1) := by decide +kernel
theorem dX5_carryOut_62 : decode cX5_carryOut 62 = .ok (.iaload, 1) := by decide +kernel
theorem dX5_carryOut_63 : decode cX5_carryOut 63 = .ok (.aload_n 0, 1) := by decide +kernel
theorem dX5_carryOut_64 : decode cX5_carryOut 64 = .ok (.getfield 26, 3) := by decide +kernel
theorem dX5_carryOut_67 : decode cX5_carryOut 67 = .ok (.iload_n 3, 1) := by decide +kernel
theorem dX5_carryOut_68 : decode cX5_carryOut 68 = .ok (.iconst 1, 1) := by decide +kernel
theorem dX5_carryOut_69 : decode cX5_carryOut 69 = .ok (.iadd, 1) := by decide +kernel
theorem dX5_carryOut_70 : decode cX5_carryOut 70 = .ok (.iaload, 1) := by decide +kernel
theorem dX5_carryOut_71 : decode cX5_carryOut 71 = .ok (.aload_n 0, 1) := by decide +kernel
theorem dX5_carryOut_72 : decode cX5_carryOut 72 = .ok (.getfield 26, 3) := by decide +kernel
theorem dX5_carryOut_75 : decode cX5_carryOut 75 = .ok (.iload_n 3, 1) := by decide +kernel
theorem dX5_carryOut_76 : decode cX5_carryOut 76 = .ok (.iconst 2, 1) := by decide +kernel
theorem dX5_carryOut_77 : decode cX5_carryOut 77 = .ok (.iadd, 1) := by decide +kernel
theorem dX5_carryOut_78 : decode cX5_carryOut 78 = .ok (.iaload, 1) := by decide +kernel
theorem dX5_carryOut_79 : decode cX5_carryOut 79 = .ok (.aload_n 0, 1) := by decide +kernel
theorem dX5_carryOut_80 : decode cX5_carryOut 80 = .ok (.getfield 26, 3) := by decide +kernel
theorem dX5_carryOut_83 : decode cX5_carryOut 83 = .ok (.iload_n 3, 1) := by decide +kernel
theorem dX5_carryOut_84 : decode cX5_carryOut 84 = .ok (.iconst 3, 1) := by decide +kernel
theorem dX5_carryOut_85 : decode cX5_carryOut 85 = .ok (.iadd, 1) := by decide +kernel
theorem dX5_carryOut_86 : decode cX5_carryOut 86 = .ok (.iaload, 1) := by decide +kernel
theorem dX5_carryOut_87 : decode cX5_carryOut 87 = .ok (.invokevirtual 109, 3) := by decide +kernel
theorem dX5_carryOut_90 : decode cX5_carryOut 90 = .ok (.pop, 1) := by decide +kernel
theorem dX5_carryOut_91 : decode cX5_carryOut 91 = .ok (.goto 103, 3) := by decide +kernel
theorem dX5_carryOut_94 : decode cX5_carryOut 94 = .ok (.aload_n 2, 1) := by decide +kernel
theorem dX5_carryOut_95 : decode cX5_carryOut 95 = .ok (.aload_n 0, 1) := by decide +kernel
theorem dX5_carryOut_96 : decode cX5_carryOut 96 = .ok (.getfield 26, 3) := by decide +kernel
theorem dX5_carryOut_99 : decode cX5_carryOut 99 = .ok (.iload_n 3, 1) := by decide +kernel
theorem dX5_carryOut_100 : decode cX5_carryOut 100 = .ok (.iaload, 1) := by decide +kernel
theorem dX5_carryOut_101 : decode cX5_carryOut 101 = .ok (.aload_n 0, 1) := by decide +kernel
theorem dX5_carryOut_102 : decode cX5_carryOut 102 = .ok (.getfield 26, 3) := by decide +kernel
theorem dX5_carryOut_105 : decode cX5_carryOut 105 = .ok (.iload_n 3, 1) := by decide +kernel
theorem dX5_carryOut_106 : decode cX5_carryOut 106 = .ok (.iconst 1, 1) := by decide +kernel
theorem dX5_carryOut_107 : decode cX5_carryOut 107 = .ok (.iadd, 1) := by decide +kernel
theorem dX5_carryOut_108 : decode cX5_carryOut 108 = .ok (.iaload, 1) := by decide +kernel
theorem dX5_carryOut_109 : decode cX5_carryOut 109 = .ok (.aload_n 0, 1) := by decide +kernel
theorem dX5_carryOut_110 : decode cX5_carryOut 110 = .ok (.getfield 26, 3) := by decide +kernel
theorem dX5_carryOut_113 : decode cX5_carryOut 113 = .ok (.iload_n 3, 1) := by decide +kernel
theorem dX5_carryOut_114 : decode cX5_carryOut 114 = .ok (.iconst 2, 1) := by decide +kernel
theorem dX5_carryOut_115 : decode cX5_carryOut 115 = .ok (.iadd, 1) := by decide +kernel
theorem dX5_carryOut_116 : decode cX5_carryOut 116 = .ok (.iaload, 1) := by decide +kernel
theorem dX5_carryOut_117 : decode cX5_carryOut 117 = .ok (.invokevirtual 112, 3) := by decide +kernel
theorem dX5_carryOut_120 : decode cX5_carryOut 120 = .ok (.pop, 1) := by decide +kernel
theorem dX5_carryOut_121 : decode cX5_carryOut 121 = .ok (.goto 73, 3) := by decide +kernel
theorem dX5_carryOut_124 : decode cX5_carryOut 124 = .ok (.aload_n 2, 1) := by decide +kernel
theorem dX5_carryOut_125 : decode cX5_carryOut 125 = .ok (.aload_n 0, 1) := by decide +kernel
theorem dX5_carryOut_126 : decode cX5_carryOut 126 = .ok (.getfield 26, 3) := by decide +kernel
theorem dX5_carryOut_129 : decode cX5_carryOut 129 = .ok (.iload_n 3, 1) := by decide +kernel
theorem dX5_carryOut_130 : decode cX5_carryOut 130 = .ok (.iaload, 1) := by decide +kernel
theorem dX5_carryOut_131 : decode cX5_carryOut 131 = .ok (.aload_n 0, 1) := by decide +kernel
theorem dX5_carryOut_132 : decode cX5_carryOut 132 = .ok (.getfield 26, 3) := by decide +kernel
theorem dX5_carryOut_135 : decode cX5_carryOut 135 = .ok (.iload_n 3, 1) := by decide +kernel
theorem dX5_carryOut_136 : decode cX5_carryOut 136 = .ok (.iconst 1, 1) := by decide +kernel
theorem dX5_carryOut_137 : decode cX5_carryOut 137 = .ok (.iadd, 1) := by decide +kernel
theorem dX5_carryOut_138 : decode cX5_carryOut 138 = .ok (.iaload, 1) := by decide +kernel
theorem dX5_carryOut_139 : decode cX5_carryOut 139 = .ok (.invokevirtual 115, 3) := by decide +kernel
theorem dX5_carryOut_142 : decode cX5_carryOut 142 = .ok (.goto 52, 3) := by decide +kernel
theorem dX5_carryOut_145 : decode cX5_carryOut 145 = .ok (.aload_n 2, 1) := by decide +kernel
theorem dX5_carryOut_146 : decode cX5_carryOut 146 = .ok (.aload_n 0, 1) := by decide +kernel
theorem dX5_carryOut_147 : decode cX5_carryOut 147 = .ok (.getfield 26, 3) := by decide +kernel
theorem dX5_carryOut_150 : decode cX5_carryOut 150 = .ok (.iload_n 3, 1) := by decide +kernel
theorem dX5_carryOut_151 : decode cX5_carryOut 151 = .ok (.iaload, 1) := by decide +kernel
theorem dX5_carryOut_152 : decode cX5_carryOut 152 = .ok (.aload_n 0, 1) := by decide +kernel
theorem dX5_carryOut_153 : decode cX5_carryOut 153 = .ok (.getfield 26, 3) := by decide +kernel
theorem dX5_carryOut_156 : decode cX5_carryOut 156 = .ok (.iload_n 3, 1) := by decide +kernel
theorem dX5_carryOut_157 : decode cX5_carryOut 157 = .ok (.iconst 1, 1) := by decide +kernel
theorem dX5_carryOut_158 : decode cX5_carryOut 158 = .ok (.iadd, 1) := by decide +kernel
theorem dX5_carryOut_159 : decode cX5_carryOut 159 = .ok (.iaload, 1) := by decide +kernel
theorem dX5_carryOut_160 : decode cX5_carryOut 160 = .ok (.invokevirtual 119, 3) := by decide +kernel
theorem dX5_carryOut_163 : decode cX5_carryOut 163 = .ok (.pop, 1) := by decide +kernel
theorem dX5_carryOut_164 : decode cX5_carryOut 164 = .ok (.goto 30, 3) := by decide +kernel
theorem dX5_carryOut_167 : decode cX5_carryOut 167 = .ok (.aload_n 2, 1) := by decide +kernel
theorem dX5_carryOut_168 : decode cX5_carryOut 168 = .ok (.iconst 0, 1) := by decide +kernel
theorem dX5_carryOut_169 : decode cX5_carryOut 169 = .ok (.aload_n 0, 1) := by decide +kernel
theorem dX5_carryOut_170 : decode cX5_carryOut 170 = .ok (.getfield 26, 3) := by decide +kernel
theorem dX5_carryOut_173 : decode cX5_carryOut 173 = .ok (.iload_n 3, 1) := by decide +kernel
theorem dX5_carryOut_174 : decode cX5_carryOut 174 = .ok (.iaload, 1) := by decide +kernel
theorem dX5_carryOut_175 : decode cX5_carryOut 175 = .ok (.ineg, 1) := by decide +kernel
theorem dX5_carryOut_176 : decode cX5_carryOut 176 = .ok (.invokevirtual 119, 3) := by decide +kernel
theorem dX5_carryOut_179 : decode cX5_carryOut 179 = .ok (.pop, 1) := by decide +kernel
theorem dX5_carryOut_180 : decode cX5_carryOut 180 = .ok (.goto 14, 3) := by decide +kernel
theorem dX5_carryOut_183 : decode cX5_carryOut 183 = .ok (.aload_n 2, 1) := by decide +kernel
theorem dX5_carryOut_184 : decode cX5_carryOut 184 = .ok (.aload_n 0, 1) := by decide +kernel
theorem dX5_carryOut_185 : decode cX5_carryOut 185 = .ok (.getfield 26, 3) := by decide +kernel
theorem dX5_carryOut_188 : decode cX5_carryOut 188 = .ok (.iload_n 3, 1) := by decide +kernel
theorem dX5_carryOut_189 : decode cX5_carryOut 189 = .ok (.iaload, 1) := by decide +kernel
theorem dX5_carryOut_190 : decode cX5_carryOut 190 = .ok (.invokevirtual 122, 3) := by decide +kernel
theorem dX5_carryOut_193 : decode cX5_carryOut 193 = .ok (.pop, 1) := by decide +kernel
theorem dX5_carryOut_194 : decode cX5_carryOut 194 = .ok (.return_, 1) := by decide +kernel
set_option maxRecDepth 20000 in
theorem ggX6_init_X4_init : GoodIn wsX6_init wsX4_init := goodIn_r _ [29, 30, 2, 3, 31, 32, 33, 34, 35, 36, 37, 38, 39, 40, 41, 42, 43, 44, 45, 46, 47, 48, 49, 50, 96, 97, 98, 99, 100, 101, 102, 103, 104, 105, 106, 107] (by decide +kernel) (by decide +kernel)
set_option maxRecDepth 20000 in
theorem gX6_init_X4_init : GoodIn wsX6_init (wsX4_init) := ggX6_init_X4_init
set_option maxRecDepth 20000 in
theorem ggX6_init_X2_init : GoodIn wsX6_init wsX2_init := goodIn_r _ [53, 54, 2, 3, 55, 56, 57, 5, 6, 58, 28, 29, 30, 31, 32, 33, 34, 35, 36, 37, 38, 39, 40, 41, 42, 43, 44, 45, 46, 47, 48, 49, 50, 116, 117, 96, 97, 98, 99, 100, 101, 102, 103, 104, 105, 106, 107] (by decide +kernel) (by decide +kernel)
set_option maxRecDepth 20000 in
theorem gX6_init_X2_init : GoodIn wsX6_init (wsX2_init) := ggX6_init_X2_init
set_option maxRecDepth 20000 in
theorem ggX6_init_X5_init : GoodIn wsX6_init wsX5_init := goodIn_r _ [61, 62, 2, 3, 63, 64, 65, 66, 35, 67, 68, 69, 118, 119, 120, 121, 122, 123] (by decide +kernel) (by decide +kernel)
set_option maxRecDepth 20000 in
theorem gX6_init_X5_init : GoodIn wsX6_init (wsX5_init) := ggX6_init_X5_init
set_option maxRecDepth 20000 in
theorem ggX6_init_X1_init : GoodIn wsX6_init wsX1_init := goodIn_r _ [72, 73, 2, 3, 35, 74, 75, 76, 77, 78, 79, 80, 81, 82, 124, 125, 126, 127, 128, 129, 130, 131] (by decide +kernel) (by decide +kernel)
set_option maxRecDepth 20000 in
theorem gX6_init_X1_init : GoodIn wsX6_init (wsX1_init) := ggX6_init_X1_init
set_option maxRecDepth 20000 in
theorem ggX6_init_X3_init : GoodIn wsX6_init wsX3_init := goodIn_r _ [85, 86, 2, 3, 35, 87, 88, 89, 90, 91, 92, 93, 94, 95, 132, 133, 134, 135, 136, 137, 138, 139, 140] (by decide +kernel) (by decide +kernel)
set_option maxRecDepth 20000 in
theorem gX6_init_X3_init : GoodIn wsX6_init (wsX3_init) := ggX6_init_X3_init
theorem dX6_init_0 : decode cX6_init 0 = .ok (.aload_n 0, 1) := by decide +kernel
theorem dX6_init_1 : decode cX6_init 1 = .ok (.invokespecial 1, 3) := by decide +kernel
theorem dX6_init_4 : decode cX6_init 4 = .ok (.aload_n 0, 1) := by decide +kernel
theorem dX6_init_5 : decode cX6_init 5 = .ok (.new 7, 3) := by decide +kernel
theorem dX6_init_8 : decode cX6_init 8 = .ok (.dup, 1) := by decide +kernel
theorem dX6_init_9 : decode cX6_init 9 = .ok (.invokespecial 9, 3) := by decide +kernel
theorem dX6_init_12 : decode cX6_init 12 = .ok (.putfield 10, 3) := by decide +kernel
theorem dX6_init_15 : decode cX6_init 15 = .ok (.aload_n 0, 1) := by decide +kernel
theorem dX6_init_16 : decode cX6_init 16 = .ok (.new 16, 3) := by decide +kernel
theorem dX6_init_19 : decode cX6_init 19 = .ok (.dup, 1) := by decide +kernel
theorem dX6_init_20 : decode cX6_init 20 = .ok (.invokespecial 18, 3) := by decide +kernel
theorem dX6_init_23 : decode cX6_init 23 = .ok (.putfield 19, 3) := by decide +kernel
theorem dX6_init_26 : decode cX6_init 26 = .ok (.aload_n 0, 1) := by decide +kernel
theorem dX6_init_27 : decode cX6_init 27 = .ok (.new 23, 3) := by decide +kernel
theorem dX6_init_30 : decode cX6_init 30 = .ok (.dup, 1) := by decide +kernel
theorem dX6_init_31 : decode cX6_init 31 = .ok (.invokespecial 25, 3) := by decide +kernel
theorem dX6_init_34 : decode cX6_init 34 = .ok (.putfield 26, 3) := by decide +kernel
theorem dX6_init_37 : decode cX6_init 37 = .ok (.aload_n 0, 1) := by decide +kernel
theorem dX6_init_38 : decode cX6_init 38 = .ok (.new 30, 3) := by decide +kernel
theorem dX6_init_41 : decode cX6_init 41 = .ok (.dup, 1) := by decide +kernel
theorem dX6_init_42 : decode cX6_init 42 = .ok (.invokespecial 32, 3) := by decide +kernel
theorem dX6_init_45 : decode cX6_init 45 = .ok (.putfield 33, 3) := by decide +kernel
theorem dX6_init_48 : decode cX6_init 48 = .ok (.aload_n 0, 1) := by decide +kernel
theorem dX6_init_49 : decode cX6_init 49 = .ok (.new 37, 3) := by decide +kernel
theorem dX6_init_52 : decode cX6_init 52 = .ok (.dup, 1) := by decide +kernel
theorem dX6_init_53 : decode cX6_init 53 = .ok (.invokespecial 39, 3) := by decide +kernel
theorem dX6_init_56 : decode cX6_init 56 = .ok (.putfield 40, 3) := by decide +kernel
theorem dX6_init_59 : decode cX6_init 59 = .ok (.aload_n 0, 1) := by decide +kernel
theorem dX6_init_60 : decode cX6_init 60 = .ok (.new 37, 3) := by decide +kernel
theorem dX6_init_63 : decode cX6_init 63 = .ok (.dup, 1) := by decide +kernel
theorem dX6_init_64 : decode cX6_init 64 = .ok (.invokespecial 39, 3) := by decide +kernel
theorem dX6_init_67 : decode cX6_init 67 = .ok (.putfield 44, 3) := by decide +kernel
theorem dX6_init_70 : decode cX6_init 70 = .ok (.aload_n 0, 1) := by decide +kernel
theorem dX6_init_71 : decode cX6_init 71 = .ok (.iconst 0, 1) := by decide +kernel
theorem dX6_init_72 : decode cX6_init 72 = .ok (.putfield 47, 3) := by decide +kernel
theorem dX6_init_75 : decode cX6_init 75 = .ok (.aload_n 0, 1) := by decide +kernel
theorem dX6_init_76 : decode cX6_init 76 = .ok (.iconst 0, 1) := by decide +kernel
theorem dX6_init_77 : decode cX6_init 77 = .ok (.putfield 51, 3) := by decide +kernel
theorem dX6_init_80 : decode cX6_init 80 = .ok (.return_, 1) := by decide +kernel
set_option maxRecDepth 20000 in
theorem ggX6_addTrail_X4_faultOfNewTrail : GoodIn wsX6_addTrail wsX4_faultOfNewTrail := goodIn_r _ [6, 7, 73, 74, 75, 76, 77, 78, 79, 80, 81, 82, 83, 84] (by decide +kernel) (by decide +kernel)
set_option maxRecDepth 20000 in
theorem gX6_addTrail_X4_faultOfNewTrail : GoodIn wsX6_addTrail (wsV RX6 55 RX4 yX4_faultOfNewTrail wsX4_faultOfNewTrail) := goodIn_app (goodIn_of _ (by decide +kernel)) ggX6_addTrail_X4_faultOfNewTrail
set_option maxRecDepth 20000 in
theorem ggX6_addTrail_X6_refuse : GoodIn wsX6_addTrail wsX6_refuse := goodIn_ca (goodIn_ca (goodIn_ca (goodIn_r _ [11, 12, 13, 14, 15, 16, 17] (by decide +kernel) (by decide +kernel)) (goodIn_sub (fun _ h => List.mem_cons_of_mem _ (List.mem_append_left _ (List.mem_append_left _ (List.mem_append_right _ h)))) (by decide +kernel))) (goodIn_sub (fun _ h => List.mem_cons_of_mem _ (List.mem_append_left _ (List.mem_append_right _ h))) (by decide +kernel))) (goodIn_sub (fun _ h => List.mem_cons_of_mem _ (List.mem_append_right _ h)) (by decide +kernel))
set_option maxRecDepth 20000 in
theorem gX6_addTrail_X6_refuse : GoodIn wsX6_addTrail (va_wsS RX6 59 yX6_refuse wsX6_refuse) := goodIn_app (goodIn_of _ (by decide +kernel)) ggX6_addTrail_X6_refuse
set_option maxRecDepth 20000 in
theorem ggX6_addTrail_X6_keepState : GoodIn wsX6_addTrail wsX6_keepState := goodIn_r _ [21, 22, 1, 23, 24, 25, 26, 27, 28, 29, 30, 31, 32, 33, 34, 35, 36, 37, 5, 38, 7, 39, 40, 41, 42, 43, 44, 45, 46, 47, 48, 49, 50, 51, 52, 53, 54, 55, 56, 57, 58, 59, 60, 65, 66, 67, 68, 69, 70, 71, 72, 85, 86, 73, 74, 75, 76, 77, 78, 79, 80, 81, 82, 83, 84] (by decide +kernel) (by decide +kernel)
set_option maxRecDepth 20000 in
theorem gX6_addTrail_X6_keepState : GoodIn wsX6_addTrail (wsV RX6 63 RX6 yX6_keepState wsX6_keepState) := goodIn_app (goodIn_of _ (by decide +kernel)) ggX6_addTrail_X6_keepState
set_option maxRecDepth 20000 in
theorem ggX6_addTrail_X4_putTrail : GoodIn wsX6_addTrail wsX4_putTrail := goodIn_r _ [64, 42, 7, 73, 74, 75, 76, 77, 78, 79, 80, 81, 82, 83, 84] (by decide +kernel) (by decide +kernel)
set_option maxRecDepth 20000 in
theorem gX6_addTrail_X4_putTrail : GoodIn wsX6_addTrail (wsV RX6 66 RX4 yX4_putTrail wsX4_putTrail) := goodIn_app (goodIn_of _ (by decide +kernel)) ggX6_addTrail_X4_putTrail
theorem dX6_addTrail_0 : decode cX6_addTrail 0 = .ok (.aload_n 0, 1) := by decide +kernel
theorem dX6_addTrail_1 : decode cX6_addTrail 1 = .ok (.getfield 10, 3) := by decide +kernel
theorem dX6_addTrail_4 : decode cX6_addTrail 4 = .ok (.invokevirtual 55, 3) := by decide +kernel
theorem dX6_addTrail_7 : decode cX6_addTrail 7 = .ok (.invokestatic 59, 3) := by decide +kernel
theorem dX6_addTrail_10 : decode cX6_addTrail 10 = .ok (.aload_n 0, 1) := by decide +kernel
theorem dX6_addTrail_11 : decode cX6_addTrail 11 = .ok (.invokevirtual 63, 3) := by decide +kernel
theorem dX6_addTrail_14 : decode cX6_addTrail 14 = .ok (.aload_n 0, 1) := by decide +kernel
theorem dX6_addTrail_15 : decode cX6_addTrail 15 = .ok (.getfield 10, 3) := by decide +kernel
theorem dX6_addTrail_18 : decode cX6_addTrail 18 = .ok (.invokevirtual 66, 3) := by decide +kernel
theorem dX6_addTrail_21 : decode cX6_addTrail 21 = .ok (.ireturn, 1) := by decide +kernel
set_option maxRecDepth 20000 in
theorem ggX6_removeTrail_X4_hasTrail : GoodIn wsX6_removeTrail wsX4_hasTrail := goodIn_r _ [6, 7, 79, 80, 81, 82, 83, 84, 85, 86, 87, 88, 89, 90] (by decide +kernel) (by decide +kernel)
set_option maxRecDepth 20000 in
theorem gX6_removeTrail_X4_hasTrail : GoodIn wsX6_removeTrail (wsV RX6 69 RX4 yX4_hasTrail wsX4_hasTrail) := goodIn_app (goodIn_of _ (by decide +kernel)) ggX6_removeTrail_X4_hasTrail
set_option maxRecDepth 20000 in
theorem ggX6_removeTrail_X6_refuse : GoodIn wsX6_removeTrail wsX6_refuse := goodIn_ca (goodIn_ca (goodIn_ca (goodIn_r _ [11, 12, 13, 14, 15, 16, 17] (by decide +kernel) (by decide +kernel)) (goodIn_sub (fun _ h => List.mem_cons_of_mem _ (List.mem_append_left _ (List.mem_append_left _ (List.mem_append_right _ h)))) (by decide +kernel))) (goodIn_sub (fun _ h => List.mem_cons_of_mem _ (List.mem_append_left _ (List.mem_append_right _ h))) (by decide +kernel))) (goodIn_sub (fun _ h => List.mem_cons_of_mem _ (List.mem_append_right _ h)) (by decide +kernel))
set_option maxRecDepth 20000 in
theorem gX6_removeTrail_X6_refuse : GoodIn wsX6_removeTrail (va_wsS RX6 59 yX6_refuse wsX6_refuse) := goodIn_app (goodIn_of _ (by decide +kernel)) ggX6_removeTrail_X6_refuse
set_option maxRecDepth 20000 in
theorem ggX6_removeTrail_X6_keepState : GoodIn wsX6_removeTrail wsX6_keepState := goodIn_r _ [21, 22, 1, 23, 24, 25, 26, 27, 28, 29, 30, 31, 32, 33, 34, 35, 36, 37, 5, 38, 7, 39, 40, 41, 42, 43, 44, 45, 46, 47, 48, 49, 50, 51, 52, 53, 54, 55, 56, 57, 58, 59, 60, 71, 72, 73, 74, 75, 76, 77, 78, 91, 92, 79, 80, 81, 82, 83, 84, 85, 86, 87, 88, 89, 90] (by decide +kernel) (by decide +kernel)
set_option maxRecDepth 20000 in
theorem gX6_removeTrail_X6_keepState : GoodIn wsX6_removeTrail (wsV RX6 63 RX6 yX6_keepState wsX6_keepState) := goodIn_app (goodIn_of _ (by decide +kernel)) ggX6_removeTrail_X6_keepState
set_option maxRecDepth 20000 in
theorem ggX6_removeTrail_X4_dropTrail : GoodIn wsX6_removeTrail wsX4_dropTrail := goodIn_r _ [64, 42, 7, 43, 44, 45, 65, 66, 5, 67, 68, 69, 70, 79, 80, 81, 82, 83, 84, 85, 86, 87, 88, 89, 90] (by decide +kernel) (by decide +kernel)
set_option maxRecDepth 20000 in
theorem gX6_removeTrail_X4_dropTrail : GoodIn wsX6_removeTrail (wsV RX6 73 RX4 yX4_dropTrail wsX4_dropTrail) := goodIn_app (goodIn_of _ (by decide +kernel)) ggX6_removeTrail_X4_dropTrail
theorem dX6_removeTrail_0 : decode cX6_removeTrail 0 = .ok (.aload_n 0, 1) := by decide +kernel
theorem dX6_removeTrail_1 : decode cX6_removeTrail 1 = .ok (.getfield 10, 3) := by decide +kernel
theorem dX6_removeTrail_4 : decode cX6_removeTrail 4 = .ok (.iload_n 1, 1) := by decide +kernel
theorem dX6_removeTrail_5 : decode cX6_removeTrail 5 = .ok (.invokevirtual 69, 3) := by decide +kernel
theorem dX6_removeTrail_8 : decode cX6_removeTrail 8 = .ok (.ifCond .eq 7, 3) := by decide +kernel
theorem dX6_removeTrail_11 : decode cX6_removeTrail 11 = .ok (.iconst 0, 1) := by decide +kernel
theorem dX6_removeTrail_12 : decode cX6_removeTrail 12 = .ok (.goto 4, 3) := by decide +kernel
theorem dX6_removeTrail_15 : decode cX6_removeTrail 15 = .ok (.iconst 1, 1) := by decide +kernel
theorem dX6_removeTrail_16 : decode cX6_removeTrail 16 = .ok (.invokestatic 59, 3) := by decide +kernel
theorem dX6_removeTrail_19 : decode cX6_removeTrail 19 = .ok (.aload_n 0, 1) := by decide +kernel
theorem dX6_removeTrail_20 : decode cX6_removeTrail 20 = .ok (.invokevirtual 63, 3) := by decide +kernel
theorem dX6_removeTrail_23 : decode cX6_removeTrail 23 = .ok (.aload_n 0, 1) := by decide +kernel
theorem dX6_removeTrail_24 : decode cX6_removeTrail 24 = .ok (.getfield 10, 3) := by decide +kernel
theorem dX6_removeTrail_27 : decode cX6_removeTrail 27 = .ok (.iload_n 1, 1) := by decide +kernel
theorem dX6_removeTrail_28 : decode cX6_removeTrail 28 = .ok (.invokevirtual 73, 3) := by decide +kernel
theorem dX6_removeTrail_31 : decode cX6_removeTrail 31 = .ok (.ireturn, 1) := by decide +kernel
set_option maxRecDepth 20000 in
theorem ggX6_addPoint_X4_faultOfNewPoint : GoodIn wsX6_addPoint wsX4_faultOfNewPoint := goodIn_r _ [6, 7, 8, 9, 10, 5, 11, 12, 13, 14, 15, 16, 17, 18, 19, 20, 21, 22, 23, 89, 90, 91, 92, 93, 94, 95, 96, 97, 98, 99, 100] (by decide +kernel) (by decide +kernel)
set_option maxRecDepth 20000 in
theorem gX6_addPoint_X4_faultOfNewPoint : GoodIn wsX6_addPoint (wsV RX6 77 RX4 yX4_faultOfNewPoint wsX4_faultOfNewPoint) := goodIn_app (goodIn_of _ (by decide +kernel)) ggX6_addPoint_X4_faultOfNewPoint
set_option maxRecDepth 20000 in
theorem ggX6_addPoint_X6_refuse : GoodIn wsX6_addPoint wsX6_refuse := goodIn_ca (goodIn_ca (goodIn_ca (goodIn_r _ [26, 27, 28, 29, 30, 31, 32] (by decide +kernel) (by decide +kernel)) (goodIn_sub (fun _ h => List.mem_cons_of_mem _ (List.mem_append_left _ (List.mem_append_left _ (List.mem_append_right _ h)))) (by decide +kernel))) (goodIn_sub (fun _ h => List.mem_cons_of_mem _ (List.mem_append_left _ (List.mem_append_right _ h))) (by decide +kernel))) (goodIn_sub (fun _ h => List.mem_cons_of_mem _ (List.mem_append_right _ h)) (by decide +kernel))
set_option maxRecDepth 20000 in
theorem gX6_addPoint_X6_refuse : GoodIn wsX6_addPoint (va_wsS RX6 59 yX6_refuse wsX6_refuse) := goodIn_app (goodIn_of _ (by decide +kernel)) ggX6_addPoint_X6_refuse
set_option maxRecDepth 20000 in
theorem ggX6_addPoint_X6_keepState : GoodIn wsX6_addPoint wsX6_keepState := goodIn_r _ [36, 37, 1, 38, 39, 40, 41, 42, 43, 44, 45, 46, 47, 48, 49, 50, 51, 52, 5, 53, 12, 54, 55, 56, 7, 20, 57, 58, 59, 60, 61, 62, 63, 64, 65, 66, 67, 68, 69, 70, 71, 72, 73, 81, 82, 83, 84, 85, 86, 87, 88, 101, 102, 89, 90, 91, 92, 93, 94, 95, 96, 97, 98, 99, 100] (by decide +kernel) (by decide +kernel)
set_option maxRecDepth 20000 in
theorem gX6_addPoint_X6_keepState : GoodIn wsX6_addPoint (wsV RX6 63 RX6 yX6_keepState wsX6_keepState) := goodIn_app (goodIn_of _ (by decide +kernel)) ggX6_addPoint_X6_keepState
set_option maxRecDepth 20000 in
theorem ggX6_addPoint_X4_putPoint : GoodIn wsX6_addPoint wsX4_putPoint := goodIn_r _ [77, 7, 20, 57, 58, 21, 22, 5, 23, 78, 79, 80, 89, 90, 91, 92, 93, 94, 95, 96, 97, 98, 99, 100] (by decide +kernel) (by decide +kernel)
set_option maxRecDepth 20000 in
theorem gX6_addPoint_X4_putPoint : GoodIn wsX6_addPoint (wsV RX6 81 RX4 yX4_putPoint wsX4_putPoint) := goodIn_app (goodIn_of _ (by decide +kernel)) ggX6_addPoint_X4_putPoint
theorem dX6_addPoint_0 : decode cX6_addPoint 0 = .ok (.aload_n 0, 1) := by decide +kernel
theorem dX6_addPoint_1 : decode cX6_addPoint 1 = .ok (.getfield 10, 3) := by decide +kernel
theorem dX6_addPoint_4 : decode cX6_addPoint 4 = .ok (.iload_n 1, 1) := by decide +kernel
theorem dX6_addPoint_5 : decode cX6_addPoint 5 = .ok (.iload_n 2, 1) := by decide +kernel
theorem dX6_addPoint_6 : decode cX6_addPoint 6 = .ok (.iload_n 3, 1) := by decide +kernel
theorem dX6_addPoint_7 : decode cX6_addPoint 7 = .ok (.iload 4, 2) := by decide +kernel
theorem dX6_addPoint_9 : decode cX6_addPoint 9 = .ok (.invokevirtual 77, 3) := by decide +kernel
theorem dX6_addPoint_12 : decode cX6_addPoint 12 = .ok (.invokestatic 59, 3) := by decide +kernel
theorem dX6_addPoint_15 : decode cX6_addPoint 15 = .ok (.aload_n 0, 1) := by decide +kernel
theorem dX6_addPoint_16 : decode cX6_addPoint 16 = .ok (.invokevirtual 63, 3) := by decide +kernel
theorem dX6_addPoint_19 : decode cX6_addPoint 19 = .ok (.aload_n 0, 1) := by decide +kernel
theorem dX6_addPoint_20 : decode cX6_addPoint 20 = .ok (.getfield 10, 3) := by decide +kernel
theorem dX6_addPoint_23 : decode cX6_addPoint 23 = .ok (.iload_n 1, 1) := by decide +kernel
theorem dX6_addPoint_24 : decode cX6_addPoint 24 = .ok (.iload_n 2, 1) := by decide +kernel
theorem dX6_addPoint_25 : decode cX6_addPoint 25 = .ok (.iload_n 3, 1) := by decide +kernel
theorem dX6_addPoint_26 : decode cX6_addPoint 26 = .ok (.iload 4, 2) := by decide +kernel
theorem dX6_addPoint_28 : decode cX6_addPoint 28 = .ok (.invokevirtual 81, 3) := by decide +kernel
theorem dX6_addPoint_31 : decode cX6_addPoint 31 = .ok (.ireturn, 1) := by decide +kernel
set_option maxRecDepth 20000 in
theorem ggX6_removePoint_X4_hasPoint : GoodIn wsX6_removePoint wsX4_hasPoint := goodIn_r _ [6, 7, 8, 9, 10, 5, 11, 12, 83, 84, 85, 86, 87, 88, 89, 90, 91, 92, 93, 94] (by decide +kernel) (by decide +kernel)
set_option maxRecDepth 20000 in
theorem gX6_removePoint_X4_hasPoint : GoodIn wsX6_removePoint (wsV RX6 84 RX4 yX4_hasPoint wsX4_hasPoint) := goodIn_app (goodIn_of _ (by decide +kernel)) ggX6_removePoint_X4_hasPoint
set_option maxRecDepth 20000 in
theorem ggX6_removePoint_X6_refuse : GoodIn wsX6_removePoint wsX6_refuse := goodIn_ca (goodIn_ca (goodIn_ca (goodIn_r _ [16, 17, 18, 19, 20, 21, 22] (by decide +kernel) (by decide +kernel)) (goodIn_sub (fun _ h => List.mem_cons_of_mem _ (List.mem_append_left _ (List.mem_append_left _ (List.mem_append_right _ h)))) (by decide +kernel))) (goodIn_sub (fun _ h => List.mem_cons_of_mem _ (List.mem_append_left _ (List.mem_append_right _ h))) (by decide +kernel))) (goodIn_sub (fun _ h => List.mem_cons_of_mem _ (List.mem_append_right _ h)) (by decide +kernel))
set_option maxRecDepth 20000 in
theorem gX6_removePoint_X6_refuse : GoodIn wsX6_removePoint (va_wsS RX6 59 yX6_refuse wsX6_refuse) := goodIn_app (goodIn_of _ (by decide +kernel)) ggX6_removePoint_X6_refuse
set_option maxRecDepth 20000 in
theorem ggX6_removePoint_X6_keepState : GoodIn wsX6_removePoint wsX6_keepState := goodIn_r _ [26, 27, 1, 28, 29, 30, 31, 32, 33, 34, 35, 36, 37, 38, 39, 40, 41, 42, 5, 43, 12, 44, 45, 46, 7, 47, 48, 49, 50, 51, 52, 53, 54, 55, 56, 57, 58, 59, 60, 61, 62, 63, 64, 75, 76, 77, 78, 79, 80, 81, 82, 95, 96, 83, 84, 85, 86, 87, 88, 89, 90, 91, 92, 93, 94] (by decide +kernel) (by decide +kernel)
set_option maxRecDepth 20000 in
theorem gX6_removePoint_X6_keepState : GoodIn wsX6_removePoint (wsV RX6 63 RX6 yX6_keepState wsX6_keepState) := goodIn_app (goodIn_of _ (by decide +kernel)) ggX6_removePoint_X6_keepState
set_option maxRecDepth 20000 in
theorem ggX6_removePoint_X4_dropPoint : GoodIn wsX6_removePoint wsX4_dropPoint := goodIn_r _ [68, 7, 47, 48, 49, 69, 70, 5, 71, 72, 73, 74, 83, 84, 85, 86, 87, 88, 89, 90, 91, 92, 93, 94] (by decide +kernel) (by decide +kernel)
set_option maxRecDepth 20000 in
theorem gX6_removePoint_X4_dropPoint : GoodIn wsX6_removePoint (wsV RX6 88 RX4 yX4_dropPoint wsX4_dropPoint) := goodIn_app (goodIn_of _ (by decide +kernel)) ggX6_removePoint_X4_dropPoint
theorem dX6_removePoint_0 : decode cX6_removePoint 0 = .ok (.aload_n 0, 1) := by decide +kernel
theorem dX6_removePoint_1 : decode cX6_removePoint 1 = .ok (.getfield 10, 3) := by decide +kernel
theorem dX6_removePoint_4 : decode cX6_removePoint 4 = .ok (.iload_n 1, 1) := by decide +kernel
theorem dX6_removePoint_5 : decode cX6_removePoint 5 = .ok (.iload_n 2, 1) := by decide +kernel
theorem dX6_removePoint_6 : decode cX6_removePoint 6 = .ok (.invokevirtual 84, 3) := by decide +kernel
theorem dX6_removePoint_9 : decode cX6_removePoint 9 = .ok (.ifCond .eq 7, 3) := by decide +kernel
theorem dX6_removePoint_12 : decode cX6_removePoint 12 = .ok (.iconst 0, 1) := by decide +kernel
theorem dX6_removePoint_13 : decode cX6_removePoint 13 = .ok (.goto 4, 3) := by decide +kernel
theorem dX6_removePoint_16 : decode cX6_removePoint 16 = .ok (.iconst 1, 1) := by decide +kernel
theorem dX6_removePoint_17 : decode cX6_removePoint 17 = .ok (.invokestatic 59, 3) := by decide +kernel
theorem dX6_removePoint_20 : decode cX6_removePoint 20 = .ok (.aload_n 0, 1) := by decide +kernel
theorem dX6_removePoint_21 : decode cX6_removePoint 21 = .ok (.invokevirtual 63, 3) := by decide +kernel
theorem dX6_removePoint_24 : decode cX6_removePoint 24 = .ok (.aload_n 0, 1) := by decide +kernel
theorem dX6_removePoint_25 : decode cX6_removePoint 25 = .ok (.getfield 10, 3) := by decide +kernel
theorem dX6_removePoint_28 : decode cX6_removePoint 28 = .ok (.iload_n 1, 1) := by decide +kernel
theorem dX6_removePoint_29 : decode cX6_removePoint 29 = .ok (.iload_n 2, 1) := by decide +kernel
theorem dX6_removePoint_30 : decode cX6_removePoint 30 = .ok (.invokevirtual 88, 3) := by decide +kernel
theorem dX6_removePoint_33 : decode cX6_removePoint 33 = .ok (.ireturn, 1) := by decide +kernel
set_option maxRecDepth 20000 in
theorem ggX6_set_X4_faultOfSetting : GoodIn wsX6_set wsX4_faultOfSetting := goodIn_r _ [5, 6, 7, 8, 9, 10] (by decide +kernel) (by decide +kernel)
set_option maxRecDepth 20000 in
theorem gX6_set_X4_faultOfSetting : GoodIn wsX6_set (va_wsS RX6 92 yX4_faultOfSetting wsX4_faultOfSetting) := goodIn_app (goodIn_of _ (by decide +kernel)) ggX6_set_X4_faultOfSetting
set_option maxRecDepth 20000 in
theorem ggX6_set_X6_refuse : GoodIn wsX6_set wsX6_refuse := goodIn_ca (goodIn_ca (goodIn_ca (goodIn_r _ [13, 14, 15, 16, 17, 18, 19] (by decide +kernel) (by decide +kernel)) (goodIn_sub (fun _ h => List.mem_cons_of_mem _ (List.mem_append_left _ (List.mem_append_left _ (List.mem_append_right _ h)))) (by decide +kernel))) (goodIn_sub (fun _ h => List.mem_cons_of_mem _ (List.mem_append_left _ (List.mem_append_right _ h))) (by decide +kernel))) (goodIn_sub (fun _ h => List.mem_cons_of_mem _ (List.mem_append_right _ h)) (by decide +kernel))
set_option maxRecDepth 20000 in
theorem gX6_set_X6_refuse : GoodIn wsX6_set (va_wsS RX6 59 yX6_refuse wsX6_refuse) := goodIn_app (goodIn_of _ (by decide +kernel)) ggX6_set_X6_refuse
set_option maxRecDepth 20000 in
theorem ggX6_set_X6_keepState : GoodIn wsX6_set wsX6_keepState := goodIn_r _ [23, 24, 1, 25, 26, 27, 28, 29, 30, 31, 32, 33, 34, 35, 36, 37, 38, 39, 4, 40, 41, 42, 43, 44, 45, 46, 47, 48, 49, 50, 51, 52, 53, 54, 55, 56, 57, 58, 59, 60, 61, 62, 63, 68, 69, 70, 71, 72, 73, 74, 75, 76, 77, 78, 79, 80, 81, 82, 83, 84, 85, 86, 87, 88, 89] (by decide +kernel) (by decide +kernel)
set_option maxRecDepth 20000 in
theorem gX6_set_X6_keepState : GoodIn wsX6_set (wsV RX6 63 RX6 yX6_keepState wsX6_keepState) := goodIn_app (goodIn_of _ (by decide +kernel)) ggX6_set_X6_keepState
set_option maxRecDepth 20000 in
theorem ggX6_set_X4_putSetting : GoodIn wsX6_set wsX4_putSetting := goodIn_r _ [67, 52, 78, 79, 80, 81, 82, 83, 84, 85, 86, 87, 88, 89] (by decide +kernel) (by decide +kernel)
set_option maxRecDepth 20000 in
theorem gX6_set_X4_putSetting : GoodIn wsX6_set (wsV RX6 95 RX4 yX4_putSetting wsX4_putSetting) := goodIn_app (goodIn_of _ (by decide +kernel)) ggX6_set_X4_putSetting
theorem dX6_set_0 : decode cX6_set 0 = .ok (.iload_n 1, 1) := by decide +kernel
theorem dX6_set_1 : decode cX6_set 1 = .ok (.iload_n 2, 1) := by decide +kernel
theorem dX6_set_2 : decode cX6_set 2 = .ok (.invokestatic 92, 3) := by decide +kernel
theorem dX6_set_5 : decode cX6_set 5 = .ok (.invokestatic 59, 3) := by decide +kernel
theorem dX6_set_8 : decode cX6_set 8 = .ok (.aload_n 0, 1) := by decide +kernel
theorem dX6_set_9 : decode cX6_set 9 = .ok (.invokevirtual 63, 3) := by decide +kernel
theorem dX6_set_12 : decode cX6_set 12 = .ok (.aload_n 0, 1) := by decide +kernel
theorem dX6_set_13 : decode cX6_set 13 = .ok (.getfield 10, 3) := by decide +kernel
theorem dX6_set_16 : decode cX6_set 16 = .ok (.iload_n 1, 1) := by decide +kernel
theorem dX6_set_17 : decode cX6_set 17 = .ok (.iload_n 2, 1) := by decide +kernel
theorem dX6_set_18 : decode cX6_set 18 = .ok (.invokevirtual 95, 3) := by decide +kernel
theorem dX6_set_21 : decode cX6_set 21 = .ok (.ireturn, 1) := by decide +kernel
set_option maxRecDepth 20000 in
theorem ggX6_setPole_X4_faultOfPole : GoodIn wsX6_setPole wsX4_faultOfPole := goodIn_r _ [5, 6, 7, 4, 8, 9, 10, 11] (by decide +kernel) (by decide +kernel)
set_option maxRecDepth 20000 in
theorem gX6_setPole_X4_faultOfPole : GoodIn wsX6_setPole (va_wsS RX6 98 yX4_faultOfPole wsX4_faultOfPole) := goodIn_app (goodIn_of _ (by decide +kernel)) ggX6_setPole_X4_faultOfPole
set_option maxRecDepth 20000 in
theorem ggX6_setPole_X6_refuse : GoodIn wsX6_setPole wsX6_refuse := goodIn_ca (goodIn_ca (goodIn_ca (goodIn_r _ [14, 15, 16, 17, 18, 19, 20] (by decide +kernel) (by decide +kernel)) (goodIn_sub (fun _ h => List.mem_cons_of_mem _ (List.mem_append_left _ (List.mem_append_left _ (List.mem_append_right _ h)))) (by decide +kernel))) (goodIn_sub (fun _ h => List.mem_cons_of_mem _ (List.mem_append_left _ (List.mem_append_right _ h))) (by decide +kernel))) (goodIn_sub (fun _ h => List.mem_cons_of_mem _ (List.mem_append_right _ h)) (by decide +kernel))
set_option maxRecDepth 20000 in
theorem gX6_setPole_X6_refuse : GoodIn wsX6_setPole (va_wsS RX6 59 yX6_refuse wsX6_refuse) := goodIn_app (goodIn_of _ (by decide +kernel)) ggX6_setPole_X6_refuse
set_option maxRecDepth 20000 in
theorem ggX6_setPole_X6_keepState : GoodIn wsX6_setPole wsX6_keepState := goodIn_r _ [24, 25, 1, 26, 27, 28, 29, 30, 31, 32, 33, 34, 35, 36, 37, 38, 39, 40, 4, 41, 42, 43, 44, 45, 46, 47, 48, 49, 50, 51, 52, 53, 54, 55, 56, 57, 58, 59, 60, 61, 62, 63, 64, 103, 104, 105, 106, 107, 108, 109, 110, 111, 112, 113, 114, 115, 116, 117, 118, 119, 120, 121, 122, 123, 124] (by decide +kernel) (by decide +kernel)
set_option maxRecDepth 20000 in
theorem gX6_setPole_X6_keepState : GoodIn wsX6_setPole (wsV RX6 63 RX6 yX6_keepState wsX6_keepState) := goodIn_app (goodIn_of _ (by decide +kernel)) ggX6_setPole_X6_keepState
set_option maxRecDepth 20000 in
theorem ggX6_setPole_X4_putPole : GoodIn wsX6_setPole wsX4_putPole := goodIn_r _ [68, 44, 45, 113, 114, 115, 116, 117, 118, 119, 120, 121, 122, 123, 124] (by decide +kernel) (by decide +kernel)
set_option maxRecDepth 20000 in
theorem gX6_setPole_X4_putPole : GoodIn wsX6_setPole (wsV RX6 101 RX4 yX4_putPole wsX4_putPole) := goodIn_app (goodIn_of _ (by decide +kernel)) ggX6_setPole_X4_putPole
set_option maxRecDepth 20000 in
theorem ggX6_setPole_X4_costWithPole : GoodIn wsX6_setPole wsX4_costWithPole := goodIn_r _ [72, 53, 73, 74, 75, 4, 76, 42, 46, 77, 78, 79, 80, 57, 58, 59, 60, 81, 82, 83, 84, 85, 86, 87, 88, 89, 90, 48, 47, 91, 92, 93, 94, 95, 96, 97, 98, 49, 99, 100, 101, 102, 113, 114, 115, 116, 117, 118, 119, 120, 121, 122, 123, 124] (by decide +kernel) (by decide +kernel)
set_option maxRecDepth 20000 in
theorem gX6_setPole_X4_costWithPole : GoodIn wsX6_setPole (wsV RX6 105 RX4 yX4_costWithPole wsX4_costWithPole) := goodIn_app (goodIn_of _ (by decide +kernel)) ggX6_setPole_X4_costWithPole
theorem dX6_setPole_0 : decode cX6_setPole 0 = .ok (.iload_n 1, 1) := by decide +kernel
theorem dX6_setPole_1 : decode cX6_setPole 1 = .ok (.iload_n 2, 1) := by decide +kernel
theorem dX6_setPole_2 : decode cX6_setPole 2 = .ok (.invokestatic 98, 3) := by decide +kernel
theorem dX6_setPole_5 : decode cX6_setPole 5 = .ok (.invokestatic 59, 3) := by decide +kernel
theorem dX6_setPole_8 : decode cX6_setPole 8 = .ok (.aload_n 0, 1) := by decide +kernel
theorem dX6_setPole_9 : decode cX6_setPole 9 = .ok (.invokevirtual 63, 3) := by decide +kernel
theorem dX6_setPole_12 : decode cX6_setPole 12 = .ok (.aload_n 0, 1) := by decide +kernel
theorem dX6_setPole_13 : decode cX6_setPole 13 = .ok (.getfield 10, 3) := by decide +kernel
theorem dX6_setPole_16 : decode cX6_setPole 16 = .ok (.iload_n 1, 1) := by decide +kernel
theorem dX6_setPole_17 : decode cX6_setPole 17 = .ok (.iload_n 2, 1) := by decide +kernel
theorem dX6_setPole_18 : decode cX6_setPole 18 = .ok (.invokevirtual 101, 3) := by decide +kernel
theorem dX6_setPole_21 : decode cX6_setPole 21 = .ok (.aload_n 0, 1) := by decide +kernel
theorem dX6_setPole_22 : decode cX6_setPole 22 = .ok (.getfield 10, 3) := by decide +kernel
theorem dX6_setPole_25 : decode cX6_setPole 25 = .ok (.iload_n 1, 1) := by decide +kernel
theorem dX6_setPole_26 : decode cX6_setPole 26 = .ok (.iload_n 2, 1) := by decide +kernel
theorem dX6_setPole_27 : decode cX6_setPole 27 = .ok (.invokevirtual 105, 3) := by decide +kernel
theorem dX6_setPole_30 : decode cX6_setPole 30 = .ok (.ireturn, 1) := by decide +kernel
set_option maxRecDepth 20000 in
theorem ggX6_search_X4_faultOfStep : GoodIn wsX6_search wsX4_faultOfStep := goodIn_r _ [5, 6, 7, 8] (by decide +kernel) (by decide +kernel)
set_option maxRecDepth 20000 in
theorem gX6_search_X4_faultOfStep : GoodIn wsX6_search (va_wsS RX6 108 yX4_faultOfStep wsX4_faultOfStep) := goodIn_app (goodIn_of _ (by decide +kernel)) ggX6_search_X4_faultOfStep
set_option maxRecDepth 20000 in
theorem ggX6_search_X6_refuse : GoodIn wsX6_search wsX6_refuse := goodIn_ca (goodIn_ca (goodIn_ca (goodIn_r _ [11, 12, 13, 14, 15, 16, 17] (by decide +kernel) (by decide +kernel)) (goodIn_sub (fun _ h => List.mem_cons_of_mem _ (List.mem_append_left _ (List.mem_append_left _ (List.mem_append_right _ h)))) (by decide +kernel))) (goodIn_sub (fun _ h => List.mem_cons_of_mem _ (List.mem_append_left _ (List.mem_append_right _ h))) (by decide +kernel))) (goodIn_sub (fun _ h => List.mem_cons_of_mem _ (List.mem_append_right _ h)) (by decide +kernel))
set_option maxRecDepth 20000 in
theorem gX6_search_X6_refuse : GoodIn wsX6_search (va_wsS RX6 59 yX6_refuse wsX6_refuse) := goodIn_app (goodIn_of _ (by decide +kernel)) ggX6_search_X6_refuse
set_option maxRecDepth 20000 in
theorem ggX6_search_X6_keepState : GoodIn wsX6_search wsX6_keepState := goodIn_r _ [21, 22, 1, 23, 24, 25, 26, 27, 28, 29, 30, 31, 32, 33, 34, 35, 36, 37, 4, 38, 39, 40, 41, 42, 43, 44, 45, 46, 47, 48, 49, 50, 51, 52, 53, 54, 55, 56, 57, 58, 59, 60, 61, 104, 105, 106, 107, 108, 109, 110, 111, 112, 113, 114, 115, 116, 117, 118, 119, 120, 121, 122, 123, 124, 125] (by decide +kernel) (by decide +kernel)
set_option maxRecDepth 20000 in
theorem gX6_search_X6_keepState : GoodIn wsX6_search (wsV RX6 63 RX6 yX6_keepState wsX6_keepState) := goodIn_app (goodIn_of _ (by decide +kernel)) ggX6_search_X6_keepState
set_option maxRecDepth 20000 in
theorem ggX6_search_X4_seekPole : GoodIn wsX6_search wsX4_seekPole := goodIn_r _ [65, 50, 41, 42, 66, 67, 68, 69, 4, 70, 39, 43, 71, 72, 73, 74, 54, 55, 56, 57, 75, 76, 77, 78, 79, 80, 81, 82, 83, 84, 45, 44, 85, 86, 87, 88, 89, 90, 91, 92, 46, 93, 94, 95, 96, 97, 98, 99, 6, 7, 8, 100, 101, 102, 103, 114, 115, 116, 117, 118, 119, 120, 121, 122, 123, 124, 125] (by decide +kernel) (by decide +kernel)
set_option maxRecDepth 20000 in
theorem gX6_search_X4_seekPole : GoodIn wsX6_search (wsV RX6 111 RX4 yX4_seekPole wsX4_seekPole) := goodIn_app (goodIn_of _ (by decide +kernel)) ggX6_search_X4_seekPole
theorem dX6_search_0 : decode cX6_search 0 = .ok (.iload_n 1, 1) := by decide +kernel
theorem dX6_search_1 : decode cX6_search 1 = .ok (.invokestatic 108, 3) := by decide +kernel
theorem dX6_search_4 : decode cX6_search 4 = .ok (.invokestatic 59, 3) := by decide +kernel
theorem dX6_search_7 : decode cX6_search 7 = .ok (.aload_n 0, 1) := by decide +kernel
theorem dX6_search_8 : decode cX6_search 8 = .ok (.invokevirtual 63, 3) := by decide +kernel
theorem dX6_search_11 : decode cX6_search 11 = .ok (.aload_n 0, 1) := by decide +kernel
theorem dX6_search_12 : decode cX6_search 12 = .ok (.getfield 10, 3) := by decide +kernel
theorem dX6_search_15 : decode cX6_search 15 = .ok (.iload_n 1, 1) := by decide +kernel
theorem dX6_search_16 : decode cX6_search 16 = .ok (.invokevirtual 111, 3) := by decide +kernel
theorem dX6_search_19 : decode cX6_search 19 = .ok (.ireturn, 1) := by decide +kernel
set_option maxRecDepth 20000 in
theorem ggX6_addStar_X4_faultOfNewStar : GoodIn wsX6_addStar wsX4_faultOfNewStar := goodIn_r _ [6, 7, 8, 9, 10, 11, 12, 77, 78, 79, 80, 81, 82, 83, 84, 85, 86, 87, 88] (by decide +kernel) (by decide +kernel)
set_option maxRecDepth 20000 in
theorem gX6_addStar_X4_faultOfNewStar : GoodIn wsX6_addStar (wsV RX6 114 RX4 yX4_faultOfNewStar wsX4_faultOfNewStar) := goodIn_app (goodIn_of _ (by decide +kernel)) ggX6_addStar_X4_faultOfNewStar
set_option maxRecDepth 20000 in
theorem ggX6_addStar_X6_refuse : GoodIn wsX6_addStar wsX6_refuse := goodIn_ca (goodIn_ca (goodIn_ca (goodIn_r _ [15, 16, 17, 18, 19, 20, 21] (by decide +kernel) (by decide +kernel)) (goodIn_sub (fun _ h => List.mem_cons_of_mem _ (List.mem_append_left _ (List.mem_append_left _ (List.mem_append_right _ h)))) (by decide +kernel))) (goodIn_sub (fun _ h => List.mem_cons_of_mem _ (List.mem_append_left _ (List.mem_append_right _ h))) (by decide +kernel))) (goodIn_sub (fun _ h => List.mem_cons_of_mem _ (List.mem_append_right _ h)) (by decide +kernel))
set_option maxRecDepth 20000 in
theorem gX6_addStar_X6_refuse : GoodIn wsX6_addStar (va_wsS RX6 59 yX6_refuse wsX6_refuse) := goodIn_app (goodIn_of _ (by decide +kernel)) ggX6_addStar_X6_refuse
set_option maxRecDepth 20000 in
theorem ggX6_addStar_X6_keepState : GoodIn wsX6_addStar wsX6_keepState := goodIn_r _ [25, 26, 1, 27, 28, 29, 30, 31, 32, 33, 34, 35, 36, 37, 38, 39, 40, 41, 5, 42, 43, 9, 44, 45, 46, 47, 48, 49, 50, 51, 52, 53, 54, 55, 56, 57, 58, 59, 60, 61, 62, 63, 64, 69, 70, 71, 72, 73, 74, 75, 76, 89, 90, 77, 78, 79, 80, 81, 82, 83, 84, 85, 86, 87, 88] (by decide +kernel) (by decide +kernel)
set_option maxRecDepth 20000 in
theorem gX6_addStar_X6_keepState : GoodIn wsX6_addStar (wsV RX6 63 RX6 yX6_keepState wsX6_keepState) := goodIn_app (goodIn_of _ (by decide +kernel)) ggX6_addStar_X6_keepState
set_option maxRecDepth 20000 in
theorem ggX6_addStar_X4_putStar : GoodIn wsX6_addStar wsX4_putStar := goodIn_r _ [68, 50, 9, 51, 52, 77, 78, 79, 80, 81, 82, 83, 84, 85, 86, 87, 88] (by decide +kernel) (by decide +kernel)
set_option maxRecDepth 20000 in
theorem gX6_addStar_X4_putStar : GoodIn wsX6_addStar (wsV RX6 118 RX4 yX4_putStar wsX4_putStar) := goodIn_app (goodIn_of _ (by decide +kernel)) ggX6_addStar_X4_putStar
theorem dX6_addStar_0 : decode cX6_addStar 0 = .ok (.aload_n 0, 1) := by decide +kernel
theorem dX6_addStar_1 : decode cX6_addStar 1 = .ok (.getfield 10, 3) := by decide +kernel
theorem dX6_addStar_4 : decode cX6_addStar 4 = .ok (.iload_n 1, 1) := by decide +kernel
theorem dX6_addStar_5 : decode cX6_addStar 5 = .ok (.iload_n 2, 1) := by decide +kernel
theorem dX6_addStar_6 : decode cX6_addStar 6 = .ok (.iload_n 3, 1) := by decide +kernel
theorem dX6_addStar_7 : decode cX6_addStar 7 = .ok (.invokevirtual 114, 3) := by decide +kernel
theorem dX6_addStar_10 : decode cX6_addStar 10 = .ok (.invokestatic 59, 3) := by decide +kernel
theorem dX6_addStar_13 : decode cX6_addStar 13 = .ok (.aload_n 0, 1) := by decide +kernel
theorem dX6_addStar_14 : decode cX6_addStar 14 = .ok (.invokevirtual 63, 3) := by decide +kernel
theorem dX6_addStar_17 : decode cX6_addStar 17 = .ok (.aload_n 0, 1) := by decide +kernel
theorem dX6_addStar_18 : decode cX6_addStar 18 = .ok (.getfield 10, 3) := by decide +kernel
theorem dX6_addStar_21 : decode cX6_addStar 21 = .ok (.iload_n 1, 1) := by decide +kernel
theorem dX6_addStar_22 : decode cX6_addStar 22 = .ok (.iload_n 2, 1) := by decide +kernel
theorem dX6_addStar_23 : decode cX6_addStar 23 = .ok (.iload_n 3, 1) := by decide +kernel
theorem dX6_addStar_24 : decode cX6_addStar 24 = .ok (.invokevirtual 118, 3) := by decide +kernel
theorem dX6_addStar_27 : decode cX6_addStar 27 = .ok (.ireturn, 1) := by decide +kernel
set_option maxRecDepth 20000 in
theorem ggX6_removeStar_X4_hasStar : GoodIn wsX6_removeStar wsX4_hasStar := goodIn_r _ [6, 7, 76, 77, 78, 79, 80, 81, 82, 83, 84, 85, 86, 87] (by decide +kernel) (by decide +kernel)
set_option maxRecDepth 20000 in
theorem gX6_removeStar_X4_hasStar : GoodIn wsX6_removeStar (wsV RX6 121 RX4 yX4_hasStar wsX4_hasStar) := goodIn_app (goodIn_of _ (by decide +kernel)) ggX6_removeStar_X4_hasStar
set_option maxRecDepth 20000 in
theorem ggX6_removeStar_X6_refuse : GoodIn wsX6_removeStar wsX6_refuse := goodIn_ca (goodIn_ca (goodIn_ca (goodIn_r _ [11, 12, 13, 14, 15, 16, 17] (by decide +kernel) (by decide +kernel)) (goodIn_sub (fun _ h => List.mem_cons_of_mem _ (List.mem_append_left _ (List.mem_append_left _ (List.mem_append_right _ h)))) (by decide +kernel))) (goodIn_sub (fun _ h => List.mem_cons_of_mem _ (List.mem_append_left _ (List.mem_append_right _ h))) (by decide +kernel))) (goodIn_sub (fun _ h => List.mem_cons_of_mem _ (List.mem_append_right _ h)) (by decide +kernel))
set_option maxRecDepth 20000 in
theorem gX6_removeStar_X6_refuse : GoodIn wsX6_removeStar (va_wsS RX6 59 yX6_refuse wsX6_refuse) := goodIn_app (goodIn_of _ (by decide +kernel)) ggX6_removeStar_X6_refuse
set_option maxRecDepth 20000 in
theorem ggX6_removeStar_X6_keepState : GoodIn wsX6_removeStar wsX6_keepState := goodIn_r _ [21, 22, 1, 23, 24, 25, 26, 27, 28, 29, 30, 31, 32, 33, 34, 35, 36, 37, 5, 38, 39, 7, 40, 41, 42, 43, 44, 45, 46, 47, 48, 49, 50, 51, 52, 53, 54, 55, 56, 57, 58, 59, 60, 68, 69, 70, 71, 72, 73, 74, 75, 88, 89, 76, 77, 78, 79, 80, 81, 82, 83, 84, 85, 86, 87] (by decide +kernel) (by decide +kernel)
set_option maxRecDepth 20000 in
theorem gX6_removeStar_X6_keepState : GoodIn wsX6_removeStar (wsV RX6 63 RX6 yX6_keepState wsX6_keepState) := goodIn_app (goodIn_of _ (by decide +kernel)) ggX6_removeStar_X6_keepState
set_option maxRecDepth 20000 in
theorem ggX6_removeStar_X4_dropStar : GoodIn wsX6_removeStar wsX4_dropStar := goodIn_r _ [64, 46, 7, 47, 48, 65, 66, 5, 67, 76, 77, 78, 79, 80, 81, 82, 83, 84, 85, 86, 87] (by decide +kernel) (by decide +kernel)
set_option maxRecDepth 20000 in
theorem gX6_removeStar_X4_dropStar : GoodIn wsX6_removeStar (wsV RX6 124 RX4 yX4_dropStar wsX4_dropStar) := goodIn_app (goodIn_of _ (by decide +kernel)) ggX6_removeStar_X4_dropStar
theorem dX6_removeStar_0 : decode cX6_removeStar 0 = .ok (.aload_n 0, 1) := by decide +kernel
theorem dX6_removeStar_1 : decode cX6_removeStar 1 = .ok (.getfield 10, 3) := by decide +kernel
theorem dX6_removeStar_4 : decode cX6_removeStar 4 = .ok (.iload_n 1, 1) := by decide +kernel
theorem dX6_removeStar_5 : decode cX6_removeStar 5 = .ok (.invokevirtual 121, 3) := by decide +kernel
theorem dX6_removeStar_8 : decode cX6_removeStar 8 = .ok (.ifCond .eq 7, 3) := by decide +kernel
theorem dX6_removeStar_11 : decode cX6_removeStar 11 = .ok (.iconst 0, 1) := by decide +kernel
theorem dX6_removeStar_12 : decode cX6_removeStar 12 = .ok (.goto 4, 3) := by decide +kernel
theorem dX6_removeStar_15 : decode cX6_removeStar 15 = .ok (.iconst 1, 1) := by decide +kernel
theorem dX6_removeStar_16 : decode cX6_removeStar 16 = .ok (.invokestatic 59, 3) := by decide +kernel
theorem dX6_removeStar_19 : decode cX6_removeStar 19 = .ok (.aload_n 0, 1) := by decide +kernel
theorem dX6_removeStar_20 : decode cX6_removeStar 20 = .ok (.invokevirtual 63, 3) := by decide +kernel
theorem dX6_removeStar_23 : decode cX6_removeStar 23 = .ok (.aload_n 0, 1) := by decide +kernel
theorem dX6_removeStar_24 : decode cX6_removeStar 24 = .ok (.getfield 10, 3) := by decide +kernel
theorem dX6_removeStar_27 : decode cX6_removeStar 27 = .ok (.iload_n 1, 1) := by decide +kernel
theorem dX6_removeStar_28 : decode cX6_removeStar 28 = .ok (.invokevirtual 124, 3) := by decide +kernel
theorem dX6_removeStar_31 : decode cX6_removeStar 31 = .ok (.ireturn, 1) := by decide +kernel
set_option maxRecDepth 20000 in
theorem ggX6_point_X4_hasPoint : GoodIn wsX6_point wsX4_hasPoint := goodIn_r _ [6, 7, 8, 9, 10, 5, 11, 12, 80, 81, 82, 83, 84, 85, 86, 87, 88, 89, 90, 91] (by decide +kernel) (by decide +kernel)
set_option maxRecDepth 20000 in
theorem gX6_point_X4_hasPoint : GoodIn wsX6_point (wsV RX6 84 RX4 yX4_hasPoint wsX4_hasPoint) := goodIn_app (goodIn_of _ (by decide +kernel)) ggX6_point_X4_hasPoint
set_option maxRecDepth 20000 in
theorem ggX6_point_X6_refuse : GoodIn wsX6_point wsX6_refuse := goodIn_ca (goodIn_ca (goodIn_ca (goodIn_r _ [16, 17, 18, 19, 20, 21, 22] (by decide +kernel) (by decide +kernel)) (goodIn_sub (fun _ h => List.mem_cons_of_mem _ (List.mem_append_left _ (List.mem_append_left _ (List.mem_append_right _ h)))) (by decide +kernel))) (goodIn_sub (fun _ h => List.mem_cons_of_mem _ (List.mem_append_left _ (List.mem_append_right _ h))) (by decide +kernel))) (goodIn_sub (fun _ h => List.mem_cons_of_mem _ (List.mem_append_right _ h)) (by decide +kernel))
set_option maxRecDepth 20000 in
theorem gX6_point_X6_refuse : GoodIn wsX6_point (va_wsS RX6 59 yX6_refuse wsX6_refuse) := goodIn_app (goodIn_of _ (by decide +kernel)) ggX6_point_X6_refuse
set_option maxRecDepth 20000 in
theorem ggX6_point_X6_inRange : GoodIn wsX6_point wsX6_inRange := goodIn_r _ [25] (by decide +kernel) (by decide +kernel)
set_option maxRecDepth 20000 in
theorem gX6_point_X6_inRange : GoodIn wsX6_point (va_wsS RX6 127 yX6_inRange wsX6_inRange) := goodIn_app (goodIn_of _ (by decide +kernel)) ggX6_point_X6_inRange
set_option maxRecDepth 20000 in
theorem ggX6_point_X4_pointValue : GoodIn wsX6_point wsX4_pointValue := goodIn_r _ [29, 30, 31, 32, 33, 34, 35, 5, 36, 37, 38, 39, 40, 41, 42, 43, 44, 45, 46, 47, 48, 49, 50, 51, 52, 53, 54, 55, 56, 57, 58, 59, 60, 61, 62, 63, 64, 65, 66, 67, 68, 69, 70, 71, 80, 81, 82, 83, 84, 85, 86, 87, 88, 89, 90, 91] (by decide +kernel) (by decide +kernel)
set_option maxRecDepth 20000 in
theorem gX6_point_X4_pointValue : GoodIn wsX6_point (wsV RX6 131 RX4 yX4_pointValue wsX4_pointValue) := goodIn_app (goodIn_of _ (by decide +kernel)) ggX6_point_X4_pointValue
theorem dX6_point_0 : decode cX6_point 0 = .ok (.aload_n 0, 1) := by decide +kernel
theorem dX6_point_1 : decode cX6_point 1 = .ok (.getfield 10, 3) := by decide +kernel
theorem dX6_point_4 : decode cX6_point 4 = .ok (.iload_n 1, 1) := by decide +kernel
theorem dX6_point_5 : decode cX6_point 5 = .ok (.iload_n 2, 1) := by decide +kernel
theorem dX6_point_6 : decode cX6_point 6 = .ok (.invokevirtual 84, 3) := by decide +kernel
theorem dX6_point_9 : decode cX6_point 9 = .ok (.ifCond .eq 7, 3) := by decide +kernel
theorem dX6_point_12 : decode cX6_point 12 = .ok (.iconst 0, 1) := by decide +kernel
theorem dX6_point_13 : decode cX6_point 13 = .ok (.goto 4, 3) := by decide +kernel
theorem dX6_point_16 : decode cX6_point 16 = .ok (.iconst 1, 1) := by decide +kernel
theorem dX6_point_17 : decode cX6_point 17 = .ok (.invokestatic 59, 3) := by decide +kernel
theorem dX6_point_20 : decode cX6_point 20 = .ok (.iload_n 3, 1) := by decide +kernel
theorem dX6_point_21 : decode cX6_point 21 = .ok (.iconst 0, 1) := by decide +kernel
theorem dX6_point_22 : decode cX6_point 22 = .ok (.bipush 6, 2) := by decide +kernel
theorem dX6_point_24 : decode cX6_point 24 = .ok (.invokestatic 127, 3) := by decide +kernel
theorem dX6_point_27 : decode cX6_point 27 = .ok (.ifCond .eq 7, 3) := by decide +kernel
theorem dX6_point_30 : decode cX6_point 30 = .ok (.iconst 0, 1) := by decide +kernel
theorem dX6_point_31 : decode cX6_point 31 = .ok (.goto 4, 3) := by decide +kernel
theorem dX6_point_34 : decode cX6_point 34 = .ok (.iconst 2, 1) := by decide +kernel
theorem dX6_point_35 : decode cX6_point 35 = .ok (.invokestatic 59, 3) := by decide +kernel
theorem dX6_point_38 : decode cX6_point 38 = .ok (.aload_n 0, 1) := by decide +kernel
theorem dX6_point_39 : decode cX6_point 39 = .ok (.getfield 10, 3) := by decide +kernel
theorem dX6_point_42 : decode cX6_point 42 = .ok (.iload_n 1, 1) := by decide +kernel
theorem dX6_point_43 : decode cX6_point 43 = .ok (.iload_n 2, 1) := by decide +kernel
theorem dX6_point_44 : decode cX6_point 44 = .ok (.iload_n 3, 1) := by decide +kernel
theorem dX6_point_45 : decode cX6_point 45 = .ok (.invokevirtual 131, 3) := by decide +kernel
theorem dX6_point_48 : decode cX6_point 48 = .ok (.ireturn, 1) := by decide +kernel
set_option maxRecDepth 20000 in
theorem ggX6_trail_X4_hasTrail : GoodIn wsX6_trail wsX4_hasTrail := goodIn_r _ [6, 7, 200, 201, 202, 203, 204, 205, 206, 207, 208, 209, 210, 211] (by decide +kernel) (by decide +kernel)
set_option maxRecDepth 20000 in
theorem gX6_trail_X4_hasTrail : GoodIn wsX6_trail (wsV RX6 69 RX4 yX4_hasTrail wsX4_hasTrail) := goodIn_app (goodIn_of _ (by decide +kernel)) ggX6_trail_X4_hasTrail
set_option maxRecDepth 20000 in
theorem ggX6_trail_X6_refuse : GoodIn wsX6_trail wsX6_refuse := goodIn_ca (goodIn_ca (goodIn_ca (goodIn_r _ [11, 12, 13, 14, 15, 16, 17] (by decide +kernel) (by decide +kernel)) (goodIn_sub (fun _ h => List.mem_cons_of_mem _ (List.mem_append_left _ (List.mem_append_left _ (List.mem_append_right _ h)))) (by decide +kernel))) (goodIn_sub (fun _ h => List.mem_cons_of_mem _ (List.mem_append_left _ (List.mem_append_right _ h))) (by decide +kernel))) (goodIn_sub (fun _ h => List.mem_cons_of_mem _ (List.mem_append_right _ h)) (by decide +kernel))
set_option maxRecDepth 20000 in
theorem gX6_trail_X6_refuse : GoodIn wsX6_trail (va_wsS RX6 59 yX6_refuse wsX6_refuse) := goodIn_app (goodIn_of _ (by decide +kernel)) ggX6_trail_X6_refuse
set_option maxRecDepth 20000 in
theorem ggX6_trail_X6_inRange : GoodIn wsX6_trail wsX6_inRange := goodIn_r _ [20] (by decide +kernel) (by decide +kernel)
set_option maxRecDepth 20000 in
theorem gX6_trail_X6_inRange : GoodIn wsX6_trail (va_wsS RX6 127 yX6_inRange wsX6_inRange) := goodIn_app (goodIn_of _ (by decide +kernel)) ggX6_trail_X6_inRange
set_option maxRecDepth 20000 in
theorem ggX6_trail_X6_look : GoodIn wsX6_trail wsX6_look := goodIn_r _ [24, 25, 26, 1, 27, 28, 29, 30, 31, 32, 33, 34, 35, 36, 37, 38, 39, 40, 41, 42, 43, 44, 45, 46, 47, 48, 49, 50, 51, 5, 52, 53, 54, 55, 56, 57, 58, 59, 60, 61, 62, 63, 64, 65, 66, 67, 68, 69, 70, 71, 72, 73, 74, 75, 76, 77, 78, 79, 80, 81, 82, 83, 84, 85, 86, 87, 88, 89, 90, 91, 92, 93, 94, 95, 96, 97, 98, 99, 100, 101, 102, 103, 104, 105, 106, 107, 108, 109, 110, 111, 112, 113, 114, 115, 116, 117, 118, 119, 120, 121, 122, 123, 124, 125, 126, 127, 128, 129, 130, 131, 132, 133, 134, 135, 136, 137, 138, 139, 140, 141, 142, 143, 144, 145, 146, 147, 148, 149, 150, 151, 152, 153, 154, 155, 156, 157, 158, 159, 160, 161, 162, 163, 164, 165, 166, 167, 168, 169, 170, 171, 172, 173, 174, 175, 176, 177, 178, 192, 193, 194, 195, 196, 197, 198, 199, 200, 201, 202, 203, 204, 205, 206, 207, 208, 209, 210, 211, 212, 213, 214, 215, 216, 217, 218, 219, 220, 221, 222, 223, 224, 225, 226, 227, 228] (by decide +kernel) (by decide +kernel)
set_option maxRecDepth 20000 in
theorem gX6_trail_X6_look : GoodIn wsX6_trail (wsV RX6 134 RX6 yX6_look wsX6_look) := goodIn_app (goodIn_of _ (by decide +kernel)) ggX6_trail_X6_look
set_option maxRecDepth 20000 in
theorem ggX6_trail_X6_trailValue : GoodIn wsX6_trail wsX6_trailValue := goodIn_r _ [182, 1, 183, 26, 184, 185, 186, 187, 188, 189, 190, 27, 191, 192, 193, 194, 195, 196, 197, 198, 199, 200, 201, 202, 203, 204, 205, 206, 207, 208, 209, 210, 211, 212, 213, 214, 215, 216, 217, 218, 219, 220, 221, 222, 223, 224, 225, 226, 227, 228] (by decide +kernel) (by decide +kernel)
set_option maxRecDepth 20000 in
theorem gX6_trail_X6_trailValue : GoodIn wsX6_trail (wsV RX6 137 RX6 yX6_trailValue wsX6_trailValue) := goodIn_app (goodIn_of _ (by decide +kernel)) ggX6_trail_X6_trailValue
theorem dX6_trail_0 : decode cX6_trail 0 = .ok (.aload_n 0, 1) := by decide +kernel
theorem dX6_trail_1 : decode cX6_trail 1 = .ok (.getfield 10, 3) := by decide +kernel
theorem dX6_trail_4 : decode cX6_trail 4 = .ok (.iload_n 1, 1) := by decide +kernel
theorem dX6_trail_5 : decode cX6_trail 5 = .ok (.invokevirtual 69, 3) := by decide +kernel
theorem dX6_trail_8 : decode cX6_trail 8 = .ok (.ifCond .eq 7, 3) := by decide +kernel
theorem dX6_trail_11 : decode cX6_trail 11 = .ok (.iconst 0, 1) := by decide +kernel
theorem dX6_trail_12 : decode cX6_trail 12 = .ok (.goto 4, 3) := by decide +kernel
theorem dX6_trail_15 : decode cX6_trail 15 = .ok (.iconst 1, 1) := by decide +kernel
theorem dX6_trail_16 : decode cX6_trail 16 = .ok (.invokestatic 59, 3) := by decide +kernel
theorem dX6_trail_19 : decode cX6_trail 19 = .ok (.iload_n 2, 1) := by decide +kernel
theorem dX6_trail_20 : decode cX6_trail 20 = .ok (.iconst 0, 1) := by decide +kernel
theorem dX6_trail_21 : decode cX6_trail 21 = .ok (.bipush 8, 2) := by decide +kernel
theorem dX6_trail_23 : decode cX6_trail 23 = .ok (.invokestatic 127, 3) := by decide +kernel
theorem dX6_trail_26 : decode cX6_trail 26 = .ok (.ifCond .eq 7, 3) := by decide +kernel
theorem dX6_trail_29 : decode cX6_trail 29 = .ok (.iconst 0, 1) := by decide +kernel
theorem dX6_trail_30 : decode cX6_trail 30 = .ok (.goto 4, 3) := by decide +kernel
theorem dX6_trail_33 : decode cX6_trail 33 = .ok (.iconst 2, 1) := by decide +kernel
theorem dX6_trail_34 : decode cX6_trail 34 = .ok (.invokestatic 59, 3) := by decide +kernel
theorem dX6_trail_37 : decode cX6_trail 37 = .ok (.aload_n 0, 1) := by decide +kernel
theorem dX6_trail_38 : decode cX6_trail 38 = .ok (.invokevirtual 134, 3) := by decide +kernel
theorem dX6_trail_41 : decode cX6_trail 41 = .ok (.aload_n 0, 1) := by decide +kernel
theorem dX6_trail_42 : decode cX6_trail 42 = .ok (.iload_n 1, 1) := by decide +kernel
theorem dX6_trail_43 : decode cX6_trail 43 = .ok (.iload_n 2, 1) := by decide +kernel
theorem dX6_trail_44 : decode cX6_trail 44 = .ok (.invokevirtual 137, 3) := by decide +kernel
theorem dX6_trail_47 : decode cX6_trail 47 = .ok (.ireturn, 1) := by decide +kernel
set_option maxRecDepth 20000 in
theorem ggX6_star_X4_hasStar : GoodIn wsX6_star wsX4_hasStar := goodIn_r _ [6, 7, 202, 203, 204, 205, 206, 207, 208, 209, 210, 211, 212, 213] (by decide +kernel) (by decide +kernel)
set_option maxRecDepth 20000 in
theorem gX6_star_X4_hasStar : GoodIn wsX6_star (wsV RX6 121 RX4 yX4_hasStar wsX4_hasStar) := goodIn_app (goodIn_of _ (by decide +kernel)) ggX6_star_X4_hasStar
set_option maxRecDepth 20000 in
theorem ggX6_star_X6_refuse : GoodIn wsX6_star wsX6_refuse := goodIn_ca (goodIn_ca (goodIn_ca (goodIn_r _ [11, 12, 13, 14, 15, 16, 17] (by decide +kernel) (by decide +kernel)) (goodIn_sub (fun _ h => List.mem_cons_of_mem _ (List.mem_append_left _ (List.mem_append_left _ (List.mem_append_right _ h)))) (by decide +kernel))) (goodIn_sub (fun _ h => List.mem_cons_of_mem _ (List.mem_append_left _ (List.mem_append_right _ h))) (by decide +kernel))) (goodIn_sub (fun _ h => List.mem_cons_of_mem _ (List.mem_append_right _ h)) (by decide +kernel))
set_option maxRecDepth 20000 in
theorem gX6_star_X6_refuse : GoodIn wsX6_star (va_wsS RX6 59 yX6_refuse wsX6_refuse) := goodIn_app (goodIn_of _ (by decide +kernel)) ggX6_star_X6_refuse
set_option maxRecDepth 20000 in
theorem ggX6_star_X6_inRange : GoodIn wsX6_star wsX6_inRange := goodIn_r _ [20] (by decide +kernel) (by decide +kernel)
set_option maxRecDepth 20000 in
theorem gX6_star_X6_inRange : GoodIn wsX6_star (va_wsS RX6 127 yX6_inRange wsX6_inRange) := goodIn_app (goodIn_of _ (by decide +kernel)) ggX6_star_X6_inRange
set_option maxRecDepth 20000 in
theorem ggX6_star_X6_look : GoodIn wsX6_star wsX6_look := goodIn_r _ [24, 25, 26, 1, 27, 28, 29, 30, 31, 32, 33, 34, 35, 36, 37, 38, 39, 40, 41, 42, 43, 44, 45, 46, 47, 48, 49, 50, 51, 5, 52, 53, 54, 55, 56, 57, 58, 59, 60, 61, 62, 63, 64, 65, 66, 67, 68, 69, 70, 71, 72, 73, 74, 75, 76, 77, 78, 79, 80, 81, 82, 83, 84, 85, 86, 87, 88, 89, 90, 91, 92, 93, 94, 95, 96, 97, 98, 99, 100, 101, 102, 103, 104, 105, 106, 107, 108, 109, 110, 111, 112, 113, 114, 115, 116, 117, 118, 119, 120, 121, 122, 123, 124, 125, 126, 127, 128, 129, 130, 131, 132, 133, 134, 135, 136, 137, 138, 139, 140, 141, 142, 143, 144, 145, 146, 147, 148, 149, 150, 151, 152, 153, 154, 155, 156, 157, 158, 159, 160, 161, 162, 163, 164, 165, 166, 167, 168, 169, 170, 171, 172, 173, 174, 175, 176, 177, 178, 194, 195, 196, 197, 198, 199, 200, 201, 202, 203, 204, 205, 206, 207, 208, 209, 210, 211, 212, 213, 214, 215, 216, 217, 218, 219, 220, 221, 222, 223, 224, 225, 226, 227, 228, 229, 230] (by decide +kernel) (by decide +kernel)
set_option maxRecDepth 20000 in
theorem gX6_star_X6_look : GoodIn wsX6_star (wsV RX6 134 RX6 yX6_look wsX6_look) := goodIn_app (goodIn_of _ (by decide +kernel)) ggX6_star_X6_look
set_option maxRecDepth 20000 in
theorem ggX6_star_X6_starValue : GoodIn wsX6_star wsX6_starValue := goodIn_r _ [182, 1, 183, 184, 185, 27, 186, 187, 188, 161, 162, 5, 163, 164, 57, 165, 189, 190, 191, 10, 192, 193, 28, 194, 195, 196, 197, 198, 199, 200, 201, 202, 203, 204, 205, 206, 207, 208, 209, 210, 211, 212, 213, 222, 223, 224, 225, 226, 227, 228, 229, 230] (by decide +kernel) (by decide +kernel)
set_option maxRecDepth 20000 in
theorem gX6_star_X6_starValue : GoodIn wsX6_star (wsV RX6 140 RX6 yX6_starValue wsX6_starValue) := goodIn_app (goodIn_of _ (by decide +kernel)) ggX6_star_X6_starValue
theorem dX6_star_0 : decode cX6_star 0 = .ok (.aload_n 0, 1) := by decide +kernel
theorem dX6_star_1 : decode cX6_star 1 = .ok (.getfield 10, 3) := by decide +kernel
theorem dX6_star_4 : decode cX6_star 4 = .ok (.iload_n 1, 1) := by decide +kernel
theorem dX6_star_5 : decode cX6_star 5 = .ok (.invokevirtual 121, 3) := by decide +kernel
theorem dX6_star_8 : decode cX6_star 8 = .ok (.ifCond .eq 7, 3) := by decide +kernel
theorem dX6_star_11 : decode cX6_star 11 = .ok (.iconst 0, 1) := by decide +kernel
theorem dX6_star_12 : decode cX6_star 12 = .ok (.goto 4, 3) := by decide +kernel
theorem dX6_star_15 : decode cX6_star 15 = .ok (.iconst 1, 1) := by decide +kernel
theorem dX6_star_16 : decode cX6_star 16 = .ok (.invokestatic 59, 3) := by decide +kernel
theorem dX6_star_19 : decode cX6_star 19 = .ok (.iload_n 2, 1) := by decide +kernel
theorem dX6_star_20 : decode cX6_star 20 = .ok (.iconst 0, 1) := by decide +kernel
theorem dX6_star_21 : decode cX6_star 21 = .ok (.bipush 6, 2) := by decide +kernel
theorem dX6_star_23 : decode cX6_star 23 = .ok (.invokestatic 127, 3) := by decide +kernel
theorem dX6_star_26 : decode cX6_star 26 = .ok (.ifCond .eq 7, 3) := by decide +kernel
theorem dX6_star_29 : decode cX6_star 29 = .ok (.iconst 0, 1) := by decide +kernel
theorem dX6_star_30 : decode cX6_star 30 = .ok (.goto 4, 3) := by decide +kernel
theorem dX6_star_33 : decode cX6_star 33 = .ok (.iconst 2, 1) := by decide +kernel
theorem dX6_star_34 : decode cX6_star 34 = .ok (.invokestatic 59, 3) := by decide +kernel
theorem dX6_star_37 : decode cX6_star 37 = .ok (.aload_n 0, 1) := by decide +kernel
theorem dX6_star_38 : decode cX6_star 38 = .ok (.invokevirtual 134, 3) := by decide +kernel
theorem dX6_star_41 : decode cX6_star 41 = .ok (.aload_n 0, 1) := by decide +kernel
theorem dX6_star_42 : decode cX6_star 42 = .ok (.iload_n 1, 1) := by decide +kernel
theorem dX6_star_43 : decode cX6_star 43 = .ok (.iload_n 2, 1) := by decide +kernel
theorem dX6_star_44 : decode cX6_star 44 = .ok (.invokevirtual 140, 3) := by decide +kernel
theorem dX6_star_47 : decode cX6_star 47 = .ok (.ireturn, 1) := by decide +kernel
set_option maxRecDepth 20000 in
theorem ggX6_starAngle_X4_hasStar : GoodIn wsX6_starAngle wsX4_hasStar := goodIn_r _ [7, 8, 41, 42, 43, 44, 45, 46, 47, 48, 49, 50, 51, 52] (by decide +kernel) (by decide +kernel)
set_option maxRecDepth 20000 in
theorem gX6_starAngle_X4_hasStar : GoodIn wsX6_starAngle (wsV RX6 121 RX4 yX4_hasStar wsX4_hasStar) := goodIn_app (goodIn_of _ (by decide +kernel)) ggX6_starAngle_X4_hasStar
set_option maxRecDepth 20000 in
theorem ggX6_starAngle_X6_refuse : GoodIn wsX6_starAngle wsX6_refuse := goodIn_ca (goodIn_ca (goodIn_ca (goodIn_r _ [12, 13, 14, 15, 16, 17, 18] (by decide +kernel) (by decide +kernel)) (goodIn_sub (fun _ h => List.mem_cons_of_mem _ (List.mem_append_left _ (List.mem_append_left _ (List.mem_append_right _ h)))) (by decide +kernel))) (goodIn_sub (fun _ h => List.mem_cons_of_mem _ (List.mem_append_left _ (List.mem_append_right _ h))) (by decide +kernel))) (goodIn_sub (fun _ h => List.mem_cons_of_mem _ (List.mem_append_right _ h)) (by decide +kernel))
set_option maxRecDepth 20000 in
theorem gX6_starAngle_X6_refuse : GoodIn wsX6_starAngle (va_wsS RX6 59 yX6_refuse wsX6_refuse) := goodIn_app (goodIn_of _ (by decide +kernel)) ggX6_starAngle_X6_refuse
set_option maxRecDepth 20000 in
theorem ggX6_starAngle_X6_inRange : GoodIn wsX6_starAngle wsX6_inRange := goodIn_r _ [21] (by decide +kernel) (by decide +kernel)
set_option maxRecDepth 20000 in
theorem gX6_starAngle_X6_inRange : GoodIn wsX6_starAngle (va_wsS RX6 127 yX6_inRange wsX6_inRange) := goodIn_app (goodIn_of _ (by decide +kernel)) ggX6_starAngle_X6_inRange
set_option maxRecDepth 20000 in
theorem ggX6_starAngle_X4_angleOfStar : GoodIn wsX6_starAngle wsX4_angleOfStar := goodIn_r _ [25, 26, 27, 28, 29, 30, 31, 32, 41, 42, 43, 44, 45, 46, 47, 48, 49, 50, 51, 52] (by decide +kernel) (by decide +kernel)
set_option maxRecDepth 20000 in
theorem gX6_starAngle_X4_angleOfStar : GoodIn wsX6_starAngle (wsV RX6 147 RX4 yX4_angleOfStar wsX4_angleOfStar) := goodIn_app (goodIn_of _ (by decide +kernel)) ggX6_starAngle_X4_angleOfStar
theorem dX6_starAngle_0 : decode cX6_starAngle 0 = .ok (.aload_n 0, 1) := by decide +kernel
theorem dX6_starAngle_1 : decode cX6_starAngle 1 = .ok (.getfield 10, 3) := by decide +kernel
theorem dX6_starAngle_4 : decode cX6_starAngle 4 = .ok (.iload_n 1, 1) := by decide +kernel
theorem dX6_starAngle_5 : decode cX6_starAngle 5 = .ok (.invokevirtual 121, 3) := by decide +kernel
theorem dX6_starAngle_8 : decode cX6_starAngle 8 = .ok (.ifCond .eq 7, 3) := by decide +kernel
theorem dX6_starAngle_11 : decode cX6_starAngle 11 = .ok (.iconst 0, 1) := by decide +kernel
theorem dX6_starAngle_12 : decode cX6_starAngle 12 = .ok (.goto 4, 3) := by decide +kernel
theorem dX6_starAngle_15 : decode cX6_starAngle 15 = .ok (.iconst 1, 1) := by decide +kernel
theorem dX6_starAngle_16 : decode cX6_starAngle 16 = .ok (.invokestatic 59, 3) := by decide +kernel
theorem dX6_starAngle_19 : decode cX6_starAngle 19 = .ok (.iload_n 2, 1) := by decide +kernel
theorem dX6_starAngle_20 : decode cX6_starAngle 20 = .ok (.iconst 0, 1) := by decide +kernel
theorem dX6_starAngle_21 : decode cX6_starAngle 21 = .ok (.sipush 1000, 3) := by decide +kernel
theorem dX6_starAngle_24 : decode cX6_starAngle 24 = .ok (.invokestatic 127, 3) := by decide +kernel
theorem dX6_starAngle_27 : decode cX6_starAngle 27 = .ok (.ifCond .eq 7, 3) := by decide +kernel
theorem dX6_starAngle_30 : decode cX6_starAngle 30 = .ok (.iconst 0, 1) := by decide +kernel
theorem dX6_starAngle_31 : decode cX6_starAngle 31 = .ok (.goto 4, 3) := by decide +kernel
theorem dX6_starAngle_34 : decode cX6_starAngle 34 = .ok (.iconst 2, 1) := by decide +kernel
theorem dX6_starAngle_35 : decode cX6_starAngle 35 = .ok (.invokestatic 59, 3) := by decide +kernel
theorem dX6_starAngle_38 : decode cX6_starAngle 38 = .ok (.aload_n 0, 1) := by decide +kernel
theorem dX6_starAngle_39 : decode cX6_starAngle 39 = .ok (.getfield 10, 3) := by decide +kernel
theorem dX6_starAngle_42 : decode cX6_starAngle 42 = .ok (.iload_n 1, 1) := by decide +kernel
theorem dX6_starAngle_43 : decode cX6_starAngle 43 = .ok (.aload_n 0, 1) := by decide +kernel
theorem dX6_starAngle_44 : decode cX6_starAngle 44 = .ok (.getfield 10, 3) := by decide +kernel
theorem dX6_starAngle_47 : decode cX6_starAngle 47 = .ok (.getfield 143, 3) := by decide +kernel
theorem dX6_starAngle_50 : decode cX6_starAngle 50 = .ok (.bipush 8, 2) := by decide +kernel
theorem dX6_starAngle_52 : decode cX6_starAngle 52 = .ok (.iaload, 1) := by decide +kernel
theorem dX6_starAngle_53 : decode cX6_starAngle 53 = .ok (.iload_n 2, 1) := by decide +kernel
theorem dX6_starAngle_54 : decode cX6_starAngle 54 = .ok (.invokevirtual 147, 3) := by decide +kernel
theorem dX6_starAngle_57 : decode cX6_starAngle 57 = .ok (.ireturn, 1) := by decide +kernel
set_option maxRecDepth 20000 in
theorem ggX6_cost_X4_hasTrail : GoodIn wsX6_cost wsX4_hasTrail := goodIn_r _ [10, 11, 192, 193, 194, 195, 196, 197, 198, 199, 200, 201, 202, 203] (by decide +kernel) (by decide +kernel)
set_option maxRecDepth 20000 in
theorem gX6_cost_X4_hasTrail : GoodIn wsX6_cost (wsV RX6 69 RX4 yX4_hasTrail wsX4_hasTrail) := goodIn_app (goodIn_of _ (by decide +kernel)) ggX6_cost_X4_hasTrail
set_option maxRecDepth 20000 in
theorem ggX6_cost_X4_hasStar : GoodIn wsX6_cost wsX4_hasStar := goodIn_r _ [15, 16, 192, 193, 194, 195, 196, 197, 198, 199, 200, 201, 202, 203] (by decide +kernel) (by decide +kernel)
set_option maxRecDepth 20000 in
theorem gX6_cost_X4_hasStar : GoodIn wsX6_cost (wsV RX6 121 RX4 yX4_hasStar wsX4_hasStar) := goodIn_app (goodIn_of _ (by decide +kernel)) ggX6_cost_X4_hasStar
set_option maxRecDepth 20000 in
theorem ggX6_cost_X6_refuse : GoodIn wsX6_cost wsX6_refuse := goodIn_ca (goodIn_ca (goodIn_ca (goodIn_r _ [20, 21, 22, 23, 24, 25, 26] (by decide +kernel) (by decide +kernel)) (goodIn_sub (fun _ h => List.mem_cons_of_mem _ (List.mem_append_left _ (List.mem_append_left _ (List.mem_append_right _ h)))) (by decide +kernel))) (goodIn_sub (fun _ h => List.mem_cons_of_mem _ (List.mem_append_left _ (List.mem_append_right _ h))) (by decide +kernel))) (goodIn_sub (fun _ h => List.mem_cons_of_mem _ (List.mem_append_right _ h)) (by decide +kernel))
set_option maxRecDepth 20000 in
theorem gX6_cost_X6_refuse : GoodIn wsX6_cost (va_wsS RX6 59 yX6_refuse wsX6_refuse) := goodIn_app (goodIn_of _ (by decide +kernel)) ggX6_cost_X6_refuse
set_option maxRecDepth 20000 in
theorem ggX6_cost_X6_look : GoodIn wsX6_cost wsX6_look := goodIn_r _ [30, 31, 4, 1, 32, 5, 33, 34, 35, 36, 37, 38, 39, 40, 41, 42, 43, 44, 45, 46, 47, 48, 49, 50, 51, 52, 53, 54, 55, 9, 56, 57, 58, 59, 60, 61, 62, 63, 64, 65, 66, 67, 68, 69, 70, 71, 72, 73, 74, 75, 76, 77, 78, 79, 80, 81, 82, 83, 84, 85, 86, 87, 88, 89, 90, 91, 92, 93, 94, 95, 96, 97, 98, 99, 100, 101, 102, 103, 104, 105, 106, 107, 108, 109, 110, 111, 112, 113, 114, 115, 116, 117, 118, 119, 120, 121, 122, 123, 124, 125, 126, 127, 128, 129, 130, 131, 132, 133, 134, 135, 136, 137, 138, 139, 140, 141, 142, 143, 144, 145, 146, 147, 148, 149, 150, 151, 152, 153, 154, 155, 156, 157, 158, 159, 160, 161, 162, 163, 164, 165, 166, 167, 168, 169, 170, 171, 172, 173, 174, 175, 176, 177, 178, 179, 180, 181, 182, 184, 185, 186, 187, 188, 189, 190, 191, 192, 193, 194, 195, 196, 197, 198, 199, 200, 201, 202, 203, 204, 205, 206, 207, 208, 209, 210, 211, 212, 213, 214, 215, 216, 217, 218, 219, 220] (by decide +kernel) (by decide +kernel)
set_option maxRecDepth 20000 in
theorem gX6_cost_X6_look : GoodIn wsX6_cost (wsV RX6 134 RX6 yX6_look wsX6_look) := goodIn_app (goodIn_of _ (by decide +kernel)) ggX6_cost_X6_look
set_option maxRecDepth 20000 in
theorem ggX6_cost_X3_pairCost : GoodIn wsX6_cost wsX3_pairCost := goodIn_r _ [158, 159, 160, 115, 46, 116, 161, 162, 163, 164, 165, 166, 9, 167, 168, 61, 169, 170, 55, 56, 171, 172, 173, 174, 175, 176, 177, 103, 72, 104, 178, 106, 81, 107, 101, 99, 102, 204, 205, 206, 207, 208, 209, 210, 211, 192, 193, 194, 195, 196, 197, 198, 199, 200, 201, 202, 203] (by decide +kernel) (by decide +kernel)
set_option maxRecDepth 20000 in
theorem gX6_cost_X3_pairCost : GoodIn wsX6_cost (va_wsS RX6 154 yX3_pairCost wsX3_pairCost) := goodIn_app (goodIn_of _ (by decide +kernel)) ggX6_cost_X3_pairCost
theorem dX6_cost_0 : decode cX6_cost 0 = .ok (.aload_n 0, 1) := by decide +kernel
theorem dX6_cost_1 : decode cX6_cost 1 = .ok (.getfield 10, 3) := by decide +kernel
theorem dX6_cost_4 : decode cX6_cost 4 = .ok (.iload_n 1, 1) := by decide +kernel
theorem dX6_cost_5 : decode cX6_cost 5 = .ok (.invokevirtual 69, 3) := by decide +kernel
theorem dX6_cost_8 : decode cX6_cost 8 = .ok (.ifCond .eq 18, 3) := by decide +kernel
theorem dX6_cost_11 : decode cX6_cost 11 = .ok (.aload_n 0, 1) := by decide +kernel
theorem dX6_cost_12 : decode cX6_cost 12 = .ok (.getfield 10, 3) := by decide +kernel
theorem dX6_cost_15 : decode cX6_cost 15 = .ok (.iload_n 2, 1) := by decide +kernel
theorem dX6_cost_16 : decode cX6_cost 16 = .ok (.invokevirtual 121, 3) := by decide +kernel
theorem dX6_cost_19 : decode cX6_cost 19 = .ok (.ifCond .eq 7, 3) := by decide +kernel
theorem dX6_cost_22 : decode cX6_cost 22 = .ok (.iconst 0, 1) := by decide +kernel
theorem dX6_cost_23 : decode cX6_cost 23 = .ok (.goto 4, 3) := by decide +kernel
theorem dX6_cost_26 : decode cX6_cost 26 = .ok (.iconst 1, 1) := by decide +kernel
theorem dX6_cost_27 : decode cX6_cost 27 = .ok (.invokestatic 59, 3) := by decide +kernel
theorem dX6_cost_30 : decode cX6_cost 30 = .ok (.aload_n 0, 1) := by decide +kernel
theorem dX6_cost_31 : decode cX6_cost 31 = .ok (.getfield 10, 3) := by decide +kernel
theorem dX6_cost_34 : decode cX6_cost 34 = .ok (.getfield 150, 3) := by decide +kernel
theorem dX6_cost_37 : decode cX6_cost 37 = .ok (.iload_n 1, 1) := by decide +kernel
theorem dX6_cost_38 : decode cX6_cost 38 = .ok (.iaload, 1) := by decide +kernel
theorem dX6_cost_39 : decode cX6_cost 39 = .ok (.ifCond .ne 6, 3) := by decide +kernel
theorem dX6_cost_42 : decode cX6_cost 42 = .ok (.ldc 153, 2) := by decide +kernel
theorem dX6_cost_44 : decode cX6_cost 44 = .ok (.ireturn, 1) := by decide +kernel
theorem dX6_cost_45 : decode cX6_cost 45 = .ok (.aload_n 0, 1) := by decide +kernel
theorem dX6_cost_46 : decode cX6_cost 46 = .ok (.invokevirtual 134, 3) := by decide +kernel
theorem dX6_cost_49 : decode cX6_cost 49 = .ok (.aload_n 0, 1) := by decide +kernel
theorem dX6_cost_50 : decode cX6_cost 50 = .ok (.getfield 10, 3) := by decide +kernel
theorem dX6_cost_53 : decode cX6_cost 53 = .ok (.aload_n 0, 1) := by decide +kernel
theorem dX6_cost_54 : decode cX6_cost 54 = .ok (.getfield 33, 3) := by decide +kernel
theorem dX6_cost_57 : decode cX6_cost 57 = .ok (.iload_n 1, 1) := by decide +kernel
theorem dX6_cost_58 : decode cX6_cost 58 = .ok (.iload_n 2, 1) := by decide +kernel
theorem dX6_cost_59 : decode cX6_cost 59 = .ok (.aload_n 0, 1) := by decide +kernel
theorem dX6_cost_60 : decode cX6_cost 60 = .ok (.getfield 10, 3) := by decide +kernel
theorem dX6_cost_63 : decode cX6_cost 63 = .ok (.getfield 143, 3) := by decide +kernel
theorem dX6_cost_66 : decode cX6_cost 66 = .ok (.bipush 8, 2) := by decide +kernel
theorem dX6_cost_68 : decode cX6_cost 68 = .ok (.iaload, 1) := by decide +kernel
theorem dX6_cost_69 : decode cX6_cost 69 = .ok (.invokestatic 154, 3) := by decide +kernel
theorem dX6_cost_72 : decode cX6_cost 72 = .ok (.ireturn, 1) := by decide +kernel
set_option maxRecDepth 20000 in
theorem ggX6_missing_X6_refuse : GoodIn wsX6_missing wsX6_refuse := goodIn_ca (goodIn_ca (goodIn_ca (goodIn_r _ [7, 8, 9, 10, 11, 12, 13] (by decide +kernel) (by decide +kernel)) (goodIn_sub (fun _ h => List.mem_cons_of_mem _ (List.mem_append_left _ (List.mem_append_left _ (List.mem_append_right _ h)))) (by decide +kernel))) (goodIn_sub (fun _ h => List.mem_cons_of_mem _ (List.mem_append_left _ (List.mem_append_right _ h))) (by decide +kernel))) (goodIn_sub (fun _ h => List.mem_cons_of_mem _ (List.mem_append_right _ h)) (by decide +kernel))
set_option maxRecDepth 20000 in
theorem gX6_missing_X6_refuse : GoodIn wsX6_missing (va_wsS RX6 59 yX6_refuse wsX6_refuse) := goodIn_app (goodIn_of _ (by decide +kernel)) ggX6_missing_X6_refuse
set_option maxRecDepth 20000 in
theorem ggX6_missing_X6_look : GoodIn wsX6_missing wsX6_look := goodIn_r _ [17, 18, 19, 1, 20, 21, 22, 23, 24, 25, 26, 27, 28, 29, 30, 31, 32, 33, 34, 35, 36, 37, 38, 39, 40, 41, 42, 43, 44, 45, 46, 47, 48, 49, 50, 51, 52, 53, 54, 55, 56, 57, 58, 59, 60, 61, 62, 63, 64, 65, 66, 67, 68, 69, 70, 71, 72, 73, 74, 75, 76, 77, 78, 79, 80, 81, 82, 83, 84, 85, 86, 87, 88, 89, 90, 91, 92, 93, 94, 95, 96, 97, 98, 99, 100, 101, 102, 103, 104, 105, 106, 107, 108, 109, 110, 111, 112, 113, 114, 115, 116, 117, 118, 119, 120, 121, 122, 123, 124, 125, 126, 127, 128, 129, 130, 131, 132, 133, 134, 135, 136, 137, 138, 139, 140, 141, 142, 143, 144, 145, 146, 147, 148, 149, 150, 151, 152, 153, 154, 155, 156, 157, 158, 159, 160, 161, 162, 163, 164, 165, 166, 167, 168, 169, 170, 171, 172, 179, 180, 181, 182, 183, 184, 185, 186, 187, 188, 189, 190, 191, 192, 193, 194, 195, 196, 197, 198, 199, 200, 201, 202, 203, 204, 205, 206, 207, 208, 209, 210, 211, 212, 213, 214, 215] (by decide +kernel) (by decide +kernel)
set_option maxRecDepth 20000 in
theorem gX6_missing_X6_look : GoodIn wsX6_missing (wsV RX6 134 RX6 yX6_look wsX6_look) := goodIn_app (goodIn_of _ (by decide +kernel)) ggX6_missing_X6_look
set_option maxRecDepth 20000 in
theorem ggX6_missing_X6_isMissing : GoodIn wsX6_missing wsX6_isMissing := goodIn_r _ [176, 20, 177, 3, 1, 178, 21, 179, 180, 181, 182, 183, 184, 185, 186, 207, 208, 209, 210, 211, 212, 213, 214, 215, 187, 188, 189, 190, 191, 192, 193, 194, 195, 196, 197, 198] (by decide +kernel) (by decide +kernel)
set_option maxRecDepth 20000 in
theorem gX6_missing_X6_isMissing : GoodIn wsX6_missing (wsV RX6 161 RX6 yX6_isMissing wsX6_isMissing) := goodIn_app (goodIn_of _ (by decide +kernel)) ggX6_missing_X6_isMissing
theorem dX6_missing_0 : decode cX6_missing 0 = .ok (.iload_n 1, 1) := by decide +kernel
theorem dX6_missing_1 : decode cX6_missing 1 = .ok (.ifCond .lt 7, 3) := by decide +kernel
theorem dX6_missing_4 : decode cX6_missing 4 = .ok (.iconst 0, 1) := by decide +kernel
theorem dX6_missing_5 : decode cX6_missing 5 = .ok (.goto 4, 3) := by decide +kernel
theorem dX6_missing_8 : decode cX6_missing 8 = .ok (.iconst 2, 1) := by decide +kernel
theorem dX6_missing_9 : decode cX6_missing 9 = .ok (.invokestatic 59, 3) := by decide +kernel
theorem dX6_missing_12 : decode cX6_missing 12 = .ok (.aload_n 0, 1) := by decide +kernel
theorem dX6_missing_13 : decode cX6_missing 13 = .ok (.invokevirtual 134, 3) := by decide +kernel
theorem dX6_missing_16 : decode cX6_missing 16 = .ok (.iconst 0, 1) := by decide +kernel
theorem dX6_missing_17 : decode cX6_missing 17 = .ok (.istore_n 2, 1) := by decide +kernel
theorem dX6_missing_18 : decode cX6_missing 18 = .ok (.iconst 0, 1) := by decide +kernel
theorem dX6_missing_19 : decode cX6_missing 19 = .ok (.istore_n 3, 1) := by decide +kernel
theorem dX6_missing_20 : decode cX6_missing 20 = .ok (.iload_n 3, 1) := by decide +kernel
theorem dX6_missing_21 : decode cX6_missing 21 = .ok (.aload_n 0, 1) := by decide +kernel
theorem dX6_missing_22 : decode cX6_missing 22 = .ok (.getfield 10, 3) := by decide +kernel
theorem dX6_missing_25 : decode cX6_missing 25 = .ok (.getfield 158, 3) := by decide +kernel
theorem dX6_missing_28 : decode cX6_missing 28 = .ok (.if_icmp .ge 27, 3) := by decide +kernel
theorem dX6_missing_31 : decode cX6_missing 31 = .ok (.aload_n 0, 1) := by decide +kernel
theorem dX6_missing_32 : decode cX6_missing 32 = .ok (.iload_n 3, 1) := by decide +kernel
theorem dX6_missing_33 : decode cX6_missing 33 = .ok (.invokevirtual 161, 3) := by decide +kernel
theorem dX6_missing_36 : decode cX6_missing 36 = .ok (.ifCond .eq 13, 3) := by decide +kernel
theorem dX6_missing_39 : decode cX6_missing 39 = .ok (.iload_n 2, 1) := by decide +kernel
theorem dX6_missing_40 : decode cX6_missing 40 = .ok (.iload_n 1, 1) := by decide +kernel
theorem dX6_missing_41 : decode cX6_missing 41 = .ok (.if_icmp .ne 5, 3) := by decide +kernel
theorem dX6_missing_44 : decode cX6_missing 44 = .ok (.iload_n 3, 1) := by decide +kernel
theorem dX6_missing_45 : decode cX6_missing 45 = .ok (.ireturn, 1) := by decide +kernel
theorem dX6_missing_46 : decode cX6_missing 46 = .ok (.iinc 2 1, 3) := by decide +kernel
theorem dX6_missing_49 : decode cX6_missing 49 = .ok (.iinc 3 1, 3) := by decide +kernel
theorem dX6_missing_52 : decode cX6_missing 52 = .ok (.goto (-32), 3) := by decide +kernel
theorem dX6_missing_55 : decode cX6_missing 55 = .ok (.ldc 153, 2) := by decide +kernel
theorem dX6_missing_57 : decode cX6_missing 57 = .ok (.ireturn, 1) := by decide +kernel
set_option maxRecDepth 20000 in
theorem ggX6_setting_X6_inRange : GoodIn wsX6_setting wsX6_inRange := goodIn_r _ [6] (by decide +kernel) (by decide +kernel)
set_option maxRecDepth 20000 in
theorem gX6_setting_X6_inRange : GoodIn wsX6_setting (va_wsS RX6 127 yX6_inRange wsX6_inRange) := goodIn_app (goodIn_of _ (by decide +kernel)) ggX6_setting_X6_inRange
set_option maxRecDepth 20000 in
theorem ggX6_setting_X6_refuse : GoodIn wsX6_setting wsX6_refuse := goodIn_ca (goodIn_ca (goodIn_ca (goodIn_r _ [9, 10, 11, 12, 13, 14, 15] (by decide +kernel) (by decide +kernel)) (goodIn_sub (fun _ h => List.mem_cons_of_mem _ (List.mem_append_left _ (List.mem_append_left _ (List.mem_append_right _ h)))) (by decide +kernel))) (goodIn_sub (fun _ h => List.mem_cons_of_mem _ (List.mem_append_left _ (List.mem_append_right _ h))) (by decide +kernel))) (goodIn_sub (fun _ h => List.mem_cons_of_mem _ (List.mem_append_right _ h)) (by decide +kernel))
set_option maxRecDepth 20000 in
theorem gX6_setting_X6_refuse : GoodIn wsX6_setting (va_wsS RX6 59 yX6_refuse wsX6_refuse) := goodIn_app (goodIn_of _ (by decide +kernel)) ggX6_setting_X6_refuse
theorem dX6_setting_0 : decode cX6_setting 0 = .ok (.iload_n 1, 1) := by decide +kernel
theorem dX6_setting_1 : decode cX6_setting 1 = .ok (.iconst 0, 1) := by decide +kernel
theorem dX6_setting_2 : decode cX6_setting 2 = .ok (.bipush 9, 2) := by decide +kernel
theorem dX6_setting_4 : decode cX6_setting 4 = .ok (.invokestatic 127, 3) := by decide +kernel
theorem dX6_setting_7 : decode cX6_setting 7 = .ok (.ifCond .eq 7, 3) := by decide +kernel
theorem dX6_setting_10 : decode cX6_setting 10 = .ok (.iconst 0, 1) := by decide +kernel
theorem dX6_setting_11 : decode cX6_setting 11 = .ok (.goto 4, 3) := by decide +kernel
theorem dX6_setting_14 : decode cX6_setting 14 = .ok (.iconst 2, 1) := by decide +kernel
theorem dX6_setting_15 : decode cX6_setting 15 = .ok (.invokestatic 59, 3) := by decide +kernel
theorem dX6_setting_18 : decode cX6_setting 18 = .ok (.aload_n 0, 1) := by decide +kernel
theorem dX6_setting_19 : decode cX6_setting 19 = .ok (.getfield 10, 3) := by decide +kernel
theorem dX6_setting_22 : decode cX6_setting 22 = .ok (.getfield 143, 3) := by decide +kernel
theorem dX6_setting_25 : decode cX6_setting 25 = .ok (.iload_n 1, 1) := by decide +kernel
theorem dX6_setting_26 : decode cX6_setting 26 = .ok (.iaload, 1) := by decide +kernel
theorem dX6_setting_27 : decode cX6_setting 27 = .ok (.ireturn, 1) := by decide +kernel
set_option maxRecDepth 20000 in
theorem ggX6_whole_X6_inRange : GoodIn wsX6_whole wsX6_inRange := goodIn_r _ [4] (by decide +kernel) (by decide +kernel)
set_option maxRecDepth 20000 in
theorem gX6_whole_X6_inRange : GoodIn wsX6_whole (va_wsS RX6 127 yX6_inRange wsX6_inRange) := goodIn_app (goodIn_of _ (by decide +kernel)) ggX6_whole_X6_inRange
set_option maxRecDepth 20000 in
theorem ggX6_whole_X6_refuse : GoodIn wsX6_whole wsX6_refuse := goodIn_ca (goodIn_ca (goodIn_ca (goodIn_r _ [7, 8, 9, 10, 11, 12, 13] (by decide +kernel) (by decide +kernel)) (goodIn_sub (fun _ h => List.mem_cons_of_mem _ (List.mem_append_left _ (List.mem_append_left _ (List.mem_append_right _ h)))) (by decide +kernel))) (goodIn_sub (fun _ h => List.mem_cons_of_mem _ (List.mem_append_left _ (List.mem_append_right _ h))) (by decide +kernel))) (goodIn_sub (fun _ h => List.mem_cons_of_mem _ (List.mem_append_right _ h)) (by decide +kernel))
set_option maxRecDepth 20000 in
theorem gX6_whole_X6_refuse : GoodIn wsX6_whole (va_wsS RX6 59 yX6_refuse wsX6_refuse) := goodIn_app (goodIn_of _ (by decide +kernel)) ggX6_whole_X6_refuse
set_option maxRecDepth 20000 in
theorem ggX6_whole_X6_look : GoodIn wsX6_whole wsX6_look := goodIn_r _ [17, 18, 19, 20, 21, 22, 23, 24, 25, 26, 27, 28, 29, 30, 31, 32, 33, 34, 35, 36, 37, 38, 39, 40, 41, 42, 43, 44, 45, 46, 47, 48, 49, 50, 51, 52, 53, 54, 55, 56, 57, 58, 59, 60, 61, 62, 63, 64, 65, 66, 67, 68, 69, 70, 71, 72, 73, 74, 75, 76, 77, 78, 79, 80, 81, 82, 83, 84, 85, 86, 87, 88, 89, 90, 91, 92, 93, 94, 95, 96, 97, 98, 99, 100, 101, 102, 103, 104, 105, 106, 107, 108, 109, 110, 111, 112, 113, 114, 115, 116, 117, 118, 119, 120, 121, 122, 123, 124, 125, 126, 127, 128, 129, 130, 131, 132, 133, 134, 135, 136, 137, 138, 139, 140, 141, 142, 143, 144, 145, 146, 147, 148, 149, 150, 151, 152, 153, 154, 155, 156, 157, 158, 159, 160, 161, 162, 163, 164, 165, 166, 167, 168, 169, 170, 171, 172, 173, 224, 225, 226, 227, 228, 229, 230, 231, 232, 233, 234, 235, 236, 237, 238, 239, 240, 241, 242, 243, 244, 245, 246, 247, 248, 249, 250, 251, 252, 253, 254, 255, 256, 257, 258, 259, 260] (by decide +kernel) (by decide +kernel)
set_option maxRecDepth 20000 in
theorem gX6_whole_X6_look : GoodIn wsX6_whole (wsV RX6 134 RX6 yX6_look wsX6_look) := goodIn_app (goodIn_of _ (by decide +kernel)) ggX6_whole_X6_look
set_option maxRecDepth 20000 in
theorem ggX6_whole_X6_wholeValue : GoodIn wsX6_whole wsX6_wholeValue := goodIn_r _ [177, 20, 178, 179, 180, 181, 21, 182, 183, 184, 185, 186, 46, 187, 52, 188, 189, 190, 191, 192, 113, 193, 194, 195, 196, 197, 35, 36, 37, 198, 39, 40, 114, 45, 47, 55, 56, 57, 58, 59, 60, 61, 62, 63, 64, 65, 66, 67, 68, 69, 70, 71, 72, 73, 199, 200, 201, 3, 202, 19, 203, 204, 205, 206, 207, 208, 209, 210, 211, 212, 213, 214, 22, 215, 216, 217, 218, 219, 220, 221, 222, 223, 224, 225, 226, 227, 228, 229, 230, 231, 232, 233, 234, 235, 236, 237, 238, 239, 240, 241, 242, 243, 252, 253, 254, 255, 256, 257, 258, 259, 260, 244, 245, 246, 247, 248, 249, 250, 251] (by decide +kernel) (by decide +kernel)
set_option maxRecDepth 20000 in
theorem gX6_whole_X6_wholeValue : GoodIn wsX6_whole (wsV RX6 164 RX6 yX6_wholeValue wsX6_wholeValue) := goodIn_app (goodIn_of _ (by decide +kernel)) ggX6_whole_X6_wholeValue
theorem dX6_whole_0 : decode cX6_whole 0 = .ok (.iload_n 1, 1) := by decide +kernel
theorem dX6_whole_1 : decode cX6_whole 1 = .ok (.iconst 0, 1) := by decide +kernel
theorem dX6_whole_2 : decode cX6_whole 2 = .ok (.bipush 10, 2) := by decide +kernel
theorem dX6_whole_4 : decode cX6_whole 4 = .ok (.invokestatic 127, 3) := by decide +kernel
theorem dX6_whole_7 : decode cX6_whole 7 = .ok (.ifCond .eq 7, 3) := by decide +kernel
theorem dX6_whole_10 : decode cX6_whole 10 = .ok (.iconst 0, 1) := by decide +kernel
theorem dX6_whole_11 : decode cX6_whole 11 = .ok (.goto 4, 3) := by decide +kernel
theorem dX6_whole_14 : decode cX6_whole 14 = .ok (.iconst 2, 1) := by decide +kernel
theorem dX6_whole_15 : decode cX6_whole 15 = .ok (.invokestatic 59, 3) := by decide +kernel
theorem dX6_whole_18 : decode cX6_whole 18 = .ok (.aload_n 0, 1) := by decide +kernel
theorem dX6_whole_19 : decode cX6_whole 19 = .ok (.invokevirtual 134, 3) := by decide +kernel
theorem dX6_whole_22 : decode cX6_whole 22 = .ok (.aload_n 0, 1) := by decide +kernel
theorem dX6_whole_23 : decode cX6_whole 23 = .ok (.iload_n 1, 1) := by decide +kernel
theorem dX6_whole_24 : decode cX6_whole 24 = .ok (.invokevirtual 164, 3) := by decide +kernel
theorem dX6_whole_27 : decode cX6_whole 27 = .ok (.ireturn, 1) := by decide +kernel
set_option maxRecDepth 20000 in
theorem ggX6_costAt_X4_faultOfPole : GoodIn wsX6_costAt wsX4_faultOfPole := goodIn_r _ [5, 6, 7, 4, 8, 9, 10, 11] (by decide +kernel) (by decide +kernel)
set_option maxRecDepth 20000 in
theorem gX6_costAt_X4_faultOfPole : GoodIn wsX6_costAt (va_wsS RX6 98 yX4_faultOfPole wsX4_faultOfPole) := goodIn_app (goodIn_of _ (by decide +kernel)) ggX6_costAt_X4_faultOfPole
set_option maxRecDepth 20000 in
theorem ggX6_costAt_X6_refuse : GoodIn wsX6_costAt wsX6_refuse := goodIn_ca (goodIn_ca (goodIn_ca (goodIn_r _ [14, 15, 16, 17, 18, 19, 20] (by decide +kernel) (by decide +kernel)) (goodIn_sub (fun _ h => List.mem_cons_of_mem _ (List.mem_append_left _ (List.mem_append_left _ (List.mem_append_right _ h)))) (by decide +kernel))) (goodIn_sub (fun _ h => List.mem_cons_of_mem _ (List.mem_append_left _ (List.mem_append_right _ h))) (by decide +kernel))) (goodIn_sub (fun _ h => List.mem_cons_of_mem _ (List.mem_append_right _ h)) (by decide +kernel))
set_option maxRecDepth 20000 in
theorem gX6_costAt_X6_refuse : GoodIn wsX6_costAt (va_wsS RX6 59 yX6_refuse wsX6_refuse) := goodIn_app (goodIn_of _ (by decide +kernel)) ggX6_costAt_X6_refuse
set_option maxRecDepth 20000 in
theorem ggX6_costAt_X4_costWithPole : GoodIn wsX6_costAt wsX4_costWithPole := goodIn_r _ [24, 25, 26, 27, 28, 4, 29, 30, 31, 32, 33, 34, 35, 36, 37, 38, 39, 40, 41, 42, 43, 44, 45, 46, 47, 48, 49, 50, 51, 52, 53, 54, 55, 56, 57, 58, 59, 60, 61, 62, 63, 64, 73, 74, 75, 76, 77, 78, 79, 80, 81, 82, 83, 84] (by decide +kernel) (by decide +kernel)
set_option maxRecDepth 20000 in
theorem gX6_costAt_X4_costWithPole : GoodIn wsX6_costAt (wsV RX6 105 RX4 yX4_costWithPole wsX4_costWithPole) := goodIn_app (goodIn_of _ (by decide +kernel)) ggX6_costAt_X4_costWithPole
theorem dX6_costAt_0 : decode cX6_costAt 0 = .ok (.iload_n 1, 1) := by decide +kernel
theorem dX6_costAt_1 : decode cX6_costAt 1 = .ok (.iload_n 2, 1) := by decide +kernel
theorem dX6_costAt_2 : decode cX6_costAt 2 = .ok (.invokestatic 98, 3) := by decide +kernel
theorem dX6_costAt_5 : decode cX6_costAt 5 = .ok (.invokestatic 59, 3) := by decide +kernel
theorem dX6_costAt_8 : decode cX6_costAt 8 = .ok (.aload_n 0, 1) := by decide +kernel
theorem dX6_costAt_9 : decode cX6_costAt 9 = .ok (.getfield 10, 3) := by decide +kernel
theorem dX6_costAt_12 : decode cX6_costAt 12 = .ok (.iload_n 1, 1) := by decide +kernel
theorem dX6_costAt_13 : decode cX6_costAt 13 = .ok (.iload_n 2, 1) := by decide +kernel
theorem dX6_costAt_14 : decode cX6_costAt 14 = .ok (.invokevirtual 105, 3) := by decide +kernel
theorem dX6_costAt_17 : decode cX6_costAt 17 = .ok (.ireturn, 1) := by decide +kernel
set_option maxRecDepth 20000 in
theorem ggX6_meanRate_X6_look : GoodIn wsX6_meanRate wsX6_look := goodIn_r _ [11, 12, 3, 1, 13, 14, 15, 16, 17, 18, 19, 20, 21, 22, 23, 24, 25, 26, 27, 28, 29, 30, 31, 32, 33, 34, 35, 36, 37, 38, 39, 40, 41, 42, 43, 44, 45, 46, 47, 48, 49, 50, 51, 52, 53, 54, 55, 56, 57, 58, 59, 60, 61, 62, 63, 64, 65, 66, 67, 68, 69, 70, 71, 72, 73, 74, 75, 76, 77, 78, 79, 80, 81, 82, 83, 84, 85, 86, 87, 88, 89, 90, 91, 92, 93, 94, 95, 96, 97, 98, 99, 100, 101, 102, 103, 104, 105, 106, 107, 108, 109, 110, 111, 112, 113, 114, 115, 116, 117, 118, 119, 120, 121, 122, 123, 124, 125, 126, 127, 128, 129, 130, 131, 132, 133, 134, 135, 136, 137, 138, 139, 140, 141, 142, 143, 144, 145, 146, 147, 148, 149, 150, 151, 152, 153, 154, 155, 156, 157, 158, 159, 160, 161, 162, 163, 164, 165, 168, 169, 170, 171, 172, 173, 174, 175, 176, 177, 178, 179, 180, 181, 182, 183, 184, 185, 186, 187, 188, 189, 190, 191, 192, 193, 194, 195, 196, 197, 198, 199, 200, 201, 202, 203, 204] (by decide +kernel) (by decide +kernel)
set_option maxRecDepth 20000 in
theorem gX6_meanRate_X6_look : GoodIn wsX6_meanRate (wsV RX6 134 RX6 yX6_look wsX6_look) := goodIn_app (goodIn_of _ (by decide +kernel)) ggX6_meanRate_X6_look
set_option maxRecDepth 20000 in
theorem ggX6_meanRate_X4_frameSpan : GoodIn wsX6_meanRate wsX4_frameSpan := goodIn_r _ [104, 105, 52, 106, 37, 38, 39, 176, 177, 178, 179, 180, 181, 182, 183, 184, 185, 186, 187] (by decide +kernel) (by decide +kernel)
set_option maxRecDepth 20000 in
theorem gX6_meanRate_X4_frameSpan : GoodIn wsX6_meanRate (wsV RX6 177 RX4 yX4_frameSpan wsX4_frameSpan) := goodIn_app (goodIn_of _ (by decide +kernel)) ggX6_meanRate_X4_frameSpan
set_option maxRecDepth 20000 in
theorem ggX6_meanRate_J9_floorDiv_7cf53 : GoodIn wsX6_meanRate wsJ9_floorDiv_7cf53 := goodIn_r _ [56] (by decide +kernel) (by decide +kernel)
set_option maxRecDepth 20000 in
theorem gX6_meanRate_J9_floorDiv_7cf53 : GoodIn wsX6_meanRate (va_wsS RX6 180 yJ9_floorDiv_7cf53 wsJ9_floorDiv_7cf53) := goodIn_app (goodIn_of _ (by decide +kernel)) ggX6_meanRate_J9_floorDiv_7cf53
theorem dX6_meanRate_0 : decode cX6_meanRate 0 = .ok (.aload_n 0, 1) := by decide +kernel
theorem dX6_meanRate_1 : decode cX6_meanRate 1 = .ok (.invokevirtual 134, 3) := by decide +kernel
theorem dX6_meanRate_4 : decode cX6_meanRate 4 = .ok (.iconst 0, 1) := by decide +kernel
theorem dX6_meanRate_5 : decode cX6_meanRate 5 = .ok (.istore_n 1, 1) := by decide +kernel
theorem dX6_meanRate_6 : decode cX6_meanRate 6 = .ok (.iconst 0, 1) := by decide +kernel
theorem dX6_meanRate_7 : decode cX6_meanRate 7 = .ok (.istore_n 2, 1) := by decide +kernel
theorem dX6_meanRate_8 : decode cX6_meanRate 8 = .ok (.iconst 0, 1) := by decide +kernel
theorem dX6_meanRate_9 : decode cX6_meanRate 9 = .ok (.istore_n 3, 1) := by decide +kernel
theorem dX6_meanRate_10 : decode cX6_meanRate 10 = .ok (.iload_n 3, 1) := by decide +kernel
theorem dX6_meanRate_11 : decode cX6_meanRate 11 = .ok (.aload_n 0, 1) := by decide +kernel
theorem dX6_meanRate_12 : decode cX6_meanRate 12 = .ok (.getfield 10, 3) := by decide +kernel
theorem dX6_meanRate_15 : decode cX6_meanRate 15 = .ok (.getfield 167, 3) := by decide +kernel
theorem dX6_meanRate_18 : decode cX6_meanRate 18 = .ok (.if_icmp .ge 44, 3) := by decide +kernel
theorem dX6_meanRate_21 : decode cX6_meanRate 21 = .ok (.aload_n 0, 1) := by decide +kernel
theorem dX6_meanRate_22 : decode cX6_meanRate 22 = .ok (.getfield 33, 3) := by decide +kernel
theorem dX6_meanRate_25 : decode cX6_meanRate 25 = .ok (.getfield 170, 3) := by decide +kernel
theorem dX6_meanRate_28 : decode cX6_meanRate 28 = .ok (.iload_n 3, 1) := by decide +kernel
theorem dX6_meanRate_29 : decode cX6_meanRate 29 = .ok (.baload, 1) := by decide +kernel
theorem dX6_meanRate_30 : decode cX6_meanRate 30 = .ok (.ifCond .eq 26, 3) := by decide +kernel
theorem dX6_meanRate_33 : decode cX6_meanRate 33 = .ok (.iload_n 1, 1) := by decide +kernel
theorem dX6_meanRate_34 : decode cX6_meanRate 34 = .ok (.aload_n 0, 1) := by decide +kernel
theorem dX6_meanRate_35 : decode cX6_meanRate 35 = .ok (.getfield 33, 3) := by decide +kernel
theorem dX6_meanRate_38 : decode cX6_meanRate 38 = .ok (.getfield 174, 3) := by decide +kernel
theorem dX6_meanRate_41 : decode cX6_meanRate 41 = .ok (.iload_n 3, 1) := by decide +kernel
theorem dX6_meanRate_42 : decode cX6_meanRate 42 = .ok (.iaload, 1) := by decide +kernel
theorem dX6_meanRate_43 : decode cX6_meanRate 43 = .ok (.iadd, 1) := by decide +kernel
theorem dX6_meanRate_44 : decode cX6_meanRate 44 = .ok (.istore_n 1, 1) := by decide +kernel
theorem dX6_meanRate_45 : decode cX6_meanRate 45 = .ok (.iload_n 2, 1) := by decide +kernel
theorem dX6_meanRate_46 : decode cX6_meanRate 46 = .ok (.aload_n 0, 1) := by decide +kernel
theorem dX6_meanRate_47 : decode cX6_meanRate 47 = .ok (.getfield 10, 3) := by decide +kernel
theorem dX6_meanRate_50 : decode cX6_meanRate 50 = .ok (.iload_n 3, 1) := by decide +kernel
theorem dX6_meanRate_51 : decode cX6_meanRate 51 = .ok (.invokevirtual 177, 3) := by decide +kernel
theorem dX6_meanRate_54 : decode cX6_meanRate 54 = .ok (.iadd, 1) := by decide +kernel
theorem dX6_meanRate_55 : decode cX6_meanRate 55 = .ok (.istore_n 2, 1) := by decide +kernel
theorem dX6_meanRate_56 : decode cX6_meanRate 56 = .ok (.iinc 3 1, 3) := by decide +kernel
theorem dX6_meanRate_59 : decode cX6_meanRate 59 = .ok (.goto (-49), 3) := by decide +kernel
theorem dX6_meanRate_62 : decode cX6_meanRate 62 = .ok (.iload_n 2, 1) := by decide +kernel
theorem dX6_meanRate_63 : decode cX6_meanRate 63 = .ok (.ifCond .le 11, 3) := by decide +kernel
theorem dX6_meanRate_66 : decode cX6_meanRate 66 = .ok (.iload_n 1, 1) := by decide +kernel
theorem dX6_meanRate_67 : decode cX6_meanRate 67 = .ok (.iload_n 2, 1) := by decide +kernel
theorem dX6_meanRate_68 : decode cX6_meanRate 68 = .ok (.invokestatic 180, 3) := by decide +kernel
theorem dX6_meanRate_71 : decode cX6_meanRate 71 = .ok (.goto 5, 3) := by decide +kernel
theorem dX6_meanRate_74 : decode cX6_meanRate 74 = .ok (.ldc 153, 2) := by decide +kernel
theorem dX6_meanRate_76 : decode cX6_meanRate 76 = .ok (.ireturn, 1) := by decide +kernel
set_option maxRecDepth 20000 in
theorem ggX6_meanScale_X6_look : GoodIn wsX6_meanScale wsX6_look := goodIn_r _ [13, 14, 5, 1, 3, 15, 16, 17, 18, 19, 20, 21, 22, 23, 24, 25, 26, 27, 28, 29, 30, 31, 32, 33, 34, 35, 36, 37, 38, 39, 40, 41, 42, 43, 44, 45, 46, 47, 48, 49, 50, 51, 52, 53, 54, 55, 56, 57, 58, 59, 60, 61, 62, 63, 64, 65, 66, 67, 68, 69, 70, 71, 72, 73, 74, 75, 76, 77, 78, 79, 80, 81, 82, 83, 84, 85, 86, 87, 88, 89, 90, 91, 92, 93, 94, 95, 96, 97, 98, 99, 100, 101, 102, 103, 104, 105, 106, 107, 108, 109, 110, 111, 112, 113, 114, 115, 116, 117, 118, 119, 120, 121, 122, 123, 124, 125, 126, 127, 128, 129, 130, 131, 132, 133, 134, 135, 136, 137, 138, 139, 140, 141, 142, 143, 144, 145, 146, 147, 148, 149, 150, 151, 152, 153, 154, 155, 156, 157, 158, 159, 160, 161, 162, 163, 164, 165, 166, 173, 174, 175, 176, 177, 178, 179, 180, 181, 182, 183, 184, 185, 186, 187, 188, 189, 190, 191, 192, 202, 203, 204, 205, 206, 207, 208, 209, 193, 194, 195, 196, 197, 198, 199, 200, 201] (by decide +kernel) (by decide +kernel)
set_option maxRecDepth 20000 in
theorem gX6_meanScale_X6_look : GoodIn wsX6_meanScale (wsV RX6 134 RX6 yX6_look wsX6_look) := goodIn_app (goodIn_of _ (by decide +kernel)) ggX6_meanScale_X6_look
set_option maxRecDepth 20000 in
theorem ggX6_meanScale_X4_hasTrail : GoodIn wsX6_meanScale wsX4_hasTrail := goodIn_r _ [170, 171, 181, 182, 183, 184, 185, 186, 187, 188, 189, 190, 191, 192] (by decide +kernel) (by decide +kernel)
set_option maxRecDepth 20000 in
theorem gX6_meanScale_X4_hasTrail : GoodIn wsX6_meanScale (wsV RX6 69 RX4 yX4_hasTrail wsX4_hasTrail) := goodIn_app (goodIn_of _ (by decide +kernel)) ggX6_meanScale_X4_hasTrail
set_option maxRecDepth 20000 in
theorem ggX6_meanScale_J9_floorDiv_7cf53 : GoodIn wsX6_meanScale wsJ9_floorDiv_7cf53 := goodIn_r _ [57] (by decide +kernel) (by decide +kernel)
set_option maxRecDepth 20000 in
theorem gX6_meanScale_J9_floorDiv_7cf53 : GoodIn wsX6_meanScale (va_wsS RX6 180 yJ9_floorDiv_7cf53 wsJ9_floorDiv_7cf53) := goodIn_app (goodIn_of _ (by decide +kernel)) ggX6_meanScale_J9_floorDiv_7cf53
theorem dX6_meanScale_0 : decode cX6_meanScale 0 = .ok (.aload_n 0, 1) := by decide +kernel
theorem dX6_meanScale_1 : decode cX6_meanScale 1 = .ok (.invokevirtual 134, 3) := by decide +kernel
theorem dX6_meanScale_4 : decode cX6_meanScale 4 = .ok (.iconst 0, 1) := by decide +kernel
theorem dX6_meanScale_5 : decode cX6_meanScale 5 = .ok (.istore_n 1, 1) := by decide +kernel
theorem dX6_meanScale_6 : decode cX6_meanScale 6 = .ok (.iconst 0, 1) := by decide +kernel
theorem dX6_meanScale_7 : decode cX6_meanScale 7 = .ok (.istore_n 2, 1) := by decide +kernel
theorem dX6_meanScale_8 : decode cX6_meanScale 8 = .ok (.iconst 0, 1) := by decide +kernel
theorem dX6_meanScale_9 : decode cX6_meanScale 9 = .ok (.istore_n 3, 1) := by decide +kernel
theorem dX6_meanScale_10 : decode cX6_meanScale 10 = .ok (.iload_n 3, 1) := by decide +kernel
theorem dX6_meanScale_11 : decode cX6_meanScale 11 = .ok (.aload_n 0, 1) := by decide +kernel
theorem dX6_meanScale_12 : decode cX6_meanScale 12 = .ok (.getfield 10, 3) := by decide +kernel
theorem dX6_meanScale_15 : decode cX6_meanScale 15 = .ok (.getfield 158, 3) := by decide +kernel
theorem dX6_meanScale_18 : decode cX6_meanScale 18 = .ok (.if_icmp .ge 57, 3) := by decide +kernel
theorem dX6_meanScale_21 : decode cX6_meanScale 21 = .ok (.aload_n 0, 1) := by decide +kernel
theorem dX6_meanScale_22 : decode cX6_meanScale 22 = .ok (.getfield 40, 3) := by decide +kernel
theorem dX6_meanScale_25 : decode cX6_meanScale 25 = .ok (.getfield 185, 3) := by decide +kernel
theorem dX6_meanScale_28 : decode cX6_meanScale 28 = .ok (.iload_n 3, 1) := by decide +kernel
theorem dX6_meanScale_29 : decode cX6_meanScale 29 = .ok (.iaload, 1) := by decide +kernel
theorem dX6_meanScale_30 : decode cX6_meanScale 30 = .ok (.istore 4, 2) := by decide +kernel
theorem dX6_meanScale_32 : decode cX6_meanScale 32 = .ok (.aload_n 0, 1) := by decide +kernel
theorem dX6_meanScale_33 : decode cX6_meanScale 33 = .ok (.getfield 10, 3) := by decide +kernel
theorem dX6_meanScale_36 : decode cX6_meanScale 36 = .ok (.iload 4, 2) := by decide +kernel
theorem dX6_meanScale_38 : decode cX6_meanScale 38 = .ok (.invokevirtual 69, 3) := by decide +kernel
theorem dX6_meanScale_41 : decode cX6_meanScale 41 = .ok (.ifCond .eq 28, 3) := by decide +kernel
theorem dX6_meanScale_44 : decode cX6_meanScale 44 = .ok (.iload_n 1, 1) := by decide +kernel
theorem dX6_meanScale_45 : decode cX6_meanScale 45 = .ok (.aload_n 0, 1) := by decide +kernel
theorem dX6_meanScale_46 : decode cX6_meanScale 46 = .ok (.getfield 33, 3) := by decide +kernel
theorem dX6_meanScale_49 : decode cX6_meanScale 49 = .ok (.getfield 188, 3) := by decide +kernel
theorem dX6_meanScale_52 : decode cX6_meanScale 52 = .ok (.iload 4, 2) := by decide +kernel
theorem dX6_meanScale_54 : decode cX6_meanScale 54 = .ok (.iaload, 1) := by decide +kernel
theorem dX6_meanScale_55 : decode cX6_meanScale 55 = .ok (.iadd, 1) := by decide +kernel
theorem dX6_meanScale_56 : decode cX6_meanScale 56 = .ok (.istore_n 1, 1) := by decide +kernel
theorem dX6_meanScale_57 : decode cX6_meanScale 57 = .ok (.iload_n 2, 1) := by decide +kernel
theorem dX6_meanScale_58 : decode cX6_meanScale 58 = .ok (.aload_n 0, 1) := by decide +kernel
theorem dX6_meanScale_59 : decode cX6_meanScale 59 = .ok (.getfield 10, 3) := by decide +kernel
theorem dX6_meanScale_62 : decode cX6_meanScale 62 = .ok (.getfield 191, 3) := by decide +kernel
theorem dX6_meanScale_65 : decode cX6_meanScale 65 = .ok (.iload_n 3, 1) := by decide +kernel
theorem dX6_meanScale_66 : decode cX6_meanScale 66 = .ok (.iaload, 1) := by decide +kernel
theorem dX6_meanScale_67 : decode cX6_meanScale 67 = .ok (.iadd, 1) := by decide +kernel
theorem dX6_meanScale_68 : decode cX6_meanScale 68 = .ok (.istore_n 2, 1) := by decide +kernel
theorem dX6_meanScale_69 : decode cX6_meanScale 69 = .ok (.iinc 3 1, 3) := by decide +kernel
theorem dX6_meanScale_72 : decode cX6_meanScale 72 = .ok (.goto (-62), 3) := by decide +kernel
theorem dX6_meanScale_75 : decode cX6_meanScale 75 = .ok (.iload_n 2, 1) := by decide +kernel
theorem dX6_meanScale_76 : decode cX6_meanScale 76 = .ok (.ifCond .le 15, 3) := by decide +kernel
theorem dX6_meanScale_79 : decode cX6_meanScale 79 = .ok (.sipush 1000, 3) := by decide +kernel
theorem dX6_meanScale_82 : decode cX6_meanScale 82 = .ok (.iload_n 1, 1) := by decide +kernel
theorem dX6_meanScale_83 : decode cX6_meanScale 83 = .ok (.imul, 1) := by decide +kernel
theorem dX6_meanScale_84 : decode cX6_meanScale 84 = .ok (.iload_n 2, 1) := by decide +kernel
theorem dX6_meanScale_85 : decode cX6_meanScale 85 = .ok (.invokestatic 180, 3) := by decide +kernel
theorem dX6_meanScale_88 : decode cX6_meanScale 88 = .ok (.goto 5, 3) := by decide +kernel
theorem dX6_meanScale_91 : decode cX6_meanScale 91 = .ok (.ldc 153, 2) := by decide +kernel
theorem dX6_meanScale_93 : decode cX6_meanScale 93 = .ok (.ireturn, 1) := by decide +kernel
set_option maxRecDepth 20000 in
theorem ggX6_bestZero_X6_look : GoodIn wsX6_bestZero wsX6_look := goodIn_r _ [14, 15, 7, 2, 16, 17, 18, 19, 20, 21, 22, 23, 24, 25, 26, 27, 28, 29, 30, 31, 32, 33, 34, 35, 36, 37, 38, 39, 40, 41, 42, 43, 44, 45, 46, 47, 48, 49, 50, 51, 52, 53, 54, 55, 56, 57, 58, 59, 60, 61, 62, 63, 64, 65, 66, 67, 68, 69, 70, 71, 72, 73, 74, 75, 76, 77, 78, 79, 80, 81, 82, 83, 84, 85, 86, 87, 88, 89, 90, 91, 92, 93, 94, 95, 96, 97, 98, 99, 100, 101, 102, 103, 104, 105, 106, 107, 108, 109, 110, 111, 112, 113, 114, 115, 116, 117, 118, 119, 120, 121, 122, 123, 124, 125, 126, 127, 128, 129, 130, 131, 132, 133, 134, 135, 136, 137, 138, 139, 140, 141, 142, 143, 144, 145, 146, 147, 148, 149, 150, 151, 152, 153, 154, 155, 156, 157, 158, 159, 160, 161, 162, 163, 164, 165, 166, 167, 168, 179, 180, 181, 182, 183, 184, 185, 186, 187, 188, 189, 190, 191, 192, 193, 194, 195, 196, 197, 198, 208, 209, 210, 211, 212, 213, 214, 215, 199, 200, 201, 202, 203, 204, 205, 206, 207] (by decide +kernel) (by decide +kernel)
set_option maxRecDepth 20000 in
theorem gX6_bestZero_X6_look : GoodIn wsX6_bestZero (wsV RX6 134 RX6 yX6_look wsX6_look) := goodIn_app (goodIn_of _ (by decide +kernel)) ggX6_bestZero_X6_look
set_option maxRecDepth 20000 in
theorem ggX6_bestZero_X6_zeroThatBrings : GoodIn wsX6_bestZero wsX6_zeroThatBrings := goodIn_r _ [172, 2, 17, 173, 7, 174, 175, 176, 177, 40, 41, 42, 178, 89, 58, 90, 179, 180, 181, 182, 183, 184, 185, 186, 187, 188, 189, 190, 191, 192, 193, 194, 195, 196, 197, 198, 208, 209, 210, 211, 212, 213, 214, 215] (by decide +kernel) (by decide +kernel)
set_option maxRecDepth 20000 in
theorem gX6_bestZero_X6_zeroThatBrings : GoodIn wsX6_bestZero (wsV RX6 194 RX6 yX6_zeroThatBrings wsX6_zeroThatBrings) := goodIn_app (goodIn_of _ (by decide +kernel)) ggX6_bestZero_X6_zeroThatBrings
set_option maxRecDepth 20000 in
theorem ggX6_bestZero_X3_pairUp : GoodIn wsX6_bestZero wsX3_pairUp := goodIn_r _ [118, 119, 120, 121, 30, 31, 32, 122, 123, 124, 125, 126, 127, 128, 129, 130, 131, 132, 117, 133, 134, 135, 136, 137, 138, 139, 140, 141, 142, 143, 144, 145, 146, 101, 102, 147, 148, 149, 150, 151, 152, 41, 153, 154, 47, 155, 156, 40, 42, 157, 158, 159, 160, 161, 162, 163, 89, 58, 90, 164, 92, 67, 93, 87, 85, 88, 165, 166, 167, 168, 187, 188, 189, 190, 191, 192, 193, 194, 195, 196, 197, 198, 199, 200, 201, 202, 203, 204, 205, 206, 207, 208, 209, 210, 211, 212, 213, 214, 215] (by decide +kernel) (by decide +kernel)
set_option maxRecDepth 20000 in
theorem gX6_bestZero_X3_pairUp : GoodIn wsX6_bestZero (wsV RX6 197 RX3 yX3_pairUp wsX3_pairUp) := goodIn_app (goodIn_of _ (by decide +kernel)) ggX6_bestZero_X3_pairUp
theorem dX6_bestZero_0 : decode cX6_bestZero 0 = .ok (.aload_n 0, 1) := by decide +kernel
theorem dX6_bestZero_1 : decode cX6_bestZero 1 = .ok (.invokevirtual 134, 3) := by decide +kernel
theorem dX6_bestZero_4 : decode cX6_bestZero 4 = .ok (.ldc 153, 2) := by decide +kernel
theorem dX6_bestZero_6 : decode cX6_bestZero 6 = .ok (.istore_n 1, 1) := by decide +kernel
theorem dX6_bestZero_7 : decode cX6_bestZero 7 = .ok (.iconst 0, 1) := by decide +kernel
theorem dX6_bestZero_8 : decode cX6_bestZero 8 = .ok (.istore_n 2, 1) := by decide +kernel
theorem dX6_bestZero_9 : decode cX6_bestZero 9 = .ok (.iconst 0, 1) := by decide +kernel
theorem dX6_bestZero_10 : decode cX6_bestZero 10 = .ok (.istore_n 3, 1) := by decide +kernel
theorem dX6_bestZero_11 : decode cX6_bestZero 11 = .ok (.iconst 0, 1) := by decide +kernel
theorem dX6_bestZero_12 : decode cX6_bestZero 12 = .ok (.istore 4, 2) := by decide +kernel
theorem dX6_bestZero_14 : decode cX6_bestZero 14 = .ok (.iload 4, 2) := by decide +kernel
theorem dX6_bestZero_16 : decode cX6_bestZero 16 = .ok (.aload_n 0, 1) := by decide +kernel
theorem dX6_bestZero_17 : decode cX6_bestZero 17 = .ok (.getfield 10, 3) := by decide +kernel
theorem dX6_bestZero_20 : decode cX6_bestZero 20 = .ok (.getfield 167, 3) := by decide +kernel
theorem dX6_bestZero_23 : decode cX6_bestZero 23 = .ok (.if_icmp .ge 153, 3) := by decide +kernel
theorem dX6_bestZero_26 : decode cX6_bestZero 26 = .ok (.aload_n 0, 1) := by decide +kernel
theorem dX6_bestZero_27 : decode cX6_bestZero 27 = .ok (.getfield 10, 3) := by decide +kernel
theorem dX6_bestZero_30 : decode cX6_bestZero 30 = .ok (.getfield 150, 3) := by decide +kernel
theorem dX6_bestZero_33 : decode cX6_bestZero 33 = .ok (.iload 4, 2) := by decide +kernel
theorem dX6_bestZero_35 : decode cX6_bestZero 35 = .ok (.iaload, 1) := by decide +kernel
theorem dX6_bestZero_36 : decode cX6_bestZero 36 = .ok (.ifCond .le 13, 3) := by decide +kernel
theorem dX6_bestZero_39 : decode cX6_bestZero 39 = .ok (.aload_n 0, 1) := by decide +kernel
theorem dX6_bestZero_40 : decode cX6_bestZero 40 = .ok (.getfield 10, 3) := by decide +kernel
theorem dX6_bestZero_43 : decode cX6_bestZero 43 = .ok (.getfield 158, 3) := by decide +kernel
theorem dX6_bestZero_46 : decode cX6_bestZero 46 = .ok (.goto 4, 3) := by decide +kernel
theorem dX6_bestZero_49 : decode cX6_bestZero 49 = .ok (.iconst 0, 1) := by decide +kernel
theorem dX6_bestZero_50 : decode cX6_bestZero 50 = .ok (.istore 5, 2) := by decide +kernel
theorem dX6_bestZero_52 : decode cX6_bestZero 52 = .ok (.iconst 0, 1) := by decide +kernel
theorem dX6_bestZero_53 : decode cX6_bestZero 53 = .ok (.istore 6, 2) := by decide +kernel
theorem dX6_bestZero_55 : decode cX6_bestZero 55 = .ok (.iload 6, 2) := by decide +kernel
theorem dX6_bestZero_57 : decode cX6_bestZero 57 = .ok (.iload 5, 2) := by decide +kernel
theorem dX6_bestZero_59 : decode cX6_bestZero 59 = .ok (.if_icmp .ge 111, 3) := by decide +kernel
theorem dX6_bestZero_62 : decode cX6_bestZero 62 = .ok (.aload_n 0, 1) := by decide +kernel
theorem dX6_bestZero_63 : decode cX6_bestZero 63 = .ok (.iload 6, 2) := by decide +kernel
theorem dX6_bestZero_65 : decode cX6_bestZero 65 = .ok (.iload 4, 2) := by decide +kernel
theorem dX6_bestZero_67 : decode cX6_bestZero 67 = .ok (.invokevirtual 194, 3) := by decide +kernel
theorem dX6_bestZero_70 : decode cX6_bestZero 70 = .ok (.istore 7, 2) := by decide +kernel
theorem dX6_bestZero_72 : decode cX6_bestZero 72 = .ok (.aload_n 0, 1) := by decide +kernel
theorem dX6_bestZero_73 : decode cX6_bestZero 73 = .ok (.getfield 44, 3) := by decide +kernel
theorem dX6_bestZero_76 : decode cX6_bestZero 76 = .ok (.aload_n 0, 1) := by decide +kernel
theorem dX6_bestZero_77 : decode cX6_bestZero 77 = .ok (.getfield 10, 3) := by decide +kernel
theorem dX6_bestZero_80 : decode cX6_bestZero 80 = .ok (.aload_n 0, 1) := by decide +kernel
theorem dX6_bestZero_81 : decode cX6_bestZero 81 = .ok (.getfield 33, 3) := by decide +kernel
theorem dX6_bestZero_84 : decode cX6_bestZero 84 = .ok (.iload 7, 2) := by decide +kernel
theorem dX6_bestZero_86 : decode cX6_bestZero 86 = .ok (.invokevirtual 197, 3) := by decide +kernel
theorem dX6_bestZero_89 : decode cX6_bestZero 89 = .ok (.iload_n 1, 1) := by decide +kernel
theorem dX6_bestZero_90 : decode cX6_bestZero 90 = .ok (.ldc 153, 2) := by decide +kernel
theorem dX6_bestZero_92 : decode cX6_bestZero 92 = .ok (.if_icmp .eq 53, 3) := by decide +kernel
theorem dX6_bestZero_95 : decode cX6_bestZero 95 = .ok (.aload_n 0, 1) := by decide +kernel
theorem dX6_bestZero_96 : decode cX6_bestZero 96 = .ok (.getfield 44, 3) := by decide +kernel
theorem dX6_bestZero_99 : decode cX6_bestZero 99 = .ok (.getfield 201, 3) := by decide +kernel
theorem dX6_bestZero_102 : decode cX6_bestZero 102 = .ok (.iload_n 2, 1) := by decide +kernel
theorem dX6_bestZero_103 : decode cX6_bestZero 103 = .ok (.if_icmp .gt 42, 3) := by decide +kernel
theorem dX6_bestZero_106 : decode cX6_bestZero 106 = .ok (.aload_n 0, 1) := by decide +kernel
theorem dX6_bestZero_107 : decode cX6_bestZero 107 = .ok (.getfield 44, 3) := by decide +kernel
theorem dX6_bestZero_110 : decode cX6_bestZero 110 = .ok (.getfield 201, 3) := by decide +kernel
theorem dX6_bestZero_113 : decode cX6_bestZero 113 = .ok (.iload_n 2, 1) := by decide +kernel
theorem dX6_bestZero_114 : decode cX6_bestZero 114 = .ok (.if_icmp .ne 50, 3) := by decide +kernel
theorem dX6_bestZero_117 : decode cX6_bestZero 117 = .ok (.aload_n 0, 1) := by decide +kernel
theorem dX6_bestZero_118 : decode cX6_bestZero 118 = .ok (.getfield 44, 3) := by decide +kernel
theorem dX6_bestZero_121 : decode cX6_bestZero 121 = .ok (.getfield 204, 3) := by decide +kernel
theorem dX6_bestZero_124 : decode cX6_bestZero 124 = .ok (.iload_n 3, 1) := by decide +kernel
theorem dX6_bestZero_125 : decode cX6_bestZero 125 = .ok (.if_icmp .lt 20, 3) := by decide +kernel
theorem dX6_bestZero_128 : decode cX6_bestZero 128 = .ok (.aload_n 0, 1) := by decide +kernel
theorem dX6_bestZero_129 : decode cX6_bestZero 129 = .ok (.getfield 44, 3) := by decide +kernel
theorem dX6_bestZero_132 : decode cX6_bestZero 132 = .ok (.getfield 204, 3) := by decide +kernel
theorem dX6_bestZero_135 : decode cX6_bestZero 135 = .ok (.iload_n 3, 1) := by decide +kernel
theorem dX6_bestZero_136 : decode cX6_bestZero 136 = .ok (.if_icmp .ne 28, 3) := by decide +kernel
theorem dX6_bestZero_139 : decode cX6_bestZero 139 = .ok (.iload 7, 2) := by decide +kernel
theorem dX6_bestZero_141 : decode cX6_bestZero 141 = .ok (.iload_n 1, 1) := by decide +kernel
theorem dX6_bestZero_142 : decode cX6_bestZero 142 = .ok (.if_icmp .ge 22, 3) := by decide +kernel
theorem dX6_bestZero_145 : decode cX6_bestZero 145 = .ok (.iload 7, 2) := by decide +kernel
theorem dX6_bestZero_147 : decode cX6_bestZero 147 = .ok (.istore_n 1, 1) := by decide +kernel
theorem dX6_bestZero_148 : decode cX6_bestZero 148 = .ok (.aload_n 0, 1) := by decide +kernel
theorem dX6_bestZero_149 : decode cX6_bestZero 149 = .ok (.getfield 44, 3) := by decide +kernel
theorem dX6_bestZero_152 : decode cX6_bestZero 152 = .ok (.getfield 201, 3) := by decide +kernel
theorem dX6_bestZero_155 : decode cX6_bestZero 155 = .ok (.istore_n 2, 1) := by decide +kernel
theorem dX6_bestZero_156 : decode cX6_bestZero 156 = .ok (.aload_n 0, 1) := by decide +kernel
theorem dX6_bestZero_157 : decode cX6_bestZero 157 = .ok (.getfield 44, 3) := by decide +kernel
theorem dX6_bestZero_160 : decode cX6_bestZero 160 = .ok (.getfield 204, 3) := by decide +kernel
theorem dX6_bestZero_163 : decode cX6_bestZero 163 = .ok (.istore_n 3, 1) := by decide +kernel
theorem dX6_bestZero_164 : decode cX6_bestZero 164 = .ok (.iinc 6 1, 3) := by decide +kernel
theorem dX6_bestZero_167 : decode cX6_bestZero 167 = .ok (.goto (-112), 3) := by decide +kernel
theorem dX6_bestZero_170 : decode cX6_bestZero 170 = .ok (.iinc 4 1, 3) := by decide +kernel
theorem dX6_bestZero_173 : decode cX6_bestZero 173 = .ok (.goto (-159), 3) := by decide +kernel
theorem dX6_bestZero_176 : decode cX6_bestZero 176 = .ok (.iload_n 1, 1) := by decide +kernel
theorem dX6_bestZero_177 : decode cX6_bestZero 177 = .ok (.ireturn, 1) := by decide +kernel
set_option maxRecDepth 20000 in
theorem ggX6_bestDrift_X6_inRange : GoodIn wsX6_bestDrift wsX6_inRange := goodIn_r _ [16] (by decide +kernel) (by decide +kernel)
set_option maxRecDepth 20000 in
theorem gX6_bestDrift_X6_inRange : GoodIn wsX6_bestDrift (va_wsS RX6 127 yX6_inRange wsX6_inRange) := goodIn_app (goodIn_of _ (by decide +kernel)) ggX6_bestDrift_X6_inRange
set_option maxRecDepth 20000 in
theorem ggX6_bestDrift_X6_refuse : GoodIn wsX6_bestDrift wsX6_refuse := goodIn_ca (goodIn_ca (goodIn_ca (goodIn_r _ [19, 20, 21, 22, 23, 24, 25] (by decide +kernel) (by decide +kernel)) (goodIn_sub (fun _ h => List.mem_cons_of_mem _ (List.mem_append_left _ (List.mem_append_left _ (List.mem_append_right _ h)))) (by decide +kernel))) (goodIn_sub (fun _ h => List.mem_cons_of_mem _ (List.mem_append_left _ (List.mem_append_right _ h))) (by decide +kernel))) (goodIn_sub (fun _ h => List.mem_cons_of_mem _ (List.mem_append_right _ h)) (by decide +kernel))
set_option maxRecDepth 20000 in
theorem gX6_bestDrift_X6_refuse : GoodIn wsX6_bestDrift (va_wsS RX6 59 yX6_refuse wsX6_refuse) := goodIn_app (goodIn_of _ (by decide +kernel)) ggX6_bestDrift_X6_refuse
set_option maxRecDepth 20000 in
theorem ggX6_bestDrift_X4_costWith : GoodIn wsX6_bestDrift wsX4_costWith := goodIn_r _ [30, 31, 32, 33, 34, 35, 29, 36, 37, 9, 6, 10, 38, 5, 7, 39, 40, 41, 42, 43, 44, 45, 46, 47, 48, 49, 50, 51, 52, 53, 54, 55, 56, 57, 58, 59, 60, 69, 70, 71, 72, 73, 74, 75, 76, 77, 78, 79, 80] (by decide +kernel) (by decide +kernel)
set_option maxRecDepth 20000 in
theorem gX6_bestDrift_X4_costWith : GoodIn wsX6_bestDrift (wsV RX6 219 RX4 yX4_costWith wsX4_costWith) := goodIn_app (goodIn_of _ (by decide +kernel)) ggX6_bestDrift_X4_costWith
theorem dX6_bestDrift_0 : decode cX6_bestDrift 0 = .ok (.iload_n 1, 1) := by decide +kernel
theorem dX6_bestDrift_1 : decode cX6_bestDrift 1 = .ok (.iconst 0, 1) := by decide +kernel
theorem dX6_bestDrift_2 : decode cX6_bestDrift 2 = .ok (.iconst 5, 1) := by decide +kernel
theorem dX6_bestDrift_3 : decode cX6_bestDrift 3 = .ok (.invokestatic 127, 3) := by decide +kernel
theorem dX6_bestDrift_6 : decode cX6_bestDrift 6 = .ok (.ifCond .eq 7, 3) := by decide +kernel
theorem dX6_bestDrift_9 : decode cX6_bestDrift 9 = .ok (.iconst 0, 1) := by decide +kernel
theorem dX6_bestDrift_10 : decode cX6_bestDrift 10 = .ok (.goto 4, 3) := by decide +kernel
theorem dX6_bestDrift_13 : decode cX6_bestDrift 13 = .ok (.iconst 2, 1) := by decide +kernel
theorem dX6_bestDrift_14 : decode cX6_bestDrift 14 = .ok (.invokestatic 59, 3) := by decide +kernel
theorem dX6_bestDrift_17 : decode cX6_bestDrift 17 = .ok (.aload_n 0, 1) := by decide +kernel
theorem dX6_bestDrift_18 : decode cX6_bestDrift 18 = .ok (.getfield 10, 3) := by decide +kernel
theorem dX6_bestDrift_21 : decode cX6_bestDrift 21 = .ok (.getfield 143, 3) := by decide +kernel
theorem dX6_bestDrift_24 : decode cX6_bestDrift 24 = .ok (.iconst 1, 1) := by decide +kernel
theorem dX6_bestDrift_25 : decode cX6_bestDrift 25 = .ok (.iaload, 1) := by decide +kernel
theorem dX6_bestDrift_26 : decode cX6_bestDrift 26 = .ok (.istore_n 2, 1) := by decide +kernel
theorem dX6_bestDrift_27 : decode cX6_bestDrift 27 = .ok (.aload_n 0, 1) := by decide +kernel
theorem dX6_bestDrift_28 : decode cX6_bestDrift 28 = .ok (.getfield 10, 3) := by decide +kernel
theorem dX6_bestDrift_31 : decode cX6_bestDrift 31 = .ok (.getfield 143, 3) := by decide +kernel
theorem dX6_bestDrift_34 : decode cX6_bestDrift 34 = .ok (.iconst 2, 1) := by decide +kernel
theorem dX6_bestDrift_35 : decode cX6_bestDrift 35 = .ok (.iaload, 1) := by decide +kernel
theorem dX6_bestDrift_36 : decode cX6_bestDrift 36 = .ok (.istore_n 3, 1) := by decide +kernel
theorem dX6_bestDrift_37 : decode cX6_bestDrift 37 = .ok (.iload_n 2, 1) := by decide +kernel
theorem dX6_bestDrift_38 : decode cX6_bestDrift 38 = .ok (.istore 4, 2) := by decide +kernel
theorem dX6_bestDrift_40 : decode cX6_bestDrift 40 = .ok (.iload_n 3, 1) := by decide +kernel
theorem dX6_bestDrift_41 : decode cX6_bestDrift 41 = .ok (.istore 5, 2) := by decide +kernel
theorem dX6_bestDrift_43 : decode cX6_bestDrift 43 = .ok (.ldc 153, 2) := by decide +kernel
theorem dX6_bestDrift_45 : decode cX6_bestDrift 45 = .ok (.istore 6, 2) := by decide +kernel
theorem dX6_bestDrift_47 : decode cX6_bestDrift 47 = .ok (.iload_n 1, 1) := by decide +kernel
theorem dX6_bestDrift_48 : decode cX6_bestDrift 48 = .ok (.ineg, 1) := by decide +kernel
theorem dX6_bestDrift_49 : decode cX6_bestDrift 49 = .ok (.bipush (-100), 2) := by decide +kernel
theorem dX6_bestDrift_51 : decode cX6_bestDrift 51 = .ok (.iload_n 2, 1) := by decide +kernel
theorem dX6_bestDrift_52 : decode cX6_bestDrift 52 = .ok (.isub, 1) := by decide +kernel
theorem dX6_bestDrift_53 : decode cX6_bestDrift 53 = .ok (.invokestatic 207, 3) := by decide +kernel
theorem dX6_bestDrift_56 : decode cX6_bestDrift 56 = .ok (.istore 7, 2) := by decide +kernel
theorem dX6_bestDrift_58 : decode cX6_bestDrift 58 = .ok (.iload 7, 2) := by decide +kernel
theorem dX6_bestDrift_60 : decode cX6_bestDrift 60 = .ok (.iload_n 1, 1) := by decide +kernel
theorem dX6_bestDrift_61 : decode cX6_bestDrift 61 = .ok (.bipush 100, 2) := by decide +kernel
theorem dX6_bestDrift_63 : decode cX6_bestDrift 63 = .ok (.iload_n 2, 1) := by decide +kernel
theorem dX6_bestDrift_64 : decode cX6_bestDrift 64 = .ok (.isub, 1) := by decide +kernel
theorem dX6_bestDrift_65 : decode cX6_bestDrift 65 = .ok (.invokestatic 210, 3) := by decide +kernel
theorem dX6_bestDrift_68 : decode cX6_bestDrift 68 = .ok (.if_icmp .gt 100, 3) := by decide +kernel
theorem dX6_bestDrift_71 : decode cX6_bestDrift 71 = .ok (.iload_n 1, 1) := by decide +kernel
theorem dX6_bestDrift_72 : decode cX6_bestDrift 72 = .ok (.ineg, 1) := by decide +kernel
theorem dX6_bestDrift_73 : decode cX6_bestDrift 73 = .ok (.bipush (-100), 2) := by decide +kernel
theorem dX6_bestDrift_75 : decode cX6_bestDrift 75 = .ok (.iload_n 3, 1) := by decide +kernel
theorem dX6_bestDrift_76 : decode cX6_bestDrift 76 = .ok (.isub, 1) := by decide +kernel
theorem dX6_bestDrift_77 : decode cX6_bestDrift 77 = .ok (.invokestatic 207, 3) := by decide +kernel
theorem dX6_bestDrift_80 : decode cX6_bestDrift 80 = .ok (.istore 8, 2) := by decide +kernel
theorem dX6_bestDrift_82 : decode cX6_bestDrift 82 = .ok (.iload 8, 2) := by decide +kernel
theorem dX6_bestDrift_84 : decode cX6_bestDrift 84 = .ok (.iload_n 1, 1) := by decide +kernel
theorem dX6_bestDrift_85 : decode cX6_bestDrift 85 = .ok (.bipush 100, 2) := by decide +kernel
theorem dX6_bestDrift_87 : decode cX6_bestDrift 87 = .ok (.iload_n 3, 1) := by decide +kernel
theorem dX6_bestDrift_88 : decode cX6_bestDrift 88 = .ok (.isub, 1) := by decide +kernel
theorem dX6_bestDrift_89 : decode cX6_bestDrift 89 = .ok (.invokestatic 210, 3) := by decide +kernel
theorem dX6_bestDrift_92 : decode cX6_bestDrift 92 = .ok (.if_icmp .gt 70, 3) := by decide +kernel
theorem dX6_bestDrift_95 : decode cX6_bestDrift 95 = .ok (.aload_n 0, 1) := by decide +kernel
theorem dX6_bestDrift_96 : decode cX6_bestDrift 96 = .ok (.getfield 10, 3) := by decide +kernel
theorem dX6_bestDrift_99 : decode cX6_bestDrift 99 = .ok (.aload_n 0, 1) := by decide +kernel
theorem dX6_bestDrift_100 : decode cX6_bestDrift 100 = .ok (.getfield 10, 3) := by decide +kernel
theorem dX6_bestDrift_103 : decode cX6_bestDrift 103 = .ok (.getfield 213, 3) := by decide +kernel
theorem dX6_bestDrift_106 : decode cX6_bestDrift 106 = .ok (.aload_n 0, 1) := by decide +kernel
theorem dX6_bestDrift_107 : decode cX6_bestDrift 107 = .ok (.getfield 10, 3) := by decide +kernel
theorem dX6_bestDrift_110 : decode cX6_bestDrift 110 = .ok (.getfield 216, 3) := by decide +kernel
theorem dX6_bestDrift_113 : decode cX6_bestDrift 113 = .ok (.iload_n 2, 1) := by decide +kernel
theorem dX6_bestDrift_114 : decode cX6_bestDrift 114 = .ok (.iload 7, 2) := by decide +kernel
theorem dX6_bestDrift_116 : decode cX6_bestDrift 116 = .ok (.iadd, 1) := by decide +kernel
theorem dX6_bestDrift_117 : decode cX6_bestDrift 117 = .ok (.iload_n 3, 1) := by decide +kernel
theorem dX6_bestDrift_118 : decode cX6_bestDrift 118 = .ok (.iload 8, 2) := by decide +kernel
theorem dX6_bestDrift_120 : decode cX6_bestDrift 120 = .ok (.iadd, 1) := by decide +kernel
theorem dX6_bestDrift_121 : decode cX6_bestDrift 121 = .ok (.invokevirtual 219, 3) := by decide +kernel
theorem dX6_bestDrift_124 : decode cX6_bestDrift 124 = .ok (.istore 9, 2) := by decide +kernel
theorem dX6_bestDrift_126 : decode cX6_bestDrift 126 = .ok (.iload 6, 2) := by decide +kernel
theorem dX6_bestDrift_128 : decode cX6_bestDrift 128 = .ok (.ldc 153, 2) := by decide +kernel
theorem dX6_bestDrift_130 : decode cX6_bestDrift 130 = .ok (.if_icmp .eq 10, 3) := by decide +kernel
theorem dX6_bestDrift_133 : decode cX6_bestDrift 133 = .ok (.iload 9, 2) := by decide +kernel
theorem dX6_bestDrift_135 : decode cX6_bestDrift 135 = .ok (.iload 6, 2) := by decide +kernel
theorem dX6_bestDrift_137 : decode cX6_bestDrift 137 = .ok (.if_icmp .ge 19, 3) := by decide +kernel
theorem dX6_bestDrift_140 : decode cX6_bestDrift 140 = .ok (.iload 9, 2) := by decide +kernel
theorem dX6_bestDrift_142 : decode cX6_bestDrift 142 = .ok (.istore 6, 2) := by decide +kernel
theorem dX6_bestDrift_144 : decode cX6_bestDrift 144 = .ok (.iload_n 2, 1) := by decide +kernel
theorem dX6_bestDrift_145 : decode cX6_bestDrift 145 = .ok (.iload 7, 2) := by decide +kernel
theorem dX6_bestDrift_147 : decode cX6_bestDrift 147 = .ok (.iadd, 1) := by decide +kernel
theorem dX6_bestDrift_148 : decode cX6_bestDrift 148 = .ok (.istore 4, 2) := by decide +kernel
theorem dX6_bestDrift_150 : decode cX6_bestDrift 150 = .ok (.iload_n 3, 1) := by decide +kernel
theorem dX6_bestDrift_151 : decode cX6_bestDrift 151 = .ok (.iload 8, 2) := by decide +kernel
theorem dX6_bestDrift_153 : decode cX6_bestDrift 153 = .ok (.iadd, 1) := by decide +kernel
theorem dX6_bestDrift_154 : decode cX6_bestDrift 154 = .ok (.istore 5, 2) := by decide +kernel
theorem dX6_bestDrift_156 : decode cX6_bestDrift 156 = .ok (.iinc 8 1, 3) := by decide +kernel
theorem dX6_bestDrift_159 : decode cX6_bestDrift 159 = .ok (.goto (-77), 3) := by decide +kernel
theorem dX6_bestDrift_162 : decode cX6_bestDrift 162 = .ok (.iinc 7 1, 3) := by decide +kernel
theorem dX6_bestDrift_165 : decode cX6_bestDrift 165 = .ok (.goto (-107), 3) := by decide +kernel
theorem dX6_bestDrift_168 : decode cX6_bestDrift 168 = .ok (.sipush 1000, 3) := by decide +kernel
theorem dX6_bestDrift_171 : decode cX6_bestDrift 171 = .ok (.iload 4, 2) := by decide +kernel
theorem dX6_bestDrift_173 : decode cX6_bestDrift 173 = .ok (.bipush 100, 2) := by decide +kernel
theorem dX6_bestDrift_175 : decode cX6_bestDrift 175 = .ok (.iadd, 1) := by decide +kernel
theorem dX6_bestDrift_176 : decode cX6_bestDrift 176 = .ok (.imul, 1) := by decide +kernel
theorem dX6_bestDrift_177 : decode cX6_bestDrift 177 = .ok (.iload 5, 2) := by decide +kernel
theorem dX6_bestDrift_179 : decode cX6_bestDrift 179 = .ok (.bipush 100, 2) := by decide +kernel
theorem dX6_bestDrift_181 : decode cX6_bestDrift 181 = .ok (.iadd, 1) := by decide +kernel
theorem dX6_bestDrift_182 : decode cX6_bestDrift 182 = .ok (.iadd, 1) := by decide +kernel
theorem dX6_bestDrift_183 : decode cX6_bestDrift 183 = .ok (.ireturn, 1) := by decide +kernel
set_option maxRecDepth 20000 in
theorem ggX6_type_X6_inRange : GoodIn wsX6_type wsX6_inRange := goodIn_r _ [6] (by decide +kernel) (by decide +kernel)
set_option maxRecDepth 20000 in
theorem gX6_type_X6_inRange : GoodIn wsX6_type (va_wsS RX6 127 yX6_inRange wsX6_inRange) := goodIn_app (goodIn_of _ (by decide +kernel)) ggX6_type_X6_inRange
set_option maxRecDepth 20000 in
theorem ggX6_type_X6_refuse : GoodIn wsX6_type wsX6_refuse := goodIn_ca (goodIn_ca (goodIn_ca (goodIn_r _ [9, 10, 11, 12, 13, 14, 15] (by decide +kernel) (by decide +kernel)) (goodIn_sub (fun _ h => List.mem_cons_of_mem _ (List.mem_append_left _ (List.mem_append_left _ (List.mem_append_right _ h)))) (by decide +kernel))) (goodIn_sub (fun _ h => List.mem_cons_of_mem _ (List.mem_append_left _ (List.mem_append_right _ h))) (by decide +kernel))) (goodIn_sub (fun _ h => List.mem_cons_of_mem _ (List.mem_append_right _ h)) (by decide +kernel))
set_option maxRecDepth 20000 in
theorem gX6_type_X6_refuse : GoodIn wsX6_type (va_wsS RX6 59 yX6_refuse wsX6_refuse) := goodIn_app (goodIn_of _ (by decide +kernel)) ggX6_type_X6_refuse
set_option maxRecDepth 20000 in
theorem ggX6_type_X5_append : GoodIn wsX6_type wsX5_append := goodIn_r _ [20, 21, 22, 31, 32, 33, 34, 35, 36] (by decide +kernel) (by decide +kernel)
set_option maxRecDepth 20000 in
theorem gX6_type_X5_append : GoodIn wsX6_type (wsV RX6 225 RX5 yX5_append wsX5_append) := goodIn_app (goodIn_of _ (by decide +kernel)) ggX6_type_X5_append
theorem dX6_type_0 : decode cX6_type 0 = .ok (.iload_n 1, 1) := by decide +kernel
theorem dX6_type_1 : decode cX6_type 1 = .ok (.iconst 0, 1) := by decide +kernel
theorem dX6_type_2 : decode cX6_type 2 = .ok (.bipush 127, 2) := by decide +kernel
theorem dX6_type_4 : decode cX6_type 4 = .ok (.invokestatic 127, 3) := by decide +kernel
theorem dX6_type_7 : decode cX6_type 7 = .ok (.ifCond .eq 7, 3) := by decide +kernel
theorem dX6_type_10 : decode cX6_type 10 = .ok (.iconst 0, 1) := by decide +kernel
theorem dX6_type_11 : decode cX6_type 11 = .ok (.goto 4, 3) := by decide +kernel
theorem dX6_type_14 : decode cX6_type 14 = .ok (.iconst 2, 1) := by decide +kernel
theorem dX6_type_15 : decode cX6_type 15 = .ok (.invokestatic 59, 3) := by decide +kernel
theorem dX6_type_18 : decode cX6_type 18 = .ok (.aload_n 0, 1) := by decide +kernel
theorem dX6_type_19 : decode cX6_type 19 = .ok (.getfield 26, 3) := by decide +kernel
theorem dX6_type_22 : decode cX6_type 22 = .ok (.getfield 222, 3) := by decide +kernel
theorem dX6_type_25 : decode cX6_type 25 = .ok (.sipush 150, 3) := by decide +kernel
theorem dX6_type_28 : decode cX6_type 28 = .ok (.if_icmp .ge 7, 3) := by decide +kernel
theorem dX6_type_31 : decode cX6_type 31 = .ok (.iconst 0, 1) := by decide +kernel
theorem dX6_type_32 : decode cX6_type 32 = .ok (.goto 4, 3) := by decide +kernel
theorem dX6_type_35 : decode cX6_type 35 = .ok (.iconst 3, 1) := by decide +kernel
theorem dX6_type_36 : decode cX6_type 36 = .ok (.invokestatic 59, 3) := by decide +kernel
theorem dX6_type_39 : decode cX6_type 39 = .ok (.aload_n 0, 1) := by decide +kernel
theorem dX6_type_40 : decode cX6_type 40 = .ok (.getfield 26, 3) := by decide +kernel
theorem dX6_type_43 : decode cX6_type 43 = .ok (.iload_n 1, 1) := by decide +kernel
theorem dX6_type_44 : decode cX6_type 44 = .ok (.invokevirtual 225, 3) := by decide +kernel
theorem dX6_type_47 : decode cX6_type 47 = .ok (.ireturn, 1) := by decide +kernel
set_option maxRecDepth 20000 in
theorem ggX6_runCommands_X5_read : GoodIn wsX6_runCommands wsX5_read := goodIn_r _ [9, 10, 11, 12, 13, 14, 15, 8, 16, 17, 18, 19, 20, 21, 22, 23, 24, 25, 26, 27, 28, 29, 30, 31, 32, 33, 34, 35, 36, 37, 38, 39, 40, 41, 42, 43, 44, 45, 46, 47, 48, 49, 50, 51, 52, 53, 54, 55, 56, 57, 58, 59, 60, 61, 62, 63, 64, 65, 66, 67, 68, 69, 70, 71, 72, 73, 74, 75, 76, 77, 78, 79, 80, 81, 82, 83, 84, 85, 86, 87, 88, 89, 90, 91, 92, 93, 253, 254, 255, 256, 257, 258] (by decide +kernel) (by decide +kernel)
set_option maxRecDepth 20000 in
theorem gX6_runCommands_X5_read : GoodIn wsX6_runCommands (wsV RX6 231 RX5 yX5_read wsX5_read) := goodIn_app (goodIn_of _ (by decide +kernel)) ggX6_runCommands_X5_read
set_option maxRecDepth 20000 in
theorem ggX6_runCommands_X6_keepState : GoodIn wsX6_runCommands wsX6_keepState := goodIn_r _ [98, 99, 4, 100, 101, 102, 103, 104, 105, 106, 107, 108, 109, 110, 111, 112, 113, 114, 115, 116, 117, 118, 119, 120, 121, 122, 123, 124, 125, 126, 127, 128, 129, 130, 131, 132, 133, 134, 135, 136, 137, 138, 139, 245, 246, 247, 248, 249, 250, 251, 252, 259, 260, 261, 262, 263, 264, 265, 266, 267, 268, 269, 270, 271, 272] (by decide +kernel) (by decide +kernel)
set_option maxRecDepth 20000 in
theorem gX6_runCommands_X6_keepState : GoodIn wsX6_runCommands (wsV RX6 63 RX6 yX6_keepState wsX6_keepState) := goodIn_app (goodIn_of _ (by decide +kernel)) ggX6_runCommands_X6_keepState
set_option maxRecDepth 20000 in
theorem ggX6_runCommands_X5_faultOf : GoodIn wsX6_runCommands wsX5_faultOf := goodIn_r _ [143, 23, 85, 144, 145, 146, 115, 147, 117, 148, 149, 150, 151, 121, 152, 153, 154, 155, 156, 97, 157, 158, 159, 160, 161, 122, 162, 163, 164, 165, 166, 167, 168, 169, 170, 118, 171, 172, 173, 174, 175, 176, 177, 178, 179, 180, 181, 182, 183, 184, 253, 254, 255, 256, 257, 258, 261, 262, 263, 264, 265, 266, 267, 268, 269, 270, 271, 272] (by decide +kernel) (by decide +kernel)
set_option maxRecDepth 20000 in
theorem gX6_runCommands_X5_faultOf : GoodIn wsX6_runCommands (wsV RX6 237 RX5 yX5_faultOf wsX5_faultOf) := goodIn_app (goodIn_of _ (by decide +kernel)) ggX6_runCommands_X5_faultOf
set_option maxRecDepth 20000 in
theorem ggX6_runCommands_X5_carryOut : GoodIn wsX6_runCommands wsX5_carryOut := goodIn_r _ [188, 23, 85, 189, 190, 191, 115, 192, 121, 117, 193, 194, 195, 196, 122, 123, 124, 162, 163, 164, 197, 198, 199, 200, 201, 202, 203, 125, 118, 126, 127, 204, 205, 206, 207, 119, 120, 208, 209, 210, 211, 128, 212, 213, 214, 215, 216, 217, 218, 219, 220, 221, 222, 223, 224, 132, 133, 134, 135, 225, 226, 227, 228, 229, 230, 231, 232, 233, 234, 235, 236, 237, 238, 239, 240, 241, 242, 243, 174, 175, 176, 156, 97, 157, 244, 253, 254, 255, 256, 257, 258, 261, 262, 263, 264, 265, 266, 267, 268, 269, 270, 271, 272] (by decide +kernel) (by decide +kernel)
set_option maxRecDepth 20000 in
theorem gX6_runCommands_X5_carryOut : GoodIn wsX6_runCommands (wsV RX6 241 RX5 yX5_carryOut wsX5_carryOut) := goodIn_app (goodIn_of _ (by decide +kernel)) ggX6_runCommands_X5_carryOut
theorem dX6_runCommands_0 : decode cX6_runCommands 0 = .ok (.aload_n 0, 1) := by decide +kernel
theorem dX6_runCommands_1 : decode cX6_runCommands 1 = .ok (.getfield 26, 3) := by decide +kernel
theorem dX6_runCommands_4 : decode cX6_runCommands 4 = .ok (.invokevirtual 231, 3) := by decide +kernel
theorem dX6_runCommands_7 : decode cX6_runCommands 7 = .ok (.istore_n 1, 1) := by decide +kernel
theorem dX6_runCommands_8 : decode cX6_runCommands 8 = .ok (.iload_n 1, 1) := by decide +kernel
theorem dX6_runCommands_9 : decode cX6_runCommands 9 = .ok (.iconst (-1), 1) := by decide +kernel
theorem dX6_runCommands_10 : decode cX6_runCommands 10 = .ok (.if_icmp .eq 8, 3) := by decide +kernel
theorem dX6_runCommands_13 : decode cX6_runCommands 13 = .ok (.bipush (-10), 2) := by decide +kernel
theorem dX6_runCommands_15 : decode cX6_runCommands 15 = .ok (.iload_n 1, 1) := by decide +kernel
theorem dX6_runCommands_16 : decode cX6_runCommands 16 = .ok (.isub, 1) := by decide +kernel
theorem dX6_runCommands_17 : decode cX6_runCommands 17 = .ok (.ireturn, 1) := by decide +kernel
theorem dX6_runCommands_18 : decode cX6_runCommands 18 = .ok (.aload_n 0, 1) := by decide +kernel
theorem dX6_runCommands_19 : decode cX6_runCommands 19 = .ok (.invokevirtual 63, 3) := by decide +kernel
theorem dX6_runCommands_22 : decode cX6_runCommands 22 = .ok (.aload_n 0, 1) := by decide +kernel
theorem dX6_runCommands_23 : decode cX6_runCommands 23 = .ok (.iconst 0, 1) := by decide +kernel
theorem dX6_runCommands_24 : decode cX6_runCommands 24 = .ok (.putfield 51, 3) := by decide +kernel
theorem dX6_runCommands_27 : decode cX6_runCommands 27 = .ok (.iconst 0, 1) := by decide +kernel
theorem dX6_runCommands_28 : decode cX6_runCommands 28 = .ok (.istore_n 2, 1) := by decide +kernel
theorem dX6_runCommands_29 : decode cX6_runCommands 29 = .ok (.iload_n 2, 1) := by decide +kernel
theorem dX6_runCommands_30 : decode cX6_runCommands 30 = .ok (.aload_n 0, 1) := by decide +kernel
theorem dX6_runCommands_31 : decode cX6_runCommands 31 = .ok (.getfield 26, 3) := by decide +kernel
theorem dX6_runCommands_34 : decode cX6_runCommands 34 = .ok (.getfield 234, 3) := by decide +kernel
theorem dX6_runCommands_37 : decode cX6_runCommands 37 = .ok (.if_icmp .ge 46, 3) := by decide +kernel
theorem dX6_runCommands_40 : decode cX6_runCommands 40 = .ok (.aload_n 0, 1) := by decide +kernel
theorem dX6_runCommands_41 : decode cX6_runCommands 41 = .ok (.aload_n 0, 1) := by decide +kernel
theorem dX6_runCommands_42 : decode cX6_runCommands 42 = .ok (.getfield 26, 3) := by decide +kernel
theorem dX6_runCommands_45 : decode cX6_runCommands 45 = .ok (.iload_n 2, 1) := by decide +kernel
theorem dX6_runCommands_46 : decode cX6_runCommands 46 = .ok (.aload_n 0, 1) := by decide +kernel
theorem dX6_runCommands_47 : decode cX6_runCommands 47 = .ok (.getfield 10, 3) := by decide +kernel
theorem dX6_runCommands_50 : decode cX6_runCommands 50 = .ok (.invokevirtual 237, 3) := by decide +kernel
theorem dX6_runCommands_53 : decode cX6_runCommands 53 = .ok (.putfield 51, 3) := by decide +kernel
theorem dX6_runCommands_56 : decode cX6_runCommands 56 = .ok (.aload_n 0, 1) := by decide +kernel
theorem dX6_runCommands_57 : decode cX6_runCommands 57 = .ok (.getfield 51, 3) := by decide +kernel
theorem dX6_runCommands_60 : decode cX6_runCommands 60 = .ok (.ifCond .eq 5, 3) := by decide +kernel
theorem dX6_runCommands_63 : decode cX6_runCommands 63 = .ok (.iload_n 2, 1) := by decide +kernel
theorem dX6_runCommands_64 : decode cX6_runCommands 64 = .ok (.ireturn, 1) := by decide +kernel
theorem dX6_runCommands_65 : decode cX6_runCommands 65 = .ok (.aload_n 0, 1) := by decide +kernel
theorem dX6_runCommands_66 : decode cX6_runCommands 66 = .ok (.getfield 26, 3) := by decide +kernel
theorem dX6_runCommands_69 : decode cX6_runCommands 69 = .ok (.iload_n 2, 1) := by decide +kernel
theorem dX6_runCommands_70 : decode cX6_runCommands 70 = .ok (.aload_n 0, 1) := by decide +kernel
theorem dX6_runCommands_71 : decode cX6_runCommands 71 = .ok (.getfield 10, 3) := by decide +kernel
theorem dX6_runCommands_74 : decode cX6_runCommands 74 = .ok (.invokevirtual 241, 3) := by decide +kernel
theorem dX6_runCommands_77 : decode cX6_runCommands 77 = .ok (.iinc 2 1, 3) := by decide +kernel
theorem dX6_runCommands_80 : decode cX6_runCommands 80 = .ok (.goto (-51), 3) := by decide +kernel
theorem dX6_runCommands_83 : decode cX6_runCommands 83 = .ok (.aload_n 0, 1) := by decide +kernel
theorem dX6_runCommands_84 : decode cX6_runCommands 84 = .ok (.getfield 26, 3) := by decide +kernel
theorem dX6_runCommands_87 : decode cX6_runCommands 87 = .ok (.getfield 234, 3) := by decide +kernel
theorem dX6_runCommands_90 : decode cX6_runCommands 90 = .ok (.ireturn, 1) := by decide +kernel
set_option maxRecDepth 20000 in
theorem ggX6_undo_X6_refuse : GoodIn wsX6_undo wsX6_refuse := goodIn_ca (goodIn_ca (goodIn_ca (goodIn_r _ [8, 9, 10, 11, 12, 13, 14] (by decide +kernel) (by decide +kernel)) (goodIn_sub (fun _ h => List.mem_cons_of_mem _ (List.mem_append_left _ (List.mem_append_left _ (List.mem_append_right _ h)))) (by decide +kernel))) (goodIn_sub (fun _ h => List.mem_cons_of_mem _ (List.mem_append_left _ (List.mem_append_right _ h))) (by decide +kernel))) (goodIn_sub (fun _ h => List.mem_cons_of_mem _ (List.mem_append_right _ h)) (by decide +kernel))
set_option maxRecDepth 20000 in
theorem gX6_undo_X6_refuse : GoodIn wsX6_undo (va_wsS RX6 59 yX6_refuse wsX6_refuse) := goodIn_app (goodIn_of _ (by decide +kernel)) ggX6_undo_X6_refuse
set_option maxRecDepth 20000 in
theorem ggX6_undo_X2_restore : GoodIn wsX6_undo wsX2_restore := goodIn_r _ [19, 20, 21, 22, 23, 24, 25, 26, 27, 28, 29, 30, 31, 32, 33, 34, 35, 36, 37, 38, 39, 40, 41, 42, 43, 44, 45, 46, 47, 48, 49, 58, 59, 60, 61, 62, 63, 64, 65, 66, 67, 68, 69, 70, 71] (by decide +kernel) (by decide +kernel)
set_option maxRecDepth 20000 in
theorem gX6_undo_X2_restore : GoodIn wsX6_undo (wsV RX6 248 RX2 yX2_restore wsX2_restore) := goodIn_app (goodIn_of _ (by decide +kernel)) ggX6_undo_X2_restore
theorem dX6_undo_0 : decode cX6_undo 0 = .ok (.aload_n 0, 1) := by decide +kernel
theorem dX6_undo_1 : decode cX6_undo 1 = .ok (.getfield 19, 3) := by decide +kernel
theorem dX6_undo_4 : decode cX6_undo 4 = .ok (.getfield 245, 3) := by decide +kernel
theorem dX6_undo_7 : decode cX6_undo 7 = .ok (.ifCond .le 7, 3) := by decide +kernel
theorem dX6_undo_10 : decode cX6_undo 10 = .ok (.iconst 0, 1) := by decide +kernel
theorem dX6_undo_11 : decode cX6_undo 11 = .ok (.goto 4, 3) := by decide +kernel
theorem dX6_undo_14 : decode cX6_undo 14 = .ok (.iconst 3, 1) := by decide +kernel
theorem dX6_undo_15 : decode cX6_undo 15 = .ok (.invokestatic 59, 3) := by decide +kernel
theorem dX6_undo_18 : decode cX6_undo 18 = .ok (.aload_n 0, 1) := by decide +kernel
theorem dX6_undo_19 : decode cX6_undo 19 = .ok (.iconst 0, 1) := by decide +kernel
theorem dX6_undo_20 : decode cX6_undo 20 = .ok (.putfield 47, 3) := by decide +kernel
theorem dX6_undo_23 : decode cX6_undo 23 = .ok (.aload_n 0, 1) := by decide +kernel
theorem dX6_undo_24 : decode cX6_undo 24 = .ok (.getfield 19, 3) := by decide +kernel
theorem dX6_undo_27 : decode cX6_undo 27 = .ok (.aload_n 0, 1) := by decide +kernel
theorem dX6_undo_28 : decode cX6_undo 28 = .ok (.getfield 10, 3) := by decide +kernel
theorem dX6_undo_31 : decode cX6_undo 31 = .ok (.invokevirtual 248, 3) := by decide +kernel
theorem dX6_undo_34 : decode cX6_undo 34 = .ok (.ireturn, 1) := by decide +kernel
set_option maxRecDepth 20000 in
theorem ggX6_digest_X6_look : GoodIn wsX6_digest wsX6_look := goodIn_r _ [16, 17, 18, 8, 19, 9, 20, 21, 22, 23, 24, 25, 26, 27, 28, 29, 30, 31, 32, 33, 34, 35, 36, 37, 38, 39, 40, 41, 42, 43, 44, 45, 46, 47, 48, 49, 50, 51, 52, 53, 54, 55, 56, 57, 58, 59, 60, 61, 62, 63, 64, 65, 66, 67, 68, 69, 70, 71, 72, 73, 74, 75, 76, 77, 78, 79, 80, 81, 82, 83, 84, 85, 86, 87, 88, 89, 90, 91, 92, 93, 94, 95, 96, 97, 98, 99, 100, 101, 102, 103, 104, 105, 106, 107, 108, 109, 110, 111, 112, 113, 114, 115, 116, 117, 118, 119, 120, 121, 122, 123, 124, 125, 126, 127, 128, 129, 130, 131, 132, 133, 134, 135, 136, 137, 138, 139, 140, 141, 142, 143, 144, 145, 146, 147, 148, 149, 150, 151, 152, 153, 154, 155, 156, 157, 158, 159, 160, 161, 162, 163, 164, 165, 166, 167, 168, 169, 170, 248, 249, 250, 251, 252, 253, 254, 255, 264, 265, 266, 267, 268, 269, 270, 271, 272, 273, 274, 275, 276, 277, 278, 279, 280, 281, 282, 283, 284, 285, 286, 287, 288, 289, 290, 291, 292] (by decide +kernel) (by decide +kernel)
set_option maxRecDepth 20000 in
theorem gX6_digest_X6_look : GoodIn wsX6_digest (wsV RX6 134 RX6 yX6_look wsX6_look) := goodIn_app (goodIn_of _ (by decide +kernel)) ggX6_digest_X6_look
set_option maxRecDepth 20000 in
theorem ggX6_digest_X6_wholeValue : GoodIn wsX6_digest wsX6_wholeValue := goodIn_r _ [174, 8, 10, 11, 175, 176, 19, 177, 178, 179, 180, 181, 43, 182, 49, 183, 184, 185, 186, 187, 110, 188, 189, 190, 191, 192, 32, 33, 34, 193, 36, 37, 111, 42, 44, 52, 53, 54, 55, 56, 57, 58, 59, 60, 61, 62, 63, 64, 65, 66, 67, 68, 69, 70, 194, 195, 196, 15, 197, 18, 198, 199, 200, 201, 202, 203, 204, 205, 206, 207, 208, 209, 9, 210, 211, 212, 213, 214, 215, 216, 217, 218, 248, 249, 250, 251, 252, 253, 254, 255, 264, 265, 266, 267, 268, 269, 270, 271, 272, 273, 274, 275, 284, 285, 286, 287, 288, 289, 290, 291, 292, 276, 277, 278, 279, 280, 281, 282, 283] (by decide +kernel) (by decide +kernel)
set_option maxRecDepth 20000 in
theorem gX6_digest_X6_wholeValue : GoodIn wsX6_digest (wsV RX6 164 RX6 yX6_wholeValue wsX6_wholeValue) := goodIn_app (goodIn_of _ (by decide +kernel)) ggX6_digest_X6_wholeValue
set_option maxRecDepth 20000 in
theorem ggX6_digest_X6_hashTrail : GoodIn wsX6_digest wsX6_hashTrail := goodIn_r _ [222, 2, 8, 223, 224, 225, 226, 15, 227, 18, 228, 229, 230, 231, 232, 198, 218, 19, 233, 234, 235, 236, 43, 237, 57, 56, 66, 49, 111, 42, 44, 52, 53, 54, 55, 58, 59, 60, 61, 62, 63, 64, 65, 238, 46, 47, 48, 50, 51, 67, 68, 69, 70, 239, 81, 82, 83, 84, 85, 86, 87, 88, 89, 90, 91, 92, 248, 249, 250, 251, 252, 253, 254, 255, 264, 265, 266, 267, 268, 269, 270, 271, 272, 273, 274, 275, 276, 277, 278, 279, 280, 281, 282, 283, 284, 285, 286, 287, 288, 289, 290, 291, 292] (by decide +kernel) (by decide +kernel)
set_option maxRecDepth 20000 in
theorem gX6_digest_X6_hashTrail : GoodIn wsX6_digest (wsV RX6 256 RX6 yX6_hashTrail wsX6_hashTrail) := goodIn_app (goodIn_of _ (by decide +kernel)) ggX6_digest_X6_hashTrail
set_option maxRecDepth 20000 in
theorem ggX6_digest_X6_starValue : GoodIn wsX6_digest wsX6_starValue := goodIn_r _ [243, 8, 244, 245, 209, 19, 207, 246, 247, 153, 154, 43, 155, 156, 49, 157, 203, 204, 205, 15, 206, 208, 9, 248, 249, 250, 251, 252, 253, 254, 255, 264, 265, 266, 267, 268, 269, 270, 271, 272, 273, 274, 275, 284, 285, 286, 287, 288, 289, 290, 291, 292] (by decide +kernel) (by decide +kernel)
set_option maxRecDepth 20000 in
theorem gX6_digest_X6_starValue : GoodIn wsX6_digest (wsV RX6 140 RX6 yX6_starValue wsX6_starValue) := goodIn_app (goodIn_of _ (by decide +kernel)) ggX6_digest_X6_starValue
theorem dX6_digest_0 : decode cX6_digest 0 = .ok (.aload_n 0, 1) := by decide +kernel
theorem dX6_digest_1 : decode cX6_digest 1 = .ok (.invokevirtual 134, 3) := by decide +kernel
theorem dX6_digest_4 : decode cX6_digest 4 = .ok (.ldc2_w 252, 3) := by decide +kernel
theorem dX6_digest_7 : decode cX6_digest 7 = .ok (.lstore_n 1, 1) := by decide +kernel
theorem dX6_digest_8 : decode cX6_digest 8 = .ok (.ldc2_w 254, 3) := by decide +kernel
theorem dX6_digest_11 : decode cX6_digest 11 = .ok (.lload_n 1, 1) := by decide +kernel
theorem dX6_digest_12 : decode cX6_digest 12 = .ok (.lmul, 1) := by decide +kernel
theorem dX6_digest_13 : decode cX6_digest 13 = .ok (.aload_n 0, 1) := by decide +kernel
theorem dX6_digest_14 : decode cX6_digest 14 = .ok (.getfield 19, 3) := by decide +kernel
theorem dX6_digest_17 : decode cX6_digest 17 = .ok (.getfield 245, 3) := by decide +kernel
theorem dX6_digest_20 : decode cX6_digest 20 = .ok (.i2l, 1) := by decide +kernel
theorem dX6_digest_21 : decode cX6_digest 21 = .ok (.ladd, 1) := by decide +kernel
theorem dX6_digest_22 : decode cX6_digest 22 = .ok (.lstore_n 1, 1) := by decide +kernel
theorem dX6_digest_23 : decode cX6_digest 23 = .ok (.ldc2_w 254, 3) := by decide +kernel
theorem dX6_digest_26 : decode cX6_digest 26 = .ok (.lload_n 1, 1) := by decide +kernel
theorem dX6_digest_27 : decode cX6_digest 27 = .ok (.lmul, 1) := by decide +kernel
theorem dX6_digest_28 : decode cX6_digest 28 = .ok (.aload_n 0, 1) := by decide +kernel
theorem dX6_digest_29 : decode cX6_digest 29 = .ok (.getfield 26, 3) := by decide +kernel
theorem dX6_digest_32 : decode cX6_digest 32 = .ok (.getfield 222, 3) := by decide +kernel
theorem dX6_digest_35 : decode cX6_digest 35 = .ok (.i2l, 1) := by decide +kernel
theorem dX6_digest_36 : decode cX6_digest 36 = .ok (.ladd, 1) := by decide +kernel
theorem dX6_digest_37 : decode cX6_digest 37 = .ok (.lstore_n 1, 1) := by decide +kernel
theorem dX6_digest_38 : decode cX6_digest 38 = .ok (.ldc2_w 254, 3) := by decide +kernel
theorem dX6_digest_41 : decode cX6_digest 41 = .ok (.lload_n 1, 1) := by decide +kernel
theorem dX6_digest_42 : decode cX6_digest 42 = .ok (.lmul, 1) := by decide +kernel
theorem dX6_digest_43 : decode cX6_digest 43 = .ok (.aload_n 0, 1) := by decide +kernel
theorem dX6_digest_44 : decode cX6_digest 44 = .ok (.getfield 51, 3) := by decide +kernel
theorem dX6_digest_47 : decode cX6_digest 47 = .ok (.i2l, 1) := by decide +kernel
theorem dX6_digest_48 : decode cX6_digest 48 = .ok (.ladd, 1) := by decide +kernel
theorem dX6_digest_49 : decode cX6_digest 49 = .ok (.lstore_n 1, 1) := by decide +kernel
theorem dX6_digest_50 : decode cX6_digest 50 = .ok (.iconst 0, 1) := by decide +kernel
theorem dX6_digest_51 : decode cX6_digest 51 = .ok (.istore_n 3, 1) := by decide +kernel
theorem dX6_digest_52 : decode cX6_digest 52 = .ok (.iload_n 3, 1) := by decide +kernel
theorem dX6_digest_53 : decode cX6_digest 53 = .ok (.bipush 11, 2) := by decide +kernel
theorem dX6_digest_55 : decode cX6_digest 55 = .ok (.if_icmp .ge 22, 3) := by decide +kernel
theorem dX6_digest_58 : decode cX6_digest 58 = .ok (.ldc2_w 254, 3) := by decide +kernel
theorem dX6_digest_61 : decode cX6_digest 61 = .ok (.lload_n 1, 1) := by decide +kernel
theorem dX6_digest_62 : decode cX6_digest 62 = .ok (.lmul, 1) := by decide +kernel
theorem dX6_digest_63 : decode cX6_digest 63 = .ok (.aload_n 0, 1) := by decide +kernel
theorem dX6_digest_64 : decode cX6_digest 64 = .ok (.iload_n 3, 1) := by decide +kernel
theorem dX6_digest_65 : decode cX6_digest 65 = .ok (.invokevirtual 164, 3) := by decide +kernel
theorem dX6_digest_68 : decode cX6_digest 68 = .ok (.i2l, 1) := by decide +kernel
theorem dX6_digest_69 : decode cX6_digest 69 = .ok (.ladd, 1) := by decide +kernel
theorem dX6_digest_70 : decode cX6_digest 70 = .ok (.lstore_n 1, 1) := by decide +kernel
theorem dX6_digest_71 : decode cX6_digest 71 = .ok (.iinc 3 1, 3) := by decide +kernel
theorem dX6_digest_74 : decode cX6_digest 74 = .ok (.goto (-22), 3) := by decide +kernel
theorem dX6_digest_77 : decode cX6_digest 77 = .ok (.iconst 0, 1) := by decide +kernel
theorem dX6_digest_78 : decode cX6_digest 78 = .ok (.istore_n 3, 1) := by decide +kernel
theorem dX6_digest_79 : decode cX6_digest 79 = .ok (.iload_n 3, 1) := by decide +kernel
theorem dX6_digest_80 : decode cX6_digest 80 = .ok (.bipush 10, 2) := by decide +kernel
theorem dX6_digest_82 : decode cX6_digest 82 = .ok (.if_icmp .ge 26, 3) := by decide +kernel
theorem dX6_digest_85 : decode cX6_digest 85 = .ok (.ldc2_w 254, 3) := by decide +kernel
theorem dX6_digest_88 : decode cX6_digest 88 = .ok (.lload_n 1, 1) := by decide +kernel
theorem dX6_digest_89 : decode cX6_digest 89 = .ok (.lmul, 1) := by decide +kernel
theorem dX6_digest_90 : decode cX6_digest 90 = .ok (.aload_n 0, 1) := by decide +kernel
theorem dX6_digest_91 : decode cX6_digest 91 = .ok (.getfield 10, 3) := by decide +kernel
theorem dX6_digest_94 : decode cX6_digest 94 = .ok (.getfield 143, 3) := by decide +kernel
theorem dX6_digest_97 : decode cX6_digest 97 = .ok (.iload_n 3, 1) := by decide +kernel
theorem dX6_digest_98 : decode cX6_digest 98 = .ok (.iaload, 1) := by decide +kernel
theorem dX6_digest_99 : decode cX6_digest 99 = .ok (.i2l, 1) := by decide +kernel
theorem dX6_digest_100 : decode cX6_digest 100 = .ok (.ladd, 1) := by decide +kernel
theorem dX6_digest_101 : decode cX6_digest 101 = .ok (.lstore_n 1, 1) := by decide +kernel
theorem dX6_digest_102 : decode cX6_digest 102 = .ok (.iinc 3 1, 3) := by decide +kernel
theorem dX6_digest_105 : decode cX6_digest 105 = .ok (.goto (-26), 3) := by decide +kernel
theorem dX6_digest_108 : decode cX6_digest 108 = .ok (.iconst 0, 1) := by decide +kernel
theorem dX6_digest_109 : decode cX6_digest 109 = .ok (.istore_n 3, 1) := by decide +kernel
theorem dX6_digest_110 : decode cX6_digest 110 = .ok (.iload_n 3, 1) := by decide +kernel
theorem dX6_digest_111 : decode cX6_digest 111 = .ok (.aload_n 0, 1) := by decide +kernel
theorem dX6_digest_112 : decode cX6_digest 112 = .ok (.getfield 10, 3) := by decide +kernel
theorem dX6_digest_115 : decode cX6_digest 115 = .ok (.getfield 167, 3) := by decide +kernel
theorem dX6_digest_118 : decode cX6_digest 118 = .ok (.if_icmp .ge 16, 3) := by decide +kernel
theorem dX6_digest_121 : decode cX6_digest 121 = .ok (.aload_n 0, 1) := by decide +kernel
theorem dX6_digest_122 : decode cX6_digest 122 = .ok (.lload_n 1, 1) := by decide +kernel
theorem dX6_digest_123 : decode cX6_digest 123 = .ok (.iload_n 3, 1) := by decide +kernel
theorem dX6_digest_124 : decode cX6_digest 124 = .ok (.invokevirtual 256, 3) := by decide +kernel
theorem dX6_digest_127 : decode cX6_digest 127 = .ok (.lstore_n 1, 1) := by decide +kernel
theorem dX6_digest_128 : decode cX6_digest 128 = .ok (.iinc 3 1, 3) := by decide +kernel
theorem dX6_digest_131 : decode cX6_digest 131 = .ok (.goto (-21), 3) := by decide +kernel
theorem dX6_digest_134 : decode cX6_digest 134 = .ok (.iconst 0, 1) := by decide +kernel
theorem dX6_digest_135 : decode cX6_digest 135 = .ok (.istore_n 3, 1) := by decide +kernel
theorem dX6_digest_136 : decode cX6_digest 136 = .ok (.iload_n 3, 1) := by decide +kernel
theorem dX6_digest_137 : decode cX6_digest 137 = .ok (.aload_n 0, 1) := by decide +kernel
theorem dX6_digest_138 : decode cX6_digest 138 = .ok (.getfield 10, 3) := by decide +kernel
theorem dX6_digest_141 : decode cX6_digest 141 = .ok (.getfield 158, 3) := by decide +kernel
theorem dX6_digest_144 : decode cX6_digest 144 = .ok (.if_icmp .ge 40, 3) := by decide +kernel
theorem dX6_digest_147 : decode cX6_digest 147 = .ok (.iconst 0, 1) := by decide +kernel
theorem dX6_digest_148 : decode cX6_digest 148 = .ok (.istore 4, 2) := by decide +kernel
theorem dX6_digest_150 : decode cX6_digest 150 = .ok (.iload 4, 2) := by decide +kernel
theorem dX6_digest_152 : decode cX6_digest 152 = .ok (.bipush 7, 2) := by decide +kernel
theorem dX6_digest_154 : decode cX6_digest 154 = .ok (.if_icmp .ge 24, 3) := by decide +kernel
theorem dX6_digest_157 : decode cX6_digest 157 = .ok (.ldc2_w 254, 3) := by decide +kernel
theorem dX6_digest_160 : decode cX6_digest 160 = .ok (.lload_n 1, 1) := by decide +kernel
theorem dX6_digest_161 : decode cX6_digest 161 = .ok (.lmul, 1) := by decide +kernel
theorem dX6_digest_162 : decode cX6_digest 162 = .ok (.aload_n 0, 1) := by decide +kernel
theorem dX6_digest_163 : decode cX6_digest 163 = .ok (.iload_n 3, 1) := by decide +kernel
theorem dX6_digest_164 : decode cX6_digest 164 = .ok (.iload 4, 2) := by decide +kernel
theorem dX6_digest_166 : decode cX6_digest 166 = .ok (.invokevirtual 140, 3) := by decide +kernel
theorem dX6_digest_169 : decode cX6_digest 169 = .ok (.i2l, 1) := by decide +kernel
theorem dX6_digest_170 : decode cX6_digest 170 = .ok (.ladd, 1) := by decide +kernel
theorem dX6_digest_171 : decode cX6_digest 171 = .ok (.lstore_n 1, 1) := by decide +kernel
theorem dX6_digest_172 : decode cX6_digest 172 = .ok (.iinc 4 1, 3) := by decide +kernel
theorem dX6_digest_175 : decode cX6_digest 175 = .ok (.goto (-25), 3) := by decide +kernel
theorem dX6_digest_178 : decode cX6_digest 178 = .ok (.iinc 3 1, 3) := by decide +kernel
theorem dX6_digest_181 : decode cX6_digest 181 = .ok (.goto (-45), 3) := by decide +kernel
theorem dX6_digest_184 : decode cX6_digest 184 = .ok (.lload_n 1, 1) := by decide +kernel
theorem dX6_digest_185 : decode cX6_digest 185 = .ok (.lreturn, 1) := by decide +kernel
set_option maxRecDepth 20000 in
theorem ggX6_hashTrail_X6_trailValue : GoodIn wsX6_hashTrail wsX6_trailValue := goodIn_r _ [8, 2, 3, 9, 10, 11, 12, 13, 14, 15, 16, 17, 18, 66, 67, 68, 69, 70, 71, 72, 73, 74, 75, 76, 77, 78, 79, 80, 81, 82, 83, 84, 85, 86, 87, 88, 89, 90, 91, 92, 93, 94, 95, 96, 97, 98, 99, 100, 101, 102] (by decide +kernel) (by decide +kernel)
set_option maxRecDepth 20000 in
theorem gX6_hashTrail_X6_trailValue : GoodIn wsX6_hashTrail (wsV RX6 137 RX6 yX6_trailValue wsX6_trailValue) := goodIn_app (goodIn_of _ (by decide +kernel)) ggX6_hashTrail_X6_trailValue
set_option maxRecDepth 20000 in
theorem ggX6_hashTrail_X4_pointValue : GoodIn wsX6_hashTrail wsX4_pointValue := goodIn_r _ [23, 24, 25, 26, 27, 28, 29, 22, 30, 31, 32, 33, 34, 35, 36, 37, 38, 39, 40, 41, 42, 43, 44, 45, 46, 47, 48, 49, 50, 51, 52, 53, 54, 55, 56, 57, 58, 59, 60, 61, 62, 63, 64, 65, 74, 75, 76, 77, 78, 79, 80, 81, 82, 83, 84, 85] (by decide +kernel) (by decide +kernel)
set_option maxRecDepth 20000 in
theorem gX6_hashTrail_X4_pointValue : GoodIn wsX6_hashTrail (wsV RX6 131 RX4 yX4_pointValue wsX4_pointValue) := goodIn_app (goodIn_of _ (by decide +kernel)) ggX6_hashTrail_X4_pointValue
theorem dX6_hashTrail_0 : decode cX6_hashTrail 0 = .ok (.lload_n 1, 1) := by decide +kernel
theorem dX6_hashTrail_1 : decode cX6_hashTrail 1 = .ok (.lstore 4, 2) := by decide +kernel
theorem dX6_hashTrail_3 : decode cX6_hashTrail 3 = .ok (.iconst 0, 1) := by decide +kernel
theorem dX6_hashTrail_4 : decode cX6_hashTrail 4 = .ok (.istore 6, 2) := by decide +kernel
theorem dX6_hashTrail_6 : decode cX6_hashTrail 6 = .ok (.iload 6, 2) := by decide +kernel
theorem dX6_hashTrail_8 : decode cX6_hashTrail 8 = .ok (.bipush 9, 2) := by decide +kernel
theorem dX6_hashTrail_10 : decode cX6_hashTrail 10 = .ok (.if_icmp .ge 26, 3) := by decide +kernel
theorem dX6_hashTrail_13 : decode cX6_hashTrail 13 = .ok (.ldc2_w 254, 3) := by decide +kernel
theorem dX6_hashTrail_16 : decode cX6_hashTrail 16 = .ok (.lload 4, 2) := by decide +kernel
theorem dX6_hashTrail_18 : decode cX6_hashTrail 18 = .ok (.lmul, 1) := by decide +kernel
theorem dX6_hashTrail_19 : decode cX6_hashTrail 19 = .ok (.aload_n 0, 1) := by decide +kernel
theorem dX6_hashTrail_20 : decode cX6_hashTrail 20 = .ok (.iload_n 3, 1) := by decide +kernel
theorem dX6_hashTrail_21 : decode cX6_hashTrail 21 = .ok (.iload 6, 2) := by decide +kernel
theorem dX6_hashTrail_23 : decode cX6_hashTrail 23 = .ok (.invokevirtual 137, 3) := by decide +kernel
theorem dX6_hashTrail_26 : decode cX6_hashTrail 26 = .ok (.i2l, 1) := by decide +kernel
theorem dX6_hashTrail_27 : decode cX6_hashTrail 27 = .ok (.ladd, 1) := by decide +kernel
theorem dX6_hashTrail_28 : decode cX6_hashTrail 28 = .ok (.lstore 4, 2) := by decide +kernel
theorem dX6_hashTrail_30 : decode cX6_hashTrail 30 = .ok (.iinc 6 1, 3) := by decide +kernel
theorem dX6_hashTrail_33 : decode cX6_hashTrail 33 = .ok (.goto (-27), 3) := by decide +kernel
theorem dX6_hashTrail_36 : decode cX6_hashTrail 36 = .ok (.iconst 0, 1) := by decide +kernel
theorem dX6_hashTrail_37 : decode cX6_hashTrail 37 = .ok (.istore 6, 2) := by decide +kernel
theorem dX6_hashTrail_39 : decode cX6_hashTrail 39 = .ok (.iload 6, 2) := by decide +kernel
theorem dX6_hashTrail_41 : decode cX6_hashTrail 41 = .ok (.aload_n 0, 1) := by decide +kernel
theorem dX6_hashTrail_42 : decode cX6_hashTrail 42 = .ok (.getfield 10, 3) := by decide +kernel
theorem dX6_hashTrail_45 : decode cX6_hashTrail 45 = .ok (.getfield 150, 3) := by decide +kernel
theorem dX6_hashTrail_48 : decode cX6_hashTrail 48 = .ok (.iload_n 3, 1) := by decide +kernel
theorem dX6_hashTrail_49 : decode cX6_hashTrail 49 = .ok (.iaload, 1) := by decide +kernel
theorem dX6_hashTrail_50 : decode cX6_hashTrail 50 = .ok (.if_icmp .ge 47, 3) := by decide +kernel
theorem dX6_hashTrail_53 : decode cX6_hashTrail 53 = .ok (.iconst 0, 1) := by decide +kernel
theorem dX6_hashTrail_54 : decode cX6_hashTrail 54 = .ok (.istore 7, 2) := by decide +kernel
theorem dX6_hashTrail_56 : decode cX6_hashTrail 56 = .ok (.iload 7, 2) := by decide +kernel
theorem dX6_hashTrail_58 : decode cX6_hashTrail 58 = .ok (.bipush 7, 2) := by decide +kernel
theorem dX6_hashTrail_60 : decode cX6_hashTrail 60 = .ok (.if_icmp .ge 31, 3) := by decide +kernel
theorem dX6_hashTrail_63 : decode cX6_hashTrail 63 = .ok (.ldc2_w 254, 3) := by decide +kernel
theorem dX6_hashTrail_66 : decode cX6_hashTrail 66 = .ok (.lload 4, 2) := by decide +kernel
theorem dX6_hashTrail_68 : decode cX6_hashTrail 68 = .ok (.lmul, 1) := by decide +kernel
theorem dX6_hashTrail_69 : decode cX6_hashTrail 69 = .ok (.aload_n 0, 1) := by decide +kernel
theorem dX6_hashTrail_70 : decode cX6_hashTrail 70 = .ok (.getfield 10, 3) := by decide +kernel
theorem dX6_hashTrail_73 : decode cX6_hashTrail 73 = .ok (.iload_n 3, 1) := by decide +kernel
theorem dX6_hashTrail_74 : decode cX6_hashTrail 74 = .ok (.iload 6, 2) := by decide +kernel
theorem dX6_hashTrail_76 : decode cX6_hashTrail 76 = .ok (.iload 7, 2) := by decide +kernel
theorem dX6_hashTrail_78 : decode cX6_hashTrail 78 = .ok (.invokevirtual 131, 3) := by decide +kernel
theorem dX6_hashTrail_81 : decode cX6_hashTrail 81 = .ok (.i2l, 1) := by decide +kernel
theorem dX6_hashTrail_82 : decode cX6_hashTrail 82 = .ok (.ladd, 1) := by decide +kernel
theorem dX6_hashTrail_83 : decode cX6_hashTrail 83 = .ok (.lstore 4, 2) := by decide +kernel
theorem dX6_hashTrail_85 : decode cX6_hashTrail 85 = .ok (.iinc 7 1, 3) := by decide +kernel
theorem dX6_hashTrail_88 : decode cX6_hashTrail 88 = .ok (.goto (-32), 3) := by decide +kernel
theorem dX6_hashTrail_91 : decode cX6_hashTrail 91 = .ok (.iinc 6 1, 3) := by decide +kernel
theorem dX6_hashTrail_94 : decode cX6_hashTrail 94 = .ok (.goto (-55), 3) := by decide +kernel
theorem dX6_hashTrail_97 : decode cX6_hashTrail 97 = .ok (.lload 4, 2) := by decide +kernel
theorem dX6_hashTrail_99 : decode cX6_hashTrail 99 = .ok (.lreturn, 1) := by decide +kernel
theorem dX6_refuse_0 : decode cX6_refuse 0 = .ok (.iload_n 0, 1) := by decide +kernel
theorem dX6_refuse_1 : decode cX6_refuse 1 = .ok (.iconst 1, 1) := by decide +kernel
theorem dX6_refuse_2 : decode cX6_refuse 2 = .ok (.if_icmp .ne 14, 3) := by decide +kernel
theorem dX6_refuse_5 : decode cX6_refuse 5 = .ok (.new 260, 3) := by decide +kernel
theorem dX6_refuse_8 : decode cX6_refuse 8 = .ok (.dup, 1) := by decide +kernel
theorem dX6_refuse_9 : decode cX6_refuse 9 = .ok (.ldc_w 262, 3) := by decide +kernel
theorem dX6_refuse_12 : decode cX6_refuse 12 = .ok (.invokespecial 264, 3) := by decide +kernel
theorem dX6_refuse_15 : decode cX6_refuse 15 = .ok (.athrow, 1) := by decide +kernel
theorem dX6_refuse_16 : decode cX6_refuse 16 = .ok (.iload_n 0, 1) := by decide +kernel
theorem dX6_refuse_17 : decode cX6_refuse 17 = .ok (.iconst 2, 1) := by decide +kernel
theorem dX6_refuse_18 : decode cX6_refuse 18 = .ok (.if_icmp .ne 14, 3) := by decide +kernel
theorem dX6_refuse_21 : decode cX6_refuse 21 = .ok (.new 267, 3) := by decide +kernel
theorem dX6_refuse_24 : decode cX6_refuse 24 = .ok (.dup, 1) := by decide +kernel
theorem dX6_refuse_25 : decode cX6_refuse 25 = .ok (.ldc_w 269, 3) := by decide +kernel
theorem dX6_refuse_28 : decode cX6_refuse 28 = .ok (.invokespecial 271, 3) := by decide +kernel
theorem dX6_refuse_31 : decode cX6_refuse 31 = .ok (.athrow, 1) := by decide +kernel
theorem dX6_refuse_32 : decode cX6_refuse 32 = .ok (.iload_n 0, 1) := by decide +kernel
theorem dX6_refuse_33 : decode cX6_refuse 33 = .ok (.iconst 3, 1) := by decide +kernel
theorem dX6_refuse_34 : decode cX6_refuse 34 = .ok (.if_icmp .ne 14, 3) := by decide +kernel
theorem dX6_refuse_37 : decode cX6_refuse 37 = .ok (.new 272, 3) := by decide +kernel
theorem dX6_refuse_40 : decode cX6_refuse 40 = .ok (.dup, 1) := by decide +kernel
theorem dX6_refuse_41 : decode cX6_refuse 41 = .ok (.ldc_w 274, 3) := by decide +kernel
theorem dX6_refuse_44 : decode cX6_refuse 44 = .ok (.invokespecial 276, 3) := by decide +kernel
theorem dX6_refuse_47 : decode cX6_refuse 47 = .ok (.athrow, 1) := by decide +kernel
theorem dX6_refuse_48 : decode cX6_refuse 48 = .ok (.return_, 1) := by decide +kernel
theorem dX6_inRange_0 : decode cX6_inRange 0 = .ok (.iload_n 0, 1) := by decide +kernel
theorem dX6_inRange_1 : decode cX6_inRange 1 = .ok (.iload_n 1, 1) := by decide +kernel
theorem dX6_inRange_2 : decode cX6_inRange 2 = .ok (.if_icmp .lt 12, 3) := by decide +kernel
theorem dX6_inRange_5 : decode cX6_inRange 5 = .ok (.iload_n 0, 1) := by decide +kernel
theorem dX6_inRange_6 : decode cX6_inRange 6 = .ok (.iload_n 2, 1) := by decide +kernel
theorem dX6_inRange_7 : decode cX6_inRange 7 = .ok (.if_icmp .gt 7, 3) := by decide +kernel
theorem dX6_inRange_10 : decode cX6_inRange 10 = .ok (.iconst 1, 1) := by decide +kernel
theorem dX6_inRange_11 : decode cX6_inRange 11 = .ok (.goto 4, 3) := by decide +kernel
theorem dX6_inRange_14 : decode cX6_inRange 14 = .ok (.iconst 0, 1) := by decide +kernel
theorem dX6_inRange_15 : decode cX6_inRange 15 = .ok (.ireturn, 1) := by decide +kernel
set_option maxRecDepth 20000 in
theorem ggX6_keepState_X2_save : GoodIn wsX6_keepState wsX2_save := goodIn_r _ [8, 9, 10, 11, 12, 13, 7, 14, 15, 16, 17, 18, 19, 20, 21, 22, 23, 24, 25, 26, 27, 28, 29, 30, 31, 32, 33, 34, 35, 36, 37, 38, 39, 40, 41, 42, 51, 52, 53, 54, 55, 56, 57, 58, 59, 60, 61, 62, 63, 64] (by decide +kernel) (by decide +kernel)
set_option maxRecDepth 20000 in
theorem gX6_keepState_X2_save : GoodIn wsX6_keepState (wsV RX6 277 RX2 yX2_save wsX2_save) := goodIn_app (goodIn_of _ (by decide +kernel)) ggX6_keepState_X2_save
theorem dX6_keepState_0 : decode cX6_keepState 0 = .ok (.aload_n 0, 1) := by decide +kernel
theorem dX6_keepState_1 : decode cX6_keepState 1 = .ok (.getfield 19, 3) := by decide +kernel
theorem dX6_keepState_4 : decode cX6_keepState 4 = .ok (.aload_n 0, 1) := by decide +kernel
theorem dX6_keepState_5 : decode cX6_keepState 5 = .ok (.getfield 10, 3) := by decide +kernel
theorem dX6_keepState_8 : decode cX6_keepState 8 = .ok (.invokevirtual 277, 3) := by decide +kernel
theorem dX6_keepState_11 : decode cX6_keepState 11 = .ok (.aload_n 0, 1) := by decide +kernel
theorem dX6_keepState_12 : decode cX6_keepState 12 = .ok (.iconst 0, 1) := by decide +kernel
theorem dX6_keepState_13 : decode cX6_keepState 13 = .ok (.putfield 47, 3) := by decide +kernel
theorem dX6_keepState_16 : decode cX6_keepState 16 = .ok (.return_, 1) := by decide +kernel
set_option maxRecDepth 20000 in
theorem ggX6_look_X1_measure : GoodIn wsX6_look wsX1_measure := goodIn_r _ [10, 11, 12, 13, 14, 15, 9, 16, 17, 18, 19, 20, 21, 22, 23, 24, 25, 26, 27, 28, 29, 30, 31, 32, 33, 34, 35, 36, 37, 38, 39, 40, 41, 42, 43, 44, 45, 46, 47, 48, 49, 50, 51, 52, 53, 54, 55, 56, 57, 58, 59, 60, 61, 62, 63, 64, 65, 66, 67, 68, 69, 70, 71, 72, 73, 74, 75, 76, 77, 78, 79, 80, 81, 82, 83, 84, 85, 86, 87, 88, 89, 90, 91, 92, 93, 94, 95, 96, 97, 98, 99, 100, 101, 165, 166, 167, 168, 169, 170, 171, 172, 173, 174, 175, 176, 177, 178, 179, 180, 181, 182, 183, 184] (by decide +kernel) (by decide +kernel)
set_option maxRecDepth 20000 in
theorem gX6_look_X1_measure : GoodIn wsX6_look (wsV RX6 281 RX1 yX1_measure wsX1_measure) := goodIn_app (goodIn_of _ (by decide +kernel)) ggX6_look_X1_measure
set_option maxRecDepth 20000 in
theorem ggX6_look_X3_pairUp : GoodIn wsX6_look wsX3_pairUp := goodIn_r _ [106, 107, 108, 109, 18, 19, 20, 110, 111, 112, 113, 114, 115, 116, 117, 118, 119, 120, 105, 121, 122, 123, 124, 125, 126, 127, 128, 129, 130, 131, 132, 133, 134, 89, 90, 135, 136, 137, 138, 139, 140, 29, 141, 142, 35, 143, 144, 28, 30, 145, 146, 147, 148, 149, 150, 151, 77, 46, 78, 152, 80, 55, 81, 75, 73, 76, 153, 154, 155, 156, 165, 166, 167, 168, 169, 170, 171, 172, 173, 174, 175, 176, 185, 186, 187, 188, 189, 190, 191, 192, 193, 177, 178, 179, 180, 181, 182, 183, 184] (by decide +kernel) (by decide +kernel)
set_option maxRecDepth 20000 in
theorem gX6_look_X3_pairUp : GoodIn wsX6_look (wsV RX6 197 RX3 yX3_pairUp wsX3_pairUp) := goodIn_app (goodIn_of _ (by decide +kernel)) ggX6_look_X3_pairUp
theorem dX6_look_0 : decode cX6_look 0 = .ok (.aload_n 0, 1) := by decide +kernel
theorem dX6_look_1 : decode cX6_look 1 = .ok (.getfield 47, 3) := by decide +kernel
theorem dX6_look_4 : decode cX6_look 4 = .ok (.ifCond .ne 44, 3) := by decide +kernel
theorem dX6_look_7 : decode cX6_look 7 = .ok (.aload_n 0, 1) := by decide +kernel
theorem dX6_look_8 : decode cX6_look 8 = .ok (.getfield 33, 3) := by decide +kernel
theorem dX6_look_11 : decode cX6_look 11 = .ok (.aload_n 0, 1) := by decide +kernel
theorem dX6_look_12 : decode cX6_look 12 = .ok (.getfield 10, 3) := by decide +kernel
theorem dX6_look_15 : decode cX6_look 15 = .ok (.invokevirtual 281, 3) := by decide +kernel
theorem dX6_look_18 : decode cX6_look 18 = .ok (.aload_n 0, 1) := by decide +kernel
theorem dX6_look_19 : decode cX6_look 19 = .ok (.getfield 40, 3) := by decide +kernel
theorem dX6_look_22 : decode cX6_look 22 = .ok (.aload_n 0, 1) := by decide +kernel
theorem dX6_look_23 : decode cX6_look 23 = .ok (.getfield 10, 3) := by decide +kernel
theorem dX6_look_26 : decode cX6_look 26 = .ok (.aload_n 0, 1) := by decide +kernel
theorem dX6_look_27 : decode cX6_look 27 = .ok (.getfield 33, 3) := by decide +kernel
theorem dX6_look_30 : decode cX6_look 30 = .ok (.aload_n 0, 1) := by decide +kernel
theorem dX6_look_31 : decode cX6_look 31 = .ok (.getfield 10, 3) := by decide +kernel
theorem dX6_look_34 : decode cX6_look 34 = .ok (.getfield 143, 3) := by decide +kernel
theorem dX6_look_37 : decode cX6_look 37 = .ok (.bipush 8, 2) := by decide +kernel
theorem dX6_look_39 : decode cX6_look 39 = .ok (.iaload, 1) := by decide +kernel
theorem dX6_look_40 : decode cX6_look 40 = .ok (.invokevirtual 197, 3) := by decide +kernel
theorem dX6_look_43 : decode cX6_look 43 = .ok (.aload_n 0, 1) := by decide +kernel
theorem dX6_look_44 : decode cX6_look 44 = .ok (.iconst 1, 1) := by decide +kernel
theorem dX6_look_45 : decode cX6_look 45 = .ok (.putfield 47, 3) := by decide +kernel
theorem dX6_look_48 : decode cX6_look 48 = .ok (.return_, 1) := by decide +kernel
theorem dX6_trailValue_0 : decode cX6_trailValue 0 = .ok (.iload_n 2, 1) := by decide +kernel
theorem dX6_trailValue_1 : decode cX6_trailValue 1 = .ok (.tableswitch 135 0 7 #[47, 57, 67, 77, 87, 97, 107, 125], 47) := by decide +kernel
theorem dX6_trailValue_48 : decode cX6_trailValue 48 = .ok (.aload_n 0, 1) := by decide +kernel
theorem dX6_trailValue_49 : decode cX6_trailValue 49 = .ok (.getfield 10, 3) := by decide +kernel
theorem dX6_trailValue_52 : decode cX6_trailValue 52 = .ok (.getfield 150, 3) := by decide +kernel
theorem dX6_trailValue_55 : decode cX6_trailValue 55 = .ok (.iload_n 1, 1) := by decide +kernel
theorem dX6_trailValue_56 : decode cX6_trailValue 56 = .ok (.iaload, 1) := by decide +kernel
theorem dX6_trailValue_57 : decode cX6_trailValue 57 = .ok (.ireturn, 1) := by decide +kernel
theorem dX6_trailValue_58 : decode cX6_trailValue 58 = .ok (.aload_n 0, 1) := by decide +kernel
theorem dX6_trailValue_59 : decode cX6_trailValue 59 = .ok (.getfield 33, 3) := by decide +kernel
theorem dX6_trailValue_62 : decode cX6_trailValue 62 = .ok (.getfield 188, 3) := by decide +kernel
theorem dX6_trailValue_65 : decode cX6_trailValue 65 = .ok (.iload_n 1, 1) := by decide +kernel
theorem dX6_trailValue_66 : decode cX6_trailValue 66 = .ok (.iaload, 1) := by decide +kernel
theorem dX6_trailValue_67 : decode cX6_trailValue 67 = .ok (.ireturn, 1) := by decide +kernel
theorem dX6_trailValue_68 : decode cX6_trailValue 68 = .ok (.aload_n 0, 1) := by decide +kernel
theorem dX6_trailValue_69 : decode cX6_trailValue 69 = .ok (.getfield 33, 3) := by decide +kernel
theorem dX6_trailValue_72 : decode cX6_trailValue 72 = .ok (.getfield 284, 3) := by decide +kernel
theorem dX6_trailValue_75 : decode cX6_trailValue 75 = .ok (.iload_n 1, 1) := by decide +kernel
theorem dX6_trailValue_76 : decode cX6_trailValue 76 = .ok (.iaload, 1) := by decide +kernel
theorem dX6_trailValue_77 : decode cX6_trailValue 77 = .ok (.ireturn, 1) := by decide +kernel
theorem dX6_trailValue_78 : decode cX6_trailValue 78 = .ok (.aload_n 0, 1) := by decide +kernel
theorem dX6_trailValue_79 : decode cX6_trailValue 79 = .ok (.getfield 33, 3) := by decide +kernel
theorem dX6_trailValue_82 : decode cX6_trailValue 82 = .ok (.getfield 174, 3) := by decide +kernel
theorem dX6_trailValue_85 : decode cX6_trailValue 85 = .ok (.iload_n 1, 1) := by decide +kernel
theorem dX6_trailValue_86 : decode cX6_trailValue 86 = .ok (.iaload, 1) := by decide +kernel
theorem dX6_trailValue_87 : decode cX6_trailValue 87 = .ok (.ireturn, 1) := by decide +kernel
theorem dX6_trailValue_88 : decode cX6_trailValue 88 = .ok (.aload_n 0, 1) := by decide +kernel
theorem dX6_trailValue_89 : decode cX6_trailValue 89 = .ok (.getfield 33, 3) := by decide +kernel
theorem dX6_trailValue_92 : decode cX6_trailValue 92 = .ok (.getfield 287, 3) := by decide +kernel
theorem dX6_trailValue_95 : decode cX6_trailValue 95 = .ok (.iload_n 1, 1) := by decide +kernel
theorem dX6_trailValue_96 : decode cX6_trailValue 96 = .ok (.iaload, 1) := by decide +kernel
theorem dX6_trailValue_97 : decode cX6_trailValue 97 = .ok (.ireturn, 1) := by decide +kernel
theorem dX6_trailValue_98 : decode cX6_trailValue 98 = .ok (.aload_n 0, 1) := by decide +kernel
theorem dX6_trailValue_99 : decode cX6_trailValue 99 = .ok (.getfield 33, 3) := by decide +kernel
theorem dX6_trailValue_102 : decode cX6_trailValue 102 = .ok (.getfield 290, 3) := by decide +kernel
theorem dX6_trailValue_105 : decode cX6_trailValue 105 = .ok (.iload_n 1, 1) := by decide +kernel
theorem dX6_trailValue_106 : decode cX6_trailValue 106 = .ok (.iaload, 1) := by decide +kernel
theorem dX6_trailValue_107 : decode cX6_trailValue 107 = .ok (.ireturn, 1) := by decide +kernel
theorem dX6_trailValue_108 : decode cX6_trailValue 108 = .ok (.aload_n 0, 1) := by decide +kernel
theorem dX6_trailValue_109 : decode cX6_trailValue 109 = .ok (.getfield 33, 3) := by decide +kernel
theorem dX6_trailValue_112 : decode cX6_trailValue 112 = .ok (.getfield 170, 3) := by decide +kernel
theorem dX6_trailValue_115 : decode cX6_trailValue 115 = .ok (.iload_n 1, 1) := by decide +kernel
theorem dX6_trailValue_116 : decode cX6_trailValue 116 = .ok (.baload, 1) := by decide +kernel
theorem dX6_trailValue_117 : decode cX6_trailValue 117 = .ok (.ifCond .eq 7, 3) := by decide +kernel
theorem dX6_trailValue_120 : decode cX6_trailValue 120 = .ok (.iconst 1, 1) := by decide +kernel
theorem dX6_trailValue_121 : decode cX6_trailValue 121 = .ok (.goto 4, 3) := by decide +kernel
theorem dX6_trailValue_124 : decode cX6_trailValue 124 = .ok (.iconst 0, 1) := by decide +kernel
theorem dX6_trailValue_125 : decode cX6_trailValue 125 = .ok (.ireturn, 1) := by decide +kernel
theorem dX6_trailValue_126 : decode cX6_trailValue 126 = .ok (.aload_n 0, 1) := by decide +kernel
theorem dX6_trailValue_127 : decode cX6_trailValue 127 = .ok (.getfield 33, 3) := by decide +kernel
theorem dX6_trailValue_130 : decode cX6_trailValue 130 = .ok (.getfield 293, 3) := by decide +kernel
theorem dX6_trailValue_133 : decode cX6_trailValue 133 = .ok (.iload_n 1, 1) := by decide +kernel
theorem dX6_trailValue_134 : decode cX6_trailValue 134 = .ok (.iaload, 1) := by decide +kernel
theorem dX6_trailValue_135 : decode cX6_trailValue 135 = .ok (.ireturn, 1) := by decide +kernel
theorem dX6_trailValue_136 : decode cX6_trailValue 136 = .ok (.aload_n 0, 1) := by decide +kernel
theorem dX6_trailValue_137 : decode cX6_trailValue 137 = .ok (.getfield 40, 3) := by decide +kernel
theorem dX6_trailValue_140 : decode cX6_trailValue 140 = .ok (.getfield 296, 3) := by decide +kernel
theorem dX6_trailValue_143 : decode cX6_trailValue 143 = .ok (.iload_n 1, 1) := by decide +kernel
theorem dX6_trailValue_144 : decode cX6_trailValue 144 = .ok (.iaload, 1) := by decide +kernel
theorem dX6_trailValue_145 : decode cX6_trailValue 145 = .ok (.ireturn, 1) := by decide +kernel
set_option maxRecDepth 20000 in
theorem ggX6_starValue_X4_radiusOfStar : GoodIn wsX6_starValue wsX4_radiusOfStar := goodIn_r _ [12, 13, 14, 15, 31, 32, 33, 34, 35, 36, 37, 38, 39, 40, 41, 42] (by decide +kernel) (by decide +kernel)
set_option maxRecDepth 20000 in
theorem gX6_starValue_X4_radiusOfStar : GoodIn wsX6_starValue (wsV RX6 305 RX4 yX4_radiusOfStar wsX4_radiusOfStar) := goodIn_app (goodIn_of _ (by decide +kernel)) ggX6_starValue_X4_radiusOfStar
set_option maxRecDepth 20000 in
theorem ggX6_starValue_X6_isMissing : GoodIn wsX6_starValue wsX6_isMissing := goodIn_r _ [20, 5, 6, 21, 1, 4, 22, 23, 24, 25, 26, 27, 28, 29, 30, 43, 44, 45, 46, 47, 48, 49, 50, 51, 31, 32, 33, 34, 35, 36, 37, 38, 39, 40, 41, 42] (by decide +kernel) (by decide +kernel)
set_option maxRecDepth 20000 in
theorem gX6_starValue_X6_isMissing : GoodIn wsX6_starValue (wsV RX6 161 RX6 yX6_isMissing wsX6_isMissing) := goodIn_app (goodIn_of _ (by decide +kernel)) ggX6_starValue_X6_isMissing
theorem dX6_starValue_0 : decode cX6_starValue 0 = .ok (.iload_n 2, 1) := by decide +kernel
theorem dX6_starValue_1 : decode cX6_starValue 1 = .ok (.tableswitch 98 0 5 #[39, 49, 59, 69, 78, 88], 39) := by decide +kernel
theorem dX6_starValue_40 : decode cX6_starValue 40 = .ok (.aload_n 0, 1) := by decide +kernel
theorem dX6_starValue_41 : decode cX6_starValue 41 = .ok (.getfield 10, 3) := by decide +kernel
theorem dX6_starValue_44 : decode cX6_starValue 44 = .ok (.getfield 191, 3) := by decide +kernel
theorem dX6_starValue_47 : decode cX6_starValue 47 = .ok (.iload_n 1, 1) := by decide +kernel
theorem dX6_starValue_48 : decode cX6_starValue 48 = .ok (.iaload, 1) := by decide +kernel
theorem dX6_starValue_49 : decode cX6_starValue 49 = .ok (.ireturn, 1) := by decide +kernel
theorem dX6_starValue_50 : decode cX6_starValue 50 = .ok (.aload_n 0, 1) := by decide +kernel
theorem dX6_starValue_51 : decode cX6_starValue 51 = .ok (.getfield 10, 3) := by decide +kernel
theorem dX6_starValue_54 : decode cX6_starValue 54 = .ok (.getfield 299, 3) := by decide +kernel
theorem dX6_starValue_57 : decode cX6_starValue 57 = .ok (.iload_n 1, 1) := by decide +kernel
theorem dX6_starValue_58 : decode cX6_starValue 58 = .ok (.iaload, 1) := by decide +kernel
theorem dX6_starValue_59 : decode cX6_starValue 59 = .ok (.ireturn, 1) := by decide +kernel
theorem dX6_starValue_60 : decode cX6_starValue 60 = .ok (.aload_n 0, 1) := by decide +kernel
theorem dX6_starValue_61 : decode cX6_starValue 61 = .ok (.getfield 10, 3) := by decide +kernel
theorem dX6_starValue_64 : decode cX6_starValue 64 = .ok (.getfield 302, 3) := by decide +kernel
theorem dX6_starValue_67 : decode cX6_starValue 67 = .ok (.iload_n 1, 1) := by decide +kernel
theorem dX6_starValue_68 : decode cX6_starValue 68 = .ok (.iaload, 1) := by decide +kernel
theorem dX6_starValue_69 : decode cX6_starValue 69 = .ok (.ireturn, 1) := by decide +kernel
theorem dX6_starValue_70 : decode cX6_starValue 70 = .ok (.aload_n 0, 1) := by decide +kernel
theorem dX6_starValue_71 : decode cX6_starValue 71 = .ok (.getfield 10, 3) := by decide +kernel
theorem dX6_starValue_74 : decode cX6_starValue 74 = .ok (.iload_n 1, 1) := by decide +kernel
theorem dX6_starValue_75 : decode cX6_starValue 75 = .ok (.invokevirtual 305, 3) := by decide +kernel
theorem dX6_starValue_78 : decode cX6_starValue 78 = .ok (.ireturn, 1) := by decide +kernel
theorem dX6_starValue_79 : decode cX6_starValue 79 = .ok (.aload_n 0, 1) := by decide +kernel
theorem dX6_starValue_80 : decode cX6_starValue 80 = .ok (.getfield 40, 3) := by decide +kernel
theorem dX6_starValue_83 : decode cX6_starValue 83 = .ok (.getfield 185, 3) := by decide +kernel
theorem dX6_starValue_86 : decode cX6_starValue 86 = .ok (.iload_n 1, 1) := by decide +kernel
theorem dX6_starValue_87 : decode cX6_starValue 87 = .ok (.iaload, 1) := by decide +kernel
theorem dX6_starValue_88 : decode cX6_starValue 88 = .ok (.ireturn, 1) := by decide +kernel
theorem dX6_starValue_89 : decode cX6_starValue 89 = .ok (.aload_n 0, 1) := by decide +kernel
theorem dX6_starValue_90 : decode cX6_starValue 90 = .ok (.getfield 40, 3) := by decide +kernel
theorem dX6_starValue_93 : decode cX6_starValue 93 = .ok (.getfield 308, 3) := by decide +kernel
theorem dX6_starValue_96 : decode cX6_starValue 96 = .ok (.iload_n 1, 1) := by decide +kernel
theorem dX6_starValue_97 : decode cX6_starValue 97 = .ok (.iaload, 1) := by decide +kernel
theorem dX6_starValue_98 : decode cX6_starValue 98 = .ok (.ireturn, 1) := by decide +kernel
theorem dX6_starValue_99 : decode cX6_starValue 99 = .ok (.aload_n 0, 1) := by decide +kernel
theorem dX6_starValue_100 : decode cX6_starValue 100 = .ok (.iload_n 1, 1) := by decide +kernel
theorem dX6_starValue_101 : decode cX6_starValue 101 = .ok (.invokevirtual 161, 3) := by decide +kernel
theorem dX6_starValue_104 : decode cX6_starValue 104 = .ok (.ifCond .eq 7, 3) := by decide +kernel
theorem dX6_starValue_107 : decode cX6_starValue 107 = .ok (.iconst 1, 1) := by decide +kernel
theorem dX6_starValue_108 : decode cX6_starValue 108 = .ok (.goto 4, 3) := by decide +kernel
theorem dX6_starValue_111 : decode cX6_starValue 111 = .ok (.iconst 0, 1) := by decide +kernel
theorem dX6_starValue_112 : decode cX6_starValue 112 = .ok (.ireturn, 1) := by decide +kernel
set_option maxRecDepth 20000 in
theorem ggX6_wholeValue_X4_costWithPole : GoodIn wsX6_wholeValue wsX4_costWithPole := goodIn_r _ [13, 14, 15, 16, 17, 12, 18, 19, 20, 21, 22, 23, 24, 25, 26, 27, 28, 29, 30, 31, 32, 33, 34, 35, 36, 37, 38, 39, 40, 41, 42, 43, 44, 45, 46, 47, 48, 49, 50, 51, 52, 53, 90, 91, 92, 93, 94, 95, 96, 97, 98, 99, 100, 101] (by decide +kernel) (by decide +kernel)
set_option maxRecDepth 20000 in
theorem gX6_wholeValue_X4_costWithPole : GoodIn wsX6_wholeValue (wsV RX6 105 RX4 yX4_costWithPole wsX4_costWithPole) := goodIn_app (goodIn_of _ (by decide +kernel)) ggX6_wholeValue_X4_costWithPole
set_option maxRecDepth 20000 in
theorem ggX6_wholeValue_X6_goodTrails : GoodIn wsX6_wholeValue wsX6_goodTrails := goodIn_r _ [58, 1, 2, 59, 60, 82, 83, 84, 85, 86, 87, 88, 89, 90, 91, 92, 93, 94, 95, 96, 97, 98, 99, 100, 101, 111, 112, 113, 114, 115, 116, 117, 118] (by decide +kernel) (by decide +kernel)
set_option maxRecDepth 20000 in
theorem gX6_wholeValue_X6_goodTrails : GoodIn wsX6_wholeValue (wsV RX6 311 RX6 yX6_goodTrails wsX6_goodTrails) := goodIn_app (goodIn_of _ (by decide +kernel)) ggX6_wholeValue_X6_goodTrails
set_option maxRecDepth 20000 in
theorem ggX6_wholeValue_X6_missingStars : GoodIn wsX6_wholeValue wsX6_missingStars := goodIn_r _ [64, 1, 3, 65, 66, 67, 57, 68, 6, 69, 70, 71, 72, 82, 83, 84, 85, 86, 87, 88, 89, 90, 91, 92, 93, 94, 95, 96, 97, 98, 99, 100, 101, 102, 103, 104, 105, 106, 107, 108, 109, 110] (by decide +kernel) (by decide +kernel)
set_option maxRecDepth 20000 in
theorem gX6_wholeValue_X6_missingStars : GoodIn wsX6_wholeValue (wsV RX6 314 RX6 yX6_missingStars wsX6_missingStars) := goodIn_app (goodIn_of _ (by decide +kernel)) ggX6_wholeValue_X6_missingStars
set_option maxRecDepth 20000 in
theorem ggX6_wholeValue_X4_pointsInAll : GoodIn wsX6_wholeValue wsX4_pointsInAll := goodIn_r _ [76, 19, 20, 90, 91, 92, 93, 94, 95, 96, 97, 98, 99, 100, 101] (by decide +kernel) (by decide +kernel)
set_option maxRecDepth 20000 in
theorem gX6_wholeValue_X4_pointsInAll : GoodIn wsX6_wholeValue (wsV RX6 317 RX4 yX4_pointsInAll wsX4_pointsInAll) := goodIn_app (goodIn_of _ (by decide +kernel)) ggX6_wholeValue_X4_pointsInAll
set_option maxRecDepth 20000 in
theorem ggX6_wholeValue_X6_gapsInAll : GoodIn wsX6_wholeValue wsX6_gapsInAll := goodIn_r _ [80, 1, 2, 59, 81, 82, 83, 84, 85, 86, 87, 88, 89, 90, 91, 92, 93, 94, 95, 96, 97, 98, 99, 100, 101, 111, 112, 113, 114, 115, 116, 117, 118] (by decide +kernel) (by decide +kernel)
set_option maxRecDepth 20000 in
theorem gX6_wholeValue_X6_gapsInAll : GoodIn wsX6_wholeValue (wsV RX6 320 RX6 yX6_gapsInAll wsX6_gapsInAll) := goodIn_app (goodIn_of _ (by decide +kernel)) ggX6_wholeValue_X6_gapsInAll
theorem dX6_wholeValue_0 : decode cX6_wholeValue 0 = .ok (.iload_n 1, 1) := by decide +kernel
theorem dX6_wholeValue_1 : decode cX6_wholeValue 1 = .ok (.tableswitch 143 0 9 #[55, 63, 71, 79, 87, 109, 114, 122, 130, 135], 55) := by decide +kernel
theorem dX6_wholeValue_56 : decode cX6_wholeValue 56 = .ok (.aload_n 0, 1) := by decide +kernel
theorem dX6_wholeValue_57 : decode cX6_wholeValue 57 = .ok (.getfield 10, 3) := by decide +kernel
theorem dX6_wholeValue_60 : decode cX6_wholeValue 60 = .ok (.getfield 167, 3) := by decide +kernel
theorem dX6_wholeValue_63 : decode cX6_wholeValue 63 = .ok (.ireturn, 1) := by decide +kernel
theorem dX6_wholeValue_64 : decode cX6_wholeValue 64 = .ok (.aload_n 0, 1) := by decide +kernel
theorem dX6_wholeValue_65 : decode cX6_wholeValue 65 = .ok (.getfield 10, 3) := by decide +kernel
theorem dX6_wholeValue_68 : decode cX6_wholeValue 68 = .ok (.getfield 158, 3) := by decide +kernel
theorem dX6_wholeValue_71 : decode cX6_wholeValue 71 = .ok (.ireturn, 1) := by decide +kernel
theorem dX6_wholeValue_72 : decode cX6_wholeValue 72 = .ok (.aload_n 0, 1) := by decide +kernel
theorem dX6_wholeValue_73 : decode cX6_wholeValue 73 = .ok (.getfield 10, 3) := by decide +kernel
theorem dX6_wholeValue_76 : decode cX6_wholeValue 76 = .ok (.getfield 213, 3) := by decide +kernel
theorem dX6_wholeValue_79 : decode cX6_wholeValue 79 = .ok (.ireturn, 1) := by decide +kernel
theorem dX6_wholeValue_80 : decode cX6_wholeValue 80 = .ok (.aload_n 0, 1) := by decide +kernel
theorem dX6_wholeValue_81 : decode cX6_wholeValue 81 = .ok (.getfield 10, 3) := by decide +kernel
theorem dX6_wholeValue_84 : decode cX6_wholeValue 84 = .ok (.getfield 216, 3) := by decide +kernel
theorem dX6_wholeValue_87 : decode cX6_wholeValue 87 = .ok (.ireturn, 1) := by decide +kernel
theorem dX6_wholeValue_88 : decode cX6_wholeValue 88 = .ok (.aload_n 0, 1) := by decide +kernel
theorem dX6_wholeValue_89 : decode cX6_wholeValue 89 = .ok (.getfield 10, 3) := by decide +kernel
theorem dX6_wholeValue_92 : decode cX6_wholeValue 92 = .ok (.aload_n 0, 1) := by decide +kernel
theorem dX6_wholeValue_93 : decode cX6_wholeValue 93 = .ok (.getfield 10, 3) := by decide +kernel
theorem dX6_wholeValue_96 : decode cX6_wholeValue 96 = .ok (.getfield 213, 3) := by decide +kernel
theorem dX6_wholeValue_99 : decode cX6_wholeValue 99 = .ok (.aload_n 0, 1) := by decide +kernel
theorem dX6_wholeValue_100 : decode cX6_wholeValue 100 = .ok (.getfield 10, 3) := by decide +kernel
theorem dX6_wholeValue_103 : decode cX6_wholeValue 103 = .ok (.getfield 216, 3) := by decide +kernel
theorem dX6_wholeValue_106 : decode cX6_wholeValue 106 = .ok (.invokevirtual 105, 3) := by decide +kernel
theorem dX6_wholeValue_109 : decode cX6_wholeValue 109 = .ok (.ireturn, 1) := by decide +kernel
theorem dX6_wholeValue_110 : decode cX6_wholeValue 110 = .ok (.aload_n 0, 1) := by decide +kernel
theorem dX6_wholeValue_111 : decode cX6_wholeValue 111 = .ok (.invokevirtual 311, 3) := by decide +kernel
theorem dX6_wholeValue_114 : decode cX6_wholeValue 114 = .ok (.ireturn, 1) := by decide +kernel
theorem dX6_wholeValue_115 : decode cX6_wholeValue 115 = .ok (.aload_n 0, 1) := by decide +kernel
theorem dX6_wholeValue_116 : decode cX6_wholeValue 116 = .ok (.getfield 40, 3) := by decide +kernel
theorem dX6_wholeValue_119 : decode cX6_wholeValue 119 = .ok (.getfield 201, 3) := by decide +kernel
theorem dX6_wholeValue_122 : decode cX6_wholeValue 122 = .ok (.ireturn, 1) := by decide +kernel
theorem dX6_wholeValue_123 : decode cX6_wholeValue 123 = .ok (.aload_n 0, 1) := by decide +kernel
theorem dX6_wholeValue_124 : decode cX6_wholeValue 124 = .ok (.getfield 40, 3) := by decide +kernel
theorem dX6_wholeValue_127 : decode cX6_wholeValue 127 = .ok (.getfield 204, 3) := by decide +kernel
theorem dX6_wholeValue_130 : decode cX6_wholeValue 130 = .ok (.ireturn, 1) := by decide +kernel
theorem dX6_wholeValue_131 : decode cX6_wholeValue 131 = .ok (.aload_n 0, 1) := by decide +kernel
theorem dX6_wholeValue_132 : decode cX6_wholeValue 132 = .ok (.invokevirtual 314, 3) := by decide +kernel
theorem dX6_wholeValue_135 : decode cX6_wholeValue 135 = .ok (.ireturn, 1) := by decide +kernel
theorem dX6_wholeValue_136 : decode cX6_wholeValue 136 = .ok (.aload_n 0, 1) := by decide +kernel
theorem dX6_wholeValue_137 : decode cX6_wholeValue 137 = .ok (.getfield 10, 3) := by decide +kernel
theorem dX6_wholeValue_140 : decode cX6_wholeValue 140 = .ok (.invokevirtual 317, 3) := by decide +kernel
theorem dX6_wholeValue_143 : decode cX6_wholeValue 143 = .ok (.ireturn, 1) := by decide +kernel
theorem dX6_wholeValue_144 : decode cX6_wholeValue 144 = .ok (.aload_n 0, 1) := by decide +kernel
theorem dX6_wholeValue_145 : decode cX6_wholeValue 145 = .ok (.invokevirtual 320, 3) := by decide +kernel
theorem dX6_wholeValue_148 : decode cX6_wholeValue 148 = .ok (.ireturn, 1) := by decide +kernel
theorem dX6_isMissing_0 : decode cX6_isMissing 0 = .ok (.aload_n 0, 1) := by decide +kernel
theorem dX6_isMissing_1 : decode cX6_isMissing 1 = .ok (.getfield 40, 3) := by decide +kernel
theorem dX6_isMissing_4 : decode cX6_isMissing 4 = .ok (.getfield 185, 3) := by decide +kernel
theorem dX6_isMissing_7 : decode cX6_isMissing 7 = .ok (.iload_n 1, 1) := by decide +kernel
theorem dX6_isMissing_8 : decode cX6_isMissing 8 = .ok (.iaload, 1) := by decide +kernel
theorem dX6_isMissing_9 : decode cX6_isMissing 9 = .ok (.ldc 153, 2) := by decide +kernel
theorem dX6_isMissing_11 : decode cX6_isMissing 11 = .ok (.if_icmp .ne 29, 3) := by decide +kernel
theorem dX6_isMissing_14 : decode cX6_isMissing 14 = .ok (.aload_n 0, 1) := by decide +kernel
theorem dX6_isMissing_15 : decode cX6_isMissing 15 = .ok (.getfield 10, 3) := by decide +kernel
theorem dX6_isMissing_18 : decode cX6_isMissing 18 = .ok (.getfield 302, 3) := by decide +kernel
theorem dX6_isMissing_21 : decode cX6_isMissing 21 = .ok (.iload_n 1, 1) := by decide +kernel
theorem dX6_isMissing_22 : decode cX6_isMissing 22 = .ok (.iaload, 1) := by decide +kernel
theorem dX6_isMissing_23 : decode cX6_isMissing 23 = .ok (.aload_n 0, 1) := by decide +kernel
theorem dX6_isMissing_24 : decode cX6_isMissing 24 = .ok (.getfield 10, 3) := by decide +kernel
theorem dX6_isMissing_27 : decode cX6_isMissing 27 = .ok (.getfield 143, 3) := by decide +kernel
theorem dX6_isMissing_30 : decode cX6_isMissing 30 = .ok (.bipush 9, 2) := by decide +kernel
theorem dX6_isMissing_32 : decode cX6_isMissing 32 = .ok (.iaload, 1) := by decide +kernel
theorem dX6_isMissing_33 : decode cX6_isMissing 33 = .ok (.if_icmp .lt 7, 3) := by decide +kernel
theorem dX6_isMissing_36 : decode cX6_isMissing 36 = .ok (.iconst 1, 1) := by decide +kernel
theorem dX6_isMissing_37 : decode cX6_isMissing 37 = .ok (.goto 4, 3) := by decide +kernel
theorem dX6_isMissing_40 : decode cX6_isMissing 40 = .ok (.iconst 0, 1) := by decide +kernel
theorem dX6_isMissing_41 : decode cX6_isMissing 41 = .ok (.ireturn, 1) := by decide +kernel
set_option maxRecDepth 20000 in
theorem ggX6_missingStars_X6_isMissing : GoodIn wsX6_missingStars wsX6_isMissing := goodIn_r _ [7, 8, 9, 10, 1, 11, 12, 13, 14, 15, 16, 17, 18, 19, 20, 33, 34, 35, 36, 37, 38, 39, 40, 41, 21, 22, 23, 24, 25, 26, 27, 28, 29, 30, 31, 32] (by decide +kernel) (by decide +kernel)
set_option maxRecDepth 20000 in
theorem gX6_missingStars_X6_isMissing : GoodIn wsX6_missingStars (wsV RX6 161 RX6 yX6_isMissing wsX6_isMissing) := goodIn_app (goodIn_of _ (by decide +kernel)) ggX6_missingStars_X6_isMissing
theorem dX6_missingStars_0 : decode cX6_missingStars 0 = .ok (.iconst 0, 1) := by decide +kernel
theorem dX6_missingStars_1 : decode cX6_missingStars 1 = .ok (.istore_n 1, 1) := by decide +kernel
theorem dX6_missingStars_2 : decode cX6_missingStars 2 = .ok (.iconst 0, 1) := by decide +kernel
theorem dX6_missingStars_3 : decode cX6_missingStars 3 = .ok (.istore_n 2, 1) := by decide +kernel
theorem dX6_missingStars_4 : decode cX6_missingStars 4 = .ok (.iload_n 2, 1) := by decide +kernel
theorem dX6_missingStars_5 : decode cX6_missingStars 5 = .ok (.aload_n 0, 1) := by decide +kernel
theorem dX6_missingStars_6 : decode cX6_missingStars 6 = .ok (.getfield 10, 3) := by decide +kernel
theorem dX6_missingStars_9 : decode cX6_missingStars 9 = .ok (.getfield 158, 3) := by decide +kernel
theorem dX6_missingStars_12 : decode cX6_missingStars 12 = .ok (.if_icmp .ge 20, 3) := by decide +kernel
theorem dX6_missingStars_15 : decode cX6_missingStars 15 = .ok (.aload_n 0, 1) := by decide +kernel
theorem dX6_missingStars_16 : decode cX6_missingStars 16 = .ok (.iload_n 2, 1) := by decide +kernel
theorem dX6_missingStars_17 : decode cX6_missingStars 17 = .ok (.invokevirtual 161, 3) := by decide +kernel
theorem dX6_missingStars_20 : decode cX6_missingStars 20 = .ok (.ifCond .eq 6, 3) := by decide +kernel
theorem dX6_missingStars_23 : decode cX6_missingStars 23 = .ok (.iinc 1 1, 3) := by decide +kernel
theorem dX6_missingStars_26 : decode cX6_missingStars 26 = .ok (.iinc 2 1, 3) := by decide +kernel
theorem dX6_missingStars_29 : decode cX6_missingStars 29 = .ok (.goto (-25), 3) := by decide +kernel
theorem dX6_missingStars_32 : decode cX6_missingStars 32 = .ok (.iload_n 1, 1) := by decide +kernel
theorem dX6_missingStars_33 : decode cX6_missingStars 33 = .ok (.ireturn, 1) := by decide +kernel
theorem dX6_goodTrails_0 : decode cX6_goodTrails 0 = .ok (.iconst 0, 1) := by decide +kernel
theorem dX6_goodTrails_1 : decode cX6_goodTrails 1 = .ok (.istore_n 1, 1) := by decide +kernel
theorem dX6_goodTrails_2 : decode cX6_goodTrails 2 = .ok (.iconst 0, 1) := by decide +kernel
theorem dX6_goodTrails_3 : decode cX6_goodTrails 3 = .ok (.istore_n 2, 1) := by decide +kernel
theorem dX6_goodTrails_4 : decode cX6_goodTrails 4 = .ok (.iload_n 2, 1) := by decide +kernel
theorem dX6_goodTrails_5 : decode cX6_goodTrails 5 = .ok (.aload_n 0, 1) := by decide +kernel
theorem dX6_goodTrails_6 : decode cX6_goodTrails 6 = .ok (.getfield 10, 3) := by decide +kernel
theorem dX6_goodTrails_9 : decode cX6_goodTrails 9 = .ok (.getfield 167, 3) := by decide +kernel
theorem dX6_goodTrails_12 : decode cX6_goodTrails 12 = .ok (.if_icmp .ge 24, 3) := by decide +kernel
theorem dX6_goodTrails_15 : decode cX6_goodTrails 15 = .ok (.aload_n 0, 1) := by decide +kernel
theorem dX6_goodTrails_16 : decode cX6_goodTrails 16 = .ok (.getfield 33, 3) := by decide +kernel
theorem dX6_goodTrails_19 : decode cX6_goodTrails 19 = .ok (.getfield 170, 3) := by decide +kernel
theorem dX6_goodTrails_22 : decode cX6_goodTrails 22 = .ok (.iload_n 2, 1) := by decide +kernel
theorem dX6_goodTrails_23 : decode cX6_goodTrails 23 = .ok (.baload, 1) := by decide +kernel
theorem dX6_goodTrails_24 : decode cX6_goodTrails 24 = .ok (.ifCond .eq 6, 3) := by decide +kernel
theorem dX6_goodTrails_27 : decode cX6_goodTrails 27 = .ok (.iinc 1 1, 3) := by decide +kernel
theorem dX6_goodTrails_30 : decode cX6_goodTrails 30 = .ok (.iinc 2 1, 3) := by decide +kernel
theorem dX6_goodTrails_33 : decode cX6_goodTrails 33 = .ok (.goto (-29), 3) := by decide +kernel
theorem dX6_goodTrails_36 : decode cX6_goodTrails 36 = .ok (.iload_n 1, 1) := by decide +kernel
theorem dX6_goodTrails_37 : decode cX6_goodTrails 37 = .ok (.ireturn, 1) := by decide +kernel
theorem dX6_gapsInAll_0 : decode cX6_gapsInAll 0 = .ok (.iconst 0, 1) := by decide +kernel
theorem dX6_gapsInAll_1 : decode cX6_gapsInAll 1 = .ok (.istore_n 1, 1) := by decide +kernel
theorem dX6_gapsInAll_2 : decode cX6_gapsInAll 2 = .ok (.iconst 0, 1) := by decide +kernel
theorem dX6_gapsInAll_3 : decode cX6_gapsInAll 3 = .ok (.istore_n 2, 1) := by decide +kernel
theorem dX6_gapsInAll_4 : decode cX6_gapsInAll 4 = .ok (.iload_n 2, 1) := by decide +kernel
theorem dX6_gapsInAll_5 : decode cX6_gapsInAll 5 = .ok (.aload_n 0, 1) := by decide +kernel
theorem dX6_gapsInAll_6 : decode cX6_gapsInAll 6 = .ok (.getfield 10, 3) := by decide +kernel
theorem dX6_gapsInAll_9 : decode cX6_gapsInAll 9 = .ok (.getfield 167, 3) := by decide +kernel
theorem dX6_gapsInAll_12 : decode cX6_gapsInAll 12 = .ok (.if_icmp .ge 21, 3) := by decide +kernel
theorem dX6_gapsInAll_15 : decode cX6_gapsInAll 15 = .ok (.iload_n 1, 1) := by decide +kernel
theorem dX6_gapsInAll_16 : decode cX6_gapsInAll 16 = .ok (.aload_n 0, 1) := by decide +kernel
theorem dX6_gapsInAll_17 : decode cX6_gapsInAll 17 = .ok (.getfield 33, 3) := by decide +kernel
theorem dX6_gapsInAll_20 : decode cX6_gapsInAll 20 = .ok (.getfield 293, 3) := by decide +kernel
theorem dX6_gapsInAll_23 : decode cX6_gapsInAll 23 = .ok (.iload_n 2, 1) := by decide +kernel
theorem dX6_gapsInAll_24 : decode cX6_gapsInAll 24 = .ok (.iaload, 1) := by decide +kernel
theorem dX6_gapsInAll_25 : decode cX6_gapsInAll 25 = .ok (.iadd, 1) := by decide +kernel
theorem dX6_gapsInAll_26 : decode cX6_gapsInAll 26 = .ok (.istore_n 1, 1) := by decide +kernel
theorem dX6_gapsInAll_27 : decode cX6_gapsInAll 27 = .ok (.iinc 2 1, 3) := by decide +kernel
theorem dX6_gapsInAll_30 : decode cX6_gapsInAll 30 = .ok (.goto (-26), 3) := by decide +kernel
theorem dX6_gapsInAll_33 : decode cX6_gapsInAll 33 = .ok (.iload_n 1, 1) := by decide +kernel
theorem dX6_gapsInAll_34 : decode cX6_gapsInAll 34 = .ok (.ireturn, 1) := by decide +kernel
set_option maxRecDepth 20000 in
theorem ggX6_zeroThatBrings_X4_slot : GoodIn wsX6_zeroThatBrings wsX4_slot := goodIn_r _ [11] (by decide +kernel) (by decide +kernel)
set_option maxRecDepth 20000 in
theorem gX6_zeroThatBrings_X4_slot : GoodIn wsX6_zeroThatBrings (va_wsS RX6 326 yX4_slot wsX4_slot) := goodIn_app (goodIn_of _ (by decide +kernel)) ggX6_zeroThatBrings_X4_slot
set_option maxRecDepth 20000 in
theorem ggX6_zeroThatBrings_J9_floorMod_7cf53 : GoodIn wsX6_zeroThatBrings wsJ9_floorMod_7cf53 := goodIn_r _ [15] (by decide +kernel) (by decide +kernel)
set_option maxRecDepth 20000 in
theorem gX6_zeroThatBrings_J9_floorMod_7cf53 : GoodIn wsX6_zeroThatBrings (va_wsS RX6 333 yJ9_floorMod_7cf53 wsJ9_floorMod_7cf53) := goodIn_app (goodIn_of _ (by decide +kernel)) ggX6_zeroThatBrings_J9_floorMod_7cf53
theorem dX6_zeroThatBrings_0 : decode cX6_zeroThatBrings 0 = .ok (.aload_n 0, 1) := by decide +kernel
theorem dX6_zeroThatBrings_1 : decode cX6_zeroThatBrings 1 = .ok (.getfield 10, 3) := by decide +kernel
theorem dX6_zeroThatBrings_4 : decode cX6_zeroThatBrings 4 = .ok (.getfield 143, 3) := by decide +kernel
theorem dX6_zeroThatBrings_7 : decode cX6_zeroThatBrings 7 = .ok (.iconst 0, 1) := by decide +kernel
theorem dX6_zeroThatBrings_8 : decode cX6_zeroThatBrings 8 = .ok (.iaload, 1) := by decide +kernel
theorem dX6_zeroThatBrings_9 : decode cX6_zeroThatBrings 9 = .ok (.aload_n 0, 1) := by decide +kernel
theorem dX6_zeroThatBrings_10 : decode cX6_zeroThatBrings 10 = .ok (.getfield 10, 3) := by decide +kernel
theorem dX6_zeroThatBrings_13 : decode cX6_zeroThatBrings 13 = .ok (.getfield 323, 3) := by decide +kernel
theorem dX6_zeroThatBrings_16 : decode cX6_zeroThatBrings 16 = .ok (.iload_n 2, 1) := by decide +kernel
theorem dX6_zeroThatBrings_17 : decode cX6_zeroThatBrings 17 = .ok (.iconst 0, 1) := by decide +kernel
theorem dX6_zeroThatBrings_18 : decode cX6_zeroThatBrings 18 = .ok (.invokestatic 326, 3) := by decide +kernel
theorem dX6_zeroThatBrings_21 : decode cX6_zeroThatBrings 21 = .ok (.iaload, 1) := by decide +kernel
theorem dX6_zeroThatBrings_22 : decode cX6_zeroThatBrings 22 = .ok (.imul, 1) := by decide +kernel
theorem dX6_zeroThatBrings_23 : decode cX6_zeroThatBrings 23 = .ok (.istore_n 3, 1) := by decide +kernel
theorem dX6_zeroThatBrings_24 : decode cX6_zeroThatBrings 24 = .ok (.aload_n 0, 1) := by decide +kernel
theorem dX6_zeroThatBrings_25 : decode cX6_zeroThatBrings 25 = .ok (.getfield 33, 3) := by decide +kernel
theorem dX6_zeroThatBrings_28 : decode cX6_zeroThatBrings 28 = .ok (.getfield 329, 3) := by decide +kernel
theorem dX6_zeroThatBrings_31 : decode cX6_zeroThatBrings 31 = .ok (.iload_n 2, 1) := by decide +kernel
theorem dX6_zeroThatBrings_32 : decode cX6_zeroThatBrings 32 = .ok (.iaload, 1) := by decide +kernel
theorem dX6_zeroThatBrings_33 : decode cX6_zeroThatBrings 33 = .ok (.aload_n 0, 1) := by decide +kernel
theorem dX6_zeroThatBrings_34 : decode cX6_zeroThatBrings 34 = .ok (.getfield 10, 3) := by decide +kernel
theorem dX6_zeroThatBrings_37 : decode cX6_zeroThatBrings 37 = .ok (.getfield 299, 3) := by decide +kernel
theorem dX6_zeroThatBrings_40 : decode cX6_zeroThatBrings 40 = .ok (.iload_n 1, 1) := by decide +kernel
theorem dX6_zeroThatBrings_41 : decode cX6_zeroThatBrings 41 = .ok (.iaload, 1) := by decide +kernel
theorem dX6_zeroThatBrings_42 : decode cX6_zeroThatBrings 42 = .ok (.isub, 1) := by decide +kernel
theorem dX6_zeroThatBrings_43 : decode cX6_zeroThatBrings 43 = .ok (.iload_n 3, 1) := by decide +kernel
theorem dX6_zeroThatBrings_44 : decode cX6_zeroThatBrings 44 = .ok (.isub, 1) := by decide +kernel
theorem dX6_zeroThatBrings_45 : decode cX6_zeroThatBrings 45 = .ok (.ldc_w 332, 3) := by decide +kernel
theorem dX6_zeroThatBrings_48 : decode cX6_zeroThatBrings 48 = .ok (.invokestatic 333, 3) := by decide +kernel
theorem dX6_zeroThatBrings_51 : decode cX6_zeroThatBrings 51 = .ok (.ireturn, 1) := by decide +kernel
theorem dJ9_floorDiv_7cf53_0 : decode cJ9_floorDiv_7cf53 0 = .ok (.iload_n 0, 1) := by decide +kernel
theorem dJ9_floorDiv_7cf53_1 : decode cJ9_floorDiv_7cf53 1 = .ok (.iload_n 1, 1) := by decide +kernel
theorem dJ9_floorDiv_7cf53_2 : decode cJ9_floorDiv_7cf53 2 = .ok (.idiv, 1) := by decide +kernel
theorem dJ9_floorDiv_7cf53_3 : decode cJ9_floorDiv_7cf53 3 = .ok (.istore_n 2, 1) := by decide +kernel
theorem dJ9_floorDiv_7cf53_4 : decode cJ9_floorDiv_7cf53 4 = .ok (.iload_n 0, 1) := by decide +kernel
theorem dJ9_floorDiv_7cf53_5 : decode cJ9_floorDiv_7cf53 5 = .ok (.iload_n 1, 1) := by decide +kernel
theorem dJ9_floorDiv_7cf53_6 : decode cJ9_floorDiv_7cf53 6 = .ok (.ixor, 1) := by decide +kernel
theorem dJ9_floorDiv_7cf53_7 : decode cJ9_floorDiv_7cf53 7 = .ok (.ifCond .ge 14, 3) := by decide +kernel
theorem dJ9_floorDiv_7cf53_10 : decode cJ9_floorDiv_7cf53 10 = .ok (.iload_n 2, 1) := by decide +kernel
theorem dJ9_floorDiv_7cf53_11 : decode cJ9_floorDiv_7cf53 11 = .ok (.iload_n 1, 1) := by decide +kernel
theorem dJ9_floorDiv_7cf53_12 : decode cJ9_floorDiv_7cf53 12 = .ok (.imul, 1) := by decide +kernel
theorem dJ9_floorDiv_7cf53_13 : decode cJ9_floorDiv_7cf53 13 = .ok (.iload_n 0, 1) := by decide +kernel
theorem dJ9_floorDiv_7cf53_14 : decode cJ9_floorDiv_7cf53 14 = .ok (.if_icmp .eq 7, 3) := by decide +kernel
theorem dJ9_floorDiv_7cf53_17 : decode cJ9_floorDiv_7cf53 17 = .ok (.iload_n 2, 1) := by decide +kernel
theorem dJ9_floorDiv_7cf53_18 : decode cJ9_floorDiv_7cf53 18 = .ok (.iconst 1, 1) := by decide +kernel
theorem dJ9_floorDiv_7cf53_19 : decode cJ9_floorDiv_7cf53 19 = .ok (.isub, 1) := by decide +kernel
theorem dJ9_floorDiv_7cf53_20 : decode cJ9_floorDiv_7cf53 20 = .ok (.ireturn, 1) := by decide +kernel
theorem dJ9_floorDiv_7cf53_21 : decode cJ9_floorDiv_7cf53 21 = .ok (.iload_n 2, 1) := by decide +kernel
theorem dJ9_floorDiv_7cf53_22 : decode cJ9_floorDiv_7cf53 22 = .ok (.ireturn, 1) := by decide +kernel
theorem dJ9_floorMod_7cf53_0 : decode cJ9_floorMod_7cf53 0 = .ok (.iload_n 0, 1) := by decide +kernel
theorem dJ9_floorMod_7cf53_1 : decode cJ9_floorMod_7cf53 1 = .ok (.iload_n 1, 1) := by decide +kernel
theorem dJ9_floorMod_7cf53_2 : decode cJ9_floorMod_7cf53 2 = .ok (.irem, 1) := by decide +kernel
theorem dJ9_floorMod_7cf53_3 : decode cJ9_floorMod_7cf53 3 = .ok (.istore_n 2, 1) := by decide +kernel
theorem dJ9_floorMod_7cf53_4 : decode cJ9_floorMod_7cf53 4 = .ok (.iload_n 0, 1) := by decide +kernel
theorem dJ9_floorMod_7cf53_5 : decode cJ9_floorMod_7cf53 5 = .ok (.iload_n 1, 1) := by decide +kernel
theorem dJ9_floorMod_7cf53_6 : decode cJ9_floorMod_7cf53 6 = .ok (.ixor, 1) := by decide +kernel
theorem dJ9_floorMod_7cf53_7 : decode cJ9_floorMod_7cf53 7 = .ok (.ifCond .ge 11, 3) := by decide +kernel
theorem dJ9_floorMod_7cf53_10 : decode cJ9_floorMod_7cf53 10 = .ok (.iload_n 2, 1) := by decide +kernel
theorem dJ9_floorMod_7cf53_11 : decode cJ9_floorMod_7cf53 11 = .ok (.ifCond .eq 7, 3) := by decide +kernel
theorem dJ9_floorMod_7cf53_14 : decode cJ9_floorMod_7cf53 14 = .ok (.iload_n 2, 1) := by decide +kernel
theorem dJ9_floorMod_7cf53_15 : decode cJ9_floorMod_7cf53 15 = .ok (.iload_n 1, 1) := by decide +kernel
theorem dJ9_floorMod_7cf53_16 : decode cJ9_floorMod_7cf53 16 = .ok (.iadd, 1) := by decide +kernel
theorem dJ9_floorMod_7cf53_17 : decode cJ9_floorMod_7cf53 17 = .ok (.ireturn, 1) := by decide +kernel
theorem dJ9_floorMod_7cf53_18 : decode cJ9_floorMod_7cf53 18 = .ok (.iload_n 2, 1) := by decide +kernel
theorem dJ9_floorMod_7cf53_19 : decode cJ9_floorMod_7cf53 19 = .ok (.ireturn, 1) := by decide +kernel
theorem dJ9_abs_0f7a4_0 : decode cJ9_abs_0f7a4 0 = .ok (.iload_n 0, 1) := by decide +kernel
theorem dJ9_abs_0f7a4_1 : decode cJ9_abs_0f7a4 1 = .ok (.ifCond .ge 8, 3) := by decide +kernel
theorem dJ9_abs_0f7a4_4 : decode cJ9_abs_0f7a4 4 = .ok (.iload_n 0, 1) := by decide +kernel
theorem dJ9_abs_0f7a4_5 : decode cJ9_abs_0f7a4 5 = .ok (.ineg, 1) := by decide +kernel
theorem dJ9_abs_0f7a4_6 : decode cJ9_abs_0f7a4 6 = .ok (.goto 4, 3) := by decide +kernel
theorem dJ9_abs_0f7a4_9 : decode cJ9_abs_0f7a4 9 = .ok (.iload_n 0, 1) := by decide +kernel
theorem dJ9_abs_0f7a4_10 : decode cJ9_abs_0f7a4 10 = .ok (.ireturn, 1) := by decide +kernel
theorem dJ9_max_7cf53_0 : decode cJ9_max_7cf53 0 = .ok (.iload_n 0, 1) := by decide +kernel
theorem dJ9_max_7cf53_1 : decode cJ9_max_7cf53 1 = .ok (.iload_n 1, 1) := by decide +kernel
theorem dJ9_max_7cf53_2 : decode cJ9_max_7cf53 2 = .ok (.if_icmp .lt 7, 3) := by decide +kernel
theorem dJ9_max_7cf53_5 : decode cJ9_max_7cf53 5 = .ok (.iload_n 0, 1) := by decide +kernel
theorem dJ9_max_7cf53_6 : decode cJ9_max_7cf53 6 = .ok (.goto 4, 3) := by decide +kernel
theorem dJ9_max_7cf53_9 : decode cJ9_max_7cf53 9 = .ok (.iload_n 1, 1) := by decide +kernel
theorem dJ9_max_7cf53_10 : decode cJ9_max_7cf53 10 = .ok (.ireturn, 1) := by decide +kernel
theorem dJ9_min_7cf53_0 : decode cJ9_min_7cf53 0 = .ok (.iload_n 0, 1) := by decide +kernel
theorem dJ9_min_7cf53_1 : decode cJ9_min_7cf53 1 = .ok (.iload_n 1, 1) := by decide +kernel
theorem dJ9_min_7cf53_2 : decode cJ9_min_7cf53 2 = .ok (.if_icmp .gt 7, 3) := by decide +kernel
theorem dJ9_min_7cf53_5 : decode cJ9_min_7cf53 5 = .ok (.iload_n 0, 1) := by decide +kernel
theorem dJ9_min_7cf53_6 : decode cJ9_min_7cf53 6 = .ok (.goto 4, 3) := by decide +kernel
theorem dJ9_min_7cf53_9 : decode cJ9_min_7cf53 9 = .ok (.iload_n 1, 1) := by decide +kernel
theorem dJ9_min_7cf53_10 : decode cJ9_min_7cf53 10 = .ok (.ireturn, 1) := by decide +kernel
set_option maxRecDepth 20000 in
theorem ggJ0_length_8abf5_J0_coder_7d493 : GoodIn wsJ0_length_8abf5 wsJ0_coder_7d493 := goodIn_r _ [6, 7, 8] (by decide +kernel) (by decide +kernel)
set_option maxRecDepth 20000 in
theorem gJ0_length_8abf5_J0_coder_7d493 : GoodIn wsJ0_length_8abf5 (wsV RJ0 335 RJ0 yJ0_coder_7d493 wsJ0_coder_7d493) := goodIn_app (goodIn_of _ (by decide +kernel)) ggJ0_length_8abf5_J0_coder_7d493
theorem dJ0_length_8abf5_0 : decode cJ0_length_8abf5 0 = .ok (.aload_n 0, 1) := by decide +kernel
theorem dJ0_length_8abf5_1 : decode cJ0_length_8abf5 1 = .ok (.getfield 9, 3) := by decide +kernel
theorem dJ0_length_8abf5_4 : decode cJ0_length_8abf5 4 = .ok (.arraylength, 1) := by decide +kernel
theorem dJ0_length_8abf5_5 : decode cJ0_length_8abf5 5 = .ok (.aload_n 0, 1) := by decide +kernel
theorem dJ0_length_8abf5_6 : decode cJ0_length_8abf5 6 = .ok (.invokevirtual 335, 3) := by decide +kernel
theorem dJ0_length_8abf5_9 : decode cJ0_length_8abf5 9 = .ok (.ishr, 1) := by decide +kernel
theorem dJ0_length_8abf5_10 : decode cJ0_length_8abf5 10 = .ok (.ireturn, 1) := by decide +kernel
set_option maxRecDepth 20000 in
theorem ggJ0_charAt_5068e_J0_isLatin1_aae02 : GoodIn wsJ0_charAt_5068e wsJ0_isLatin1_aae02 := goodIn_r _ [6, 7, 8] (by decide +kernel) (by decide +kernel)
set_option maxRecDepth 20000 in
theorem gJ0_charAt_5068e_J0_isLatin1_aae02 : GoodIn wsJ0_charAt_5068e (wsV RJ0 492 RJ0 yJ0_isLatin1_aae02 wsJ0_isLatin1_aae02) := goodIn_app (goodIn_of _ (by decide +kernel)) ggJ0_charAt_5068e_J0_isLatin1_aae02
set_option maxRecDepth 20000 in
theorem ggJ0_charAt_5068e_J1_charAt_3b067 : GoodIn wsJ0_charAt_5068e wsJ1_charAt_3b067 := goodIn_r _ [12, 13, 14, 5, 15, 16, 17, 18, 19, 20] (by decide +kernel) (by decide +kernel)
set_option maxRecDepth 20000 in
theorem gJ0_charAt_5068e_J1_charAt_3b067 : GoodIn wsJ0_charAt_5068e (va_wsS RJ0 495 yJ1_charAt_3b067 wsJ1_charAt_3b067) := goodIn_app (goodIn_of _ (by decide +kernel)) ggJ0_charAt_5068e_J1_charAt_3b067
set_option maxRecDepth 20000 in
theorem ggJ0_charAt_5068e_J2_charAt_3b067 : GoodIn wsJ0_charAt_5068e wsJ2_charAt_3b067 := goodIn_r _ [24, 25, 26, 23, 27, 28, 29, 30, 31, 14, 5, 15, 16, 17, 18, 19, 20, 32, 33, 34, 35, 36, 37] (by decide +kernel) (by decide +kernel)
set_option maxRecDepth 20000 in
theorem gJ0_charAt_5068e_J2_charAt_3b067 : GoodIn wsJ0_charAt_5068e (va_wsS RJ0 498 yJ2_charAt_3b067 wsJ2_charAt_3b067) := goodIn_app (goodIn_of _ (by decide +kernel)) ggJ0_charAt_5068e_J2_charAt_3b067
theorem dJ0_charAt_5068e_0 : decode cJ0_charAt_5068e 0 = .ok (.aload_n 0, 1) := by decide +kernel
theorem dJ0_charAt_5068e_1 : decode cJ0_charAt_5068e 1 = .ok (.invokevirtual 492, 3) := by decide +kernel
theorem dJ0_charAt_5068e_4 : decode cJ0_charAt_5068e 4 = .ok (.ifCond .eq 12, 3) := by decide +kernel
theorem dJ0_charAt_5068e_7 : decode cJ0_charAt_5068e 7 = .ok (.aload_n 0, 1) := by decide +kernel
theorem dJ0_charAt_5068e_8 : decode cJ0_charAt_5068e 8 = .ok (.getfield 9, 3) := by decide +kernel
theorem dJ0_charAt_5068e_11 : decode cJ0_charAt_5068e 11 = .ok (.iload_n 1, 1) := by decide +kernel
theorem dJ0_charAt_5068e_12 : decode cJ0_charAt_5068e 12 = .ok (.invokestatic 495, 3) := by decide +kernel
theorem dJ0_charAt_5068e_15 : decode cJ0_charAt_5068e 15 = .ok (.ireturn, 1) := by decide +kernel
theorem dJ0_charAt_5068e_16 : decode cJ0_charAt_5068e 16 = .ok (.aload_n 0, 1) := by decide +kernel
theorem dJ0_charAt_5068e_17 : decode cJ0_charAt_5068e 17 = .ok (.getfield 9, 3) := by decide +kernel
theorem dJ0_charAt_5068e_20 : decode cJ0_charAt_5068e 20 = .ok (.iload_n 1, 1) := by decide +kernel
theorem dJ0_charAt_5068e_21 : decode cJ0_charAt_5068e 21 = .ok (.invokestatic 498, 3) := by decide +kernel
theorem dJ0_charAt_5068e_24 : decode cJ0_charAt_5068e 24 = .ok (.ireturn, 1) := by decide +kernel
theorem dJ0_coder_7d493_0 : decode cJ0_coder_7d493 0 = .ok (.getstatic 38, 3) := by decide +kernel
theorem dJ0_coder_7d493_3 : decode cJ0_coder_7d493 3 = .ok (.ifCond .eq 10, 3) := by decide +kernel
theorem dJ0_coder_7d493_6 : decode cJ0_coder_7d493 6 = .ok (.aload_n 0, 1) := by decide +kernel
theorem dJ0_coder_7d493_7 : decode cJ0_coder_7d493 7 = .ok (.getfield 15, 3) := by decide +kernel
theorem dJ0_coder_7d493_10 : decode cJ0_coder_7d493 10 = .ok (.goto 4, 3) := by decide +kernel
theorem dJ0_coder_7d493_13 : decode cJ0_coder_7d493 13 = .ok (.iconst 1, 1) := by decide +kernel
theorem dJ0_coder_7d493_14 : decode cJ0_coder_7d493 14 = .ok (.ireturn, 1) := by decide +kernel
theorem dJ0_isLatin1_aae02_0 : decode cJ0_isLatin1_aae02 0 = .ok (.getstatic 38, 3) := by decide +kernel
theorem dJ0_isLatin1_aae02_3 : decode cJ0_isLatin1_aae02 3 = .ok (.ifCond .eq 14, 3) := by decide +kernel
theorem dJ0_isLatin1_aae02_6 : decode cJ0_isLatin1_aae02 6 = .ok (.aload_n 0, 1) := by decide +kernel
theorem dJ0_isLatin1_aae02_7 : decode cJ0_isLatin1_aae02 7 = .ok (.getfield 15, 3) := by decide +kernel
theorem dJ0_isLatin1_aae02_10 : decode cJ0_isLatin1_aae02 10 = .ok (.ifCond .ne 7, 3) := by decide +kernel
theorem dJ0_isLatin1_aae02_13 : decode cJ0_isLatin1_aae02 13 = .ok (.iconst 1, 1) := by decide +kernel
theorem dJ0_isLatin1_aae02_14 : decode cJ0_isLatin1_aae02 14 = .ok (.goto 4, 3) := by decide +kernel
theorem dJ0_isLatin1_aae02_17 : decode cJ0_isLatin1_aae02 17 = .ok (.iconst 0, 1) := by decide +kernel
theorem dJ0_isLatin1_aae02_18 : decode cJ0_isLatin1_aae02 18 = .ok (.ireturn, 1) := by decide +kernel
set_option maxRecDepth 20000 in
theorem ggJ0_checkIndex_df160_J3_checkIndex_8e157 : GoodIn wsJ0_checkIndex_df160 wsJ3_checkIndex_8e157 := goodIn_r _ [5] (by decide +kernel) (by decide +kernel)
set_option maxRecDepth 20000 in
theorem gJ0_checkIndex_df160_J3_checkIndex_8e157 : GoodIn wsJ0_checkIndex_df160 (va_wsS RJ0 1059 yJ3_checkIndex_8e157 wsJ3_checkIndex_8e157) := goodIn_app (goodIn_of _ (by decide +kernel)) ggJ0_checkIndex_df160_J3_checkIndex_8e157
theorem dJ0_checkIndex_df160_0 : decode cJ0_checkIndex_df160 0 = .ok (.iload_n 0, 1) := by decide +kernel
theorem dJ0_checkIndex_df160_1 : decode cJ0_checkIndex_df160 1 = .ok (.iload_n 1, 1) := by decide +kernel
theorem dJ0_checkIndex_df160_2 : decode cJ0_checkIndex_df160 2 = .ok (.getstatic 1053, 3) := by decide +kernel
theorem dJ0_checkIndex_df160_5 : decode cJ0_checkIndex_df160 5 = .ok (.invokestatic 1059, 3) := by decide +kernel
theorem dJ0_checkIndex_df160_8 : decode cJ0_checkIndex_df160 8 = .ok (.pop, 1) := by decide +kernel
theorem dJ0_checkIndex_df160_9 : decode cJ0_checkIndex_df160 9 = .ok (.return_, 1) := by decide +kernel
set_option maxRecDepth 20000 in
theorem ggJ1_charAt_3b067_J0_checkIndex_df160 : GoodIn wsJ1_charAt_3b067 wsJ0_checkIndex_df160 := goodIn_r _ [4, 5, 6, 7, 8, 9] (by decide +kernel) (by decide +kernel)
set_option maxRecDepth 20000 in
theorem gJ1_charAt_3b067_J0_checkIndex_df160 : GoodIn wsJ1_charAt_3b067 (va_wsS RJ1 9 yJ0_checkIndex_df160 wsJ0_checkIndex_df160) := goodIn_app (goodIn_of _ (by decide +kernel)) ggJ1_charAt_3b067_J0_checkIndex_df160
theorem dJ1_charAt_3b067_0 : decode cJ1_charAt_3b067 0 = .ok (.iload_n 1, 1) := by decide +kernel
theorem dJ1_charAt_3b067_1 : decode cJ1_charAt_3b067 1 = .ok (.aload_n 0, 1) := by decide +kernel
theorem dJ1_charAt_3b067_2 : decode cJ1_charAt_3b067 2 = .ok (.arraylength, 1) := by decide +kernel
theorem dJ1_charAt_3b067_3 : decode cJ1_charAt_3b067 3 = .ok (.invokestatic 9, 3) := by decide +kernel
theorem dJ1_charAt_3b067_6 : decode cJ1_charAt_3b067 6 = .ok (.aload_n 0, 1) := by decide +kernel
theorem dJ1_charAt_3b067_7 : decode cJ1_charAt_3b067 7 = .ok (.iload_n 1, 1) := by decide +kernel
theorem dJ1_charAt_3b067_8 : decode cJ1_charAt_3b067 8 = .ok (.baload, 1) := by decide +kernel
theorem dJ1_charAt_3b067_9 : decode cJ1_charAt_3b067 9 = .ok (.sipush 255, 3) := by decide +kernel
theorem dJ1_charAt_3b067_12 : decode cJ1_charAt_3b067 12 = .ok (.iand, 1) := by decide +kernel
theorem dJ1_charAt_3b067_13 : decode cJ1_charAt_3b067 13 = .ok (.i2c, 1) := by decide +kernel
theorem dJ1_charAt_3b067_14 : decode cJ1_charAt_3b067 14 = .ok (.ireturn, 1) := by decide +kernel
set_option maxRecDepth 20000 in
theorem ggJ2_getChar_3b067_J2_length_9d52b : GoodIn wsJ2_getChar_3b067 wsJ2_length_9d52b := goodIn_r _ [7] (by decide +kernel) (by decide +kernel)
set_option maxRecDepth 20000 in
theorem gJ2_getChar_3b067_J2_length_9d52b : GoodIn wsJ2_getChar_3b067 (va_wsS RJ2 48 yJ2_length_9d52b wsJ2_length_9d52b) := goodIn_app (goodIn_of _ (by decide +kernel)) ggJ2_getChar_3b067_J2_length_9d52b
theorem dJ2_getChar_3b067_0 : decode cJ2_getChar_3b067 0 = .ok (.getstatic 44, 3) := by decide +kernel
theorem dJ2_getChar_3b067_3 : decode cJ2_getChar_3b067 3 = .ok (.ifCond .ne 25, 3) := by decide +kernel
theorem dJ2_getChar_3b067_6 : decode cJ2_getChar_3b067 6 = .ok (.iload_n 1, 1) := by decide +kernel
theorem dJ2_getChar_3b067_7 : decode cJ2_getChar_3b067 7 = .ok (.ifCond .lt 11, 3) := by decide +kernel
theorem dJ2_getChar_3b067_10 : decode cJ2_getChar_3b067 10 = .ok (.iload_n 1, 1) := by decide +kernel
theorem dJ2_getChar_3b067_11 : decode cJ2_getChar_3b067 11 = .ok (.aload_n 0, 1) := by decide +kernel
theorem dJ2_getChar_3b067_12 : decode cJ2_getChar_3b067 12 = .ok (.invokestatic 48, 3) := by decide +kernel
theorem dJ2_getChar_3b067_15 : decode cJ2_getChar_3b067 15 = .ok (.if_icmp .lt 13, 3) := by decide +kernel
theorem dJ2_getChar_3b067_18 : decode cJ2_getChar_3b067 18 = .ok (.new 52, 3) := by decide +kernel
theorem dJ2_getChar_3b067_21 : decode cJ2_getChar_3b067 21 = .ok (.dup, 1) := by decide +kernel
theorem dJ2_getChar_3b067_22 : decode cJ2_getChar_3b067 22 = .ok (.ldc 54, 2) := by decide +kernel
theorem dJ2_getChar_3b067_24 : decode cJ2_getChar_3b067 24 = .ok (.invokespecial 56, 3) := by decide +kernel
theorem dJ2_getChar_3b067_27 : decode cJ2_getChar_3b067 27 = .ok (.athrow, 1) := by decide +kernel
theorem dJ2_getChar_3b067_28 : decode cJ2_getChar_3b067 28 = .ok (.iload_n 1, 1) := by decide +kernel
theorem dJ2_getChar_3b067_29 : decode cJ2_getChar_3b067 29 = .ok (.iconst 1, 1) := by decide +kernel
theorem dJ2_getChar_3b067_30 : decode cJ2_getChar_3b067 30 = .ok (.ishl, 1) := by decide +kernel
theorem dJ2_getChar_3b067_31 : decode cJ2_getChar_3b067 31 = .ok (.istore_n 1, 1) := by decide +kernel
theorem dJ2_getChar_3b067_32 : decode cJ2_getChar_3b067 32 = .ok (.aload_n 0, 1) := by decide +kernel
theorem dJ2_getChar_3b067_33 : decode cJ2_getChar_3b067 33 = .ok (.iload_n 1, 1) := by decide +kernel
theorem dJ2_getChar_3b067_34 : decode cJ2_getChar_3b067 34 = .ok (.iinc 1 1, 3) := by decide +kernel
theorem dJ2_getChar_3b067_37 : decode cJ2_getChar_3b067 37 = .ok (.baload, 1) := by decide +kernel
theorem dJ2_getChar_3b067_38 : decode cJ2_getChar_3b067 38 = .ok (.sipush 255, 3) := by decide +kernel
theorem dJ2_getChar_3b067_41 : decode cJ2_getChar_3b067 41 = .ok (.iand, 1) := by decide +kernel
theorem dJ2_getChar_3b067_42 : decode cJ2_getChar_3b067 42 = .ok (.getstatic 59, 3) := by decide +kernel
theorem dJ2_getChar_3b067_45 : decode cJ2_getChar_3b067 45 = .ok (.ishl, 1) := by decide +kernel
theorem dJ2_getChar_3b067_46 : decode cJ2_getChar_3b067 46 = .ok (.aload_n 0, 1) := by decide +kernel
theorem dJ2_getChar_3b067_47 : decode cJ2_getChar_3b067 47 = .ok (.iload_n 1, 1) := by decide +kernel
theorem dJ2_getChar_3b067_48 : decode cJ2_getChar_3b067 48 = .ok (.baload, 1) := by decide +kernel
theorem dJ2_getChar_3b067_49 : decode cJ2_getChar_3b067 49 = .ok (.sipush 255, 3) := by decide +kernel
theorem dJ2_getChar_3b067_52 : decode cJ2_getChar_3b067 52 = .ok (.iand, 1) := by decide +kernel
theorem dJ2_getChar_3b067_53 : decode cJ2_getChar_3b067 53 = .ok (.getstatic 63, 3) := by decide +kernel
theorem dJ2_getChar_3b067_56 : decode cJ2_getChar_3b067 56 = .ok (.ishl, 1) := by decide +kernel
theorem dJ2_getChar_3b067_57 : decode cJ2_getChar_3b067 57 = .ok (.ior, 1) := by decide +kernel
theorem dJ2_getChar_3b067_58 : decode cJ2_getChar_3b067 58 = .ok (.i2c, 1) := by decide +kernel
theorem dJ2_getChar_3b067_59 : decode cJ2_getChar_3b067 59 = .ok (.ireturn, 1) := by decide +kernel
theorem dJ2_length_9d52b_0 : decode cJ2_length_9d52b 0 = .ok (.aload_n 0, 1) := by decide +kernel
theorem dJ2_length_9d52b_1 : decode cJ2_length_9d52b 1 = .ok (.arraylength, 1) := by decide +kernel
theorem dJ2_length_9d52b_2 : decode cJ2_length_9d52b 2 = .ok (.iconst 1, 1) := by decide +kernel
theorem dJ2_length_9d52b_3 : decode cJ2_length_9d52b 3 = .ok (.ishr, 1) := by decide +kernel
theorem dJ2_length_9d52b_4 : decode cJ2_length_9d52b 4 = .ok (.ireturn, 1) := by decide +kernel
set_option maxRecDepth 20000 in
theorem ggJ2_charAt_3b067_J2_checkIndex_2214a : GoodIn wsJ2_charAt_3b067 wsJ2_checkIndex_2214a := goodIn_r _ [4, 5, 6, 3, 7, 8, 9, 10, 11, 12, 13, 14, 15, 16] (by decide +kernel) (by decide +kernel)
set_option maxRecDepth 20000 in
theorem gJ2_charAt_3b067_J2_checkIndex_2214a : GoodIn wsJ2_charAt_3b067 (va_wsS RJ2 67 yJ2_checkIndex_2214a wsJ2_checkIndex_2214a) := goodIn_app (goodIn_of _ (by decide +kernel)) ggJ2_charAt_3b067_J2_checkIndex_2214a
set_option maxRecDepth 20000 in
theorem ggJ2_charAt_3b067_J2_getChar_3b067 : GoodIn wsJ2_charAt_3b067 wsJ2_getChar_3b067 := goodIn_r _ [19, 20, 21, 22, 5, 6, 3, 7] (by decide +kernel) (by decide +kernel)
set_option maxRecDepth 20000 in
theorem gJ2_charAt_3b067_J2_getChar_3b067 : GoodIn wsJ2_charAt_3b067 (va_wsS RJ2 71 yJ2_getChar_3b067 wsJ2_getChar_3b067) := goodIn_app (goodIn_of _ (by decide +kernel)) ggJ2_charAt_3b067_J2_getChar_3b067
theorem dJ2_charAt_3b067_0 : decode cJ2_charAt_3b067 0 = .ok (.iload_n 1, 1) := by decide +kernel
theorem dJ2_charAt_3b067_1 : decode cJ2_charAt_3b067 1 = .ok (.aload_n 0, 1) := by decide +kernel
theorem dJ2_charAt_3b067_2 : decode cJ2_charAt_3b067 2 = .ok (.invokestatic 67, 3) := by decide +kernel
theorem dJ2_charAt_3b067_5 : decode cJ2_charAt_3b067 5 = .ok (.aload_n 0, 1) := by decide +kernel
theorem dJ2_charAt_3b067_6 : decode cJ2_charAt_3b067 6 = .ok (.iload_n 1, 1) := by decide +kernel
theorem dJ2_charAt_3b067_7 : decode cJ2_charAt_3b067 7 = .ok (.invokestatic 71, 3) := by decide +kernel
theorem dJ2_charAt_3b067_10 : decode cJ2_charAt_3b067 10 = .ok (.ireturn, 1) := by decide +kernel
set_option maxRecDepth 20000 in
theorem ggJ2_checkIndex_2214a_J2_length_9d52b : GoodIn wsJ2_checkIndex_2214a wsJ2_length_9d52b := goodIn_r _ [4] (by decide +kernel) (by decide +kernel)
set_option maxRecDepth 20000 in
theorem gJ2_checkIndex_2214a_J2_length_9d52b : GoodIn wsJ2_checkIndex_2214a (va_wsS RJ2 48 yJ2_length_9d52b wsJ2_length_9d52b) := goodIn_app (goodIn_of _ (by decide +kernel)) ggJ2_checkIndex_2214a_J2_length_9d52b
set_option maxRecDepth 20000 in
theorem ggJ2_checkIndex_2214a_J0_checkIndex_df160 : GoodIn wsJ2_checkIndex_2214a wsJ0_checkIndex_df160 := goodIn_r _ [8, 9, 10, 11, 12, 13] (by decide +kernel) (by decide +kernel)
set_option maxRecDepth 20000 in
theorem gJ2_checkIndex_2214a_J0_checkIndex_df160 : GoodIn wsJ2_checkIndex_2214a (va_wsS RJ2 414 yJ0_checkIndex_df160 wsJ0_checkIndex_df160) := goodIn_app (goodIn_of _ (by decide +kernel)) ggJ2_checkIndex_2214a_J0_checkIndex_df160
theorem dJ2_checkIndex_2214a_0 : decode cJ2_checkIndex_2214a 0 = .ok (.iload_n 0, 1) := by decide +kernel
theorem dJ2_checkIndex_2214a_1 : decode cJ2_checkIndex_2214a 1 = .ok (.aload_n 1, 1) := by decide +kernel
theorem dJ2_checkIndex_2214a_2 : decode cJ2_checkIndex_2214a 2 = .ok (.invokestatic 48, 3) := by decide +kernel
theorem dJ2_checkIndex_2214a_5 : decode cJ2_checkIndex_2214a 5 = .ok (.invokestatic 414, 3) := by decide +kernel
theorem dJ2_checkIndex_2214a_8 : decode cJ2_checkIndex_2214a 8 = .ok (.return_, 1) := by decide +kernel
theorem dJ3_checkIndex_8e157_0 : decode cJ3_checkIndex_8e157 0 = .ok (.iload_n 0, 1) := by decide +kernel
theorem dJ3_checkIndex_8e157_1 : decode cJ3_checkIndex_8e157 1 = .ok (.ifCond .lt 8, 3) := by decide +kernel
theorem dJ3_checkIndex_8e157_4 : decode cJ3_checkIndex_8e157 4 = .ok (.iload_n 0, 1) := by decide +kernel
theorem dJ3_checkIndex_8e157_5 : decode cJ3_checkIndex_8e157 5 = .ok (.iload_n 1, 1) := by decide +kernel
theorem dJ3_checkIndex_8e157_6 : decode cJ3_checkIndex_8e157 6 = .ok (.if_icmp .lt 10, 3) := by decide +kernel
theorem dJ3_checkIndex_8e157_9 : decode cJ3_checkIndex_8e157 9 = .ok (.aload_n 2, 1) := by decide +kernel
theorem dJ3_checkIndex_8e157_10 : decode cJ3_checkIndex_8e157 10 = .ok (.iload_n 0, 1) := by decide +kernel
theorem dJ3_checkIndex_8e157_11 : decode cJ3_checkIndex_8e157 11 = .ok (.iload_n 1, 1) := by decide +kernel
theorem dJ3_checkIndex_8e157_12 : decode cJ3_checkIndex_8e157 12 = .ok (.invokestatic 95, 3) := by decide +kernel
theorem dJ3_checkIndex_8e157_15 : decode cJ3_checkIndex_8e157 15 = .ok (.athrow, 1) := by decide +kernel
theorem dJ3_checkIndex_8e157_16 : decode cJ3_checkIndex_8e157 16 = .ok (.iload_n 0, 1) := by decide +kernel
theorem dJ3_checkIndex_8e157_17 : decode cJ3_checkIndex_8e157 17 = .ok (.ireturn, 1) := by decide +kernel
