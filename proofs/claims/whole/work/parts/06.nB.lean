set_option maxRecDepth 20000 in
theorem ggX5_init_X3_init : GoodIn wsX5_init wsX3_init := goodIn_r _ [30, 31, 2, 3, 32, 33, 34, 35, 36, 37, 38, 39, 40, 41, 42, 43, 44, 26, 45, 46, 47, 61, 62, 63, 64, 65, 66, 67, 68, 69, 70, 71, 72, 73, 74, 75, 76] (by decide +kernel) (by decide +kernel)
set_option maxRecDepth 20000 in
theorem gX5_init_X3_init_n9 : GoodIn wsX5_init (wsX3_init) := ggX5_init_X3_init
set_option maxRecDepth 20000 in
theorem ggX5_init_X4_init : GoodIn wsX5_init wsX4_init := goodIn_r _ [49, 50, 2, 3, 26, 51, 88, 89, 90, 91, 92, 93, 94] (by decide +kernel) (by decide +kernel)
set_option maxRecDepth 20000 in
theorem gX5_init_X4_init_n24 : GoodIn wsX5_init (wsX4_init) := ggX5_init_X4_init
set_option maxRecDepth 20000 in
theorem ggX5_init_X0_init : GoodIn wsX5_init wsX0_init := goodIn_r _ [53, 54, 2, 3] (by decide +kernel) (by decide +kernel)
set_option maxRecDepth 20000 in
theorem gX5_init_X0_init_n31 : GoodIn wsX5_init (wsX0_init) := ggX5_init_X0_init
set_option maxRecDepth 20000 in
theorem ggX5_init_X1_init : GoodIn wsX5_init wsX1_init := goodIn_r _ [56, 57, 2, 3] (by decide +kernel) (by decide +kernel)
set_option maxRecDepth 20000 in
theorem gX5_init_X1_init_n38 : GoodIn wsX5_init (wsX1_init) := ggX5_init_X1_init
set_option maxRecDepth 20000 in
theorem ggX5_init_X2_init : GoodIn wsX5_init wsX2_init := goodIn_r _ [59, 60, 2, 3] (by decide +kernel) (by decide +kernel)
set_option maxRecDepth 20000 in
theorem gX5_init_X2_init_n45 : GoodIn wsX5_init (wsX2_init) := ggX5_init_X2_init
theorem dX5_init_0 : decode cX5_init 0 = .ok (.aload_n 0, 1) := by decide +kernel
theorem dX5_init_1 : decode cX5_init 1 = .ok (.invokespecial 1, 3) := by decide +kernel
theorem dX5_init_4 : decode cX5_init 4 = .ok (.aload_n 0, 1) := by decide +kernel
theorem dX5_init_5 : decode cX5_init 5 = .ok (.new 7, 3) := by decide +kernel
theorem dX5_init_8 : decode cX5_init 8 = .ok (.dup, 1) := by decide +kernel
theorem dX5_init_9 : decode cX5_init 9 = .ok (.invokespecial 9, 3) := by decide +kernel
theorem dX5_init_12 : decode cX5_init 12 = .ok (.putfield 10, 3) := by decide +kernel
theorem dX5_init_15 : decode cX5_init 15 = .ok (.aload_n 0, 1) := by decide +kernel
theorem dX5_init_16 : decode cX5_init 16 = .ok (.new 7, 3) := by decide +kernel
theorem dX5_init_19 : decode cX5_init 19 = .ok (.dup, 1) := by decide +kernel
theorem dX5_init_20 : decode cX5_init 20 = .ok (.invokespecial 9, 3) := by decide +kernel
theorem dX5_init_23 : decode cX5_init 23 = .ok (.putfield 16, 3) := by decide +kernel
theorem dX5_init_26 : decode cX5_init 26 = .ok (.aload_n 0, 1) := by decide +kernel
theorem dX5_init_27 : decode cX5_init 27 = .ok (.new 7, 3) := by decide +kernel
theorem dX5_init_30 : decode cX5_init 30 = .ok (.dup, 1) := by decide +kernel
theorem dX5_init_31 : decode cX5_init 31 = .ok (.invokespecial 9, 3) := by decide +kernel
theorem dX5_init_34 : decode cX5_init 34 = .ok (.putfield 19, 3) := by decide +kernel
theorem dX5_init_37 : decode cX5_init 37 = .ok (.aload_n 0, 1) := by decide +kernel
theorem dX5_init_38 : decode cX5_init 38 = .ok (.new 22, 3) := by decide +kernel
theorem dX5_init_41 : decode cX5_init 41 = .ok (.dup, 1) := by decide +kernel
theorem dX5_init_42 : decode cX5_init 42 = .ok (.invokespecial 24, 3) := by decide +kernel
theorem dX5_init_45 : decode cX5_init 45 = .ok (.putfield 25, 3) := by decide +kernel
theorem dX5_init_48 : decode cX5_init 48 = .ok (.aload_n 0, 1) := by decide +kernel
theorem dX5_init_49 : decode cX5_init 49 = .ok (.new 29, 3) := by decide +kernel
theorem dX5_init_52 : decode cX5_init 52 = .ok (.dup, 1) := by decide +kernel
theorem dX5_init_53 : decode cX5_init 53 = .ok (.invokespecial 31, 3) := by decide +kernel
theorem dX5_init_56 : decode cX5_init 56 = .ok (.putfield 32, 3) := by decide +kernel
theorem dX5_init_59 : decode cX5_init 59 = .ok (.aload_n 0, 1) := by decide +kernel
theorem dX5_init_60 : decode cX5_init 60 = .ok (.new 36, 3) := by decide +kernel
theorem dX5_init_63 : decode cX5_init 63 = .ok (.dup, 1) := by decide +kernel
theorem dX5_init_64 : decode cX5_init 64 = .ok (.invokespecial 38, 3) := by decide +kernel
theorem dX5_init_67 : decode cX5_init 67 = .ok (.putfield 39, 3) := by decide +kernel
theorem dX5_init_70 : decode cX5_init 70 = .ok (.aload_n 0, 1) := by decide +kernel
theorem dX5_init_71 : decode cX5_init 71 = .ok (.new 43, 3) := by decide +kernel
theorem dX5_init_74 : decode cX5_init 74 = .ok (.dup, 1) := by decide +kernel
theorem dX5_init_75 : decode cX5_init 75 = .ok (.invokespecial 45, 3) := by decide +kernel
theorem dX5_init_78 : decode cX5_init 78 = .ok (.putfield 46, 3) := by decide +kernel
theorem dX5_init_81 : decode cX5_init 81 = .ok (.aload_n 0, 1) := by decide +kernel
theorem dX5_init_82 : decode cX5_init 82 = .ok (.bipush 12, 2) := by decide +kernel
theorem dX5_init_84 : decode cX5_init 84 = .ok (.newarray .int, 2) := by decide +kernel
theorem dX5_init_86 : decode cX5_init 86 = .ok (.putfield 50, 3) := by decide +kernel
theorem dX5_init_89 : decode cX5_init 89 = .ok (.aload_n 0, 1) := by decide +kernel
theorem dX5_init_90 : decode cX5_init 90 = .ok (.bipush 7, 2) := by decide +kernel
theorem dX5_init_92 : decode cX5_init 92 = .ok (.newarray .int, 2) := by decide +kernel
theorem dX5_init_94 : decode cX5_init 94 = .ok (.putfield 54, 3) := by decide +kernel
theorem dX5_init_97 : decode cX5_init 97 = .ok (.return_, 1) := by decide +kernel
set_option maxRecDepth 20000 in
theorem ggX5_letter_X5_refuse : GoodIn wsX5_letter wsX5_refuse := goodIn_r _ [6, 7, 17, 18, 19, 20, 21, 22, 23, 24, 25, 26, 27] (by decide +kernel) (by decide +kernel)
set_option maxRecDepth 20000 in
theorem gX5_letter_X5_refuse : GoodIn wsX5_letter (wsV RX5 57 RX5 yX5_refuse wsX5_refuse) := goodIn_app (goodIn_of _ (by decide +kernel)) ggX5_letter_X5_refuse
set_option maxRecDepth 20000 in
theorem ggX5_letter_X4_hasRoom : GoodIn wsX5_letter wsX4_hasRoom := goodIn_r _ [11, 12, 28, 29, 30, 31, 32, 33, 34] (by decide +kernel) (by decide +kernel)
set_option maxRecDepth 20000 in
theorem gX5_letter_X4_hasRoom_n61 : GoodIn wsX5_letter (wsX4_hasRoom) := ggX5_letter_X4_hasRoom
set_option maxRecDepth 20000 in
theorem ggX5_letter_X4_add : GoodIn wsX5_letter wsX4_add := goodIn_r _ [15, 12, 16, 28, 29, 30, 31, 32, 33, 34] (by decide +kernel) (by decide +kernel)
set_option maxRecDepth 20000 in
theorem gX5_letter_X4_add_n65 : GoodIn wsX5_letter (wsX4_add) := ggX5_letter_X4_add
theorem dX5_letter_0 : decode cX5_letter 0 = .ok (.iload_n 1, 1) := by decide +kernel
theorem dX5_letter_1 : decode cX5_letter 1 = .ok (.ifCond .ge 10, 3) := by decide +kernel
theorem dX5_letter_4 : decode cX5_letter 4 = .ok (.aload_n 0, 1) := by decide +kernel
theorem dX5_letter_5 : decode cX5_letter 5 = .ok (.bipush (-4), 2) := by decide +kernel
theorem dX5_letter_7 : decode cX5_letter 7 = .ok (.invokevirtual 57, 3) := by decide +kernel
theorem dX5_letter_10 : decode cX5_letter 10 = .ok (.ireturn, 1) := by decide +kernel
theorem dX5_letter_11 : decode cX5_letter 11 = .ok (.iload_n 1, 1) := by decide +kernel
theorem dX5_letter_12 : decode cX5_letter 12 = .ok (.sipush 255, 3) := by decide +kernel
theorem dX5_letter_15 : decode cX5_letter 15 = .ok (.if_icmp .gt 13, 3) := by decide +kernel
theorem dX5_letter_18 : decode cX5_letter 18 = .ok (.aload_n 0, 1) := by decide +kernel
theorem dX5_letter_19 : decode cX5_letter 19 = .ok (.getfield 25, 3) := by decide +kernel
theorem dX5_letter_22 : decode cX5_letter 22 = .ok (.invokevirtual 61, 3) := by decide +kernel
theorem dX5_letter_25 : decode cX5_letter 25 = .ok (.ifCond .ne 10, 3) := by decide +kernel
theorem dX5_letter_28 : decode cX5_letter 28 = .ok (.aload_n 0, 1) := by decide +kernel
theorem dX5_letter_29 : decode cX5_letter 29 = .ok (.bipush (-6), 2) := by decide +kernel
theorem dX5_letter_31 : decode cX5_letter 31 = .ok (.invokevirtual 57, 3) := by decide +kernel
theorem dX5_letter_34 : decode cX5_letter 34 = .ok (.ireturn, 1) := by decide +kernel
theorem dX5_letter_35 : decode cX5_letter 35 = .ok (.aload_n 0, 1) := by decide +kernel
theorem dX5_letter_36 : decode cX5_letter 36 = .ok (.getfield 25, 3) := by decide +kernel
theorem dX5_letter_39 : decode cX5_letter 39 = .ok (.iload_n 1, 1) := by decide +kernel
theorem dX5_letter_40 : decode cX5_letter 40 = .ok (.invokevirtual 65, 3) := by decide +kernel
theorem dX5_letter_43 : decode cX5_letter 43 = .ok (.ireturn, 1) := by decide +kernel
set_option maxRecDepth 20000 in
theorem ggX5_office_X3_become : GoodIn wsX5_office wsX3_become := goodIn_r _ [7, 8, 9, 10, 11, 12, 13, 14, 15, 16, 17, 18, 19, 20, 21, 22, 23, 120, 121, 122, 123, 124, 125, 126, 127, 128, 129, 130, 131, 132, 133, 134, 135] (by decide +kernel) (by decide +kernel)
set_option maxRecDepth 20000 in
theorem gX5_office_X3_become_n68 : GoodIn wsX5_office (wsX3_become) := ggX5_office_X3_become
set_option maxRecDepth 20000 in
theorem ggX5_office_X4_tell : GoodIn wsX5_office wsX4_tell := goodIn_r _ [27, 28, 29, 30, 31, 25, 32, 33, 34, 35, 36, 37, 38, 39, 40, 41, 42, 43, 44, 45, 46, 47, 48, 49, 50, 51, 52, 53, 54, 55, 56, 57, 58, 59, 60, 61, 62, 63, 64, 65, 66, 67, 68, 69, 70, 71, 72, 73, 74, 75, 76, 77, 78, 79, 80, 81, 82, 5, 83, 84, 13, 9, 10, 11, 85, 86, 87, 88, 89, 90, 91, 92, 93, 14, 94, 95, 96, 8, 97, 98, 99, 15, 16, 100, 101, 102, 12, 103, 104, 105, 20, 21, 22, 23, 136, 137, 138, 139, 140, 141, 142, 120, 121, 122, 123, 124, 125, 126, 127, 128, 129, 130, 131, 132, 133, 134, 135] (by decide +kernel) (by decide +kernel)
set_option maxRecDepth 20000 in
theorem gX5_office_X4_tell_n72 : GoodIn wsX5_office (wsX4_tell) := ggX5_office_X4_tell
set_option maxRecDepth 20000 in
theorem ggX5_office_X4_clear : GoodIn wsX5_office wsX4_clear := goodIn_r _ [108, 33, 136, 137, 138, 139, 140, 141, 142] (by decide +kernel) (by decide +kernel)
set_option maxRecDepth 20000 in
theorem gX5_office_X4_clear_n76 : GoodIn wsX5_office (wsX4_clear) := ggX5_office_X4_clear
theorem dX5_office_0 : decode cX5_office 0 = .ok (.aload_n 0, 1) := by decide +kernel
theorem dX5_office_1 : decode cX5_office 1 = .ok (.getfield 16, 3) := by decide +kernel
theorem dX5_office_4 : decode cX5_office 4 = .ok (.aload_n 0, 1) := by decide +kernel
theorem dX5_office_5 : decode cX5_office 5 = .ok (.getfield 10, 3) := by decide +kernel
theorem dX5_office_8 : decode cX5_office 8 = .ok (.invokevirtual 68, 3) := by decide +kernel
theorem dX5_office_11 : decode cX5_office 11 = .ok (.aload_n 0, 1) := by decide +kernel
theorem dX5_office_12 : decode cX5_office 12 = .ok (.getfield 25, 3) := by decide +kernel
theorem dX5_office_15 : decode cX5_office 15 = .ok (.aload_n 0, 1) := by decide +kernel
theorem dX5_office_16 : decode cX5_office 16 = .ok (.getfield 16, 3) := by decide +kernel
theorem dX5_office_19 : decode cX5_office 19 = .ok (.invokevirtual 72, 3) := by decide +kernel
theorem dX5_office_22 : decode cX5_office 22 = .ok (.istore_n 1, 1) := by decide +kernel
theorem dX5_office_23 : decode cX5_office 23 = .ok (.iload_n 1, 1) := by decide +kernel
theorem dX5_office_24 : decode cX5_office 24 = .ok (.ifCond .le 14, 3) := by decide +kernel
theorem dX5_office_27 : decode cX5_office 27 = .ok (.aload_n 0, 1) := by decide +kernel
theorem dX5_office_28 : decode cX5_office 28 = .ok (.getfield 10, 3) := by decide +kernel
theorem dX5_office_31 : decode cX5_office 31 = .ok (.aload_n 0, 1) := by decide +kernel
theorem dX5_office_32 : decode cX5_office 32 = .ok (.getfield 16, 3) := by decide +kernel
theorem dX5_office_35 : decode cX5_office 35 = .ok (.invokevirtual 68, 3) := by decide +kernel
theorem dX5_office_38 : decode cX5_office 38 = .ok (.aload_n 0, 1) := by decide +kernel
theorem dX5_office_39 : decode cX5_office 39 = .ok (.getfield 25, 3) := by decide +kernel
theorem dX5_office_42 : decode cX5_office 42 = .ok (.invokevirtual 76, 3) := by decide +kernel
theorem dX5_office_45 : decode cX5_office 45 = .ok (.iload_n 1, 1) := by decide +kernel
theorem dX5_office_46 : decode cX5_office 46 = .ok (.ireturn, 1) := by decide +kernel
set_option maxRecDepth 20000 in
theorem ggX5_ball_X3_hasBall : GoodIn wsX5_ball wsX3_hasBall := goodIn_r _ [5, 6, 54, 55, 56, 57, 58, 59, 60, 61, 62, 63, 64, 65, 66, 67, 68, 69] (by decide +kernel) (by decide +kernel)
set_option maxRecDepth 20000 in
theorem gX5_ball_X3_hasBall_n79 : GoodIn wsX5_ball (wsX3_hasBall) := ggX5_ball_X3_hasBall
set_option maxRecDepth 20000 in
theorem ggX5_ball_X5_refuse : GoodIn wsX5_ball wsX5_refuse := goodIn_r _ [11, 12, 43, 44, 45, 46, 47, 48, 49, 50, 51, 52, 53] (by decide +kernel) (by decide +kernel)
set_option maxRecDepth 20000 in
theorem gX5_ball_X5_refuse : GoodIn wsX5_ball (wsV RX5 57 RX5 yX5_refuse wsX5_refuse) := goodIn_app (goodIn_of _ (by decide +kernel)) ggX5_ball_X5_refuse
set_option maxRecDepth 20000 in
theorem ggX5_ball_X3_kindOf : GoodIn wsX5_ball wsX3_kindOf := goodIn_r _ [15, 16, 17, 2, 4, 3, 5, 6, 54, 55, 56, 57, 58, 59, 60, 61, 62, 63, 64, 65, 66, 67, 68, 69] (by decide +kernel) (by decide +kernel)
set_option maxRecDepth 20000 in
theorem gX5_ball_X3_kindOf_n83 : GoodIn wsX5_ball (wsX3_kindOf) := ggX5_ball_X3_kindOf
set_option maxRecDepth 20000 in
theorem ggX5_ball_X3_sizeOf : GoodIn wsX5_ball wsX3_sizeOf := goodIn_r _ [20, 21, 17, 2, 4, 3, 5, 6, 54, 55, 56, 57, 58, 59, 60, 61, 62, 63, 64, 65, 66, 67, 68, 69] (by decide +kernel) (by decide +kernel)
set_option maxRecDepth 20000 in
theorem gX5_ball_X3_sizeOf_n86 : GoodIn wsX5_ball (wsX3_sizeOf) := ggX5_ball_X3_sizeOf
set_option maxRecDepth 20000 in
theorem ggX5_ball_X3_tightOf : GoodIn wsX5_ball wsX3_tightOf := goodIn_r _ [24, 25, 17, 2, 4, 3, 5, 6, 54, 55, 56, 57, 58, 59, 60, 61, 62, 63, 64, 65, 66, 67, 68, 69] (by decide +kernel) (by decide +kernel)
set_option maxRecDepth 20000 in
theorem gX5_ball_X3_tightOf_n89 : GoodIn wsX5_ball (wsX3_tightOf) := ggX5_ball_X3_tightOf
set_option maxRecDepth 20000 in
theorem ggX5_ball_X3_dragOf : GoodIn wsX5_ball wsX3_dragOf := goodIn_r _ [28, 29, 30, 31, 32, 33, 18, 19, 3, 20, 21, 17, 2, 4, 5, 6, 34, 22, 23, 24, 25, 35, 13, 14, 15, 16, 54, 55, 56, 57, 58, 59, 60, 61, 62, 63, 64, 65, 66, 67, 68, 69] (by decide +kernel) (by decide +kernel)
set_option maxRecDepth 20000 in
theorem gX5_ball_X3_dragOf_n92 : GoodIn wsX5_ball (wsX3_dragOf) := ggX5_ball_X3_dragOf
set_option maxRecDepth 20000 in
theorem ggX5_ball_X3_fallOf : GoodIn wsX5_ball wsX3_fallOf := goodIn_r _ [38, 35, 13, 14, 3, 15, 16, 17, 2, 4, 5, 6, 54, 55, 56, 57, 58, 59, 60, 61, 62, 63, 64, 65, 66, 67, 68, 69] (by decide +kernel) (by decide +kernel)
set_option maxRecDepth 20000 in
theorem gX5_ball_X3_fallOf_n95 : GoodIn wsX5_ball (wsX3_fallOf) := ggX5_ball_X3_fallOf
set_option maxRecDepth 20000 in
theorem ggX5_ball_X3_fanOf : GoodIn wsX5_ball wsX3_fanOf := goodIn_r _ [41, 42, 35, 13, 14, 3, 15, 16, 17, 2, 4, 5, 6, 54, 55, 56, 57, 58, 59, 60, 61, 62, 63, 64, 65, 66, 67, 68, 69] (by decide +kernel) (by decide +kernel)
set_option maxRecDepth 20000 in
theorem gX5_ball_X3_fanOf_n98 : GoodIn wsX5_ball (wsX3_fanOf) := ggX5_ball_X3_fanOf
theorem dX5_ball_0 : decode cX5_ball 0 = .ok (.aload_n 0, 1) := by decide +kernel
theorem dX5_ball_1 : decode cX5_ball 1 = .ok (.getfield 10, 3) := by decide +kernel
theorem dX5_ball_4 : decode cX5_ball 4 = .ok (.iload_n 1, 1) := by decide +kernel
theorem dX5_ball_5 : decode cX5_ball 5 = .ok (.invokevirtual 79, 3) := by decide +kernel
theorem dX5_ball_8 : decode cX5_ball 8 = .ok (.ifCond .ne 9, 3) := by decide +kernel
theorem dX5_ball_11 : decode cX5_ball 11 = .ok (.aload_n 0, 1) := by decide +kernel
theorem dX5_ball_12 : decode cX5_ball 12 = .ok (.iconst (-1), 1) := by decide +kernel
theorem dX5_ball_13 : decode cX5_ball 13 = .ok (.invokevirtual 57, 3) := by decide +kernel
theorem dX5_ball_16 : decode cX5_ball 16 = .ok (.ireturn, 1) := by decide +kernel
theorem dX5_ball_17 : decode cX5_ball 17 = .ok (.iload_n 2, 1) := by decide +kernel
theorem dX5_ball_18 : decode cX5_ball 18 = .ok (.tableswitch 95 0 5 #[38, 47, 56, 65, 74, 83], 38) := by decide +kernel
theorem dX5_ball_56 : decode cX5_ball 56 = .ok (.aload_n 0, 1) := by decide +kernel
theorem dX5_ball_57 : decode cX5_ball 57 = .ok (.getfield 10, 3) := by decide +kernel
theorem dX5_ball_60 : decode cX5_ball 60 = .ok (.iload_n 1, 1) := by decide +kernel
theorem dX5_ball_61 : decode cX5_ball 61 = .ok (.invokevirtual 83, 3) := by decide +kernel
theorem dX5_ball_64 : decode cX5_ball 64 = .ok (.ireturn, 1) := by decide +kernel
theorem dX5_ball_65 : decode cX5_ball 65 = .ok (.aload_n 0, 1) := by decide +kernel
theorem dX5_ball_66 : decode cX5_ball 66 = .ok (.getfield 10, 3) := by decide +kernel
theorem dX5_ball_69 : decode cX5_ball 69 = .ok (.iload_n 1, 1) := by decide +kernel
theorem dX5_ball_70 : decode cX5_ball 70 = .ok (.invokevirtual 86, 3) := by decide +kernel
theorem dX5_ball_73 : decode cX5_ball 73 = .ok (.ireturn, 1) := by decide +kernel
theorem dX5_ball_74 : decode cX5_ball 74 = .ok (.aload_n 0, 1) := by decide +kernel
theorem dX5_ball_75 : decode cX5_ball 75 = .ok (.getfield 10, 3) := by decide +kernel
theorem dX5_ball_78 : decode cX5_ball 78 = .ok (.iload_n 1, 1) := by decide +kernel
theorem dX5_ball_79 : decode cX5_ball 79 = .ok (.invokevirtual 89, 3) := by decide +kernel
theorem dX5_ball_82 : decode cX5_ball 82 = .ok (.ireturn, 1) := by decide +kernel
theorem dX5_ball_83 : decode cX5_ball 83 = .ok (.aload_n 0, 1) := by decide +kernel
theorem dX5_ball_84 : decode cX5_ball 84 = .ok (.getfield 10, 3) := by decide +kernel
theorem dX5_ball_87 : decode cX5_ball 87 = .ok (.iload_n 1, 1) := by decide +kernel
theorem dX5_ball_88 : decode cX5_ball 88 = .ok (.invokevirtual 92, 3) := by decide +kernel
theorem dX5_ball_91 : decode cX5_ball 91 = .ok (.ireturn, 1) := by decide +kernel
theorem dX5_ball_92 : decode cX5_ball 92 = .ok (.aload_n 0, 1) := by decide +kernel
theorem dX5_ball_93 : decode cX5_ball 93 = .ok (.getfield 10, 3) := by decide +kernel
theorem dX5_ball_96 : decode cX5_ball 96 = .ok (.iload_n 1, 1) := by decide +kernel
theorem dX5_ball_97 : decode cX5_ball 97 = .ok (.invokevirtual 95, 3) := by decide +kernel
theorem dX5_ball_100 : decode cX5_ball 100 = .ok (.ireturn, 1) := by decide +kernel
theorem dX5_ball_101 : decode cX5_ball 101 = .ok (.bipush 10, 2) := by decide +kernel
theorem dX5_ball_103 : decode cX5_ball 103 = .ok (.aload_n 0, 1) := by decide +kernel
theorem dX5_ball_104 : decode cX5_ball 104 = .ok (.getfield 10, 3) := by decide +kernel
theorem dX5_ball_107 : decode cX5_ball 107 = .ok (.iload_n 1, 1) := by decide +kernel
theorem dX5_ball_108 : decode cX5_ball 108 = .ok (.invokevirtual 98, 3) := by decide +kernel
theorem dX5_ball_111 : decode cX5_ball 111 = .ok (.iadd, 1) := by decide +kernel
theorem dX5_ball_112 : decode cX5_ball 112 = .ok (.ireturn, 1) := by decide +kernel
theorem dX5_ball_113 : decode cX5_ball 113 = .ok (.aload_n 0, 1) := by decide +kernel
theorem dX5_ball_114 : decode cX5_ball 114 = .ok (.bipush (-2), 2) := by decide +kernel
theorem dX5_ball_116 : decode cX5_ball 116 = .ok (.invokevirtual 57, 3) := by decide +kernel
theorem dX5_ball_119 : decode cX5_ball 119 = .ok (.ireturn, 1) := by decide +kernel
set_option maxRecDepth 20000 in
theorem ggX5_crumple_X3_hasBall : GoodIn wsX5_crumple wsX3_hasBall := goodIn_r _ [5, 6, 32, 33, 34, 35, 36, 37, 38, 39, 40, 41, 42, 43, 44, 45, 46, 47] (by decide +kernel) (by decide +kernel)
set_option maxRecDepth 20000 in
theorem gX5_crumple_X3_hasBall_n79 : GoodIn wsX5_crumple (wsX3_hasBall) := ggX5_crumple_X3_hasBall
set_option maxRecDepth 20000 in
theorem ggX5_crumple_X5_refuse : GoodIn wsX5_crumple wsX5_refuse := goodIn_r _ [11, 12, 21, 22, 23, 24, 25, 26, 27, 28, 29, 30, 31] (by decide +kernel) (by decide +kernel)
set_option maxRecDepth 20000 in
theorem gX5_crumple_X5_refuse : GoodIn wsX5_crumple (wsV RX5 57 RX5 yX5_refuse wsX5_refuse) := goodIn_app (goodIn_of _ (by decide +kernel)) ggX5_crumple_X5_refuse
set_option maxRecDepth 20000 in
theorem ggX5_crumple_X3_tightOf : GoodIn wsX5_crumple wsX3_tightOf := goodIn_r _ [15, 16, 17, 2, 4, 3, 5, 6, 32, 33, 34, 35, 36, 37, 38, 39, 40, 41, 42, 43, 44, 45, 46, 47] (by decide +kernel) (by decide +kernel)
set_option maxRecDepth 20000 in
theorem gX5_crumple_X3_tightOf_n89 : GoodIn wsX5_crumple (wsX3_tightOf) := ggX5_crumple_X3_tightOf
set_option maxRecDepth 20000 in
theorem ggX5_crumple_X3_setTight : GoodIn wsX5_crumple wsX3_setTight := goodIn_r _ [20, 16, 17, 2, 4, 3, 5, 6, 32, 33, 34, 35, 36, 37, 38, 39, 40, 41, 42, 43, 44, 45, 46, 47] (by decide +kernel) (by decide +kernel)
set_option maxRecDepth 20000 in
theorem gX5_crumple_X3_setTight_n101 : GoodIn wsX5_crumple (wsX3_setTight) := ggX5_crumple_X3_setTight
theorem dX5_crumple_0 : decode cX5_crumple 0 = .ok (.aload_n 0, 1) := by decide +kernel
theorem dX5_crumple_1 : decode cX5_crumple 1 = .ok (.getfield 10, 3) := by decide +kernel
theorem dX5_crumple_4 : decode cX5_crumple 4 = .ok (.iload_n 1, 1) := by decide +kernel
theorem dX5_crumple_5 : decode cX5_crumple 5 = .ok (.invokevirtual 79, 3) := by decide +kernel
theorem dX5_crumple_8 : decode cX5_crumple 8 = .ok (.ifCond .ne 9, 3) := by decide +kernel
theorem dX5_crumple_11 : decode cX5_crumple 11 = .ok (.aload_n 0, 1) := by decide +kernel
theorem dX5_crumple_12 : decode cX5_crumple 12 = .ok (.iconst (-1), 1) := by decide +kernel
theorem dX5_crumple_13 : decode cX5_crumple 13 = .ok (.invokevirtual 57, 3) := by decide +kernel
theorem dX5_crumple_16 : decode cX5_crumple 16 = .ok (.ireturn, 1) := by decide +kernel
theorem dX5_crumple_17 : decode cX5_crumple 17 = .ok (.iload_n 2, 1) := by decide +kernel
theorem dX5_crumple_18 : decode cX5_crumple 18 = .ok (.ifCond .ge 10, 3) := by decide +kernel
theorem dX5_crumple_21 : decode cX5_crumple 21 = .ok (.aload_n 0, 1) := by decide +kernel
theorem dX5_crumple_22 : decode cX5_crumple 22 = .ok (.bipush (-4), 2) := by decide +kernel
theorem dX5_crumple_24 : decode cX5_crumple 24 = .ok (.invokevirtual 57, 3) := by decide +kernel
theorem dX5_crumple_27 : decode cX5_crumple 27 = .ok (.ireturn, 1) := by decide +kernel
theorem dX5_crumple_28 : decode cX5_crumple 28 = .ok (.iload_n 2, 1) := by decide +kernel
theorem dX5_crumple_29 : decode cX5_crumple 29 = .ok (.bipush 9, 2) := by decide +kernel
theorem dX5_crumple_31 : decode cX5_crumple 31 = .ok (.if_icmp .le 10, 3) := by decide +kernel
theorem dX5_crumple_34 : decode cX5_crumple 34 = .ok (.aload_n 0, 1) := by decide +kernel
theorem dX5_crumple_35 : decode cX5_crumple 35 = .ok (.bipush (-6), 2) := by decide +kernel
theorem dX5_crumple_37 : decode cX5_crumple 37 = .ok (.invokevirtual 57, 3) := by decide +kernel
theorem dX5_crumple_40 : decode cX5_crumple 40 = .ok (.ireturn, 1) := by decide +kernel
theorem dX5_crumple_41 : decode cX5_crumple 41 = .ok (.aload_n 0, 1) := by decide +kernel
theorem dX5_crumple_42 : decode cX5_crumple 42 = .ok (.getfield 10, 3) := by decide +kernel
theorem dX5_crumple_45 : decode cX5_crumple 45 = .ok (.iload_n 1, 1) := by decide +kernel
theorem dX5_crumple_46 : decode cX5_crumple 46 = .ok (.invokevirtual 89, 3) := by decide +kernel
theorem dX5_crumple_49 : decode cX5_crumple 49 = .ok (.istore_n 3, 1) := by decide +kernel
theorem dX5_crumple_50 : decode cX5_crumple 50 = .ok (.aload_n 0, 1) := by decide +kernel
theorem dX5_crumple_51 : decode cX5_crumple 51 = .ok (.getfield 10, 3) := by decide +kernel
theorem dX5_crumple_54 : decode cX5_crumple 54 = .ok (.iload_n 1, 1) := by decide +kernel
theorem dX5_crumple_55 : decode cX5_crumple 55 = .ok (.iload_n 2, 1) := by decide +kernel
theorem dX5_crumple_56 : decode cX5_crumple 56 = .ok (.invokevirtual 101, 3) := by decide +kernel
theorem dX5_crumple_59 : decode cX5_crumple 59 = .ok (.iload_n 3, 1) := by decide +kernel
theorem dX5_crumple_60 : decode cX5_crumple 60 = .ok (.ireturn, 1) := by decide +kernel
set_option maxRecDepth 20000 in
theorem ggX5_fly_X5_refusalOfThrow : GoodIn wsX5_fly wsX5_refusalOfThrow := goodIn_r _ [7, 2, 8, 9, 10, 11, 12, 13, 14, 15, 6, 16, 95, 96, 97, 98, 99, 100, 101, 102, 103, 104, 105, 114, 115, 116, 117, 118, 119, 120, 121, 122, 123, 124, 125, 126, 127, 128, 129] (by decide +kernel) (by decide +kernel)
set_option maxRecDepth 20000 in
theorem gX5_fly_X5_refusalOfThrow : GoodIn wsX5_fly (wsV RX5 105 RX5 yX5_refusalOfThrow wsX5_refusalOfThrow) := goodIn_app (goodIn_of _ (by decide +kernel)) ggX5_fly_X5_refusalOfThrow
set_option maxRecDepth 20000 in
theorem ggX5_fly_X5_refuse : GoodIn wsX5_fly wsX5_refuse := goodIn_r _ [20, 21, 95, 96, 97, 98, 99, 100, 101, 102, 103, 104, 105] (by decide +kernel) (by decide +kernel)
set_option maxRecDepth 20000 in
theorem gX5_fly_X5_refuse : GoodIn wsX5_fly (wsV RX5 57 RX5 yX5_refuse wsX5_refuse) := goodIn_app (goodIn_of _ (by decide +kernel)) ggX5_fly_X5_refuse
set_option maxRecDepth 20000 in
theorem ggX5_fly_X0_run : GoodIn wsX5_fly wsX0_run := goodIn_r _ [25, 26, 27, 28, 29, 30, 31, 32, 33, 34, 9, 35, 36, 37, 38, 39, 40, 41, 42, 43, 44, 45, 46, 8, 10, 11, 12, 47, 48, 49, 50, 51, 52, 53, 54, 55, 56, 57, 58, 59, 60, 61, 62, 63, 64, 65, 66, 23, 67, 68, 69, 70, 71, 72, 73, 74, 75, 76, 77, 78, 79, 80, 81, 82, 83, 84, 85, 86, 87, 88, 89, 90, 91, 92, 93, 94, 106, 107, 108, 109, 110, 111, 112, 113, 114, 115, 116, 117, 118, 119, 120, 121, 122, 123, 124, 125, 126, 127, 128, 129] (by decide +kernel) (by decide +kernel)
set_option maxRecDepth 20000 in
theorem gX5_fly_X0_run_n109 : GoodIn wsX5_fly (wsX0_run) := ggX5_fly_X0_run
theorem dX5_fly_0 : decode cX5_fly 0 = .ok (.aload_n 0, 1) := by decide +kernel
theorem dX5_fly_1 : decode cX5_fly 1 = .ok (.iload_n 1, 1) := by decide +kernel
theorem dX5_fly_2 : decode cX5_fly 2 = .ok (.iload_n 2, 1) := by decide +kernel
theorem dX5_fly_3 : decode cX5_fly 3 = .ok (.iload_n 3, 1) := by decide +kernel
theorem dX5_fly_4 : decode cX5_fly 4 = .ok (.invokevirtual 105, 3) := by decide +kernel
theorem dX5_fly_7 : decode cX5_fly 7 = .ok (.istore 5, 2) := by decide +kernel
theorem dX5_fly_9 : decode cX5_fly 9 = .ok (.iload 5, 2) := by decide +kernel
theorem dX5_fly_11 : decode cX5_fly 11 = .ok (.ifCond .eq 10, 3) := by decide +kernel
theorem dX5_fly_14 : decode cX5_fly 14 = .ok (.aload_n 0, 1) := by decide +kernel
theorem dX5_fly_15 : decode cX5_fly 15 = .ok (.iload 5, 2) := by decide +kernel
theorem dX5_fly_17 : decode cX5_fly 17 = .ok (.invokevirtual 57, 3) := by decide +kernel
theorem dX5_fly_20 : decode cX5_fly 20 = .ok (.ireturn, 1) := by decide +kernel
theorem dX5_fly_21 : decode cX5_fly 21 = .ok (.iload 4, 2) := by decide +kernel
theorem dX5_fly_23 : decode cX5_fly 23 = .ok (.ifCond .lt 9, 3) := by decide +kernel
theorem dX5_fly_26 : decode cX5_fly 26 = .ok (.iload 4, 2) := by decide +kernel
theorem dX5_fly_28 : decode cX5_fly 28 = .ok (.iconst 4, 1) := by decide +kernel
theorem dX5_fly_29 : decode cX5_fly 29 = .ok (.if_icmp .le 10, 3) := by decide +kernel
theorem dX5_fly_32 : decode cX5_fly 32 = .ok (.aload_n 0, 1) := by decide +kernel
theorem dX5_fly_33 : decode cX5_fly 33 = .ok (.bipush (-2), 2) := by decide +kernel
theorem dX5_fly_35 : decode cX5_fly 35 = .ok (.invokevirtual 57, 3) := by decide +kernel
theorem dX5_fly_38 : decode cX5_fly 38 = .ok (.ireturn, 1) := by decide +kernel
theorem dX5_fly_39 : decode cX5_fly 39 = .ok (.aload_n 0, 1) := by decide +kernel
theorem dX5_fly_40 : decode cX5_fly 40 = .ok (.getfield 32, 3) := by decide +kernel
theorem dX5_fly_43 : decode cX5_fly 43 = .ok (.aload_n 0, 1) := by decide +kernel
theorem dX5_fly_44 : decode cX5_fly 44 = .ok (.getfield 10, 3) := by decide +kernel
theorem dX5_fly_47 : decode cX5_fly 47 = .ok (.iload_n 1, 1) := by decide +kernel
theorem dX5_fly_48 : decode cX5_fly 48 = .ok (.iload_n 2, 1) := by decide +kernel
theorem dX5_fly_49 : decode cX5_fly 49 = .ok (.iload_n 3, 1) := by decide +kernel
theorem dX5_fly_50 : decode cX5_fly 50 = .ok (.invokevirtual 109, 3) := by decide +kernel
theorem dX5_fly_53 : decode cX5_fly 53 = .ok (.iload 4, 2) := by decide +kernel
theorem dX5_fly_55 : decode cX5_fly 55 = .ok (.tableswitch 61 0 3 #[29, 37, 45, 53], 29) := by decide +kernel
theorem dX5_fly_84 : decode cX5_fly 84 = .ok (.aload_n 0, 1) := by decide +kernel
theorem dX5_fly_85 : decode cX5_fly 85 = .ok (.getfield 32, 3) := by decide +kernel
theorem dX5_fly_88 : decode cX5_fly 88 = .ok (.getfield 113, 3) := by decide +kernel
theorem dX5_fly_91 : decode cX5_fly 91 = .ok (.ireturn, 1) := by decide +kernel
theorem dX5_fly_92 : decode cX5_fly 92 = .ok (.aload_n 0, 1) := by decide +kernel
theorem dX5_fly_93 : decode cX5_fly 93 = .ok (.getfield 32, 3) := by decide +kernel
theorem dX5_fly_96 : decode cX5_fly 96 = .ok (.getfield 117, 3) := by decide +kernel
theorem dX5_fly_99 : decode cX5_fly 99 = .ok (.ireturn, 1) := by decide +kernel
theorem dX5_fly_100 : decode cX5_fly 100 = .ok (.aload_n 0, 1) := by decide +kernel
theorem dX5_fly_101 : decode cX5_fly 101 = .ok (.getfield 32, 3) := by decide +kernel
theorem dX5_fly_104 : decode cX5_fly 104 = .ok (.getfield 120, 3) := by decide +kernel
theorem dX5_fly_107 : decode cX5_fly 107 = .ok (.ireturn, 1) := by decide +kernel
theorem dX5_fly_108 : decode cX5_fly 108 = .ok (.aload_n 0, 1) := by decide +kernel
theorem dX5_fly_109 : decode cX5_fly 109 = .ok (.getfield 32, 3) := by decide +kernel
theorem dX5_fly_112 : decode cX5_fly 112 = .ok (.getfield 123, 3) := by decide +kernel
theorem dX5_fly_115 : decode cX5_fly 115 = .ok (.ireturn, 1) := by decide +kernel
theorem dX5_fly_116 : decode cX5_fly 116 = .ok (.aload_n 0, 1) := by decide +kernel
theorem dX5_fly_117 : decode cX5_fly 117 = .ok (.getfield 32, 3) := by decide +kernel
theorem dX5_fly_120 : decode cX5_fly 120 = .ok (.getfield 126, 3) := by decide +kernel
theorem dX5_fly_123 : decode cX5_fly 123 = .ok (.ireturn, 1) := by decide +kernel
set_option maxRecDepth 20000 in
theorem ggX5_throwIt_X5_refusalOfThrow : GoodIn wsX5_throwIt wsX5_refusalOfThrow := goodIn_r _ [6, 1, 7, 8, 9, 10, 11, 12, 13, 14, 5, 15, 106, 107, 108, 109, 110, 111, 112, 113, 114, 115, 116, 117, 118, 119, 120, 121, 122, 123, 124, 125, 126, 127, 128, 129, 130, 131, 132] (by decide +kernel) (by decide +kernel)
set_option maxRecDepth 20000 in
theorem gX5_throwIt_X5_refusalOfThrow : GoodIn wsX5_throwIt (wsV RX5 105 RX5 yX5_refusalOfThrow wsX5_refusalOfThrow) := goodIn_app (goodIn_of _ (by decide +kernel)) ggX5_throwIt_X5_refusalOfThrow
set_option maxRecDepth 20000 in
theorem ggX5_throwIt_X5_refuse : GoodIn wsX5_throwIt wsX5_refuse := goodIn_r _ [19, 20, 106, 107, 108, 109, 110, 111, 112, 113, 114, 115, 116] (by decide +kernel) (by decide +kernel)
set_option maxRecDepth 20000 in
theorem gX5_throwIt_X5_refuse : GoodIn wsX5_throwIt (wsV RX5 57 RX5 yX5_refuse wsX5_refuse) := goodIn_app (goodIn_of _ (by decide +kernel)) ggX5_throwIt_X5_refuse
set_option maxRecDepth 20000 in
theorem ggX5_throwIt_X5_thrown : GoodIn wsX5_throwIt wsX5_thrown := goodIn_r _ [24, 25, 26, 27, 28, 29, 30, 31, 32, 33, 34, 35, 36, 37, 38, 8, 39, 40, 41, 42, 43, 44, 45, 46, 47, 48, 49, 50, 7, 9, 10, 11, 51, 52, 53, 54, 55, 56, 57, 58, 59, 60, 61, 62, 63, 64, 65, 66, 67, 68, 69, 70, 71, 72, 73, 74, 75, 76, 77, 78, 79, 80, 81, 82, 83, 84, 85, 86, 87, 88, 89, 90, 91, 92, 93, 94, 95, 96, 97, 98, 99, 100, 101, 102, 103, 104, 105, 106, 107, 108, 109, 110, 111, 112, 113, 114, 115, 116, 133, 134, 135, 136, 137, 138, 139, 140, 117, 118, 119, 120, 121, 122, 123, 124, 125, 126, 127, 128, 129, 130, 131, 132] (by decide +kernel) (by decide +kernel)
set_option maxRecDepth 20000 in
theorem gX5_throwIt_X5_thrown : GoodIn wsX5_throwIt (wsV RX5 132 RX5 yX5_thrown wsX5_thrown) := goodIn_app (goodIn_of _ (by decide +kernel)) ggX5_throwIt_X5_thrown
theorem dX5_throwIt_0 : decode cX5_throwIt 0 = .ok (.aload_n 0, 1) := by decide +kernel
theorem dX5_throwIt_1 : decode cX5_throwIt 1 = .ok (.iload_n 1, 1) := by decide +kernel
theorem dX5_throwIt_2 : decode cX5_throwIt 2 = .ok (.iload_n 2, 1) := by decide +kernel
theorem dX5_throwIt_3 : decode cX5_throwIt 3 = .ok (.iload_n 3, 1) := by decide +kernel
theorem dX5_throwIt_4 : decode cX5_throwIt 4 = .ok (.invokevirtual 105, 3) := by decide +kernel
theorem dX5_throwIt_7 : decode cX5_throwIt 7 = .ok (.istore 4, 2) := by decide +kernel
theorem dX5_throwIt_9 : decode cX5_throwIt 9 = .ok (.iload 4, 2) := by decide +kernel
theorem dX5_throwIt_11 : decode cX5_throwIt 11 = .ok (.ifCond .eq 10, 3) := by decide +kernel
theorem dX5_throwIt_14 : decode cX5_throwIt 14 = .ok (.aload_n 0, 1) := by decide +kernel
theorem dX5_throwIt_15 : decode cX5_throwIt 15 = .ok (.iload 4, 2) := by decide +kernel
theorem dX5_throwIt_17 : decode cX5_throwIt 17 = .ok (.invokevirtual 57, 3) := by decide +kernel
theorem dX5_throwIt_20 : decode cX5_throwIt 20 = .ok (.ireturn, 1) := by decide +kernel
theorem dX5_throwIt_21 : decode cX5_throwIt 21 = .ok (.aload_n 0, 1) := by decide +kernel
theorem dX5_throwIt_22 : decode cX5_throwIt 22 = .ok (.getfield 10, 3) := by decide +kernel
theorem dX5_throwIt_25 : decode cX5_throwIt 25 = .ok (.getfield 129, 3) := by decide +kernel
theorem dX5_throwIt_28 : decode cX5_throwIt 28 = .ok (.sipush 9999, 3) := by decide +kernel
theorem dX5_throwIt_31 : decode cX5_throwIt 31 = .ok (.if_icmp .lt 10, 3) := by decide +kernel
theorem dX5_throwIt_34 : decode cX5_throwIt 34 = .ok (.aload_n 0, 1) := by decide +kernel
theorem dX5_throwIt_35 : decode cX5_throwIt 35 = .ok (.bipush (-6), 2) := by decide +kernel
theorem dX5_throwIt_37 : decode cX5_throwIt 37 = .ok (.invokevirtual 57, 3) := by decide +kernel
theorem dX5_throwIt_40 : decode cX5_throwIt 40 = .ok (.ireturn, 1) := by decide +kernel
theorem dX5_throwIt_41 : decode cX5_throwIt 41 = .ok (.aload_n 0, 1) := by decide +kernel
theorem dX5_throwIt_42 : decode cX5_throwIt 42 = .ok (.aload_n 0, 1) := by decide +kernel
theorem dX5_throwIt_43 : decode cX5_throwIt 43 = .ok (.getfield 10, 3) := by decide +kernel
theorem dX5_throwIt_46 : decode cX5_throwIt 46 = .ok (.iload_n 1, 1) := by decide +kernel
theorem dX5_throwIt_47 : decode cX5_throwIt 47 = .ok (.iload_n 2, 1) := by decide +kernel
theorem dX5_throwIt_48 : decode cX5_throwIt 48 = .ok (.iload_n 3, 1) := by decide +kernel
theorem dX5_throwIt_49 : decode cX5_throwIt 49 = .ok (.invokevirtual 132, 3) := by decide +kernel
theorem dX5_throwIt_52 : decode cX5_throwIt 52 = .ok (.ireturn, 1) := by decide +kernel
set_option maxRecDepth 20000 in
theorem ggX5_pass_X5_refuse : GoodIn wsX5_pass wsX5_refuse := goodIn_r _ [6, 7, 8, 9, 10, 11, 12, 13, 14, 15, 16, 17, 18] (by decide +kernel) (by decide +kernel)
set_option maxRecDepth 20000 in
theorem gX5_pass_X5_refuse : GoodIn wsX5_pass (wsV RX5 57 RX5 yX5_refuse wsX5_refuse) := goodIn_app (goodIn_of _ (by decide +kernel)) ggX5_pass_X5_refuse
theorem dX5_pass_0 : decode cX5_pass 0 = .ok (.iload_n 1, 1) := by decide +kernel
theorem dX5_pass_1 : decode cX5_pass 1 = .ok (.iconst 1, 1) := by decide +kernel
theorem dX5_pass_2 : decode cX5_pass 2 = .ok (.if_icmp .ge 10, 3) := by decide +kernel
theorem dX5_pass_5 : decode cX5_pass 5 = .ok (.aload_n 0, 1) := by decide +kernel
theorem dX5_pass_6 : decode cX5_pass 6 = .ok (.bipush (-4), 2) := by decide +kernel
theorem dX5_pass_8 : decode cX5_pass 8 = .ok (.invokevirtual 57, 3) := by decide +kernel
theorem dX5_pass_11 : decode cX5_pass 11 = .ok (.ireturn, 1) := by decide +kernel
theorem dX5_pass_12 : decode cX5_pass 12 = .ok (.iload_n 1, 1) := by decide +kernel
theorem dX5_pass_13 : decode cX5_pass 13 = .ok (.bipush 99, 2) := by decide +kernel
theorem dX5_pass_15 : decode cX5_pass 15 = .ok (.if_icmp .gt 18, 3) := by decide +kernel
theorem dX5_pass_18 : decode cX5_pass 18 = .ok (.aload_n 0, 1) := by decide +kernel
theorem dX5_pass_19 : decode cX5_pass 19 = .ok (.getfield 10, 3) := by decide +kernel
theorem dX5_pass_22 : decode cX5_pass 22 = .ok (.getfield 129, 3) := by decide +kernel
theorem dX5_pass_25 : decode cX5_pass 25 = .ok (.iload_n 1, 1) := by decide +kernel
theorem dX5_pass_26 : decode cX5_pass 26 = .ok (.iadd, 1) := by decide +kernel
theorem dX5_pass_27 : decode cX5_pass 27 = .ok (.sipush 9999, 3) := by decide +kernel
theorem dX5_pass_30 : decode cX5_pass 30 = .ok (.if_icmp .le 10, 3) := by decide +kernel
theorem dX5_pass_33 : decode cX5_pass 33 = .ok (.aload_n 0, 1) := by decide +kernel
theorem dX5_pass_34 : decode cX5_pass 34 = .ok (.bipush (-6), 2) := by decide +kernel
theorem dX5_pass_36 : decode cX5_pass 36 = .ok (.invokevirtual 57, 3) := by decide +kernel
theorem dX5_pass_39 : decode cX5_pass 39 = .ok (.ireturn, 1) := by decide +kernel
theorem dX5_pass_40 : decode cX5_pass 40 = .ok (.aload_n 0, 1) := by decide +kernel
theorem dX5_pass_41 : decode cX5_pass 41 = .ok (.getfield 10, 3) := by decide +kernel
theorem dX5_pass_44 : decode cX5_pass 44 = .ok (.dup, 1) := by decide +kernel
theorem dX5_pass_45 : decode cX5_pass 45 = .ok (.getfield 129, 3) := by decide +kernel
theorem dX5_pass_48 : decode cX5_pass 48 = .ok (.iload_n 1, 1) := by decide +kernel
theorem dX5_pass_49 : decode cX5_pass 49 = .ok (.iadd, 1) := by decide +kernel
theorem dX5_pass_50 : decode cX5_pass 50 = .ok (.putfield 129, 3) := by decide +kernel
theorem dX5_pass_53 : decode cX5_pass 53 = .ok (.aload_n 0, 1) := by decide +kernel
theorem dX5_pass_54 : decode cX5_pass 54 = .ok (.getfield 10, 3) := by decide +kernel
theorem dX5_pass_57 : decode cX5_pass 57 = .ok (.getfield 129, 3) := by decide +kernel
theorem dX5_pass_60 : decode cX5_pass 60 = .ok (.ireturn, 1) := by decide +kernel
theorem dX5_clearBin_0 : decode cX5_clearBin 0 = .ok (.aload_n 0, 1) := by decide +kernel
theorem dX5_clearBin_1 : decode cX5_clearBin 1 = .ok (.getfield 10, 3) := by decide +kernel
theorem dX5_clearBin_4 : decode cX5_clearBin 4 = .ok (.getfield 136, 3) := by decide +kernel
theorem dX5_clearBin_7 : decode cX5_clearBin 7 = .ok (.istore_n 1, 1) := by decide +kernel
theorem dX5_clearBin_8 : decode cX5_clearBin 8 = .ok (.aload_n 0, 1) := by decide +kernel
theorem dX5_clearBin_9 : decode cX5_clearBin 9 = .ok (.getfield 10, 3) := by decide +kernel
theorem dX5_clearBin_12 : decode cX5_clearBin 12 = .ok (.iconst 0, 1) := by decide +kernel
theorem dX5_clearBin_13 : decode cX5_clearBin 13 = .ok (.putfield 136, 3) := by decide +kernel
theorem dX5_clearBin_16 : decode cX5_clearBin 16 = .ok (.iload_n 1, 1) := by decide +kernel
theorem dX5_clearBin_17 : decode cX5_clearBin 17 = .ok (.ireturn, 1) := by decide +kernel
set_option maxRecDepth 20000 in
theorem ggX5_good_X5_refusalOfThrow : GoodIn wsX5_good wsX5_refusalOfThrow := goodIn_r _ [5, 6, 7, 8, 9, 10, 11, 12, 13, 14, 4, 15, 103, 104, 105, 106, 107, 108, 109, 110, 111, 112, 113, 114, 115, 116, 117, 118, 119, 120, 121, 122, 123, 124, 125, 126, 127, 128, 129] (by decide +kernel) (by decide +kernel)
set_option maxRecDepth 20000 in
theorem gX5_good_X5_refusalOfThrow : GoodIn wsX5_good (wsV RX5 105 RX5 yX5_refusalOfThrow wsX5_refusalOfThrow) := goodIn_app (goodIn_of _ (by decide +kernel)) ggX5_good_X5_refusalOfThrow
set_option maxRecDepth 20000 in
theorem ggX5_good_X5_refuse : GoodIn wsX5_good wsX5_refuse := goodIn_r _ [19, 20, 103, 104, 105, 106, 107, 108, 109, 110, 111, 112, 113] (by decide +kernel) (by decide +kernel)
set_option maxRecDepth 20000 in
theorem gX5_good_X5_refuse : GoodIn wsX5_good (wsV RX5 57 RX5 yX5_refuse wsX5_refuse) := goodIn_app (goodIn_of _ (by decide +kernel)) ggX5_good_X5_refuse
set_option maxRecDepth 20000 in
theorem ggX5_good_X5_goodWithSlips : GoodIn wsX5_good wsX5_goodWithSlips := goodIn_r _ [24, 6, 25, 26, 27, 4, 28, 29, 30, 31, 32, 33, 34, 35, 36, 37, 38, 39, 40, 41, 42, 8, 43, 44, 45, 46, 47, 48, 49, 50, 51, 52, 53, 54, 7, 9, 10, 11, 55, 56, 57, 58, 59, 60, 61, 62, 63, 64, 65, 66, 67, 68, 69, 70, 71, 72, 73, 74, 75, 76, 77, 78, 79, 80, 81, 82, 83, 84, 85, 86, 87, 88, 89, 90, 91, 92, 93, 94, 95, 96, 97, 98, 99, 100, 101, 102, 103, 104, 105, 106, 107, 108, 109, 110, 111, 112, 113, 130, 131, 132, 133, 134, 135, 136, 137, 114, 115, 116, 117, 118, 119, 120, 121, 122, 123, 124, 125, 126, 127, 128, 129] (by decide +kernel) (by decide +kernel)
set_option maxRecDepth 20000 in
theorem gX5_good_X5_goodWithSlips : GoodIn wsX5_good (wsV RX5 139 RX5 yX5_goodWithSlips wsX5_goodWithSlips) := goodIn_app (goodIn_of _ (by decide +kernel)) ggX5_good_X5_goodWithSlips
theorem dX5_good_0 : decode cX5_good 0 = .ok (.aload_n 0, 1) := by decide +kernel
theorem dX5_good_1 : decode cX5_good 1 = .ok (.iload_n 1, 1) := by decide +kernel
theorem dX5_good_2 : decode cX5_good 2 = .ok (.iload_n 2, 1) := by decide +kernel
theorem dX5_good_3 : decode cX5_good 3 = .ok (.iload_n 3, 1) := by decide +kernel
theorem dX5_good_4 : decode cX5_good 4 = .ok (.invokevirtual 105, 3) := by decide +kernel
theorem dX5_good_7 : decode cX5_good 7 = .ok (.istore 4, 2) := by decide +kernel
theorem dX5_good_9 : decode cX5_good 9 = .ok (.iload 4, 2) := by decide +kernel
theorem dX5_good_11 : decode cX5_good 11 = .ok (.ifCond .eq 12, 3) := by decide +kernel
theorem dX5_good_14 : decode cX5_good 14 = .ok (.aload_n 0, 1) := by decide +kernel
theorem dX5_good_15 : decode cX5_good 15 = .ok (.iload 4, 2) := by decide +kernel
theorem dX5_good_17 : decode cX5_good 17 = .ok (.invokevirtual 57, 3) := by decide +kernel
theorem dX5_good_20 : decode cX5_good 20 = .ok (.goto 10, 3) := by decide +kernel
theorem dX5_good_23 : decode cX5_good 23 = .ok (.aload_n 0, 1) := by decide +kernel
theorem dX5_good_24 : decode cX5_good 24 = .ok (.iload_n 1, 1) := by decide +kernel
theorem dX5_good_25 : decode cX5_good 25 = .ok (.iload_n 2, 1) := by decide +kernel
theorem dX5_good_26 : decode cX5_good 26 = .ok (.iload_n 3, 1) := by decide +kernel
theorem dX5_good_27 : decode cX5_good 27 = .ok (.invokevirtual 139, 3) := by decide +kernel
theorem dX5_good_30 : decode cX5_good 30 = .ok (.ireturn, 1) := by decide +kernel
set_option maxRecDepth 20000 in
theorem ggX5_best_X5_refusalOfBallAndPart : GoodIn wsX5_best wsX5_refusalOfBallAndPart := goodIn_r _ [5, 6, 7, 8, 9, 10, 11, 99, 100, 101, 102, 103, 104, 105, 106, 107, 108, 109, 110, 111, 112, 113, 114, 115, 116, 117, 118, 119, 120, 121, 122, 123, 124, 125] (by decide +kernel) (by decide +kernel)
set_option maxRecDepth 20000 in
theorem gX5_best_X5_refusalOfBallAndPart : GoodIn wsX5_best (wsV RX5 142 RX5 yX5_refusalOfBallAndPart wsX5_refusalOfBallAndPart) := goodIn_app (goodIn_of _ (by decide +kernel)) ggX5_best_X5_refusalOfBallAndPart
set_option maxRecDepth 20000 in
theorem ggX5_best_X5_refuse : GoodIn wsX5_best wsX5_refuse := goodIn_r _ [15, 16, 99, 100, 101, 102, 103, 104, 105, 106, 107, 108, 109] (by decide +kernel) (by decide +kernel)
set_option maxRecDepth 20000 in
theorem gX5_best_X5_refuse : GoodIn wsX5_best (wsV RX5 57 RX5 yX5_refuse wsX5_refuse) := goodIn_app (goodIn_of _ (by decide +kernel)) ggX5_best_X5_refuse
set_option maxRecDepth 20000 in
theorem ggX5_best_X5_goodWithSlips : GoodIn wsX5_best wsX5_goodWithSlips := goodIn_r _ [20, 6, 21, 22, 23, 4, 24, 25, 26, 27, 28, 29, 30, 31, 32, 33, 34, 35, 36, 37, 38, 8, 39, 40, 41, 42, 43, 44, 45, 46, 47, 48, 49, 50, 7, 9, 10, 11, 51, 52, 53, 54, 55, 56, 57, 58, 59, 60, 61, 62, 63, 64, 65, 66, 67, 68, 69, 70, 71, 72, 73, 74, 75, 76, 77, 78, 79, 80, 81, 82, 83, 84, 85, 86, 87, 88, 89, 90, 91, 92, 93, 94, 95, 96, 97, 98, 99, 100, 101, 102, 103, 104, 105, 106, 107, 108, 109, 126, 127, 128, 129, 130, 131, 132, 133, 110, 111, 112, 113, 114, 115, 116, 117, 118, 119, 120, 121, 122, 123, 124, 125] (by decide +kernel) (by decide +kernel)
set_option maxRecDepth 20000 in
theorem gX5_best_X5_goodWithSlips : GoodIn wsX5_best (wsV RX5 139 RX5 yX5_goodWithSlips wsX5_goodWithSlips) := goodIn_app (goodIn_of _ (by decide +kernel)) ggX5_best_X5_goodWithSlips
theorem dX5_best_0 : decode cX5_best 0 = .ok (.aload_n 0, 1) := by decide +kernel
theorem dX5_best_1 : decode cX5_best 1 = .ok (.iload_n 1, 1) := by decide +kernel
theorem dX5_best_2 : decode cX5_best 2 = .ok (.iload_n 2, 1) := by decide +kernel
theorem dX5_best_3 : decode cX5_best 3 = .ok (.invokevirtual 142, 3) := by decide +kernel
theorem dX5_best_6 : decode cX5_best 6 = .ok (.istore_n 3, 1) := by decide +kernel
theorem dX5_best_7 : decode cX5_best 7 = .ok (.iload_n 3, 1) := by decide +kernel
theorem dX5_best_8 : decode cX5_best 8 = .ok (.ifCond .eq 9, 3) := by decide +kernel
theorem dX5_best_11 : decode cX5_best 11 = .ok (.aload_n 0, 1) := by decide +kernel
theorem dX5_best_12 : decode cX5_best 12 = .ok (.iload_n 3, 1) := by decide +kernel
theorem dX5_best_13 : decode cX5_best 13 = .ok (.invokevirtual 57, 3) := by decide +kernel
theorem dX5_best_16 : decode cX5_best 16 = .ok (.ireturn, 1) := by decide +kernel
theorem dX5_best_17 : decode cX5_best 17 = .ok (.iconst (-1), 1) := by decide +kernel
theorem dX5_best_18 : decode cX5_best 18 = .ok (.istore 4, 2) := by decide +kernel
theorem dX5_best_20 : decode cX5_best 20 = .ok (.iconst 0, 1) := by decide +kernel
theorem dX5_best_21 : decode cX5_best 21 = .ok (.istore 5, 2) := by decide +kernel
theorem dX5_best_23 : decode cX5_best 23 = .ok (.iconst 1, 1) := by decide +kernel
theorem dX5_best_24 : decode cX5_best 24 = .ok (.istore 6, 2) := by decide +kernel
theorem dX5_best_26 : decode cX5_best 26 = .ok (.iload 6, 2) := by decide +kernel
theorem dX5_best_28 : decode cX5_best 28 = .ok (.bipush 9, 2) := by decide +kernel
theorem dX5_best_30 : decode cX5_best 30 = .ok (.if_icmp .gt 61, 3) := by decide +kernel
theorem dX5_best_33 : decode cX5_best 33 = .ok (.bipush (-5), 2) := by decide +kernel
theorem dX5_best_35 : decode cX5_best 35 = .ok (.istore 7, 2) := by decide +kernel
theorem dX5_best_37 : decode cX5_best 37 = .ok (.iload 7, 2) := by decide +kernel
theorem dX5_best_39 : decode cX5_best 39 = .ok (.bipush 15, 2) := by decide +kernel
theorem dX5_best_41 : decode cX5_best 41 = .ok (.if_icmp .gt 44, 3) := by decide +kernel
theorem dX5_best_44 : decode cX5_best 44 = .ok (.aload_n 0, 1) := by decide +kernel
theorem dX5_best_45 : decode cX5_best 45 = .ok (.iload_n 1, 1) := by decide +kernel
theorem dX5_best_46 : decode cX5_best 46 = .ok (.iload 6, 2) := by decide +kernel
theorem dX5_best_48 : decode cX5_best 48 = .ok (.iload 7, 2) := by decide +kernel
theorem dX5_best_50 : decode cX5_best 50 = .ok (.invokevirtual 139, 3) := by decide +kernel
theorem dX5_best_53 : decode cX5_best 53 = .ok (.istore 8, 2) := by decide +kernel
theorem dX5_best_55 : decode cX5_best 55 = .ok (.iload 8, 2) := by decide +kernel
theorem dX5_best_57 : decode cX5_best 57 = .ok (.iload 4, 2) := by decide +kernel
theorem dX5_best_59 : decode cX5_best 59 = .ok (.if_icmp .le 20, 3) := by decide +kernel
theorem dX5_best_62 : decode cX5_best 62 = .ok (.iload 8, 2) := by decide +kernel
theorem dX5_best_64 : decode cX5_best 64 = .ok (.istore 4, 2) := by decide +kernel
theorem dX5_best_66 : decode cX5_best 66 = .ok (.bipush 100, 2) := by decide +kernel
theorem dX5_best_68 : decode cX5_best 68 = .ok (.iload 6, 2) := by decide +kernel
theorem dX5_best_70 : decode cX5_best 70 = .ok (.imul, 1) := by decide +kernel
theorem dX5_best_71 : decode cX5_best 71 = .ok (.iload 7, 2) := by decide +kernel
theorem dX5_best_73 : decode cX5_best 73 = .ok (.iadd, 1) := by decide +kernel
theorem dX5_best_74 : decode cX5_best 74 = .ok (.bipush (-5), 2) := by decide +kernel
theorem dX5_best_76 : decode cX5_best 76 = .ok (.isub, 1) := by decide +kernel
theorem dX5_best_77 : decode cX5_best 77 = .ok (.istore 5, 2) := by decide +kernel
theorem dX5_best_79 : decode cX5_best 79 = .ok (.iinc 7 1, 3) := by decide +kernel
theorem dX5_best_82 : decode cX5_best 82 = .ok (.goto (-45), 3) := by decide +kernel
theorem dX5_best_85 : decode cX5_best 85 = .ok (.iinc 6 1, 3) := by decide +kernel
theorem dX5_best_88 : decode cX5_best 88 = .ok (.goto (-62), 3) := by decide +kernel
theorem dX5_best_91 : decode cX5_best 91 = .ok (.iload_n 2, 1) := by decide +kernel
theorem dX5_best_92 : decode cX5_best 92 = .ok (.ifCond .ne 8, 3) := by decide +kernel
theorem dX5_best_95 : decode cX5_best 95 = .ok (.iload 5, 2) := by decide +kernel
theorem dX5_best_97 : decode cX5_best 97 = .ok (.goto 5, 3) := by decide +kernel
theorem dX5_best_100 : decode cX5_best 100 = .ok (.iload 4, 2) := by decide +kernel
theorem dX5_best_102 : decode cX5_best 102 = .ok (.ireturn, 1) := by decide +kernel
set_option maxRecDepth 20000 in
theorem ggX5_off_X5_refusalOfBallAndPart : GoodIn wsX5_off wsX5_refusalOfBallAndPart := goodIn_r _ [6, 1, 7, 8, 9, 10, 11, 99, 100, 101, 102, 103, 104, 105, 106, 107, 108, 109, 110, 111, 112, 113, 114, 115, 116, 117, 118, 119, 120, 121, 122, 123, 124, 125] (by decide +kernel) (by decide +kernel)
set_option maxRecDepth 20000 in
theorem gX5_off_X5_refusalOfBallAndPart : GoodIn wsX5_off (wsV RX5 142 RX5 yX5_refusalOfBallAndPart wsX5_refusalOfBallAndPart) := goodIn_app (goodIn_of _ (by decide +kernel)) ggX5_off_X5_refusalOfBallAndPart
set_option maxRecDepth 20000 in
theorem ggX5_off_X5_refuse : GoodIn wsX5_off wsX5_refuse := goodIn_r _ [15, 16, 99, 100, 101, 102, 103, 104, 105, 106, 107, 108, 109] (by decide +kernel) (by decide +kernel)
set_option maxRecDepth 20000 in
theorem gX5_off_X5_refuse : GoodIn wsX5_off (wsV RX5 57 RX5 yX5_refuse wsX5_refuse) := goodIn_app (goodIn_of _ (by decide +kernel)) ggX5_off_X5_refuse
set_option maxRecDepth 20000 in
theorem ggX5_off_X5_endsIn : GoodIn wsX5_off wsX5_endsIn := goodIn_r _ [20, 21, 22, 23, 24, 25, 26, 27, 28, 29, 30, 31, 32, 33, 34, 8, 35, 36, 37, 38, 39, 40, 41, 42, 43, 44, 45, 46, 7, 9, 10, 11, 47, 48, 49, 50, 51, 52, 53, 54, 55, 56, 57, 58, 59, 60, 61, 62, 63, 64, 65, 66, 67, 68, 69, 70, 71, 72, 73, 74, 75, 76, 77, 78, 79, 80, 81, 82, 83, 84, 85, 86, 87, 88, 89, 90, 91, 92, 93, 94, 99, 100, 101, 102, 103, 104, 105, 106, 107, 108, 109, 126, 127, 128, 129, 130, 131, 132, 133, 110, 111, 112, 113, 114, 115, 116, 117, 118, 119, 120, 121, 122, 123, 124, 125] (by decide +kernel) (by decide +kernel)
set_option maxRecDepth 20000 in
theorem gX5_off_X5_endsIn : GoodIn wsX5_off (wsV RX5 146 RX5 yX5_endsIn wsX5_endsIn) := goodIn_app (goodIn_of _ (by decide +kernel)) ggX5_off_X5_endsIn
set_option maxRecDepth 20000 in
theorem ggX5_off_X5_struckAsAsked : GoodIn wsX5_off wsX5_struckAsAsked := goodIn_r _ [98, 21, 99, 100, 101, 102, 103, 104, 105, 106, 107, 108, 109, 126, 127, 128, 129, 130, 131, 132, 133] (by decide +kernel) (by decide +kernel)
set_option maxRecDepth 20000 in
theorem gX5_off_X5_struckAsAsked : GoodIn wsX5_off (wsV RX5 150 RX5 yX5_struckAsAsked wsX5_struckAsAsked) := goodIn_app (goodIn_of _ (by decide +kernel)) ggX5_off_X5_struckAsAsked
theorem dX5_off_0 : decode cX5_off 0 = .ok (.aload_n 0, 1) := by decide +kernel
theorem dX5_off_1 : decode cX5_off 1 = .ok (.iload_n 1, 1) := by decide +kernel
theorem dX5_off_2 : decode cX5_off 2 = .ok (.iload_n 2, 1) := by decide +kernel
theorem dX5_off_3 : decode cX5_off 3 = .ok (.invokevirtual 142, 3) := by decide +kernel
theorem dX5_off_6 : decode cX5_off 6 = .ok (.istore_n 3, 1) := by decide +kernel
theorem dX5_off_7 : decode cX5_off 7 = .ok (.iload_n 3, 1) := by decide +kernel
theorem dX5_off_8 : decode cX5_off 8 = .ok (.ifCond .eq 9, 3) := by decide +kernel
theorem dX5_off_11 : decode cX5_off 11 = .ok (.aload_n 0, 1) := by decide +kernel
theorem dX5_off_12 : decode cX5_off 12 = .ok (.iload_n 3, 1) := by decide +kernel
theorem dX5_off_13 : decode cX5_off 13 = .ok (.invokevirtual 57, 3) := by decide +kernel
theorem dX5_off_16 : decode cX5_off 16 = .ok (.ireturn, 1) := by decide +kernel
theorem dX5_off_17 : decode cX5_off 17 = .ok (.iconst 0, 1) := by decide +kernel
theorem dX5_off_18 : decode cX5_off 18 = .ok (.istore 4, 2) := by decide +kernel
theorem dX5_off_20 : decode cX5_off 20 = .ok (.iconst 1, 1) := by decide +kernel
theorem dX5_off_21 : decode cX5_off 21 = .ok (.istore 5, 2) := by decide +kernel
theorem dX5_off_23 : decode cX5_off 23 = .ok (.iload 5, 2) := by decide +kernel
theorem dX5_off_25 : decode cX5_off 25 = .ok (.bipush 9, 2) := by decide +kernel
theorem dX5_off_27 : decode cX5_off 27 = .ok (.if_icmp .gt 53, 3) := by decide +kernel
theorem dX5_off_30 : decode cX5_off 30 = .ok (.bipush (-5), 2) := by decide +kernel
theorem dX5_off_32 : decode cX5_off 32 = .ok (.istore 6, 2) := by decide +kernel
theorem dX5_off_34 : decode cX5_off 34 = .ok (.iload 6, 2) := by decide +kernel
theorem dX5_off_36 : decode cX5_off 36 = .ok (.bipush 15, 2) := by decide +kernel
theorem dX5_off_38 : decode cX5_off 38 = .ok (.if_icmp .gt 36, 3) := by decide +kernel
theorem dX5_off_41 : decode cX5_off 41 = .ok (.aload_n 0, 1) := by decide +kernel
theorem dX5_off_42 : decode cX5_off 42 = .ok (.aload_n 0, 1) := by decide +kernel
theorem dX5_off_43 : decode cX5_off 43 = .ok (.getfield 10, 3) := by decide +kernel
theorem dX5_off_46 : decode cX5_off 46 = .ok (.iload_n 1, 1) := by decide +kernel
theorem dX5_off_47 : decode cX5_off 47 = .ok (.iload 5, 2) := by decide +kernel
theorem dX5_off_49 : decode cX5_off 49 = .ok (.iload 6, 2) := by decide +kernel
theorem dX5_off_51 : decode cX5_off 51 = .ok (.invokevirtual 146, 3) := by decide +kernel
theorem dX5_off_54 : decode cX5_off 54 = .ok (.ifCond .eq 14, 3) := by decide +kernel
theorem dX5_off_57 : decode cX5_off 57 = .ok (.aload_n 0, 1) := by decide +kernel
theorem dX5_off_58 : decode cX5_off 58 = .ok (.iload_n 2, 1) := by decide +kernel
theorem dX5_off_59 : decode cX5_off 59 = .ok (.invokevirtual 150, 3) := by decide +kernel
theorem dX5_off_62 : decode cX5_off 62 = .ok (.ifCond .eq 6, 3) := by decide +kernel
theorem dX5_off_65 : decode cX5_off 65 = .ok (.iinc 4 1, 3) := by decide +kernel
theorem dX5_off_68 : decode cX5_off 68 = .ok (.iinc 6 1, 3) := by decide +kernel
theorem dX5_off_71 : decode cX5_off 71 = .ok (.goto (-37), 3) := by decide +kernel
theorem dX5_off_74 : decode cX5_off 74 = .ok (.iinc 5 1, 3) := by decide +kernel
theorem dX5_off_77 : decode cX5_off 77 = .ok (.goto (-54), 3) := by decide +kernel
theorem dX5_off_80 : decode cX5_off 80 = .ok (.iload 4, 2) := by decide +kernel
theorem dX5_off_82 : decode cX5_off 82 = .ok (.ireturn, 1) := by decide +kernel
set_option maxRecDepth 20000 in
theorem ggX5_when_X5_refusalOfThrow : GoodIn wsX5_when wsX5_refusalOfThrow := goodIn_r _ [7, 2, 8, 9, 10, 11, 12, 13, 14, 15, 6, 16, 111, 112, 113, 114, 115, 116, 117, 118, 119, 120, 121, 122, 123, 124, 125, 126, 127, 128, 129, 130, 131, 132, 133, 134, 135, 136, 137] (by decide +kernel) (by decide +kernel)
set_option maxRecDepth 20000 in
theorem gX5_when_X5_refusalOfThrow : GoodIn wsX5_when (wsV RX5 105 RX5 yX5_refusalOfThrow wsX5_refusalOfThrow) := goodIn_app (goodIn_of _ (by decide +kernel)) ggX5_when_X5_refusalOfThrow
set_option maxRecDepth 20000 in
theorem ggX5_when_X5_refuse : GoodIn wsX5_when wsX5_refuse := goodIn_r _ [20, 21, 111, 112, 113, 114, 115, 116, 117, 118, 119, 120, 121] (by decide +kernel) (by decide +kernel)
set_option maxRecDepth 20000 in
theorem gX5_when_X5_refuse : GoodIn wsX5_when (wsV RX5 57 RX5 yX5_refuse wsX5_refuse) := goodIn_app (goodIn_of _ (by decide +kernel)) ggX5_when_X5_refuse
set_option maxRecDepth 20000 in
theorem ggX5_when_X3_become : GoodIn wsX5_when wsX3_become := goodIn_r _ [24, 25, 26, 27, 28, 29, 30, 31, 32, 33, 34, 35, 36, 12, 37, 38, 39, 122, 123, 124, 125, 126, 127, 128, 129, 130, 131, 132, 133, 134, 135, 136, 137] (by decide +kernel) (by decide +kernel)
set_option maxRecDepth 20000 in
theorem gX5_when_X3_become_n68 : GoodIn wsX5_when (wsX3_become) := ggX5_when_X3_become
set_option maxRecDepth 20000 in
theorem ggX5_when_X5_endsIn : GoodIn wsX5_when wsX5_endsIn := goodIn_r _ [43, 44, 45, 46, 47, 48, 49, 50, 51, 52, 53, 54, 55, 56, 57, 9, 58, 59, 60, 61, 62, 63, 64, 65, 66, 67, 38, 68, 8, 10, 11, 12, 69, 70, 71, 72, 39, 73, 74, 75, 76, 37, 77, 78, 79, 80, 81, 82, 32, 83, 84, 85, 86, 87, 88, 89, 90, 91, 92, 93, 94, 95, 96, 97, 98, 26, 27, 99, 100, 101, 102, 103, 104, 105, 106, 107, 108, 109, 110, 33, 111, 112, 113, 114, 115, 116, 117, 118, 119, 120, 121, 138, 139, 140, 141, 142, 143, 144, 145, 122, 123, 124, 125, 126, 127, 128, 129, 130, 131, 132, 133, 134, 135, 136, 137] (by decide +kernel) (by decide +kernel)
set_option maxRecDepth 20000 in
theorem gX5_when_X5_endsIn : GoodIn wsX5_when (wsV RX5 146 RX5 yX5_endsIn wsX5_endsIn) := goodIn_app (goodIn_of _ (by decide +kernel)) ggX5_when_X5_endsIn
theorem dX5_when_0 : decode cX5_when 0 = .ok (.aload_n 0, 1) := by decide +kernel
theorem dX5_when_1 : decode cX5_when 1 = .ok (.iload_n 1, 1) := by decide +kernel
theorem dX5_when_2 : decode cX5_when 2 = .ok (.iload_n 2, 1) := by decide +kernel
theorem dX5_when_3 : decode cX5_when 3 = .ok (.iload_n 3, 1) := by decide +kernel
theorem dX5_when_4 : decode cX5_when 4 = .ok (.invokevirtual 105, 3) := by decide +kernel
theorem dX5_when_7 : decode cX5_when 7 = .ok (.istore 4, 2) := by decide +kernel
theorem dX5_when_9 : decode cX5_when 9 = .ok (.iload 4, 2) := by decide +kernel
theorem dX5_when_11 : decode cX5_when 11 = .ok (.ifCond .eq 10, 3) := by decide +kernel
theorem dX5_when_14 : decode cX5_when 14 = .ok (.aload_n 0, 1) := by decide +kernel
theorem dX5_when_15 : decode cX5_when 15 = .ok (.iload 4, 2) := by decide +kernel
theorem dX5_when_17 : decode cX5_when 17 = .ok (.invokevirtual 57, 3) := by decide +kernel
theorem dX5_when_20 : decode cX5_when 20 = .ok (.ireturn, 1) := by decide +kernel
theorem dX5_when_21 : decode cX5_when 21 = .ok (.aload_n 0, 1) := by decide +kernel
theorem dX5_when_22 : decode cX5_when 22 = .ok (.getfield 16, 3) := by decide +kernel
theorem dX5_when_25 : decode cX5_when 25 = .ok (.aload_n 0, 1) := by decide +kernel
theorem dX5_when_26 : decode cX5_when 26 = .ok (.getfield 10, 3) := by decide +kernel
theorem dX5_when_29 : decode cX5_when 29 = .ok (.invokevirtual 68, 3) := by decide +kernel
theorem dX5_when_32 : decode cX5_when 32 = .ok (.iconst 0, 1) := by decide +kernel
theorem dX5_when_33 : decode cX5_when 33 = .ok (.istore 5, 2) := by decide +kernel
theorem dX5_when_35 : decode cX5_when 35 = .ok (.iload 5, 2) := by decide +kernel
theorem dX5_when_37 : decode cX5_when 37 = .ok (.bipush 9, 2) := by decide +kernel
theorem dX5_when_39 : decode cX5_when 39 = .ok (.if_icmp .ge 43, 3) := by decide +kernel
theorem dX5_when_42 : decode cX5_when 42 = .ok (.aload_n 0, 1) := by decide +kernel
theorem dX5_when_43 : decode cX5_when 43 = .ok (.getfield 16, 3) := by decide +kernel
theorem dX5_when_46 : decode cX5_when 46 = .ok (.aload_n 0, 1) := by decide +kernel
theorem dX5_when_47 : decode cX5_when 47 = .ok (.getfield 10, 3) := by decide +kernel
theorem dX5_when_50 : decode cX5_when 50 = .ok (.getfield 129, 3) := by decide +kernel
theorem dX5_when_53 : decode cX5_when 53 = .ok (.iload 5, 2) := by decide +kernel
theorem dX5_when_55 : decode cX5_when 55 = .ok (.iadd, 1) := by decide +kernel
theorem dX5_when_56 : decode cX5_when 56 = .ok (.putfield 129, 3) := by decide +kernel
theorem dX5_when_59 : decode cX5_when 59 = .ok (.aload_n 0, 1) := by decide +kernel
theorem dX5_when_60 : decode cX5_when 60 = .ok (.aload_n 0, 1) := by decide +kernel
theorem dX5_when_61 : decode cX5_when 61 = .ok (.getfield 16, 3) := by decide +kernel
theorem dX5_when_64 : decode cX5_when 64 = .ok (.iload_n 1, 1) := by decide +kernel
theorem dX5_when_65 : decode cX5_when 65 = .ok (.iload_n 2, 1) := by decide +kernel
theorem dX5_when_66 : decode cX5_when 66 = .ok (.iload_n 3, 1) := by decide +kernel
theorem dX5_when_67 : decode cX5_when 67 = .ok (.invokevirtual 146, 3) := by decide +kernel
theorem dX5_when_70 : decode cX5_when 70 = .ok (.ifCond .eq 6, 3) := by decide +kernel
theorem dX5_when_73 : decode cX5_when 73 = .ok (.iload 5, 2) := by decide +kernel
theorem dX5_when_75 : decode cX5_when 75 = .ok (.ireturn, 1) := by decide +kernel
theorem dX5_when_76 : decode cX5_when 76 = .ok (.iinc 5 1, 3) := by decide +kernel
theorem dX5_when_79 : decode cX5_when 79 = .ok (.goto (-44), 3) := by decide +kernel
theorem dX5_when_82 : decode cX5_when 82 = .ok (.bipush (-9), 2) := by decide +kernel
theorem dX5_when_84 : decode cX5_when 84 = .ok (.ireturn, 1) := by decide +kernel
set_option maxRecDepth 20000 in
theorem ggX5_crumpled_X5_refusalOfThrow : GoodIn wsX5_crumpled wsX5_refusalOfThrow := goodIn_r _ [7, 2, 8, 9, 10, 11, 12, 13, 14, 15, 6, 16, 114, 115, 116, 117, 118, 119, 120, 121, 122, 123, 124, 125, 126, 127, 128, 129, 130, 131, 132, 133, 134, 135, 136, 137, 138, 139, 140] (by decide +kernel) (by decide +kernel)
set_option maxRecDepth 20000 in
theorem gX5_crumpled_X5_refusalOfThrow : GoodIn wsX5_crumpled (wsV RX5 105 RX5 yX5_refusalOfThrow wsX5_refusalOfThrow) := goodIn_app (goodIn_of _ (by decide +kernel)) ggX5_crumpled_X5_refusalOfThrow
set_option maxRecDepth 20000 in
theorem ggX5_crumpled_X5_refuse : GoodIn wsX5_crumpled wsX5_refuse := goodIn_r _ [20, 21, 114, 115, 116, 117, 118, 119, 120, 121, 122, 123, 124] (by decide +kernel) (by decide +kernel)
set_option maxRecDepth 20000 in
theorem gX5_crumpled_X5_refuse : GoodIn wsX5_crumpled (wsV RX5 57 RX5 yX5_refuse wsX5_refuse) := goodIn_app (goodIn_of _ (by decide +kernel)) ggX5_crumpled_X5_refuse
set_option maxRecDepth 20000 in
theorem ggX5_crumpled_X3_become : GoodIn wsX5_crumpled wsX3_become := goodIn_r _ [24, 25, 26, 27, 28, 29, 30, 31, 32, 33, 34, 35, 36, 12, 37, 38, 39, 125, 126, 127, 128, 129, 130, 131, 132, 133, 134, 135, 136, 137, 138, 139, 140] (by decide +kernel) (by decide +kernel)
set_option maxRecDepth 20000 in
theorem gX5_crumpled_X3_become_n68 : GoodIn wsX5_crumpled (wsX3_become) := ggX5_crumpled_X3_become
set_option maxRecDepth 20000 in
theorem ggX5_crumpled_X3_setTight : GoodIn wsX5_crumpled wsX3_setTight := goodIn_r _ [42, 39, 43, 8, 10, 9, 11, 12, 125, 126, 127, 128, 129, 130, 131, 132, 133, 134, 135, 136, 137, 138, 139, 140] (by decide +kernel) (by decide +kernel)
set_option maxRecDepth 20000 in
theorem gX5_crumpled_X3_setTight_n101 : GoodIn wsX5_crumpled (wsX3_setTight) := ggX5_crumpled_X3_setTight
set_option maxRecDepth 20000 in
theorem ggX5_crumpled_X5_endsIn : GoodIn wsX5_crumpled wsX5_endsIn := goodIn_r _ [47, 48, 49, 50, 51, 52, 53, 54, 55, 56, 57, 58, 59, 60, 61, 9, 62, 63, 64, 65, 66, 67, 68, 69, 70, 71, 38, 43, 8, 10, 11, 12, 72, 73, 74, 75, 39, 76, 77, 78, 79, 37, 80, 81, 82, 83, 84, 85, 32, 86, 87, 88, 89, 90, 91, 92, 93, 94, 95, 96, 97, 98, 99, 100, 101, 26, 27, 102, 103, 104, 105, 106, 107, 108, 109, 110, 111, 112, 113, 33, 114, 115, 116, 117, 118, 119, 120, 121, 122, 123, 124, 141, 142, 143, 144, 145, 146, 147, 148, 125, 126, 127, 128, 129, 130, 131, 132, 133, 134, 135, 136, 137, 138, 139, 140] (by decide +kernel) (by decide +kernel)
set_option maxRecDepth 20000 in
theorem gX5_crumpled_X5_endsIn : GoodIn wsX5_crumpled (wsV RX5 146 RX5 yX5_endsIn wsX5_endsIn) := goodIn_app (goodIn_of _ (by decide +kernel)) ggX5_crumpled_X5_endsIn
theorem dX5_crumpled_0 : decode cX5_crumpled 0 = .ok (.aload_n 0, 1) := by decide +kernel
theorem dX5_crumpled_1 : decode cX5_crumpled 1 = .ok (.iload_n 1, 1) := by decide +kernel
theorem dX5_crumpled_2 : decode cX5_crumpled 2 = .ok (.iload_n 2, 1) := by decide +kernel
theorem dX5_crumpled_3 : decode cX5_crumpled 3 = .ok (.iload_n 3, 1) := by decide +kernel
theorem dX5_crumpled_4 : decode cX5_crumpled 4 = .ok (.invokevirtual 105, 3) := by decide +kernel
theorem dX5_crumpled_7 : decode cX5_crumpled 7 = .ok (.istore 4, 2) := by decide +kernel
theorem dX5_crumpled_9 : decode cX5_crumpled 9 = .ok (.iload 4, 2) := by decide +kernel
theorem dX5_crumpled_11 : decode cX5_crumpled 11 = .ok (.ifCond .eq 10, 3) := by decide +kernel
theorem dX5_crumpled_14 : decode cX5_crumpled 14 = .ok (.aload_n 0, 1) := by decide +kernel
theorem dX5_crumpled_15 : decode cX5_crumpled 15 = .ok (.iload 4, 2) := by decide +kernel
theorem dX5_crumpled_17 : decode cX5_crumpled 17 = .ok (.invokevirtual 57, 3) := by decide +kernel
theorem dX5_crumpled_20 : decode cX5_crumpled 20 = .ok (.ireturn, 1) := by decide +kernel
theorem dX5_crumpled_21 : decode cX5_crumpled 21 = .ok (.aload_n 0, 1) := by decide +kernel
theorem dX5_crumpled_22 : decode cX5_crumpled 22 = .ok (.getfield 16, 3) := by decide +kernel
theorem dX5_crumpled_25 : decode cX5_crumpled 25 = .ok (.aload_n 0, 1) := by decide +kernel
theorem dX5_crumpled_26 : decode cX5_crumpled 26 = .ok (.getfield 10, 3) := by decide +kernel
theorem dX5_crumpled_29 : decode cX5_crumpled 29 = .ok (.invokevirtual 68, 3) := by decide +kernel
theorem dX5_crumpled_32 : decode cX5_crumpled 32 = .ok (.iconst 0, 1) := by decide +kernel
theorem dX5_crumpled_33 : decode cX5_crumpled 33 = .ok (.istore 5, 2) := by decide +kernel
theorem dX5_crumpled_35 : decode cX5_crumpled 35 = .ok (.iconst 0, 1) := by decide +kernel
theorem dX5_crumpled_36 : decode cX5_crumpled 36 = .ok (.istore 6, 2) := by decide +kernel
theorem dX5_crumpled_38 : decode cX5_crumpled 38 = .ok (.iload 6, 2) := by decide +kernel
theorem dX5_crumpled_40 : decode cX5_crumpled 40 = .ok (.bipush 9, 2) := by decide +kernel
theorem dX5_crumpled_42 : decode cX5_crumpled 42 = .ok (.if_icmp .gt 42, 3) := by decide +kernel
theorem dX5_crumpled_45 : decode cX5_crumpled 45 = .ok (.aload_n 0, 1) := by decide +kernel
theorem dX5_crumpled_46 : decode cX5_crumpled 46 = .ok (.getfield 16, 3) := by decide +kernel
theorem dX5_crumpled_49 : decode cX5_crumpled 49 = .ok (.iload_n 1, 1) := by decide +kernel
theorem dX5_crumpled_50 : decode cX5_crumpled 50 = .ok (.iload 6, 2) := by decide +kernel
theorem dX5_crumpled_52 : decode cX5_crumpled 52 = .ok (.invokevirtual 101, 3) := by decide +kernel
theorem dX5_crumpled_55 : decode cX5_crumpled 55 = .ok (.aload_n 0, 1) := by decide +kernel
theorem dX5_crumpled_56 : decode cX5_crumpled 56 = .ok (.aload_n 0, 1) := by decide +kernel
theorem dX5_crumpled_57 : decode cX5_crumpled 57 = .ok (.getfield 16, 3) := by decide +kernel
theorem dX5_crumpled_60 : decode cX5_crumpled 60 = .ok (.iload_n 1, 1) := by decide +kernel
theorem dX5_crumpled_61 : decode cX5_crumpled 61 = .ok (.iload_n 2, 1) := by decide +kernel
theorem dX5_crumpled_62 : decode cX5_crumpled 62 = .ok (.iload_n 3, 1) := by decide +kernel
theorem dX5_crumpled_63 : decode cX5_crumpled 63 = .ok (.invokevirtual 146, 3) := by decide +kernel
theorem dX5_crumpled_66 : decode cX5_crumpled 66 = .ok (.ifCond .eq 12, 3) := by decide +kernel
theorem dX5_crumpled_69 : decode cX5_crumpled 69 = .ok (.iload 5, 2) := by decide +kernel
theorem dX5_crumpled_71 : decode cX5_crumpled 71 = .ok (.iconst 1, 1) := by decide +kernel
theorem dX5_crumpled_72 : decode cX5_crumpled 72 = .ok (.iload 6, 2) := by decide +kernel
theorem dX5_crumpled_74 : decode cX5_crumpled 74 = .ok (.ishl, 1) := by decide +kernel
theorem dX5_crumpled_75 : decode cX5_crumpled 75 = .ok (.ior, 1) := by decide +kernel
theorem dX5_crumpled_76 : decode cX5_crumpled 76 = .ok (.istore 5, 2) := by decide +kernel
theorem dX5_crumpled_78 : decode cX5_crumpled 78 = .ok (.iinc 6 1, 3) := by decide +kernel
theorem dX5_crumpled_81 : decode cX5_crumpled 81 = .ok (.goto (-43), 3) := by decide +kernel
theorem dX5_crumpled_84 : decode cX5_crumpled 84 = .ok (.iload 5, 2) := by decide +kernel
theorem dX5_crumpled_86 : decode cX5_crumpled 86 = .ok (.ireturn, 1) := by decide +kernel
set_option maxRecDepth 20000 in
theorem ggX5_fills_X5_refusalOfThrow : GoodIn wsX5_fills wsX5_refusalOfThrow := goodIn_r _ [7, 2, 8, 9, 10, 11, 12, 13, 14, 15, 6, 16, 111, 112, 113, 114, 115, 116, 117, 118, 119, 120, 121, 122, 123, 124, 125, 126, 127, 128, 129, 130, 131, 132, 133, 134, 135, 136, 137] (by decide +kernel) (by decide +kernel)
set_option maxRecDepth 20000 in
theorem gX5_fills_X5_refusalOfThrow : GoodIn wsX5_fills (wsV RX5 105 RX5 yX5_refusalOfThrow wsX5_refusalOfThrow) := goodIn_app (goodIn_of _ (by decide +kernel)) ggX5_fills_X5_refusalOfThrow
set_option maxRecDepth 20000 in
theorem ggX5_fills_X5_refuse : GoodIn wsX5_fills wsX5_refuse := goodIn_r _ [20, 21, 111, 112, 113, 114, 115, 116, 117, 118, 119, 120, 121] (by decide +kernel) (by decide +kernel)
set_option maxRecDepth 20000 in
theorem gX5_fills_X5_refuse : GoodIn wsX5_fills (wsV RX5 57 RX5 yX5_refuse wsX5_refuse) := goodIn_app (goodIn_of _ (by decide +kernel)) ggX5_fills_X5_refuse
set_option maxRecDepth 20000 in
theorem ggX5_fills_X3_become : GoodIn wsX5_fills wsX3_become := goodIn_r _ [24, 25, 26, 27, 28, 29, 30, 31, 32, 33, 34, 35, 36, 12, 37, 38, 39, 122, 123, 124, 125, 126, 127, 128, 129, 130, 131, 132, 133, 134, 135, 136, 137] (by decide +kernel) (by decide +kernel)
set_option maxRecDepth 20000 in
theorem gX5_fills_X3_become_n68 : GoodIn wsX5_fills (wsX3_become) := ggX5_fills_X3_become
set_option maxRecDepth 20000 in
theorem ggX5_fills_X5_endsIn : GoodIn wsX5_fills wsX5_endsIn := goodIn_r _ [43, 44, 45, 46, 47, 48, 49, 50, 51, 52, 53, 54, 55, 56, 57, 9, 58, 59, 60, 61, 62, 63, 64, 65, 66, 67, 38, 68, 8, 10, 11, 12, 69, 70, 71, 72, 39, 73, 74, 75, 76, 37, 77, 78, 79, 80, 81, 82, 32, 83, 84, 85, 86, 87, 88, 89, 90, 91, 92, 93, 94, 95, 96, 97, 98, 26, 27, 99, 100, 101, 102, 103, 104, 105, 106, 107, 108, 109, 110, 33, 111, 112, 113, 114, 115, 116, 117, 118, 119, 120, 121, 138, 139, 140, 141, 142, 143, 144, 145, 122, 123, 124, 125, 126, 127, 128, 129, 130, 131, 132, 133, 134, 135, 136, 137] (by decide +kernel) (by decide +kernel)
set_option maxRecDepth 20000 in
theorem gX5_fills_X5_endsIn : GoodIn wsX5_fills (wsV RX5 146 RX5 yX5_endsIn wsX5_endsIn) := goodIn_app (goodIn_of _ (by decide +kernel)) ggX5_fills_X5_endsIn
theorem dX5_fills_0 : decode cX5_fills 0 = .ok (.aload_n 0, 1) := by decide +kernel
theorem dX5_fills_1 : decode cX5_fills 1 = .ok (.iload_n 1, 1) := by decide +kernel
theorem dX5_fills_2 : decode cX5_fills 2 = .ok (.iload_n 2, 1) := by decide +kernel
theorem dX5_fills_3 : decode cX5_fills 3 = .ok (.iload_n 3, 1) := by decide +kernel
theorem dX5_fills_4 : decode cX5_fills 4 = .ok (.invokevirtual 105, 3) := by decide +kernel
theorem dX5_fills_7 : decode cX5_fills 7 = .ok (.istore 4, 2) := by decide +kernel
theorem dX5_fills_9 : decode cX5_fills 9 = .ok (.iload 4, 2) := by decide +kernel
theorem dX5_fills_11 : decode cX5_fills 11 = .ok (.ifCond .eq 10, 3) := by decide +kernel
theorem dX5_fills_14 : decode cX5_fills 14 = .ok (.aload_n 0, 1) := by decide +kernel
theorem dX5_fills_15 : decode cX5_fills 15 = .ok (.iload 4, 2) := by decide +kernel
theorem dX5_fills_17 : decode cX5_fills 17 = .ok (.invokevirtual 57, 3) := by decide +kernel
theorem dX5_fills_20 : decode cX5_fills 20 = .ok (.ireturn, 1) := by decide +kernel
theorem dX5_fills_21 : decode cX5_fills 21 = .ok (.aload_n 0, 1) := by decide +kernel
theorem dX5_fills_22 : decode cX5_fills 22 = .ok (.getfield 16, 3) := by decide +kernel
theorem dX5_fills_25 : decode cX5_fills 25 = .ok (.aload_n 0, 1) := by decide +kernel
theorem dX5_fills_26 : decode cX5_fills 26 = .ok (.getfield 10, 3) := by decide +kernel
theorem dX5_fills_29 : decode cX5_fills 29 = .ok (.invokevirtual 68, 3) := by decide +kernel
theorem dX5_fills_32 : decode cX5_fills 32 = .ok (.iconst 0, 1) := by decide +kernel
theorem dX5_fills_33 : decode cX5_fills 33 = .ok (.istore 5, 2) := by decide +kernel
theorem dX5_fills_35 : decode cX5_fills 35 = .ok (.iconst 0, 1) := by decide +kernel
theorem dX5_fills_36 : decode cX5_fills 36 = .ok (.istore 6, 2) := by decide +kernel
theorem dX5_fills_38 : decode cX5_fills 38 = .ok (.iload 6, 2) := by decide +kernel
theorem dX5_fills_40 : decode cX5_fills 40 = .ok (.bipush 9, 2) := by decide +kernel
theorem dX5_fills_42 : decode cX5_fills 42 = .ok (.if_icmp .gt 41, 3) := by decide +kernel
theorem dX5_fills_45 : decode cX5_fills 45 = .ok (.aload_n 0, 1) := by decide +kernel
theorem dX5_fills_46 : decode cX5_fills 46 = .ok (.getfield 16, 3) := by decide +kernel
theorem dX5_fills_49 : decode cX5_fills 49 = .ok (.iload 6, 2) := by decide +kernel
theorem dX5_fills_51 : decode cX5_fills 51 = .ok (.putfield 136, 3) := by decide +kernel
theorem dX5_fills_54 : decode cX5_fills 54 = .ok (.aload_n 0, 1) := by decide +kernel
theorem dX5_fills_55 : decode cX5_fills 55 = .ok (.aload_n 0, 1) := by decide +kernel
theorem dX5_fills_56 : decode cX5_fills 56 = .ok (.getfield 16, 3) := by decide +kernel
theorem dX5_fills_59 : decode cX5_fills 59 = .ok (.iload_n 1, 1) := by decide +kernel
theorem dX5_fills_60 : decode cX5_fills 60 = .ok (.iload_n 2, 1) := by decide +kernel
theorem dX5_fills_61 : decode cX5_fills 61 = .ok (.iload_n 3, 1) := by decide +kernel
theorem dX5_fills_62 : decode cX5_fills 62 = .ok (.invokevirtual 146, 3) := by decide +kernel
theorem dX5_fills_65 : decode cX5_fills 65 = .ok (.ifCond .eq 12, 3) := by decide +kernel
theorem dX5_fills_68 : decode cX5_fills 68 = .ok (.iload 5, 2) := by decide +kernel
theorem dX5_fills_70 : decode cX5_fills 70 = .ok (.iconst 1, 1) := by decide +kernel
theorem dX5_fills_71 : decode cX5_fills 71 = .ok (.iload 6, 2) := by decide +kernel
theorem dX5_fills_73 : decode cX5_fills 73 = .ok (.ishl, 1) := by decide +kernel
theorem dX5_fills_74 : decode cX5_fills 74 = .ok (.ior, 1) := by decide +kernel
theorem dX5_fills_75 : decode cX5_fills 75 = .ok (.istore 5, 2) := by decide +kernel
theorem dX5_fills_77 : decode cX5_fills 77 = .ok (.iinc 6 1, 3) := by decide +kernel
theorem dX5_fills_80 : decode cX5_fills 80 = .ok (.goto (-42), 3) := by decide +kernel
theorem dX5_fills_83 : decode cX5_fills 83 = .ok (.iload 5, 2) := by decide +kernel
theorem dX5_fills_85 : decode cX5_fills 85 = .ok (.ireturn, 1) := by decide +kernel
set_option maxRecDepth 20000 in
theorem ggX5_whose_X5_refusalOfPaceAndRise : GoodIn wsX5_whose wsX5_refusalOfPaceAndRise := goodIn_r _ [7] (by decide +kernel) (by decide +kernel)
set_option maxRecDepth 20000 in
theorem gX5_whose_X5_refusalOfPaceAndRise : GoodIn wsX5_whose (wsV RX5 153 RX5 yX5_refusalOfPaceAndRise wsX5_refusalOfPaceAndRise) := goodIn_app (goodIn_of _ (by decide +kernel)) ggX5_whose_X5_refusalOfPaceAndRise
set_option maxRecDepth 20000 in
theorem ggX5_whose_X5_refuse : GoodIn wsX5_whose wsX5_refuse := goodIn_r _ [11, 12, 91, 92, 93, 94, 95, 96, 97, 98, 99, 100, 101] (by decide +kernel) (by decide +kernel)
set_option maxRecDepth 20000 in
theorem gX5_whose_X5_refuse : GoodIn wsX5_whose (wsV RX5 57 RX5 yX5_refuse wsX5_refuse) := goodIn_app (goodIn_of _ (by decide +kernel)) ggX5_whose_X5_refuse
set_option maxRecDepth 20000 in
theorem ggX5_whose_X0_run : GoodIn wsX5_whose wsX0_run := goodIn_r _ [16, 17, 18, 19, 20, 21, 22, 23, 24, 25, 26, 27, 28, 29, 30, 31, 32, 33, 34, 35, 36, 37, 38, 39, 40, 41, 42, 43, 44, 45, 46, 47, 48, 49, 50, 51, 52, 53, 54, 55, 56, 57, 58, 59, 60, 61, 62, 14, 63, 64, 65, 66, 67, 68, 69, 70, 71, 72, 73, 74, 75, 76, 77, 78, 79, 80, 81, 82, 83, 84, 85, 86, 87, 88, 89, 90, 118, 119, 120, 121, 122, 123, 124, 125, 102, 103, 104, 105, 106, 107, 108, 109, 110, 111, 112, 113, 114, 115, 116, 117] (by decide +kernel) (by decide +kernel)
set_option maxRecDepth 20000 in
theorem gX5_whose_X0_run_n109 : GoodIn wsX5_whose (wsX0_run) := ggX5_whose_X0_run
theorem dX5_whose_0 : decode cX5_whose 0 = .ok (.aload_n 0, 1) := by decide +kernel
theorem dX5_whose_1 : decode cX5_whose 1 = .ok (.iload_n 1, 1) := by decide +kernel
theorem dX5_whose_2 : decode cX5_whose 2 = .ok (.iload_n 2, 1) := by decide +kernel
theorem dX5_whose_3 : decode cX5_whose 3 = .ok (.invokevirtual 153, 3) := by decide +kernel
theorem dX5_whose_6 : decode cX5_whose 6 = .ok (.istore 4, 2) := by decide +kernel
theorem dX5_whose_8 : decode cX5_whose 8 = .ok (.iload 4, 2) := by decide +kernel
theorem dX5_whose_10 : decode cX5_whose 10 = .ok (.ifCond .eq 10, 3) := by decide +kernel
theorem dX5_whose_13 : decode cX5_whose 13 = .ok (.aload_n 0, 1) := by decide +kernel
theorem dX5_whose_14 : decode cX5_whose 14 = .ok (.iload 4, 2) := by decide +kernel
theorem dX5_whose_16 : decode cX5_whose 16 = .ok (.invokevirtual 57, 3) := by decide +kernel
theorem dX5_whose_19 : decode cX5_whose 19 = .ok (.ireturn, 1) := by decide +kernel
theorem dX5_whose_20 : decode cX5_whose 20 = .ok (.iconst 0, 1) := by decide +kernel
theorem dX5_whose_21 : decode cX5_whose 21 = .ok (.istore 5, 2) := by decide +kernel
theorem dX5_whose_23 : decode cX5_whose 23 = .ok (.iconst 0, 1) := by decide +kernel
theorem dX5_whose_24 : decode cX5_whose 24 = .ok (.istore 6, 2) := by decide +kernel
theorem dX5_whose_26 : decode cX5_whose 26 = .ok (.iload 6, 2) := by decide +kernel
theorem dX5_whose_28 : decode cX5_whose 28 = .ok (.aload_n 0, 1) := by decide +kernel
theorem dX5_whose_29 : decode cX5_whose 29 = .ok (.getfield 10, 3) := by decide +kernel
theorem dX5_whose_32 : decode cX5_whose 32 = .ok (.getfield 156, 3) := by decide +kernel
theorem dX5_whose_35 : decode cX5_whose 35 = .ok (.if_icmp .ge 44, 3) := by decide +kernel
theorem dX5_whose_38 : decode cX5_whose 38 = .ok (.aload_n 0, 1) := by decide +kernel
theorem dX5_whose_39 : decode cX5_whose 39 = .ok (.getfield 32, 3) := by decide +kernel
theorem dX5_whose_42 : decode cX5_whose 42 = .ok (.aload_n 0, 1) := by decide +kernel
theorem dX5_whose_43 : decode cX5_whose 43 = .ok (.getfield 10, 3) := by decide +kernel
theorem dX5_whose_46 : decode cX5_whose 46 = .ok (.iload 6, 2) := by decide +kernel
theorem dX5_whose_48 : decode cX5_whose 48 = .ok (.iload_n 1, 1) := by decide +kernel
theorem dX5_whose_49 : decode cX5_whose 49 = .ok (.iload_n 2, 1) := by decide +kernel
theorem dX5_whose_50 : decode cX5_whose 50 = .ok (.invokevirtual 109, 3) := by decide +kernel
theorem dX5_whose_53 : decode cX5_whose 53 = .ok (.aload_n 0, 1) := by decide +kernel
theorem dX5_whose_54 : decode cX5_whose 54 = .ok (.getfield 32, 3) := by decide +kernel
theorem dX5_whose_57 : decode cX5_whose 57 = .ok (.getfield 117, 3) := by decide +kernel
theorem dX5_whose_60 : decode cX5_whose 60 = .ok (.iload_n 3, 1) := by decide +kernel
theorem dX5_whose_61 : decode cX5_whose 61 = .ok (.if_icmp .ne 12, 3) := by decide +kernel
theorem dX5_whose_64 : decode cX5_whose 64 = .ok (.iload 5, 2) := by decide +kernel
theorem dX5_whose_66 : decode cX5_whose 66 = .ok (.iconst 1, 1) := by decide +kernel
theorem dX5_whose_67 : decode cX5_whose 67 = .ok (.iload 6, 2) := by decide +kernel
theorem dX5_whose_69 : decode cX5_whose 69 = .ok (.ishl, 1) := by decide +kernel
theorem dX5_whose_70 : decode cX5_whose 70 = .ok (.ior, 1) := by decide +kernel
theorem dX5_whose_71 : decode cX5_whose 71 = .ok (.istore 5, 2) := by decide +kernel
theorem dX5_whose_73 : decode cX5_whose 73 = .ok (.iinc 6 1, 3) := by decide +kernel
theorem dX5_whose_76 : decode cX5_whose 76 = .ok (.goto (-50), 3) := by decide +kernel
theorem dX5_whose_79 : decode cX5_whose 79 = .ok (.iload 5, 2) := by decide +kernel
theorem dX5_whose_81 : decode cX5_whose 81 = .ok (.ireturn, 1) := by decide +kernel
set_option maxRecDepth 20000 in
theorem ggX5_inRow_X5_refuseLong : GoodIn wsX5_inRow wsX5_refuseLong := goodIn_r _ [5, 6, 7, 8, 9, 4, 10, 11, 33, 34, 35, 36, 37, 38, 39, 40, 41, 42, 43] (by decide +kernel) (by decide +kernel)
set_option maxRecDepth 20000 in
theorem gX5_inRow_X5_refuseLong : GoodIn wsX5_inRow (wsV RX5 159 RX5 yX5_refuseLong wsX5_refuseLong) := goodIn_app (goodIn_of _ (by decide +kernel)) ggX5_inRow_X5_refuseLong
set_option maxRecDepth 20000 in
theorem ggX5_inRow_X5_partOfOdds : GoodIn wsX5_inRow wsX5_partOfOdds := goodIn_r _ [15, 16, 1, 2, 3, 4, 5, 6, 7, 8, 9, 10, 11, 17, 18, 19, 20, 21, 22, 23, 24, 25, 26, 27, 28, 29, 30, 31, 32, 33, 34, 35, 36, 37, 38, 39, 40, 41, 42, 43, 44, 45] (by decide +kernel) (by decide +kernel)
set_option maxRecDepth 20000 in
theorem gX5_inRow_X5_partOfOdds : GoodIn wsX5_inRow (wsV RX5 163 RX5 yX5_partOfOdds wsX5_partOfOdds) := goodIn_app (goodIn_of _ (by decide +kernel)) ggX5_inRow_X5_partOfOdds
theorem dX5_inRow_0 : decode cX5_inRow 0 = .ok (.iload_n 1, 1) := by decide +kernel
theorem dX5_inRow_1 : decode cX5_inRow 1 = .ok (.ifCond .lt 7, 3) := by decide +kernel
theorem dX5_inRow_4 : decode cX5_inRow 4 = .ok (.iload_n 2, 1) := by decide +kernel
theorem dX5_inRow_5 : decode cX5_inRow 5 = .ok (.ifCond .ge 10, 3) := by decide +kernel
theorem dX5_inRow_8 : decode cX5_inRow 8 = .ok (.aload_n 0, 1) := by decide +kernel
theorem dX5_inRow_9 : decode cX5_inRow 9 = .ok (.bipush (-4), 2) := by decide +kernel
theorem dX5_inRow_11 : decode cX5_inRow 11 = .ok (.invokevirtual 159, 3) := by decide +kernel
theorem dX5_inRow_14 : decode cX5_inRow 14 = .ok (.lreturn, 1) := by decide +kernel
theorem dX5_inRow_15 : decode cX5_inRow 15 = .ok (.iload_n 1, 1) := by decide +kernel
theorem dX5_inRow_16 : decode cX5_inRow 16 = .ok (.bipush 15, 2) := by decide +kernel
theorem dX5_inRow_18 : decode cX5_inRow 18 = .ok (.if_icmp .gt 9, 3) := by decide +kernel
theorem dX5_inRow_21 : decode cX5_inRow 21 = .ok (.iload_n 2, 1) := by decide +kernel
theorem dX5_inRow_22 : decode cX5_inRow 22 = .ok (.bipush 9, 2) := by decide +kernel
theorem dX5_inRow_24 : decode cX5_inRow 24 = .ok (.if_icmp .le 10, 3) := by decide +kernel
theorem dX5_inRow_27 : decode cX5_inRow 27 = .ok (.aload_n 0, 1) := by decide +kernel
theorem dX5_inRow_28 : decode cX5_inRow 28 = .ok (.bipush (-6), 2) := by decide +kernel
theorem dX5_inRow_30 : decode cX5_inRow 30 = .ok (.invokevirtual 159, 3) := by decide +kernel
theorem dX5_inRow_33 : decode cX5_inRow 33 = .ok (.lreturn, 1) := by decide +kernel
theorem dX5_inRow_34 : decode cX5_inRow 34 = .ok (.aload_n 0, 1) := by decide +kernel
theorem dX5_inRow_35 : decode cX5_inRow 35 = .ok (.iload_n 1, 1) := by decide +kernel
theorem dX5_inRow_36 : decode cX5_inRow 36 = .ok (.iload_n 1, 1) := by decide +kernel
theorem dX5_inRow_37 : decode cX5_inRow 37 = .ok (.iload_n 2, 1) := by decide +kernel
theorem dX5_inRow_38 : decode cX5_inRow 38 = .ok (.iload_n 3, 1) := by decide +kernel
theorem dX5_inRow_39 : decode cX5_inRow 39 = .ok (.invokevirtual 163, 3) := by decide +kernel
theorem dX5_inRow_42 : decode cX5_inRow 42 = .ok (.lreturn, 1) := by decide +kernel
set_option maxRecDepth 20000 in
theorem ggX5_soMany_X5_refuseLong : GoodIn wsX5_soMany wsX5_refuseLong := goodIn_r _ [5, 6, 7, 8, 9, 4, 10, 11, 33, 34, 35, 36, 37, 38, 39, 40, 41, 42, 43] (by decide +kernel) (by decide +kernel)
set_option maxRecDepth 20000 in
theorem gX5_soMany_X5_refuseLong : GoodIn wsX5_soMany (wsV RX5 159 RX5 yX5_refuseLong wsX5_refuseLong) := goodIn_app (goodIn_of _ (by decide +kernel)) ggX5_soMany_X5_refuseLong
set_option maxRecDepth 20000 in
theorem ggX5_soMany_X5_partOfOdds : GoodIn wsX5_soMany wsX5_partOfOdds := goodIn_r _ [15, 16, 1, 2, 3, 4, 5, 6, 7, 8, 9, 10, 11, 17, 18, 19, 20, 21, 22, 23, 24, 25, 26, 27, 28, 29, 30, 31, 32, 33, 34, 35, 36, 37, 38, 39, 40, 41, 42, 43, 44, 45] (by decide +kernel) (by decide +kernel)
set_option maxRecDepth 20000 in
theorem gX5_soMany_X5_partOfOdds : GoodIn wsX5_soMany (wsV RX5 163 RX5 yX5_partOfOdds wsX5_partOfOdds) := goodIn_app (goodIn_of _ (by decide +kernel)) ggX5_soMany_X5_partOfOdds
theorem dX5_soMany_0 : decode cX5_soMany 0 = .ok (.iload_n 1, 1) := by decide +kernel
theorem dX5_soMany_1 : decode cX5_soMany 1 = .ok (.ifCond .lt 11, 3) := by decide +kernel
theorem dX5_soMany_4 : decode cX5_soMany 4 = .ok (.iload_n 2, 1) := by decide +kernel
theorem dX5_soMany_5 : decode cX5_soMany 5 = .ok (.ifCond .lt 7, 3) := by decide +kernel
theorem dX5_soMany_8 : decode cX5_soMany 8 = .ok (.iload_n 3, 1) := by decide +kernel
theorem dX5_soMany_9 : decode cX5_soMany 9 = .ok (.ifCond .ge 10, 3) := by decide +kernel
theorem dX5_soMany_12 : decode cX5_soMany 12 = .ok (.aload_n 0, 1) := by decide +kernel
theorem dX5_soMany_13 : decode cX5_soMany 13 = .ok (.bipush (-4), 2) := by decide +kernel
theorem dX5_soMany_15 : decode cX5_soMany 15 = .ok (.invokevirtual 159, 3) := by decide +kernel
theorem dX5_soMany_18 : decode cX5_soMany 18 = .ok (.lreturn, 1) := by decide +kernel
theorem dX5_soMany_19 : decode cX5_soMany 19 = .ok (.iload_n 1, 1) := by decide +kernel
theorem dX5_soMany_20 : decode cX5_soMany 20 = .ok (.bipush 15, 2) := by decide +kernel
theorem dX5_soMany_22 : decode cX5_soMany 22 = .ok (.if_icmp .gt 14, 3) := by decide +kernel
theorem dX5_soMany_25 : decode cX5_soMany 25 = .ok (.iload_n 2, 1) := by decide +kernel
theorem dX5_soMany_26 : decode cX5_soMany 26 = .ok (.iload_n 1, 1) := by decide +kernel
theorem dX5_soMany_27 : decode cX5_soMany 27 = .ok (.if_icmp .gt 9, 3) := by decide +kernel
theorem dX5_soMany_30 : decode cX5_soMany 30 = .ok (.iload_n 3, 1) := by decide +kernel
theorem dX5_soMany_31 : decode cX5_soMany 31 = .ok (.bipush 9, 2) := by decide +kernel
theorem dX5_soMany_33 : decode cX5_soMany 33 = .ok (.if_icmp .le 10, 3) := by decide +kernel
theorem dX5_soMany_36 : decode cX5_soMany 36 = .ok (.aload_n 0, 1) := by decide +kernel
theorem dX5_soMany_37 : decode cX5_soMany 37 = .ok (.bipush (-6), 2) := by decide +kernel
theorem dX5_soMany_39 : decode cX5_soMany 39 = .ok (.invokevirtual 159, 3) := by decide +kernel
theorem dX5_soMany_42 : decode cX5_soMany 42 = .ok (.lreturn, 1) := by decide +kernel
theorem dX5_soMany_43 : decode cX5_soMany 43 = .ok (.aload_n 0, 1) := by decide +kernel
theorem dX5_soMany_44 : decode cX5_soMany 44 = .ok (.iload_n 1, 1) := by decide +kernel
theorem dX5_soMany_45 : decode cX5_soMany 45 = .ok (.iload_n 2, 1) := by decide +kernel
theorem dX5_soMany_46 : decode cX5_soMany 46 = .ok (.iload_n 3, 1) := by decide +kernel
theorem dX5_soMany_47 : decode cX5_soMany 47 = .ok (.iload 4, 2) := by decide +kernel
theorem dX5_soMany_49 : decode cX5_soMany 49 = .ok (.invokevirtual 163, 3) := by decide +kernel
theorem dX5_soMany_52 : decode cX5_soMany 52 = .ok (.lreturn, 1) := by decide +kernel
set_option maxRecDepth 20000 in
theorem ggX5_farthest_X3_hasBall : GoodIn wsX5_farthest wsX3_hasBall := goodIn_r _ [6, 7, 124, 125, 126, 127, 128, 129, 130, 131, 132, 133, 134, 135, 136, 137, 138, 139] (by decide +kernel) (by decide +kernel)
set_option maxRecDepth 20000 in
theorem gX5_farthest_X3_hasBall_n79 : GoodIn wsX5_farthest (wsX3_hasBall) := ggX5_farthest_X3_hasBall
set_option maxRecDepth 20000 in
theorem ggX5_farthest_X5_refuse : GoodIn wsX5_farthest wsX5_refuse := goodIn_r _ [12, 13, 113, 114, 115, 116, 117, 118, 119, 120, 121, 122, 123] (by decide +kernel) (by decide +kernel)
set_option maxRecDepth 20000 in
theorem gX5_farthest_X5_refuse : GoodIn wsX5_farthest (wsV RX5 57 RX5 yX5_refuse wsX5_refuse) := goodIn_app (goodIn_of _ (by decide +kernel)) ggX5_farthest_X5_refuse
set_option maxRecDepth 20000 in
theorem ggX5_farthest_X3_become : GoodIn wsX5_farthest wsX3_become := goodIn_r _ [16, 17, 18, 19, 20, 21, 22, 23, 24, 25, 26, 27, 28, 7, 29, 30, 31, 124, 125, 126, 127, 128, 129, 130, 131, 132, 133, 134, 135, 136, 137, 138, 139] (by decide +kernel) (by decide +kernel)
set_option maxRecDepth 20000 in
theorem gX5_farthest_X3_become_n68 : GoodIn wsX5_farthest (wsX3_become) := ggX5_farthest_X3_become
set_option maxRecDepth 20000 in
theorem ggX5_farthest_X3_setBin : GoodIn wsX5_farthest wsX3_setBin := goodIn_r _ [34, 22, 18, 19, 20, 35, 36, 4, 37, 124, 125, 126, 127, 128, 129, 130, 131, 132, 133, 134, 135, 136, 137, 138, 139] (by decide +kernel) (by decide +kernel)
set_option maxRecDepth 20000 in
theorem gX5_farthest_X3_setBin_n173 : GoodIn wsX5_farthest (wsX3_setBin) := ggX5_farthest_X3_setBin
set_option maxRecDepth 20000 in
theorem ggX5_farthest_X5_someThrowEndsIn : GoodIn wsX5_farthest wsX5_someThrowEndsIn := goodIn_r _ [41, 42, 43, 44, 11, 45, 46, 47, 48, 49, 50, 51, 52, 53, 54, 55, 56, 57, 58, 59, 4, 60, 61, 62, 63, 64, 65, 66, 67, 68, 69, 30, 70, 3, 5, 6, 7, 71, 72, 73, 74, 31, 75, 76, 77, 78, 29, 79, 80, 81, 82, 83, 84, 24, 85, 86, 87, 88, 89, 90, 91, 92, 93, 94, 95, 96, 97, 98, 99, 100, 18, 19, 101, 102, 103, 104, 105, 106, 107, 108, 109, 110, 111, 112, 25, 113, 114, 115, 116, 117, 118, 119, 120, 121, 122, 123, 140, 141, 142, 143, 144, 145, 146, 147, 124, 125, 126, 127, 128, 129, 130, 131, 132, 133, 134, 135, 136, 137, 138, 139] (by decide +kernel) (by decide +kernel)
set_option maxRecDepth 20000 in
theorem gX5_farthest_X5_someThrowEndsIn : GoodIn wsX5_farthest (wsV RX5 177 RX5 yX5_someThrowEndsIn wsX5_someThrowEndsIn) := goodIn_app (goodIn_of _ (by decide +kernel)) ggX5_farthest_X5_someThrowEndsIn
theorem dX5_farthest_0 : decode cX5_farthest 0 = .ok (.aload_n 0, 1) := by decide +kernel
theorem dX5_farthest_1 : decode cX5_farthest 1 = .ok (.getfield 10, 3) := by decide +kernel
theorem dX5_farthest_4 : decode cX5_farthest 4 = .ok (.iload_n 1, 1) := by decide +kernel
theorem dX5_farthest_5 : decode cX5_farthest 5 = .ok (.invokevirtual 79, 3) := by decide +kernel
theorem dX5_farthest_8 : decode cX5_farthest 8 = .ok (.ifCond .ne 9, 3) := by decide +kernel
theorem dX5_farthest_11 : decode cX5_farthest 11 = .ok (.aload_n 0, 1) := by decide +kernel
theorem dX5_farthest_12 : decode cX5_farthest 12 = .ok (.iconst (-1), 1) := by decide +kernel
theorem dX5_farthest_13 : decode cX5_farthest 13 = .ok (.invokevirtual 57, 3) := by decide +kernel
theorem dX5_farthest_16 : decode cX5_farthest 16 = .ok (.ireturn, 1) := by decide +kernel
theorem dX5_farthest_17 : decode cX5_farthest 17 = .ok (.aload_n 0, 1) := by decide +kernel
theorem dX5_farthest_18 : decode cX5_farthest 18 = .ok (.getfield 16, 3) := by decide +kernel
theorem dX5_farthest_21 : decode cX5_farthest 21 = .ok (.aload_n 0, 1) := by decide +kernel
theorem dX5_farthest_22 : decode cX5_farthest 22 = .ok (.getfield 10, 3) := by decide +kernel
theorem dX5_farthest_25 : decode cX5_farthest 25 = .ok (.invokevirtual 68, 3) := by decide +kernel
theorem dX5_farthest_28 : decode cX5_farthest 28 = .ok (.bipush 40, 2) := by decide +kernel
theorem dX5_farthest_30 : decode cX5_farthest 30 = .ok (.istore_n 2, 1) := by decide +kernel
theorem dX5_farthest_31 : decode cX5_farthest 31 = .ok (.iload_n 2, 1) := by decide +kernel
theorem dX5_farthest_32 : decode cX5_farthest 32 = .ok (.iconst 1, 1) := by decide +kernel
theorem dX5_farthest_33 : decode cX5_farthest 33 = .ok (.if_icmp .lt 48, 3) := by decide +kernel
theorem dX5_farthest_36 : decode cX5_farthest 36 = .ok (.aload_n 0, 1) := by decide +kernel
theorem dX5_farthest_37 : decode cX5_farthest 37 = .ok (.getfield 16, 3) := by decide +kernel
theorem dX5_farthest_40 : decode cX5_farthest 40 = .ok (.iload_n 2, 1) := by decide +kernel
theorem dX5_farthest_41 : decode cX5_farthest 41 = .ok (.aload_n 0, 1) := by decide +kernel
theorem dX5_farthest_42 : decode cX5_farthest 42 = .ok (.getfield 10, 3) := by decide +kernel
theorem dX5_farthest_45 : decode cX5_farthest 45 = .ok (.getfield 167, 3) := by decide +kernel
theorem dX5_farthest_48 : decode cX5_farthest 48 = .ok (.aload_n 0, 1) := by decide +kernel
theorem dX5_farthest_49 : decode cX5_farthest 49 = .ok (.getfield 10, 3) := by decide +kernel
theorem dX5_farthest_52 : decode cX5_farthest 52 = .ok (.getfield 170, 3) := by decide +kernel
theorem dX5_farthest_55 : decode cX5_farthest 55 = .ok (.invokevirtual 173, 3) := by decide +kernel
theorem dX5_farthest_58 : decode cX5_farthest 58 = .ok (.ifCond .eq 17, 3) := by decide +kernel
theorem dX5_farthest_61 : decode cX5_farthest 61 = .ok (.aload_n 0, 1) := by decide +kernel
theorem dX5_farthest_62 : decode cX5_farthest 62 = .ok (.aload_n 0, 1) := by decide +kernel
theorem dX5_farthest_63 : decode cX5_farthest 63 = .ok (.getfield 16, 3) := by decide +kernel
theorem dX5_farthest_66 : decode cX5_farthest 66 = .ok (.iload_n 1, 1) := by decide +kernel
theorem dX5_farthest_67 : decode cX5_farthest 67 = .ok (.invokevirtual 177, 3) := by decide +kernel
theorem dX5_farthest_70 : decode cX5_farthest 70 = .ok (.ifCond .eq 5, 3) := by decide +kernel
theorem dX5_farthest_73 : decode cX5_farthest 73 = .ok (.iload_n 2, 1) := by decide +kernel
theorem dX5_farthest_74 : decode cX5_farthest 74 = .ok (.ireturn, 1) := by decide +kernel
theorem dX5_farthest_75 : decode cX5_farthest 75 = .ok (.iinc 2 (-1), 3) := by decide +kernel
theorem dX5_farthest_78 : decode cX5_farthest 78 = .ok (.goto (-47), 3) := by decide +kernel
theorem dX5_farthest_81 : decode cX5_farthest 81 = .ok (.bipush (-9), 2) := by decide +kernel
theorem dX5_farthest_83 : decode cX5_farthest 83 = .ok (.ireturn, 1) := by decide +kernel
set_option maxRecDepth 20000 in
theorem ggX5_row_X5_refuse : GoodIn wsX5_row wsX5_refuse := goodIn_r _ [7, 8, 9, 10, 11, 12, 13, 14, 15, 16, 17, 18, 19] (by decide +kernel) (by decide +kernel)
set_option maxRecDepth 20000 in
theorem gX5_row_X5_refuse : GoodIn wsX5_row (wsV RX5 57 RX5 yX5_refuse wsX5_refuse) := goodIn_app (goodIn_of _ (by decide +kernel)) ggX5_row_X5_refuse
theorem dX5_row_0 : decode cX5_row 0 = .ok (.iload_n 1, 1) := by decide +kernel
theorem dX5_row_1 : decode cX5_row 1 = .ok (.ifCond .ge 10, 3) := by decide +kernel
theorem dX5_row_4 : decode cX5_row 4 = .ok (.aload_n 0, 1) := by decide +kernel
theorem dX5_row_5 : decode cX5_row 5 = .ok (.bipush (-4), 2) := by decide +kernel
theorem dX5_row_7 : decode cX5_row 7 = .ok (.invokevirtual 57, 3) := by decide +kernel
theorem dX5_row_10 : decode cX5_row 10 = .ok (.ireturn, 1) := by decide +kernel
theorem dX5_row_11 : decode cX5_row 11 = .ok (.iload_n 1, 1) := by decide +kernel
theorem dX5_row_12 : decode cX5_row 12 = .ok (.sipush 9999, 3) := by decide +kernel
theorem dX5_row_15 : decode cX5_row 15 = .ok (.if_icmp .gt 12, 3) := by decide +kernel
theorem dX5_row_18 : decode cX5_row 18 = .ok (.aload_n 0, 1) := by decide +kernel
theorem dX5_row_19 : decode cX5_row 19 = .ok (.getfield 181, 3) := by decide +kernel
theorem dX5_row_22 : decode cX5_row 22 = .ok (.bipush 12, 2) := by decide +kernel
theorem dX5_row_24 : decode cX5_row 24 = .ok (.if_icmp .lt 10, 3) := by decide +kernel
theorem dX5_row_27 : decode cX5_row 27 = .ok (.aload_n 0, 1) := by decide +kernel
theorem dX5_row_28 : decode cX5_row 28 = .ok (.bipush (-6), 2) := by decide +kernel
theorem dX5_row_30 : decode cX5_row 30 = .ok (.invokevirtual 57, 3) := by decide +kernel
theorem dX5_row_33 : decode cX5_row 33 = .ok (.ireturn, 1) := by decide +kernel
theorem dX5_row_34 : decode cX5_row 34 = .ok (.aload_n 0, 1) := by decide +kernel
theorem dX5_row_35 : decode cX5_row 35 = .ok (.getfield 50, 3) := by decide +kernel
theorem dX5_row_38 : decode cX5_row 38 = .ok (.aload_n 0, 1) := by decide +kernel
theorem dX5_row_39 : decode cX5_row 39 = .ok (.getfield 181, 3) := by decide +kernel
theorem dX5_row_42 : decode cX5_row 42 = .ok (.iload_n 1, 1) := by decide +kernel
theorem dX5_row_43 : decode cX5_row 43 = .ok (.iastore, 1) := by decide +kernel
theorem dX5_row_44 : decode cX5_row 44 = .ok (.aload_n 0, 1) := by decide +kernel
theorem dX5_row_45 : decode cX5_row 45 = .ok (.dup, 1) := by decide +kernel
theorem dX5_row_46 : decode cX5_row 46 = .ok (.getfield 181, 3) := by decide +kernel
theorem dX5_row_49 : decode cX5_row 49 = .ok (.iconst 1, 1) := by decide +kernel
theorem dX5_row_50 : decode cX5_row 50 = .ok (.iadd, 1) := by decide +kernel
theorem dX5_row_51 : decode cX5_row 51 = .ok (.putfield 181, 3) := by decide +kernel
theorem dX5_row_54 : decode cX5_row 54 = .ok (.aload_n 0, 1) := by decide +kernel
theorem dX5_row_55 : decode cX5_row 55 = .ok (.getfield 181, 3) := by decide +kernel
theorem dX5_row_58 : decode cX5_row 58 = .ok (.ireturn, 1) := by decide +kernel
set_option maxRecDepth 20000 in
theorem ggX5_judge_X3_become : GoodIn wsX5_judge wsX3_become := goodIn_r _ [8, 9, 10, 11, 12, 13, 14, 15, 16, 17, 18, 19, 20, 21, 22, 23, 24, 126, 127, 128, 129, 130, 131, 132, 133, 134, 135, 136, 137, 138, 139, 140, 141] (by decide +kernel) (by decide +kernel)
set_option maxRecDepth 20000 in
theorem gX5_judge_X3_become_n68 : GoodIn wsX5_judge (wsX3_become) := ggX5_judge_X3_become
set_option maxRecDepth 20000 in
theorem ggX5_judge_X5_toldThrowIsIn : GoodIn wsX5_judge wsX5_toldThrowIsIn := goodIn_r _ [29, 1, 30, 31, 32, 28, 33, 2, 34, 6, 35, 36, 21, 37, 38, 39, 40, 41, 42, 43, 44, 45, 46, 47, 48, 49, 50, 51, 52, 53, 54, 55, 56, 57, 58, 59, 60, 61, 62, 63, 64, 65, 66, 67, 68, 23, 69, 70, 71, 72, 73, 24, 74, 75, 76, 77, 22, 78, 79, 80, 81, 82, 83, 16, 84, 85, 86, 87, 88, 89, 90, 91, 92, 93, 94, 95, 96, 97, 98, 99, 10, 11, 100, 101, 102, 103, 104, 105, 106, 107, 108, 109, 110, 111, 17, 112, 113, 114, 18, 20, 19, 13, 115, 116, 117, 118, 119, 120, 121, 122, 123, 124, 125, 126, 127, 128, 129, 130, 131, 132, 133, 134, 135, 136, 137, 138, 139, 140, 141, 142, 143, 144, 145, 146, 147, 148, 149] (by decide +kernel) (by decide +kernel)
set_option maxRecDepth 20000 in
theorem gX5_judge_X5_toldThrowIsIn : GoodIn wsX5_judge (wsV RX5 184 RX5 yX5_toldThrowIsIn wsX5_toldThrowIsIn) := goodIn_app (goodIn_of _ (by decide +kernel)) ggX5_judge_X5_toldThrowIsIn
theorem dX5_judge_0 : decode cX5_judge 0 = .ok (.aload_n 0, 1) := by decide +kernel
theorem dX5_judge_1 : decode cX5_judge 1 = .ok (.getfield 16, 3) := by decide +kernel
theorem dX5_judge_4 : decode cX5_judge 4 = .ok (.aload_n 0, 1) := by decide +kernel
theorem dX5_judge_5 : decode cX5_judge 5 = .ok (.getfield 10, 3) := by decide +kernel
theorem dX5_judge_8 : decode cX5_judge 8 = .ok (.invokevirtual 68, 3) := by decide +kernel
theorem dX5_judge_11 : decode cX5_judge 11 = .ok (.bipush (-9), 2) := by decide +kernel
theorem dX5_judge_13 : decode cX5_judge 13 = .ok (.istore_n 1, 1) := by decide +kernel
theorem dX5_judge_14 : decode cX5_judge 14 = .ok (.iconst 0, 1) := by decide +kernel
theorem dX5_judge_15 : decode cX5_judge 15 = .ok (.istore_n 2, 1) := by decide +kernel
theorem dX5_judge_16 : decode cX5_judge 16 = .ok (.iload_n 2, 1) := by decide +kernel
theorem dX5_judge_17 : decode cX5_judge 17 = .ok (.aload_n 0, 1) := by decide +kernel
theorem dX5_judge_18 : decode cX5_judge 18 = .ok (.getfield 181, 3) := by decide +kernel
theorem dX5_judge_21 : decode cX5_judge 21 = .ok (.if_icmp .ge 36, 3) := by decide +kernel
theorem dX5_judge_24 : decode cX5_judge 24 = .ok (.iload_n 2, 1) := by decide +kernel
theorem dX5_judge_25 : decode cX5_judge 25 = .ok (.bipush 12, 2) := by decide +kernel
theorem dX5_judge_27 : decode cX5_judge 27 = .ok (.if_icmp .ge 30, 3) := by decide +kernel
theorem dX5_judge_30 : decode cX5_judge 30 = .ok (.iload_n 1, 1) := by decide +kernel
theorem dX5_judge_31 : decode cX5_judge 31 = .ok (.bipush (-9), 2) := by decide +kernel
theorem dX5_judge_33 : decode cX5_judge 33 = .ok (.if_icmp .ne 24, 3) := by decide +kernel
theorem dX5_judge_36 : decode cX5_judge 36 = .ok (.aload_n 0, 1) := by decide +kernel
theorem dX5_judge_37 : decode cX5_judge 37 = .ok (.aload_n 0, 1) := by decide +kernel
theorem dX5_judge_38 : decode cX5_judge 38 = .ok (.getfield 50, 3) := by decide +kernel
theorem dX5_judge_41 : decode cX5_judge 41 = .ok (.iload_n 2, 1) := by decide +kernel
theorem dX5_judge_42 : decode cX5_judge 42 = .ok (.iaload, 1) := by decide +kernel
theorem dX5_judge_43 : decode cX5_judge 43 = .ok (.invokevirtual 184, 3) := by decide +kernel
theorem dX5_judge_46 : decode cX5_judge 46 = .ok (.ifCond .ne 5, 3) := by decide +kernel
theorem dX5_judge_49 : decode cX5_judge 49 = .ok (.iload_n 2, 1) := by decide +kernel
theorem dX5_judge_50 : decode cX5_judge 50 = .ok (.istore_n 1, 1) := by decide +kernel
theorem dX5_judge_51 : decode cX5_judge 51 = .ok (.iinc 2 1, 3) := by decide +kernel
theorem dX5_judge_54 : decode cX5_judge 54 = .ok (.goto (-38), 3) := by decide +kernel
theorem dX5_judge_57 : decode cX5_judge 57 = .ok (.aload_n 0, 1) := by decide +kernel
theorem dX5_judge_58 : decode cX5_judge 58 = .ok (.iconst 0, 1) := by decide +kernel
theorem dX5_judge_59 : decode cX5_judge 59 = .ok (.putfield 181, 3) := by decide +kernel
theorem dX5_judge_62 : decode cX5_judge 62 = .ok (.iload_n 1, 1) := by decide +kernel
theorem dX5_judge_63 : decode cX5_judge 63 = .ok (.ireturn, 1) := by decide +kernel
set_option maxRecDepth 20000 in
theorem ggX5_lots_X5_refuse : GoodIn wsX5_lots wsX5_refuse := goodIn_r _ [8, 9, 115, 116, 117, 118, 119, 120, 121, 122, 123, 124, 125] (by decide +kernel) (by decide +kernel)
set_option maxRecDepth 20000 in
theorem gX5_lots_X5_refuse : GoodIn wsX5_lots (wsV RX5 57 RX5 yX5_refuse wsX5_refuse) := goodIn_app (goodIn_of _ (by decide +kernel)) ggX5_lots_X5_refuse
set_option maxRecDepth 20000 in
theorem ggX5_lots_X3_become : GoodIn wsX5_lots wsX3_become := goodIn_r _ [13, 14, 15, 16, 17, 18, 19, 20, 21, 22, 23, 24, 25, 26, 27, 28, 29, 126, 127, 128, 129, 130, 131, 132, 133, 134, 135, 136, 137, 138, 139, 140, 141] (by decide +kernel) (by decide +kernel)
set_option maxRecDepth 20000 in
theorem gX5_lots_X3_become_n68 : GoodIn wsX5_lots (wsX3_become) := ggX5_lots_X3_become
set_option maxRecDepth 20000 in
theorem ggX5_lots_X1_drawBelow : GoodIn wsX5_lots wsX1_drawBelow := goodIn_r _ [33, 34, 35, 36, 37, 142] (by decide +kernel) (by decide +kernel)
set_option maxRecDepth 20000 in
theorem gX5_lots_X1_drawBelow_n190 : GoodIn wsX5_lots (wsX1_drawBelow) := ggX5_lots_X1_drawBelow
set_option maxRecDepth 20000 in
theorem ggX5_lots_X5_thrown : GoodIn wsX5_lots wsX5_thrown := goodIn_r _ [41, 42, 43, 44, 45, 46, 47, 48, 49, 50, 51, 52, 53, 54, 55, 11, 56, 57, 58, 59, 60, 61, 62, 63, 64, 65, 28, 66, 67, 68, 69, 26, 70, 71, 72, 73, 29, 74, 75, 76, 77, 27, 78, 79, 80, 81, 82, 83, 21, 84, 85, 86, 87, 88, 89, 90, 91, 92, 93, 94, 95, 96, 97, 98, 99, 15, 16, 100, 101, 102, 103, 104, 105, 106, 107, 108, 109, 110, 111, 22, 112, 113, 114, 23, 25, 24, 18, 115, 116, 117, 118, 119, 120, 121, 122, 123, 124, 125, 143, 144, 145, 146, 147, 148, 149, 150, 126, 127, 128, 129, 130, 131, 132, 133, 134, 135, 136, 137, 138, 139, 140, 141] (by decide +kernel) (by decide +kernel)
set_option maxRecDepth 20000 in
theorem gX5_lots_X5_thrown : GoodIn wsX5_lots (wsV RX5 132 RX5 yX5_thrown wsX5_thrown) := goodIn_app (goodIn_of _ (by decide +kernel)) ggX5_lots_X5_thrown
theorem dX5_lots_0 : decode cX5_lots 0 = .ok (.iload_n 1, 1) := by decide +kernel
theorem dX5_lots_1 : decode cX5_lots 1 = .ok (.iconst 1, 1) := by decide +kernel
theorem dX5_lots_2 : decode cX5_lots 2 = .ok (.if_icmp .ge 10, 3) := by decide +kernel
theorem dX5_lots_5 : decode cX5_lots 5 = .ok (.aload_n 0, 1) := by decide +kernel
theorem dX5_lots_6 : decode cX5_lots 6 = .ok (.bipush (-4), 2) := by decide +kernel
theorem dX5_lots_8 : decode cX5_lots 8 = .ok (.invokevirtual 57, 3) := by decide +kernel
theorem dX5_lots_11 : decode cX5_lots 11 = .ok (.ireturn, 1) := by decide +kernel
theorem dX5_lots_12 : decode cX5_lots 12 = .ok (.iload_n 1, 1) := by decide +kernel
theorem dX5_lots_13 : decode cX5_lots 13 = .ok (.bipush 30, 2) := by decide +kernel
theorem dX5_lots_15 : decode cX5_lots 15 = .ok (.if_icmp .le 10, 3) := by decide +kernel
theorem dX5_lots_18 : decode cX5_lots 18 = .ok (.aload_n 0, 1) := by decide +kernel
theorem dX5_lots_19 : decode cX5_lots 19 = .ok (.bipush (-6), 2) := by decide +kernel
theorem dX5_lots_21 : decode cX5_lots 21 = .ok (.invokevirtual 57, 3) := by decide +kernel
theorem dX5_lots_24 : decode cX5_lots 24 = .ok (.ireturn, 1) := by decide +kernel
theorem dX5_lots_25 : decode cX5_lots 25 = .ok (.aload_n 0, 1) := by decide +kernel
theorem dX5_lots_26 : decode cX5_lots 26 = .ok (.getfield 10, 3) := by decide +kernel
theorem dX5_lots_29 : decode cX5_lots 29 = .ok (.getfield 156, 3) := by decide +kernel
theorem dX5_lots_32 : decode cX5_lots 32 = .ok (.ifCond .ne 10, 3) := by decide +kernel
theorem dX5_lots_35 : decode cX5_lots 35 = .ok (.aload_n 0, 1) := by decide +kernel
theorem dX5_lots_36 : decode cX5_lots 36 = .ok (.bipush (-3), 2) := by decide +kernel
theorem dX5_lots_38 : decode cX5_lots 38 = .ok (.invokevirtual 57, 3) := by decide +kernel
theorem dX5_lots_41 : decode cX5_lots 41 = .ok (.ireturn, 1) := by decide +kernel
theorem dX5_lots_42 : decode cX5_lots 42 = .ok (.aload_n 0, 1) := by decide +kernel
theorem dX5_lots_43 : decode cX5_lots 43 = .ok (.getfield 16, 3) := by decide +kernel
theorem dX5_lots_46 : decode cX5_lots 46 = .ok (.aload_n 0, 1) := by decide +kernel
theorem dX5_lots_47 : decode cX5_lots 47 = .ok (.getfield 10, 3) := by decide +kernel
theorem dX5_lots_50 : decode cX5_lots 50 = .ok (.invokevirtual 68, 3) := by decide +kernel
theorem dX5_lots_53 : decode cX5_lots 53 = .ok (.aload_n 0, 1) := by decide +kernel
theorem dX5_lots_54 : decode cX5_lots 54 = .ok (.getfield 39, 3) := by decide +kernel
theorem dX5_lots_57 : decode cX5_lots 57 = .ok (.iload_n 2, 1) := by decide +kernel
theorem dX5_lots_58 : decode cX5_lots 58 = .ok (.putfield 187, 3) := by decide +kernel
theorem dX5_lots_61 : decode cX5_lots 61 = .ok (.iconst 0, 1) := by decide +kernel
theorem dX5_lots_62 : decode cX5_lots 62 = .ok (.istore_n 3, 1) := by decide +kernel
theorem dX5_lots_63 : decode cX5_lots 63 = .ok (.iload_n 3, 1) := by decide +kernel
theorem dX5_lots_64 : decode cX5_lots 64 = .ok (.iload_n 1, 1) := by decide +kernel
theorem dX5_lots_65 : decode cX5_lots 65 = .ok (.if_icmp .ge 67, 3) := by decide +kernel
theorem dX5_lots_68 : decode cX5_lots 68 = .ok (.aload_n 0, 1) := by decide +kernel
theorem dX5_lots_69 : decode cX5_lots 69 = .ok (.getfield 39, 3) := by decide +kernel
theorem dX5_lots_72 : decode cX5_lots 72 = .ok (.aload_n 0, 1) := by decide +kernel
theorem dX5_lots_73 : decode cX5_lots 73 = .ok (.getfield 16, 3) := by decide +kernel
theorem dX5_lots_76 : decode cX5_lots 76 = .ok (.getfield 156, 3) := by decide +kernel
theorem dX5_lots_79 : decode cX5_lots 79 = .ok (.invokevirtual 190, 3) := by decide +kernel
theorem dX5_lots_82 : decode cX5_lots 82 = .ok (.istore 4, 2) := by decide +kernel
theorem dX5_lots_84 : decode cX5_lots 84 = .ok (.aload_n 0, 1) := by decide +kernel
theorem dX5_lots_85 : decode cX5_lots 85 = .ok (.getfield 39, 3) := by decide +kernel
theorem dX5_lots_88 : decode cX5_lots 88 = .ok (.bipush 9, 2) := by decide +kernel
theorem dX5_lots_90 : decode cX5_lots 90 = .ok (.invokevirtual 190, 3) := by decide +kernel
theorem dX5_lots_93 : decode cX5_lots 93 = .ok (.iconst 1, 1) := by decide +kernel
theorem dX5_lots_94 : decode cX5_lots 94 = .ok (.iadd, 1) := by decide +kernel
theorem dX5_lots_95 : decode cX5_lots 95 = .ok (.istore 5, 2) := by decide +kernel
theorem dX5_lots_97 : decode cX5_lots 97 = .ok (.aload_n 0, 1) := by decide +kernel
theorem dX5_lots_98 : decode cX5_lots 98 = .ok (.getfield 39, 3) := by decide +kernel
theorem dX5_lots_101 : decode cX5_lots 101 = .ok (.bipush 21, 2) := by decide +kernel
theorem dX5_lots_103 : decode cX5_lots 103 = .ok (.invokevirtual 190, 3) := by decide +kernel
theorem dX5_lots_106 : decode cX5_lots 106 = .ok (.bipush (-5), 2) := by decide +kernel
theorem dX5_lots_108 : decode cX5_lots 108 = .ok (.iadd, 1) := by decide +kernel
theorem dX5_lots_109 : decode cX5_lots 109 = .ok (.istore 6, 2) := by decide +kernel
theorem dX5_lots_111 : decode cX5_lots 111 = .ok (.aload_n 0, 1) := by decide +kernel
theorem dX5_lots_112 : decode cX5_lots 112 = .ok (.aload_n 0, 1) := by decide +kernel
theorem dX5_lots_113 : decode cX5_lots 113 = .ok (.getfield 16, 3) := by decide +kernel
theorem dX5_lots_116 : decode cX5_lots 116 = .ok (.iload 4, 2) := by decide +kernel
theorem dX5_lots_118 : decode cX5_lots 118 = .ok (.iload 5, 2) := by decide +kernel
theorem dX5_lots_120 : decode cX5_lots 120 = .ok (.iload 6, 2) := by decide +kernel
theorem dX5_lots_122 : decode cX5_lots 122 = .ok (.invokevirtual 132, 3) := by decide +kernel
theorem dX5_lots_125 : decode cX5_lots 125 = .ok (.pop, 1) := by decide +kernel
theorem dX5_lots_126 : decode cX5_lots 126 = .ok (.iinc 3 1, 3) := by decide +kernel
theorem dX5_lots_129 : decode cX5_lots 129 = .ok (.goto (-66), 3) := by decide +kernel
theorem dX5_lots_132 : decode cX5_lots 132 = .ok (.aload_n 0, 1) := by decide +kernel
theorem dX5_lots_133 : decode cX5_lots 133 = .ok (.getfield 16, 3) := by decide +kernel
theorem dX5_lots_136 : decode cX5_lots 136 = .ok (.getfield 193, 3) := by decide +kernel
theorem dX5_lots_139 : decode cX5_lots 139 = .ok (.aload_n 0, 1) := by decide +kernel
theorem dX5_lots_140 : decode cX5_lots 140 = .ok (.getfield 10, 3) := by decide +kernel
theorem dX5_lots_143 : decode cX5_lots 143 = .ok (.getfield 193, 3) := by decide +kernel
theorem dX5_lots_146 : decode cX5_lots 146 = .ok (.isub, 1) := by decide +kernel
theorem dX5_lots_147 : decode cX5_lots 147 = .ok (.ireturn, 1) := by decide +kernel
set_option maxRecDepth 20000 in
theorem ggX5_image_X3_become : GoodIn wsX5_image wsX3_become := goodIn_r _ [7, 8, 9, 10, 11, 12, 13, 14, 15, 16, 17, 18, 19, 20, 21, 22, 23, 35, 36, 37, 38, 39, 40, 41, 42, 43, 44, 45, 46, 47, 48, 49, 50] (by decide +kernel) (by decide +kernel)
set_option maxRecDepth 20000 in
theorem gX5_image_X3_become_n68 : GoodIn wsX5_image (wsX3_become) := ggX5_image_X3_become
theorem dX5_image_0 : decode cX5_image 0 = .ok (.aload_n 0, 1) := by decide +kernel
theorem dX5_image_1 : decode cX5_image 1 = .ok (.getfield 19, 3) := by decide +kernel
theorem dX5_image_4 : decode cX5_image 4 = .ok (.aload_n 0, 1) := by decide +kernel
theorem dX5_image_5 : decode cX5_image 5 = .ok (.getfield 10, 3) := by decide +kernel
theorem dX5_image_8 : decode cX5_image 8 = .ok (.invokevirtual 68, 3) := by decide +kernel
theorem dX5_image_11 : decode cX5_image 11 = .ok (.aload_n 0, 1) := by decide +kernel
theorem dX5_image_12 : decode cX5_image 12 = .ok (.iconst 1, 1) := by decide +kernel
theorem dX5_image_13 : decode cX5_image 13 = .ok (.putfield 196, 3) := by decide +kernel
theorem dX5_image_16 : decode cX5_image 16 = .ok (.aload_n 0, 1) := by decide +kernel
theorem dX5_image_17 : decode cX5_image 17 = .ok (.getfield 10, 3) := by decide +kernel
theorem dX5_image_20 : decode cX5_image 20 = .ok (.getfield 129, 3) := by decide +kernel
theorem dX5_image_23 : decode cX5_image 23 = .ok (.ireturn, 1) := by decide +kernel
set_option maxRecDepth 20000 in
theorem ggX5_on_X5_refuse : GoodIn wsX5_on wsX5_refuse := goodIn_r _ [8, 9, 30, 31, 32, 33, 34, 35, 36, 37, 38, 39, 40] (by decide +kernel) (by decide +kernel)
set_option maxRecDepth 20000 in
theorem gX5_on_X5_refuse : GoodIn wsX5_on (wsV RX5 57 RX5 yX5_refuse wsX5_refuse) := goodIn_app (goodIn_of _ (by decide +kernel)) ggX5_on_X5_refuse
set_option maxRecDepth 20000 in
theorem ggX5_on_X3_become : GoodIn wsX5_on wsX3_become := goodIn_r _ [13, 14, 15, 16, 17, 18, 19, 20, 21, 22, 23, 24, 25, 26, 27, 28, 29, 41, 42, 43, 44, 45, 46, 47, 48, 49, 50, 51, 52, 53, 54, 55, 56] (by decide +kernel) (by decide +kernel)
set_option maxRecDepth 20000 in
theorem gX5_on_X3_become_n68 : GoodIn wsX5_on (wsX3_become) := ggX5_on_X3_become
theorem dX5_on_0 : decode cX5_on 0 = .ok (.aload_n 0, 1) := by decide +kernel
theorem dX5_on_1 : decode cX5_on 1 = .ok (.getfield 196, 3) := by decide +kernel
theorem dX5_on_4 : decode cX5_on 4 = .ok (.ifCond .ne 10, 3) := by decide +kernel
theorem dX5_on_7 : decode cX5_on 7 = .ok (.aload_n 0, 1) := by decide +kernel
theorem dX5_on_8 : decode cX5_on 8 = .ok (.bipush (-3), 2) := by decide +kernel
theorem dX5_on_10 : decode cX5_on 10 = .ok (.invokevirtual 57, 3) := by decide +kernel
theorem dX5_on_13 : decode cX5_on 13 = .ok (.ireturn, 1) := by decide +kernel
theorem dX5_on_14 : decode cX5_on 14 = .ok (.aload_n 0, 1) := by decide +kernel
theorem dX5_on_15 : decode cX5_on 15 = .ok (.getfield 10, 3) := by decide +kernel
theorem dX5_on_18 : decode cX5_on 18 = .ok (.aload_n 0, 1) := by decide +kernel
theorem dX5_on_19 : decode cX5_on 19 = .ok (.getfield 19, 3) := by decide +kernel
theorem dX5_on_22 : decode cX5_on 22 = .ok (.invokevirtual 68, 3) := by decide +kernel
theorem dX5_on_25 : decode cX5_on 25 = .ok (.aload_n 0, 1) := by decide +kernel
theorem dX5_on_26 : decode cX5_on 26 = .ok (.getfield 10, 3) := by decide +kernel
theorem dX5_on_29 : decode cX5_on 29 = .ok (.getfield 129, 3) := by decide +kernel
theorem dX5_on_32 : decode cX5_on 32 = .ok (.ireturn, 1) := by decide +kernel
theorem dX5_count_0 : decode cX5_count 0 = .ok (.iload_n 1, 1) := by decide +kernel
theorem dX5_count_1 : decode cX5_count 1 = .ok (.bipush 11, 2) := by decide +kernel
theorem dX5_count_3 : decode cX5_count 3 = .ok (.if_icmp .lt 19, 3) := by decide +kernel
theorem dX5_count_6 : decode cX5_count 6 = .ok (.iload_n 1, 1) := by decide +kernel
theorem dX5_count_7 : decode cX5_count 7 = .ok (.bipush 16, 2) := by decide +kernel
theorem dX5_count_9 : decode cX5_count 9 = .ok (.if_icmp .gt 13, 3) := by decide +kernel
theorem dX5_count_12 : decode cX5_count 12 = .ok (.aload_n 0, 1) := by decide +kernel
theorem dX5_count_13 : decode cX5_count 13 = .ok (.getfield 54, 3) := by decide +kernel
theorem dX5_count_16 : decode cX5_count 16 = .ok (.iload_n 1, 1) := by decide +kernel
theorem dX5_count_17 : decode cX5_count 17 = .ok (.bipush 10, 2) := by decide +kernel
theorem dX5_count_19 : decode cX5_count 19 = .ok (.isub, 1) := by decide +kernel
theorem dX5_count_20 : decode cX5_count 20 = .ok (.iaload, 1) := by decide +kernel
theorem dX5_count_21 : decode cX5_count 21 = .ok (.ireturn, 1) := by decide +kernel
theorem dX5_count_22 : decode cX5_count 22 = .ok (.iload_n 1, 1) := by decide +kernel
theorem dX5_count_23 : decode cX5_count 23 = .ok (.tableswitch 130 0 9 #[53, 61, 69, 77, 85, 93, 101, 109, 117, 122], 53) := by decide +kernel
theorem dX5_count_76 : decode cX5_count 76 = .ok (.aload_n 0, 1) := by decide +kernel
theorem dX5_count_77 : decode cX5_count 77 = .ok (.getfield 10, 3) := by decide +kernel
theorem dX5_count_80 : decode cX5_count 80 = .ok (.getfield 156, 3) := by decide +kernel
theorem dX5_count_83 : decode cX5_count 83 = .ok (.ireturn, 1) := by decide +kernel
theorem dX5_count_84 : decode cX5_count 84 = .ok (.aload_n 0, 1) := by decide +kernel
theorem dX5_count_85 : decode cX5_count 85 = .ok (.getfield 10, 3) := by decide +kernel
theorem dX5_count_88 : decode cX5_count 88 = .ok (.getfield 200, 3) := by decide +kernel
theorem dX5_count_91 : decode cX5_count 91 = .ok (.ireturn, 1) := by decide +kernel
theorem dX5_count_92 : decode cX5_count 92 = .ok (.aload_n 0, 1) := by decide +kernel
theorem dX5_count_93 : decode cX5_count 93 = .ok (.getfield 10, 3) := by decide +kernel
theorem dX5_count_96 : decode cX5_count 96 = .ok (.getfield 136, 3) := by decide +kernel
theorem dX5_count_99 : decode cX5_count 99 = .ok (.ireturn, 1) := by decide +kernel
theorem dX5_count_100 : decode cX5_count 100 = .ok (.aload_n 0, 1) := by decide +kernel
theorem dX5_count_101 : decode cX5_count 101 = .ok (.getfield 10, 3) := by decide +kernel
theorem dX5_count_104 : decode cX5_count 104 = .ok (.getfield 129, 3) := by decide +kernel
theorem dX5_count_107 : decode cX5_count 107 = .ok (.ireturn, 1) := by decide +kernel
theorem dX5_count_108 : decode cX5_count 108 = .ok (.aload_n 0, 1) := by decide +kernel
theorem dX5_count_109 : decode cX5_count 109 = .ok (.getfield 10, 3) := by decide +kernel
theorem dX5_count_112 : decode cX5_count 112 = .ok (.getfield 193, 3) := by decide +kernel
theorem dX5_count_115 : decode cX5_count 115 = .ok (.ireturn, 1) := by decide +kernel
theorem dX5_count_116 : decode cX5_count 116 = .ok (.aload_n 0, 1) := by decide +kernel
theorem dX5_count_117 : decode cX5_count 117 = .ok (.getfield 10, 3) := by decide +kernel
theorem dX5_count_120 : decode cX5_count 120 = .ok (.getfield 203, 3) := by decide +kernel
theorem dX5_count_123 : decode cX5_count 123 = .ok (.ireturn, 1) := by decide +kernel
theorem dX5_count_124 : decode cX5_count 124 = .ok (.aload_n 0, 1) := by decide +kernel
theorem dX5_count_125 : decode cX5_count 125 = .ok (.getfield 10, 3) := by decide +kernel
theorem dX5_count_128 : decode cX5_count 128 = .ok (.getfield 205, 3) := by decide +kernel
theorem dX5_count_131 : decode cX5_count 131 = .ok (.ireturn, 1) := by decide +kernel
theorem dX5_count_132 : decode cX5_count 132 = .ok (.aload_n 0, 1) := by decide +kernel
theorem dX5_count_133 : decode cX5_count 133 = .ok (.getfield 10, 3) := by decide +kernel
theorem dX5_count_136 : decode cX5_count 136 = .ok (.getfield 208, 3) := by decide +kernel
theorem dX5_count_139 : decode cX5_count 139 = .ok (.ireturn, 1) := by decide +kernel
theorem dX5_count_140 : decode cX5_count 140 = .ok (.aload_n 0, 1) := by decide +kernel
theorem dX5_count_141 : decode cX5_count 141 = .ok (.getfield 181, 3) := by decide +kernel
theorem dX5_count_144 : decode cX5_count 144 = .ok (.ireturn, 1) := by decide +kernel
theorem dX5_count_145 : decode cX5_count 145 = .ok (.aload_n 0, 1) := by decide +kernel
theorem dX5_count_146 : decode cX5_count 146 = .ok (.getfield 25, 3) := by decide +kernel
theorem dX5_count_149 : decode cX5_count 149 = .ok (.getfield 211, 3) := by decide +kernel
theorem dX5_count_152 : decode cX5_count 152 = .ok (.ireturn, 1) := by decide +kernel
theorem dX5_count_153 : decode cX5_count 153 = .ok (.bipush (-9), 2) := by decide +kernel
theorem dX5_count_155 : decode cX5_count 155 = .ok (.ireturn, 1) := by decide +kernel
theorem dX5_refuse_0 : decode cX5_refuse 0 = .ok (.iload_n 1, 1) := by decide +kernel
theorem dX5_refuse_1 : decode cX5_refuse 1 = .ok (.ineg, 1) := by decide +kernel
theorem dX5_refuse_2 : decode cX5_refuse 2 = .ok (.istore_n 2, 1) := by decide +kernel
theorem dX5_refuse_3 : decode cX5_refuse 3 = .ok (.iload_n 2, 1) := by decide +kernel
theorem dX5_refuse_4 : decode cX5_refuse 4 = .ok (.ifCond .lt 22, 3) := by decide +kernel
theorem dX5_refuse_7 : decode cX5_refuse 7 = .ok (.iload_n 2, 1) := by decide +kernel
theorem dX5_refuse_8 : decode cX5_refuse 8 = .ok (.aload_n 0, 1) := by decide +kernel
theorem dX5_refuse_9 : decode cX5_refuse 9 = .ok (.getfield 54, 3) := by decide +kernel
theorem dX5_refuse_12 : decode cX5_refuse 12 = .ok (.arraylength, 1) := by decide +kernel
theorem dX5_refuse_13 : decode cX5_refuse 13 = .ok (.if_icmp .ge 13, 3) := by decide +kernel
theorem dX5_refuse_16 : decode cX5_refuse 16 = .ok (.aload_n 0, 1) := by decide +kernel
theorem dX5_refuse_17 : decode cX5_refuse 17 = .ok (.getfield 54, 3) := by decide +kernel
theorem dX5_refuse_20 : decode cX5_refuse 20 = .ok (.iload_n 2, 1) := by decide +kernel
theorem dX5_refuse_21 : decode cX5_refuse 21 = .ok (.dup2, 1) := by decide +kernel
theorem dX5_refuse_22 : decode cX5_refuse 22 = .ok (.iaload, 1) := by decide +kernel
theorem dX5_refuse_23 : decode cX5_refuse 23 = .ok (.iconst 1, 1) := by decide +kernel
theorem dX5_refuse_24 : decode cX5_refuse 24 = .ok (.iadd, 1) := by decide +kernel
theorem dX5_refuse_25 : decode cX5_refuse 25 = .ok (.iastore, 1) := by decide +kernel
theorem dX5_refuse_26 : decode cX5_refuse 26 = .ok (.iload_n 1, 1) := by decide +kernel
theorem dX5_refuse_27 : decode cX5_refuse 27 = .ok (.ireturn, 1) := by decide +kernel
set_option maxRecDepth 20000 in
theorem ggX5_refuseLong_X5_refuse : GoodIn wsX5_refuseLong wsX5_refuse := goodIn_r _ [6, 7, 8, 9, 10, 11, 12, 13, 14, 15, 16, 17, 18] (by decide +kernel) (by decide +kernel)
set_option maxRecDepth 20000 in
theorem gX5_refuseLong_X5_refuse : GoodIn wsX5_refuseLong (wsV RX5 57 RX5 yX5_refuse wsX5_refuse) := goodIn_app (goodIn_of _ (by decide +kernel)) ggX5_refuseLong_X5_refuse
theorem dX5_refuseLong_0 : decode cX5_refuseLong 0 = .ok (.ldc2_w 214, 3) := by decide +kernel
theorem dX5_refuseLong_3 : decode cX5_refuseLong 3 = .ok (.aload_n 0, 1) := by decide +kernel
theorem dX5_refuseLong_4 : decode cX5_refuseLong 4 = .ok (.iload_n 1, 1) := by decide +kernel
theorem dX5_refuseLong_5 : decode cX5_refuseLong 5 = .ok (.invokevirtual 57, 3) := by decide +kernel
theorem dX5_refuseLong_8 : decode cX5_refuseLong 8 = .ok (.i2l, 1) := by decide +kernel
theorem dX5_refuseLong_9 : decode cX5_refuseLong 9 = .ok (.lsub, 1) := by decide +kernel
theorem dX5_refuseLong_10 : decode cX5_refuseLong 10 = .ok (.lreturn, 1) := by decide +kernel
set_option maxRecDepth 20000 in
theorem ggX5_partOfOdds_X5_refuseLong : GoodIn wsX5_partOfOdds wsX5_refuseLong := goodIn_r _ [6, 7, 8, 9, 10, 5, 11, 12, 29, 30, 31, 32, 33, 34, 35, 36, 37, 38, 39] (by decide +kernel) (by decide +kernel)
set_option maxRecDepth 20000 in
theorem gX5_partOfOdds_X5_refuseLong : GoodIn wsX5_partOfOdds (wsV RX5 159 RX5 yX5_refuseLong wsX5_refuseLong) := goodIn_app (goodIn_of _ (by decide +kernel)) ggX5_partOfOdds_X5_refuseLong
set_option maxRecDepth 20000 in
theorem ggX5_partOfOdds_X2_atLeast : GoodIn wsX5_partOfOdds wsX2_atLeast := goodIn_r _ [16, 17, 18, 19, 20, 21, 14, 22, 23, 24, 25, 26, 27, 28, 40, 41] (by decide +kernel) (by decide +kernel)
set_option maxRecDepth 20000 in
theorem gX5_partOfOdds_X2_atLeast_n216 : GoodIn wsX5_partOfOdds (wsX2_atLeast) := ggX5_partOfOdds_X2_atLeast
theorem dX5_partOfOdds_0 : decode cX5_partOfOdds 0 = .ok (.iload 4, 2) := by decide +kernel
theorem dX5_partOfOdds_2 : decode cX5_partOfOdds 2 = .ok (.ifCond .eq 16, 3) := by decide +kernel
theorem dX5_partOfOdds_5 : decode cX5_partOfOdds 5 = .ok (.iload 4, 2) := by decide +kernel
theorem dX5_partOfOdds_7 : decode cX5_partOfOdds 7 = .ok (.iconst 1, 1) := by decide +kernel
theorem dX5_partOfOdds_8 : decode cX5_partOfOdds 8 = .ok (.if_icmp .eq 10, 3) := by decide +kernel
theorem dX5_partOfOdds_11 : decode cX5_partOfOdds 11 = .ok (.aload_n 0, 1) := by decide +kernel
theorem dX5_partOfOdds_12 : decode cX5_partOfOdds 12 = .ok (.bipush (-2), 2) := by decide +kernel
theorem dX5_partOfOdds_14 : decode cX5_partOfOdds 14 = .ok (.invokevirtual 159, 3) := by decide +kernel
theorem dX5_partOfOdds_17 : decode cX5_partOfOdds 17 = .ok (.lreturn, 1) := by decide +kernel
theorem dX5_partOfOdds_18 : decode cX5_partOfOdds 18 = .ok (.aload_n 0, 1) := by decide +kernel
theorem dX5_partOfOdds_19 : decode cX5_partOfOdds 19 = .ok (.getfield 46, 3) := by decide +kernel
theorem dX5_partOfOdds_22 : decode cX5_partOfOdds 22 = .ok (.iload_n 1, 1) := by decide +kernel
theorem dX5_partOfOdds_23 : decode cX5_partOfOdds 23 = .ok (.iload_n 2, 1) := by decide +kernel
theorem dX5_partOfOdds_24 : decode cX5_partOfOdds 24 = .ok (.iload_n 3, 1) := by decide +kernel
theorem dX5_partOfOdds_25 : decode cX5_partOfOdds 25 = .ok (.invokevirtual 216, 3) := by decide +kernel
theorem dX5_partOfOdds_28 : decode cX5_partOfOdds 28 = .ok (.iload 4, 2) := by decide +kernel
theorem dX5_partOfOdds_30 : decode cX5_partOfOdds 30 = .ok (.ifCond .ne 13, 3) := by decide +kernel
theorem dX5_partOfOdds_33 : decode cX5_partOfOdds 33 = .ok (.aload_n 0, 1) := by decide +kernel
theorem dX5_partOfOdds_34 : decode cX5_partOfOdds 34 = .ok (.getfield 46, 3) := by decide +kernel
theorem dX5_partOfOdds_37 : decode cX5_partOfOdds 37 = .ok (.getfield 220, 3) := by decide +kernel
theorem dX5_partOfOdds_40 : decode cX5_partOfOdds 40 = .ok (.goto 10, 3) := by decide +kernel
theorem dX5_partOfOdds_43 : decode cX5_partOfOdds 43 = .ok (.aload_n 0, 1) := by decide +kernel
theorem dX5_partOfOdds_44 : decode cX5_partOfOdds 44 = .ok (.getfield 46, 3) := by decide +kernel
theorem dX5_partOfOdds_47 : decode cX5_partOfOdds 47 = .ok (.getfield 224, 3) := by decide +kernel
theorem dX5_partOfOdds_50 : decode cX5_partOfOdds 50 = .ok (.lreturn, 1) := by decide +kernel
set_option maxRecDepth 20000 in
theorem ggX5_refusalOfThrow_X3_hasBall : GoodIn wsX5_refusalOfThrow wsX3_hasBall := goodIn_r _ [5, 6, 23, 24, 25, 26, 27, 28, 29, 30, 31, 32, 33, 34, 35, 36, 37, 38] (by decide +kernel) (by decide +kernel)
set_option maxRecDepth 20000 in
theorem gX5_refusalOfThrow_X3_hasBall_n79 : GoodIn wsX5_refusalOfThrow (wsX3_hasBall) := ggX5_refusalOfThrow_X3_hasBall
set_option maxRecDepth 20000 in
theorem ggX5_refusalOfThrow_X5_refusalOfPaceAndRise : GoodIn wsX5_refusalOfThrow wsX5_refusalOfPaceAndRise := goodIn_r _ [11] (by decide +kernel) (by decide +kernel)
set_option maxRecDepth 20000 in
theorem gX5_refusalOfThrow_X5_refusalOfPaceAndRise : GoodIn wsX5_refusalOfThrow (wsV RX5 153 RX5 yX5_refusalOfPaceAndRise wsX5_refusalOfPaceAndRise) := goodIn_app (goodIn_of _ (by decide +kernel)) ggX5_refusalOfThrow_X5_refusalOfPaceAndRise
theorem dX5_refusalOfThrow_0 : decode cX5_refusalOfThrow 0 = .ok (.aload_n 0, 1) := by decide +kernel
theorem dX5_refusalOfThrow_1 : decode cX5_refusalOfThrow 1 = .ok (.getfield 10, 3) := by decide +kernel
theorem dX5_refusalOfThrow_4 : decode cX5_refusalOfThrow 4 = .ok (.iload_n 1, 1) := by decide +kernel
theorem dX5_refusalOfThrow_5 : decode cX5_refusalOfThrow 5 = .ok (.invokevirtual 79, 3) := by decide +kernel
theorem dX5_refusalOfThrow_8 : decode cX5_refusalOfThrow 8 = .ok (.ifCond .eq 12, 3) := by decide +kernel
theorem dX5_refusalOfThrow_11 : decode cX5_refusalOfThrow 11 = .ok (.aload_n 0, 1) := by decide +kernel
theorem dX5_refusalOfThrow_12 : decode cX5_refusalOfThrow 12 = .ok (.iload_n 2, 1) := by decide +kernel
theorem dX5_refusalOfThrow_13 : decode cX5_refusalOfThrow 13 = .ok (.iload_n 3, 1) := by decide +kernel
theorem dX5_refusalOfThrow_14 : decode cX5_refusalOfThrow 14 = .ok (.invokevirtual 153, 3) := by decide +kernel
theorem dX5_refusalOfThrow_17 : decode cX5_refusalOfThrow 17 = .ok (.goto 4, 3) := by decide +kernel
theorem dX5_refusalOfThrow_20 : decode cX5_refusalOfThrow 20 = .ok (.iconst (-1), 1) := by decide +kernel
theorem dX5_refusalOfThrow_21 : decode cX5_refusalOfThrow 21 = .ok (.ireturn, 1) := by decide +kernel
theorem dX5_refusalOfPaceAndRise_0 : decode cX5_refusalOfPaceAndRise 0 = .ok (.iload_n 1, 1) := by decide +kernel
theorem dX5_refusalOfPaceAndRise_1 : decode cX5_refusalOfPaceAndRise 1 = .ok (.iconst 1, 1) := by decide +kernel
theorem dX5_refusalOfPaceAndRise_2 : decode cX5_refusalOfPaceAndRise 2 = .ok (.if_icmp .lt 9, 3) := by decide +kernel
theorem dX5_refusalOfPaceAndRise_5 : decode cX5_refusalOfPaceAndRise 5 = .ok (.iload_n 2, 1) := by decide +kernel
theorem dX5_refusalOfPaceAndRise_6 : decode cX5_refusalOfPaceAndRise 6 = .ok (.bipush (-5), 2) := by decide +kernel
theorem dX5_refusalOfPaceAndRise_8 : decode cX5_refusalOfPaceAndRise 8 = .ok (.if_icmp .ge 6, 3) := by decide +kernel
theorem dX5_refusalOfPaceAndRise_11 : decode cX5_refusalOfPaceAndRise 11 = .ok (.bipush (-4), 2) := by decide +kernel
theorem dX5_refusalOfPaceAndRise_13 : decode cX5_refusalOfPaceAndRise 13 = .ok (.ireturn, 1) := by decide +kernel
theorem dX5_refusalOfPaceAndRise_14 : decode cX5_refusalOfPaceAndRise 14 = .ok (.iload_n 1, 1) := by decide +kernel
theorem dX5_refusalOfPaceAndRise_15 : decode cX5_refusalOfPaceAndRise 15 = .ok (.bipush 9, 2) := by decide +kernel
theorem dX5_refusalOfPaceAndRise_17 : decode cX5_refusalOfPaceAndRise 17 = .ok (.if_icmp .gt 9, 3) := by decide +kernel
theorem dX5_refusalOfPaceAndRise_20 : decode cX5_refusalOfPaceAndRise 20 = .ok (.iload_n 2, 1) := by decide +kernel
theorem dX5_refusalOfPaceAndRise_21 : decode cX5_refusalOfPaceAndRise 21 = .ok (.bipush 15, 2) := by decide +kernel
theorem dX5_refusalOfPaceAndRise_23 : decode cX5_refusalOfPaceAndRise 23 = .ok (.if_icmp .le 8, 3) := by decide +kernel
theorem dX5_refusalOfPaceAndRise_26 : decode cX5_refusalOfPaceAndRise 26 = .ok (.bipush (-6), 2) := by decide +kernel
theorem dX5_refusalOfPaceAndRise_28 : decode cX5_refusalOfPaceAndRise 28 = .ok (.goto 4, 3) := by decide +kernel
theorem dX5_refusalOfPaceAndRise_31 : decode cX5_refusalOfPaceAndRise 31 = .ok (.iconst 0, 1) := by decide +kernel
theorem dX5_refusalOfPaceAndRise_32 : decode cX5_refusalOfPaceAndRise 32 = .ok (.ireturn, 1) := by decide +kernel
set_option maxRecDepth 20000 in
theorem ggX5_refusalOfBallAndPart_X3_hasBall : GoodIn wsX5_refusalOfBallAndPart wsX3_hasBall := goodIn_r _ [5, 6, 18, 19, 20, 21, 22, 23, 24, 25, 26, 27, 28, 29, 30, 31, 32, 33] (by decide +kernel) (by decide +kernel)
set_option maxRecDepth 20000 in
theorem gX5_refusalOfBallAndPart_X3_hasBall_n79 : GoodIn wsX5_refusalOfBallAndPart (wsX3_hasBall) := ggX5_refusalOfBallAndPart_X3_hasBall
theorem dX5_refusalOfBallAndPart_0 : decode cX5_refusalOfBallAndPart 0 = .ok (.aload_n 0, 1) := by decide +kernel
theorem dX5_refusalOfBallAndPart_1 : decode cX5_refusalOfBallAndPart 1 = .ok (.getfield 10, 3) := by decide +kernel
theorem dX5_refusalOfBallAndPart_4 : decode cX5_refusalOfBallAndPart 4 = .ok (.iload_n 1, 1) := by decide +kernel
theorem dX5_refusalOfBallAndPart_5 : decode cX5_refusalOfBallAndPart 5 = .ok (.invokevirtual 79, 3) := by decide +kernel
theorem dX5_refusalOfBallAndPart_8 : decode cX5_refusalOfBallAndPart 8 = .ok (.ifCond .ne 5, 3) := by decide +kernel
theorem dX5_refusalOfBallAndPart_11 : decode cX5_refusalOfBallAndPart 11 = .ok (.iconst (-1), 1) := by decide +kernel
theorem dX5_refusalOfBallAndPart_12 : decode cX5_refusalOfBallAndPart 12 = .ok (.ireturn, 1) := by decide +kernel
theorem dX5_refusalOfBallAndPart_13 : decode cX5_refusalOfBallAndPart 13 = .ok (.iload_n 2, 1) := by decide +kernel
theorem dX5_refusalOfBallAndPart_14 : decode cX5_refusalOfBallAndPart 14 = .ok (.ifCond .eq 8, 3) := by decide +kernel
theorem dX5_refusalOfBallAndPart_17 : decode cX5_refusalOfBallAndPart 17 = .ok (.iload_n 2, 1) := by decide +kernel
theorem dX5_refusalOfBallAndPart_18 : decode cX5_refusalOfBallAndPart 18 = .ok (.iconst 1, 1) := by decide +kernel
theorem dX5_refusalOfBallAndPart_19 : decode cX5_refusalOfBallAndPart 19 = .ok (.if_icmp .ne 7, 3) := by decide +kernel
theorem dX5_refusalOfBallAndPart_22 : decode cX5_refusalOfBallAndPart 22 = .ok (.iconst 0, 1) := by decide +kernel
theorem dX5_refusalOfBallAndPart_23 : decode cX5_refusalOfBallAndPart 23 = .ok (.goto 5, 3) := by decide +kernel
theorem dX5_refusalOfBallAndPart_26 : decode cX5_refusalOfBallAndPart 26 = .ok (.bipush (-2), 2) := by decide +kernel
theorem dX5_refusalOfBallAndPart_28 : decode cX5_refusalOfBallAndPart 28 = .ok (.ireturn, 1) := by decide +kernel
set_option maxRecDepth 20000 in
theorem ggX5_endsIn_X0_run : GoodIn wsX5_endsIn wsX0_run := goodIn_r _ [5, 6, 7, 8, 9, 10, 11, 12, 13, 14, 15, 16, 17, 18, 19, 20, 21, 22, 23, 24, 25, 26, 27, 28, 29, 30, 31, 32, 33, 34, 35, 36, 37, 38, 39, 40, 41, 42, 43, 44, 45, 46, 47, 48, 49, 50, 51, 3, 52, 53, 54, 55, 56, 57, 58, 59, 60, 61, 62, 63, 64, 65, 66, 67, 68, 69, 70, 71, 72, 73, 74, 75, 76, 77, 78, 79, 91, 92, 93, 94, 95, 96, 97, 98, 99, 100, 101, 102, 103, 104, 105, 106, 107, 108, 109, 110, 111, 112, 113, 114] (by decide +kernel) (by decide +kernel)
set_option maxRecDepth 20000 in
theorem gX5_endsIn_X0_run_n109 : GoodIn wsX5_endsIn (wsX0_run) := ggX5_endsIn_X0_run
theorem dX5_endsIn_0 : decode cX5_endsIn 0 = .ok (.aload_n 0, 1) := by decide +kernel
theorem dX5_endsIn_1 : decode cX5_endsIn 1 = .ok (.getfield 32, 3) := by decide +kernel
theorem dX5_endsIn_4 : decode cX5_endsIn 4 = .ok (.aload_n 1, 1) := by decide +kernel
theorem dX5_endsIn_5 : decode cX5_endsIn 5 = .ok (.iload_n 2, 1) := by decide +kernel
theorem dX5_endsIn_6 : decode cX5_endsIn 6 = .ok (.iload_n 3, 1) := by decide +kernel
theorem dX5_endsIn_7 : decode cX5_endsIn 7 = .ok (.iload 4, 2) := by decide +kernel
theorem dX5_endsIn_9 : decode cX5_endsIn 9 = .ok (.invokevirtual 109, 3) := by decide +kernel
theorem dX5_endsIn_12 : decode cX5_endsIn 12 = .ok (.aload_n 0, 1) := by decide +kernel
theorem dX5_endsIn_13 : decode cX5_endsIn 13 = .ok (.getfield 32, 3) := by decide +kernel
theorem dX5_endsIn_16 : decode cX5_endsIn 16 = .ok (.getfield 113, 3) := by decide +kernel
theorem dX5_endsIn_19 : decode cX5_endsIn 19 = .ok (.ifCond .ne 7, 3) := by decide +kernel
theorem dX5_endsIn_22 : decode cX5_endsIn 22 = .ok (.iconst 1, 1) := by decide +kernel
theorem dX5_endsIn_23 : decode cX5_endsIn 23 = .ok (.goto 4, 3) := by decide +kernel
theorem dX5_endsIn_26 : decode cX5_endsIn 26 = .ok (.iconst 0, 1) := by decide +kernel
theorem dX5_endsIn_27 : decode cX5_endsIn 27 = .ok (.ireturn, 1) := by decide +kernel
set_option maxRecDepth 20000 in
theorem ggX5_thrown_X0_run : GoodIn wsX5_thrown wsX0_run := goodIn_r _ [5, 6, 7, 8, 9, 10, 11, 12, 13, 14, 15, 16, 17, 18, 19, 20, 21, 22, 23, 24, 25, 26, 27, 28, 29, 30, 31, 32, 33, 34, 35, 36, 37, 38, 39, 40, 41, 42, 43, 44, 45, 46, 47, 48, 49, 50, 51, 3, 52, 53, 54, 55, 56, 57, 58, 59, 60, 61, 62, 63, 64, 65, 66, 67, 68, 69, 70, 71, 72, 73, 74, 75, 76, 77, 78, 79, 98, 99, 100, 101, 102, 103, 104, 105, 106, 107, 108, 109, 110, 111, 112, 113, 114, 115, 116, 117, 118, 119, 120, 121] (by decide +kernel) (by decide +kernel)
set_option maxRecDepth 20000 in
theorem gX5_thrown_X0_run_n109 : GoodIn wsX5_thrown (wsX0_run) := ggX5_thrown_X0_run
set_option maxRecDepth 20000 in
theorem ggX5_thrown_X3_noteThrow : GoodIn wsX5_thrown wsX3_noteThrow := goodIn_r _ [82, 83, 84, 85, 86, 106, 107, 108, 109, 110, 111, 112, 113, 114, 115, 116, 117, 118, 119, 120, 121] (by decide +kernel) (by decide +kernel)
set_option maxRecDepth 20000 in
theorem gX5_thrown_X3_noteThrow_n227 : GoodIn wsX5_thrown (wsX3_noteThrow) := ggX5_thrown_X3_noteThrow
theorem dX5_thrown_0 : decode cX5_thrown 0 = .ok (.aload_n 0, 1) := by decide +kernel
theorem dX5_thrown_1 : decode cX5_thrown 1 = .ok (.getfield 32, 3) := by decide +kernel
theorem dX5_thrown_4 : decode cX5_thrown 4 = .ok (.aload_n 1, 1) := by decide +kernel
theorem dX5_thrown_5 : decode cX5_thrown 5 = .ok (.iload_n 2, 1) := by decide +kernel
theorem dX5_thrown_6 : decode cX5_thrown 6 = .ok (.iload_n 3, 1) := by decide +kernel
theorem dX5_thrown_7 : decode cX5_thrown 7 = .ok (.iload 4, 2) := by decide +kernel
theorem dX5_thrown_9 : decode cX5_thrown 9 = .ok (.invokevirtual 109, 3) := by decide +kernel
theorem dX5_thrown_12 : decode cX5_thrown 12 = .ok (.aload_n 1, 1) := by decide +kernel
theorem dX5_thrown_13 : decode cX5_thrown 13 = .ok (.aload_n 0, 1) := by decide +kernel
theorem dX5_thrown_14 : decode cX5_thrown 14 = .ok (.getfield 32, 3) := by decide +kernel
theorem dX5_thrown_17 : decode cX5_thrown 17 = .ok (.getfield 113, 3) := by decide +kernel
theorem dX5_thrown_20 : decode cX5_thrown 20 = .ok (.invokevirtual 227, 3) := by decide +kernel
theorem dX5_thrown_23 : decode cX5_thrown 23 = .ok (.aload_n 0, 1) := by decide +kernel
theorem dX5_thrown_24 : decode cX5_thrown 24 = .ok (.getfield 32, 3) := by decide +kernel
theorem dX5_thrown_27 : decode cX5_thrown 27 = .ok (.getfield 113, 3) := by decide +kernel
theorem dX5_thrown_30 : decode cX5_thrown 30 = .ok (.ireturn, 1) := by decide +kernel
set_option maxRecDepth 20000 in
theorem ggX5_goodWithSlips_X5_endsIn : GoodIn wsX5_goodWithSlips wsX5_endsIn := goodIn_r _ [6, 7, 8, 9, 10, 11, 12, 13, 14, 15, 16, 17, 18, 19, 20, 21, 22, 23, 24, 25, 26, 27, 28, 29, 30, 31, 32, 33, 34, 35, 36, 37, 38, 39, 40, 41, 42, 43, 44, 45, 46, 47, 48, 49, 50, 51, 52, 53, 54, 55, 56, 57, 58, 59, 60, 61, 62, 63, 64, 65, 66, 67, 68, 69, 70, 71, 72, 73, 74, 75, 76, 77, 78, 79, 80, 81, 82, 83, 84, 85, 86, 87, 88, 89, 90, 91, 92, 93, 94, 95, 96, 97, 98, 99, 100, 101, 102, 103, 104, 105, 106, 107, 108, 109, 110, 111, 112, 113, 114, 115, 116, 117, 118, 119, 120] (by decide +kernel) (by decide +kernel)
set_option maxRecDepth 20000 in
theorem gX5_goodWithSlips_X5_endsIn : GoodIn wsX5_goodWithSlips (wsV RX5 146 RX5 yX5_endsIn wsX5_endsIn) := goodIn_app (goodIn_of _ (by decide +kernel)) ggX5_goodWithSlips_X5_endsIn
theorem dX5_goodWithSlips_0 : decode cX5_goodWithSlips 0 = .ok (.iconst 0, 1) := by decide +kernel
theorem dX5_goodWithSlips_1 : decode cX5_goodWithSlips 1 = .ok (.istore 4, 2) := by decide +kernel
theorem dX5_goodWithSlips_3 : decode cX5_goodWithSlips 3 = .ok (.iload_n 2, 1) := by decide +kernel
theorem dX5_goodWithSlips_4 : decode cX5_goodWithSlips 4 = .ok (.iconst 1, 1) := by decide +kernel
theorem dX5_goodWithSlips_5 : decode cX5_goodWithSlips 5 = .ok (.isub, 1) := by decide +kernel
theorem dX5_goodWithSlips_6 : decode cX5_goodWithSlips 6 = .ok (.istore 5, 2) := by decide +kernel
theorem dX5_goodWithSlips_8 : decode cX5_goodWithSlips 8 = .ok (.iload 5, 2) := by decide +kernel
theorem dX5_goodWithSlips_10 : decode cX5_goodWithSlips 10 = .ok (.iload_n 2, 1) := by decide +kernel
theorem dX5_goodWithSlips_11 : decode cX5_goodWithSlips 11 = .ok (.iconst 1, 1) := by decide +kernel
theorem dX5_goodWithSlips_12 : decode cX5_goodWithSlips 12 = .ok (.iadd, 1) := by decide +kernel
theorem dX5_goodWithSlips_13 : decode cX5_goodWithSlips 13 = .ok (.if_icmp .gt 47, 3) := by decide +kernel
theorem dX5_goodWithSlips_16 : decode cX5_goodWithSlips 16 = .ok (.iload_n 3, 1) := by decide +kernel
theorem dX5_goodWithSlips_17 : decode cX5_goodWithSlips 17 = .ok (.iconst 1, 1) := by decide +kernel
theorem dX5_goodWithSlips_18 : decode cX5_goodWithSlips 18 = .ok (.isub, 1) := by decide +kernel
theorem dX5_goodWithSlips_19 : decode cX5_goodWithSlips 19 = .ok (.istore 6, 2) := by decide +kernel
theorem dX5_goodWithSlips_21 : decode cX5_goodWithSlips 21 = .ok (.iload 6, 2) := by decide +kernel
theorem dX5_goodWithSlips_23 : decode cX5_goodWithSlips 23 = .ok (.iload_n 3, 1) := by decide +kernel
theorem dX5_goodWithSlips_24 : decode cX5_goodWithSlips 24 = .ok (.iconst 1, 1) := by decide +kernel
theorem dX5_goodWithSlips_25 : decode cX5_goodWithSlips 25 = .ok (.iadd, 1) := by decide +kernel
theorem dX5_goodWithSlips_26 : decode cX5_goodWithSlips 26 = .ok (.if_icmp .gt 28, 3) := by decide +kernel
theorem dX5_goodWithSlips_29 : decode cX5_goodWithSlips 29 = .ok (.aload_n 0, 1) := by decide +kernel
theorem dX5_goodWithSlips_30 : decode cX5_goodWithSlips 30 = .ok (.aload_n 0, 1) := by decide +kernel
theorem dX5_goodWithSlips_31 : decode cX5_goodWithSlips 31 = .ok (.getfield 10, 3) := by decide +kernel
theorem dX5_goodWithSlips_34 : decode cX5_goodWithSlips 34 = .ok (.iload_n 1, 1) := by decide +kernel
theorem dX5_goodWithSlips_35 : decode cX5_goodWithSlips 35 = .ok (.iload 5, 2) := by decide +kernel
theorem dX5_goodWithSlips_37 : decode cX5_goodWithSlips 37 = .ok (.iload 6, 2) := by decide +kernel
theorem dX5_goodWithSlips_39 : decode cX5_goodWithSlips 39 = .ok (.invokevirtual 146, 3) := by decide +kernel
theorem dX5_goodWithSlips_42 : decode cX5_goodWithSlips 42 = .ok (.ifCond .eq 6, 3) := by decide +kernel
theorem dX5_goodWithSlips_45 : decode cX5_goodWithSlips 45 = .ok (.iinc 4 1, 3) := by decide +kernel
theorem dX5_goodWithSlips_48 : decode cX5_goodWithSlips 48 = .ok (.iinc 6 1, 3) := by decide +kernel
theorem dX5_goodWithSlips_51 : decode cX5_goodWithSlips 51 = .ok (.goto (-30), 3) := by decide +kernel
theorem dX5_goodWithSlips_54 : decode cX5_goodWithSlips 54 = .ok (.iinc 5 1, 3) := by decide +kernel
theorem dX5_goodWithSlips_57 : decode cX5_goodWithSlips 57 = .ok (.goto (-49), 3) := by decide +kernel
theorem dX5_goodWithSlips_60 : decode cX5_goodWithSlips 60 = .ok (.iload 4, 2) := by decide +kernel
theorem dX5_goodWithSlips_62 : decode cX5_goodWithSlips 62 = .ok (.ireturn, 1) := by decide +kernel
theorem dX5_struckAsAsked_0 : decode cX5_struckAsAsked 0 = .ok (.iload_n 1, 1) := by decide +kernel
theorem dX5_struckAsAsked_1 : decode cX5_struckAsAsked 1 = .ok (.ifCond .ne 23, 3) := by decide +kernel
theorem dX5_struckAsAsked_4 : decode cX5_struckAsAsked 4 = .ok (.aload_n 0, 1) := by decide +kernel
theorem dX5_struckAsAsked_5 : decode cX5_struckAsAsked 5 = .ok (.getfield 32, 3) := by decide +kernel
theorem dX5_struckAsAsked_8 : decode cX5_struckAsAsked 8 = .ok (.getfield 126, 3) := by decide +kernel
theorem dX5_struckAsAsked_11 : decode cX5_struckAsAsked 11 = .ok (.iconst 2, 1) := by decide +kernel
theorem dX5_struckAsAsked_12 : decode cX5_struckAsAsked 12 = .ok (.iand, 1) := by decide +kernel
theorem dX5_struckAsAsked_13 : decode cX5_struckAsAsked 13 = .ok (.ifCond .eq 7, 3) := by decide +kernel
theorem dX5_struckAsAsked_16 : decode cX5_struckAsAsked 16 = .ok (.iconst 1, 1) := by decide +kernel
theorem dX5_struckAsAsked_17 : decode cX5_struckAsAsked 17 = .ok (.goto 22, 3) := by decide +kernel
theorem dX5_struckAsAsked_20 : decode cX5_struckAsAsked 20 = .ok (.iconst 0, 1) := by decide +kernel
theorem dX5_struckAsAsked_21 : decode cX5_struckAsAsked 21 = .ok (.goto 18, 3) := by decide +kernel
theorem dX5_struckAsAsked_24 : decode cX5_struckAsAsked 24 = .ok (.aload_n 0, 1) := by decide +kernel
theorem dX5_struckAsAsked_25 : decode cX5_struckAsAsked 25 = .ok (.getfield 32, 3) := by decide +kernel
theorem dX5_struckAsAsked_28 : decode cX5_struckAsAsked 28 = .ok (.getfield 126, 3) := by decide +kernel
theorem dX5_struckAsAsked_31 : decode cX5_struckAsAsked 31 = .ok (.ifCond .ne 7, 3) := by decide +kernel
theorem dX5_struckAsAsked_34 : decode cX5_struckAsAsked 34 = .ok (.iconst 1, 1) := by decide +kernel
theorem dX5_struckAsAsked_35 : decode cX5_struckAsAsked 35 = .ok (.goto 4, 3) := by decide +kernel
theorem dX5_struckAsAsked_38 : decode cX5_struckAsAsked 38 = .ok (.iconst 0, 1) := by decide +kernel
theorem dX5_struckAsAsked_39 : decode cX5_struckAsAsked 39 = .ok (.ireturn, 1) := by decide +kernel
set_option maxRecDepth 20000 in
theorem ggX5_someThrowEndsIn_X5_endsIn : GoodIn wsX5_someThrowEndsIn wsX5_endsIn := goodIn_r _ [5, 6, 7, 8, 9, 10, 11, 12, 13, 14, 15, 16, 17, 18, 19, 20, 21, 22, 23, 24, 25, 26, 27, 28, 29, 30, 31, 32, 33, 34, 35, 36, 37, 38, 39, 40, 41, 42, 43, 44, 45, 46, 47, 48, 49, 50, 51, 52, 53, 54, 55, 56, 57, 58, 59, 60, 61, 62, 63, 64, 65, 66, 67, 68, 69, 70, 71, 72, 73, 74, 75, 76, 77, 78, 79, 80, 81, 82, 83, 84, 85, 86, 87, 88, 89, 90, 91, 92, 93, 94, 95, 96, 97, 98, 99, 100, 101, 102, 103, 104, 105, 106, 107, 108, 109, 110, 111, 112, 113, 114, 115, 116, 117, 118, 119] (by decide +kernel) (by decide +kernel)
set_option maxRecDepth 20000 in
theorem gX5_someThrowEndsIn_X5_endsIn : GoodIn wsX5_someThrowEndsIn (wsV RX5 146 RX5 yX5_endsIn wsX5_endsIn) := goodIn_app (goodIn_of _ (by decide +kernel)) ggX5_someThrowEndsIn_X5_endsIn
theorem dX5_someThrowEndsIn_0 : decode cX5_someThrowEndsIn 0 = .ok (.iconst 1, 1) := by decide +kernel
theorem dX5_someThrowEndsIn_1 : decode cX5_someThrowEndsIn 1 = .ok (.istore_n 3, 1) := by decide +kernel
theorem dX5_someThrowEndsIn_2 : decode cX5_someThrowEndsIn 2 = .ok (.iload_n 3, 1) := by decide +kernel
theorem dX5_someThrowEndsIn_3 : decode cX5_someThrowEndsIn 3 = .ok (.bipush 9, 2) := by decide +kernel
theorem dX5_someThrowEndsIn_5 : decode cX5_someThrowEndsIn 5 = .ok (.if_icmp .gt 40, 3) := by decide +kernel
theorem dX5_someThrowEndsIn_8 : decode cX5_someThrowEndsIn 8 = .ok (.bipush (-5), 2) := by decide +kernel
theorem dX5_someThrowEndsIn_10 : decode cX5_someThrowEndsIn 10 = .ok (.istore 4, 2) := by decide +kernel
theorem dX5_someThrowEndsIn_12 : decode cX5_someThrowEndsIn 12 = .ok (.iload 4, 2) := by decide +kernel
theorem dX5_someThrowEndsIn_14 : decode cX5_someThrowEndsIn 14 = .ok (.bipush 15, 2) := by decide +kernel
theorem dX5_someThrowEndsIn_16 : decode cX5_someThrowEndsIn 16 = .ok (.if_icmp .gt 23, 3) := by decide +kernel
theorem dX5_someThrowEndsIn_19 : decode cX5_someThrowEndsIn 19 = .ok (.aload_n 0, 1) := by decide +kernel
theorem dX5_someThrowEndsIn_20 : decode cX5_someThrowEndsIn 20 = .ok (.aload_n 1, 1) := by decide +kernel
theorem dX5_someThrowEndsIn_21 : decode cX5_someThrowEndsIn 21 = .ok (.iload_n 2, 1) := by decide +kernel
theorem dX5_someThrowEndsIn_22 : decode cX5_someThrowEndsIn 22 = .ok (.iload_n 3, 1) := by decide +kernel
theorem dX5_someThrowEndsIn_23 : decode cX5_someThrowEndsIn 23 = .ok (.iload 4, 2) := by decide +kernel
theorem dX5_someThrowEndsIn_25 : decode cX5_someThrowEndsIn 25 = .ok (.invokevirtual 146, 3) := by decide +kernel
theorem dX5_someThrowEndsIn_28 : decode cX5_someThrowEndsIn 28 = .ok (.ifCond .eq 5, 3) := by decide +kernel
theorem dX5_someThrowEndsIn_31 : decode cX5_someThrowEndsIn 31 = .ok (.iconst 1, 1) := by decide +kernel
theorem dX5_someThrowEndsIn_32 : decode cX5_someThrowEndsIn 32 = .ok (.ireturn, 1) := by decide +kernel
theorem dX5_someThrowEndsIn_33 : decode cX5_someThrowEndsIn 33 = .ok (.iinc 4 1, 3) := by decide +kernel
theorem dX5_someThrowEndsIn_36 : decode cX5_someThrowEndsIn 36 = .ok (.goto (-24), 3) := by decide +kernel
theorem dX5_someThrowEndsIn_39 : decode cX5_someThrowEndsIn 39 = .ok (.iinc 3 1, 3) := by decide +kernel
theorem dX5_someThrowEndsIn_42 : decode cX5_someThrowEndsIn 42 = .ok (.goto (-40), 3) := by decide +kernel
theorem dX5_someThrowEndsIn_45 : decode cX5_someThrowEndsIn 45 = .ok (.iconst 0, 1) := by decide +kernel
theorem dX5_someThrowEndsIn_46 : decode cX5_someThrowEndsIn 46 = .ok (.ireturn, 1) := by decide +kernel
set_option maxRecDepth 20000 in
theorem ggX5_toldThrowIsIn_X5_refusalOfThrow : GoodIn wsX5_toldThrowIsIn wsX5_refusalOfThrow := goodIn_r _ [6, 7, 8, 9, 10, 11, 12, 13, 14, 15, 5, 16, 102, 103, 104, 105, 106, 107, 108, 109, 110, 111, 112, 113, 114, 115, 116, 117, 118, 119, 120, 121, 122, 123, 124, 125, 126, 127, 128] (by decide +kernel) (by decide +kernel)
set_option maxRecDepth 20000 in
theorem gX5_toldThrowIsIn_X5_refusalOfThrow : GoodIn wsX5_toldThrowIsIn (wsV RX5 105 RX5 yX5_refusalOfThrow wsX5_refusalOfThrow) := goodIn_app (goodIn_of _ (by decide +kernel)) ggX5_toldThrowIsIn_X5_refusalOfThrow
set_option maxRecDepth 20000 in
theorem ggX5_toldThrowIsIn_X5_thrown : GoodIn wsX5_toldThrowIsIn wsX5_thrown := goodIn_r _ [20, 21, 22, 23, 24, 25, 26, 27, 28, 29, 30, 31, 32, 33, 34, 9, 35, 36, 37, 38, 39, 40, 41, 42, 43, 44, 45, 46, 8, 10, 11, 12, 47, 48, 49, 50, 51, 52, 53, 54, 55, 56, 57, 58, 59, 60, 61, 62, 63, 64, 65, 66, 67, 68, 69, 70, 71, 72, 73, 74, 75, 76, 77, 78, 79, 80, 81, 82, 83, 84, 85, 86, 87, 88, 89, 90, 91, 92, 93, 94, 95, 96, 97, 98, 99, 100, 101, 102, 103, 104, 105, 106, 107, 108, 109, 110, 111, 112, 129, 130, 131, 132, 133, 134, 135, 136, 113, 114, 115, 116, 117, 118, 119, 120, 121, 122, 123, 124, 125, 126, 127, 128] (by decide +kernel) (by decide +kernel)
set_option maxRecDepth 20000 in
theorem gX5_toldThrowIsIn_X5_thrown : GoodIn wsX5_toldThrowIsIn (wsV RX5 132 RX5 yX5_thrown wsX5_thrown) := goodIn_app (goodIn_of _ (by decide +kernel)) ggX5_toldThrowIsIn_X5_thrown
theorem dX5_toldThrowIsIn_0 : decode cX5_toldThrowIsIn 0 = .ok (.iload_n 1, 1) := by decide +kernel
theorem dX5_toldThrowIsIn_1 : decode cX5_toldThrowIsIn 1 = .ok (.sipush 1000, 3) := by decide +kernel
theorem dX5_toldThrowIsIn_4 : decode cX5_toldThrowIsIn 4 = .ok (.idiv, 1) := by decide +kernel
theorem dX5_toldThrowIsIn_5 : decode cX5_toldThrowIsIn 5 = .ok (.istore_n 2, 1) := by decide +kernel
theorem dX5_toldThrowIsIn_6 : decode cX5_toldThrowIsIn 6 = .ok (.iload_n 1, 1) := by decide +kernel
theorem dX5_toldThrowIsIn_7 : decode cX5_toldThrowIsIn 7 = .ok (.bipush 100, 2) := by decide +kernel
theorem dX5_toldThrowIsIn_9 : decode cX5_toldThrowIsIn 9 = .ok (.idiv, 1) := by decide +kernel
theorem dX5_toldThrowIsIn_10 : decode cX5_toldThrowIsIn 10 = .ok (.bipush 10, 2) := by decide +kernel
theorem dX5_toldThrowIsIn_12 : decode cX5_toldThrowIsIn 12 = .ok (.irem, 1) := by decide +kernel
theorem dX5_toldThrowIsIn_13 : decode cX5_toldThrowIsIn 13 = .ok (.istore_n 3, 1) := by decide +kernel
theorem dX5_toldThrowIsIn_14 : decode cX5_toldThrowIsIn 14 = .ok (.iload_n 1, 1) := by decide +kernel
theorem dX5_toldThrowIsIn_15 : decode cX5_toldThrowIsIn 15 = .ok (.bipush 100, 2) := by decide +kernel
theorem dX5_toldThrowIsIn_17 : decode cX5_toldThrowIsIn 17 = .ok (.irem, 1) := by decide +kernel
theorem dX5_toldThrowIsIn_18 : decode cX5_toldThrowIsIn 18 = .ok (.bipush (-5), 2) := by decide +kernel
theorem dX5_toldThrowIsIn_20 : decode cX5_toldThrowIsIn 20 = .ok (.iadd, 1) := by decide +kernel
theorem dX5_toldThrowIsIn_21 : decode cX5_toldThrowIsIn 21 = .ok (.istore 4, 2) := by decide +kernel
theorem dX5_toldThrowIsIn_23 : decode cX5_toldThrowIsIn 23 = .ok (.aload_n 0, 1) := by decide +kernel
theorem dX5_toldThrowIsIn_24 : decode cX5_toldThrowIsIn 24 = .ok (.iload_n 2, 1) := by decide +kernel
theorem dX5_toldThrowIsIn_25 : decode cX5_toldThrowIsIn 25 = .ok (.iload_n 3, 1) := by decide +kernel
theorem dX5_toldThrowIsIn_26 : decode cX5_toldThrowIsIn 26 = .ok (.iload 4, 2) := by decide +kernel
theorem dX5_toldThrowIsIn_28 : decode cX5_toldThrowIsIn 28 = .ok (.invokevirtual 105, 3) := by decide +kernel
theorem dX5_toldThrowIsIn_31 : decode cX5_toldThrowIsIn 31 = .ok (.ifCond .ne 22, 3) := by decide +kernel
theorem dX5_toldThrowIsIn_34 : decode cX5_toldThrowIsIn 34 = .ok (.aload_n 0, 1) := by decide +kernel
theorem dX5_toldThrowIsIn_35 : decode cX5_toldThrowIsIn 35 = .ok (.aload_n 0, 1) := by decide +kernel
theorem dX5_toldThrowIsIn_36 : decode cX5_toldThrowIsIn 36 = .ok (.getfield 16, 3) := by decide +kernel
theorem dX5_toldThrowIsIn_39 : decode cX5_toldThrowIsIn 39 = .ok (.iload_n 2, 1) := by decide +kernel
theorem dX5_toldThrowIsIn_40 : decode cX5_toldThrowIsIn 40 = .ok (.iload_n 3, 1) := by decide +kernel
theorem dX5_toldThrowIsIn_41 : decode cX5_toldThrowIsIn 41 = .ok (.iload 4, 2) := by decide +kernel
theorem dX5_toldThrowIsIn_43 : decode cX5_toldThrowIsIn 43 = .ok (.invokevirtual 132, 3) := by decide +kernel
theorem dX5_toldThrowIsIn_46 : decode cX5_toldThrowIsIn 46 = .ok (.ifCond .ne 7, 3) := by decide +kernel
theorem dX5_toldThrowIsIn_49 : decode cX5_toldThrowIsIn 49 = .ok (.iconst 1, 1) := by decide +kernel
theorem dX5_toldThrowIsIn_50 : decode cX5_toldThrowIsIn 50 = .ok (.goto 4, 3) := by decide +kernel
theorem dX5_toldThrowIsIn_53 : decode cX5_toldThrowIsIn 53 = .ok (.iconst 0, 1) := by decide +kernel
theorem dX5_toldThrowIsIn_54 : decode cX5_toldThrowIsIn 54 = .ok (.ireturn, 1) := by decide +kernel
