theorem dX6_init_0 : decode cX6_init 0 = .ok (.aload_n 0, 1) := by decide +kernel
theorem dX6_init_1 : decode cX6_init 1 = .ok (.invokespecial 1, 3) := by decide +kernel
theorem dX6_init_4 : decode cX6_init 4 = .ok (.aload_n 0, 1) := by decide +kernel
theorem dX6_init_5 : decode cX6_init 5 = .ok (.iconst 5, 1) := by decide +kernel
theorem dX6_init_6 : decode cX6_init 6 = .ok (.newarray .int, 2) := by decide +kernel
theorem dX6_init_8 : decode cX6_init 8 = .ok (.putfield 7, 3) := by decide +kernel
theorem dX6_init_11 : decode cX6_init 11 = .ok (.aload_n 0, 1) := by decide +kernel
theorem dX6_init_12 : decode cX6_init 12 = .ok (.iconst 5, 1) := by decide +kernel
theorem dX6_init_13 : decode cX6_init 13 = .ok (.newarray .int, 2) := by decide +kernel
theorem dX6_init_15 : decode cX6_init 15 = .ok (.putfield 13, 3) := by decide +kernel
theorem dX6_init_18 : decode cX6_init 18 = .ok (.aload_n 0, 1) := by decide +kernel
theorem dX6_init_19 : decode cX6_init 19 = .ok (.iconst 5, 1) := by decide +kernel
theorem dX6_init_20 : decode cX6_init 20 = .ok (.newarray .int, 2) := by decide +kernel
theorem dX6_init_22 : decode cX6_init 22 = .ok (.putfield 16, 3) := by decide +kernel
theorem dX6_init_25 : decode cX6_init 25 = .ok (.aload_n 0, 1) := by decide +kernel
theorem dX6_init_26 : decode cX6_init 26 = .ok (.bipush 80, 2) := by decide +kernel
theorem dX6_init_28 : decode cX6_init 28 = .ok (.newarray .int, 2) := by decide +kernel
theorem dX6_init_30 : decode cX6_init 30 = .ok (.putfield 19, 3) := by decide +kernel
theorem dX6_init_33 : decode cX6_init 33 = .ok (.aload_n 0, 1) := by decide +kernel
theorem dX6_init_34 : decode cX6_init 34 = .ok (.bipush 12, 2) := by decide +kernel
theorem dX6_init_36 : decode cX6_init 36 = .ok (.newarray .int, 2) := by decide +kernel
theorem dX6_init_38 : decode cX6_init 38 = .ok (.putfield 22, 3) := by decide +kernel
theorem dX6_init_41 : decode cX6_init 41 = .ok (.aload_n 0, 1) := by decide +kernel
theorem dX6_init_42 : decode cX6_init 42 = .ok (.bipush 7, 2) := by decide +kernel
theorem dX6_init_44 : decode cX6_init 44 = .ok (.newarray .int, 2) := by decide +kernel
theorem dX6_init_46 : decode cX6_init 46 = .ok (.putfield 25, 3) := by decide +kernel
theorem dX6_init_49 : decode cX6_init 49 = .ok (.aload_n 0, 1) := by decide +kernel
theorem dX6_init_50 : decode cX6_init 50 = .ok (.bipush 28, 2) := by decide +kernel
theorem dX6_init_52 : decode cX6_init 52 = .ok (.newarray .int, 2) := by decide +kernel
theorem dX6_init_54 : decode cX6_init 54 = .ok (.putfield 28, 3) := by decide +kernel
theorem dX6_init_57 : decode cX6_init 57 = .ok (.aload_n 0, 1) := by decide +kernel
theorem dX6_init_58 : decode cX6_init 58 = .ok (.bipush 28, 2) := by decide +kernel
theorem dX6_init_60 : decode cX6_init 60 = .ok (.newarray .int, 2) := by decide +kernel
theorem dX6_init_62 : decode cX6_init 62 = .ok (.putfield 31, 3) := by decide +kernel
theorem dX6_init_65 : decode cX6_init 65 = .ok (.aload_n 0, 1) := by decide +kernel
theorem dX6_init_66 : decode cX6_init 66 = .ok (.iconst 5, 1) := by decide +kernel
theorem dX6_init_67 : decode cX6_init 67 = .ok (.putfield 34, 3) := by decide +kernel
theorem dX6_init_70 : decode cX6_init 70 = .ok (.aload_n 0, 1) := by decide +kernel
theorem dX6_init_71 : decode cX6_init 71 = .ok (.bipush 12, 2) := by decide +kernel
theorem dX6_init_73 : decode cX6_init 73 = .ok (.putfield 38, 3) := by decide +kernel
theorem dX6_init_76 : decode cX6_init 76 = .ok (.aload_n 0, 1) := by decide +kernel
theorem dX6_init_77 : decode cX6_init 77 = .ok (.iconst 2, 1) := by decide +kernel
theorem dX6_init_78 : decode cX6_init 78 = .ok (.putfield 41, 3) := by decide +kernel
theorem dX6_init_81 : decode cX6_init 81 = .ok (.aload_n 0, 1) := by decide +kernel
theorem dX6_init_82 : decode cX6_init 82 = .ok (.iconst 3, 1) := by decide +kernel
theorem dX6_init_83 : decode cX6_init 83 = .ok (.putfield 44, 3) := by decide +kernel
theorem dX6_init_86 : decode cX6_init 86 = .ok (.aload_n 0, 1) := by decide +kernel
theorem dX6_init_87 : decode cX6_init 87 = .ok (.bipush 40, 2) := by decide +kernel
theorem dX6_init_89 : decode cX6_init 89 = .ok (.putfield 47, 3) := by decide +kernel
theorem dX6_init_92 : decode cX6_init 92 = .ok (.aload_n 0, 1) := by decide +kernel
theorem dX6_init_93 : decode cX6_init 93 = .ok (.bipush 40, 2) := by decide +kernel
theorem dX6_init_95 : decode cX6_init 95 = .ok (.putfield 50, 3) := by decide +kernel
theorem dX6_init_98 : decode cX6_init 98 = .ok (.aload_n 0, 1) := by decide +kernel
theorem dX6_init_99 : decode cX6_init 99 = .ok (.iconst 3, 1) := by decide +kernel
theorem dX6_init_100 : decode cX6_init 100 = .ok (.putfield 53, 3) := by decide +kernel
theorem dX6_init_103 : decode cX6_init 103 = .ok (.return_, 1) := by decide +kernel
theorem dX6_no_0 : decode cX6_no 0 = .ok (.aload_n 0, 1) := by decide +kernel
theorem dX6_no_1 : decode cX6_no 1 = .ok (.getfield 25, 3) := by decide +kernel
theorem dX6_no_4 : decode cX6_no 4 = .ok (.iload_n 1, 1) := by decide +kernel
theorem dX6_no_5 : decode cX6_no 5 = .ok (.ineg, 1) := by decide +kernel
theorem dX6_no_6 : decode cX6_no 6 = .ok (.dup2, 1) := by decide +kernel
theorem dX6_no_7 : decode cX6_no 7 = .ok (.iaload, 1) := by decide +kernel
theorem dX6_no_8 : decode cX6_no 8 = .ok (.iconst 1, 1) := by decide +kernel
theorem dX6_no_9 : decode cX6_no 9 = .ok (.iadd, 1) := by decide +kernel
theorem dX6_no_10 : decode cX6_no 10 = .ok (.iastore, 1) := by decide +kernel
theorem dX6_no_11 : decode cX6_no 11 = .ok (.iload_n 1, 1) := by decide +kernel
theorem dX6_no_12 : decode cX6_no 12 = .ok (.ireturn, 1) := by decide +kernel
set_option maxRecDepth 20000 in
theorem ggX6_noLong_X6_no : GoodIn wsX6_noLong wsX6_no := goodIn_r _ [6, 7, 8, 9, 10, 11, 12, 13, 14, 15, 16, 17, 18, 19, 20, 21, 22, 23, 24, 25, 26, 27, 28, 29, 30, 31, 32, 33, 34, 35, 36, 37, 38] (by decide +kernel) (by decide +kernel)
set_option maxRecDepth 20000 in
theorem gX6_noLong_X6_no : GoodIn wsX6_noLong (wsV RX6 58 RX6 yX6_no wsX6_no) := goodIn_app (goodIn_of _ (by decide +kernel)) ggX6_noLong_X6_no
theorem dX6_noLong_0 : decode cX6_noLong 0 = .ok (.ldc2_w 56, 3) := by decide +kernel
theorem dX6_noLong_3 : decode cX6_noLong 3 = .ok (.aload_n 0, 1) := by decide +kernel
theorem dX6_noLong_4 : decode cX6_noLong 4 = .ok (.iload_n 1, 1) := by decide +kernel
theorem dX6_noLong_5 : decode cX6_noLong 5 = .ok (.invokevirtual 58, 3) := by decide +kernel
theorem dX6_noLong_8 : decode cX6_noLong 8 = .ok (.i2l, 1) := by decide +kernel
theorem dX6_noLong_9 : decode cX6_noLong 9 = .ok (.lsub, 1) := by decide +kernel
theorem dX6_noLong_10 : decode cX6_noLong 10 = .ok (.lreturn, 1) := by decide +kernel
theorem dX6_within_0 : decode cX6_within 0 = .ok (.iload_n 0, 1) := by decide +kernel
theorem dX6_within_1 : decode cX6_within 1 = .ok (.iload_n 1, 1) := by decide +kernel
theorem dX6_within_2 : decode cX6_within 2 = .ok (.if_icmp .lt 12, 3) := by decide +kernel
theorem dX6_within_5 : decode cX6_within 5 = .ok (.iload_n 0, 1) := by decide +kernel
theorem dX6_within_6 : decode cX6_within 6 = .ok (.iload_n 2, 1) := by decide +kernel
theorem dX6_within_7 : decode cX6_within 7 = .ok (.if_icmp .gt 7, 3) := by decide +kernel
theorem dX6_within_10 : decode cX6_within 10 = .ok (.iconst 1, 1) := by decide +kernel
theorem dX6_within_11 : decode cX6_within 11 = .ok (.goto 4, 3) := by decide +kernel
theorem dX6_within_14 : decode cX6_within 14 = .ok (.iconst 0, 1) := by decide +kernel
theorem dX6_within_15 : decode cX6_within 15 = .ok (.ireturn, 1) := by decide +kernel
set_option maxRecDepth 20000 in
theorem ggX6_isBall_X6_within : GoodIn wsX6_isBall wsX6_within := goodIn_r _ [5] (by decide +kernel) (by decide +kernel)
set_option maxRecDepth 20000 in
theorem gX6_isBall_X6_within : GoodIn wsX6_isBall (va_wsS RX6 65 yX6_within wsX6_within) := goodIn_app (goodIn_of _ (by decide +kernel)) ggX6_isBall_X6_within
theorem dX6_isBall_0 : decode cX6_isBall 0 = .ok (.iload_n 1, 1) := by decide +kernel
theorem dX6_isBall_1 : decode cX6_isBall 1 = .ok (.iconst 0, 1) := by decide +kernel
theorem dX6_isBall_2 : decode cX6_isBall 2 = .ok (.aload_n 0, 1) := by decide +kernel
theorem dX6_isBall_3 : decode cX6_isBall 3 = .ok (.getfield 62, 3) := by decide +kernel
theorem dX6_isBall_6 : decode cX6_isBall 6 = .ok (.iconst 1, 1) := by decide +kernel
theorem dX6_isBall_7 : decode cX6_isBall 7 = .ok (.isub, 1) := by decide +kernel
theorem dX6_isBall_8 : decode cX6_isBall 8 = .ok (.invokestatic 65, 3) := by decide +kernel
theorem dX6_isBall_11 : decode cX6_isBall 11 = .ok (.ireturn, 1) := by decide +kernel
set_option maxRecDepth 20000 in
theorem ggX6_letter_X6_no : GoodIn wsX6_letter wsX6_no := goodIn_r _ [7, 8, 9, 10, 11, 12, 13, 14, 15, 16, 17, 18, 19, 20, 21, 22, 23, 24, 25, 26, 27, 28, 29, 30, 31, 32, 33, 34, 35, 36, 37, 38, 39] (by decide +kernel) (by decide +kernel)
set_option maxRecDepth 20000 in
theorem gX6_letter_X6_no : GoodIn wsX6_letter (wsV RX6 58 RX6 yX6_no wsX6_no) := goodIn_app (goodIn_of _ (by decide +kernel)) ggX6_letter_X6_no
theorem dX6_letter_0 : decode cX6_letter 0 = .ok (.iload_n 1, 1) := by decide +kernel
theorem dX6_letter_1 : decode cX6_letter 1 = .ok (.ifCond .ge 10, 3) := by decide +kernel
theorem dX6_letter_4 : decode cX6_letter 4 = .ok (.aload_n 0, 1) := by decide +kernel
theorem dX6_letter_5 : decode cX6_letter 5 = .ok (.bipush (-4), 2) := by decide +kernel
theorem dX6_letter_7 : decode cX6_letter 7 = .ok (.invokevirtual 58, 3) := by decide +kernel
theorem dX6_letter_10 : decode cX6_letter 10 = .ok (.ireturn, 1) := by decide +kernel
theorem dX6_letter_11 : decode cX6_letter 11 = .ok (.iload_n 1, 1) := by decide +kernel
theorem dX6_letter_12 : decode cX6_letter 12 = .ok (.sipush 255, 3) := by decide +kernel
theorem dX6_letter_15 : decode cX6_letter 15 = .ok (.if_icmp .gt 12, 3) := by decide +kernel
theorem dX6_letter_18 : decode cX6_letter 18 = .ok (.aload_n 0, 1) := by decide +kernel
theorem dX6_letter_19 : decode cX6_letter 19 = .ok (.getfield 69, 3) := by decide +kernel
theorem dX6_letter_22 : decode cX6_letter 22 = .ok (.bipush 80, 2) := by decide +kernel
theorem dX6_letter_24 : decode cX6_letter 24 = .ok (.if_icmp .ne 10, 3) := by decide +kernel
theorem dX6_letter_27 : decode cX6_letter 27 = .ok (.aload_n 0, 1) := by decide +kernel
theorem dX6_letter_28 : decode cX6_letter 28 = .ok (.bipush (-6), 2) := by decide +kernel
theorem dX6_letter_30 : decode cX6_letter 30 = .ok (.invokevirtual 58, 3) := by decide +kernel
theorem dX6_letter_33 : decode cX6_letter 33 = .ok (.ireturn, 1) := by decide +kernel
theorem dX6_letter_34 : decode cX6_letter 34 = .ok (.aload_n 0, 1) := by decide +kernel
theorem dX6_letter_35 : decode cX6_letter 35 = .ok (.getfield 19, 3) := by decide +kernel
theorem dX6_letter_38 : decode cX6_letter 38 = .ok (.aload_n 0, 1) := by decide +kernel
theorem dX6_letter_39 : decode cX6_letter 39 = .ok (.dup, 1) := by decide +kernel
theorem dX6_letter_40 : decode cX6_letter 40 = .ok (.getfield 69, 3) := by decide +kernel
theorem dX6_letter_43 : decode cX6_letter 43 = .ok (.dup_x1, 1) := by decide +kernel
theorem dX6_letter_44 : decode cX6_letter 44 = .ok (.iconst 1, 1) := by decide +kernel
theorem dX6_letter_45 : decode cX6_letter 45 = .ok (.iadd, 1) := by decide +kernel
theorem dX6_letter_46 : decode cX6_letter 46 = .ok (.putfield 69, 3) := by decide +kernel
theorem dX6_letter_49 : decode cX6_letter 49 = .ok (.iload_n 1, 1) := by decide +kernel
theorem dX6_letter_50 : decode cX6_letter 50 = .ok (.iastore, 1) := by decide +kernel
theorem dX6_letter_51 : decode cX6_letter 51 = .ok (.aload_n 0, 1) := by decide +kernel
theorem dX6_letter_52 : decode cX6_letter 52 = .ok (.getfield 69, 3) := by decide +kernel
theorem dX6_letter_55 : decode cX6_letter 55 = .ok (.ireturn, 1) := by decide +kernel
theorem dX6_is_0 : decode cX6_is 0 = .ok (.aload_n 0, 1) := by decide +kernel
theorem dX6_is_1 : decode cX6_is 1 = .ok (.getfield 72, 3) := by decide +kernel
theorem dX6_is_4 : decode cX6_is 4 = .ok (.aload_n 0, 1) := by decide +kernel
theorem dX6_is_5 : decode cX6_is 5 = .ok (.getfield 69, 3) := by decide +kernel
theorem dX6_is_8 : decode cX6_is 8 = .ok (.if_icmp .eq 16, 3) := by decide +kernel
theorem dX6_is_11 : decode cX6_is 11 = .ok (.aload_n 0, 1) := by decide +kernel
theorem dX6_is_12 : decode cX6_is 12 = .ok (.getfield 19, 3) := by decide +kernel
theorem dX6_is_15 : decode cX6_is 15 = .ok (.aload_n 0, 1) := by decide +kernel
theorem dX6_is_16 : decode cX6_is 16 = .ok (.getfield 72, 3) := by decide +kernel
theorem dX6_is_19 : decode cX6_is 19 = .ok (.iaload, 1) := by decide +kernel
theorem dX6_is_20 : decode cX6_is 20 = .ok (.iload_n 1, 1) := by decide +kernel
theorem dX6_is_21 : decode cX6_is 21 = .ok (.if_icmp .eq 5, 3) := by decide +kernel
theorem dX6_is_24 : decode cX6_is 24 = .ok (.iconst 0, 1) := by decide +kernel
theorem dX6_is_25 : decode cX6_is 25 = .ok (.ireturn, 1) := by decide +kernel
theorem dX6_is_26 : decode cX6_is 26 = .ok (.aload_n 0, 1) := by decide +kernel
theorem dX6_is_27 : decode cX6_is 27 = .ok (.dup, 1) := by decide +kernel
theorem dX6_is_28 : decode cX6_is 28 = .ok (.getfield 72, 3) := by decide +kernel
theorem dX6_is_31 : decode cX6_is 31 = .ok (.iconst 1, 1) := by decide +kernel
theorem dX6_is_32 : decode cX6_is 32 = .ok (.iadd, 1) := by decide +kernel
theorem dX6_is_33 : decode cX6_is 33 = .ok (.putfield 72, 3) := by decide +kernel
theorem dX6_is_36 : decode cX6_is 36 = .ok (.iconst 1, 1) := by decide +kernel
theorem dX6_is_37 : decode cX6_is 37 = .ok (.ireturn, 1) := by decide +kernel
theorem dX6_isDigit_0 : decode cX6_isDigit 0 = .ok (.aload_n 0, 1) := by decide +kernel
theorem dX6_isDigit_1 : decode cX6_isDigit 1 = .ok (.getfield 72, 3) := by decide +kernel
theorem dX6_isDigit_4 : decode cX6_isDigit 4 = .ok (.aload_n 0, 1) := by decide +kernel
theorem dX6_isDigit_5 : decode cX6_isDigit 5 = .ok (.getfield 69, 3) := by decide +kernel
theorem dX6_isDigit_8 : decode cX6_isDigit 8 = .ok (.if_icmp .ge 35, 3) := by decide +kernel
theorem dX6_isDigit_11 : decode cX6_isDigit 11 = .ok (.aload_n 0, 1) := by decide +kernel
theorem dX6_isDigit_12 : decode cX6_isDigit 12 = .ok (.getfield 19, 3) := by decide +kernel
theorem dX6_isDigit_15 : decode cX6_isDigit 15 = .ok (.aload_n 0, 1) := by decide +kernel
theorem dX6_isDigit_16 : decode cX6_isDigit 16 = .ok (.getfield 72, 3) := by decide +kernel
theorem dX6_isDigit_19 : decode cX6_isDigit 19 = .ok (.iaload, 1) := by decide +kernel
theorem dX6_isDigit_20 : decode cX6_isDigit 20 = .ok (.bipush 48, 2) := by decide +kernel
theorem dX6_isDigit_22 : decode cX6_isDigit 22 = .ok (.if_icmp .lt 21, 3) := by decide +kernel
theorem dX6_isDigit_25 : decode cX6_isDigit 25 = .ok (.aload_n 0, 1) := by decide +kernel
theorem dX6_isDigit_26 : decode cX6_isDigit 26 = .ok (.getfield 19, 3) := by decide +kernel
theorem dX6_isDigit_29 : decode cX6_isDigit 29 = .ok (.aload_n 0, 1) := by decide +kernel
theorem dX6_isDigit_30 : decode cX6_isDigit 30 = .ok (.getfield 72, 3) := by decide +kernel
theorem dX6_isDigit_33 : decode cX6_isDigit 33 = .ok (.iaload, 1) := by decide +kernel
theorem dX6_isDigit_34 : decode cX6_isDigit 34 = .ok (.bipush 57, 2) := by decide +kernel
theorem dX6_isDigit_36 : decode cX6_isDigit 36 = .ok (.if_icmp .gt 7, 3) := by decide +kernel
theorem dX6_isDigit_39 : decode cX6_isDigit 39 = .ok (.iconst 1, 1) := by decide +kernel
theorem dX6_isDigit_40 : decode cX6_isDigit 40 = .ok (.goto 4, 3) := by decide +kernel
theorem dX6_isDigit_43 : decode cX6_isDigit 43 = .ok (.iconst 0, 1) := by decide +kernel
theorem dX6_isDigit_44 : decode cX6_isDigit 44 = .ok (.ireturn, 1) := by decide +kernel
set_option maxRecDepth 20000 in
theorem ggX6_number_X6_isDigit : GoodIn wsX6_number wsX6_isDigit := goodIn_r _ [8, 3, 9, 2, 10, 11, 12, 13, 14, 15, 16, 17, 18, 19, 20, 21, 22, 23, 24, 25, 26, 27, 28, 29, 30, 31, 32, 33, 34, 35, 36, 37, 38, 39, 40] (by decide +kernel) (by decide +kernel)
set_option maxRecDepth 20000 in
theorem gX6_number_X6_isDigit : GoodIn wsX6_number (wsV RX6 75 RX6 yX6_isDigit wsX6_isDigit) := goodIn_app (goodIn_of _ (by decide +kernel)) ggX6_number_X6_isDigit
theorem dX6_number_0 : decode cX6_number 0 = .ok (.aload_n 0, 1) := by decide +kernel
theorem dX6_number_1 : decode cX6_number 1 = .ok (.invokevirtual 75, 3) := by decide +kernel
theorem dX6_number_4 : decode cX6_number 4 = .ok (.ifCond .ne 5, 3) := by decide +kernel
theorem dX6_number_7 : decode cX6_number 7 = .ok (.iconst 0, 1) := by decide +kernel
theorem dX6_number_8 : decode cX6_number 8 = .ok (.ireturn, 1) := by decide +kernel
theorem dX6_number_9 : decode cX6_number 9 = .ok (.aload_n 0, 1) := by decide +kernel
theorem dX6_number_10 : decode cX6_number 10 = .ok (.iconst 0, 1) := by decide +kernel
theorem dX6_number_11 : decode cX6_number 11 = .ok (.putfield 79, 3) := by decide +kernel
theorem dX6_number_14 : decode cX6_number 14 = .ok (.iconst 0, 1) := by decide +kernel
theorem dX6_number_15 : decode cX6_number 15 = .ok (.istore_n 2, 1) := by decide +kernel
theorem dX6_number_16 : decode cX6_number 16 = .ok (.iload_n 2, 1) := by decide +kernel
theorem dX6_number_17 : decode cX6_number 17 = .ok (.iload_n 1, 1) := by decide +kernel
theorem dX6_number_18 : decode cX6_number 18 = .ok (.if_icmp .ge 47, 3) := by decide +kernel
theorem dX6_number_21 : decode cX6_number 21 = .ok (.aload_n 0, 1) := by decide +kernel
theorem dX6_number_22 : decode cX6_number 22 = .ok (.invokevirtual 75, 3) := by decide +kernel
theorem dX6_number_25 : decode cX6_number 25 = .ok (.ifCond .eq 40, 3) := by decide +kernel
theorem dX6_number_28 : decode cX6_number 28 = .ok (.aload_n 0, 1) := by decide +kernel
theorem dX6_number_29 : decode cX6_number 29 = .ok (.bipush 10, 2) := by decide +kernel
theorem dX6_number_31 : decode cX6_number 31 = .ok (.aload_n 0, 1) := by decide +kernel
theorem dX6_number_32 : decode cX6_number 32 = .ok (.getfield 79, 3) := by decide +kernel
theorem dX6_number_35 : decode cX6_number 35 = .ok (.imul, 1) := by decide +kernel
theorem dX6_number_36 : decode cX6_number 36 = .ok (.aload_n 0, 1) := by decide +kernel
theorem dX6_number_37 : decode cX6_number 37 = .ok (.getfield 19, 3) := by decide +kernel
theorem dX6_number_40 : decode cX6_number 40 = .ok (.aload_n 0, 1) := by decide +kernel
theorem dX6_number_41 : decode cX6_number 41 = .ok (.dup, 1) := by decide +kernel
theorem dX6_number_42 : decode cX6_number 42 = .ok (.getfield 72, 3) := by decide +kernel
theorem dX6_number_45 : decode cX6_number 45 = .ok (.dup_x1, 1) := by decide +kernel
theorem dX6_number_46 : decode cX6_number 46 = .ok (.iconst 1, 1) := by decide +kernel
theorem dX6_number_47 : decode cX6_number 47 = .ok (.iadd, 1) := by decide +kernel
theorem dX6_number_48 : decode cX6_number 48 = .ok (.putfield 72, 3) := by decide +kernel
theorem dX6_number_51 : decode cX6_number 51 = .ok (.iaload, 1) := by decide +kernel
theorem dX6_number_52 : decode cX6_number 52 = .ok (.iadd, 1) := by decide +kernel
theorem dX6_number_53 : decode cX6_number 53 = .ok (.bipush 48, 2) := by decide +kernel
theorem dX6_number_55 : decode cX6_number 55 = .ok (.isub, 1) := by decide +kernel
theorem dX6_number_56 : decode cX6_number 56 = .ok (.putfield 79, 3) := by decide +kernel
theorem dX6_number_59 : decode cX6_number 59 = .ok (.iinc 2 1, 3) := by decide +kernel
theorem dX6_number_62 : decode cX6_number 62 = .ok (.goto (-46), 3) := by decide +kernel
theorem dX6_number_65 : decode cX6_number 65 = .ok (.iconst 1, 1) := by decide +kernel
theorem dX6_number_66 : decode cX6_number 66 = .ok (.ireturn, 1) := by decide +kernel
set_option maxRecDepth 20000 in
theorem ggX6_statement_X6_is : GoodIn wsX6_statement wsX6_is := goodIn_r _ [22, 11, 12, 13, 123, 124, 125, 126, 127, 128, 129, 130, 131, 132, 133, 134, 135, 136, 137, 138, 139, 140, 141, 142, 143, 144, 145, 146, 147, 148, 149, 150, 151, 152, 153] (by decide +kernel) (by decide +kernel)
set_option maxRecDepth 20000 in
theorem gX6_statement_X6_is : GoodIn wsX6_statement (wsV RX6 82 RX6 yX6_is wsX6_is) := goodIn_app (goodIn_of _ (by decide +kernel)) ggX6_statement_X6_is
set_option maxRecDepth 20000 in
theorem ggX6_statement_X6_number : GoodIn wsX6_statement wsX6_number := goodIn_r _ [26, 1, 13, 11, 27, 28, 29, 21, 30, 12, 123, 124, 125, 126, 127, 128, 129, 130, 131, 132, 133, 134, 135, 136, 137, 138, 139, 140, 141, 142, 143, 144, 145, 146, 147, 148, 149, 150, 151, 152, 153] (by decide +kernel) (by decide +kernel)
set_option maxRecDepth 20000 in
theorem gX6_statement_X6_number : GoodIn wsX6_statement (wsV RX6 86 RX6 yX6_number wsX6_number) := goodIn_app (goodIn_of _ (by decide +kernel)) ggX6_statement_X6_number
set_option maxRecDepth 20000 in
theorem ggX6_statement_X6_within : GoodIn wsX6_statement wsX6_within := goodIn_r _ [33] (by decide +kernel) (by decide +kernel)
set_option maxRecDepth 20000 in
theorem gX6_statement_X6_within : GoodIn wsX6_statement (va_wsS RX6 65 yX6_within wsX6_within) := goodIn_app (goodIn_of _ (by decide +kernel)) ggX6_statement_X6_within
set_option maxRecDepth 20000 in
theorem ggX6_statement_J0_indexOf_0f7a4 : GoodIn wsX6_statement wsJ0_indexOf_0f7a4 := goodIn_r _ [38, 39, 40, 41, 37, 42, 43, 44, 45, 46, 47, 48, 49, 50, 51, 52, 53, 54, 55, 56, 57, 58, 59, 60, 61, 62, 63, 64, 65, 66, 67, 68, 69, 70, 71, 72, 73, 74, 75, 76, 77, 78, 79, 80, 81, 82, 83, 84, 85, 86, 87, 88, 89, 90, 91, 92, 93, 94, 95, 96, 97, 98, 99, 100, 101, 102, 103, 104, 105, 106, 107, 108, 109, 110, 111, 112, 113, 114, 115, 116, 117, 118, 119, 120, 121, 122] (by decide +kernel) (by decide +kernel)
set_option maxRecDepth 20000 in
theorem gX6_statement_J0_indexOf_0f7a4 : GoodIn wsX6_statement (wsV RX6 97 RJ0 yJ0_indexOf_0f7a4 wsJ0_indexOf_0f7a4) := goodIn_app (goodIn_of _ (by decide +kernel)) ggX6_statement_J0_indexOf_0f7a4
theorem dX6_statement_0 : decode cX6_statement 0 = .ok (.aload_n 0, 1) := by decide +kernel
theorem dX6_statement_1 : decode cX6_statement 1 = .ok (.bipush 98, 2) := by decide +kernel
theorem dX6_statement_3 : decode cX6_statement 3 = .ok (.invokevirtual 82, 3) := by decide +kernel
theorem dX6_statement_6 : decode cX6_statement 6 = .ok (.ifCond .eq 116, 3) := by decide +kernel
theorem dX6_statement_9 : decode cX6_statement 9 = .ok (.aload_n 0, 1) := by decide +kernel
theorem dX6_statement_10 : decode cX6_statement 10 = .ok (.iconst 2, 1) := by decide +kernel
theorem dX6_statement_11 : decode cX6_statement 11 = .ok (.invokevirtual 86, 3) := by decide +kernel
theorem dX6_statement_14 : decode cX6_statement 14 = .ok (.ifCond .ne 5, 3) := by decide +kernel
theorem dX6_statement_17 : decode cX6_statement 17 = .ok (.iconst (-1), 1) := by decide +kernel
theorem dX6_statement_18 : decode cX6_statement 18 = .ok (.ireturn, 1) := by decide +kernel
theorem dX6_statement_19 : decode cX6_statement 19 = .ok (.aload_n 0, 1) := by decide +kernel
theorem dX6_statement_20 : decode cX6_statement 20 = .ok (.getfield 79, 3) := by decide +kernel
theorem dX6_statement_23 : decode cX6_statement 23 = .ok (.istore_n 2, 1) := by decide +kernel
theorem dX6_statement_24 : decode cX6_statement 24 = .ok (.aload_n 0, 1) := by decide +kernel
theorem dX6_statement_25 : decode cX6_statement 25 = .ok (.bipush 44, 2) := by decide +kernel
theorem dX6_statement_27 : decode cX6_statement 27 = .ok (.invokevirtual 82, 3) := by decide +kernel
theorem dX6_statement_30 : decode cX6_statement 30 = .ok (.ifCond .eq 11, 3) := by decide +kernel
theorem dX6_statement_33 : decode cX6_statement 33 = .ok (.aload_n 0, 1) := by decide +kernel
theorem dX6_statement_34 : decode cX6_statement 34 = .ok (.iconst 1, 1) := by decide +kernel
theorem dX6_statement_35 : decode cX6_statement 35 = .ok (.invokevirtual 86, 3) := by decide +kernel
theorem dX6_statement_38 : decode cX6_statement 38 = .ok (.ifCond .ne 5, 3) := by decide +kernel
theorem dX6_statement_41 : decode cX6_statement 41 = .ok (.iconst (-1), 1) := by decide +kernel
theorem dX6_statement_42 : decode cX6_statement 42 = .ok (.ireturn, 1) := by decide +kernel
theorem dX6_statement_43 : decode cX6_statement 43 = .ok (.aload_n 0, 1) := by decide +kernel
theorem dX6_statement_44 : decode cX6_statement 44 = .ok (.getfield 79, 3) := by decide +kernel
theorem dX6_statement_47 : decode cX6_statement 47 = .ok (.istore_n 3, 1) := by decide +kernel
theorem dX6_statement_48 : decode cX6_statement 48 = .ok (.aload_n 0, 1) := by decide +kernel
theorem dX6_statement_49 : decode cX6_statement 49 = .ok (.iconst 1, 1) := by decide +kernel
theorem dX6_statement_50 : decode cX6_statement 50 = .ok (.invokevirtual 86, 3) := by decide +kernel
theorem dX6_statement_53 : decode cX6_statement 53 = .ok (.ifCond .ne 5, 3) := by decide +kernel
theorem dX6_statement_56 : decode cX6_statement 56 = .ok (.iconst (-1), 1) := by decide +kernel
theorem dX6_statement_57 : decode cX6_statement 57 = .ok (.ireturn, 1) := by decide +kernel
theorem dX6_statement_58 : decode cX6_statement 58 = .ok (.iload_n 1, 1) := by decide +kernel
theorem dX6_statement_59 : decode cX6_statement 59 = .ok (.ifCond .ne 5, 3) := by decide +kernel
theorem dX6_statement_62 : decode cX6_statement 62 = .ok (.iconst 1, 1) := by decide +kernel
theorem dX6_statement_63 : decode cX6_statement 63 = .ok (.ireturn, 1) := by decide +kernel
theorem dX6_statement_64 : decode cX6_statement 64 = .ok (.iload_n 2, 1) := by decide +kernel
theorem dX6_statement_65 : decode cX6_statement 65 = .ok (.iconst 1, 1) := by decide +kernel
theorem dX6_statement_66 : decode cX6_statement 66 = .ok (.bipush 40, 2) := by decide +kernel
theorem dX6_statement_68 : decode cX6_statement 68 = .ok (.invokestatic 65, 3) := by decide +kernel
theorem dX6_statement_71 : decode cX6_statement 71 = .ok (.ifCond .eq 29, 3) := by decide +kernel
theorem dX6_statement_74 : decode cX6_statement 74 = .ok (.iload_n 3, 1) := by decide +kernel
theorem dX6_statement_75 : decode cX6_statement 75 = .ok (.iconst 1, 1) := by decide +kernel
theorem dX6_statement_76 : decode cX6_statement 76 = .ok (.iconst 5, 1) := by decide +kernel
theorem dX6_statement_77 : decode cX6_statement 77 = .ok (.invokestatic 65, 3) := by decide +kernel
theorem dX6_statement_80 : decode cX6_statement 80 = .ok (.ifCond .eq 20, 3) := by decide +kernel
theorem dX6_statement_83 : decode cX6_statement 83 = .ok (.aload_n 0, 1) := by decide +kernel
theorem dX6_statement_84 : decode cX6_statement 84 = .ok (.getfield 79, 3) := by decide +kernel
theorem dX6_statement_87 : decode cX6_statement 87 = .ok (.ifCond .eq 13, 3) := by decide +kernel
theorem dX6_statement_90 : decode cX6_statement 90 = .ok (.iload_n 2, 1) := by decide +kernel
theorem dX6_statement_91 : decode cX6_statement 91 = .ok (.iload_n 3, 1) := by decide +kernel
theorem dX6_statement_92 : decode cX6_statement 92 = .ok (.iadd, 1) := by decide +kernel
theorem dX6_statement_93 : decode cX6_statement 93 = .ok (.aload_n 0, 1) := by decide +kernel
theorem dX6_statement_94 : decode cX6_statement 94 = .ok (.getfield 47, 3) := by decide +kernel
theorem dX6_statement_97 : decode cX6_statement 97 = .ok (.if_icmp .le 5, 3) := by decide +kernel
theorem dX6_statement_100 : decode cX6_statement 100 = .ok (.iconst 0, 1) := by decide +kernel
theorem dX6_statement_101 : decode cX6_statement 101 = .ok (.ireturn, 1) := by decide +kernel
theorem dX6_statement_102 : decode cX6_statement 102 = .ok (.aload_n 0, 1) := by decide +kernel
theorem dX6_statement_103 : decode cX6_statement 103 = .ok (.iload_n 2, 1) := by decide +kernel
theorem dX6_statement_104 : decode cX6_statement 104 = .ok (.putfield 38, 3) := by decide +kernel
theorem dX6_statement_107 : decode cX6_statement 107 = .ok (.aload_n 0, 1) := by decide +kernel
theorem dX6_statement_108 : decode cX6_statement 108 = .ok (.iload_n 3, 1) := by decide +kernel
theorem dX6_statement_109 : decode cX6_statement 109 = .ok (.putfield 41, 3) := by decide +kernel
theorem dX6_statement_112 : decode cX6_statement 112 = .ok (.aload_n 0, 1) := by decide +kernel
theorem dX6_statement_113 : decode cX6_statement 113 = .ok (.aload_n 0, 1) := by decide +kernel
theorem dX6_statement_114 : decode cX6_statement 114 = .ok (.getfield 79, 3) := by decide +kernel
theorem dX6_statement_117 : decode cX6_statement 117 = .ok (.putfield 44, 3) := by decide +kernel
theorem dX6_statement_120 : decode cX6_statement 120 = .ok (.iconst 1, 1) := by decide +kernel
theorem dX6_statement_121 : decode cX6_statement 121 = .ok (.ireturn, 1) := by decide +kernel
theorem dX6_statement_122 : decode cX6_statement 122 = .ok (.aload_n 0, 1) := by decide +kernel
theorem dX6_statement_123 : decode cX6_statement 123 = .ok (.bipush 119, 2) := by decide +kernel
theorem dX6_statement_125 : decode cX6_statement 125 = .ok (.invokevirtual 82, 3) := by decide +kernel
theorem dX6_statement_128 : decode cX6_statement 128 = .ok (.ifCond .eq 60, 3) := by decide +kernel
theorem dX6_statement_131 : decode cX6_statement 131 = .ok (.aload_n 0, 1) := by decide +kernel
theorem dX6_statement_132 : decode cX6_statement 132 = .ok (.iconst 2, 1) := by decide +kernel
theorem dX6_statement_133 : decode cX6_statement 133 = .ok (.invokevirtual 86, 3) := by decide +kernel
theorem dX6_statement_136 : decode cX6_statement 136 = .ok (.ifCond .ne 5, 3) := by decide +kernel
theorem dX6_statement_139 : decode cX6_statement 139 = .ok (.iconst (-1), 1) := by decide +kernel
theorem dX6_statement_140 : decode cX6_statement 140 = .ok (.ireturn, 1) := by decide +kernel
theorem dX6_statement_141 : decode cX6_statement 141 = .ok (.iload_n 1, 1) := by decide +kernel
theorem dX6_statement_142 : decode cX6_statement 142 = .ok (.ifCond .ne 5, 3) := by decide +kernel
theorem dX6_statement_145 : decode cX6_statement 145 = .ok (.iconst 1, 1) := by decide +kernel
theorem dX6_statement_146 : decode cX6_statement 146 = .ok (.ireturn, 1) := by decide +kernel
theorem dX6_statement_147 : decode cX6_statement 147 = .ok (.aload_n 0, 1) := by decide +kernel
theorem dX6_statement_148 : decode cX6_statement 148 = .ok (.getfield 79, 3) := by decide +kernel
theorem dX6_statement_151 : decode cX6_statement 151 = .ok (.iconst 5, 1) := by decide +kernel
theorem dX6_statement_152 : decode cX6_statement 152 = .ok (.bipush 60, 2) := by decide +kernel
theorem dX6_statement_154 : decode cX6_statement 154 = .ok (.invokestatic 65, 3) := by decide +kernel
theorem dX6_statement_157 : decode cX6_statement 157 = .ok (.ifCond .eq 19, 3) := by decide +kernel
theorem dX6_statement_160 : decode cX6_statement 160 = .ok (.aload_n 0, 1) := by decide +kernel
theorem dX6_statement_161 : decode cX6_statement 161 = .ok (.getfield 38, 3) := by decide +kernel
theorem dX6_statement_164 : decode cX6_statement 164 = .ok (.aload_n 0, 1) := by decide +kernel
theorem dX6_statement_165 : decode cX6_statement 165 = .ok (.getfield 41, 3) := by decide +kernel
theorem dX6_statement_168 : decode cX6_statement 168 = .ok (.iadd, 1) := by decide +kernel
theorem dX6_statement_169 : decode cX6_statement 169 = .ok (.aload_n 0, 1) := by decide +kernel
theorem dX6_statement_170 : decode cX6_statement 170 = .ok (.getfield 79, 3) := by decide +kernel
theorem dX6_statement_173 : decode cX6_statement 173 = .ok (.if_icmp .le 5, 3) := by decide +kernel
theorem dX6_statement_176 : decode cX6_statement 176 = .ok (.iconst 0, 1) := by decide +kernel
theorem dX6_statement_177 : decode cX6_statement 177 = .ok (.ireturn, 1) := by decide +kernel
theorem dX6_statement_178 : decode cX6_statement 178 = .ok (.aload_n 0, 1) := by decide +kernel
theorem dX6_statement_179 : decode cX6_statement 179 = .ok (.aload_n 0, 1) := by decide +kernel
theorem dX6_statement_180 : decode cX6_statement 180 = .ok (.getfield 79, 3) := by decide +kernel
theorem dX6_statement_183 : decode cX6_statement 183 = .ok (.putfield 47, 3) := by decide +kernel
theorem dX6_statement_186 : decode cX6_statement 186 = .ok (.iconst 1, 1) := by decide +kernel
theorem dX6_statement_187 : decode cX6_statement 187 = .ok (.ireturn, 1) := by decide +kernel
theorem dX6_statement_188 : decode cX6_statement 188 = .ok (.aload_n 0, 1) := by decide +kernel
theorem dX6_statement_189 : decode cX6_statement 189 = .ok (.bipush 99, 2) := by decide +kernel
theorem dX6_statement_191 : decode cX6_statement 191 = .ok (.invokevirtual 82, 3) := by decide +kernel
theorem dX6_statement_194 : decode cX6_statement 194 = .ok (.ifCond .eq 45, 3) := by decide +kernel
theorem dX6_statement_197 : decode cX6_statement 197 = .ok (.aload_n 0, 1) := by decide +kernel
theorem dX6_statement_198 : decode cX6_statement 198 = .ok (.iconst 2, 1) := by decide +kernel
theorem dX6_statement_199 : decode cX6_statement 199 = .ok (.invokevirtual 86, 3) := by decide +kernel
theorem dX6_statement_202 : decode cX6_statement 202 = .ok (.ifCond .ne 5, 3) := by decide +kernel
theorem dX6_statement_205 : decode cX6_statement 205 = .ok (.iconst (-1), 1) := by decide +kernel
theorem dX6_statement_206 : decode cX6_statement 206 = .ok (.ireturn, 1) := by decide +kernel
theorem dX6_statement_207 : decode cX6_statement 207 = .ok (.iload_n 1, 1) := by decide +kernel
theorem dX6_statement_208 : decode cX6_statement 208 = .ok (.ifCond .ne 5, 3) := by decide +kernel
theorem dX6_statement_211 : decode cX6_statement 211 = .ok (.iconst 1, 1) := by decide +kernel
theorem dX6_statement_212 : decode cX6_statement 212 = .ok (.ireturn, 1) := by decide +kernel
theorem dX6_statement_213 : decode cX6_statement 213 = .ok (.aload_n 0, 1) := by decide +kernel
theorem dX6_statement_214 : decode cX6_statement 214 = .ok (.getfield 79, 3) := by decide +kernel
theorem dX6_statement_217 : decode cX6_statement 217 = .ok (.bipush 10, 2) := by decide +kernel
theorem dX6_statement_219 : decode cX6_statement 219 = .ok (.bipush 60, 2) := by decide +kernel
theorem dX6_statement_221 : decode cX6_statement 221 = .ok (.invokestatic 65, 3) := by decide +kernel
theorem dX6_statement_224 : decode cX6_statement 224 = .ok (.ifCond .ne 5, 3) := by decide +kernel
theorem dX6_statement_227 : decode cX6_statement 227 = .ok (.iconst 0, 1) := by decide +kernel
theorem dX6_statement_228 : decode cX6_statement 228 = .ok (.ireturn, 1) := by decide +kernel
theorem dX6_statement_229 : decode cX6_statement 229 = .ok (.aload_n 0, 1) := by decide +kernel
theorem dX6_statement_230 : decode cX6_statement 230 = .ok (.aload_n 0, 1) := by decide +kernel
theorem dX6_statement_231 : decode cX6_statement 231 = .ok (.getfield 79, 3) := by decide +kernel
theorem dX6_statement_234 : decode cX6_statement 234 = .ok (.putfield 50, 3) := by decide +kernel
theorem dX6_statement_237 : decode cX6_statement 237 = .ok (.iconst 1, 1) := by decide +kernel
theorem dX6_statement_238 : decode cX6_statement 238 = .ok (.ireturn, 1) := by decide +kernel
theorem dX6_statement_239 : decode cX6_statement 239 = .ok (.aload_n 0, 1) := by decide +kernel
theorem dX6_statement_240 : decode cX6_statement 240 = .ok (.bipush 104, 2) := by decide +kernel
theorem dX6_statement_242 : decode cX6_statement 242 = .ok (.invokevirtual 82, 3) := by decide +kernel
theorem dX6_statement_245 : decode cX6_statement 245 = .ok (.ifCond .eq 27, 3) := by decide +kernel
theorem dX6_statement_248 : decode cX6_statement 248 = .ok (.aload_n 0, 1) := by decide +kernel
theorem dX6_statement_249 : decode cX6_statement 249 = .ok (.iconst 1, 1) := by decide +kernel
theorem dX6_statement_250 : decode cX6_statement 250 = .ok (.invokevirtual 86, 3) := by decide +kernel
theorem dX6_statement_253 : decode cX6_statement 253 = .ok (.ifCond .ne 5, 3) := by decide +kernel
theorem dX6_statement_256 : decode cX6_statement 256 = .ok (.iconst (-1), 1) := by decide +kernel
theorem dX6_statement_257 : decode cX6_statement 257 = .ok (.ireturn, 1) := by decide +kernel
theorem dX6_statement_258 : decode cX6_statement 258 = .ok (.iload_n 1, 1) := by decide +kernel
theorem dX6_statement_259 : decode cX6_statement 259 = .ok (.ifCond .eq 11, 3) := by decide +kernel
theorem dX6_statement_262 : decode cX6_statement 262 = .ok (.aload_n 0, 1) := by decide +kernel
theorem dX6_statement_263 : decode cX6_statement 263 = .ok (.aload_n 0, 1) := by decide +kernel
theorem dX6_statement_264 : decode cX6_statement 264 = .ok (.getfield 79, 3) := by decide +kernel
theorem dX6_statement_267 : decode cX6_statement 267 = .ok (.putfield 34, 3) := by decide +kernel
theorem dX6_statement_270 : decode cX6_statement 270 = .ok (.iconst 1, 1) := by decide +kernel
theorem dX6_statement_271 : decode cX6_statement 271 = .ok (.ireturn, 1) := by decide +kernel
theorem dX6_statement_272 : decode cX6_statement 272 = .ok (.aload_n 0, 1) := by decide +kernel
theorem dX6_statement_273 : decode cX6_statement 273 = .ok (.bipush 105, 2) := by decide +kernel
theorem dX6_statement_275 : decode cX6_statement 275 = .ok (.invokevirtual 82, 3) := by decide +kernel
theorem dX6_statement_278 : decode cX6_statement 278 = .ok (.ifCond .eq 27, 3) := by decide +kernel
theorem dX6_statement_281 : decode cX6_statement 281 = .ok (.aload_n 0, 1) := by decide +kernel
theorem dX6_statement_282 : decode cX6_statement 282 = .ok (.iconst 1, 1) := by decide +kernel
theorem dX6_statement_283 : decode cX6_statement 283 = .ok (.invokevirtual 86, 3) := by decide +kernel
theorem dX6_statement_286 : decode cX6_statement 286 = .ok (.ifCond .ne 5, 3) := by decide +kernel
theorem dX6_statement_289 : decode cX6_statement 289 = .ok (.iconst (-1), 1) := by decide +kernel
theorem dX6_statement_290 : decode cX6_statement 290 = .ok (.ireturn, 1) := by decide +kernel
theorem dX6_statement_291 : decode cX6_statement 291 = .ok (.iload_n 1, 1) := by decide +kernel
theorem dX6_statement_292 : decode cX6_statement 292 = .ok (.ifCond .eq 11, 3) := by decide +kernel
theorem dX6_statement_295 : decode cX6_statement 295 = .ok (.aload_n 0, 1) := by decide +kernel
theorem dX6_statement_296 : decode cX6_statement 296 = .ok (.aload_n 0, 1) := by decide +kernel
theorem dX6_statement_297 : decode cX6_statement 297 = .ok (.getfield 79, 3) := by decide +kernel
theorem dX6_statement_300 : decode cX6_statement 300 = .ok (.putfield 89, 3) := by decide +kernel
theorem dX6_statement_303 : decode cX6_statement 303 = .ok (.iconst 1, 1) := by decide +kernel
theorem dX6_statement_304 : decode cX6_statement 304 = .ok (.ireturn, 1) := by decide +kernel
theorem dX6_statement_305 : decode cX6_statement 305 = .ok (.aload_n 0, 1) := by decide +kernel
theorem dX6_statement_306 : decode cX6_statement 306 = .ok (.bipush 102, 2) := by decide +kernel
theorem dX6_statement_308 : decode cX6_statement 308 = .ok (.invokevirtual 82, 3) := by decide +kernel
theorem dX6_statement_311 : decode cX6_statement 311 = .ok (.ifCond .eq 100, 3) := by decide +kernel
theorem dX6_statement_314 : decode cX6_statement 314 = .ok (.aload_n 0, 1) := by decide +kernel
theorem dX6_statement_315 : decode cX6_statement 315 = .ok (.bipush 45, 2) := by decide +kernel
theorem dX6_statement_317 : decode cX6_statement 317 = .ok (.invokevirtual 82, 3) := by decide +kernel
theorem dX6_statement_320 : decode cX6_statement 320 = .ok (.istore_n 2, 1) := by decide +kernel
theorem dX6_statement_321 : decode cX6_statement 321 = .ok (.iload_n 2, 1) := by decide +kernel
theorem dX6_statement_322 : decode cX6_statement 322 = .ok (.ifCond .ne 12, 3) := by decide +kernel
theorem dX6_statement_325 : decode cX6_statement 325 = .ok (.aload_n 0, 1) := by decide +kernel
theorem dX6_statement_326 : decode cX6_statement 326 = .ok (.bipush 43, 2) := by decide +kernel
theorem dX6_statement_328 : decode cX6_statement 328 = .ok (.invokevirtual 82, 3) := by decide +kernel
theorem dX6_statement_331 : decode cX6_statement 331 = .ok (.ifCond .eq 11, 3) := by decide +kernel
theorem dX6_statement_334 : decode cX6_statement 334 = .ok (.aload_n 0, 1) := by decide +kernel
theorem dX6_statement_335 : decode cX6_statement 335 = .ok (.iconst 1, 1) := by decide +kernel
theorem dX6_statement_336 : decode cX6_statement 336 = .ok (.invokevirtual 86, 3) := by decide +kernel
theorem dX6_statement_339 : decode cX6_statement 339 = .ok (.ifCond .ne 5, 3) := by decide +kernel
theorem dX6_statement_342 : decode cX6_statement 342 = .ok (.iconst (-1), 1) := by decide +kernel
theorem dX6_statement_343 : decode cX6_statement 343 = .ok (.ireturn, 1) := by decide +kernel
theorem dX6_statement_344 : decode cX6_statement 344 = .ok (.iload_n 2, 1) := by decide +kernel
theorem dX6_statement_345 : decode cX6_statement 345 = .ok (.ifCond .eq 11, 3) := by decide +kernel
theorem dX6_statement_348 : decode cX6_statement 348 = .ok (.aload_n 0, 1) := by decide +kernel
theorem dX6_statement_349 : decode cX6_statement 349 = .ok (.getfield 79, 3) := by decide +kernel
theorem dX6_statement_352 : decode cX6_statement 352 = .ok (.ineg, 1) := by decide +kernel
theorem dX6_statement_353 : decode cX6_statement 353 = .ok (.goto 7, 3) := by decide +kernel
theorem dX6_statement_356 : decode cX6_statement 356 = .ok (.aload_n 0, 1) := by decide +kernel
theorem dX6_statement_357 : decode cX6_statement 357 = .ok (.getfield 79, 3) := by decide +kernel
theorem dX6_statement_360 : decode cX6_statement 360 = .ok (.istore_n 3, 1) := by decide +kernel
theorem dX6_statement_361 : decode cX6_statement 361 = .ok (.aload_n 0, 1) := by decide +kernel
theorem dX6_statement_362 : decode cX6_statement 362 = .ok (.iconst 1, 1) := by decide +kernel
theorem dX6_statement_363 : decode cX6_statement 363 = .ok (.invokevirtual 86, 3) := by decide +kernel
theorem dX6_statement_366 : decode cX6_statement 366 = .ok (.ifCond .ne 5, 3) := by decide +kernel
theorem dX6_statement_369 : decode cX6_statement 369 = .ok (.iconst (-1), 1) := by decide +kernel
theorem dX6_statement_370 : decode cX6_statement 370 = .ok (.ireturn, 1) := by decide +kernel
theorem dX6_statement_371 : decode cX6_statement 371 = .ok (.iload_n 1, 1) := by decide +kernel
theorem dX6_statement_372 : decode cX6_statement 372 = .ok (.ifCond .ne 5, 3) := by decide +kernel
theorem dX6_statement_375 : decode cX6_statement 375 = .ok (.iconst 1, 1) := by decide +kernel
theorem dX6_statement_376 : decode cX6_statement 376 = .ok (.ireturn, 1) := by decide +kernel
theorem dX6_statement_377 : decode cX6_statement 377 = .ok (.iload_n 3, 1) := by decide +kernel
theorem dX6_statement_378 : decode cX6_statement 378 = .ok (.bipush (-3), 2) := by decide +kernel
theorem dX6_statement_380 : decode cX6_statement 380 = .ok (.iconst 3, 1) := by decide +kernel
theorem dX6_statement_381 : decode cX6_statement 381 = .ok (.invokestatic 65, 3) := by decide +kernel
theorem dX6_statement_384 : decode cX6_statement 384 = .ok (.ifCond .eq 10, 3) := by decide +kernel
theorem dX6_statement_387 : decode cX6_statement 387 = .ok (.aload_n 0, 1) := by decide +kernel
theorem dX6_statement_388 : decode cX6_statement 388 = .ok (.getfield 79, 3) := by decide +kernel
theorem dX6_statement_391 : decode cX6_statement 391 = .ok (.ifCond .ne 5, 3) := by decide +kernel
theorem dX6_statement_394 : decode cX6_statement 394 = .ok (.iconst 0, 1) := by decide +kernel
theorem dX6_statement_395 : decode cX6_statement 395 = .ok (.ireturn, 1) := by decide +kernel
theorem dX6_statement_396 : decode cX6_statement 396 = .ok (.aload_n 0, 1) := by decide +kernel
theorem dX6_statement_397 : decode cX6_statement 397 = .ok (.iload_n 3, 1) := by decide +kernel
theorem dX6_statement_398 : decode cX6_statement 398 = .ok (.putfield 92, 3) := by decide +kernel
theorem dX6_statement_401 : decode cX6_statement 401 = .ok (.aload_n 0, 1) := by decide +kernel
theorem dX6_statement_402 : decode cX6_statement 402 = .ok (.aload_n 0, 1) := by decide +kernel
theorem dX6_statement_403 : decode cX6_statement 403 = .ok (.getfield 79, 3) := by decide +kernel
theorem dX6_statement_406 : decode cX6_statement 406 = .ok (.putfield 53, 3) := by decide +kernel
theorem dX6_statement_409 : decode cX6_statement 409 = .ok (.iconst 1, 1) := by decide +kernel
theorem dX6_statement_410 : decode cX6_statement 410 = .ok (.ireturn, 1) := by decide +kernel
theorem dX6_statement_411 : decode cX6_statement 411 = .ok (.aload_n 0, 1) := by decide +kernel
theorem dX6_statement_412 : decode cX6_statement 412 = .ok (.bipush 112, 2) := by decide +kernel
theorem dX6_statement_414 : decode cX6_statement 414 = .ok (.invokevirtual 82, 3) := by decide +kernel
theorem dX6_statement_417 : decode cX6_statement 417 = .ok (.ifCond .ne 5, 3) := by decide +kernel
theorem dX6_statement_420 : decode cX6_statement 420 = .ok (.iconst (-1), 1) := by decide +kernel
theorem dX6_statement_421 : decode cX6_statement 421 = .ok (.ireturn, 1) := by decide +kernel
theorem dX6_statement_422 : decode cX6_statement 422 = .ok (.aload_n 0, 1) := by decide +kernel
theorem dX6_statement_423 : decode cX6_statement 423 = .ok (.getfield 72, 3) := by decide +kernel
theorem dX6_statement_426 : decode cX6_statement 426 = .ok (.aload_n 0, 1) := by decide +kernel
theorem dX6_statement_427 : decode cX6_statement 427 = .ok (.getfield 69, 3) := by decide +kernel
theorem dX6_statement_430 : decode cX6_statement 430 = .ok (.if_icmp .ge 32, 3) := by decide +kernel
theorem dX6_statement_433 : decode cX6_statement 433 = .ok (.aload_n 0, 1) := by decide +kernel
theorem dX6_statement_434 : decode cX6_statement 434 = .ok (.getfield 19, 3) := by decide +kernel
theorem dX6_statement_437 : decode cX6_statement 437 = .ok (.aload_n 0, 1) := by decide +kernel
theorem dX6_statement_438 : decode cX6_statement 438 = .ok (.getfield 72, 3) := by decide +kernel
theorem dX6_statement_441 : decode cX6_statement 441 = .ok (.iaload, 1) := by decide +kernel
theorem dX6_statement_442 : decode cX6_statement 442 = .ok (.ifCond .le 20, 3) := by decide +kernel
theorem dX6_statement_445 : decode cX6_statement 445 = .ok (.ldc 95, 2) := by decide +kernel
theorem dX6_statement_447 : decode cX6_statement 447 = .ok (.aload_n 0, 1) := by decide +kernel
theorem dX6_statement_448 : decode cX6_statement 448 = .ok (.getfield 19, 3) := by decide +kernel
theorem dX6_statement_451 : decode cX6_statement 451 = .ok (.aload_n 0, 1) := by decide +kernel
theorem dX6_statement_452 : decode cX6_statement 452 = .ok (.getfield 72, 3) := by decide +kernel
theorem dX6_statement_455 : decode cX6_statement 455 = .ok (.iaload, 1) := by decide +kernel
theorem dX6_statement_456 : decode cX6_statement 456 = .ok (.invokevirtual 97, 3) := by decide +kernel
theorem dX6_statement_459 : decode cX6_statement 459 = .ok (.goto 4, 3) := by decide +kernel
theorem dX6_statement_462 : decode cX6_statement 462 = .ok (.iconst (-1), 1) := by decide +kernel
theorem dX6_statement_463 : decode cX6_statement 463 = .ok (.istore_n 2, 1) := by decide +kernel
theorem dX6_statement_464 : decode cX6_statement 464 = .ok (.iload_n 2, 1) := by decide +kernel
theorem dX6_statement_465 : decode cX6_statement 465 = .ok (.ifCond .ge 5, 3) := by decide +kernel
theorem dX6_statement_468 : decode cX6_statement 468 = .ok (.iconst (-1), 1) := by decide +kernel
theorem dX6_statement_469 : decode cX6_statement 469 = .ok (.ireturn, 1) := by decide +kernel
theorem dX6_statement_470 : decode cX6_statement 470 = .ok (.aload_n 0, 1) := by decide +kernel
theorem dX6_statement_471 : decode cX6_statement 471 = .ok (.dup, 1) := by decide +kernel
theorem dX6_statement_472 : decode cX6_statement 472 = .ok (.getfield 72, 3) := by decide +kernel
theorem dX6_statement_475 : decode cX6_statement 475 = .ok (.iconst 1, 1) := by decide +kernel
theorem dX6_statement_476 : decode cX6_statement 476 = .ok (.iadd, 1) := by decide +kernel
theorem dX6_statement_477 : decode cX6_statement 477 = .ok (.putfield 72, 3) := by decide +kernel
theorem dX6_statement_480 : decode cX6_statement 480 = .ok (.aload_n 0, 1) := by decide +kernel
theorem dX6_statement_481 : decode cX6_statement 481 = .ok (.iconst 1, 1) := by decide +kernel
theorem dX6_statement_482 : decode cX6_statement 482 = .ok (.invokevirtual 86, 3) := by decide +kernel
theorem dX6_statement_485 : decode cX6_statement 485 = .ok (.ifCond .ne 5, 3) := by decide +kernel
theorem dX6_statement_488 : decode cX6_statement 488 = .ok (.iconst (-1), 1) := by decide +kernel
theorem dX6_statement_489 : decode cX6_statement 489 = .ok (.ireturn, 1) := by decide +kernel
theorem dX6_statement_490 : decode cX6_statement 490 = .ok (.aload_n 0, 1) := by decide +kernel
theorem dX6_statement_491 : decode cX6_statement 491 = .ok (.getfield 79, 3) := by decide +kernel
theorem dX6_statement_494 : decode cX6_statement 494 = .ok (.istore_n 3, 1) := by decide +kernel
theorem dX6_statement_495 : decode cX6_statement 495 = .ok (.aload_n 0, 1) := by decide +kernel
theorem dX6_statement_496 : decode cX6_statement 496 = .ok (.iconst 1, 1) := by decide +kernel
theorem dX6_statement_497 : decode cX6_statement 497 = .ok (.invokevirtual 86, 3) := by decide +kernel
theorem dX6_statement_500 : decode cX6_statement 500 = .ok (.ifCond .ne 5, 3) := by decide +kernel
theorem dX6_statement_503 : decode cX6_statement 503 = .ok (.iconst (-1), 1) := by decide +kernel
theorem dX6_statement_504 : decode cX6_statement 504 = .ok (.ireturn, 1) := by decide +kernel
theorem dX6_statement_505 : decode cX6_statement 505 = .ok (.iload_n 1, 1) := by decide +kernel
theorem dX6_statement_506 : decode cX6_statement 506 = .ok (.ifCond .ne 5, 3) := by decide +kernel
theorem dX6_statement_509 : decode cX6_statement 509 = .ok (.iconst 1, 1) := by decide +kernel
theorem dX6_statement_510 : decode cX6_statement 510 = .ok (.ireturn, 1) := by decide +kernel
theorem dX6_statement_511 : decode cX6_statement 511 = .ok (.iload_n 3, 1) := by decide +kernel
theorem dX6_statement_512 : decode cX6_statement 512 = .ok (.ifCond .eq 11, 3) := by decide +kernel
theorem dX6_statement_515 : decode cX6_statement 515 = .ok (.aload_n 0, 1) := by decide +kernel
theorem dX6_statement_516 : decode cX6_statement 516 = .ok (.getfield 62, 3) := by decide +kernel
theorem dX6_statement_519 : decode cX6_statement 519 = .ok (.iconst 5, 1) := by decide +kernel
theorem dX6_statement_520 : decode cX6_statement 520 = .ok (.if_icmp .ne 5, 3) := by decide +kernel
theorem dX6_statement_523 : decode cX6_statement 523 = .ok (.iconst 0, 1) := by decide +kernel
theorem dX6_statement_524 : decode cX6_statement 524 = .ok (.ireturn, 1) := by decide +kernel
theorem dX6_statement_525 : decode cX6_statement 525 = .ok (.aload_n 0, 1) := by decide +kernel
theorem dX6_statement_526 : decode cX6_statement 526 = .ok (.getfield 7, 3) := by decide +kernel
theorem dX6_statement_529 : decode cX6_statement 529 = .ok (.aload_n 0, 1) := by decide +kernel
theorem dX6_statement_530 : decode cX6_statement 530 = .ok (.getfield 62, 3) := by decide +kernel
theorem dX6_statement_533 : decode cX6_statement 533 = .ok (.iload_n 2, 1) := by decide +kernel
theorem dX6_statement_534 : decode cX6_statement 534 = .ok (.iastore, 1) := by decide +kernel
theorem dX6_statement_535 : decode cX6_statement 535 = .ok (.aload_n 0, 1) := by decide +kernel
theorem dX6_statement_536 : decode cX6_statement 536 = .ok (.getfield 13, 3) := by decide +kernel
theorem dX6_statement_539 : decode cX6_statement 539 = .ok (.aload_n 0, 1) := by decide +kernel
theorem dX6_statement_540 : decode cX6_statement 540 = .ok (.getfield 62, 3) := by decide +kernel
theorem dX6_statement_543 : decode cX6_statement 543 = .ok (.iload_n 3, 1) := by decide +kernel
theorem dX6_statement_544 : decode cX6_statement 544 = .ok (.iastore, 1) := by decide +kernel
theorem dX6_statement_545 : decode cX6_statement 545 = .ok (.aload_n 0, 1) := by decide +kernel
theorem dX6_statement_546 : decode cX6_statement 546 = .ok (.getfield 16, 3) := by decide +kernel
theorem dX6_statement_549 : decode cX6_statement 549 = .ok (.aload_n 0, 1) := by decide +kernel
theorem dX6_statement_550 : decode cX6_statement 550 = .ok (.dup, 1) := by decide +kernel
theorem dX6_statement_551 : decode cX6_statement 551 = .ok (.getfield 62, 3) := by decide +kernel
theorem dX6_statement_554 : decode cX6_statement 554 = .ok (.dup_x1, 1) := by decide +kernel
theorem dX6_statement_555 : decode cX6_statement 555 = .ok (.iconst 1, 1) := by decide +kernel
theorem dX6_statement_556 : decode cX6_statement 556 = .ok (.iadd, 1) := by decide +kernel
theorem dX6_statement_557 : decode cX6_statement 557 = .ok (.putfield 62, 3) := by decide +kernel
theorem dX6_statement_560 : decode cX6_statement 560 = .ok (.aload_n 0, 1) := by decide +kernel
theorem dX6_statement_561 : decode cX6_statement 561 = .ok (.getfield 79, 3) := by decide +kernel
theorem dX6_statement_564 : decode cX6_statement 564 = .ok (.iastore, 1) := by decide +kernel
theorem dX6_statement_565 : decode cX6_statement 565 = .ok (.iconst 1, 1) := by decide +kernel
theorem dX6_statement_566 : decode cX6_statement 566 = .ok (.ireturn, 1) := by decide +kernel
set_option maxRecDepth 20000 in
theorem ggSt0 : GoodIn wsX6_office ((wsX6_statement.drop 0).take 24) := goodIn_r _ [8, 9, 10, 11, 12, 13, 14, 15, 16, 17, 18, 1, 2, 19, 20, 21, 22, 23, 24, 25, 26, 7, 27, 28] (by decide +kernel) (by decide +kernel)
set_option maxRecDepth 20000 in
theorem ggSt1 : GoodIn wsX6_office ((wsX6_statement.drop 24).take 24) := goodIn_r _ [29, 30, 31, 32, 33, 34, 35, 36, 37, 38, 39, 40, 41, 42, 43, 44, 45, 46, 47, 48, 49, 50, 51, 52] (by decide +kernel) (by decide +kernel)
set_option maxRecDepth 20000 in
theorem ggSt2 : GoodIn wsX6_office ((wsX6_statement.drop 48).take 24) := goodIn_r _ [53, 54, 55, 56, 57, 58, 59, 60, 61, 62, 63, 64, 65, 66, 67, 68, 69, 70, 71, 72, 73, 74, 75, 76] (by decide +kernel) (by decide +kernel)
set_option maxRecDepth 20000 in
theorem ggSt3 : GoodIn wsX6_office ((wsX6_statement.drop 72).take 24) := goodIn_r _ [77, 78, 79, 80, 81, 82, 83, 84, 85, 86, 87, 88, 89, 90, 91, 92, 93, 94, 95, 96, 97, 98, 99, 100] (by decide +kernel) (by decide +kernel)
set_option maxRecDepth 20000 in
theorem ggSt4 : GoodIn wsX6_office ((wsX6_statement.drop 96).take 24) := goodIn_r _ [101, 102, 103, 104, 105, 106, 107, 108, 109, 110, 111, 112, 113, 114, 115, 116, 117, 118, 119, 120, 121, 122, 123, 124] (by decide +kernel) (by decide +kernel)
set_option maxRecDepth 20000 in
theorem ggSt5 : GoodIn wsX6_office ((wsX6_statement.drop 120).take 24) := goodIn_r _ [125, 126, 127, 139, 140, 141, 142, 143, 144, 145, 146, 147, 148, 149, 150, 151, 152, 153, 154, 155, 156, 157, 158, 159] (by decide +kernel) (by decide +kernel)
set_option maxRecDepth 20000 in
theorem ggSt6 : GoodIn wsX6_office (wsX6_statement.drop 144) := goodIn_r _ [160, 161, 162, 163, 164, 165, 166, 167, 168, 169] (by decide +kernel) (by decide +kernel)
theorem gg_cut {big ws : List Cond} {a b : Nat} (h1 : GoodIn big ((ws.drop a).take b)) (h2 : GoodIn big (ws.drop (a + b))) : GoodIn big (ws.drop a) := by
  have e := List.take_append_drop b (ws.drop a)
  rw [List.drop_drop] at e
  rw [← e]
  exact goodIn_app h1 h2
theorem ggX6_office_X6_statement : GoodIn wsX6_office wsX6_statement := (gg_cut (a := 0) (b := 24) ggSt0 (gg_cut (a := 24) (b := 24) ggSt1 (gg_cut (a := 48) (b := 24) ggSt2 (gg_cut (a := 72) (b := 24) ggSt3 (gg_cut (a := 96) (b := 24) ggSt4 (gg_cut (a := 120) (b := 24) ggSt5 ggSt6))))))
set_option maxRecDepth 20000 in
theorem gX6_office_X6_statement : GoodIn wsX6_office (wsV RX6 102 RX6 yX6_statement wsX6_statement) := goodIn_app (goodIn_of _ (by decide +kernel)) ggX6_office_X6_statement
set_option maxRecDepth 20000 in
theorem ggX6_office_X6_is : GoodIn wsX6_office wsX6_is := goodIn_r _ [27, 1, 2, 19, 139, 140, 141, 142, 143, 144, 145, 146, 147, 148, 149, 150, 151, 152, 153, 154, 155, 156, 157, 158, 159, 160, 161, 162, 163, 164, 165, 166, 167, 168, 169] (by decide +kernel) (by decide +kernel)
set_option maxRecDepth 20000 in
theorem gX6_office_X6_is : GoodIn wsX6_office (wsV RX6 82 RX6 yX6_is wsX6_is) := goodIn_app (goodIn_of _ (by decide +kernel)) ggX6_office_X6_is
set_option maxRecDepth 20000 in
theorem ggX6_office_X6_keep : GoodIn wsX6_office wsX6_keep := goodIn_r _ [131, 21, 22, 23, 15, 11, 12, 13, 16, 10, 14, 17, 18, 132, 133, 134, 20, 139, 140, 141, 142, 143, 144, 145, 146, 147, 148, 149, 150, 151, 152, 153, 154, 155, 156, 157, 158, 159, 160, 161, 162, 163, 164, 165, 166, 167, 168, 169] (by decide +kernel) (by decide +kernel)
set_option maxRecDepth 20000 in
theorem gX6_office_X6_keep : GoodIn wsX6_office (wsV RX6 106 RX6 yX6_keep wsX6_keep) := goodIn_app (goodIn_of _ (by decide +kernel)) ggX6_office_X6_keep
set_option maxRecDepth 20000 in
theorem ggX6_office_X6_again : GoodIn wsX6_office wsX6_again := goodIn_r _ [138, 21, 22, 23, 15, 11, 12, 13, 16, 10, 14, 17, 18, 132, 133, 134, 20, 139, 140, 141, 142, 143, 144, 145, 146, 147, 148, 149, 150, 151, 152, 153, 154, 155, 156, 157, 158, 159, 160, 161, 162, 163, 164, 165, 166, 167, 168, 169] (by decide +kernel) (by decide +kernel)
set_option maxRecDepth 20000 in
theorem gX6_office_X6_again : GoodIn wsX6_office (wsV RX6 110 RX6 yX6_again wsX6_again) := goodIn_app (goodIn_of _ (by decide +kernel)) ggX6_office_X6_again
theorem dX6_office_0 : decode cX6_office 0 = .ok (.aload_n 0, 1) := by decide +kernel
theorem dX6_office_1 : decode cX6_office 1 = .ok (.iconst 0, 1) := by decide +kernel
theorem dX6_office_2 : decode cX6_office 2 = .ok (.putfield 72, 3) := by decide +kernel
theorem dX6_office_5 : decode cX6_office 5 = .ok (.iconst 1, 1) := by decide +kernel
theorem dX6_office_6 : decode cX6_office 6 = .ok (.istore_n 1, 1) := by decide +kernel
theorem dX6_office_7 : decode cX6_office 7 = .ok (.iload_n 1, 1) := by decide +kernel
theorem dX6_office_8 : decode cX6_office 8 = .ok (.ifCond .eq 45, 3) := by decide +kernel
theorem dX6_office_11 : decode cX6_office 11 = .ok (.aload_n 0, 1) := by decide +kernel
theorem dX6_office_12 : decode cX6_office 12 = .ok (.iconst 0, 1) := by decide +kernel
theorem dX6_office_13 : decode cX6_office 13 = .ok (.invokevirtual 102, 3) := by decide +kernel
theorem dX6_office_16 : decode cX6_office 16 = .ok (.iconst 1, 1) := by decide +kernel
theorem dX6_office_17 : decode cX6_office 17 = .ok (.if_icmp .ne 16, 3) := by decide +kernel
theorem dX6_office_20 : decode cX6_office 20 = .ok (.aload_n 0, 1) := by decide +kernel
theorem dX6_office_21 : decode cX6_office 21 = .ok (.bipush 59, 2) := by decide +kernel
theorem dX6_office_23 : decode cX6_office 23 = .ok (.invokevirtual 82, 3) := by decide +kernel
theorem dX6_office_26 : decode cX6_office 26 = .ok (.ifCond .eq 7, 3) := by decide +kernel
theorem dX6_office_29 : decode cX6_office 29 = .ok (.iconst 1, 1) := by decide +kernel
theorem dX6_office_30 : decode cX6_office 30 = .ok (.goto 4, 3) := by decide +kernel
theorem dX6_office_33 : decode cX6_office 33 = .ok (.iconst 0, 1) := by decide +kernel
theorem dX6_office_34 : decode cX6_office 34 = .ok (.istore_n 1, 1) := by decide +kernel
theorem dX6_office_35 : decode cX6_office 35 = .ok (.iload_n 1, 1) := by decide +kernel
theorem dX6_office_36 : decode cX6_office 36 = .ok (.ifCond .eq (-29), 3) := by decide +kernel
theorem dX6_office_39 : decode cX6_office 39 = .ok (.aload_n 0, 1) := by decide +kernel
theorem dX6_office_40 : decode cX6_office 40 = .ok (.getfield 72, 3) := by decide +kernel
theorem dX6_office_43 : decode cX6_office 43 = .ok (.aload_n 0, 1) := by decide +kernel
theorem dX6_office_44 : decode cX6_office 44 = .ok (.getfield 69, 3) := by decide +kernel
theorem dX6_office_47 : decode cX6_office 47 = .ok (.if_icmp .ne (-40), 3) := by decide +kernel
theorem dX6_office_50 : decode cX6_office 50 = .ok (.goto 3, 3) := by decide +kernel
theorem dX6_office_53 : decode cX6_office 53 = .ok (.iload_n 1, 1) := by decide +kernel
theorem dX6_office_54 : decode cX6_office 54 = .ok (.ifCond .ne 17, 3) := by decide +kernel
theorem dX6_office_57 : decode cX6_office 57 = .ok (.aload_n 0, 1) := by decide +kernel
theorem dX6_office_58 : decode cX6_office 58 = .ok (.iconst 0, 1) := by decide +kernel
theorem dX6_office_59 : decode cX6_office 59 = .ok (.putfield 69, 3) := by decide +kernel
theorem dX6_office_62 : decode cX6_office 62 = .ok (.sipush (-1000), 3) := by decide +kernel
theorem dX6_office_65 : decode cX6_office 65 = .ok (.aload_n 0, 1) := by decide +kernel
theorem dX6_office_66 : decode cX6_office 66 = .ok (.getfield 72, 3) := by decide +kernel
theorem dX6_office_69 : decode cX6_office 69 = .ok (.isub, 1) := by decide +kernel
theorem dX6_office_70 : decode cX6_office 70 = .ok (.ireturn, 1) := by decide +kernel
theorem dX6_office_71 : decode cX6_office 71 = .ok (.aload_n 0, 1) := by decide +kernel
theorem dX6_office_72 : decode cX6_office 72 = .ok (.aload_n 0, 1) := by decide +kernel
theorem dX6_office_73 : decode cX6_office 73 = .ok (.getfield 31, 3) := by decide +kernel
theorem dX6_office_76 : decode cX6_office 76 = .ok (.invokevirtual 106, 3) := by decide +kernel
theorem dX6_office_79 : decode cX6_office 79 = .ok (.aload_n 0, 1) := by decide +kernel
theorem dX6_office_80 : decode cX6_office 80 = .ok (.iconst 0, 1) := by decide +kernel
theorem dX6_office_81 : decode cX6_office 81 = .ok (.putfield 72, 3) := by decide +kernel
theorem dX6_office_84 : decode cX6_office 84 = .ok (.iconst 0, 1) := by decide +kernel
theorem dX6_office_85 : decode cX6_office 85 = .ok (.istore_n 2, 1) := by decide +kernel
theorem dX6_office_86 : decode cX6_office 86 = .ok (.aload_n 0, 1) := by decide +kernel
theorem dX6_office_87 : decode cX6_office 87 = .ok (.getfield 72, 3) := by decide +kernel
theorem dX6_office_90 : decode cX6_office 90 = .ok (.aload_n 0, 1) := by decide +kernel
theorem dX6_office_91 : decode cX6_office 91 = .ok (.getfield 69, 3) := by decide +kernel
theorem dX6_office_94 : decode cX6_office 94 = .ok (.if_icmp .ge 48, 3) := by decide +kernel
theorem dX6_office_97 : decode cX6_office 97 = .ok (.aload_n 0, 1) := by decide +kernel
theorem dX6_office_98 : decode cX6_office 98 = .ok (.getfield 72, 3) := by decide +kernel
theorem dX6_office_101 : decode cX6_office 101 = .ok (.istore_n 3, 1) := by decide +kernel
theorem dX6_office_102 : decode cX6_office 102 = .ok (.aload_n 0, 1) := by decide +kernel
theorem dX6_office_103 : decode cX6_office 103 = .ok (.iconst 1, 1) := by decide +kernel
theorem dX6_office_104 : decode cX6_office 104 = .ok (.invokevirtual 102, 3) := by decide +kernel
theorem dX6_office_107 : decode cX6_office 107 = .ok (.ifCond .ne 22, 3) := by decide +kernel
theorem dX6_office_110 : decode cX6_office 110 = .ok (.aload_n 0, 1) := by decide +kernel
theorem dX6_office_111 : decode cX6_office 111 = .ok (.aload_n 0, 1) := by decide +kernel
theorem dX6_office_112 : decode cX6_office 112 = .ok (.getfield 31, 3) := by decide +kernel
theorem dX6_office_115 : decode cX6_office 115 = .ok (.invokevirtual 110, 3) := by decide +kernel
theorem dX6_office_118 : decode cX6_office 118 = .ok (.aload_n 0, 1) := by decide +kernel
theorem dX6_office_119 : decode cX6_office 119 = .ok (.iconst 0, 1) := by decide +kernel
theorem dX6_office_120 : decode cX6_office 120 = .ok (.putfield 69, 3) := by decide +kernel
theorem dX6_office_123 : decode cX6_office 123 = .ok (.sipush (-2000), 3) := by decide +kernel
theorem dX6_office_126 : decode cX6_office 126 = .ok (.iload_n 3, 1) := by decide +kernel
theorem dX6_office_127 : decode cX6_office 127 = .ok (.isub, 1) := by decide +kernel
theorem dX6_office_128 : decode cX6_office 128 = .ok (.ireturn, 1) := by decide +kernel
theorem dX6_office_129 : decode cX6_office 129 = .ok (.aload_n 0, 1) := by decide +kernel
theorem dX6_office_130 : decode cX6_office 130 = .ok (.bipush 59, 2) := by decide +kernel
theorem dX6_office_132 : decode cX6_office 132 = .ok (.invokevirtual 82, 3) := by decide +kernel
theorem dX6_office_135 : decode cX6_office 135 = .ok (.pop, 1) := by decide +kernel
theorem dX6_office_136 : decode cX6_office 136 = .ok (.iinc 2 1, 3) := by decide +kernel
theorem dX6_office_139 : decode cX6_office 139 = .ok (.goto (-53), 3) := by decide +kernel
theorem dX6_office_142 : decode cX6_office 142 = .ok (.aload_n 0, 1) := by decide +kernel
theorem dX6_office_143 : decode cX6_office 143 = .ok (.iconst 0, 1) := by decide +kernel
theorem dX6_office_144 : decode cX6_office 144 = .ok (.putfield 69, 3) := by decide +kernel
theorem dX6_office_147 : decode cX6_office 147 = .ok (.iload_n 2, 1) := by decide +kernel
theorem dX6_office_148 : decode cX6_office 148 = .ok (.ireturn, 1) := by decide +kernel
theorem dX6_drag_0 : decode cX6_drag 0 = .ok (.iconst 0, 1) := by decide +kernel
theorem dX6_drag_1 : decode cX6_drag 1 = .ok (.aload_n 0, 1) := by decide +kernel
theorem dX6_drag_2 : decode cX6_drag 2 = .ok (.getfield 13, 3) := by decide +kernel
theorem dX6_drag_5 : decode cX6_drag 5 = .ok (.iload_n 1, 1) := by decide +kernel
theorem dX6_drag_6 : decode cX6_drag 6 = .ok (.iaload, 1) := by decide +kernel
theorem dX6_drag_7 : decode cX6_drag 7 = .ok (.iconst 3, 1) := by decide +kernel
theorem dX6_drag_8 : decode cX6_drag 8 = .ok (.idiv, 1) := by decide +kernel
theorem dX6_drag_9 : decode cX6_drag 9 = .ok (.aload_n 0, 1) := by decide +kernel
theorem dX6_drag_10 : decode cX6_drag 10 = .ok (.getfield 16, 3) := by decide +kernel
theorem dX6_drag_13 : decode cX6_drag 13 = .ok (.iload_n 1, 1) := by decide +kernel
theorem dX6_drag_14 : decode cX6_drag 14 = .ok (.iaload, 1) := by decide +kernel
theorem dX6_drag_15 : decode cX6_drag 15 = .ok (.iconst 4, 1) := by decide +kernel
theorem dX6_drag_16 : decode cX6_drag 16 = .ok (.idiv, 1) := by decide +kernel
theorem dX6_drag_17 : decode cX6_drag 17 = .ok (.isub, 1) := by decide +kernel
theorem dX6_drag_18 : decode cX6_drag 18 = .ok (.invokestatic 113, 3) := by decide +kernel
theorem dX6_drag_21 : decode cX6_drag 21 = .ok (.istore_n 2, 1) := by decide +kernel
theorem dX6_drag_22 : decode cX6_drag 22 = .ok (.aload_n 0, 1) := by decide +kernel
theorem dX6_drag_23 : decode cX6_drag 23 = .ok (.getfield 7, 3) := by decide +kernel
theorem dX6_drag_26 : decode cX6_drag 26 = .ok (.iload_n 1, 1) := by decide +kernel
theorem dX6_drag_27 : decode cX6_drag 27 = .ok (.iaload, 1) := by decide +kernel
theorem dX6_drag_28 : decode cX6_drag 28 = .ok (.tableswitch 50 1 5 #[36, 40, 42, 46, 40], 36) := by decide +kernel
theorem dX6_drag_64 : decode cX6_drag 64 = .ok (.iload_n 2, 1) := by decide +kernel
theorem dX6_drag_65 : decode cX6_drag 65 = .ok (.iconst 2, 1) := by decide +kernel
theorem dX6_drag_66 : decode cX6_drag 66 = .ok (.idiv, 1) := by decide +kernel
theorem dX6_drag_67 : decode cX6_drag 67 = .ok (.ireturn, 1) := by decide +kernel
theorem dX6_drag_68 : decode cX6_drag 68 = .ok (.iconst 0, 1) := by decide +kernel
theorem dX6_drag_69 : decode cX6_drag 69 = .ok (.ireturn, 1) := by decide +kernel
theorem dX6_drag_70 : decode cX6_drag 70 = .ok (.iload_n 2, 1) := by decide +kernel
theorem dX6_drag_71 : decode cX6_drag 71 = .ok (.iconst 1, 1) := by decide +kernel
theorem dX6_drag_72 : decode cX6_drag 72 = .ok (.iadd, 1) := by decide +kernel
theorem dX6_drag_73 : decode cX6_drag 73 = .ok (.ireturn, 1) := by decide +kernel
theorem dX6_drag_74 : decode cX6_drag 74 = .ok (.iload_n 2, 1) := by decide +kernel
theorem dX6_drag_75 : decode cX6_drag 75 = .ok (.iconst 2, 1) := by decide +kernel
theorem dX6_drag_76 : decode cX6_drag 76 = .ok (.iadd, 1) := by decide +kernel
theorem dX6_drag_77 : decode cX6_drag 77 = .ok (.ireturn, 1) := by decide +kernel
theorem dX6_drag_78 : decode cX6_drag 78 = .ok (.iload_n 2, 1) := by decide +kernel
theorem dX6_drag_79 : decode cX6_drag 79 = .ok (.ireturn, 1) := by decide +kernel
theorem dX6_fall_0 : decode cX6_fall 0 = .ok (.aload_n 0, 1) := by decide +kernel
theorem dX6_fall_1 : decode cX6_fall 1 = .ok (.getfield 7, 3) := by decide +kernel
theorem dX6_fall_4 : decode cX6_fall 4 = .ok (.iload_n 1, 1) := by decide +kernel
theorem dX6_fall_5 : decode cX6_fall 5 = .ok (.iaload, 1) := by decide +kernel
theorem dX6_fall_6 : decode cX6_fall 6 = .ok (.iconst 2, 1) := by decide +kernel
theorem dX6_fall_7 : decode cX6_fall 7 = .ok (.if_icmp .ne 7, 3) := by decide +kernel
theorem dX6_fall_10 : decode cX6_fall 10 = .ok (.iconst 2, 1) := by decide +kernel
theorem dX6_fall_11 : decode cX6_fall 11 = .ok (.goto 18, 3) := by decide +kernel
theorem dX6_fall_14 : decode cX6_fall 14 = .ok (.aload_n 0, 1) := by decide +kernel
theorem dX6_fall_15 : decode cX6_fall 15 = .ok (.getfield 7, 3) := by decide +kernel
theorem dX6_fall_18 : decode cX6_fall 18 = .ok (.iload_n 1, 1) := by decide +kernel
theorem dX6_fall_19 : decode cX6_fall 19 = .ok (.iaload, 1) := by decide +kernel
theorem dX6_fall_20 : decode cX6_fall 20 = .ok (.iconst 5, 1) := by decide +kernel
theorem dX6_fall_21 : decode cX6_fall 21 = .ok (.if_icmp .ne 7, 3) := by decide +kernel
theorem dX6_fall_24 : decode cX6_fall 24 = .ok (.iconst 3, 1) := by decide +kernel
theorem dX6_fall_25 : decode cX6_fall 25 = .ok (.goto 4, 3) := by decide +kernel
theorem dX6_fall_28 : decode cX6_fall 28 = .ok (.iconst 1, 1) := by decide +kernel
theorem dX6_fall_29 : decode cX6_fall 29 = .ok (.ireturn, 1) := by decide +kernel
theorem dX6_blown_0 : decode cX6_blown 0 = .ok (.aload_n 0, 1) := by decide +kernel
theorem dX6_blown_1 : decode cX6_blown 1 = .ok (.getfield 7, 3) := by decide +kernel
theorem dX6_blown_4 : decode cX6_blown 4 = .ok (.iload_n 1, 1) := by decide +kernel
theorem dX6_blown_5 : decode cX6_blown 5 = .ok (.iaload, 1) := by decide +kernel
theorem dX6_blown_6 : decode cX6_blown 6 = .ok (.tableswitch 46 2 5 #[30, 37, 37, 44], 30) := by decide +kernel
theorem dX6_blown_36 : decode cX6_blown 36 = .ok (.aload_n 0, 1) := by decide +kernel
theorem dX6_blown_37 : decode cX6_blown 37 = .ok (.getfield 92, 3) := by decide +kernel
theorem dX6_blown_40 : decode cX6_blown 40 = .ok (.iconst 2, 1) := by decide +kernel
theorem dX6_blown_41 : decode cX6_blown 41 = .ok (.idiv, 1) := by decide +kernel
theorem dX6_blown_42 : decode cX6_blown 42 = .ok (.ireturn, 1) := by decide +kernel
theorem dX6_blown_43 : decode cX6_blown 43 = .ok (.iconst 2, 1) := by decide +kernel
theorem dX6_blown_44 : decode cX6_blown 44 = .ok (.aload_n 0, 1) := by decide +kernel
theorem dX6_blown_45 : decode cX6_blown 45 = .ok (.getfield 92, 3) := by decide +kernel
theorem dX6_blown_48 : decode cX6_blown 48 = .ok (.imul, 1) := by decide +kernel
theorem dX6_blown_49 : decode cX6_blown 49 = .ok (.ireturn, 1) := by decide +kernel
theorem dX6_blown_50 : decode cX6_blown 50 = .ok (.iconst 0, 1) := by decide +kernel
theorem dX6_blown_51 : decode cX6_blown 51 = .ok (.ireturn, 1) := by decide +kernel
theorem dX6_blown_52 : decode cX6_blown 52 = .ok (.aload_n 0, 1) := by decide +kernel
theorem dX6_blown_53 : decode cX6_blown 53 = .ok (.getfield 92, 3) := by decide +kernel
theorem dX6_blown_56 : decode cX6_blown 56 = .ok (.ireturn, 1) := by decide +kernel
set_option maxRecDepth 20000 in
theorem ggX6_ball_X6_isBall : GoodIn wsX6_ball wsX6_isBall := goodIn_r _ [8, 9, 10, 11, 7, 12, 35, 36, 37, 38, 39, 40, 41, 42, 43, 44, 45, 46, 47, 48, 49, 50, 51, 52, 53, 54, 55, 56, 57, 58, 59, 60, 61, 62, 63, 64, 65] (by decide +kernel) (by decide +kernel)
set_option maxRecDepth 20000 in
theorem gX6_ball_X6_isBall : GoodIn wsX6_ball (wsV RX6 119 RX6 yX6_isBall wsX6_isBall) := goodIn_app (goodIn_of _ (by decide +kernel)) ggX6_ball_X6_isBall
set_option maxRecDepth 20000 in
theorem ggX6_ball_X6_no : GoodIn wsX6_ball wsX6_no := goodIn_r _ [16, 17, 35, 36, 37, 38, 39, 40, 41, 42, 43, 44, 45, 46, 47, 48, 49, 50, 51, 52, 53, 54, 55, 56, 57, 58, 59, 60, 61, 62, 63, 64, 65] (by decide +kernel) (by decide +kernel)
set_option maxRecDepth 20000 in
theorem gX6_ball_X6_no : GoodIn wsX6_ball (wsV RX6 58 RX6 yX6_no wsX6_no) := goodIn_app (goodIn_of _ (by decide +kernel)) ggX6_ball_X6_no
set_option maxRecDepth 20000 in
theorem ggX6_ball_X6_drag : GoodIn wsX6_ball wsX6_drag := goodIn_r _ [21, 2, 3, 22, 23, 24, 25, 1, 35, 36, 37, 38, 39, 40, 41, 42, 43, 44, 45, 46, 47, 48, 49, 50, 51, 52, 53, 54, 55, 56, 57, 58, 59, 60, 61, 62, 63, 64, 65] (by decide +kernel) (by decide +kernel)
set_option maxRecDepth 20000 in
theorem gX6_ball_X6_drag : GoodIn wsX6_ball (wsV RX6 122 RX6 yX6_drag wsX6_drag) := goodIn_app (goodIn_of _ (by decide +kernel)) ggX6_ball_X6_drag
set_option maxRecDepth 20000 in
theorem ggX6_ball_X6_fall : GoodIn wsX6_ball wsX6_fall := goodIn_r _ [29, 1, 35, 36, 37, 38, 39, 40, 41, 42, 43, 44, 45, 46, 47, 48, 49, 50, 51, 52, 53, 54, 55, 56, 57, 58, 59, 60, 61, 62, 63, 64, 65] (by decide +kernel) (by decide +kernel)
set_option maxRecDepth 20000 in
theorem gX6_ball_X6_fall : GoodIn wsX6_ball (wsV RX6 125 RX6 yX6_fall wsX6_fall) := goodIn_app (goodIn_of _ (by decide +kernel)) ggX6_ball_X6_fall
set_option maxRecDepth 20000 in
theorem ggX6_ball_X6_blown : GoodIn wsX6_ball wsX6_blown := goodIn_r _ [33, 1, 34, 35, 36, 37, 38, 39, 40, 41, 42, 43, 44, 45, 46, 47, 48, 49, 50, 51, 52, 53, 54, 55, 56, 57, 58, 59, 60, 61, 62, 63, 64, 65] (by decide +kernel) (by decide +kernel)
set_option maxRecDepth 20000 in
theorem gX6_ball_X6_blown : GoodIn wsX6_ball (wsV RX6 128 RX6 yX6_blown wsX6_blown) := goodIn_app (goodIn_of _ (by decide +kernel)) ggX6_ball_X6_blown
theorem dX6_ball_0 : decode cX6_ball 0 = .ok (.aload_n 0, 1) := by decide +kernel
theorem dX6_ball_1 : decode cX6_ball 1 = .ok (.iload_n 1, 1) := by decide +kernel
theorem dX6_ball_2 : decode cX6_ball 2 = .ok (.invokevirtual 119, 3) := by decide +kernel
theorem dX6_ball_5 : decode cX6_ball 5 = .ok (.ifCond .ne 9, 3) := by decide +kernel
theorem dX6_ball_8 : decode cX6_ball 8 = .ok (.aload_n 0, 1) := by decide +kernel
theorem dX6_ball_9 : decode cX6_ball 9 = .ok (.iconst (-1), 1) := by decide +kernel
theorem dX6_ball_10 : decode cX6_ball 10 = .ok (.invokevirtual 58, 3) := by decide +kernel
theorem dX6_ball_13 : decode cX6_ball 13 = .ok (.ireturn, 1) := by decide +kernel
theorem dX6_ball_14 : decode cX6_ball 14 = .ok (.iload_n 2, 1) := by decide +kernel
theorem dX6_ball_15 : decode cX6_ball 15 = .ok (.tableswitch 79 0 5 #[37, 44, 51, 58, 64, 70], 37) := by decide +kernel
theorem dX6_ball_52 : decode cX6_ball 52 = .ok (.aload_n 0, 1) := by decide +kernel
theorem dX6_ball_53 : decode cX6_ball 53 = .ok (.getfield 7, 3) := by decide +kernel
theorem dX6_ball_56 : decode cX6_ball 56 = .ok (.iload_n 1, 1) := by decide +kernel
theorem dX6_ball_57 : decode cX6_ball 57 = .ok (.iaload, 1) := by decide +kernel
theorem dX6_ball_58 : decode cX6_ball 58 = .ok (.ireturn, 1) := by decide +kernel
theorem dX6_ball_59 : decode cX6_ball 59 = .ok (.aload_n 0, 1) := by decide +kernel
theorem dX6_ball_60 : decode cX6_ball 60 = .ok (.getfield 13, 3) := by decide +kernel
theorem dX6_ball_63 : decode cX6_ball 63 = .ok (.iload_n 1, 1) := by decide +kernel
theorem dX6_ball_64 : decode cX6_ball 64 = .ok (.iaload, 1) := by decide +kernel
theorem dX6_ball_65 : decode cX6_ball 65 = .ok (.ireturn, 1) := by decide +kernel
theorem dX6_ball_66 : decode cX6_ball 66 = .ok (.aload_n 0, 1) := by decide +kernel
theorem dX6_ball_67 : decode cX6_ball 67 = .ok (.getfield 16, 3) := by decide +kernel
theorem dX6_ball_70 : decode cX6_ball 70 = .ok (.iload_n 1, 1) := by decide +kernel
theorem dX6_ball_71 : decode cX6_ball 71 = .ok (.iaload, 1) := by decide +kernel
theorem dX6_ball_72 : decode cX6_ball 72 = .ok (.ireturn, 1) := by decide +kernel
theorem dX6_ball_73 : decode cX6_ball 73 = .ok (.aload_n 0, 1) := by decide +kernel
theorem dX6_ball_74 : decode cX6_ball 74 = .ok (.iload_n 1, 1) := by decide +kernel
theorem dX6_ball_75 : decode cX6_ball 75 = .ok (.invokevirtual 122, 3) := by decide +kernel
theorem dX6_ball_78 : decode cX6_ball 78 = .ok (.ireturn, 1) := by decide +kernel
theorem dX6_ball_79 : decode cX6_ball 79 = .ok (.aload_n 0, 1) := by decide +kernel
theorem dX6_ball_80 : decode cX6_ball 80 = .ok (.iload_n 1, 1) := by decide +kernel
theorem dX6_ball_81 : decode cX6_ball 81 = .ok (.invokevirtual 125, 3) := by decide +kernel
theorem dX6_ball_84 : decode cX6_ball 84 = .ok (.ireturn, 1) := by decide +kernel
theorem dX6_ball_85 : decode cX6_ball 85 = .ok (.bipush 10, 2) := by decide +kernel
theorem dX6_ball_87 : decode cX6_ball 87 = .ok (.aload_n 0, 1) := by decide +kernel
theorem dX6_ball_88 : decode cX6_ball 88 = .ok (.iload_n 1, 1) := by decide +kernel
theorem dX6_ball_89 : decode cX6_ball 89 = .ok (.invokevirtual 128, 3) := by decide +kernel
theorem dX6_ball_92 : decode cX6_ball 92 = .ok (.iadd, 1) := by decide +kernel
theorem dX6_ball_93 : decode cX6_ball 93 = .ok (.ireturn, 1) := by decide +kernel
theorem dX6_ball_94 : decode cX6_ball 94 = .ok (.aload_n 0, 1) := by decide +kernel
theorem dX6_ball_95 : decode cX6_ball 95 = .ok (.bipush (-2), 2) := by decide +kernel
theorem dX6_ball_97 : decode cX6_ball 97 = .ok (.invokevirtual 58, 3) := by decide +kernel
theorem dX6_ball_100 : decode cX6_ball 100 = .ok (.ireturn, 1) := by decide +kernel
set_option maxRecDepth 20000 in
theorem ggX6_crumple_X6_isBall : GoodIn wsX6_crumple wsX6_isBall := goodIn_r _ [6, 7, 8, 9, 5, 10, 16, 17, 18, 19, 20, 21, 22, 23, 24, 25, 26, 27, 28, 29, 30, 31, 32, 33, 34, 35, 36, 37, 38, 39, 40, 41, 42, 43, 44, 45, 46] (by decide +kernel) (by decide +kernel)
set_option maxRecDepth 20000 in
theorem gX6_crumple_X6_isBall : GoodIn wsX6_crumple (wsV RX6 119 RX6 yX6_isBall wsX6_isBall) := goodIn_app (goodIn_of _ (by decide +kernel)) ggX6_crumple_X6_isBall
set_option maxRecDepth 20000 in
theorem ggX6_crumple_X6_no : GoodIn wsX6_crumple wsX6_no := goodIn_r _ [14, 15, 16, 17, 18, 19, 20, 21, 22, 23, 24, 25, 26, 27, 28, 29, 30, 31, 32, 33, 34, 35, 36, 37, 38, 39, 40, 41, 42, 43, 44, 45, 46] (by decide +kernel) (by decide +kernel)
set_option maxRecDepth 20000 in
theorem gX6_crumple_X6_no : GoodIn wsX6_crumple (wsV RX6 58 RX6 yX6_no wsX6_no) := goodIn_app (goodIn_of _ (by decide +kernel)) ggX6_crumple_X6_no
theorem dX6_crumple_0 : decode cX6_crumple 0 = .ok (.aload_n 0, 1) := by decide +kernel
theorem dX6_crumple_1 : decode cX6_crumple 1 = .ok (.iload_n 1, 1) := by decide +kernel
theorem dX6_crumple_2 : decode cX6_crumple 2 = .ok (.invokevirtual 119, 3) := by decide +kernel
theorem dX6_crumple_5 : decode cX6_crumple 5 = .ok (.ifCond .ne 9, 3) := by decide +kernel
theorem dX6_crumple_8 : decode cX6_crumple 8 = .ok (.aload_n 0, 1) := by decide +kernel
theorem dX6_crumple_9 : decode cX6_crumple 9 = .ok (.iconst (-1), 1) := by decide +kernel
theorem dX6_crumple_10 : decode cX6_crumple 10 = .ok (.invokevirtual 58, 3) := by decide +kernel
theorem dX6_crumple_13 : decode cX6_crumple 13 = .ok (.ireturn, 1) := by decide +kernel
theorem dX6_crumple_14 : decode cX6_crumple 14 = .ok (.iload_n 2, 1) := by decide +kernel
theorem dX6_crumple_15 : decode cX6_crumple 15 = .ok (.ifCond .ge 10, 3) := by decide +kernel
theorem dX6_crumple_18 : decode cX6_crumple 18 = .ok (.aload_n 0, 1) := by decide +kernel
theorem dX6_crumple_19 : decode cX6_crumple 19 = .ok (.bipush (-4), 2) := by decide +kernel
theorem dX6_crumple_21 : decode cX6_crumple 21 = .ok (.invokevirtual 58, 3) := by decide +kernel
theorem dX6_crumple_24 : decode cX6_crumple 24 = .ok (.ireturn, 1) := by decide +kernel
theorem dX6_crumple_25 : decode cX6_crumple 25 = .ok (.iload_n 2, 1) := by decide +kernel
theorem dX6_crumple_26 : decode cX6_crumple 26 = .ok (.bipush 9, 2) := by decide +kernel
theorem dX6_crumple_28 : decode cX6_crumple 28 = .ok (.if_icmp .le 10, 3) := by decide +kernel
theorem dX6_crumple_31 : decode cX6_crumple 31 = .ok (.aload_n 0, 1) := by decide +kernel
theorem dX6_crumple_32 : decode cX6_crumple 32 = .ok (.bipush (-6), 2) := by decide +kernel
theorem dX6_crumple_34 : decode cX6_crumple 34 = .ok (.invokevirtual 58, 3) := by decide +kernel
theorem dX6_crumple_37 : decode cX6_crumple 37 = .ok (.ireturn, 1) := by decide +kernel
theorem dX6_crumple_38 : decode cX6_crumple 38 = .ok (.aload_n 0, 1) := by decide +kernel
theorem dX6_crumple_39 : decode cX6_crumple 39 = .ok (.getfield 16, 3) := by decide +kernel
theorem dX6_crumple_42 : decode cX6_crumple 42 = .ok (.iload_n 1, 1) := by decide +kernel
theorem dX6_crumple_43 : decode cX6_crumple 43 = .ok (.iaload, 1) := by decide +kernel
theorem dX6_crumple_44 : decode cX6_crumple 44 = .ok (.istore_n 3, 1) := by decide +kernel
theorem dX6_crumple_45 : decode cX6_crumple 45 = .ok (.aload_n 0, 1) := by decide +kernel
theorem dX6_crumple_46 : decode cX6_crumple 46 = .ok (.getfield 16, 3) := by decide +kernel
theorem dX6_crumple_49 : decode cX6_crumple 49 = .ok (.iload_n 1, 1) := by decide +kernel
theorem dX6_crumple_50 : decode cX6_crumple 50 = .ok (.iload_n 2, 1) := by decide +kernel
theorem dX6_crumple_51 : decode cX6_crumple 51 = .ok (.iastore, 1) := by decide +kernel
theorem dX6_crumple_52 : decode cX6_crumple 52 = .ok (.iload_n 3, 1) := by decide +kernel
theorem dX6_crumple_53 : decode cX6_crumple 53 = .ok (.ireturn, 1) := by decide +kernel
set_option maxRecDepth 20000 in
theorem ggX6_flies_X6_drag : GoodIn wsX6_flies wsX6_drag := goodIn_r _ [25, 26, 27, 11, 12, 13, 14, 28, 41, 42, 43, 44, 45, 46, 47, 48, 49, 50, 51, 52, 53, 54, 55, 56, 57, 58, 59, 60, 61, 62, 63, 64, 65, 66, 67, 68, 69, 70, 71] (by decide +kernel) (by decide +kernel)
set_option maxRecDepth 20000 in
theorem gX6_flies_X6_drag : GoodIn wsX6_flies (wsV RX6 122 RX6 yX6_drag wsX6_drag) := goodIn_app (goodIn_of _ (by decide +kernel)) ggX6_flies_X6_drag
set_option maxRecDepth 20000 in
theorem ggX6_flies_X6_within : GoodIn wsX6_flies wsX6_within := goodIn_r _ [31] (by decide +kernel) (by decide +kernel)
set_option maxRecDepth 20000 in
theorem gX6_flies_X6_within : GoodIn wsX6_flies (va_wsS RX6 65 yX6_within wsX6_within) := goodIn_app (goodIn_of _ (by decide +kernel)) ggX6_flies_X6_within
set_option maxRecDepth 20000 in
theorem ggX6_flies_X6_fall : GoodIn wsX6_flies wsX6_fall := goodIn_r _ [35, 28, 41, 42, 43, 44, 45, 46, 47, 48, 49, 50, 51, 52, 53, 54, 55, 56, 57, 58, 59, 60, 61, 62, 63, 64, 65, 66, 67, 68, 69, 70, 71] (by decide +kernel) (by decide +kernel)
set_option maxRecDepth 20000 in
theorem gX6_flies_X6_fall : GoodIn wsX6_flies (wsV RX6 125 RX6 yX6_fall wsX6_fall) := goodIn_app (goodIn_of _ (by decide +kernel)) ggX6_flies_X6_fall
set_option maxRecDepth 20000 in
theorem ggX6_flies_X6_blown : GoodIn wsX6_flies wsX6_blown := goodIn_r _ [39, 28, 40, 41, 42, 43, 44, 45, 46, 47, 48, 49, 50, 51, 52, 53, 54, 55, 56, 57, 58, 59, 60, 61, 62, 63, 64, 65, 66, 67, 68, 69, 70, 71] (by decide +kernel) (by decide +kernel)
set_option maxRecDepth 20000 in
theorem gX6_flies_X6_blown : GoodIn wsX6_flies (wsV RX6 128 RX6 yX6_blown wsX6_blown) := goodIn_app (goodIn_of _ (by decide +kernel)) ggX6_flies_X6_blown
theorem dX6_flies_0 : decode cX6_flies 0 = .ok (.aload_n 0, 1) := by decide +kernel
theorem dX6_flies_1 : decode cX6_flies 1 = .ok (.getfield 34, 3) := by decide +kernel
theorem dX6_flies_4 : decode cX6_flies 4 = .ok (.istore 5, 2) := by decide +kernel
theorem dX6_flies_6 : decode cX6_flies 6 = .ok (.aload_n 0, 1) := by decide +kernel
theorem dX6_flies_7 : decode cX6_flies 7 = .ok (.iload_n 1, 1) := by decide +kernel
theorem dX6_flies_8 : decode cX6_flies 8 = .ok (.invokevirtual 122, 3) := by decide +kernel
theorem dX6_flies_11 : decode cX6_flies 11 = .ok (.istore 6, 2) := by decide +kernel
theorem dX6_flies_13 : decode cX6_flies 13 = .ok (.aload_n 0, 1) := by decide +kernel
theorem dX6_flies_14 : decode cX6_flies 14 = .ok (.iconst 0, 1) := by decide +kernel
theorem dX6_flies_15 : decode cX6_flies 15 = .ok (.putfield 131, 3) := by decide +kernel
theorem dX6_flies_18 : decode cX6_flies 18 = .ok (.aload_n 0, 1) := by decide +kernel
theorem dX6_flies_19 : decode cX6_flies 19 = .ok (.iconst 0, 1) := by decide +kernel
theorem dX6_flies_20 : decode cX6_flies 20 = .ok (.putfield 134, 3) := by decide +kernel
theorem dX6_flies_23 : decode cX6_flies 23 = .ok (.aload_n 0, 1) := by decide +kernel
theorem dX6_flies_24 : decode cX6_flies 24 = .ok (.aload_n 0, 1) := by decide +kernel
theorem dX6_flies_25 : decode cX6_flies 25 = .ok (.getfield 34, 3) := by decide +kernel
theorem dX6_flies_28 : decode cX6_flies 28 = .ok (.putfield 137, 3) := by decide +kernel
theorem dX6_flies_31 : decode cX6_flies 31 = .ok (.aload_n 0, 1) := by decide +kernel
theorem dX6_flies_32 : decode cX6_flies 32 = .ok (.iconst 0, 1) := by decide +kernel
theorem dX6_flies_33 : decode cX6_flies 33 = .ok (.putfield 140, 3) := by decide +kernel
theorem dX6_flies_36 : decode cX6_flies 36 = .ok (.aload_n 0, 1) := by decide +kernel
theorem dX6_flies_37 : decode cX6_flies 37 = .ok (.getfield 134, 3) := by decide +kernel
theorem dX6_flies_40 : decode cX6_flies 40 = .ok (.bipush 60, 2) := by decide +kernel
theorem dX6_flies_42 : decode cX6_flies 42 = .ok (.if_icmp .ge 380, 3) := by decide +kernel
theorem dX6_flies_45 : decode cX6_flies 45 = .ok (.aload_n 0, 1) := by decide +kernel
theorem dX6_flies_46 : decode cX6_flies 46 = .ok (.dup, 1) := by decide +kernel
theorem dX6_flies_47 : decode cX6_flies 47 = .ok (.getfield 134, 3) := by decide +kernel
theorem dX6_flies_50 : decode cX6_flies 50 = .ok (.iconst 1, 1) := by decide +kernel
theorem dX6_flies_51 : decode cX6_flies 51 = .ok (.iadd, 1) := by decide +kernel
theorem dX6_flies_52 : decode cX6_flies 52 = .ok (.putfield 134, 3) := by decide +kernel
theorem dX6_flies_55 : decode cX6_flies 55 = .ok (.iload 5, 2) := by decide +kernel
theorem dX6_flies_57 : decode cX6_flies 57 = .ok (.istore 7, 2) := by decide +kernel
theorem dX6_flies_59 : decode cX6_flies 59 = .ok (.iload_n 3, 1) := by decide +kernel
theorem dX6_flies_60 : decode cX6_flies 60 = .ok (.ifCond .ge 7, 3) := by decide +kernel
theorem dX6_flies_63 : decode cX6_flies 63 = .ok (.iconst 1, 1) := by decide +kernel
theorem dX6_flies_64 : decode cX6_flies 64 = .ok (.goto 4, 3) := by decide +kernel
theorem dX6_flies_67 : decode cX6_flies 67 = .ok (.iconst 0, 1) := by decide +kernel
theorem dX6_flies_68 : decode cX6_flies 68 = .ok (.istore 8, 2) := by decide +kernel
theorem dX6_flies_70 : decode cX6_flies 70 = .ok (.aload_n 0, 1) := by decide +kernel
theorem dX6_flies_71 : decode cX6_flies 71 = .ok (.dup, 1) := by decide +kernel
theorem dX6_flies_72 : decode cX6_flies 72 = .ok (.getfield 131, 3) := by decide +kernel
theorem dX6_flies_75 : decode cX6_flies 75 = .ok (.iload_n 2, 1) := by decide +kernel
theorem dX6_flies_76 : decode cX6_flies 76 = .ok (.iadd, 1) := by decide +kernel
theorem dX6_flies_77 : decode cX6_flies 77 = .ok (.putfield 131, 3) := by decide +kernel
theorem dX6_flies_80 : decode cX6_flies 80 = .ok (.iload 5, 2) := by decide +kernel
theorem dX6_flies_82 : decode cX6_flies 82 = .ok (.iload_n 3, 1) := by decide +kernel
theorem dX6_flies_83 : decode cX6_flies 83 = .ok (.iadd, 1) := by decide +kernel
theorem dX6_flies_84 : decode cX6_flies 84 = .ok (.istore 5, 2) := by decide +kernel
theorem dX6_flies_86 : decode cX6_flies 86 = .ok (.iload 5, 2) := by decide +kernel
theorem dX6_flies_88 : decode cX6_flies 88 = .ok (.aload_n 0, 1) := by decide +kernel
theorem dX6_flies_89 : decode cX6_flies 89 = .ok (.getfield 50, 3) := by decide +kernel
theorem dX6_flies_92 : decode cX6_flies 92 = .ok (.if_icmp .le 27, 3) := by decide +kernel
theorem dX6_flies_95 : decode cX6_flies 95 = .ok (.iconst 2, 1) := by decide +kernel
theorem dX6_flies_96 : decode cX6_flies 96 = .ok (.aload_n 0, 1) := by decide +kernel
theorem dX6_flies_97 : decode cX6_flies 97 = .ok (.getfield 50, 3) := by decide +kernel
theorem dX6_flies_100 : decode cX6_flies 100 = .ok (.imul, 1) := by decide +kernel
theorem dX6_flies_101 : decode cX6_flies 101 = .ok (.iload 5, 2) := by decide +kernel
theorem dX6_flies_103 : decode cX6_flies 103 = .ok (.isub, 1) := by decide +kernel
theorem dX6_flies_104 : decode cX6_flies 104 = .ok (.istore 5, 2) := by decide +kernel
theorem dX6_flies_106 : decode cX6_flies 106 = .ok (.iload_n 3, 1) := by decide +kernel
theorem dX6_flies_107 : decode cX6_flies 107 = .ok (.ineg, 1) := by decide +kernel
theorem dX6_flies_108 : decode cX6_flies 108 = .ok (.istore_n 3, 1) := by decide +kernel
theorem dX6_flies_109 : decode cX6_flies 109 = .ok (.aload_n 0, 1) := by decide +kernel
theorem dX6_flies_110 : decode cX6_flies 110 = .ok (.dup, 1) := by decide +kernel
theorem dX6_flies_111 : decode cX6_flies 111 = .ok (.getfield 140, 3) := by decide +kernel
theorem dX6_flies_114 : decode cX6_flies 114 = .ok (.iconst 1, 1) := by decide +kernel
theorem dX6_flies_115 : decode cX6_flies 115 = .ok (.ior, 1) := by decide +kernel
theorem dX6_flies_116 : decode cX6_flies 116 = .ok (.putfield 140, 3) := by decide +kernel
theorem dX6_flies_119 : decode cX6_flies 119 = .ok (.aload_n 0, 1) := by decide +kernel
theorem dX6_flies_120 : decode cX6_flies 120 = .ok (.getfield 131, 3) := by decide +kernel
theorem dX6_flies_123 : decode cX6_flies 123 = .ok (.aload_n 0, 1) := by decide +kernel
theorem dX6_flies_124 : decode cX6_flies 124 = .ok (.getfield 47, 3) := by decide +kernel
theorem dX6_flies_127 : decode cX6_flies 127 = .ok (.if_icmp .le 33, 3) := by decide +kernel
theorem dX6_flies_130 : decode cX6_flies 130 = .ok (.aload_n 0, 1) := by decide +kernel
theorem dX6_flies_131 : decode cX6_flies 131 = .ok (.iconst 2, 1) := by decide +kernel
theorem dX6_flies_132 : decode cX6_flies 132 = .ok (.aload_n 0, 1) := by decide +kernel
theorem dX6_flies_133 : decode cX6_flies 133 = .ok (.getfield 47, 3) := by decide +kernel
theorem dX6_flies_136 : decode cX6_flies 136 = .ok (.imul, 1) := by decide +kernel
theorem dX6_flies_137 : decode cX6_flies 137 = .ok (.aload_n 0, 1) := by decide +kernel
theorem dX6_flies_138 : decode cX6_flies 138 = .ok (.getfield 131, 3) := by decide +kernel
theorem dX6_flies_141 : decode cX6_flies 141 = .ok (.isub, 1) := by decide +kernel
theorem dX6_flies_142 : decode cX6_flies 142 = .ok (.putfield 131, 3) := by decide +kernel
theorem dX6_flies_145 : decode cX6_flies 145 = .ok (.iload_n 2, 1) := by decide +kernel
theorem dX6_flies_146 : decode cX6_flies 146 = .ok (.ineg, 1) := by decide +kernel
theorem dX6_flies_147 : decode cX6_flies 147 = .ok (.iconst 2, 1) := by decide +kernel
theorem dX6_flies_148 : decode cX6_flies 148 = .ok (.idiv, 1) := by decide +kernel
theorem dX6_flies_149 : decode cX6_flies 149 = .ok (.istore_n 2, 1) := by decide +kernel
theorem dX6_flies_150 : decode cX6_flies 150 = .ok (.aload_n 0, 1) := by decide +kernel
theorem dX6_flies_151 : decode cX6_flies 151 = .ok (.dup, 1) := by decide +kernel
theorem dX6_flies_152 : decode cX6_flies 152 = .ok (.getfield 140, 3) := by decide +kernel
theorem dX6_flies_155 : decode cX6_flies 155 = .ok (.iconst 2, 1) := by decide +kernel
theorem dX6_flies_156 : decode cX6_flies 156 = .ok (.ior, 1) := by decide +kernel
theorem dX6_flies_157 : decode cX6_flies 157 = .ok (.putfield 140, 3) := by decide +kernel
theorem dX6_flies_160 : decode cX6_flies 160 = .ok (.aload_n 0, 1) := by decide +kernel
theorem dX6_flies_161 : decode cX6_flies 161 = .ok (.getfield 131, 3) := by decide +kernel
theorem dX6_flies_164 : decode cX6_flies 164 = .ok (.ifCond .ge 10, 3) := by decide +kernel
theorem dX6_flies_167 : decode cX6_flies 167 = .ok (.aload_n 0, 1) := by decide +kernel
theorem dX6_flies_168 : decode cX6_flies 168 = .ok (.iconst 0, 1) := by decide +kernel
theorem dX6_flies_169 : decode cX6_flies 169 = .ok (.putfield 131, 3) := by decide +kernel
theorem dX6_flies_172 : decode cX6_flies 172 = .ok (.iconst 0, 1) := by decide +kernel
theorem dX6_flies_173 : decode cX6_flies 173 = .ok (.istore_n 2, 1) := by decide +kernel
theorem dX6_flies_174 : decode cX6_flies 174 = .ok (.iload 8, 2) := by decide +kernel
theorem dX6_flies_176 : decode cX6_flies 176 = .ok (.ifCond .eq 143, 3) := by decide +kernel
theorem dX6_flies_179 : decode cX6_flies 179 = .ok (.iload 7, 2) := by decide +kernel
theorem dX6_flies_181 : decode cX6_flies 181 = .ok (.aload_n 0, 1) := by decide +kernel
theorem dX6_flies_182 : decode cX6_flies 182 = .ok (.getfield 44, 3) := by decide +kernel
theorem dX6_flies_185 : decode cX6_flies 185 = .ok (.if_icmp .le 134, 3) := by decide +kernel
theorem dX6_flies_188 : decode cX6_flies 188 = .ok (.iload 5, 2) := by decide +kernel
theorem dX6_flies_190 : decode cX6_flies 190 = .ok (.aload_n 0, 1) := by decide +kernel
theorem dX6_flies_191 : decode cX6_flies 191 = .ok (.getfield 44, 3) := by decide +kernel
theorem dX6_flies_194 : decode cX6_flies 194 = .ok (.if_icmp .gt 125, 3) := by decide +kernel
theorem dX6_flies_197 : decode cX6_flies 197 = .ok (.aload_n 0, 1) := by decide +kernel
theorem dX6_flies_198 : decode cX6_flies 198 = .ok (.getfield 131, 3) := by decide +kernel
theorem dX6_flies_201 : decode cX6_flies 201 = .ok (.aload_n 0, 1) := by decide +kernel
theorem dX6_flies_202 : decode cX6_flies 202 = .ok (.getfield 38, 3) := by decide +kernel
theorem dX6_flies_205 : decode cX6_flies 205 = .ok (.aload_n 0, 1) := by decide +kernel
theorem dX6_flies_206 : decode cX6_flies 206 = .ok (.getfield 38, 3) := by decide +kernel
theorem dX6_flies_209 : decode cX6_flies 209 = .ok (.aload_n 0, 1) := by decide +kernel
theorem dX6_flies_210 : decode cX6_flies 210 = .ok (.getfield 41, 3) := by decide +kernel
theorem dX6_flies_213 : decode cX6_flies 213 = .ok (.iadd, 1) := by decide +kernel
theorem dX6_flies_214 : decode cX6_flies 214 = .ok (.iconst 1, 1) := by decide +kernel
theorem dX6_flies_215 : decode cX6_flies 215 = .ok (.isub, 1) := by decide +kernel
theorem dX6_flies_216 : decode cX6_flies 216 = .ok (.invokestatic 65, 3) := by decide +kernel
theorem dX6_flies_219 : decode cX6_flies 219 = .ok (.ifCond .eq 39, 3) := by decide +kernel
theorem dX6_flies_222 : decode cX6_flies 222 = .ok (.aload_n 0, 1) := by decide +kernel
theorem dX6_flies_223 : decode cX6_flies 223 = .ok (.aload_n 0, 1) := by decide +kernel
theorem dX6_flies_224 : decode cX6_flies 224 = .ok (.getfield 137, 3) := by decide +kernel
theorem dX6_flies_227 : decode cX6_flies 227 = .ok (.iload 5, 2) := by decide +kernel
theorem dX6_flies_229 : decode cX6_flies 229 = .ok (.invokestatic 113, 3) := by decide +kernel
theorem dX6_flies_232 : decode cX6_flies 232 = .ok (.putfield 137, 3) := by decide +kernel
theorem dX6_flies_235 : decode cX6_flies 235 = .ok (.aload_n 0, 1) := by decide +kernel
theorem dX6_flies_236 : decode cX6_flies 236 = .ok (.aload_n 0, 1) := by decide +kernel
theorem dX6_flies_237 : decode cX6_flies 237 = .ok (.getfield 89, 3) := by decide +kernel
theorem dX6_flies_240 : decode cX6_flies 240 = .ok (.bipush 9, 2) := by decide +kernel
theorem dX6_flies_242 : decode cX6_flies 242 = .ok (.if_icmp .ne 7, 3) := by decide +kernel
theorem dX6_flies_245 : decode cX6_flies 245 = .ok (.iconst 3, 1) := by decide +kernel
theorem dX6_flies_246 : decode cX6_flies 246 = .ok (.goto 4, 3) := by decide +kernel
theorem dX6_flies_249 : decode cX6_flies 249 = .ok (.iconst 0, 1) := by decide +kernel
theorem dX6_flies_250 : decode cX6_flies 250 = .ok (.putfield 143, 3) := by decide +kernel
theorem dX6_flies_253 : decode cX6_flies 253 = .ok (.aload_n 0, 1) := by decide +kernel
theorem dX6_flies_254 : decode cX6_flies 254 = .ok (.getfield 143, 3) := by decide +kernel
theorem dX6_flies_257 : decode cX6_flies 257 = .ok (.ireturn, 1) := by decide +kernel
theorem dX6_flies_258 : decode cX6_flies 258 = .ok (.aload_n 0, 1) := by decide +kernel
theorem dX6_flies_259 : decode cX6_flies 259 = .ok (.getfield 131, 3) := by decide +kernel
theorem dX6_flies_262 : decode cX6_flies 262 = .ok (.aload_n 0, 1) := by decide +kernel
theorem dX6_flies_263 : decode cX6_flies 263 = .ok (.getfield 38, 3) := by decide +kernel
theorem dX6_flies_266 : decode cX6_flies 266 = .ok (.iconst 1, 1) := by decide +kernel
theorem dX6_flies_267 : decode cX6_flies 267 = .ok (.isub, 1) := by decide +kernel
theorem dX6_flies_268 : decode cX6_flies 268 = .ok (.if_icmp .eq 19, 3) := by decide +kernel
theorem dX6_flies_271 : decode cX6_flies 271 = .ok (.aload_n 0, 1) := by decide +kernel
theorem dX6_flies_272 : decode cX6_flies 272 = .ok (.getfield 131, 3) := by decide +kernel
theorem dX6_flies_275 : decode cX6_flies 275 = .ok (.aload_n 0, 1) := by decide +kernel
theorem dX6_flies_276 : decode cX6_flies 276 = .ok (.getfield 38, 3) := by decide +kernel
theorem dX6_flies_279 : decode cX6_flies 279 = .ok (.aload_n 0, 1) := by decide +kernel
theorem dX6_flies_280 : decode cX6_flies 280 = .ok (.getfield 41, 3) := by decide +kernel
theorem dX6_flies_283 : decode cX6_flies 283 = .ok (.iadd, 1) := by decide +kernel
theorem dX6_flies_284 : decode cX6_flies 284 = .ok (.if_icmp .ne 35, 3) := by decide +kernel
theorem dX6_flies_287 : decode cX6_flies 287 = .ok (.aload_n 0, 1) := by decide +kernel
theorem dX6_flies_288 : decode cX6_flies 288 = .ok (.getfield 140, 3) := by decide +kernel
theorem dX6_flies_291 : decode cX6_flies 291 = .ok (.iconst 4, 1) := by decide +kernel
theorem dX6_flies_292 : decode cX6_flies 292 = .ok (.iand, 1) := by decide +kernel
theorem dX6_flies_293 : decode cX6_flies 293 = .ok (.ifCond .ne 26, 3) := by decide +kernel
theorem dX6_flies_296 : decode cX6_flies 296 = .ok (.aload_n 0, 1) := by decide +kernel
theorem dX6_flies_297 : decode cX6_flies 297 = .ok (.getfield 44, 3) := by decide +kernel
theorem dX6_flies_300 : decode cX6_flies 300 = .ok (.iconst 1, 1) := by decide +kernel
theorem dX6_flies_301 : decode cX6_flies 301 = .ok (.iadd, 1) := by decide +kernel
theorem dX6_flies_302 : decode cX6_flies 302 = .ok (.istore 5, 2) := by decide +kernel
theorem dX6_flies_304 : decode cX6_flies 304 = .ok (.iload_n 2, 1) := by decide +kernel
theorem dX6_flies_305 : decode cX6_flies 305 = .ok (.ineg, 1) := by decide +kernel
theorem dX6_flies_306 : decode cX6_flies 306 = .ok (.istore_n 2, 1) := by decide +kernel
theorem dX6_flies_307 : decode cX6_flies 307 = .ok (.iconst 1, 1) := by decide +kernel
theorem dX6_flies_308 : decode cX6_flies 308 = .ok (.istore_n 3, 1) := by decide +kernel
theorem dX6_flies_309 : decode cX6_flies 309 = .ok (.aload_n 0, 1) := by decide +kernel
theorem dX6_flies_310 : decode cX6_flies 310 = .ok (.dup, 1) := by decide +kernel
theorem dX6_flies_311 : decode cX6_flies 311 = .ok (.getfield 140, 3) := by decide +kernel
theorem dX6_flies_314 : decode cX6_flies 314 = .ok (.iconst 4, 1) := by decide +kernel
theorem dX6_flies_315 : decode cX6_flies 315 = .ok (.ior, 1) := by decide +kernel
theorem dX6_flies_316 : decode cX6_flies 316 = .ok (.putfield 140, 3) := by decide +kernel
theorem dX6_flies_319 : decode cX6_flies 319 = .ok (.aload_n 0, 1) := by decide +kernel
theorem dX6_flies_320 : decode cX6_flies 320 = .ok (.aload_n 0, 1) := by decide +kernel
theorem dX6_flies_321 : decode cX6_flies 321 = .ok (.getfield 137, 3) := by decide +kernel
theorem dX6_flies_324 : decode cX6_flies 324 = .ok (.iload 5, 2) := by decide +kernel
theorem dX6_flies_326 : decode cX6_flies 326 = .ok (.invokestatic 113, 3) := by decide +kernel
theorem dX6_flies_329 : decode cX6_flies 329 = .ok (.putfield 137, 3) := by decide +kernel
theorem dX6_flies_332 : decode cX6_flies 332 = .ok (.iload 5, 2) := by decide +kernel
theorem dX6_flies_334 : decode cX6_flies 334 = .ok (.ifCond .gt 28, 3) := by decide +kernel
theorem dX6_flies_337 : decode cX6_flies 337 = .ok (.aload_n 0, 1) := by decide +kernel
theorem dX6_flies_338 : decode cX6_flies 338 = .ok (.aload_n 0, 1) := by decide +kernel
theorem dX6_flies_339 : decode cX6_flies 339 = .ok (.getfield 131, 3) := by decide +kernel
theorem dX6_flies_342 : decode cX6_flies 342 = .ok (.aload_n 0, 1) := by decide +kernel
theorem dX6_flies_343 : decode cX6_flies 343 = .ok (.getfield 38, 3) := by decide +kernel
theorem dX6_flies_346 : decode cX6_flies 346 = .ok (.if_icmp .ge 7, 3) := by decide +kernel
theorem dX6_flies_349 : decode cX6_flies 349 = .ok (.iconst 1, 1) := by decide +kernel
theorem dX6_flies_350 : decode cX6_flies 350 = .ok (.goto 4, 3) := by decide +kernel
theorem dX6_flies_353 : decode cX6_flies 353 = .ok (.iconst 2, 1) := by decide +kernel
theorem dX6_flies_354 : decode cX6_flies 354 = .ok (.putfield 143, 3) := by decide +kernel
theorem dX6_flies_357 : decode cX6_flies 357 = .ok (.aload_n 0, 1) := by decide +kernel
theorem dX6_flies_358 : decode cX6_flies 358 = .ok (.getfield 143, 3) := by decide +kernel
theorem dX6_flies_361 : decode cX6_flies 361 = .ok (.ireturn, 1) := by decide +kernel
theorem dX6_flies_362 : decode cX6_flies 362 = .ok (.iload_n 2, 1) := by decide +kernel
theorem dX6_flies_363 : decode cX6_flies 363 = .ok (.ifCond .le 14, 3) := by decide +kernel
theorem dX6_flies_366 : decode cX6_flies 366 = .ok (.iconst 0, 1) := by decide +kernel
theorem dX6_flies_367 : decode cX6_flies 367 = .ok (.iload_n 2, 1) := by decide +kernel
theorem dX6_flies_368 : decode cX6_flies 368 = .ok (.iload 6, 2) := by decide +kernel
theorem dX6_flies_370 : decode cX6_flies 370 = .ok (.isub, 1) := by decide +kernel
theorem dX6_flies_371 : decode cX6_flies 371 = .ok (.invokestatic 113, 3) := by decide +kernel
theorem dX6_flies_374 : decode cX6_flies 374 = .ok (.goto 11, 3) := by decide +kernel
theorem dX6_flies_377 : decode cX6_flies 377 = .ok (.iconst 0, 1) := by decide +kernel
theorem dX6_flies_378 : decode cX6_flies 378 = .ok (.iload_n 2, 1) := by decide +kernel
theorem dX6_flies_379 : decode cX6_flies 379 = .ok (.iload 6, 2) := by decide +kernel
theorem dX6_flies_381 : decode cX6_flies 381 = .ok (.iadd, 1) := by decide +kernel
theorem dX6_flies_382 : decode cX6_flies 382 = .ok (.invokestatic 146, 3) := by decide +kernel
theorem dX6_flies_385 : decode cX6_flies 385 = .ok (.istore_n 2, 1) := by decide +kernel
theorem dX6_flies_386 : decode cX6_flies 386 = .ok (.iload_n 3, 1) := by decide +kernel
theorem dX6_flies_387 : decode cX6_flies 387 = .ok (.aload_n 0, 1) := by decide +kernel
theorem dX6_flies_388 : decode cX6_flies 388 = .ok (.iload_n 1, 1) := by decide +kernel
theorem dX6_flies_389 : decode cX6_flies 389 = .ok (.invokevirtual 125, 3) := by decide +kernel
theorem dX6_flies_392 : decode cX6_flies 392 = .ok (.isub, 1) := by decide +kernel
theorem dX6_flies_393 : decode cX6_flies 393 = .ok (.istore_n 3, 1) := by decide +kernel
theorem dX6_flies_394 : decode cX6_flies 394 = .ok (.iload 4, 2) := by decide +kernel
theorem dX6_flies_396 : decode cX6_flies 396 = .ok (.aload_n 0, 1) := by decide +kernel
theorem dX6_flies_397 : decode cX6_flies 397 = .ok (.getfield 134, 3) := by decide +kernel
theorem dX6_flies_400 : decode cX6_flies 400 = .ok (.iconst 4, 1) := by decide +kernel
theorem dX6_flies_401 : decode cX6_flies 401 = .ok (.idiv, 1) := by decide +kernel
theorem dX6_flies_402 : decode cX6_flies 402 = .ok (.iadd, 1) := by decide +kernel
theorem dX6_flies_403 : decode cX6_flies 403 = .ok (.aload_n 0, 1) := by decide +kernel
theorem dX6_flies_404 : decode cX6_flies 404 = .ok (.getfield 53, 3) := by decide +kernel
theorem dX6_flies_407 : decode cX6_flies 407 = .ok (.irem, 1) := by decide +kernel
theorem dX6_flies_408 : decode cX6_flies 408 = .ok (.ifCond .ne 11, 3) := by decide +kernel
theorem dX6_flies_411 : decode cX6_flies 411 = .ok (.iload_n 2, 1) := by decide +kernel
theorem dX6_flies_412 : decode cX6_flies 412 = .ok (.aload_n 0, 1) := by decide +kernel
theorem dX6_flies_413 : decode cX6_flies 413 = .ok (.iload_n 1, 1) := by decide +kernel
theorem dX6_flies_414 : decode cX6_flies 414 = .ok (.invokevirtual 128, 3) := by decide +kernel
theorem dX6_flies_417 : decode cX6_flies 417 = .ok (.iadd, 1) := by decide +kernel
theorem dX6_flies_418 : decode cX6_flies 418 = .ok (.istore_n 2, 1) := by decide +kernel
theorem dX6_flies_419 : decode cX6_flies 419 = .ok (.goto (-383), 3) := by decide +kernel
theorem dX6_flies_422 : decode cX6_flies 422 = .ok (.aload_n 0, 1) := by decide +kernel
theorem dX6_flies_423 : decode cX6_flies 423 = .ok (.iconst 1, 1) := by decide +kernel
theorem dX6_flies_424 : decode cX6_flies 424 = .ok (.putfield 143, 3) := by decide +kernel
theorem dX6_flies_427 : decode cX6_flies 427 = .ok (.aload_n 0, 1) := by decide +kernel
theorem dX6_flies_428 : decode cX6_flies 428 = .ok (.getfield 143, 3) := by decide +kernel
theorem dX6_flies_431 : decode cX6_flies 431 = .ok (.ireturn, 1) := by decide +kernel
set_option maxRecDepth 20000 in
theorem ggX6_isIn_X6_flies : GoodIn wsX6_isIn wsX6_flies := goodIn_r _ [6, 7, 8, 9, 10, 11, 12, 13, 14, 15, 16, 17, 18, 19, 20, 21, 22, 23, 24, 25, 26, 27, 28, 29, 5, 30, 31, 32, 33, 34, 35, 36, 37, 38, 39, 40, 41, 42, 43, 44, 45, 46, 47, 48, 49, 50, 51, 52, 53, 54, 55, 56, 57, 58, 59, 60, 61, 62, 63, 64, 65, 66, 67, 68, 69, 70, 71, 72, 73, 74, 75, 76] (by decide +kernel) (by decide +kernel)
set_option maxRecDepth 20000 in
theorem gX6_isIn_X6_flies : GoodIn wsX6_isIn (wsV RX6 152 RX6 yX6_flies wsX6_flies) := goodIn_app (goodIn_of _ (by decide +kernel)) ggX6_isIn_X6_flies
theorem dX6_isIn_0 : decode cX6_isIn 0 = .ok (.aload_n 0, 1) := by decide +kernel
theorem dX6_isIn_1 : decode cX6_isIn 1 = .ok (.iload_n 1, 1) := by decide +kernel
theorem dX6_isIn_2 : decode cX6_isIn 2 = .ok (.iload_n 2, 1) := by decide +kernel
theorem dX6_isIn_3 : decode cX6_isIn 3 = .ok (.iload_n 3, 1) := by decide +kernel
theorem dX6_isIn_4 : decode cX6_isIn 4 = .ok (.aload_n 0, 1) := by decide +kernel
theorem dX6_isIn_5 : decode cX6_isIn 5 = .ok (.getfield 149, 3) := by decide +kernel
theorem dX6_isIn_8 : decode cX6_isIn 8 = .ok (.invokevirtual 152, 3) := by decide +kernel
theorem dX6_isIn_11 : decode cX6_isIn 11 = .ok (.ifCond .ne 7, 3) := by decide +kernel
theorem dX6_isIn_14 : decode cX6_isIn 14 = .ok (.iconst 1, 1) := by decide +kernel
theorem dX6_isIn_15 : decode cX6_isIn 15 = .ok (.goto 4, 3) := by decide +kernel
theorem dX6_isIn_18 : decode cX6_isIn 18 = .ok (.iconst 0, 1) := by decide +kernel
theorem dX6_isIn_19 : decode cX6_isIn 19 = .ok (.ireturn, 1) := by decide +kernel
theorem dX6_noThrow_0 : decode cX6_noThrow 0 = .ok (.iload_n 1, 1) := by decide +kernel
theorem dX6_noThrow_1 : decode cX6_noThrow 1 = .ok (.iconst 1, 1) := by decide +kernel
theorem dX6_noThrow_2 : decode cX6_noThrow 2 = .ok (.if_icmp .lt 9, 3) := by decide +kernel
theorem dX6_noThrow_5 : decode cX6_noThrow 5 = .ok (.iload_n 2, 1) := by decide +kernel
theorem dX6_noThrow_6 : decode cX6_noThrow 6 = .ok (.bipush (-5), 2) := by decide +kernel
theorem dX6_noThrow_8 : decode cX6_noThrow 8 = .ok (.if_icmp .ge 6, 3) := by decide +kernel
theorem dX6_noThrow_11 : decode cX6_noThrow 11 = .ok (.bipush (-4), 2) := by decide +kernel
theorem dX6_noThrow_13 : decode cX6_noThrow 13 = .ok (.ireturn, 1) := by decide +kernel
theorem dX6_noThrow_14 : decode cX6_noThrow 14 = .ok (.iload_n 1, 1) := by decide +kernel
theorem dX6_noThrow_15 : decode cX6_noThrow 15 = .ok (.bipush 9, 2) := by decide +kernel
theorem dX6_noThrow_17 : decode cX6_noThrow 17 = .ok (.if_icmp .gt 9, 3) := by decide +kernel
theorem dX6_noThrow_20 : decode cX6_noThrow 20 = .ok (.iload_n 2, 1) := by decide +kernel
theorem dX6_noThrow_21 : decode cX6_noThrow 21 = .ok (.bipush 15, 2) := by decide +kernel
theorem dX6_noThrow_23 : decode cX6_noThrow 23 = .ok (.if_icmp .le 8, 3) := by decide +kernel
theorem dX6_noThrow_26 : decode cX6_noThrow 26 = .ok (.bipush (-6), 2) := by decide +kernel
theorem dX6_noThrow_28 : decode cX6_noThrow 28 = .ok (.goto 4, 3) := by decide +kernel
theorem dX6_noThrow_31 : decode cX6_noThrow 31 = .ok (.iconst 0, 1) := by decide +kernel
theorem dX6_noThrow_32 : decode cX6_noThrow 32 = .ok (.ireturn, 1) := by decide +kernel
set_option maxRecDepth 20000 in
theorem ggX6_fly_X6_isBall : GoodIn wsX6_fly wsX6_isBall := goodIn_r _ [11, 12, 13, 14, 10, 15, 60, 61, 62, 63, 64, 65, 66, 67, 68, 69, 70, 71, 72, 73, 74, 75, 76, 77, 78, 79, 80, 81, 82, 83, 84, 85, 86, 87, 88, 89, 90] (by decide +kernel) (by decide +kernel)
set_option maxRecDepth 20000 in
theorem gX6_fly_X6_isBall : GoodIn wsX6_fly (wsV RX6 119 RX6 yX6_isBall wsX6_isBall) := goodIn_app (goodIn_of _ (by decide +kernel)) ggX6_fly_X6_isBall
set_option maxRecDepth 20000 in
theorem ggX6_fly_X6_no : GoodIn wsX6_fly wsX6_no := goodIn_r _ [19, 20, 60, 61, 62, 63, 64, 65, 66, 67, 68, 69, 70, 71, 72, 73, 74, 75, 76, 77, 78, 79, 80, 81, 82, 83, 84, 85, 86, 87, 88, 89, 90] (by decide +kernel) (by decide +kernel)
set_option maxRecDepth 20000 in
theorem gX6_fly_X6_no : GoodIn wsX6_fly (wsV RX6 58 RX6 yX6_no wsX6_no) := goodIn_app (goodIn_of _ (by decide +kernel)) ggX6_fly_X6_no
set_option maxRecDepth 20000 in
theorem ggX6_fly_X6_noThrow : GoodIn wsX6_fly wsX6_noThrow := goodIn_r _ [24] (by decide +kernel) (by decide +kernel)
set_option maxRecDepth 20000 in
theorem gX6_fly_X6_noThrow : GoodIn wsX6_fly (wsV RX6 156 RX6 yX6_noThrow wsX6_noThrow) := goodIn_app (goodIn_of _ (by decide +kernel)) ggX6_fly_X6_noThrow
set_option maxRecDepth 20000 in
theorem ggX6_fly_X6_within : GoodIn wsX6_fly wsX6_within := goodIn_r _ [15] (by decide +kernel) (by decide +kernel)
set_option maxRecDepth 20000 in
theorem gX6_fly_X6_within : GoodIn wsX6_fly (va_wsS RX6 65 yX6_within wsX6_within) := goodIn_app (goodIn_of _ (by decide +kernel)) ggX6_fly_X6_within
set_option maxRecDepth 20000 in
theorem ggX6_fly_X6_flies : GoodIn wsX6_fly wsX6_flies := goodIn_r _ [28, 29, 3, 4, 5, 6, 30, 31, 32, 33, 34, 35, 36, 37, 38, 39, 2, 40, 41, 42, 43, 44, 45, 46, 10, 47, 48, 49, 50, 13, 14, 15, 51, 52, 53, 54, 55, 56, 57, 58, 59, 60, 61, 62, 63, 64, 65, 66, 67, 68, 69, 70, 71, 72, 73, 74, 75, 76, 77, 78, 79, 80, 81, 82, 83, 84, 85, 86, 87, 88, 89, 90] (by decide +kernel) (by decide +kernel)
set_option maxRecDepth 20000 in
theorem gX6_fly_X6_flies : GoodIn wsX6_fly (wsV RX6 152 RX6 yX6_flies wsX6_flies) := goodIn_app (goodIn_of _ (by decide +kernel)) ggX6_fly_X6_flies
theorem dX6_fly_0 : decode cX6_fly 0 = .ok (.aload_n 0, 1) := by decide +kernel
theorem dX6_fly_1 : decode cX6_fly 1 = .ok (.iload_n 1, 1) := by decide +kernel
theorem dX6_fly_2 : decode cX6_fly 2 = .ok (.invokevirtual 119, 3) := by decide +kernel
theorem dX6_fly_5 : decode cX6_fly 5 = .ok (.ifCond .ne 9, 3) := by decide +kernel
theorem dX6_fly_8 : decode cX6_fly 8 = .ok (.aload_n 0, 1) := by decide +kernel
theorem dX6_fly_9 : decode cX6_fly 9 = .ok (.iconst (-1), 1) := by decide +kernel
theorem dX6_fly_10 : decode cX6_fly 10 = .ok (.invokevirtual 58, 3) := by decide +kernel
theorem dX6_fly_13 : decode cX6_fly 13 = .ok (.ireturn, 1) := by decide +kernel
theorem dX6_fly_14 : decode cX6_fly 14 = .ok (.aload_n 0, 1) := by decide +kernel
theorem dX6_fly_15 : decode cX6_fly 15 = .ok (.iload_n 2, 1) := by decide +kernel
theorem dX6_fly_16 : decode cX6_fly 16 = .ok (.iload_n 3, 1) := by decide +kernel
theorem dX6_fly_17 : decode cX6_fly 17 = .ok (.invokevirtual 156, 3) := by decide +kernel
theorem dX6_fly_20 : decode cX6_fly 20 = .ok (.istore 5, 2) := by decide +kernel
theorem dX6_fly_22 : decode cX6_fly 22 = .ok (.iload 5, 2) := by decide +kernel
theorem dX6_fly_24 : decode cX6_fly 24 = .ok (.ifCond .ge 10, 3) := by decide +kernel
theorem dX6_fly_27 : decode cX6_fly 27 = .ok (.aload_n 0, 1) := by decide +kernel
theorem dX6_fly_28 : decode cX6_fly 28 = .ok (.iload 5, 2) := by decide +kernel
theorem dX6_fly_30 : decode cX6_fly 30 = .ok (.invokevirtual 58, 3) := by decide +kernel
theorem dX6_fly_33 : decode cX6_fly 33 = .ok (.ireturn, 1) := by decide +kernel
theorem dX6_fly_34 : decode cX6_fly 34 = .ok (.iload 4, 2) := by decide +kernel
theorem dX6_fly_36 : decode cX6_fly 36 = .ok (.iconst 0, 1) := by decide +kernel
theorem dX6_fly_37 : decode cX6_fly 37 = .ok (.iconst 4, 1) := by decide +kernel
theorem dX6_fly_38 : decode cX6_fly 38 = .ok (.invokestatic 65, 3) := by decide +kernel
theorem dX6_fly_41 : decode cX6_fly 41 = .ok (.ifCond .ne 10, 3) := by decide +kernel
theorem dX6_fly_44 : decode cX6_fly 44 = .ok (.aload_n 0, 1) := by decide +kernel
theorem dX6_fly_45 : decode cX6_fly 45 = .ok (.bipush (-2), 2) := by decide +kernel
theorem dX6_fly_47 : decode cX6_fly 47 = .ok (.invokevirtual 58, 3) := by decide +kernel
theorem dX6_fly_50 : decode cX6_fly 50 = .ok (.ireturn, 1) := by decide +kernel
theorem dX6_fly_51 : decode cX6_fly 51 = .ok (.aload_n 0, 1) := by decide +kernel
theorem dX6_fly_52 : decode cX6_fly 52 = .ok (.iload_n 1, 1) := by decide +kernel
theorem dX6_fly_53 : decode cX6_fly 53 = .ok (.iload_n 2, 1) := by decide +kernel
theorem dX6_fly_54 : decode cX6_fly 54 = .ok (.iload_n 3, 1) := by decide +kernel
theorem dX6_fly_55 : decode cX6_fly 55 = .ok (.aload_n 0, 1) := by decide +kernel
theorem dX6_fly_56 : decode cX6_fly 56 = .ok (.getfield 149, 3) := by decide +kernel
theorem dX6_fly_59 : decode cX6_fly 59 = .ok (.invokevirtual 152, 3) := by decide +kernel
theorem dX6_fly_62 : decode cX6_fly 62 = .ok (.pop, 1) := by decide +kernel
theorem dX6_fly_63 : decode cX6_fly 63 = .ok (.iload 4, 2) := by decide +kernel
theorem dX6_fly_65 : decode cX6_fly 65 = .ok (.ifCond .ne 10, 3) := by decide +kernel
theorem dX6_fly_68 : decode cX6_fly 68 = .ok (.aload_n 0, 1) := by decide +kernel
theorem dX6_fly_69 : decode cX6_fly 69 = .ok (.getfield 143, 3) := by decide +kernel
theorem dX6_fly_72 : decode cX6_fly 72 = .ok (.goto 46, 3) := by decide +kernel
theorem dX6_fly_75 : decode cX6_fly 75 = .ok (.iload 4, 2) := by decide +kernel
theorem dX6_fly_77 : decode cX6_fly 77 = .ok (.iconst 1, 1) := by decide +kernel
theorem dX6_fly_78 : decode cX6_fly 78 = .ok (.if_icmp .ne 10, 3) := by decide +kernel
theorem dX6_fly_81 : decode cX6_fly 81 = .ok (.aload_n 0, 1) := by decide +kernel
theorem dX6_fly_82 : decode cX6_fly 82 = .ok (.getfield 131, 3) := by decide +kernel
theorem dX6_fly_85 : decode cX6_fly 85 = .ok (.goto 33, 3) := by decide +kernel
theorem dX6_fly_88 : decode cX6_fly 88 = .ok (.iload 4, 2) := by decide +kernel
theorem dX6_fly_90 : decode cX6_fly 90 = .ok (.iconst 2, 1) := by decide +kernel
theorem dX6_fly_91 : decode cX6_fly 91 = .ok (.if_icmp .ne 10, 3) := by decide +kernel
theorem dX6_fly_94 : decode cX6_fly 94 = .ok (.aload_n 0, 1) := by decide +kernel
theorem dX6_fly_95 : decode cX6_fly 95 = .ok (.getfield 134, 3) := by decide +kernel
theorem dX6_fly_98 : decode cX6_fly 98 = .ok (.goto 20, 3) := by decide +kernel
theorem dX6_fly_101 : decode cX6_fly 101 = .ok (.iload 4, 2) := by decide +kernel
theorem dX6_fly_103 : decode cX6_fly 103 = .ok (.iconst 3, 1) := by decide +kernel
theorem dX6_fly_104 : decode cX6_fly 104 = .ok (.if_icmp .ne 10, 3) := by decide +kernel
theorem dX6_fly_107 : decode cX6_fly 107 = .ok (.aload_n 0, 1) := by decide +kernel
theorem dX6_fly_108 : decode cX6_fly 108 = .ok (.getfield 137, 3) := by decide +kernel
theorem dX6_fly_111 : decode cX6_fly 111 = .ok (.goto 7, 3) := by decide +kernel
theorem dX6_fly_114 : decode cX6_fly 114 = .ok (.aload_n 0, 1) := by decide +kernel
theorem dX6_fly_115 : decode cX6_fly 115 = .ok (.getfield 140, 3) := by decide +kernel
theorem dX6_fly_118 : decode cX6_fly 118 = .ok (.ireturn, 1) := by decide +kernel
set_option maxRecDepth 20000 in
theorem ggX6_goes_X6_flies : GoodIn wsX6_goes wsX6_flies := goodIn_r _ [9, 10, 11, 12, 13, 14, 15, 16, 17, 18, 19, 20, 21, 22, 23, 4, 24, 25, 26, 27, 28, 29, 30, 31, 8, 32, 33, 34, 35, 36, 37, 38, 39, 40, 41, 42, 43, 44, 45, 46, 47, 48, 49, 50, 51, 52, 53, 54, 55, 56, 57, 58, 59, 60, 61, 62, 63, 64, 65, 66, 67, 68, 69, 70, 71, 72, 73, 74, 75, 76, 77, 78] (by decide +kernel) (by decide +kernel)
set_option maxRecDepth 20000 in
theorem gX6_goes_X6_flies : GoodIn wsX6_goes (wsV RX6 152 RX6 yX6_flies wsX6_flies) := goodIn_app (goodIn_of _ (by decide +kernel)) ggX6_goes_X6_flies
theorem dX6_goes_0 : decode cX6_goes 0 = .ok (.aload_n 0, 1) := by decide +kernel
theorem dX6_goes_1 : decode cX6_goes 1 = .ok (.iload_n 1, 1) := by decide +kernel
theorem dX6_goes_2 : decode cX6_goes 2 = .ok (.iload_n 2, 1) := by decide +kernel
theorem dX6_goes_3 : decode cX6_goes 3 = .ok (.iload_n 3, 1) := by decide +kernel
theorem dX6_goes_4 : decode cX6_goes 4 = .ok (.aload_n 0, 1) := by decide +kernel
theorem dX6_goes_5 : decode cX6_goes 5 = .ok (.getfield 149, 3) := by decide +kernel
theorem dX6_goes_8 : decode cX6_goes 8 = .ok (.invokevirtual 152, 3) := by decide +kernel
theorem dX6_goes_11 : decode cX6_goes 11 = .ok (.istore 4, 2) := by decide +kernel
theorem dX6_goes_13 : decode cX6_goes 13 = .ok (.aload_n 0, 1) := by decide +kernel
theorem dX6_goes_14 : decode cX6_goes 14 = .ok (.dup, 1) := by decide +kernel
theorem dX6_goes_15 : decode cX6_goes 15 = .ok (.getfield 149, 3) := by decide +kernel
theorem dX6_goes_18 : decode cX6_goes 18 = .ok (.iconst 1, 1) := by decide +kernel
theorem dX6_goes_19 : decode cX6_goes 19 = .ok (.iadd, 1) := by decide +kernel
theorem dX6_goes_20 : decode cX6_goes 20 = .ok (.putfield 149, 3) := by decide +kernel
theorem dX6_goes_23 : decode cX6_goes 23 = .ok (.aload_n 0, 1) := by decide +kernel
theorem dX6_goes_24 : decode cX6_goes 24 = .ok (.dup, 1) := by decide +kernel
theorem dX6_goes_25 : decode cX6_goes 25 = .ok (.getfield 159, 3) := by decide +kernel
theorem dX6_goes_28 : decode cX6_goes 28 = .ok (.iconst 1, 1) := by decide +kernel
theorem dX6_goes_29 : decode cX6_goes 29 = .ok (.iadd, 1) := by decide +kernel
theorem dX6_goes_30 : decode cX6_goes 30 = .ok (.putfield 159, 3) := by decide +kernel
theorem dX6_goes_33 : decode cX6_goes 33 = .ok (.iload 4, 2) := by decide +kernel
theorem dX6_goes_35 : decode cX6_goes 35 = .ok (.ifCond .ne 23, 3) := by decide +kernel
theorem dX6_goes_38 : decode cX6_goes 38 = .ok (.aload_n 0, 1) := by decide +kernel
theorem dX6_goes_39 : decode cX6_goes 39 = .ok (.dup, 1) := by decide +kernel
theorem dX6_goes_40 : decode cX6_goes 40 = .ok (.getfield 162, 3) := by decide +kernel
theorem dX6_goes_43 : decode cX6_goes 43 = .ok (.iconst 1, 1) := by decide +kernel
theorem dX6_goes_44 : decode cX6_goes 44 = .ok (.iadd, 1) := by decide +kernel
theorem dX6_goes_45 : decode cX6_goes 45 = .ok (.putfield 162, 3) := by decide +kernel
theorem dX6_goes_48 : decode cX6_goes 48 = .ok (.aload_n 0, 1) := by decide +kernel
theorem dX6_goes_49 : decode cX6_goes 49 = .ok (.dup, 1) := by decide +kernel
theorem dX6_goes_50 : decode cX6_goes 50 = .ok (.getfield 89, 3) := by decide +kernel
theorem dX6_goes_53 : decode cX6_goes 53 = .ok (.iconst 1, 1) := by decide +kernel
theorem dX6_goes_54 : decode cX6_goes 54 = .ok (.iadd, 1) := by decide +kernel
theorem dX6_goes_55 : decode cX6_goes 55 = .ok (.putfield 89, 3) := by decide +kernel
theorem dX6_goes_58 : decode cX6_goes 58 = .ok (.iload 4, 2) := by decide +kernel
theorem dX6_goes_60 : decode cX6_goes 60 = .ok (.ireturn, 1) := by decide +kernel
set_option maxRecDepth 20000 in
theorem ggX6_throwIt_X6_isBall : GoodIn wsX6_throwIt wsX6_isBall := goodIn_r _ [6, 7, 8, 9, 5, 10, 66, 67, 68, 69, 70, 71, 72, 73, 74, 75, 76, 77, 78, 79, 80, 81, 82, 83, 84, 85, 86, 87, 88, 89, 90, 91, 92, 93, 94, 95, 96] (by decide +kernel) (by decide +kernel)
set_option maxRecDepth 20000 in
theorem gX6_throwIt_X6_isBall : GoodIn wsX6_throwIt (wsV RX6 119 RX6 yX6_isBall wsX6_isBall) := goodIn_app (goodIn_of _ (by decide +kernel)) ggX6_throwIt_X6_isBall
set_option maxRecDepth 20000 in
theorem ggX6_throwIt_X6_no : GoodIn wsX6_throwIt wsX6_no := goodIn_r _ [14, 15, 66, 67, 68, 69, 70, 71, 72, 73, 74, 75, 76, 77, 78, 79, 80, 81, 82, 83, 84, 85, 86, 87, 88, 89, 90, 91, 92, 93, 94, 95, 96] (by decide +kernel) (by decide +kernel)
set_option maxRecDepth 20000 in
theorem gX6_throwIt_X6_no : GoodIn wsX6_throwIt (wsV RX6 58 RX6 yX6_no wsX6_no) := goodIn_app (goodIn_of _ (by decide +kernel)) ggX6_throwIt_X6_no
set_option maxRecDepth 20000 in
theorem ggX6_throwIt_X6_noThrow : GoodIn wsX6_throwIt wsX6_noThrow := goodIn_r _ [19] (by decide +kernel) (by decide +kernel)
set_option maxRecDepth 20000 in
theorem gX6_throwIt_X6_noThrow : GoodIn wsX6_throwIt (wsV RX6 156 RX6 yX6_noThrow wsX6_noThrow) := goodIn_app (goodIn_of _ (by decide +kernel)) ggX6_throwIt_X6_noThrow
set_option maxRecDepth 20000 in
theorem ggX6_throwIt_X6_goes : GoodIn wsX6_throwIt wsX6_goes := goodIn_r _ [23, 1, 24, 25, 26, 27, 28, 29, 5, 30, 31, 32, 33, 34, 35, 36, 37, 38, 39, 40, 41, 42, 43, 44, 45, 46, 47, 48, 49, 50, 51, 52, 53, 54, 55, 56, 8, 9, 10, 57, 58, 59, 60, 61, 62, 63, 64, 65, 66, 67, 68, 69, 70, 71, 72, 73, 74, 75, 76, 77, 78, 79, 80, 81, 82, 83, 84, 85, 86, 87, 88, 89, 90, 91, 92, 93, 94, 95, 96] (by decide +kernel) (by decide +kernel)
set_option maxRecDepth 20000 in
theorem gX6_throwIt_X6_goes : GoodIn wsX6_throwIt (wsV RX6 165 RX6 yX6_goes wsX6_goes) := goodIn_app (goodIn_of _ (by decide +kernel)) ggX6_throwIt_X6_goes
theorem dX6_throwIt_0 : decode cX6_throwIt 0 = .ok (.aload_n 0, 1) := by decide +kernel
theorem dX6_throwIt_1 : decode cX6_throwIt 1 = .ok (.iload_n 1, 1) := by decide +kernel
theorem dX6_throwIt_2 : decode cX6_throwIt 2 = .ok (.invokevirtual 119, 3) := by decide +kernel
theorem dX6_throwIt_5 : decode cX6_throwIt 5 = .ok (.ifCond .ne 9, 3) := by decide +kernel
theorem dX6_throwIt_8 : decode cX6_throwIt 8 = .ok (.aload_n 0, 1) := by decide +kernel
theorem dX6_throwIt_9 : decode cX6_throwIt 9 = .ok (.iconst (-1), 1) := by decide +kernel
theorem dX6_throwIt_10 : decode cX6_throwIt 10 = .ok (.invokevirtual 58, 3) := by decide +kernel
theorem dX6_throwIt_13 : decode cX6_throwIt 13 = .ok (.ireturn, 1) := by decide +kernel
theorem dX6_throwIt_14 : decode cX6_throwIt 14 = .ok (.aload_n 0, 1) := by decide +kernel
theorem dX6_throwIt_15 : decode cX6_throwIt 15 = .ok (.iload_n 2, 1) := by decide +kernel
theorem dX6_throwIt_16 : decode cX6_throwIt 16 = .ok (.iload_n 3, 1) := by decide +kernel
theorem dX6_throwIt_17 : decode cX6_throwIt 17 = .ok (.invokevirtual 156, 3) := by decide +kernel
theorem dX6_throwIt_20 : decode cX6_throwIt 20 = .ok (.istore 4, 2) := by decide +kernel
theorem dX6_throwIt_22 : decode cX6_throwIt 22 = .ok (.iload 4, 2) := by decide +kernel
theorem dX6_throwIt_24 : decode cX6_throwIt 24 = .ok (.ifCond .ge 10, 3) := by decide +kernel
theorem dX6_throwIt_27 : decode cX6_throwIt 27 = .ok (.aload_n 0, 1) := by decide +kernel
theorem dX6_throwIt_28 : decode cX6_throwIt 28 = .ok (.iload 4, 2) := by decide +kernel
theorem dX6_throwIt_30 : decode cX6_throwIt 30 = .ok (.invokevirtual 58, 3) := by decide +kernel
theorem dX6_throwIt_33 : decode cX6_throwIt 33 = .ok (.ireturn, 1) := by decide +kernel
theorem dX6_throwIt_34 : decode cX6_throwIt 34 = .ok (.aload_n 0, 1) := by decide +kernel
theorem dX6_throwIt_35 : decode cX6_throwIt 35 = .ok (.getfield 149, 3) := by decide +kernel
theorem dX6_throwIt_38 : decode cX6_throwIt 38 = .ok (.sipush 9999, 3) := by decide +kernel
theorem dX6_throwIt_41 : decode cX6_throwIt 41 = .ok (.if_icmp .ne 12, 3) := by decide +kernel
theorem dX6_throwIt_44 : decode cX6_throwIt 44 = .ok (.aload_n 0, 1) := by decide +kernel
theorem dX6_throwIt_45 : decode cX6_throwIt 45 = .ok (.bipush (-6), 2) := by decide +kernel
theorem dX6_throwIt_47 : decode cX6_throwIt 47 = .ok (.invokevirtual 58, 3) := by decide +kernel
theorem dX6_throwIt_50 : decode cX6_throwIt 50 = .ok (.goto 10, 3) := by decide +kernel
theorem dX6_throwIt_53 : decode cX6_throwIt 53 = .ok (.aload_n 0, 1) := by decide +kernel
theorem dX6_throwIt_54 : decode cX6_throwIt 54 = .ok (.iload_n 1, 1) := by decide +kernel
theorem dX6_throwIt_55 : decode cX6_throwIt 55 = .ok (.iload_n 2, 1) := by decide +kernel
theorem dX6_throwIt_56 : decode cX6_throwIt 56 = .ok (.iload_n 3, 1) := by decide +kernel
theorem dX6_throwIt_57 : decode cX6_throwIt 57 = .ok (.invokevirtual 165, 3) := by decide +kernel
theorem dX6_throwIt_60 : decode cX6_throwIt 60 = .ok (.ireturn, 1) := by decide +kernel
set_option maxRecDepth 20000 in
theorem ggX6_pass_X6_no : GoodIn wsX6_pass wsX6_no := goodIn_r _ [6, 7, 8, 9, 10, 11, 12, 13, 14, 15, 16, 17, 18, 19, 20, 21, 22, 23, 24, 25, 26, 27, 28, 29, 30, 31, 32, 33, 34, 35, 36, 37, 38] (by decide +kernel) (by decide +kernel)
set_option maxRecDepth 20000 in
theorem gX6_pass_X6_no : GoodIn wsX6_pass (wsV RX6 58 RX6 yX6_no wsX6_no) := goodIn_app (goodIn_of _ (by decide +kernel)) ggX6_pass_X6_no
theorem dX6_pass_0 : decode cX6_pass 0 = .ok (.iload_n 1, 1) := by decide +kernel
theorem dX6_pass_1 : decode cX6_pass 1 = .ok (.iconst 1, 1) := by decide +kernel
theorem dX6_pass_2 : decode cX6_pass 2 = .ok (.if_icmp .ge 10, 3) := by decide +kernel
theorem dX6_pass_5 : decode cX6_pass 5 = .ok (.aload_n 0, 1) := by decide +kernel
theorem dX6_pass_6 : decode cX6_pass 6 = .ok (.bipush (-4), 2) := by decide +kernel
theorem dX6_pass_8 : decode cX6_pass 8 = .ok (.invokevirtual 58, 3) := by decide +kernel
theorem dX6_pass_11 : decode cX6_pass 11 = .ok (.ireturn, 1) := by decide +kernel
theorem dX6_pass_12 : decode cX6_pass 12 = .ok (.iload_n 1, 1) := by decide +kernel
theorem dX6_pass_13 : decode cX6_pass 13 = .ok (.bipush 99, 2) := by decide +kernel
theorem dX6_pass_15 : decode cX6_pass 15 = .ok (.if_icmp .gt 15, 3) := by decide +kernel
theorem dX6_pass_18 : decode cX6_pass 18 = .ok (.aload_n 0, 1) := by decide +kernel
theorem dX6_pass_19 : decode cX6_pass 19 = .ok (.getfield 149, 3) := by decide +kernel
theorem dX6_pass_22 : decode cX6_pass 22 = .ok (.iload_n 1, 1) := by decide +kernel
theorem dX6_pass_23 : decode cX6_pass 23 = .ok (.iadd, 1) := by decide +kernel
theorem dX6_pass_24 : decode cX6_pass 24 = .ok (.sipush 9999, 3) := by decide +kernel
theorem dX6_pass_27 : decode cX6_pass 27 = .ok (.if_icmp .le 10, 3) := by decide +kernel
theorem dX6_pass_30 : decode cX6_pass 30 = .ok (.aload_n 0, 1) := by decide +kernel
theorem dX6_pass_31 : decode cX6_pass 31 = .ok (.bipush (-6), 2) := by decide +kernel
theorem dX6_pass_33 : decode cX6_pass 33 = .ok (.invokevirtual 58, 3) := by decide +kernel
theorem dX6_pass_36 : decode cX6_pass 36 = .ok (.ireturn, 1) := by decide +kernel
theorem dX6_pass_37 : decode cX6_pass 37 = .ok (.aload_n 0, 1) := by decide +kernel
theorem dX6_pass_38 : decode cX6_pass 38 = .ok (.dup, 1) := by decide +kernel
theorem dX6_pass_39 : decode cX6_pass 39 = .ok (.getfield 149, 3) := by decide +kernel
theorem dX6_pass_42 : decode cX6_pass 42 = .ok (.iload_n 1, 1) := by decide +kernel
theorem dX6_pass_43 : decode cX6_pass 43 = .ok (.iadd, 1) := by decide +kernel
theorem dX6_pass_44 : decode cX6_pass 44 = .ok (.putfield 149, 3) := by decide +kernel
theorem dX6_pass_47 : decode cX6_pass 47 = .ok (.aload_n 0, 1) := by decide +kernel
theorem dX6_pass_48 : decode cX6_pass 48 = .ok (.getfield 149, 3) := by decide +kernel
theorem dX6_pass_51 : decode cX6_pass 51 = .ok (.ireturn, 1) := by decide +kernel
theorem dX6_clearBin_0 : decode cX6_clearBin 0 = .ok (.aload_n 0, 1) := by decide +kernel
theorem dX6_clearBin_1 : decode cX6_clearBin 1 = .ok (.getfield 89, 3) := by decide +kernel
theorem dX6_clearBin_4 : decode cX6_clearBin 4 = .ok (.istore_n 1, 1) := by decide +kernel
theorem dX6_clearBin_5 : decode cX6_clearBin 5 = .ok (.aload_n 0, 1) := by decide +kernel
theorem dX6_clearBin_6 : decode cX6_clearBin 6 = .ok (.iconst 0, 1) := by decide +kernel
theorem dX6_clearBin_7 : decode cX6_clearBin 7 = .ok (.putfield 89, 3) := by decide +kernel
theorem dX6_clearBin_10 : decode cX6_clearBin 10 = .ok (.iload_n 1, 1) := by decide +kernel
theorem dX6_clearBin_11 : decode cX6_clearBin 11 = .ok (.ireturn, 1) := by decide +kernel
set_option maxRecDepth 20000 in
theorem ggX6_goodOf_X6_isIn : GoodIn wsX6_goodOf wsX6_isIn := goodIn_r _ [5, 6, 7, 8, 9, 4, 10, 11, 12, 13, 14, 15, 16, 17, 18, 19, 20, 21, 22, 23, 24, 25, 26, 27, 28, 29, 30, 31, 32, 33, 34, 35, 36, 37, 38, 39, 40, 41, 42, 43, 44, 45, 46, 47, 48, 49, 50, 51, 52, 53, 54, 55, 56, 57, 58, 59, 60, 61, 62, 63, 64, 65, 66, 67, 68, 69, 70, 71, 72, 73, 74, 75, 76, 77, 78, 79, 80] (by decide +kernel) (by decide +kernel)
set_option maxRecDepth 20000 in
theorem gX6_goodOf_X6_isIn : GoodIn wsX6_goodOf (wsV RX6 169 RX6 yX6_isIn wsX6_isIn) := goodIn_app (goodIn_of _ (by decide +kernel)) ggX6_goodOf_X6_isIn
theorem dX6_goodOf_0 : decode cX6_goodOf 0 = .ok (.iconst 0, 1) := by decide +kernel
theorem dX6_goodOf_1 : decode cX6_goodOf 1 = .ok (.istore 4, 2) := by decide +kernel
theorem dX6_goodOf_3 : decode cX6_goodOf 3 = .ok (.iload_n 2, 1) := by decide +kernel
theorem dX6_goodOf_4 : decode cX6_goodOf 4 = .ok (.iconst 1, 1) := by decide +kernel
theorem dX6_goodOf_5 : decode cX6_goodOf 5 = .ok (.isub, 1) := by decide +kernel
theorem dX6_goodOf_6 : decode cX6_goodOf 6 = .ok (.istore 5, 2) := by decide +kernel
theorem dX6_goodOf_8 : decode cX6_goodOf 8 = .ok (.iload 5, 2) := by decide +kernel
theorem dX6_goodOf_10 : decode cX6_goodOf 10 = .ok (.iload_n 2, 1) := by decide +kernel
theorem dX6_goodOf_11 : decode cX6_goodOf 11 = .ok (.iconst 1, 1) := by decide +kernel
theorem dX6_goodOf_12 : decode cX6_goodOf 12 = .ok (.iadd, 1) := by decide +kernel
theorem dX6_goodOf_13 : decode cX6_goodOf 13 = .ok (.if_icmp .gt 43, 3) := by decide +kernel
theorem dX6_goodOf_16 : decode cX6_goodOf 16 = .ok (.iload_n 3, 1) := by decide +kernel
theorem dX6_goodOf_17 : decode cX6_goodOf 17 = .ok (.iconst 1, 1) := by decide +kernel
theorem dX6_goodOf_18 : decode cX6_goodOf 18 = .ok (.isub, 1) := by decide +kernel
theorem dX6_goodOf_19 : decode cX6_goodOf 19 = .ok (.istore 6, 2) := by decide +kernel
theorem dX6_goodOf_21 : decode cX6_goodOf 21 = .ok (.iload 6, 2) := by decide +kernel
theorem dX6_goodOf_23 : decode cX6_goodOf 23 = .ok (.iload_n 3, 1) := by decide +kernel
theorem dX6_goodOf_24 : decode cX6_goodOf 24 = .ok (.iconst 1, 1) := by decide +kernel
theorem dX6_goodOf_25 : decode cX6_goodOf 25 = .ok (.iadd, 1) := by decide +kernel
theorem dX6_goodOf_26 : decode cX6_goodOf 26 = .ok (.if_icmp .gt 24, 3) := by decide +kernel
theorem dX6_goodOf_29 : decode cX6_goodOf 29 = .ok (.aload_n 0, 1) := by decide +kernel
theorem dX6_goodOf_30 : decode cX6_goodOf 30 = .ok (.iload_n 1, 1) := by decide +kernel
theorem dX6_goodOf_31 : decode cX6_goodOf 31 = .ok (.iload 5, 2) := by decide +kernel
theorem dX6_goodOf_33 : decode cX6_goodOf 33 = .ok (.iload 6, 2) := by decide +kernel
theorem dX6_goodOf_35 : decode cX6_goodOf 35 = .ok (.invokevirtual 169, 3) := by decide +kernel
theorem dX6_goodOf_38 : decode cX6_goodOf 38 = .ok (.ifCond .eq 6, 3) := by decide +kernel
theorem dX6_goodOf_41 : decode cX6_goodOf 41 = .ok (.iinc 4 1, 3) := by decide +kernel
theorem dX6_goodOf_44 : decode cX6_goodOf 44 = .ok (.iinc 6 1, 3) := by decide +kernel
theorem dX6_goodOf_47 : decode cX6_goodOf 47 = .ok (.goto (-26), 3) := by decide +kernel
theorem dX6_goodOf_50 : decode cX6_goodOf 50 = .ok (.iinc 5 1, 3) := by decide +kernel
theorem dX6_goodOf_53 : decode cX6_goodOf 53 = .ok (.goto (-45), 3) := by decide +kernel
theorem dX6_goodOf_56 : decode cX6_goodOf 56 = .ok (.iload 4, 2) := by decide +kernel
theorem dX6_goodOf_58 : decode cX6_goodOf 58 = .ok (.ireturn, 1) := by decide +kernel
set_option maxRecDepth 20000 in
theorem ggX6_good_X6_isBall : GoodIn wsX6_good wsX6_isBall := goodIn_r _ [5, 6, 7, 8, 4, 9, 68, 69, 70, 71, 72, 73, 74, 75, 76, 77, 78, 79, 80, 81, 82, 83, 84, 85, 86, 87, 88, 89, 90, 91, 92, 93, 94, 95, 96, 97, 98] (by decide +kernel) (by decide +kernel)
set_option maxRecDepth 20000 in
theorem gX6_good_X6_isBall : GoodIn wsX6_good (wsV RX6 119 RX6 yX6_isBall wsX6_isBall) := goodIn_app (goodIn_of _ (by decide +kernel)) ggX6_good_X6_isBall
set_option maxRecDepth 20000 in
theorem ggX6_good_X6_no : GoodIn wsX6_good wsX6_no := goodIn_r _ [13, 14, 68, 69, 70, 71, 72, 73, 74, 75, 76, 77, 78, 79, 80, 81, 82, 83, 84, 85, 86, 87, 88, 89, 90, 91, 92, 93, 94, 95, 96, 97, 98] (by decide +kernel) (by decide +kernel)
set_option maxRecDepth 20000 in
theorem gX6_good_X6_no : GoodIn wsX6_good (wsV RX6 58 RX6 yX6_no wsX6_no) := goodIn_app (goodIn_of _ (by decide +kernel)) ggX6_good_X6_no
set_option maxRecDepth 20000 in
theorem ggX6_good_X6_noThrow : GoodIn wsX6_good wsX6_noThrow := goodIn_r _ [18] (by decide +kernel) (by decide +kernel)
set_option maxRecDepth 20000 in
theorem gX6_good_X6_noThrow : GoodIn wsX6_good (wsV RX6 156 RX6 yX6_noThrow wsX6_noThrow) := goodIn_app (goodIn_of _ (by decide +kernel)) ggX6_good_X6_noThrow
set_option maxRecDepth 20000 in
theorem ggX6_good_X6_goodOf : GoodIn wsX6_good wsX6_goodOf := goodIn_r _ [22, 23, 24, 25, 4, 26, 27, 28, 29, 30, 31, 32, 33, 34, 35, 36, 37, 38, 39, 40, 41, 42, 43, 44, 45, 46, 47, 48, 49, 50, 51, 52, 53, 54, 55, 56, 57, 58, 7, 8, 9, 59, 60, 61, 62, 63, 64, 65, 66, 67, 68, 69, 70, 71, 72, 73, 74, 75, 76, 77, 78, 79, 80, 81, 82, 83, 84, 85, 86, 87, 88, 89, 90, 91, 92, 93, 94, 95, 96, 97, 98] (by decide +kernel) (by decide +kernel)
set_option maxRecDepth 20000 in
theorem gX6_good_X6_goodOf : GoodIn wsX6_good (wsV RX6 172 RX6 yX6_goodOf wsX6_goodOf) := goodIn_app (goodIn_of _ (by decide +kernel)) ggX6_good_X6_goodOf
theorem dX6_good_0 : decode cX6_good 0 = .ok (.aload_n 0, 1) := by decide +kernel
theorem dX6_good_1 : decode cX6_good 1 = .ok (.iload_n 1, 1) := by decide +kernel
theorem dX6_good_2 : decode cX6_good 2 = .ok (.invokevirtual 119, 3) := by decide +kernel
theorem dX6_good_5 : decode cX6_good 5 = .ok (.ifCond .ne 9, 3) := by decide +kernel
theorem dX6_good_8 : decode cX6_good 8 = .ok (.aload_n 0, 1) := by decide +kernel
theorem dX6_good_9 : decode cX6_good 9 = .ok (.iconst (-1), 1) := by decide +kernel
theorem dX6_good_10 : decode cX6_good 10 = .ok (.invokevirtual 58, 3) := by decide +kernel
theorem dX6_good_13 : decode cX6_good 13 = .ok (.ireturn, 1) := by decide +kernel
theorem dX6_good_14 : decode cX6_good 14 = .ok (.aload_n 0, 1) := by decide +kernel
theorem dX6_good_15 : decode cX6_good 15 = .ok (.iload_n 2, 1) := by decide +kernel
theorem dX6_good_16 : decode cX6_good 16 = .ok (.iload_n 3, 1) := by decide +kernel
theorem dX6_good_17 : decode cX6_good 17 = .ok (.invokevirtual 156, 3) := by decide +kernel
theorem dX6_good_20 : decode cX6_good 20 = .ok (.istore 4, 2) := by decide +kernel
theorem dX6_good_22 : decode cX6_good 22 = .ok (.iload 4, 2) := by decide +kernel
theorem dX6_good_24 : decode cX6_good 24 = .ok (.ifCond .ge 12, 3) := by decide +kernel
theorem dX6_good_27 : decode cX6_good 27 = .ok (.aload_n 0, 1) := by decide +kernel
theorem dX6_good_28 : decode cX6_good 28 = .ok (.iload 4, 2) := by decide +kernel
theorem dX6_good_30 : decode cX6_good 30 = .ok (.invokevirtual 58, 3) := by decide +kernel
theorem dX6_good_33 : decode cX6_good 33 = .ok (.goto 10, 3) := by decide +kernel
theorem dX6_good_36 : decode cX6_good 36 = .ok (.aload_n 0, 1) := by decide +kernel
theorem dX6_good_37 : decode cX6_good 37 = .ok (.iload_n 1, 1) := by decide +kernel
theorem dX6_good_38 : decode cX6_good 38 = .ok (.iload_n 2, 1) := by decide +kernel
theorem dX6_good_39 : decode cX6_good 39 = .ok (.iload_n 3, 1) := by decide +kernel
theorem dX6_good_40 : decode cX6_good 40 = .ok (.invokevirtual 172, 3) := by decide +kernel
theorem dX6_good_43 : decode cX6_good 43 = .ok (.ireturn, 1) := by decide +kernel
set_option maxRecDepth 20000 in
theorem ggX6_best_X6_isBall : GoodIn wsX6_best wsX6_isBall := goodIn_r _ [5, 6, 7, 8, 4, 9, 64, 65, 66, 67, 68, 69, 70, 71, 72, 73, 74, 75, 76, 77, 78, 79, 80, 81, 82, 83, 84, 85, 86, 87, 88, 89, 90, 91, 92, 93, 94] (by decide +kernel) (by decide +kernel)
set_option maxRecDepth 20000 in
theorem gX6_best_X6_isBall : GoodIn wsX6_best (wsV RX6 119 RX6 yX6_isBall wsX6_isBall) := goodIn_app (goodIn_of _ (by decide +kernel)) ggX6_best_X6_isBall
set_option maxRecDepth 20000 in
theorem ggX6_best_X6_no : GoodIn wsX6_best wsX6_no := goodIn_r _ [13, 14, 64, 65, 66, 67, 68, 69, 70, 71, 72, 73, 74, 75, 76, 77, 78, 79, 80, 81, 82, 83, 84, 85, 86, 87, 88, 89, 90, 91, 92, 93, 94] (by decide +kernel) (by decide +kernel)
set_option maxRecDepth 20000 in
theorem gX6_best_X6_no : GoodIn wsX6_best (wsV RX6 58 RX6 yX6_no wsX6_no) := goodIn_app (goodIn_of _ (by decide +kernel)) ggX6_best_X6_no
set_option maxRecDepth 20000 in
theorem ggX6_best_X6_within : GoodIn wsX6_best wsX6_within := goodIn_r _ [9] (by decide +kernel) (by decide +kernel)
set_option maxRecDepth 20000 in
theorem gX6_best_X6_within : GoodIn wsX6_best (va_wsS RX6 65 yX6_within wsX6_within) := goodIn_app (goodIn_of _ (by decide +kernel)) ggX6_best_X6_within
set_option maxRecDepth 20000 in
theorem ggX6_best_X6_goodOf : GoodIn wsX6_best wsX6_goodOf := goodIn_r _ [18, 19, 20, 21, 4, 22, 23, 24, 25, 26, 27, 28, 29, 30, 31, 32, 33, 34, 35, 36, 37, 38, 39, 40, 41, 42, 43, 44, 45, 46, 47, 48, 49, 50, 51, 52, 53, 54, 7, 8, 9, 55, 56, 57, 58, 59, 60, 61, 62, 63, 64, 65, 66, 67, 68, 69, 70, 71, 72, 73, 74, 75, 76, 77, 78, 79, 80, 81, 82, 83, 84, 85, 86, 87, 88, 89, 90, 91, 92, 93, 94] (by decide +kernel) (by decide +kernel)
set_option maxRecDepth 20000 in
theorem gX6_best_X6_goodOf : GoodIn wsX6_best (wsV RX6 172 RX6 yX6_goodOf wsX6_goodOf) := goodIn_app (goodIn_of _ (by decide +kernel)) ggX6_best_X6_goodOf
theorem dX6_best_0 : decode cX6_best 0 = .ok (.aload_n 0, 1) := by decide +kernel
theorem dX6_best_1 : decode cX6_best 1 = .ok (.iload_n 1, 1) := by decide +kernel
theorem dX6_best_2 : decode cX6_best 2 = .ok (.invokevirtual 119, 3) := by decide +kernel
theorem dX6_best_5 : decode cX6_best 5 = .ok (.ifCond .ne 9, 3) := by decide +kernel
theorem dX6_best_8 : decode cX6_best 8 = .ok (.aload_n 0, 1) := by decide +kernel
theorem dX6_best_9 : decode cX6_best 9 = .ok (.iconst (-1), 1) := by decide +kernel
theorem dX6_best_10 : decode cX6_best 10 = .ok (.invokevirtual 58, 3) := by decide +kernel
theorem dX6_best_13 : decode cX6_best 13 = .ok (.ireturn, 1) := by decide +kernel
theorem dX6_best_14 : decode cX6_best 14 = .ok (.iload_n 2, 1) := by decide +kernel
theorem dX6_best_15 : decode cX6_best 15 = .ok (.iconst 0, 1) := by decide +kernel
theorem dX6_best_16 : decode cX6_best 16 = .ok (.iconst 1, 1) := by decide +kernel
theorem dX6_best_17 : decode cX6_best 17 = .ok (.invokestatic 65, 3) := by decide +kernel
theorem dX6_best_20 : decode cX6_best 20 = .ok (.ifCond .ne 10, 3) := by decide +kernel
theorem dX6_best_23 : decode cX6_best 23 = .ok (.aload_n 0, 1) := by decide +kernel
theorem dX6_best_24 : decode cX6_best 24 = .ok (.bipush (-2), 2) := by decide +kernel
theorem dX6_best_26 : decode cX6_best 26 = .ok (.invokevirtual 58, 3) := by decide +kernel
theorem dX6_best_29 : decode cX6_best 29 = .ok (.ireturn, 1) := by decide +kernel
theorem dX6_best_30 : decode cX6_best 30 = .ok (.iconst (-1), 1) := by decide +kernel
theorem dX6_best_31 : decode cX6_best 31 = .ok (.istore_n 3, 1) := by decide +kernel
theorem dX6_best_32 : decode cX6_best 32 = .ok (.iconst 0, 1) := by decide +kernel
theorem dX6_best_33 : decode cX6_best 33 = .ok (.istore 4, 2) := by decide +kernel
theorem dX6_best_35 : decode cX6_best 35 = .ok (.iconst 1, 1) := by decide +kernel
theorem dX6_best_36 : decode cX6_best 36 = .ok (.istore 5, 2) := by decide +kernel
theorem dX6_best_38 : decode cX6_best 38 = .ok (.iload 5, 2) := by decide +kernel
theorem dX6_best_40 : decode cX6_best 40 = .ok (.bipush 10, 2) := by decide +kernel
theorem dX6_best_42 : decode cX6_best 42 = .ok (.if_icmp .ge 61, 3) := by decide +kernel
theorem dX6_best_45 : decode cX6_best 45 = .ok (.bipush (-5), 2) := by decide +kernel
theorem dX6_best_47 : decode cX6_best 47 = .ok (.istore 6, 2) := by decide +kernel
theorem dX6_best_49 : decode cX6_best 49 = .ok (.iload 6, 2) := by decide +kernel
theorem dX6_best_51 : decode cX6_best 51 = .ok (.bipush 16, 2) := by decide +kernel
theorem dX6_best_53 : decode cX6_best 53 = .ok (.if_icmp .ge 44, 3) := by decide +kernel
theorem dX6_best_56 : decode cX6_best 56 = .ok (.aload_n 0, 1) := by decide +kernel
theorem dX6_best_57 : decode cX6_best 57 = .ok (.iload_n 1, 1) := by decide +kernel
theorem dX6_best_58 : decode cX6_best 58 = .ok (.iload 5, 2) := by decide +kernel
theorem dX6_best_60 : decode cX6_best 60 = .ok (.iload 6, 2) := by decide +kernel
theorem dX6_best_62 : decode cX6_best 62 = .ok (.invokevirtual 172, 3) := by decide +kernel
theorem dX6_best_65 : decode cX6_best 65 = .ok (.istore 7, 2) := by decide +kernel
theorem dX6_best_67 : decode cX6_best 67 = .ok (.iload 7, 2) := by decide +kernel
theorem dX6_best_69 : decode cX6_best 69 = .ok (.iload_n 3, 1) := by decide +kernel
theorem dX6_best_70 : decode cX6_best 70 = .ok (.if_icmp .gt 6, 3) := by decide +kernel
theorem dX6_best_73 : decode cX6_best 73 = .ok (.goto 18, 3) := by decide +kernel
theorem dX6_best_76 : decode cX6_best 76 = .ok (.iload 7, 2) := by decide +kernel
theorem dX6_best_78 : decode cX6_best 78 = .ok (.istore_n 3, 1) := by decide +kernel
theorem dX6_best_79 : decode cX6_best 79 = .ok (.bipush 100, 2) := by decide +kernel
theorem dX6_best_81 : decode cX6_best 81 = .ok (.iload 5, 2) := by decide +kernel
theorem dX6_best_83 : decode cX6_best 83 = .ok (.imul, 1) := by decide +kernel
theorem dX6_best_84 : decode cX6_best 84 = .ok (.iconst 5, 1) := by decide +kernel
theorem dX6_best_85 : decode cX6_best 85 = .ok (.iadd, 1) := by decide +kernel
theorem dX6_best_86 : decode cX6_best 86 = .ok (.iload 6, 2) := by decide +kernel
theorem dX6_best_88 : decode cX6_best 88 = .ok (.iadd, 1) := by decide +kernel
theorem dX6_best_89 : decode cX6_best 89 = .ok (.istore 4, 2) := by decide +kernel
theorem dX6_best_91 : decode cX6_best 91 = .ok (.iinc 6 1, 3) := by decide +kernel
theorem dX6_best_94 : decode cX6_best 94 = .ok (.goto (-45), 3) := by decide +kernel
theorem dX6_best_97 : decode cX6_best 97 = .ok (.iinc 5 1, 3) := by decide +kernel
theorem dX6_best_100 : decode cX6_best 100 = .ok (.goto (-62), 3) := by decide +kernel
theorem dX6_best_103 : decode cX6_best 103 = .ok (.iload_n 2, 1) := by decide +kernel
theorem dX6_best_104 : decode cX6_best 104 = .ok (.ifCond .ne 8, 3) := by decide +kernel
theorem dX6_best_107 : decode cX6_best 107 = .ok (.iload 4, 2) := by decide +kernel
theorem dX6_best_109 : decode cX6_best 109 = .ok (.goto 4, 3) := by decide +kernel
theorem dX6_best_112 : decode cX6_best 112 = .ok (.iload_n 3, 1) := by decide +kernel
theorem dX6_best_113 : decode cX6_best 113 = .ok (.ireturn, 1) := by decide +kernel
set_option maxRecDepth 20000 in
theorem ggX6_off_X6_isBall : GoodIn wsX6_off wsX6_isBall := goodIn_r _ [6, 7, 8, 9, 5, 10, 60, 61, 62, 63, 64, 65, 66, 67, 68, 69, 70, 71, 72, 73, 74, 75, 76, 77, 78, 79, 80, 81, 82, 83, 84, 85, 86, 87, 88, 89, 90] (by decide +kernel) (by decide +kernel)
set_option maxRecDepth 20000 in
theorem gX6_off_X6_isBall : GoodIn wsX6_off (wsV RX6 119 RX6 yX6_isBall wsX6_isBall) := goodIn_app (goodIn_of _ (by decide +kernel)) ggX6_off_X6_isBall
set_option maxRecDepth 20000 in
theorem ggX6_off_X6_no : GoodIn wsX6_off wsX6_no := goodIn_r _ [14, 15, 60, 61, 62, 63, 64, 65, 66, 67, 68, 69, 70, 71, 72, 73, 74, 75, 76, 77, 78, 79, 80, 81, 82, 83, 84, 85, 86, 87, 88, 89, 90] (by decide +kernel) (by decide +kernel)
set_option maxRecDepth 20000 in
theorem gX6_off_X6_no : GoodIn wsX6_off (wsV RX6 58 RX6 yX6_no wsX6_no) := goodIn_app (goodIn_of _ (by decide +kernel)) ggX6_off_X6_no
set_option maxRecDepth 20000 in
theorem ggX6_off_X6_within : GoodIn wsX6_off wsX6_within := goodIn_r _ [10] (by decide +kernel) (by decide +kernel)
set_option maxRecDepth 20000 in
theorem gX6_off_X6_within : GoodIn wsX6_off (va_wsS RX6 65 yX6_within wsX6_within) := goodIn_app (goodIn_of _ (by decide +kernel)) ggX6_off_X6_within
set_option maxRecDepth 20000 in
theorem ggX6_off_X6_isIn : GoodIn wsX6_off wsX6_isIn := goodIn_r _ [19, 20, 21, 22, 23, 5, 24, 25, 26, 27, 28, 1, 29, 30, 31, 32, 33, 34, 35, 36, 37, 38, 39, 40, 41, 42, 43, 44, 45, 46, 47, 48, 49, 50, 8, 9, 10, 51, 52, 53, 54, 55, 56, 57, 58, 59, 60, 61, 62, 63, 64, 65, 66, 67, 68, 69, 70, 71, 72, 73, 74, 75, 76, 77, 78, 79, 80, 81, 82, 83, 84, 85, 86, 87, 88, 89, 90] (by decide +kernel) (by decide +kernel)
set_option maxRecDepth 20000 in
theorem gX6_off_X6_isIn : GoodIn wsX6_off (wsV RX6 169 RX6 yX6_isIn wsX6_isIn) := goodIn_app (goodIn_of _ (by decide +kernel)) ggX6_off_X6_isIn
theorem dX6_off_0 : decode cX6_off 0 = .ok (.aload_n 0, 1) := by decide +kernel
theorem dX6_off_1 : decode cX6_off 1 = .ok (.iload_n 1, 1) := by decide +kernel
theorem dX6_off_2 : decode cX6_off 2 = .ok (.invokevirtual 119, 3) := by decide +kernel
theorem dX6_off_5 : decode cX6_off 5 = .ok (.ifCond .ne 9, 3) := by decide +kernel
theorem dX6_off_8 : decode cX6_off 8 = .ok (.aload_n 0, 1) := by decide +kernel
theorem dX6_off_9 : decode cX6_off 9 = .ok (.iconst (-1), 1) := by decide +kernel
theorem dX6_off_10 : decode cX6_off 10 = .ok (.invokevirtual 58, 3) := by decide +kernel
theorem dX6_off_13 : decode cX6_off 13 = .ok (.ireturn, 1) := by decide +kernel
theorem dX6_off_14 : decode cX6_off 14 = .ok (.iload_n 2, 1) := by decide +kernel
theorem dX6_off_15 : decode cX6_off 15 = .ok (.iconst 0, 1) := by decide +kernel
theorem dX6_off_16 : decode cX6_off 16 = .ok (.iconst 1, 1) := by decide +kernel
