theorem dX6_init_0 : decode cX6_init 0 = .ok (.aload_n 0, 1) := by decide +kernel
theorem dX6_init_1 : decode cX6_init 1 = .ok (.invokespecial 1, 3) := by decide +kernel
theorem dX6_init_4 : decode cX6_init 4 = .ok (.aload_n 0, 1) := by decide +kernel
theorem dX6_init_5 : decode cX6_init 5 = .ok (.iconst 5, 1) := by decide +kernel
theorem dX6_init_6 : decode cX6_init 6 = .ok (.newarray .int, 2) := by decide +kernel
theorem dX6_init_8 : decode cX6_init 8 = .ok (.putfield 7, 3) := by decide +kernel
theorem dX6_init_11 : decode cX6_init 11 = .ok (.aload_n 0, 1) := by decide +kernel
theorem dX6_init_12 : decode cX6_init 12 = .ok (.iconst 5, 1) := by decide +kernel
theorem dX6_init_13 : decode cX6_init 13 = .ok (.newarray .int, 2) := by decide +kernel
theorem dX6_init_15 : decode cX6_init 15 = .ok (.putfield 13, 3) := by decide +kernel
theorem dX6_init_18 : decode cX6_init 18 = .ok (.aload_n 0, 1) := by decide +kernel
theorem dX6_init_19 : decode cX6_init 19 = .ok (.iconst 5, 1) := by decide +kernel
theorem dX6_init_20 : decode cX6_init 20 = .ok (.newarray .int, 2) := by decide +kernel
theorem dX6_init_22 : decode cX6_init 22 = .ok (.putfield 16, 3) := by decide +kernel
theorem dX6_init_25 : decode cX6_init 25 = .ok (.aload_n 0, 1) := by decide +kernel
theorem dX6_init_26 : decode cX6_init 26 = .ok (.bipush 80, 2) := by decide +kernel
theorem dX6_init_28 : decode cX6_init 28 = .ok (.newarray .int, 2) := by decide +kernel
theorem dX6_init_30 : decode cX6_init 30 = .ok (.putfield 19, 3) := by decide +kernel
theorem dX6_init_33 : decode cX6_init 33 = .ok (.aload_n 0, 1) := by decide +kernel
theorem dX6_init_34 : decode cX6_init 34 = .ok (.bipush 12, 2) := by decide +kernel
theorem dX6_init_36 : decode cX6_init 36 = .ok (.newarray .int, 2) := by decide +kernel
theorem dX6_init_38 : decode cX6_init 38 = .ok (.putfield 22, 3) := by decide +kernel
theorem dX6_init_41 : decode cX6_init 41 = .ok (.aload_n 0, 1) := by decide +kernel
theorem dX6_init_42 : decode cX6_init 42 = .ok (.bipush 7, 2) := by decide +kernel
theorem dX6_init_44 : decode cX6_init 44 = .ok (.newarray .int, 2) := by decide +kernel
theorem dX6_init_46 : decode cX6_init 46 = .ok (.putfield 25, 3) := by decide +kernel
theorem dX6_init_49 : decode cX6_init 49 = .ok (.aload_n 0, 1) := by decide +kernel
theorem dX6_init_50 : decode cX6_init 50 = .ok (.bipush 28, 2) := by decide +kernel
theorem dX6_init_52 : decode cX6_init 52 = .ok (.newarray .int, 2) := by decide +kernel
theorem dX6_init_54 : decode cX6_init 54 = .ok (.putfield 28, 3) := by decide +kernel
theorem dX6_init_57 : decode cX6_init 57 = .ok (.aload_n 0, 1) := by decide +kernel
theorem dX6_init_58 : decode cX6_init 58 = .ok (.bipush 28, 2) := by decide +kernel
theorem dX6_init_60 : decode cX6_init 60 = .ok (.newarray .int, 2) := by decide +kernel
theorem dX6_init_62 : decode cX6_init 62 = .ok (.putfield 31, 3) := by decide +kernel
theorem dX6_init_65 : decode cX6_init 65 = .ok (.aload_n 0, 1) := by decide +kernel
theorem dX6_init_66 : decode cX6_init 66 = .ok (.iconst 5, 1) := by decide +kernel
theorem dX6_init_67 : decode cX6_init 67 = .ok (.putfield 34, 3) := by decide +kernel
theorem dX6_init_70 : decode cX6_init 70 = .ok (.aload_n 0, 1) := by decide +kernel
theorem dX6_init_71 : decode cX6_init 71 = .ok (.bipush 12, 2) := by decide +kernel
theorem dX6_init_73 : decode cX6_init 73 = .ok (.putfield 38, 3) := by decide +kernel
theorem dX6_init_76 : decode cX6_init 76 = .ok (.aload_n 0, 1) := by decide +kernel
theorem dX6_init_77 : decode cX6_init 77 = .ok (.iconst 2, 1) := by decide +kernel
theorem dX6_init_78 : decode cX6_init 78 = .ok (.putfield 41, 3) := by decide +kernel
theorem dX6_init_81 : decode cX6_init 81 = .ok (.aload_n 0, 1) := by decide +kernel
theorem dX6_init_82 : decode cX6_init 82 = .ok (.iconst 3, 1) := by decide +kernel
theorem dX6_init_83 : decode cX6_init 83 = .ok (.putfield 44, 3) := by decide +kernel
theorem dX6_init_86 : decode cX6_init 86 = .ok (.aload_n 0, 1) := by decide +kernel
theorem dX6_init_87 : decode cX6_init 87 = .ok (.bipush 40, 2) := by decide +kernel
theorem dX6_init_89 : decode cX6_init 89 = .ok (.putfield 47, 3) := by decide +kernel
theorem dX6_init_92 : decode cX6_init 92 = .ok (.aload_n 0, 1) := by decide +kernel
theorem dX6_init_93 : decode cX6_init 93 = .ok (.bipush 40, 2) := by decide +kernel
theorem dX6_init_95 : decode cX6_init 95 = .ok (.putfield 50, 3) := by decide +kernel
theorem dX6_init_98 : decode cX6_init 98 = .ok (.aload_n 0, 1) := by decide +kernel
theorem dX6_init_99 : decode cX6_init 99 = .ok (.iconst 3, 1) := by decide +kernel
theorem dX6_init_100 : decode cX6_init 100 = .ok (.putfield 53, 3) := by decide +kernel
theorem dX6_init_103 : decode cX6_init 103 = .ok (.return_, 1) := by decide +kernel
theorem dX6_no_0 : decode cX6_no 0 = .ok (.aload_n 0, 1) := by decide +kernel
theorem dX6_no_1 : decode cX6_no 1 = .ok (.getfield 25, 3) := by decide +kernel
theorem dX6_no_4 : decode cX6_no 4 = .ok (.iload_n 1, 1) := by decide +kernel
theorem dX6_no_5 : decode cX6_no 5 = .ok (.ineg, 1) := by decide +kernel
theorem dX6_no_6 : decode cX6_no 6 = .ok (.dup2, 1) := by decide +kernel
theorem dX6_no_7 : decode cX6_no 7 = .ok (.iaload, 1) := by decide +kernel
theorem dX6_no_8 : decode cX6_no 8 = .ok (.iconst 1, 1) := by decide +kernel
theorem dX6_no_9 : decode cX6_no 9 = .ok (.iadd, 1) := by decide +kernel
theorem dX6_no_10 : decode cX6_no 10 = .ok (.iastore, 1) := by decide +kernel
theorem dX6_no_11 : decode cX6_no 11 = .ok (.iload_n 1, 1) := by decide +kernel
theorem dX6_no_12 : decode cX6_no 12 = .ok (.ireturn, 1) := by decide +kernel
set_option maxRecDepth 20000 in
theorem ggX6_noLong_X6_no : GoodIn wsX6_noLong wsX6_no := goodIn_r _ [6, 7, 8, 9, 10, 11, 12, 13, 14, 15, 16, 17, 18, 19, 20, 21, 22, 23, 24, 25, 26, 27, 28, 29, 30, 31, 32, 33, 34, 35, 36, 37, 38] (by decide +kernel) (by decide +kernel)
set_option maxRecDepth 20000 in
theorem gX6_noLong_X6_no : GoodIn wsX6_noLong (wsV RX6 58 RX6 yX6_no wsX6_no) := goodIn_app (goodIn_of _ (by decide +kernel)) ggX6_noLong_X6_no
theorem dX6_noLong_0 : decode cX6_noLong 0 = .ok (.ldc2_w 56, 3) := by decide +kernel
theorem dX6_noLong_3 : decode cX6_noLong 3 = .ok (.aload_n 0, 1) := by decide +kernel
theorem dX6_noLong_4 : decode cX6_noLong 4 = .ok (.iload_n 1, 1) := by decide +kernel
theorem dX6_noLong_5 : decode cX6_noLong 5 = .ok (.invokevirtual 58, 3) := by decide +kernel
theorem dX6_noLong_8 : decode cX6_noLong 8 = .ok (.i2l, 1) := by decide +kernel
theorem dX6_noLong_9 : decode cX6_noLong 9 = .ok (.lsub, 1) := by decide +kernel
theorem dX6_noLong_10 : decode cX6_noLong 10 = .ok (.lreturn, 1) := by decide +kernel
theorem dX6_within_0 : decode cX6_within 0 = .ok (.iload_n 0, 1) := by decide +kernel
theorem dX6_within_1 : decode cX6_within 1 = .ok (.iload_n 1, 1) := by decide +kernel
theorem dX6_within_2 : decode cX6_within 2 = .ok (.if_icmp .lt 12, 3) := by decide +kernel
theorem dX6_within_5 : decode cX6_within 5 = .ok (.iload_n 0, 1) := by decide +kernel
theorem dX6_within_6 : decode cX6_within 6 = .ok (.iload_n 2, 1) := by decide +kernel
theorem dX6_within_7 : decode cX6_within 7 = .ok (.if_icmp .gt 7, 3) := by decide +kernel
theorem dX6_within_10 : decode cX6_within 10 = .ok (.iconst 1, 1) := by decide +kernel
theorem dX6_within_11 : decode cX6_within 11 = .ok (.goto 4, 3) := by decide +kernel
theorem dX6_within_14 : decode cX6_within 14 = .ok (.iconst 0, 1) := by decide +kernel
theorem dX6_within_15 : decode cX6_within 15 = .ok (.ireturn, 1) := by decide +kernel
set_option maxRecDepth 20000 in
theorem ggX6_isBall_X6_within : GoodIn wsX6_isBall wsX6_within := goodIn_r _ [5] (by decide +kernel) (by decide +kernel)
set_option maxRecDepth 20000 in
theorem gX6_isBall_X6_within : GoodIn wsX6_isBall (va_wsS RX6 65 yX6_within wsX6_within) := goodIn_app (goodIn_of _ (by decide +kernel)) ggX6_isBall_X6_within
theorem dX6_isBall_0 : decode cX6_isBall 0 = .ok (.iload_n 1, 1) := by decide +kernel
theorem dX6_isBall_1 : decode cX6_isBall 1 = .ok (.iconst 0, 1) := by decide +kernel
theorem dX6_isBall_2 : decode cX6_isBall 2 = .ok (.aload_n 0, 1) := by decide +kernel
theorem dX6_isBall_3 : decode cX6_isBall 3 = .ok (.getfield 62, 3) := by decide +kernel
theorem dX6_isBall_6 : decode cX6_isBall 6 = .ok (.iconst 1, 1) := by decide +kernel
theorem dX6_isBall_7 : decode cX6_isBall 7 = .ok (.isub, 1) := by decide +kernel
theorem dX6_isBall_8 : decode cX6_isBall 8 = .ok (.invokestatic 65, 3) := by decide +kernel
theorem dX6_isBall_11 : decode cX6_isBall 11 = .ok (.ireturn, 1) := by decide +kernel
set_option maxRecDepth 20000 in
theorem ggX6_letter_X6_no : GoodIn wsX6_letter wsX6_no := goodIn_r _ [7, 8, 9, 10, 11, 12, 13, 14, 15, 16, 17, 18, 19, 20, 21, 22, 23, 24, 25, 26, 27, 28, 29, 30, 31, 32, 33, 34, 35, 36, 37, 38, 39] (by decide +kernel) (by decide +kernel)
set_option maxRecDepth 20000 in
theorem gX6_letter_X6_no : GoodIn wsX6_letter (wsV RX6 58 RX6 yX6_no wsX6_no) := goodIn_app (goodIn_of _ (by decide +kernel)) ggX6_letter_X6_no
theorem dX6_letter_0 : decode cX6_letter 0 = .ok (.iload_n 1, 1) := by decide +kernel
theorem dX6_letter_1 : decode cX6_letter 1 = .ok (.ifCond .ge 10, 3) := by decide +kernel
theorem dX6_letter_4 : decode cX6_letter 4 = .ok (.aload_n 0, 1) := by decide +kernel
theorem dX6_letter_5 : decode cX6_letter 5 = .ok (.bipush (-4), 2) := by decide +kernel
theorem dX6_letter_7 : decode cX6_letter 7 = .ok (.invokevirtual 58, 3) := by decide +kernel
theorem dX6_letter_10 : decode cX6_letter 10 = .ok (.ireturn, 1) := by decide +kernel
theorem dX6_letter_11 : decode cX6_letter 11 = .ok (.iload_n 1, 1) := by decide +kernel
theorem dX6_letter_12 : decode cX6_letter 12 = .ok (.sipush 255, 3) := by decide +kernel
theorem dX6_letter_15 : decode cX6_letter 15 = .ok (.if_icmp .gt 12, 3) := by decide +kernel
theorem dX6_letter_18 : decode cX6_letter 18 = .ok (.aload_n 0, 1) := by decide +kernel
theorem dX6_letter_19 : decode cX6_letter 19 = .ok (.getfield 69, 3) := by decide +kernel
theorem dX6_letter_22 : decode cX6_letter 22 = .ok (.bipush 80, 2) := by decide +kernel
theorem dX6_letter_24 : decode cX6_letter 24 = .ok (.if_icmp .ne 10, 3) := by decide +kernel
theorem dX6_letter_27 : decode cX6_letter 27 = .ok (.aload_n 0, 1) := by decide +kernel
theorem dX6_letter_28 : decode cX6_letter 28 = .ok (.bipush (-6), 2) := by decide +kernel
theorem dX6_letter_30 : decode cX6_letter 30 = .ok (.invokevirtual 58, 3) := by decide +kernel
theorem dX6_letter_33 : decode cX6_letter 33 = .ok (.ireturn, 1) := by decide +kernel
theorem dX6_letter_34 : decode cX6_letter 34 = .ok (.aload_n 0, 1) := by decide +kernel
theorem dX6_letter_35 : decode cX6_letter 35 = .ok (.getfield 19, 3) := by decide +kernel
theorem dX6_letter_38 : decode cX6_letter 38 = .ok (.aload_n 0, 1) := by decide +kernel
theorem dX6_letter_39 : decode cX6_letter 39 = .ok (.dup, 1) := by decide +kernel
theorem dX6_letter_40 : decode cX6_letter 40 = .ok (.getfield 69, 3) := by decide +kernel
theorem dX6_letter_43 : decode cX6_letter 43 = .ok (.dup_x1, 1) := by decide +kernel
theorem dX6_letter_44 : decode cX6_letter 44 = .ok (.iconst 1, 1) := by decide +kernel
theorem dX6_letter_45 : decode cX6_letter 45 = .ok (.iadd, 1) := by decide +kernel
theorem dX6_letter_46 : decode cX6_letter 46 = .ok (.putfield 69, 3) := by decide +kernel
theorem dX6_letter_49 : decode cX6_letter 49 = .ok (.iload_n 1, 1) := by decide +kernel
theorem dX6_letter_50 : decode cX6_letter 50 = .ok (.iastore, 1) := by decide +kernel
theorem dX6_letter_51 : decode cX6_letter 51 = .ok (.aload_n 0, 1) := by decide +kernel
theorem dX6_letter_52 : decode cX6_letter 52 = .ok (.getfield 69, 3) := by decide +kernel
theorem dX6_letter_55 : decode cX6_letter 55 = .ok (.ireturn, 1) := by decide +kernel
theorem dX6_is_0 : decode cX6_is 0 = .ok (.aload_n 0, 1) := by decide +kernel
theorem dX6_is_1 : decode cX6_is 1 = .ok (.getfield 72, 3) := by decide +kernel
theorem dX6_is_4 : decode cX6_is 4 = .ok (.aload_n 0, 1) := by decide +kernel
theorem dX6_is_5 : decode cX6_is 5 = .ok (.getfield 69, 3) := by decide +kernel
theorem dX6_is_8 : decode cX6_is 8 = .ok (.if_icmp .eq 16, 3) := by decide +kernel
theorem dX6_is_11 : decode cX6_is 11 = .ok (.aload_n 0, 1) := by decide +kernel
theorem dX6_is_12 : decode cX6_is 12 = .ok (.getfield 19, 3) := by decide +kernel
theorem dX6_is_15 : decode cX6_is 15 = .ok (.aload_n 0, 1) := by decide +kernel
theorem dX6_is_16 : decode cX6_is 16 = .ok (.getfield 72, 3) := by decide +kernel
theorem dX6_is_19 : decode cX6_is 19 = .ok (.iaload, 1) := by decide +kernel
theorem dX6_is_20 : decode cX6_is 20 = .ok (.iload_n 1, 1) := by decide +kernel
theorem dX6_is_21 : decode cX6_is 21 = .ok (.if_icmp .eq 5, 3) := by decide +kernel
theorem dX6_is_24 : decode cX6_is 24 = .ok (.iconst 0, 1) := by decide +kernel
theorem dX6_is_25 : decode cX6_is 25 = .ok (.ireturn, 1) := by decide +kernel
theorem dX6_is_26 : decode cX6_is 26 = .ok (.aload_n 0, 1) := by decide +kernel
theorem dX6_is_27 : decode cX6_is 27 = .ok (.dup, 1) := by decide +kernel
theorem dX6_is_28 : decode cX6_is 28 = .ok (.getfield 72, 3) := by decide +kernel
theorem dX6_is_31 : decode cX6_is 31 = .ok (.iconst 1, 1) := by decide +kernel
theorem dX6_is_32 : decode cX6_is 32 = .ok (.iadd, 1) := by decide +kernel
theorem dX6_is_33 : decode cX6_is 33 = .ok (.putfield 72, 3) := by decide +kernel
theorem dX6_is_36 : decode cX6_is 36 = .ok (.iconst 1, 1) := by decide +kernel
theorem dX6_is_37 : decode cX6_is 37 = .ok (.ireturn, 1) := by decide +kernel
theorem dX6_isDigit_0 : decode cX6_isDigit 0 = .ok (.aload_n 0, 1) := by decide +kernel
theorem dX6_isDigit_1 : decode cX6_isDigit 1 = .ok (.getfield 72, 3) := by decide +kernel
theorem dX6_isDigit_4 : decode cX6_isDigit 4 = .ok (.aload_n 0, 1) := by decide +kernel
theorem dX6_isDigit_5 : decode cX6_isDigit 5 = .ok (.getfield 69, 3) := by decide +kernel
theorem dX6_isDigit_8 : decode cX6_isDigit 8 = .ok (.if_icmp .ge 35, 3) := by decide +kernel
theorem dX6_isDigit_11 : decode cX6_isDigit 11 = .ok (.aload_n 0, 1) := by decide +kernel
theorem dX6_isDigit_12 : decode cX6_isDigit 12 = .ok (.getfield 19, 3) := by decide +kernel
theorem dX6_isDigit_15 : decode cX6_isDigit 15 = .ok (.aload_n 0, 1) := by decide +kernel
theorem dX6_isDigit_16 : decode cX6_isDigit 16 = .ok (.getfield 72, 3) := by decide +kernel
theorem dX6_isDigit_19 : decode cX6_isDigit 19 = .ok (.iaload, 1) := by decide +kernel
theorem dX6_isDigit_20 : decode cX6_isDigit 20 = .ok (.bipush 48, 2) := by decide +kernel
theorem dX6_isDigit_22 : decode cX6_isDigit 22 = .ok (.if_icmp .lt 21, 3) := by decide +kernel
theorem dX6_isDigit_25 : decode cX6_isDigit 25 = .ok (.aload_n 0, 1) := by decide +kernel
theorem dX6_isDigit_26 : decode cX6_isDigit 26 = .ok (.getfield 19, 3) := by decide +kernel
theorem dX6_isDigit_29 : decode cX6_isDigit 29 = .ok (.aload_n 0, 1) := by decide +kernel
theorem dX6_isDigit_30 : decode cX6_isDigit 30 = .ok (.getfield 72, 3) := by decide +kernel
theorem dX6_isDigit_33 : decode cX6_isDigit 33 = .ok (.iaload, 1) := by decide +kernel
theorem dX6_isDigit_34 : decode cX6_isDigit 34 = .ok (.bipush 57, 2) := by decide +kernel
theorem dX6_isDigit_36 : decode cX6_isDigit 36 = .ok (.if_icmp .gt 7, 3) := by decide +kernel
theorem dX6_isDigit_39 : decode cX6_isDigit 39 = .ok (.iconst 1, 1) := by decide +kernel
theorem dX6_isDigit_40 : decode cX6_isDigit 40 = .ok (.goto 4, 3) := by decide +kernel
theorem dX6_isDigit_43 : decode cX6_isDigit 43 = .ok (.iconst 0, 1) := by decide +kernel
theorem dX6_isDigit_44 : decode cX6_isDigit 44 = .ok (.ireturn, 1) := by decide +kernel
set_option maxRecDepth 20000 in
theorem ggX6_number_X6_isDigit : GoodIn wsX6_number wsX6_isDigit := goodIn_r _ [8, 3, 9, 2, 10, 11, 12, 13, 14, 15, 16, 17, 18, 19, 20, 21, 22, 23, 24, 25, 26, 27, 28, 29, 30, 31, 32, 33, 34, 35, 36, 37, 38, 39, 40] (by decide +kernel) (by decide +kernel)
set_option maxRecDepth 20000 in
theorem gX6_number_X6_isDigit : GoodIn wsX6_number (wsV RX6 75 RX6 yX6_isDigit wsX6_isDigit) := goodIn_app (goodIn_of _ (by decide +kernel)) ggX6_number_X6_isDigit
theorem dX6_number_0 : decode cX6_number 0 = .ok (.aload_n 0, 1) := by decide +kernel
theorem dX6_number_1 : decode cX6_number 1 = .ok (.invokevirtual 75, 3) := by decide +kernel
theorem dX6_number_4 : decode cX6_number 4 = .ok (.ifCond .ne 5, 3) := by decide +kernel
theorem dX6_number_7 : decode cX6_number 7 = .ok (.iconst 0, 1) := by decide +kernel
theorem dX6_number_8 : decode cX6_number 8 = .ok (.ireturn, 1) := by decide +kernel
theorem dX6_number_9 : decode cX6_number 9 = .ok (.aload_n 0, 1) := by decide +kernel
theorem dX6_number_10 : decode cX6_number 10 = .ok (.iconst 0, 1) := by decide +kernel
theorem dX6_number_11 : decode cX6_number 11 = .ok (.putfield 79, 3) := by decide +kernel
theorem dX6_number_14 : decode cX6_number 14 = .ok (.iconst 0, 1) := by decide +kernel
theorem dX6_number_15 : decode cX6_number 15 = .ok (.istore_n 2, 1) := by decide +kernel
theorem dX6_number_16 : decode cX6_number 16 = .ok (.iload_n 2, 1) := by decide +kernel
theorem dX6_number_17 : decode cX6_number 17 = .ok (.iload_n 1, 1) := by decide +kernel
theorem dX6_number_18 : decode cX6_number 18 = .ok (.if_icmp .ge 47, 3) := by decide +kernel
theorem dX6_number_21 : decode cX6_number 21 = .ok (.aload_n 0, 1) := by decide +kernel
theorem dX6_number_22 : decode cX6_number 22 = .ok (.invokevirtual 75, 3) := by decide +kernel
theorem dX6_number_25 : decode cX6_number 25 = .ok (.ifCond .eq 40, 3) := by decide +kernel
theorem dX6_number_28 : decode cX6_number 28 = .ok (.aload_n 0, 1) := by decide +kernel
theorem dX6_number_29 : decode cX6_number 29 = .ok (.bipush 10, 2) := by decide +kernel
theorem dX6_number_31 : decode cX6_number 31 = .ok (.aload_n 0, 1) := by decide +kernel
theorem dX6_number_32 : decode cX6_number 32 = .ok (.getfield 79, 3) := by decide +kernel
theorem dX6_number_35 : decode cX6_number 35 = .ok (.imul, 1) := by decide +kernel
theorem dX6_number_36 : decode cX6_number 36 = .ok (.aload_n 0, 1) := by decide +kernel
theorem dX6_number_37 : decode cX6_number 37 = .ok (.getfield 19, 3) := by decide +kernel
theorem dX6_number_40 : decode cX6_number 40 = .ok (.aload_n 0, 1) := by decide +kernel
theorem dX6_number_41 : decode cX6_number 41 = .ok (.dup, 1) := by decide +kernel
theorem dX6_number_42 : decode cX6_number 42 = .ok (.getfield 72, 3) := by decide +kernel
theorem dX6_number_45 : decode cX6_number 45 = .ok (.dup_x1, 1) := by decide +kernel
theorem dX6_number_46 : decode cX6_number 46 = .ok (.iconst 1, 1) := by decide +kernel
theorem dX6_number_47 : decode cX6_number 47 = .ok (.iadd, 1) := by decide +kernel
theorem dX6_number_48 : decode cX6_number 48 = .ok (.putfield 72, 3) := by decide +kernel
theorem dX6_number_51 : decode cX6_number 51 = .ok (.iaload, 1) := by decide +kernel
theorem dX6_number_52 : decode cX6_number 52 = .ok (.iadd, 1) := by decide +kernel
theorem dX6_number_53 : decode cX6_number 53 = .ok (.bipush 48, 2) := by decide +kernel
theorem dX6_number_55 : decode cX6_number 55 = .ok (.isub, 1) := by decide +kernel
theorem dX6_number_56 : decode cX6_number 56 = .ok (.putfield 79, 3) := by decide +kernel
theorem dX6_number_59 : decode cX6_number 59 = .ok (.iinc 2 1, 3) := by decide +kernel
theorem dX6_number_62 : decode cX6_number 62 = .ok (.goto (-46), 3) := by decide +kernel
theorem dX6_number_65 : decode cX6_number 65 = .ok (.iconst 1, 1) := by decide +kernel
theorem dX6_number_66 : decode cX6_number 66 = .ok (.ireturn, 1) := by decide +kernel
set_option maxRecDepth 20000 in
theorem ggX6_statement_X6_is : GoodIn wsX6_statement wsX6_is := goodIn_r _ [22, 11, 12, 13, 123, 124, 125, 126, 127, 128, 129, 130, 131, 132, 133, 134, 135, 136, 137, 138, 139, 140, 141, 142, 143, 144, 145, 146, 147, 148, 149, 150, 151, 152, 153] (by decide +kernel) (by decide +kernel)
set_option maxRecDepth 20000 in
theorem gX6_statement_X6_is : GoodIn wsX6_statement (wsV RX6 82 RX6 yX6_is wsX6_is) := goodIn_app (goodIn_of _ (by decide +kernel)) ggX6_statement_X6_is
set_option maxRecDepth 20000 in
theorem ggX6_statement_X6_number : GoodIn wsX6_statement wsX6_number := goodIn_r _ [26, 1, 13, 11, 27, 28, 29, 21, 30, 12, 123, 124, 125, 126, 127, 128, 129, 130, 131, 132, 133, 134, 135, 136, 137, 138, 139, 140, 141, 142, 143, 144, 145, 146, 147, 148, 149, 150, 151, 152, 153] (by decide +kernel) (by decide +kernel)
set_option maxRecDepth 20000 in
theorem gX6_statement_X6_number : GoodIn wsX6_statement (wsV RX6 86 RX6 yX6_number wsX6_number) := goodIn_app (goodIn_of _ (by decide +kernel)) ggX6_statement_X6_number
set_option maxRecDepth 20000 in
theorem ggX6_statement_X6_within : GoodIn wsX6_statement wsX6_within := goodIn_r _ [33] (by decide +kernel) (by decide +kernel)
set_option maxRecDepth 20000 in
theorem gX6_statement_X6_within : GoodIn wsX6_statement (va_wsS RX6 65 yX6_within wsX6_within) := goodIn_app (goodIn_of _ (by decide +kernel)) ggX6_statement_X6_within
set_option maxRecDepth 20000 in
theorem ggX6_statement_J0_indexOf_0f7a4 : GoodIn wsX6_statement wsJ0_indexOf_0f7a4 := goodIn_r _ [38, 39, 40, 41, 37, 42, 43, 44, 45, 46, 47, 48, 49, 50, 51, 52, 53, 54, 55, 56, 57, 58, 59, 60, 61, 62, 63, 64, 65, 66, 67, 68, 69, 70, 71, 72, 73, 74, 75, 76, 77, 78, 79, 80, 81, 82, 83, 84, 85, 86, 87, 88, 89, 90, 91, 92, 93, 94, 95, 96, 97, 98, 99, 100, 101, 102, 103, 104, 105, 106, 107, 108, 109, 110, 111, 112, 113, 114, 115, 116, 117, 118, 119, 120, 121, 122] (by decide +kernel) (by decide +kernel)
set_option maxRecDepth 20000 in
theorem gX6_statement_J0_indexOf_0f7a4 : GoodIn wsX6_statement (wsV RX6 97 RJ0 yJ0_indexOf_0f7a4 wsJ0_indexOf_0f7a4) := goodIn_app (goodIn_of _ (by decide +kernel)) ggX6_statement_J0_indexOf_0f7a4
theorem dX6_statement_0 : decode cX6_statement 0 = .ok (.aload_n 0, 1) := by decide +kernel
theorem dX6_statement_1 : decode cX6_statement 1 = .ok (.bipush 98, 2) := by decide +kernel
theorem dX6_statement_3 : decode cX6_statement 3 = .ok (.invokevirtual 82, 3) := by decide +kernel
theorem dX6_statement_6 : decode cX6_statement 6 = .ok (.ifCond .eq 116, 3) := by decide +kernel
theorem dX6_statement_9 : decode cX6_statement 9 = .ok (.aload_n 0, 1) := by decide +kernel
theorem dX6_statement_10 : decode cX6_statement 10 = .ok (.iconst 2, 1) := by decide +kernel
theorem dX6_statement_11 : decode cX6_statement 11 = .ok (.invokevirtual 86, 3) := by decide +kernel
theorem dX6_statement_14 : decode cX6_statement 14 = .ok (.ifCond .ne 5, 3) := by decide +kernel
theorem dX6_statement_17 : decode cX6_statement 17 = .ok (.iconst (-1), 1) := by decide +kernel
theorem dX6_statement_18 : decode cX6_statement 18 = .ok (.ireturn, 1) := by decide +kernel
theorem dX6_statement_19 : decode cX6_statement 19 = .ok (.aload_n 0, 1) := by decide +kernel
theorem dX6_statement_20 : decode cX6_statement 20 = .ok (.getfield 79, 3) := by decide +kernel
theorem dX6_statement_23 : decode cX6_statement 23 = .ok (.istore_n 2, 1) := by decide +kernel
theorem dX6_statement_24 : decode cX6_statement 24 = .ok (.aload_n 0, 1) := by decide +kernel
theorem dX6_statement_25 : decode cX6_statement 25 = .ok (.bipush 44, 2) := by decide +kernel
theorem dX6_statement_27 : decode cX6_statement 27 = .ok (.invokevirtual 82, 3) := by decide +kernel
theorem dX6_statement_30 : decode cX6_statement 30 = .ok (.ifCond .eq 11, 3) := by decide +kernel
theorem dX6_statement_33 : decode cX6_statement 33 = .ok (.aload_n 0, 1) := by decide +kernel
theorem dX6_statement_34 : decode cX6_statement 34 = .ok (.iconst 1, 1) := by decide +kernel
theorem dX6_statement_35 : decode cX6_statement 35 = .ok (.invokevirtual 86, 3) := by decide +kernel
theorem dX6_statement_38 : decode cX6_statement 38 = .ok (.ifCond .ne 5, 3) := by decide +kernel
theorem dX6_statement_41 : decode cX6_statement 41 = .ok (.iconst (-1), 1) := by decide +kernel
theorem dX6_statement_42 : decode cX6_statement 42 = .ok (.ireturn, 1) := by decide +kernel
theorem dX6_statement_43 : decode cX6_statement 43 = .ok (.aload_n 0, 1) := by decide +kernel
theorem dX6_statement_44 : decode cX6_statement 44 = .ok (.getfield 79, 3) := by decide +kernel
theorem dX6_statement_47 : decode cX6_statement 47 = .ok (.istore_n 3, 1) := by decide +kernel
theorem dX6_statement_48 : decode cX6_statement 48 = .ok (.aload_n 0, 1) := by decide +kernel
theorem dX6_statement_49 : decode cX6_statement 49 = .ok (.iconst 1, 1) := by decide +kernel
theorem dX6_statement_50 : decode cX6_statement 50 = .ok (.invokevirtual 86, 3) := by decide +kernel
theorem dX6_statement_53 : decode cX6_statement 53 = .ok (.ifCond .ne 5, 3) := by decide +kernel
theorem dX6_statement_56 : decode cX6_statement 56 = .ok (.iconst (-1), 1) := by decide +kernel
theorem dX6_statement_57 : decode cX6_statement 57 = .ok (.ireturn, 1) := by decide +kernel
theorem dX6_statement_58 : decode cX6_statement 58 = .ok (.iload_n 1, 1) := by decide +kernel
theorem dX6_statement_59 : decode cX6_statement 59 = .ok (.ifCond .ne 5, 3) := by decide +kernel
theorem dX6_statement_62 : decode cX6_statement 62 = .ok (.iconst 1, 1) := by decide +kernel
theorem dX6_statement_63 : decode cX6_statement 63 = .ok (.ireturn, 1) := by decide +kernel
theorem dX6_statement_64 : decode cX6_statement 64 = .ok (.iload_n 2, 1) := by decide +kernel
theorem dX6_statement_65 : decode cX6_statement 65 = .ok (.iconst 1, 1) := by decide +kernel
theorem dX6_statement_66 : decode cX6_statement 66 = .ok (.bipush 40, 2) := by decide +kernel
theorem dX6_statement_68 : decode cX6_statement 68 = .ok (.invokestatic 65, 3) := by decide +kernel
theorem dX6_statement_71 : decode cX6_statement 71 = .ok (.ifCond .eq 29, 3) := by decide +kernel
theorem dX6_statement_74 : decode cX6_statement 74 = .ok (.iload_n 3, 1) := by decide +kernel
theorem dX6_statement_75 : decode cX6_statement 75 = .ok (.iconst 1, 1) := by decide +kernel
theorem dX6_statement_76 : decode cX6_statement 76 = .ok (.iconst 5, 1) := by decide +kernel
theorem dX6_statement_77 : decode cX6_statement 77 = .ok (.invokestatic 65, 3) := by decide +kernel
theorem dX6_statement_80 : decode cX6_statement 80 = .ok (.ifCond .eq 20, 3) := by decide +kernel
theorem dX6_statement_83 : decode cX6_statement 83 = .ok (.aload_n 0, 1) := by decide +kernel
theorem dX6_statement_84 : decode cX6_statement 84 = .ok (.getfield 79, 3) := by decide +kernel
theorem dX6_statement_87 : decode cX6_statement 87 = .ok (.ifCond .eq 13, 3) := by decide +kernel
theorem dX6_statement_90 : decode cX6_statement 90 = .ok (.iload_n 2, 1) := by decide +kernel
theorem dX6_statement_91 : decode cX6_statement 91 = .ok (.iload_n 3, 1) := by decide +kernel
theorem dX6_statement_92 : decode cX6_statement 92 = .ok (.iadd, 1) := by decide +kernel
theorem dX6_statement_93 : decode cX6_statement 93 = .ok (.aload_n 0, 1) := by decide +kernel
theorem dX6_statement_94 : decode cX6_statement 94 = .ok (.getfield 47, 3) := by decide +kernel
theorem dX6_statement_97 : decode cX6_statement 97 = .ok (.if_icmp .le 5, 3) := by decide +kernel
theorem dX6_statement_100 : decode cX6_statement 100 = .ok (.iconst 0, 1) := by decide +kernel
theorem dX6_statement_101 : decode cX6_statement 101 = .ok (.ireturn, 1) := by decide +kernel
theorem dX6_statement_102 : decode cX6_statement 102 = .ok (.aload_n 0, 1) := by decide +kernel
theorem dX6_statement_103 : decode cX6_statement 103 = .ok (.iload_n 2, 1) := by decide +kernel
theorem dX6_statement_104 : decode cX6_statement 104 = .ok (.putfield 38, 3) := by decide +kernel
theorem dX6_statement_107 : decode cX6_statement 107 = .ok (.aload_n 0, 1) := by decide +kernel
theorem dX6_statement_108 : decode cX6_statement 108 = .ok (.iload_n 3, 1) := by decide +kernel
theorem dX6_statement_109 : decode cX6_statement 109 = .ok (.putfield 41, 3) := by decide +kernel
theorem dX6_statement_112 : decode cX6_statement 112 = .ok (.aload_n 0, 1) := by decide +kernel
theorem dX6_statement_113 : decode cX6_statement 113 = .ok (.aload_n 0, 1) := by decide +kernel
theorem dX6_statement_114 : decode cX6_statement 114 = .ok (.getfield 79, 3) := by decide +kernel
theorem dX6_statement_117 : decode cX6_statement 117 = .ok (.putfield 44, 3) := by decide +kernel
theorem dX6_statement_120 : decode cX6_statement 120 = .ok (.iconst 1, 1) := by decide +kernel
theorem dX6_statement_121 : decode cX6_statement 121 = .ok (.ireturn, 1) := by decide +kernel
theorem dX6_statement_122 : decode cX6_statement 122 = .ok (.aload_n 0, 1) := by decide +kernel
theorem dX6_statement_123 : decode cX6_statement 123 = .ok (.bipush 119, 2) := by decide +kernel
theorem dX6_statement_125 : decode cX6_statement 125 = .ok (.invokevirtual 82, 3) := by decide +kernel
theorem dX6_statement_128 : decode cX6_statement 128 = .ok (.ifCond .eq 60, 3) := by decide +kernel
theorem dX6_statement_131 : decode cX6_statement 131 = .ok (.aload_n 0, 1) := by decide +kernel
theorem dX6_statement_132 : decode cX6_statement 132 = .ok (.iconst 2, 1) := by decide +kernel
theorem dX6_statement_133 : decode cX6_statement 133 = .ok (.invokevirtual 86, 3) := by decide +kernel
theorem dX6_statement_136 : decode cX6_statement 136 = .ok (.ifCond .ne 5, 3) := by decide +kernel
theorem dX6_statement_139 : decode cX6_statement 139 = .ok (.iconst (-1), 1) := by decide +kernel
theorem dX6_statement_140 : decode cX6_statement 140 = .ok (.ireturn, 1) := by decide +kernel
theorem dX6_statement_141 : decode cX6_statement 141 = .ok (.iload_n 1, 1) := by decide +kernel
theorem dX6_statement_142 : decode cX6_statement 142 = .ok (.ifCond .ne 5, 3) := by decide +kernel
theorem dX6_statement_145 : decode cX6_statement 145 = .ok (.iconst 1, 1) := by decide +kernel
theorem dX6_statement_146 : decode cX6_statement 146 = .ok (.ireturn, 1) := by decide +kernel
theorem dX6_statement_147 : decode cX6_statement 147 = .ok (.aload_n 0, 1) := by decide +kernel
theorem dX6_statement_148 : decode cX6_statement 148 = .ok (.getfield 79, 3) := by decide +kernel
theorem dX6_statement_151 : decode cX6_statement 151 = .ok (.iconst 5, 1) := by decide +kernel
theorem dX6_statement_152 : decode cX6_statement 152 = .ok (.bipush 60, 2) := by decide +kernel
theorem dX6_statement_154 : decode cX6_statement 154 = .ok (.invokestatic 65, 3) := by decide +kernel
theorem dX6_statement_157 : decode cX6_statement 157 = .ok (.ifCond .eq 19, 3) := by decide +kernel
theorem dX6_statement_160 : decode cX6_statement 160 = .ok (.aload_n 0, 1) := by decide +kernel
theorem dX6_statement_161 : decode cX6_statement 161 = .ok (.getfield 38, 3) := by decide +kernel
theorem dX6_statement_164 : decode cX6_statement 164 = .ok (.aload_n 0, 1) := by decide +kernel
theorem dX6_statement_165 : decode cX6_statement 165 = .ok (.getfield 41, 3) := by decide +kernel
theorem dX6_statement_168 : decode cX6_statement 168 = .ok (.iadd, 1) := by decide +kernel
theorem dX6_statement_169 : decode cX6_statement 169 = .ok (.aload_n 0, 1) := by decide +kernel
theorem dX6_statement_170 : decode cX6_statement 170 = .ok (.getfield 79, 3) := by decide +kernel
theorem dX6_statement_173 : decode cX6_statement 173 = .ok (.if_icmp .le 5, 3) := by decide +kernel
theorem dX6_statement_176 : decode cX6_statement 176 = .ok (.iconst 0, 1) := by decide +kernel
theorem dX6_statement_177 : decode cX6_statement 177 = .ok (.ireturn, 1) := by decide +kernel
theorem dX6_statement_178 : decode cX6_statement 178 = .ok (.aload_n 0, 1) := by decide +kernel
theorem dX6_statement_179 : decode cX6_statement 179 = .ok (.aload_n 0, 1) := by decide +kernel
theorem dX6_statement_180 : decode cX6_statement 180 = .ok (.getfield 79, 3) := by decide +kernel
theorem dX6_statement_183 : decode cX6_statement 183 = .ok (.putfield 47, 3) := by decide +kernel
theorem dX6_statement_186 : decode cX6_statement 186 = .ok (.iconst 1, 1) := by decide +kernel
theorem dX6_statement_187 : decode cX6_statement 187 = .ok (.ireturn, 1) := by decide +kernel
theorem dX6_statement_188 : decode cX6_statement 188 = .ok (.aload_n 0, 1) := by decide +kernel
theorem dX6_statement_189 : decode cX6_statement 189 = .ok (.bipush 99, 2) := by decide +kernel
theorem dX6_statement_191 : decode cX6_statement 191 = .ok (.invokevirtual 82, 3) := by decide +kernel
theorem dX6_statement_194 : decode cX6_statement 194 = .ok (.ifCond .eq 45, 3) := by decide +kernel
theorem dX6_statement_197 : decode cX6_statement 197 = .ok (.aload_n 0, 1) := by decide +kernel
theorem dX6_statement_198 : decode cX6_statement 198 = .ok (.iconst 2, 1) := by decide +kernel
theorem dX6_statement_199 : decode cX6_statement 199 = .ok (.invokevirtual 86, 3) := by decide +kernel
theorem dX6_statement_202 : decode cX6_statement 202 = .ok (.ifCond .ne 5, 3) := by decide +kernel
theorem dX6_statement_205 : decode cX6_statement 205 = .ok (.iconst (-1), 1) := by decide +kernel
theorem dX6_statement_206 : decode cX6_statement 206 = .ok (.ireturn, 1) := by decide +kernel
theorem dX6_statement_207 : decode cX6_statement 207 = .ok (.iload_n 1, 1) := by decide +kernel
theorem dX6_statement_208 : decode cX6_statement 208 = .ok (.ifCond .ne 5, 3) := by decide +kernel
theorem dX6_statement_211 : decode cX6_statement 211 = .ok (.iconst 1, 1) := by decide +kernel
theorem dX6_statement_212 : decode cX6_statement 212 = .ok (.ireturn, 1) := by decide +kernel
theorem dX6_statement_213 : decode cX6_statement 213 = .ok (.aload_n 0, 1) := by decide +kernel
theorem dX6_statement_214 : decode cX6_statement 214 = .ok (.getfield 79, 3) := by decide +kernel
theorem dX6_statement_217 : decode cX6_statement 217 = .ok (.bipush 10, 2) := by decide +kernel
theorem dX6_statement_219 : decode cX6_statement 219 = .ok (.bipush 60, 2) := by decide +kernel
theorem dX6_statement_221 : decode cX6_statement 221 = .ok (.invokestatic 65, 3) := by decide +kernel
theorem dX6_statement_224 : decode cX6_statement 224 = .ok (.ifCond .ne 5, 3) := by decide +kernel
theorem dX6_statement_227 : decode cX6_statement 227 = .ok (.iconst 0, 1) := by decide +kernel
theorem dX6_statement_228 : decode cX6_statement 228 = .ok (.ireturn, 1) := by decide +kernel
theorem dX6_statement_229 : decode cX6_statement 229 = .ok (.aload_n 0, 1) := by decide +kernel
theorem dX6_statement_230 : decode cX6_statement 230 = .ok (.aload_n 0, 1) := by decide +kernel
theorem dX6_statement_231 : decode cX6_statement 231 = .ok (.getfield 79, 3) := by decide +kernel
theorem dX6_statement_234 : decode cX6_statement 234 = .ok (.putfield 50, 3) := by decide +kernel
theorem dX6_statement_237 : decode cX6_statement 237 = .ok (.iconst 1, 1) := by decide +kernel
theorem dX6_statement_238 : decode cX6_statement 238 = .ok (.ireturn, 1) := by decide +kernel
theorem dX6_statement_239 : decode cX6_statement 239 = .ok (.aload_n 0, 1) := by decide +kernel
theorem dX6_statement_240 : decode cX6_statement 240 = .ok (.bipush 104, 2) := by decide +kernel
theorem dX6_statement_242 : decode cX6_statement 242 = .ok (.invokevirtual 82, 3) := by decide +kernel
theorem dX6_statement_245 : decode cX6_statement 245 = .ok (.ifCond .eq 27, 3) := by decide +kernel
theorem dX6_statement_248 : decode cX6_statement 248 = .ok (.aload_n 0, 1) := by decide +kernel
theorem dX6_statement_249 : decode cX6_statement 249 = .ok (.iconst 1, 1) := by decide +kernel
theorem dX6_statement_250 : decode cX6_statement 250 = .ok (.invokevirtual 86, 3) := by decide +kernel
theorem dX6_statement_253 : decode cX6_statement 253 = .ok (.ifCond .ne 5, 3) := by decide +kernel
theorem dX6_statement_256 : decode cX6_statement 256 = .ok (.iconst (-1), 1) := by decide +kernel
theorem dX6_statement_257 : decode cX6_statement 257 = .ok (.ireturn, 1) := by decide +kernel
theorem dX6_statement_258 : decode cX6_statement 258 = .ok (.iload_n 1, 1) := by decide +kernel
theorem dX6_statement_259 : decode cX6_statement 259 = .ok (.ifCond .eq 11, 3) := by decide +kernel
theorem dX6_statement_262 : decode cX6_statement 262 = .ok (.aload_n 0, 1) := by decide +kernel
theorem dX6_statement_263 : decode cX6_statement 263 = .ok (.aload_n 0, 1) := by decide +kernel
theorem dX6_statement_264 : decode cX6_statement 264 = .ok (.getfield 79, 3) := by decide +kernel
theorem dX6_statement_267 : decode cX6_statement 267 = .ok (.putfield 34, 3) := by decide +kernel
theorem dX6_statement_270 : decode cX6_statement 270 = .ok (.iconst 1, 1) := by decide +kernel
theorem dX6_statement_271 : decode cX6_statement 271 = .ok (.ireturn, 1) := by decide +kernel
theorem dX6_statement_272 : decode cX6_statement 272 = .ok (.aload_n 0, 1) := by decide +kernel
theorem dX6_statement_273 : decode cX6_statement 273 = .ok (.bipush 105, 2) := by decide +kernel
theorem dX6_statement_275 : decode cX6_statement 275 = .ok (.invokevirtual 82, 3) := by decide +kernel
theorem dX6_statement_278 : decode cX6_statement 278 = .ok (.ifCond .eq 27, 3) := by decide +kernel
theorem dX6_statement_281 : decode cX6_statement 281 = .ok (.aload_n 0, 1) := by decide +kernel
theorem dX6_statement_282 : decode cX6_statement 282 = .ok (.iconst 1, 1) := by decide +kernel
theorem dX6_statement_283 : decode cX6_statement 283 = .ok (.invokevirtual 86, 3) := by decide +kernel
theorem dX6_statement_286 : decode cX6_statement 286 = .ok (.ifCond .ne 5, 3) := by decide +kernel
theorem dX6_statement_289 : decode cX6_statement 289 = .ok (.iconst (-1), 1) := by decide +kernel
theorem dX6_statement_290 : decode cX6_statement 290 = .ok (.ireturn, 1) := by decide +kernel
theorem dX6_statement_291 : decode cX6_statement 291 = .ok (.iload_n 1, 1) := by decide +kernel
theorem dX6_statement_292 : decode cX6_statement 292 = .ok (.ifCond .eq 11, 3) := by decide +kernel
theorem dX6_statement_295 : decode cX6_statement 295 = .ok (.aload_n 0, 1) := by decide +kernel
theorem dX6_statement_296 : decode cX6_statement 296 = .ok (.aload_n 0, 1) := by decide +kernel
theorem dX6_statement_297 : decode cX6_statement 297 = .ok (.getfield 79, 3) := by decide +kernel
theorem dX6_statement_300 : decode cX6_statement 300 = .ok (.putfield 89, 3) := by decide +kernel
theorem dX6_statement_303 : decode cX6_statement 303 = .ok (.iconst 1, 1) := by decide +kernel
theorem dX6_statement_304 : decode cX6_statement 304 = .ok (.ireturn, 1) := by decide +kernel
theorem dX6_statement_305 : decode cX6_statement 305 = .ok (.aload_n 0, 1) := by decide +kernel
theorem dX6_statement_306 : decode cX6_statement 306 = .ok (.bipush 102, 2) := by decide +kernel
theorem dX6_statement_308 : decode cX6_statement 308 = .ok (.invokevirtual 82, 3) := by decide +kernel
theorem dX6_statement_311 : decode cX6_statement 311 = .ok (.ifCond .eq 100, 3) := by decide +kernel
theorem dX6_statement_314 : decode cX6_statement 314 = .ok (.aload_n 0, 1) := by decide +kernel
theorem dX6_statement_315 : decode cX6_statement 315 = .ok (.bipush 45, 2) := by decide +kernel
theorem dX6_statement_317 : decode cX6_statement 317 = .ok (.invokevirtual 82, 3) := by decide +kernel
theorem dX6_statement_320 : decode cX6_statement 320 = .ok (.istore_n 2, 1) := by decide +kernel
theorem dX6_statement_321 : decode cX6_statement 321 = .ok (.iload_n 2, 1) := by decide +kernel
theorem dX6_statement_322 : decode cX6_statement 322 = .ok (.ifCond .ne 12, 3) := by decide +kernel
theorem dX6_statement_325 : decode cX6_statement 325 = .ok (.aload_n 0, 1) := by decide +kernel
theorem dX6_statement_326 : decode cX6_statement 326 = .ok (.bipush 43, 2) := by decide +kernel
theorem dX6_statement_328 : decode cX6_statement 328 = .ok (.invokevirtual 82, 3) := by decide +kernel
theorem dX6_statement_331 : decode cX6_statement 331 = .ok (.ifCond .eq 11, 3) := by decide +kernel
theorem dX6_statement_334 : decode cX6_statement 334 = .ok (.aload_n 0, 1) := by decide +kernel
theorem dX6_statement_335 : decode cX6_statement 335 = .ok (.iconst 1, 1) := by decide +kernel
theorem dX6_statement_336 : decode cX6_statement 336 = .ok (.invokevirtual 86, 3) := by decide +kernel
theorem dX6_statement_339 : decode cX6_statement 339 = .ok (.ifCond .ne 5, 3) := by decide +kernel
theorem dX6_statement_342 : decode cX6_statement 342 = .ok (.iconst (-1), 1) := by decide +kernel
theorem dX6_statement_343 : decode cX6_statement 343 = .ok (.ireturn, 1) := by decide +kernel
theorem dX6_statement_344 : decode cX6_statement 344 = .ok (.iload_n 2, 1) := by decide +kernel
theorem dX6_statement_345 : decode cX6_statement 345 = .ok (.ifCond .eq 11, 3) := by decide +kernel
theorem dX6_statement_348 : decode cX6_statement 348 = .ok (.aload_n 0, 1) := by decide +kernel
theorem dX6_statement_349 : decode cX6_statement 349 = .ok (.getfield 79, 3) := by decide +kernel
theorem dX6_statement_352 : decode cX6_statement 352 = .ok (.ineg, 1) := by decide +kernel
theorem dX6_statement_353 : decode cX6_statement 353 = .ok (.goto 7, 3) := by decide +kernel
theorem dX6_statement_356 : decode cX6_statement 356 = .ok (.aload_n 0, 1) := by decide +kernel
theorem dX6_statement_357 : decode cX6_statement 357 = .ok (.getfield 79, 3) := by decide +kernel
theorem dX6_statement_360 : decode cX6_statement 360 = .ok (.istore_n 3, 1) := by decide +kernel
theorem dX6_statement_361 : decode cX6_statement 361 = .ok (.aload_n 0, 1) := by decide +kernel
theorem dX6_statement_362 : decode cX6_statement 362 = .ok (.iconst 1, 1) := by decide +kernel
theorem dX6_statement_363 : decode cX6_statement 363 = .ok (.invokevirtual 86, 3) := by decide +kernel
theorem dX6_statement_366 : decode cX6_statement 366 = .ok (.ifCond .ne 5, 3) := by decide +kernel
theorem dX6_statement_369 : decode cX6_statement 369 = .ok (.iconst (-1), 1) := by decide +kernel
theorem dX6_statement_370 : decode cX6_statement 370 = .ok (.ireturn, 1) := by decide +kernel
theorem dX6_statement_371 : decode cX6_statement 371 = .ok (.iload_n 1, 1) := by decide +kernel
theorem dX6_statement_372 : decode cX6_statement 372 = .ok (.ifCond .ne 5, 3) := by decide +kernel
theorem dX6_statement_375 : decode cX6_statement 375 = .ok (.iconst 1, 1) := by decide +kernel
theorem dX6_statement_376 : decode cX6_statement 376 = .ok (.ireturn, 1) := by decide +kernel
theorem dX6_statement_377 : decode cX6_statement 377 = .ok (.iload_n 3, 1) := by decide +kernel
theorem dX6_statement_378 : decode cX6_statement 378 = .ok (.bipush (-3), 2) := by decide +kernel
theorem dX6_statement_380 : decode cX6_statement 380 = .ok (.iconst 3, 1) := by decide +kernel
theorem dX6_statement_381 : decode cX6_statement 381 = .ok (.invokestatic 65, 3) := by decide +kernel
theorem dX6_statement_384 : decode cX6_statement 384 = .ok (.ifCond .eq 10, 3) := by decide +kernel
theorem dX6_statement_387 : decode cX6_statement 387 = .ok (.aload_n 0, 1) := by decide +kernel
theorem dX6_statement_388 : decode cX6_statement 388 = .ok (.getfield 79, 3) := by decide +kernel
theorem dX6_statement_391 : decode cX6_statement 391 = .ok (.ifCond .ne 5, 3) := by decide +kernel
theorem dX6_statement_394 : decode cX6_statement 394 = .ok (.iconst 0, 1) := by decide +kernel
theorem dX6_statement_395 : decode cX6_statement 395 = .ok (.ireturn, 1) := by decide +kernel
theorem dX6_statement_396 : decode cX6_statement 396 = .ok (.aload_n 0, 1) := by decide +kernel
theorem dX6_statement_397 : decode cX6_statement 397 = .ok (.iload_n 3, 1) := by decide +kernel
theorem dX6_statement_398 : decode cX6_statement 398 = .ok (.putfield 92, 3) := by decide +kernel
theorem dX6_statement_401 : decode cX6_statement 401 = .ok (.aload_n 0, 1) := by decide +kernel
theorem dX6_statement_402 : decode cX6_statement 402 = .ok (.aload_n 0, 1) := by decide +kernel
theorem dX6_statement_403 : decode cX6_statement 403 = .ok (.getfield 79, 3) := by decide +kernel
theorem dX6_statement_406 : decode cX6_statement 406 = .ok (.putfield 53, 3) := by decide +kernel
theorem dX6_statement_409 : decode cX6_statement 409 = .ok (.iconst 1, 1) := by decide +kernel
theorem dX6_statement_410 : decode cX6_statement 410 = .ok (.ireturn, 1) := by decide +kernel
theorem dX6_statement_411 : decode cX6_statement 411 = .ok (.aload_n 0, 1) := by decide +kernel
theorem dX6_statement_412 : decode cX6_statement 412 = .ok (.bipush 112, 2) := by decide +kernel
theorem dX6_statement_414 : decode cX6_statement 414 = .ok (.invokevirtual 82, 3) := by decide +kernel
theorem dX6_statement_417 : decode cX6_statement 417 = .ok (.ifCond .ne 5, 3) := by decide +kernel
theorem dX6_statement_420 : decode cX6_statement 420 = .ok (.iconst (-1), 1) := by decide +kernel
theorem dX6_statement_421 : decode cX6_statement 421 = .ok (.ireturn, 1) := by decide +kernel
theorem dX6_statement_422 : decode cX6_statement 422 = .ok (.aload_n 0, 1) := by decide +kernel
theorem dX6_statement_423 : decode cX6_statement 423 = .ok (.getfield 72, 3) := by decide +kernel
theorem dX6_statement_426 : decode cX6_statement 426 = .ok (.aload_n 0, 1) := by decide +kernel
theorem dX6_statement_427 : decode cX6_statement 427 = .ok (.getfield 69, 3) := by decide +kernel
theorem dX6_statement_430 : decode cX6_statement 430 = .ok (.if_icmp .ge 32, 3) := by decide +kernel
theorem dX6_statement_433 : decode cX6_statement 433 = .ok (.aload_n 0, 1) := by decide +kernel
theorem dX6_statement_434 : decode cX6_statement 434 = .ok (.getfield 19, 3) := by decide +kernel
theorem dX6_statement_437 : decode cX6_statement 437 = .ok (.aload_n 0, 1) := by decide +kernel
theorem dX6_statement_438 : decode cX6_statement 438 = .ok (.getfield 72, 3) := by decide +kernel
theorem dX6_statement_441 : decode cX6_statement 441 = .ok (.iaload, 1) := by decide +kernel
theorem dX6_statement_442 : decode cX6_statement 442 = .ok (.ifCond .le 20, 3) := by decide +kernel
theorem dX6_statement_445 : decode cX6_statement 445 = .ok (.ldc 95, 2) := by decide +kernel
theorem dX6_statement_447 : decode cX6_statement 447 = .ok (.aload_n 0, 1) := by decide +kernel
theorem dX6_statement_448 : decode cX6_statement 448 = .ok (.getfield 19, 3) := by decide +kernel
theorem dX6_statement_451 : decode cX6_statement 451 = .ok (.aload_n 0, 1) := by decide +kernel
theorem dX6_statement_452 : decode cX6_statement 452 = .ok (.getfield 72, 3) := by decide +kernel
theorem dX6_statement_455 : decode cX6_statement 455 = .ok (.iaload, 1) := by decide +kernel
theorem dX6_statement_456 : decode cX6_statement 456 = .ok (.invokevirtual 97, 3) := by decide +kernel
theorem dX6_statement_459 : decode cX6_statement 459 = .ok (.goto 4, 3) := by decide +kernel
theorem dX6_statement_462 : decode cX6_statement 462 = .ok (.iconst (-1), 1) := by decide +kernel
theorem dX6_statement_463 : decode cX6_statement 463 = .ok (.istore_n 2, 1) := by decide +kernel
theorem dX6_statement_464 : decode cX6_statement 464 = .ok (.iload_n 2, 1) := by decide +kernel
theorem dX6_statement_465 : decode cX6_statement 465 = .ok (.ifCond .ge 5, 3) := by decide +kernel
theorem dX6_statement_468 : decode cX6_statement 468 = .ok (.iconst (-1), 1) := by decide +kernel
theorem dX6_statement_469 : decode cX6_statement 469 = .ok (.ireturn, 1) := by decide +kernel
theorem dX6_statement_470 : decode cX6_statement 470 = .ok (.aload_n 0, 1) := by decide +kernel
theorem dX6_statement_471 : decode cX6_statement 471 = .ok (.dup, 1) := by decide +kernel
theorem dX6_statement_472 : decode cX6_statement 472 = .ok (.getfield 72, 3) := by decide +kernel
theorem dX6_statement_475 : decode cX6_statement 475 = .ok (.iconst 1, 1) := by decide +kernel
theorem dX6_statement_476 : decode cX6_statement 476 = .ok (.iadd, 1) := by decide +kernel
theorem dX6_statement_477 : decode cX6_statement 477 = .ok (.putfield 72, 3) := by decide +kernel
theorem dX6_statement_480 : decode cX6_statement 480 = .ok (.aload_n 0, 1) := by decide +kernel
theorem dX6_statement_481 : decode cX6_statement 481 = .ok (.iconst 1, 1) := by decide +kernel
theorem dX6_statement_482 : decode cX6_statement 482 = .ok (.invokevirtual 86, 3) := by decide +kernel
theorem dX6_statement_485 : decode cX6_statement 485 = .ok (.ifCond .ne 5, 3) := by decide +kernel
theorem dX6_statement_488 : decode cX6_statement 488 = .ok (.iconst (-1), 1) := by decide +kernel
theorem dX6_statement_489 : decode cX6_statement 489 = .ok (.ireturn, 1) := by decide +kernel
theorem dX6_statement_490 : decode cX6_statement 490 = .ok (.aload_n 0, 1) := by decide +kernel
theorem dX6_statement_491 : decode cX6_statement 491 = .ok (.getfield 79, 3) := by decide +kernel
theorem dX6_statement_494 : decode cX6_statement 494 = .ok (.istore_n 3, 1) := by decide +kernel
theorem dX6_statement_495 : decode cX6_statement 495 = .ok (.aload_n 0, 1) := by decide +kernel
theorem dX6_statement_496 : decode cX6_statement 496 = .ok (.iconst 1, 1) := by decide +kernel
theorem dX6_statement_497 : decode cX6_statement 497 = .ok (.invokevirtual 86, 3) := by decide +kernel
theorem dX6_statement_500 : decode cX6_statement 500 = .ok (.ifCond .ne 5, 3) := by decide +kernel
theorem dX6_statement_503 : decode cX6_statement 503 = .ok (.iconst (-1), 1) := by decide +kernel
theorem dX6_statement_504 : decode cX6_statement 504 = .ok (.ireturn, 1) := by decide +kernel
theorem dX6_statement_505 : decode cX6_statement 505 = .ok (.iload_n 1, 1) := by decide +kernel
theorem dX6_statement_506 : decode cX6_statement 506 = .ok (.ifCond .ne 5, 3) := by decide +kernel
theorem dX6_statement_509 : decode cX6_statement 509 = .ok (.iconst 1, 1) := by decide +kernel
theorem dX6_statement_510 : decode cX6_statement 510 = .ok (.ireturn, 1) := by decide +kernel
theorem dX6_statement_511 : decode cX6_statement 511 = .ok (.iload_n 3, 1) := by decide +kernel
theorem dX6_statement_512 : decode cX6_statement 512 = .ok (.ifCond .eq 11, 3) := by decide +kernel
theorem dX6_statement_515 : decode cX6_statement 515 = .ok (.aload_n 0, 1) := by decide +kernel
theorem dX6_statement_516 : decode cX6_statement 516 = .ok (.getfield 62, 3) := by decide +kernel
theorem dX6_statement_519 : decode cX6_statement 519 = .ok (.iconst 5, 1) := by decide +kernel
theorem dX6_statement_520 : decode cX6_statement 520 = .ok (.if_icmp .ne 5, 3) := by decide +kernel
theorem dX6_statement_523 : decode cX6_statement 523 = .ok (.iconst 0, 1) := by decide +kernel
theorem dX6_statement_524 : decode cX6_statement 524 = .ok (.ireturn, 1) := by decide +kernel
theorem dX6_statement_525 : decode cX6_statement 525 = .ok (.aload_n 0, 1) := by decide +kernel
theorem dX6_statement_526 : decode cX6_statement 526 = .ok (.getfield 7, 3) := by decide +kernel
theorem dX6_statement_529 : decode cX6_statement 529 = .ok (.aload_n 0, 1) := by decide +kernel
theorem dX6_statement_530 : decode cX6_statement 530 = .ok (.getfield 62, 3) := by decide +kernel
theorem dX6_statement_533 : decode cX6_statement 533 = .ok (.iload_n 2, 1) := by decide +kernel
theorem dX6_statement_534 : decode cX6_statement 534 = .ok (.iastore, 1) := by decide +kernel
theorem dX6_statement_535 : decode cX6_statement 535 = .ok (.aload_n 0, 1) := by decide +kernel
theorem dX6_statement_536 : decode cX6_statement 536 = .ok (.getfield 13, 3) := by decide +kernel
theorem dX6_statement_539 : decode cX6_statement 539 = .ok (.aload_n 0, 1) := by decide +kernel
theorem dX6_statement_540 : decode cX6_statement 540 = .ok (.getfield 62, 3) := by decide +kernel
theorem dX6_statement_543 : decode cX6_statement 543 = .ok (.iload_n 3, 1) := by decide +kernel
theorem dX6_statement_544 : decode cX6_statement 544 = .ok (.iastore, 1) := by decide +kernel
theorem dX6_statement_545 : decode cX6_statement 545 = .ok (.aload_n 0, 1) := by decide +kernel
theorem dX6_statement_546 : decode cX6_statement 546 = .ok (.getfield 16, 3) := by decide +kernel
theorem dX6_statement_549 : decode cX6_statement 549 = .ok (.aload_n 0, 1) := by decide +kernel
theorem dX6_statement_550 : decode cX6_statement 550 = .ok (.dup, 1) := by decide +kernel
theorem dX6_statement_551 : decode cX6_statement 551 = .ok (.getfield 62, 3) := by decide +kernel
theorem dX6_statement_554 : decode cX6_statement 554 = .ok (.dup_x1, 1) := by decide +kernel
theorem dX6_statement_555 : decode cX6_statement 555 = .ok (.iconst 1, 1) := by decide +kernel
theorem dX6_statement_556 : decode cX6_statement 556 = .ok (.iadd, 1) := by decide +kernel
theorem dX6_statement_557 : decode cX6_statement 557 = .ok (.putfield 62, 3) := by decide +kernel
theorem dX6_statement_560 : decode cX6_statement 560 = .ok (.aload_n 0, 1) := by decide +kernel
theorem dX6_statement_561 : decode cX6_statement 561 = .ok (.getfield 79, 3) := by decide +kernel
theorem dX6_statement_564 : decode cX6_statement 564 = .ok (.iastore, 1) := by decide +kernel
theorem dX6_statement_565 : decode cX6_statement 565 = .ok (.iconst 1, 1) := by decide +kernel
theorem dX6_statement_566 : decode cX6_statement 566 = .ok (.ireturn, 1) := by decide +kernel
set_option maxRecDepth 20000 in
theorem ggX6_office_X6_statement : GoodIn wsX6_office wsX6_statement := goodIn_r _ [8, 9, 10, 11, 12, 13, 14, 15, 16, 17, 18, 1, 2, 19, 20, 21, 22, 23, 24, 25, 26, 7, 27, 28, 29, 30, 31, 32, 33, 34, 35, 36, 37, 38, 39, 40, 41, 42, 43, 44, 45, 46, 47, 48, 49, 50, 51, 52, 53, 54, 55, 56, 57, 58, 59, 60, 61, 62, 63, 64, 65, 66, 67, 68, 69, 70, 71, 72, 73, 74, 75, 76, 77, 78, 79, 80, 81, 82, 83, 84, 85, 86, 87, 88, 89, 90, 91, 92, 93, 94, 95, 96, 97, 98, 99, 100, 101, 102, 103, 104, 105, 106, 107, 108, 109, 110, 111, 112, 113, 114, 115, 116, 117, 118, 119, 120, 121, 122, 123, 124, 125, 126, 127, 139, 140, 141, 142, 143, 144, 145, 146, 147, 148, 149, 150, 151, 152, 153, 154, 155, 156, 157, 158, 159, 160, 161, 162, 163, 164, 165, 166, 167, 168, 169] (by decide +kernel) (by decide +kernel)
set_option maxRecDepth 20000 in
theorem gX6_office_X6_statement : GoodIn wsX6_office (wsV RX6 102 RX6 yX6_statement wsX6_statement) := goodIn_app (goodIn_of _ (by decide +kernel)) ggX6_office_X6_statement
set_option maxRecDepth 20000 in
theorem ggX6_office_X6_is : GoodIn wsX6_office wsX6_is := goodIn_r _ [27, 1, 2, 19, 139, 140, 141, 142, 143, 144, 145, 146, 147, 148, 149, 150, 151, 152, 153, 154, 155, 156, 157, 158, 159, 160, 161, 162, 163, 164, 165, 166, 167, 168, 169] (by decide +kernel) (by decide +kernel)
set_option maxRecDepth 20000 in
theorem gX6_office_X6_is : GoodIn wsX6_office (wsV RX6 82 RX6 yX6_is wsX6_is) := goodIn_app (goodIn_of _ (by decide +kernel)) ggX6_office_X6_is
set_option maxRecDepth 20000 in
theorem ggX6_office_X6_keep : GoodIn wsX6_office wsX6_keep := goodIn_r _ [131, 21, 22, 23, 15, 11, 12, 13, 16, 10, 14, 17, 18, 132, 133, 134, 20, 139, 140, 141, 142, 143, 144, 145, 146, 147, 148, 149, 150, 151, 152, 153, 154, 155, 156, 157, 158, 159, 160, 161, 162, 163, 164, 165, 166, 167, 168, 169] (by decide +kernel) (by decide +kernel)
set_option maxRecDepth 20000 in
theorem gX6_office_X6_keep : GoodIn wsX6_office (wsV RX6 106 RX6 yX6_keep wsX6_keep) := goodIn_app (goodIn_of _ (by decide +kernel)) ggX6_office_X6_keep
set_option maxRecDepth 20000 in
theorem ggX6_office_X6_again : GoodIn wsX6_office wsX6_again := goodIn_r _ [138, 21, 22, 23, 15, 11, 12, 13, 16, 10, 14, 17, 18, 132, 133, 134, 20, 139, 140, 141, 142, 143, 144, 145, 146, 147, 148, 149, 150, 151, 152, 153, 154, 155, 156, 157, 158, 159, 160, 161, 162, 163, 164, 165, 166, 167, 168, 169] (by decide +kernel) (by decide +kernel)
set_option maxRecDepth 20000 in
theorem gX6_office_X6_again : GoodIn wsX6_office (wsV RX6 110 RX6 yX6_again wsX6_again) := goodIn_app (goodIn_of _ (by decide +kernel)) ggX6_office_X6_again
theorem dX6_office_0 : decode cX6_office 0 = .ok (.aload_n 0, 1) := by decide +kernel
theorem dX6_office_1 : decode cX6_office 1 = .ok (.iconst 0, 1) := by decide +kernel
theorem dX6_office_2 : decode cX6_office 2 = .ok (.putfield 72, 3) := by decide +kernel
theorem dX6_office_5 : decode cX6_office 5 = .ok (.iconst 1, 1) := by decide +kernel
theorem dX6_office_6 : decode cX6_office 6 = .ok (.istore_n 1, 1) := by decide +kernel
theorem dX6_office_7 : decode cX6_office 7 = .ok (.iload_n 1, 1) := by decide +kernel
theorem dX6_office_8 : decode cX6_office 8 = .ok (.ifCond .eq 45, 3) := by decide +kernel
theorem dX6_office_11 : decode cX6_office 11 = .ok (.aload_n 0, 1) := by decide +kernel
theorem dX6_office_12 : decode cX6_office 12 = .ok (.iconst 0, 1) := by decide +kernel
theorem dX6_office_13 : decode cX6_office 13 = .ok (.invokevirtual 102, 3) := by decide +kernel
theorem dX6_office_16 : decode cX6_office 16 = .ok (.iconst 1, 1) := by decide +kernel
theorem dX6_office_17 : decode cX6_office 17 = .ok (.if_icmp .ne 16, 3) := by decide +kernel
theorem dX6_office_20 : decode cX6_office 20 = .ok (.aload_n 0, 1) := by decide +kernel
theorem dX6_office_21 : decode cX6_office 21 = .ok (.bipush 59, 2) := by decide +kernel
theorem dX6_office_23 : decode cX6_office 23 = .ok (.invokevirtual 82, 3) := by decide +kernel
theorem dX6_office_26 : decode cX6_office 26 = .ok (.ifCond .eq 7, 3) := by decide +kernel
theorem dX6_office_29 : decode cX6_office 29 = .ok (.iconst 1, 1) := by decide +kernel
theorem dX6_office_30 : decode cX6_office 30 = .ok (.goto 4, 3) := by decide +kernel
theorem dX6_office_33 : decode cX6_office 33 = .ok (.iconst 0, 1) := by decide +kernel
theorem dX6_office_34 : decode cX6_office 34 = .ok (.istore_n 1, 1) := by decide +kernel
theorem dX6_office_35 : decode cX6_office 35 = .ok (.iload_n 1, 1) := by decide +kernel
theorem dX6_office_36 : decode cX6_office 36 = .ok (.ifCond .eq (-29), 3) := by decide +kernel
theorem dX6_office_39 : decode cX6_office 39 = .ok (.aload_n 0, 1) := by decide +kernel
theorem dX6_office_40 : decode cX6_office 40 = .ok (.getfield 72, 3) := by decide +kernel
theorem dX6_office_43 : decode cX6_office 43 = .ok (.aload_n 0, 1) := by decide +kernel
theorem dX6_office_44 : decode cX6_office 44 = .ok (.getfield 69, 3) := by decide +kernel
theorem dX6_office_47 : decode cX6_office 47 = .ok (.if_icmp .ne (-40), 3) := by decide +kernel
theorem dX6_office_50 : decode cX6_office 50 = .ok (.goto 3, 3) := by decide +kernel
theorem dX6_office_53 : decode cX6_office 53 = .ok (.iload_n 1, 1) := by decide +kernel
theorem dX6_office_54 : decode cX6_office 54 = .ok (.ifCond .ne 17, 3) := by decide +kernel
theorem dX6_office_57 : decode cX6_office 57 = .ok (.aload_n 0, 1) := by decide +kernel
theorem dX6_office_58 : decode cX6_office 58 = .ok (.iconst 0, 1) := by decide +kernel
theorem dX6_office_59 : decode cX6_office 59 = .ok (.putfield 69, 3) := by decide +kernel
theorem dX6_office_62 : decode cX6_office 62 = .ok (.sipush (-1000), 3) := by decide +kernel
theorem dX6_office_65 : decode cX6_office 65 = .ok (.aload_n 0, 1) := by decide +kernel
theorem dX6_office_66 : decode cX6_office 66 = .ok (.getfield 72, 3) := by decide +kernel
theorem dX6_office_69 : decode cX6_office 69 = .ok (.isub, 1) := by decide +kernel
theorem dX6_office_70 : decode cX6_office 70 = .ok (.ireturn, 1) := by decide +kernel
theorem dX6_office_71 : decode cX6_office 71 = .ok (.aload_n 0, 1) := by decide +kernel
theorem dX6_office_72 : decode cX6_office 72 = .ok (.aload_n 0, 1) := by decide +kernel
theorem dX6_office_73 : decode cX6_office 73 = .ok (.getfield 31, 3) := by decide +kernel
theorem dX6_office_76 : decode cX6_office 76 = .ok (.invokevirtual 106, 3) := by decide +kernel
theorem dX6_office_79 : decode cX6_office 79 = .ok (.aload_n 0, 1) := by decide +kernel
theorem dX6_office_80 : decode cX6_office 80 = .ok (.iconst 0, 1) := by decide +kernel
theorem dX6_office_81 : decode cX6_office 81 = .ok (.putfield 72, 3) := by decide +kernel
theorem dX6_office_84 : decode cX6_office 84 = .ok (.iconst 0, 1) := by decide +kernel
theorem dX6_office_85 : decode cX6_office 85 = .ok (.istore_n 2, 1) := by decide +kernel
theorem dX6_office_86 : decode cX6_office 86 = .ok (.aload_n 0, 1) := by decide +kernel
theorem dX6_office_87 : decode cX6_office 87 = .ok (.getfield 72, 3) := by decide +kernel
theorem dX6_office_90 : decode cX6_office 90 = .ok (.aload_n 0, 1) := by decide +kernel
theorem dX6_office_91 : decode cX6_office 91 = .ok (.getfield 69, 3) := by decide +kernel
theorem dX6_office_94 : decode cX6_office 94 = .ok (.if_icmp .ge 48, 3) := by decide +kernel
theorem dX6_office_97 : decode cX6_office 97 = .ok (.aload_n 0, 1) := by decide +kernel
theorem dX6_office_98 : decode cX6_office 98 = .ok (.getfield 72, 3) := by decide +kernel
theorem dX6_office_101 : decode cX6_office 101 = .ok (.istore_n 3, 1) := by decide +kernel
theorem dX6_office_102 : decode cX6_office 102 = .ok (.aload_n 0, 1) := by decide +kernel
theorem dX6_office_103 : decode cX6_office 103 = .ok (.iconst 1, 1) := by decide +kernel
theorem dX6_office_104 : decode cX6_office 104 = .ok (.invokevirtual 102, 3) := by decide +kernel
theorem dX6_office_107 : decode cX6_office 107 = .ok (.ifCond .ne 22, 3) := by decide +kernel
theorem dX6_office_110 : decode cX6_office 110 = .ok (.aload_n 0, 1) := by decide +kernel
theorem dX6_office_111 : decode cX6_office 111 = .ok (.aload_n 0, 1) := by decide +kernel
theorem dX6_office_112 : decode cX6_office 112 = .ok (.getfield 31, 3) := by decide +kernel
theorem dX6_office_115 : decode cX6_office 115 = .ok (.invokevirtual 110, 3) := by decide +kernel
theorem dX6_office_118 : decode cX6_office 118 = .ok (.aload_n 0, 1) := by decide +kernel
theorem dX6_office_119 : decode cX6_office 119 = .ok (.iconst 0, 1) := by decide +kernel
theorem dX6_office_120 : decode cX6_office 120 = .ok (.putfield 69, 3) := by decide +kernel
theorem dX6_office_123 : decode cX6_office 123 = .ok (.sipush (-2000), 3) := by decide +kernel
theorem dX6_office_126 : decode cX6_office 126 = .ok (.iload_n 3, 1) := by decide +kernel
theorem dX6_office_127 : decode cX6_office 127 = .ok (.isub, 1) := by decide +kernel
theorem dX6_office_128 : decode cX6_office 128 = .ok (.ireturn, 1) := by decide +kernel
theorem dX6_office_129 : decode cX6_office 129 = .ok (.aload_n 0, 1) := by decide +kernel
theorem dX6_office_130 : decode cX6_office 130 = .ok (.bipush 59, 2) := by decide +kernel
theorem dX6_office_132 : decode cX6_office 132 = .ok (.invokevirtual 82, 3) := by decide +kernel
theorem dX6_office_135 : decode cX6_office 135 = .ok (.pop, 1) := by decide +kernel
theorem dX6_office_136 : decode cX6_office 136 = .ok (.iinc 2 1, 3) := by decide +kernel
theorem dX6_office_139 : decode cX6_office 139 = .ok (.goto (-53), 3) := by decide +kernel
theorem dX6_office_142 : decode cX6_office 142 = .ok (.aload_n 0, 1) := by decide +kernel
theorem dX6_office_143 : decode cX6_office 143 = .ok (.iconst 0, 1) := by decide +kernel
theorem dX6_office_144 : decode cX6_office 144 = .ok (.putfield 69, 3) := by decide +kernel
theorem dX6_office_147 : decode cX6_office 147 = .ok (.iload_n 2, 1) := by decide +kernel
theorem dX6_office_148 : decode cX6_office 148 = .ok (.ireturn, 1) := by decide +kernel
theorem dX6_drag_0 : decode cX6_drag 0 = .ok (.iconst 0, 1) := by decide +kernel
theorem dX6_drag_1 : decode cX6_drag 1 = .ok (.aload_n 0, 1) := by decide +kernel
theorem dX6_drag_2 : decode cX6_drag 2 = .ok (.getfield 13, 3) := by decide +kernel
theorem dX6_drag_5 : decode cX6_drag 5 = .ok (.iload_n 1, 1) := by decide +kernel
theorem dX6_drag_6 : decode cX6_drag 6 = .ok (.iaload, 1) := by decide +kernel
theorem dX6_drag_7 : decode cX6_drag 7 = .ok (.iconst 3, 1) := by decide +kernel
theorem dX6_drag_8 : decode cX6_drag 8 = .ok (.idiv, 1) := by decide +kernel
theorem dX6_drag_9 : decode cX6_drag 9 = .ok (.aload_n 0, 1) := by decide +kernel
theorem dX6_drag_10 : decode cX6_drag 10 = .ok (.getfield 16, 3) := by decide +kernel
theorem dX6_drag_13 : decode cX6_drag 13 = .ok (.iload_n 1, 1) := by decide +kernel
theorem dX6_drag_14 : decode cX6_drag 14 = .ok (.iaload, 1) := by decide +kernel
theorem dX6_drag_15 : decode cX6_drag 15 = .ok (.iconst 4, 1) := by decide +kernel
theorem dX6_drag_16 : decode cX6_drag 16 = .ok (.idiv, 1) := by decide +kernel
theorem dX6_drag_17 : decode cX6_drag 17 = .ok (.isub, 1) := by decide +kernel
theorem dX6_drag_18 : decode cX6_drag 18 = .ok (.invokestatic 113, 3) := by decide +kernel
theorem dX6_drag_21 : decode cX6_drag 21 = .ok (.istore_n 2, 1) := by decide +kernel
theorem dX6_drag_22 : decode cX6_drag 22 = .ok (.aload_n 0, 1) := by decide +kernel
theorem dX6_drag_23 : decode cX6_drag 23 = .ok (.getfield 7, 3) := by decide +kernel
theorem dX6_drag_26 : decode cX6_drag 26 = .ok (.iload_n 1, 1) := by decide +kernel
theorem dX6_drag_27 : decode cX6_drag 27 = .ok (.iaload, 1) := by decide +kernel
theorem dX6_drag_28 : decode cX6_drag 28 = .ok (.tableswitch 50 1 5 #[36, 40, 42, 46, 40], 36) := by decide +kernel
theorem dX6_drag_64 : decode cX6_drag 64 = .ok (.iload_n 2, 1) := by decide +kernel
theorem dX6_drag_65 : decode cX6_drag 65 = .ok (.iconst 2, 1) := by decide +kernel
theorem dX6_drag_66 : decode cX6_drag 66 = .ok (.idiv, 1) := by decide +kernel
theorem dX6_drag_67 : decode cX6_drag 67 = .ok (.ireturn, 1) := by decide +kernel
theorem dX6_drag_68 : decode cX6_drag 68 = .ok (.iconst 0, 1) := by decide +kernel
theorem dX6_drag_69 : decode cX6_drag 69 = .ok (.ireturn, 1) := by decide +kernel
theorem dX6_drag_70 : decode cX6_drag 70 = .ok (.iload_n 2, 1) := by decide +kernel
theorem dX6_drag_71 : decode cX6_drag 71 = .ok (.iconst 1, 1) := by decide +kernel
theorem dX6_drag_72 : decode cX6_drag 72 = .ok (.iadd, 1) := by decide +kernel
theorem dX6_drag_73 : decode cX6_drag 73 = .ok (.ireturn, 1) := by decide +kernel
theorem dX6_drag_74 : decode cX6_drag 74 = .ok (.iload_n 2, 1) := by decide +kernel
theorem dX6_drag_75 : decode cX6_drag 75 = .ok (.iconst 2, 1) := by decide +kernel
theorem dX6_drag_76 : decode cX6_drag 76 = .ok (.iadd, 1) := by decide +kernel
theorem dX6_drag_77 : decode cX6_drag 77 = .ok (.ireturn, 1) := by decide +kernel
theorem dX6_drag_78 : decode cX6_drag 78 = .ok (.iload_n 2, 1) := by decide +kernel
theorem dX6_drag_79 : decode cX6_drag 79 = .ok (.ireturn, 1) := by decide +kernel
theorem dX6_fall_0 : decode cX6_fall 0 = .ok (.aload_n 0, 1) := by decide +kernel
theorem dX6_fall_1 : decode cX6_fall 1 = .ok (.getfield 7, 3) := by decide +kernel
theorem dX6_fall_4 : decode cX6_fall 4 = .ok (.iload_n 1, 1) := by decide +kernel
theorem dX6_fall_5 : decode cX6_fall 5 = .ok (.iaload, 1) := by decide +kernel
theorem dX6_fall_6 : decode cX6_fall 6 = .ok (.iconst 2, 1) := by decide +kernel
theorem dX6_fall_7 : decode cX6_fall 7 = .ok (.if_icmp .ne 7, 3) := by decide +kernel
theorem dX6_fall_10 : decode cX6_fall 10 = .ok (.iconst 2, 1) := by decide +kernel
theorem dX6_fall_11 : decode cX6_fall 11 = .ok (.goto 18, 3) := by decide +kernel
theorem dX6_fall_14 : decode cX6_fall 14 = .ok (.aload_n 0, 1) := by decide +kernel
theorem dX6_fall_15 : decode cX6_fall 15 = .ok (.getfield 7, 3) := by decide +kernel
theorem dX6_fall_18 : decode cX6_fall 18 = .ok (.iload_n 1, 1) := by decide +kernel
theorem dX6_fall_19 : decode cX6_fall 19 = .ok (.iaload, 1) := by decide +kernel
theorem dX6_fall_20 : decode cX6_fall 20 = .ok (.iconst 5, 1) := by decide +kernel
theorem dX6_fall_21 : decode cX6_fall 21 = .ok (.if_icmp .ne 7, 3) := by decide +kernel
theorem dX6_fall_24 : decode cX6_fall 24 = .ok (.iconst 3, 1) := by decide +kernel
theorem dX6_fall_25 : decode cX6_fall 25 = .ok (.goto 4, 3) := by decide +kernel
theorem dX6_fall_28 : decode cX6_fall 28 = .ok (.iconst 1, 1) := by decide +kernel
theorem dX6_fall_29 : decode cX6_fall 29 = .ok (.ireturn, 1) := by decide +kernel
theorem dX6_blown_0 : decode cX6_blown 0 = .ok (.aload_n 0, 1) := by decide +kernel
theorem dX6_blown_1 : decode cX6_blown 1 = .ok (.getfield 7, 3) := by decide +kernel
theorem dX6_blown_4 : decode cX6_blown 4 = .ok (.iload_n 1, 1) := by decide +kernel
theorem dX6_blown_5 : decode cX6_blown 5 = .ok (.iaload, 1) := by decide +kernel
theorem dX6_blown_6 : decode cX6_blown 6 = .ok (.tableswitch 46 2 5 #[30, 37, 37, 44], 30) := by decide +kernel
theorem dX6_blown_36 : decode cX6_blown 36 = .ok (.aload_n 0, 1) := by decide +kernel
theorem dX6_blown_37 : decode cX6_blown 37 = .ok (.getfield 92, 3) := by decide +kernel
theorem dX6_blown_40 : decode cX6_blown 40 = .ok (.iconst 2, 1) := by decide +kernel
theorem dX6_blown_41 : decode cX6_blown 41 = .ok (.idiv, 1) := by decide +kernel
theorem dX6_blown_42 : decode cX6_blown 42 = .ok (.ireturn, 1) := by decide +kernel
theorem dX6_blown_43 : decode cX6_blown 43 = .ok (.iconst 2, 1) := by decide +kernel
theorem dX6_blown_44 : decode cX6_blown 44 = .ok (.aload_n 0, 1) := by decide +kernel
theorem dX6_blown_45 : decode cX6_blown 45 = .ok (.getfield 92, 3) := by decide +kernel
theorem dX6_blown_48 : decode cX6_blown 48 = .ok (.imul, 1) := by decide +kernel
theorem dX6_blown_49 : decode cX6_blown 49 = .ok (.ireturn, 1) := by decide +kernel
theorem dX6_blown_50 : decode cX6_blown 50 = .ok (.iconst 0, 1) := by decide +kernel
theorem dX6_blown_51 : decode cX6_blown 51 = .ok (.ireturn, 1) := by decide +kernel
theorem dX6_blown_52 : decode cX6_blown 52 = .ok (.aload_n 0, 1) := by decide +kernel
theorem dX6_blown_53 : decode cX6_blown 53 = .ok (.getfield 92, 3) := by decide +kernel
theorem dX6_blown_56 : decode cX6_blown 56 = .ok (.ireturn, 1) := by decide +kernel
set_option maxRecDepth 20000 in
theorem ggX6_ball_X6_isBall : GoodIn wsX6_ball wsX6_isBall := goodIn_r _ [8, 9, 10, 11, 7, 12, 35, 36, 37, 38, 39, 40, 41, 42, 43, 44, 45, 46, 47, 48, 49, 50, 51, 52, 53, 54, 55, 56, 57, 58, 59, 60, 61, 62, 63, 64, 65] (by decide +kernel) (by decide +kernel)
set_option maxRecDepth 20000 in
theorem gX6_ball_X6_isBall : GoodIn wsX6_ball (wsV RX6 119 RX6 yX6_isBall wsX6_isBall) := goodIn_app (goodIn_of _ (by decide +kernel)) ggX6_ball_X6_isBall
set_option maxRecDepth 20000 in
theorem ggX6_ball_X6_no : GoodIn wsX6_ball wsX6_no := goodIn_r _ [16, 17, 35, 36, 37, 38, 39, 40, 41, 42, 43, 44, 45, 46, 47, 48, 49, 50, 51, 52, 53, 54, 55, 56, 57, 58, 59, 60, 61, 62, 63, 64, 65] (by decide +kernel) (by decide +kernel)
set_option maxRecDepth 20000 in
theorem gX6_ball_X6_no : GoodIn wsX6_ball (wsV RX6 58 RX6 yX6_no wsX6_no) := goodIn_app (goodIn_of _ (by decide +kernel)) ggX6_ball_X6_no
set_option maxRecDepth 20000 in
theorem ggX6_ball_X6_drag : GoodIn wsX6_ball wsX6_drag := goodIn_r _ [21, 2, 3, 22, 23, 24, 25, 1, 35, 36, 37, 38, 39, 40, 41, 42, 43, 44, 45, 46, 47, 48, 49, 50, 51, 52, 53, 54, 55, 56, 57, 58, 59, 60, 61, 62, 63, 64, 65] (by decide +kernel) (by decide +kernel)
set_option maxRecDepth 20000 in
theorem gX6_ball_X6_drag : GoodIn wsX6_ball (wsV RX6 122 RX6 yX6_drag wsX6_drag) := goodIn_app (goodIn_of _ (by decide +kernel)) ggX6_ball_X6_drag
set_option maxRecDepth 20000 in
theorem ggX6_ball_X6_fall : GoodIn wsX6_ball wsX6_fall := goodIn_r _ [29, 1, 35, 36, 37, 38, 39, 40, 41, 42, 43, 44, 45, 46, 47, 48, 49, 50, 51, 52, 53, 54, 55, 56, 57, 58, 59, 60, 61, 62, 63, 64, 65] (by decide +kernel) (by decide +kernel)
set_option maxRecDepth 20000 in
theorem gX6_ball_X6_fall : GoodIn wsX6_ball (wsV RX6 125 RX6 yX6_fall wsX6_fall) := goodIn_app (goodIn_of _ (by decide +kernel)) ggX6_ball_X6_fall
set_option maxRecDepth 20000 in
theorem ggX6_ball_X6_blown : GoodIn wsX6_ball wsX6_blown := goodIn_r _ [33, 1, 34, 35, 36, 37, 38, 39, 40, 41, 42, 43, 44, 45, 46, 47, 48, 49, 50, 51, 52, 53, 54, 55, 56, 57, 58, 59, 60, 61, 62, 63, 64, 65] (by decide +kernel) (by decide +kernel)
set_option maxRecDepth 20000 in
theorem gX6_ball_X6_blown : GoodIn wsX6_ball (wsV RX6 128 RX6 yX6_blown wsX6_blown) := goodIn_app (goodIn_of _ (by decide +kernel)) ggX6_ball_X6_blown
theorem dX6_ball_0 : decode cX6_ball 0 = .ok (.aload_n 0, 1) := by decide +kernel
theorem dX6_ball_1 : decode cX6_ball 1 = .ok (.iload_n 1, 1) := by decide +kernel
theorem dX6_ball_2 : decode cX6_ball 2 = .ok (.invokevirtual 119, 3) := by decide +kernel
theorem dX6_ball_5 : decode cX6_ball 5 = .ok (.ifCond .ne 9, 3) := by decide +kernel
theorem dX6_ball_8 : decode cX6_ball 8 = .ok (.aload_n 0, 1) := by decide +kernel
theorem dX6_ball_9 : decode cX6_ball 9 = .ok (.iconst (-1), 1) := by decide +kernel
theorem dX6_ball_10 : decode cX6_ball 10 = .ok (.invokevirtual 58, 3) := by decide +kernel
theorem dX6_ball_13 : decode cX6_ball 13 = .ok (.ireturn, 1) := by decide +kernel
theorem dX6_ball_14 : decode cX6_ball 14 = .ok (.iload_n 2, 1) := by decide +kernel
theorem dX6_ball_15 : decode cX6_ball 15 = .ok (.tableswitch 79 0 5 #[37, 44, 51, 58, 64, 70], 37) := by decide +kernel
theorem dX6_ball_52 : decode cX6_ball 52 = .ok (.aload_n 0, 1) := by decide +kernel
theorem dX6_ball_53 : decode cX6_ball 53 = .ok (.getfield 7, 3) := by decide +kernel
theorem dX6_ball_56 : decode cX6_ball 56 = .ok (.iload_n 1, 1) := by decide +kernel
theorem dX6_ball_57 : decode cX6_ball 57 = .ok (.iaload, 1) := by decide +kernel
theorem dX6_ball_58 : decode cX6_ball 58 = .ok (.ireturn, 1) := by decide +kernel
theorem dX6_ball_59 : decode cX6_ball 59 = .ok (.aload_n 0, 1) := by decide +kernel
theorem dX6_ball_60 : decode cX6_ball 60 = .ok (.getfield 13, 3) := by decide +kernel
theorem dX6_ball_63 : decode cX6_ball 63 = .ok (.iload_n 1, 1) := by decide +kernel
theorem dX6_ball_64 : decode cX6_ball 64 = .ok (.iaload, 1) := by decide +kernel
theorem dX6_ball_65 : decode cX6_ball 65 = .ok (.ireturn, 1) := by decide +kernel
theorem dX6_ball_66 : decode cX6_ball 66 = .ok (.aload_n 0, 1) := by decide +kernel
theorem dX6_ball_67 : decode cX6_ball 67 = .ok (.getfield 16, 3) := by decide +kernel
theorem dX6_ball_70 : decode cX6_ball 70 = .ok (.iload_n 1, 1) := by decide +kernel
theorem dX6_ball_71 : decode cX6_ball 71 = .ok (.iaload, 1) := by decide +kernel
theorem dX6_ball_72 : decode cX6_ball 72 = .ok (.ireturn, 1) := by decide +kernel
theorem dX6_ball_73 : decode cX6_ball 73 = .ok (.aload_n 0, 1) := by decide +kernel
theorem dX6_ball_74 : decode cX6_ball 74 = .ok (.iload_n 1, 1) := by decide +kernel
theorem dX6_ball_75 : decode cX6_ball 75 = .ok (.invokevirtual 122, 3) := by decide +kernel
theorem dX6_ball_78 : decode cX6_ball 78 = .ok (.ireturn, 1) := by decide +kernel
theorem dX6_ball_79 : decode cX6_ball 79 = .ok (.aload_n 0, 1) := by decide +kernel
theorem dX6_ball_80 : decode cX6_ball 80 = .ok (.iload_n 1, 1) := by decide +kernel
theorem dX6_ball_81 : decode cX6_ball 81 = .ok (.invokevirtual 125, 3) := by decide +kernel
theorem dX6_ball_84 : decode cX6_ball 84 = .ok (.ireturn, 1) := by decide +kernel
theorem dX6_ball_85 : decode cX6_ball 85 = .ok (.bipush 10, 2) := by decide +kernel
theorem dX6_ball_87 : decode cX6_ball 87 = .ok (.aload_n 0, 1) := by decide +kernel
theorem dX6_ball_88 : decode cX6_ball 88 = .ok (.iload_n 1, 1) := by decide +kernel
theorem dX6_ball_89 : decode cX6_ball 89 = .ok (.invokevirtual 128, 3) := by decide +kernel
theorem dX6_ball_92 : decode cX6_ball 92 = .ok (.iadd, 1) := by decide +kernel
theorem dX6_ball_93 : decode cX6_ball 93 = .ok (.ireturn, 1) := by decide +kernel
theorem dX6_ball_94 : decode cX6_ball 94 = .ok (.aload_n 0, 1) := by decide +kernel
theorem dX6_ball_95 : decode cX6_ball 95 = .ok (.bipush (-2), 2) := by decide +kernel
theorem dX6_ball_97 : decode cX6_ball 97 = .ok (.invokevirtual 58, 3) := by decide +kernel
theorem dX6_ball_100 : decode cX6_ball 100 = .ok (.ireturn, 1) := by decide +kernel
set_option maxRecDepth 20000 in
theorem ggX6_crumple_X6_isBall : GoodIn wsX6_crumple wsX6_isBall := goodIn_r _ [6, 7, 8, 9, 5, 10, 16, 17, 18, 19, 20, 21, 22, 23, 24, 25, 26, 27, 28, 29, 30, 31, 32, 33, 34, 35, 36, 37, 38, 39, 40, 41, 42, 43, 44, 45, 46] (by decide +kernel) (by decide +kernel)
set_option maxRecDepth 20000 in
theorem gX6_crumple_X6_isBall : GoodIn wsX6_crumple (wsV RX6 119 RX6 yX6_isBall wsX6_isBall) := goodIn_app (goodIn_of _ (by decide +kernel)) ggX6_crumple_X6_isBall
set_option maxRecDepth 20000 in
theorem ggX6_crumple_X6_no : GoodIn wsX6_crumple wsX6_no := goodIn_r _ [14, 15, 16, 17, 18, 19, 20, 21, 22, 23, 24, 25, 26, 27, 28, 29, 30, 31, 32, 33, 34, 35, 36, 37, 38, 39, 40, 41, 42, 43, 44, 45, 46] (by decide +kernel) (by decide +kernel)
set_option maxRecDepth 20000 in
theorem gX6_crumple_X6_no : GoodIn wsX6_crumple (wsV RX6 58 RX6 yX6_no wsX6_no) := goodIn_app (goodIn_of _ (by decide +kernel)) ggX6_crumple_X6_no
theorem dX6_crumple_0 : decode cX6_crumple 0 = .ok (.aload_n 0, 1) := by decide +kernel
theorem dX6_crumple_1 : decode cX6_crumple 1 = .ok (.iload_n 1, 1) := by decide +kernel
theorem dX6_crumple_2 : decode cX6_crumple 2 = .ok (.invokevirtual 119, 3) := by decide +kernel
theorem dX6_crumple_5 : decode cX6_crumple 5 = .ok (.ifCond .ne 9, 3) := by decide +kernel
theorem dX6_crumple_8 : decode cX6_crumple 8 = .ok (.aload_n 0, 1) := by decide +kernel
theorem dX6_crumple_9 : decode cX6_crumple 9 = .ok (.iconst (-1), 1) := by decide +kernel
theorem dX6_crumple_10 : decode cX6_crumple 10 = .ok (.invokevirtual 58, 3) := by decide +kernel
theorem dX6_crumple_13 : decode cX6_crumple 13 = .ok (.ireturn, 1) := by decide +kernel
theorem dX6_crumple_14 : decode cX6_crumple 14 = .ok (.iload_n 2, 1) := by decide +kernel
theorem dX6_crumple_15 : decode cX6_crumple 15 = .ok (.ifCond .ge 10, 3) := by decide +kernel
theorem dX6_crumple_18 : decode cX6_crumple 18 = .ok (.aload_n 0, 1) := by decide +kernel
theorem dX6_crumple_19 : decode cX6_crumple 19 = .ok (.bipush (-4), 2) := by decide +kernel
theorem dX6_crumple_21 : decode cX6_crumple 21 = .ok (.invokevirtual 58, 3) := by decide +kernel
theorem dX6_crumple_24 : decode cX6_crumple 24 = .ok (.ireturn, 1) := by decide +kernel
theorem dX6_crumple_25 : decode cX6_crumple 25 = .ok (.iload_n 2, 1) := by decide +kernel
theorem dX6_crumple_26 : decode cX6_crumple 26 = .ok (.bipush 9, 2) := by decide +kernel
theorem dX6_crumple_28 : decode cX6_crumple 28 = .ok (.if_icmp .le 10, 3) := by decide +kernel
theorem dX6_crumple_31 : decode cX6_crumple 31 = .ok (.aload_n 0, 1) := by decide +kernel
theorem dX6_crumple_32 : decode cX6_crumple 32 = .ok (.bipush (-6), 2) := by decide +kernel
theorem dX6_crumple_34 : decode cX6_crumple 34 = .ok (.invokevirtual 58, 3) := by decide +kernel
theorem dX6_crumple_37 : decode cX6_crumple 37 = .ok (.ireturn, 1) := by decide +kernel
theorem dX6_crumple_38 : decode cX6_crumple 38 = .ok (.aload_n 0, 1) := by decide +kernel
theorem dX6_crumple_39 : decode cX6_crumple 39 = .ok (.getfield 16, 3) := by decide +kernel
theorem dX6_crumple_42 : decode cX6_crumple 42 = .ok (.iload_n 1, 1) := by decide +kernel
theorem dX6_crumple_43 : decode cX6_crumple 43 = .ok (.iaload, 1) := by decide +kernel
theorem dX6_crumple_44 : decode cX6_crumple 44 = .ok (.istore_n 3, 1) := by decide +kernel
theorem dX6_crumple_45 : decode cX6_crumple 45 = .ok (.aload_n 0, 1) := by decide +kernel
theorem dX6_crumple_46 : decode cX6_crumple 46 = .ok (.getfield 16, 3) := by decide +kernel
theorem dX6_crumple_49 : decode cX6_crumple 49 = .ok (.iload_n 1, 1) := by decide +kernel
theorem dX6_crumple_50 : decode cX6_crumple 50 = .ok (.iload_n 2, 1) := by decide +kernel
theorem dX6_crumple_51 : decode cX6_crumple 51 = .ok (.iastore, 1) := by decide +kernel
theorem dX6_crumple_52 : decode cX6_crumple 52 = .ok (.iload_n 3, 1) := by decide +kernel
theorem dX6_crumple_53 : decode cX6_crumple 53 = .ok (.ireturn, 1) := by decide +kernel
set_option maxRecDepth 20000 in
theorem ggX6_flies_X6_drag : GoodIn wsX6_flies wsX6_drag := goodIn_r _ [25, 26, 27, 11, 12, 13, 14, 28, 41, 42, 43, 44, 45, 46, 47, 48, 49, 50, 51, 52, 53, 54, 55, 56, 57, 58, 59, 60, 61, 62, 63, 64, 65, 66, 67, 68, 69, 70, 71] (by decide +kernel) (by decide +kernel)
set_option maxRecDepth 20000 in
theorem gX6_flies_X6_drag : GoodIn wsX6_flies (wsV RX6 122 RX6 yX6_drag wsX6_drag) := goodIn_app (goodIn_of _ (by decide +kernel)) ggX6_flies_X6_drag
set_option maxRecDepth 20000 in
theorem ggX6_flies_X6_within : GoodIn wsX6_flies wsX6_within := goodIn_r _ [31] (by decide +kernel) (by decide +kernel)
set_option maxRecDepth 20000 in
theorem gX6_flies_X6_within : GoodIn wsX6_flies (va_wsS RX6 65 yX6_within wsX6_within) := goodIn_app (goodIn_of _ (by decide +kernel)) ggX6_flies_X6_within
set_option maxRecDepth 20000 in
theorem ggX6_flies_X6_fall : GoodIn wsX6_flies wsX6_fall := goodIn_r _ [35, 28, 41, 42, 43, 44, 45, 46, 47, 48, 49, 50, 51, 52, 53, 54, 55, 56, 57, 58, 59, 60, 61, 62, 63, 64, 65, 66, 67, 68, 69, 70, 71] (by decide +kernel) (by decide +kernel)
set_option maxRecDepth 20000 in
theorem gX6_flies_X6_fall : GoodIn wsX6_flies (wsV RX6 125 RX6 yX6_fall wsX6_fall) := goodIn_app (goodIn_of _ (by decide +kernel)) ggX6_flies_X6_fall
set_option maxRecDepth 20000 in
theorem ggX6_flies_X6_blown : GoodIn wsX6_flies wsX6_blown := goodIn_r _ [39, 28, 40, 41, 42, 43, 44, 45, 46, 47, 48, 49, 50, 51, 52, 53, 54, 55, 56, 57, 58, 59, 60, 61, 62, 63, 64, 65, 66, 67, 68, 69, 70, 71] (by decide +kernel) (by decide +kernel)
set_option maxRecDepth 20000 in
theorem gX6_flies_X6_blown : GoodIn wsX6_flies (wsV RX6 128 RX6 yX6_blown wsX6_blown) := goodIn_app (goodIn_of _ (by decide +kernel)) ggX6_flies_X6_blown
theorem dX6_flies_0 : decode cX6_flies 0 = .ok (.aload_n 0, 1) := by decide +kernel
theorem dX6_flies_1 : decode cX6_flies 1 = .ok (.getfield 34, 3) := by decide +kernel
theorem dX6_flies_4 : decode cX6_flies 4 = .ok (.istore 5, 2) := by decide +kernel
theorem dX6_flies_6 : decode cX6_flies 6 = .ok (.aload_n 0, 1) := by decide +kernel
theorem dX6_flies_7 : decode cX6_flies 7 = .ok (.iload_n 1, 1) := by decide +kernel
theorem dX6_flies_8 : decode cX6_flies 8 = .ok (.invokevirtual 122, 3) := by decide +kernel
theorem dX6_flies_11 : decode cX6_flies 11 = .ok (.istore 6, 2) := by decide +kernel
theorem dX6_flies_13 : decode cX6_flies 13 = .ok (.aload_n 0, 1) := by decide +kernel
theorem dX6_flies_14 : decode cX6_flies 14 = .ok (.iconst 0, 1) := by decide +kernel
theorem dX6_flies_15 : decode cX6_flies 15 = .ok (.putfield 131, 3) := by decide +kernel
theorem dX6_flies_18 : decode cX6_flies 18 = .ok (.aload_n 0, 1) := by decide +kernel
theorem dX6_flies_19 : decode cX6_flies 19 = .ok (.iconst 0, 1) := by decide +kernel
theorem dX6_flies_20 : decode cX6_flies 20 = .ok (.putfield 134, 3) := by decide +kernel
theorem dX6_flies_23 : decode cX6_flies 23 = .ok (.aload_n 0, 1) := by decide +kernel
theorem dX6_flies_24 : decode cX6_flies 24 = .ok (.aload_n 0, 1) := by decide +kernel
theorem dX6_flies_25 : decode cX6_flies 25 = .ok (.getfield 34, 3) := by decide +kernel
theorem dX6_flies_28 : decode cX6_flies 28 = .ok (.putfield 137, 3) := by decide +kernel
theorem dX6_flies_31 : decode cX6_flies 31 = .ok (.aload_n 0, 1) := by decide +kernel
theorem dX6_flies_32 : decode cX6_flies 32 = .ok (.iconst 0, 1) := by decide +kernel
theorem dX6_flies_33 : decode cX6_flies 33 = .ok (.putfield 140, 3) := by decide +kernel
theorem dX6_flies_36 : decode cX6_flies 36 = .ok (.aload_n 0, 1) := by decide +kernel
theorem dX6_flies_37 : decode cX6_flies 37 = .ok (.getfield 134, 3) := by decide +kernel
theorem dX6_flies_40 : decode cX6_flies 40 = .ok (.bipush 60, 2) := by decide +kernel
theorem dX6_flies_42 : decode cX6_flies 42 = .ok (.if_icmp .ge 380, 3) := by decide +kernel
theorem dX6_flies_45 : decode cX6_flies 45 = .ok (.aload_n 0, 1) := by decide +kernel
theorem dX6_flies_46 : decode cX6_flies 46 = .ok (.dup, 1) := by decide +kernel
theorem dX6_flies_47 : decode cX6_flies 47 = .ok (.getfield 134, 3) := by decide +kernel
theorem dX6_flies_50 : decode cX6_flies 50 = .ok (.iconst 1, 1) := by decide +kernel
theorem dX6_flies_51 : decode cX6_flies 51 = .ok (.iadd, 1) := by decide +kernel
theorem dX6_flies_52 : decode cX6_flies 52 = .ok (.putfield 134, 3) := by decide +kernel
theorem dX6_flies_55 : decode cX6_flies 55 = .ok (.iload 5, 2) := by decide +kernel
theorem dX6_flies_57 : decode cX6_flies 57 = .ok (.istore 7, 2) := by decide +kernel
theorem dX6_flies_59 : decode cX6_flies 59 = .ok (.iload_n 3, 1) := by decide +kernel
theorem dX6_flies_60 : decode cX6_flies 60 = .ok (.ifCond .ge 7, 3) := by decide +kernel
theorem dX6_flies_63 : decode cX6_flies 63 = .ok (.iconst 1, 1) := by decide +kernel
theorem dX6_flies_64 : decode cX6_flies 64 = .ok (.goto 4, 3) := by decide +kernel
theorem dX6_flies_67 : decode cX6_flies 67 = .ok (.iconst 0, 1) := by decide +kernel
theorem dX6_flies_68 : decode cX6_flies 68 = .ok (.istore 8, 2) := by decide +kernel
theorem dX6_flies_70 : decode cX6_flies 70 = .ok (.aload_n 0, 1) := by decide +kernel
theorem dX6_flies_71 : decode cX6_flies 71 = .ok (.dup, 1) := by decide +kernel
theorem dX6_flies_72 : decode cX6_flies 72 = .ok (.getfield 131, 3) := by decide +kernel
theorem dX6_flies_75 : decode cX6_flies 75 = .ok (.iload_n 2, 1) := by decide +kernel
theorem dX6_flies_76 : decode cX6_flies 76 = .ok (.iadd, 1) := by decide +kernel
theorem dX6_flies_77 : decode cX6_flies 77 = .ok (.putfield 131, 3) := by decide +kernel
theorem dX6_flies_80 : decode cX6_flies 80 = .ok (.iload 5, 2) := by decide +kernel
theorem dX6_flies_82 : decode cX6_flies 82 = .ok (.iload_n 3, 1) := by decide +kernel
theorem dX6_flies_83 : decode cX6_flies 83 = .ok (.iadd, 1) := by decide +kernel
theorem dX6_flies_84 : decode cX6_flies 84 = .ok (.istore 5, 2) := by decide +kernel
theorem dX6_flies_86 : decode cX6_flies 86 = .ok (.iload 5, 2) := by decide +kernel
theorem dX6_flies_88 : decode cX6_flies 88 = .ok (.aload_n 0, 1) := by decide +kernel
theorem dX6_flies_89 : decode cX6_flies 89 = .ok (.getfield 50, 3) := by decide +kernel
theorem dX6_flies_92 : decode cX6_flies 92 = .ok (.if_icmp .le 27, 3) := by decide +kernel
theorem dX6_flies_95 : decode cX6_flies 95 = .ok (.iconst 2, 1) := by decide +kernel
theorem dX6_flies_96 : decode cX6_flies 96 = .ok (.aload_n 0, 1) := by decide +kernel
theorem dX6_flies_97 : decode cX6_flies 97 = .ok (.getfield 50, 3) := by decide +kernel
theorem dX6_flies_100 : decode cX6_flies 100 = .ok (.imul, 1) := by decide +kernel
theorem dX6_flies_101 : decode cX6_flies 101 = .ok (.iload 5, 2) := by decide +kernel
theorem dX6_flies_103 : decode cX6_flies 103 = .ok (.isub, 1) := by decide +kernel
theorem dX6_flies_104 : decode cX6_flies 104 = .ok (.istore 5, 2) := by decide +kernel
theorem dX6_flies_106 : decode cX6_flies 106 = .ok (.iload_n 3, 1) := by decide +kernel
theorem dX6_flies_107 : decode cX6_flies 107 = .ok (.ineg, 1) := by decide +kernel
theorem dX6_flies_108 : decode cX6_flies 108 = .ok (.istore_n 3, 1) := by decide +kernel
theorem dX6_flies_109 : decode cX6_flies 109 = .ok (.aload_n 0, 1) := by decide +kernel
theorem dX6_flies_110 : decode cX6_flies 110 = .ok (.dup, 1) := by decide +kernel
theorem dX6_flies_111 : decode cX6_flies 111 = .ok (.getfield 140, 3) := by decide +kernel
theorem dX6_flies_114 : decode cX6_flies 114 = .ok (.iconst 1, 1) := by decide +kernel
theorem dX6_flies_115 : decode cX6_flies 115 = .ok (.ior, 1) := by decide +kernel
theorem dX6_flies_116 : decode cX6_flies 116 = .ok (.putfield 140, 3) := by decide +kernel
theorem dX6_flies_119 : decode cX6_flies 119 = .ok (.aload_n 0, 1) := by decide +kernel
theorem dX6_flies_120 : decode cX6_flies 120 = .ok (.getfield 131, 3) := by decide +kernel
theorem dX6_flies_123 : decode cX6_flies 123 = .ok (.aload_n 0, 1) := by decide +kernel
theorem dX6_flies_124 : decode cX6_flies 124 = .ok (.getfield 47, 3) := by decide +kernel
theorem dX6_flies_127 : decode cX6_flies 127 = .ok (.if_icmp .le 33, 3) := by decide +kernel
theorem dX6_flies_130 : decode cX6_flies 130 = .ok (.aload_n 0, 1) := by decide +kernel
theorem dX6_flies_131 : decode cX6_flies 131 = .ok (.iconst 2, 1) := by decide +kernel
theorem dX6_flies_132 : decode cX6_flies 132 = .ok (.aload_n 0, 1) := by decide +kernel
theorem dX6_flies_133 : decode cX6_flies 133 = .ok (.getfield 47, 3) := by decide +kernel
theorem dX6_flies_136 : decode cX6_flies 136 = .ok (.imul, 1) := by decide +kernel
theorem dX6_flies_137 : decode cX6_flies 137 = .ok (.aload_n 0, 1) := by decide +kernel
theorem dX6_flies_138 : decode cX6_flies 138 = .ok (.getfield 131, 3) := by decide +kernel
theorem dX6_flies_141 : decode cX6_flies 141 = .ok (.isub, 1) := by decide +kernel
theorem dX6_flies_142 : decode cX6_flies 142 = .ok (.putfield 131, 3) := by decide +kernel
theorem dX6_flies_145 : decode cX6_flies 145 = .ok (.iload_n 2, 1) := by decide +kernel
theorem dX6_flies_146 : decode cX6_flies 146 = .ok (.ineg, 1) := by decide +kernel
theorem dX6_flies_147 : decode cX6_flies 147 = .ok (.iconst 2, 1) := by decide +kernel
theorem dX6_flies_148 : decode cX6_flies 148 = .ok (.idiv, 1) := by decide +kernel
theorem dX6_flies_149 : decode cX6_flies 149 = .ok (.istore_n 2, 1) := by decide +kernel
theorem dX6_flies_150 : decode cX6_flies 150 = .ok (.aload_n 0, 1) := by decide +kernel
theorem dX6_flies_151 : decode cX6_flies 151 = .ok (.dup, 1) := by decide +kernel
theorem dX6_flies_152 : decode cX6_flies 152 = .ok (.getfield 140, 3) := by decide +kernel
theorem dX6_flies_155 : decode cX6_flies 155 = .ok (.iconst 2, 1) := by decide +kernel
theorem dX6_flies_156 : decode cX6_flies 156 = .ok (.ior, 1) := by decide +kernel
theorem dX6_flies_157 : decode cX6_flies 157 = .ok (.putfield 140, 3) := by decide +kernel
theorem dX6_flies_160 : decode cX6_flies 160 = .ok (.aload_n 0, 1) := by decide +kernel
theorem dX6_flies_161 : decode cX6_flies 161 = .ok (.getfield 131, 3) := by decide +kernel
theorem dX6_flies_164 : decode cX6_flies 164 = .ok (.ifCond .ge 10, 3) := by decide +kernel
theorem dX6_flies_167 : decode cX6_flies 167 = .ok (.aload_n 0, 1) := by decide +kernel
theorem dX6_flies_168 : decode cX6_flies 168 = .ok (.iconst 0, 1) := by decide +kernel
theorem dX6_flies_169 : decode cX6_flies 169 = .ok (.putfield 131, 3) := by decide +kernel
theorem dX6_flies_172 : decode cX6_flies 172 = .ok (.iconst 0, 1) := by decide +kernel
theorem dX6_flies_173 : decode cX6_flies 173 = .ok (.istore_n 2, 1) := by decide +kernel
theorem dX6_flies_174 : decode cX6_flies 174 = .ok (.iload 8, 2) := by decide +kernel
theorem dX6_flies_176 : decode cX6_flies 176 = .ok (.ifCond .eq 143, 3) := by decide +kernel
theorem dX6_flies_179 : decode cX6_flies 179 = .ok (.iload 7, 2) := by decide +kernel
theorem dX6_flies_181 : decode cX6_flies 181 = .ok (.aload_n 0, 1) := by decide +kernel
theorem dX6_flies_182 : decode cX6_flies 182 = .ok (.getfield 44, 3) := by decide +kernel
theorem dX6_flies_185 : decode cX6_flies 185 = .ok (.if_icmp .le 134, 3) := by decide +kernel
theorem dX6_flies_188 : decode cX6_flies 188 = .ok (.iload 5, 2) := by decide +kernel
theorem dX6_flies_190 : decode cX6_flies 190 = .ok (.aload_n 0, 1) := by decide +kernel
theorem dX6_flies_191 : decode cX6_flies 191 = .ok (.getfield 44, 3) := by decide +kernel
theorem dX6_flies_194 : decode cX6_flies 194 = .ok (.if_icmp .gt 125, 3) := by decide +kernel
theorem dX6_flies_197 : decode cX6_flies 197 = .ok (.aload_n 0, 1) := by decide +kernel
theorem dX6_flies_198 : decode cX6_flies 198 = .ok (.getfield 131, 3) := by decide +kernel
theorem dX6_flies_201 : decode cX6_flies 201 = .ok (.aload_n 0, 1) := by decide +kernel
theorem dX6_flies_202 : decode cX6_flies 202 = .ok (.getfield 38, 3) := by decide +kernel
theorem dX6_flies_205 : decode cX6_flies 205 = .ok (.aload_n 0, 1) := by decide +kernel
theorem dX6_flies_206 : decode cX6_flies 206 = .ok (.getfield 38, 3) := by decide +kernel
theorem dX6_flies_209 : decode cX6_flies 209 = .ok (.aload_n 0, 1) := by decide +kernel
theorem dX6_flies_210 : decode cX6_flies 210 = .ok (.getfield 41, 3) := by decide +kernel
theorem dX6_flies_213 : decode cX6_flies 213 = .ok (.iadd, 1) := by decide +kernel
theorem dX6_flies_214 : decode cX6_flies 214 = .ok (.iconst 1, 1) := by decide +kernel
theorem dX6_flies_215 : decode cX6_flies 215 = .ok (.isub, 1) := by decide +kernel
theorem dX6_flies_216 : decode cX6_flies 216 = .ok (.invokestatic 65, 3) := by decide +kernel
theorem dX6_flies_219 : decode cX6_flies 219 = .ok (.ifCond .eq 39, 3) := by decide +kernel
theorem dX6_flies_222 : decode cX6_flies 222 = .ok (.aload_n 0, 1) := by decide +kernel
theorem dX6_flies_223 : decode cX6_flies 223 = .ok (.aload_n 0, 1) := by decide +kernel
theorem dX6_flies_224 : decode cX6_flies 224 = .ok (.getfield 137, 3) := by decide +kernel
theorem dX6_flies_227 : decode cX6_flies 227 = .ok (.iload 5, 2) := by decide +kernel
theorem dX6_flies_229 : decode cX6_flies 229 = .ok (.invokestatic 113, 3) := by decide +kernel
theorem dX6_flies_232 : decode cX6_flies 232 = .ok (.putfield 137, 3) := by decide +kernel
theorem dX6_flies_235 : decode cX6_flies 235 = .ok (.aload_n 0, 1) := by decide +kernel
theorem dX6_flies_236 : decode cX6_flies 236 = .ok (.aload_n 0, 1) := by decide +kernel
theorem dX6_flies_237 : decode cX6_flies 237 = .ok (.getfield 89, 3) := by decide +kernel
theorem dX6_flies_240 : decode cX6_flies 240 = .ok (.bipush 9, 2) := by decide +kernel
theorem dX6_flies_242 : decode cX6_flies 242 = .ok (.if_icmp .ne 7, 3) := by decide +kernel
theorem dX6_flies_245 : decode cX6_flies 245 = .ok (.iconst 3, 1) := by decide +kernel
theorem dX6_flies_246 : decode cX6_flies 246 = .ok (.goto 4, 3) := by decide +kernel
theorem dX6_flies_249 : decode cX6_flies 249 = .ok (.iconst 0, 1) := by decide +kernel
theorem dX6_flies_250 : decode cX6_flies 250 = .ok (.putfield 143, 3) := by decide +kernel
theorem dX6_flies_253 : decode cX6_flies 253 = .ok (.aload_n 0, 1) := by decide +kernel
theorem dX6_flies_254 : decode cX6_flies 254 = .ok (.getfield 143, 3) := by decide +kernel
theorem dX6_flies_257 : decode cX6_flies 257 = .ok (.ireturn, 1) := by decide +kernel
theorem dX6_flies_258 : decode cX6_flies 258 = .ok (.aload_n 0, 1) := by decide +kernel
theorem dX6_flies_259 : decode cX6_flies 259 = .ok (.getfield 131, 3) := by decide +kernel
theorem dX6_flies_262 : decode cX6_flies 262 = .ok (.aload_n 0, 1) := by decide +kernel
theorem dX6_flies_263 : decode cX6_flies 263 = .ok (.getfield 38, 3) := by decide +kernel
theorem dX6_flies_266 : decode cX6_flies 266 = .ok (.iconst 1, 1) := by decide +kernel
theorem dX6_flies_267 : decode cX6_flies 267 = .ok (.isub, 1) := by decide +kernel
theorem dX6_flies_268 : decode cX6_flies 268 = .ok (.if_icmp .eq 19, 3) := by decide +kernel
theorem dX6_flies_271 : decode cX6_flies 271 = .ok (.aload_n 0, 1) := by decide +kernel
theorem dX6_flies_272 : decode cX6_flies 272 = .ok (.getfield 131, 3) := by decide +kernel
theorem dX6_flies_275 : decode cX6_flies 275 = .ok (.aload_n 0, 1) := by decide +kernel
theorem dX6_flies_276 : decode cX6_flies 276 = .ok (.getfield 38, 3) := by decide +kernel
theorem dX6_flies_279 : decode cX6_flies 279 = .ok (.aload_n 0, 1) := by decide +kernel
theorem dX6_flies_280 : decode cX6_flies 280 = .ok (.getfield 41, 3) := by decide +kernel
theorem dX6_flies_283 : decode cX6_flies 283 = .ok (.iadd, 1) := by decide +kernel
theorem dX6_flies_284 : decode cX6_flies 284 = .ok (.if_icmp .ne 35, 3) := by decide +kernel
theorem dX6_flies_287 : decode cX6_flies 287 = .ok (.aload_n 0, 1) := by decide +kernel
theorem dX6_flies_288 : decode cX6_flies 288 = .ok (.getfield 140, 3) := by decide +kernel
theorem dX6_flies_291 : decode cX6_flies 291 = .ok (.iconst 4, 1) := by decide +kernel
theorem dX6_flies_292 : decode cX6_flies 292 = .ok (.iand, 1) := by decide +kernel
theorem dX6_flies_293 : decode cX6_flies 293 = .ok (.ifCond .ne 26, 3) := by decide +kernel
theorem dX6_flies_296 : decode cX6_flies 296 = .ok (.aload_n 0, 1) := by decide +kernel
theorem dX6_flies_297 : decode cX6_flies 297 = .ok (.getfield 44, 3) := by decide +kernel
theorem dX6_flies_300 : decode cX6_flies 300 = .ok (.iconst 1, 1) := by decide +kernel
theorem dX6_flies_301 : decode cX6_flies 301 = .ok (.iadd, 1) := by decide +kernel
theorem dX6_flies_302 : decode cX6_flies 302 = .ok (.istore 5, 2) := by decide +kernel
theorem dX6_flies_304 : decode cX6_flies 304 = .ok (.iload_n 2, 1) := by decide +kernel
theorem dX6_flies_305 : decode cX6_flies 305 = .ok (.ineg, 1) := by decide +kernel
theorem dX6_flies_306 : decode cX6_flies 306 = .ok (.istore_n 2, 1) := by decide +kernel
theorem dX6_flies_307 : decode cX6_flies 307 = .ok (.iconst 1, 1) := by decide +kernel
theorem dX6_flies_308 : decode cX6_flies 308 = .ok (.istore_n 3, 1) := by decide +kernel
theorem dX6_flies_309 : decode cX6_flies 309 = .ok (.aload_n 0, 1) := by decide +kernel
theorem dX6_flies_310 : decode cX6_flies 310 = .ok (.dup, 1) := by decide +kernel
theorem dX6_flies_311 : decode cX6_flies 311 = .ok (.getfield 140, 3) := by decide +kernel
theorem dX6_flies_314 : decode cX6_flies 314 = .ok (.iconst 4, 1) := by decide +kernel
theorem dX6_flies_315 : decode cX6_flies 315 = .ok (.ior, 1) := by decide +kernel
theorem dX6_flies_316 : decode cX6_flies 316 = .ok (.putfield 140, 3) := by decide +kernel
theorem dX6_flies_319 : decode cX6_flies 319 = .ok (.aload_n 0, 1) := by decide +kernel
theorem dX6_flies_320 : decode cX6_flies 320 = .ok (.aload_n 0, 1) := by decide +kernel
theorem dX6_flies_321 : decode cX6_flies 321 = .ok (.getfield 137, 3) := by decide +kernel
theorem dX6_flies_324 : decode cX6_flies 324 = .ok (.iload 5, 2) := by decide +kernel
theorem dX6_flies_326 : decode cX6_flies 326 = .ok (.invokestatic 113, 3) := by decide +kernel
theorem dX6_flies_329 : decode cX6_flies 329 = .ok (.putfield 137, 3) := by decide +kernel
theorem dX6_flies_332 : decode cX6_flies 332 = .ok (.iload 5, 2) := by decide +kernel
theorem dX6_flies_334 : decode cX6_flies 334 = .ok (.ifCond .gt 28, 3) := by decide +kernel
theorem dX6_flies_337 : decode cX6_flies 337 = .ok (.aload_n 0, 1) := by decide +kernel
theorem dX6_flies_338 : decode cX6_flies 338 = .ok (.aload_n 0, 1) := by decide +kernel
theorem dX6_flies_339 : decode cX6_flies 339 = .ok (.getfield 131, 3) := by decide +kernel
theorem dX6_flies_342 : decode cX6_flies 342 = .ok (.aload_n 0, 1) := by decide +kernel
theorem dX6_flies_343 : decode cX6_flies 343 = .ok (.getfield 38, 3) := by decide +kernel
theorem dX6_flies_346 : decode cX6_flies 346 = .ok (.if_icmp .ge 7, 3) := by decide +kernel
theorem dX6_flies_349 : decode cX6_flies 349 = .ok (.iconst 1, 1) := by decide +kernel
theorem dX6_flies_350 : decode cX6_flies 350 = .ok (.goto 4, 3) := by decide +kernel
theorem dX6_flies_353 : decode cX6_flies 353 = .ok (.iconst 2, 1) := by decide +kernel
theorem dX6_flies_354 : decode cX6_flies 354 = .ok (.putfield 143, 3) := by decide +kernel
theorem dX6_flies_357 : decode cX6_flies 357 = .ok (.aload_n 0, 1) := by decide +kernel
theorem dX6_flies_358 : decode cX6_flies 358 = .ok (.getfield 143, 3) := by decide +kernel
theorem dX6_flies_361 : decode cX6_flies 361 = .ok (.ireturn, 1) := by decide +kernel
theorem dX6_flies_362 : decode cX6_flies 362 = .ok (.iload_n 2, 1) := by decide +kernel
theorem dX6_flies_363 : decode cX6_flies 363 = .ok (.ifCond .le 14, 3) := by decide +kernel
theorem dX6_flies_366 : decode cX6_flies 366 = .ok (.iconst 0, 1) := by decide +kernel
theorem dX6_flies_367 : decode cX6_flies 367 = .ok (.iload_n 2, 1) := by decide +kernel
theorem dX6_flies_368 : decode cX6_flies 368 = .ok (.iload 6, 2) := by decide +kernel
theorem dX6_flies_370 : decode cX6_flies 370 = .ok (.isub, 1) := by decide +kernel
theorem dX6_flies_371 : decode cX6_flies 371 = .ok (.invokestatic 113, 3) := by decide +kernel
theorem dX6_flies_374 : decode cX6_flies 374 = .ok (.goto 11, 3) := by decide +kernel
theorem dX6_flies_377 : decode cX6_flies 377 = .ok (.iconst 0, 1) := by decide +kernel
theorem dX6_flies_378 : decode cX6_flies 378 = .ok (.iload_n 2, 1) := by decide +kernel
theorem dX6_flies_379 : decode cX6_flies 379 = .ok (.iload 6, 2) := by decide +kernel
theorem dX6_flies_381 : decode cX6_flies 381 = .ok (.iadd, 1) := by decide +kernel
theorem dX6_flies_382 : decode cX6_flies 382 = .ok (.invokestatic 146, 3) := by decide +kernel
theorem dX6_flies_385 : decode cX6_flies 385 = .ok (.istore_n 2, 1) := by decide +kernel
theorem dX6_flies_386 : decode cX6_flies 386 = .ok (.iload_n 3, 1) := by decide +kernel
theorem dX6_flies_387 : decode cX6_flies 387 = .ok (.aload_n 0, 1) := by decide +kernel
theorem dX6_flies_388 : decode cX6_flies 388 = .ok (.iload_n 1, 1) := by decide +kernel
theorem dX6_flies_389 : decode cX6_flies 389 = .ok (.invokevirtual 125, 3) := by decide +kernel
theorem dX6_flies_392 : decode cX6_flies 392 = .ok (.isub, 1) := by decide +kernel
theorem dX6_flies_393 : decode cX6_flies 393 = .ok (.istore_n 3, 1) := by decide +kernel
theorem dX6_flies_394 : decode cX6_flies 394 = .ok (.iload 4, 2) := by decide +kernel
theorem dX6_flies_396 : decode cX6_flies 396 = .ok (.aload_n 0, 1) := by decide +kernel
theorem dX6_flies_397 : decode cX6_flies 397 = .ok (.getfield 134, 3) := by decide +kernel
theorem dX6_flies_400 : decode cX6_flies 400 = .ok (.iconst 4, 1) := by decide +kernel
theorem dX6_flies_401 : decode cX6_flies 401 = .ok (.idiv, 1) := by decide +kernel
theorem dX6_flies_402 : decode cX6_flies 402 = .ok (.iadd, 1) := by decide +kernel
theorem dX6_flies_403 : decode cX6_flies 403 = .ok (.aload_n 0, 1) := by decide +kernel
theorem dX6_flies_404 : decode cX6_flies 404 = .ok (.getfield 53, 3) := by decide +kernel
theorem dX6_flies_407 : decode cX6_flies 407 = .ok (.irem, 1) := by decide +kernel
theorem dX6_flies_408 : decode cX6_flies 408 = .ok (.ifCond .ne 11, 3) := by decide +kernel
theorem dX6_flies_411 : decode cX6_flies 411 = .ok (.iload_n 2, 1) := by decide +kernel
theorem dX6_flies_412 : decode cX6_flies 412 = .ok (.aload_n 0, 1) := by decide +kernel
theorem dX6_flies_413 : decode cX6_flies 413 = .ok (.iload_n 1, 1) := by decide +kernel
theorem dX6_flies_414 : decode cX6_flies 414 = .ok (.invokevirtual 128, 3) := by decide +kernel
theorem dX6_flies_417 : decode cX6_flies 417 = .ok (.iadd, 1) := by decide +kernel
theorem dX6_flies_418 : decode cX6_flies 418 = .ok (.istore_n 2, 1) := by decide +kernel
theorem dX6_flies_419 : decode cX6_flies 419 = .ok (.goto (-383), 3) := by decide +kernel
theorem dX6_flies_422 : decode cX6_flies 422 = .ok (.aload_n 0, 1) := by decide +kernel
theorem dX6_flies_423 : decode cX6_flies 423 = .ok (.iconst 1, 1) := by decide +kernel
theorem dX6_flies_424 : decode cX6_flies 424 = .ok (.putfield 143, 3) := by decide +kernel
theorem dX6_flies_427 : decode cX6_flies 427 = .ok (.aload_n 0, 1) := by decide +kernel
theorem dX6_flies_428 : decode cX6_flies 428 = .ok (.getfield 143, 3) := by decide +kernel
theorem dX6_flies_431 : decode cX6_flies 431 = .ok (.ireturn, 1) := by decide +kernel
set_option maxRecDepth 20000 in
theorem ggX6_isIn_X6_flies : GoodIn wsX6_isIn wsX6_flies := goodIn_r _ [6, 7, 8, 9, 10, 11, 12, 13, 14, 15, 16, 17, 18, 19, 20, 21, 22, 23, 24, 25, 26, 27, 28, 29, 5, 30, 31, 32, 33, 34, 35, 36, 37, 38, 39, 40, 41, 42, 43, 44, 45, 46, 47, 48, 49, 50, 51, 52, 53, 54, 55, 56, 57, 58, 59, 60, 61, 62, 63, 64, 65, 66, 67, 68, 69, 70, 71, 72, 73, 74, 75, 76] (by decide +kernel) (by decide +kernel)
set_option maxRecDepth 20000 in
theorem gX6_isIn_X6_flies : GoodIn wsX6_isIn (wsV RX6 152 RX6 yX6_flies wsX6_flies) := goodIn_app (goodIn_of _ (by decide +kernel)) ggX6_isIn_X6_flies
theorem dX6_isIn_0 : decode cX6_isIn 0 = .ok (.aload_n 0, 1) := by decide +kernel
theorem dX6_isIn_1 : decode cX6_isIn 1 = .ok (.iload_n 1, 1) := by decide +kernel
theorem dX6_isIn_2 : decode cX6_isIn 2 = .ok (.iload_n 2, 1) := by decide +kernel
theorem dX6_isIn_3 : decode cX6_isIn 3 = .ok (.iload_n 3, 1) := by decide +kernel
theorem dX6_isIn_4 : decode cX6_isIn 4 = .ok (.aload_n 0, 1) := by decide +kernel
theorem dX6_isIn_5 : decode cX6_isIn 5 = .ok (.getfield 149, 3) := by decide +kernel
theorem dX6_isIn_8 : decode cX6_isIn 8 = .ok (.invokevirtual 152, 3) := by decide +kernel
theorem dX6_isIn_11 : decode cX6_isIn 11 = .ok (.ifCond .ne 7, 3) := by decide +kernel
theorem dX6_isIn_14 : decode cX6_isIn 14 = .ok (.iconst 1, 1) := by decide +kernel
theorem dX6_isIn_15 : decode cX6_isIn 15 = .ok (.goto 4, 3) := by decide +kernel
theorem dX6_isIn_18 : decode cX6_isIn 18 = .ok (.iconst 0, 1) := by decide +kernel
theorem dX6_isIn_19 : decode cX6_isIn 19 = .ok (.ireturn, 1) := by decide +kernel
theorem dX6_noThrow_0 : decode cX6_noThrow 0 = .ok (.iload_n 1, 1) := by decide +kernel
theorem dX6_noThrow_1 : decode cX6_noThrow 1 = .ok (.iconst 1, 1) := by decide +kernel
theorem dX6_noThrow_2 : decode cX6_noThrow 2 = .ok (.if_icmp .lt 9, 3) := by decide +kernel
theorem dX6_noThrow_5 : decode cX6_noThrow 5 = .ok (.iload_n 2, 1) := by decide +kernel
theorem dX6_noThrow_6 : decode cX6_noThrow 6 = .ok (.bipush (-5), 2) := by decide +kernel
theorem dX6_noThrow_8 : decode cX6_noThrow 8 = .ok (.if_icmp .ge 6, 3) := by decide +kernel
theorem dX6_noThrow_11 : decode cX6_noThrow 11 = .ok (.bipush (-4), 2) := by decide +kernel
theorem dX6_noThrow_13 : decode cX6_noThrow 13 = .ok (.ireturn, 1) := by decide +kernel
theorem dX6_noThrow_14 : decode cX6_noThrow 14 = .ok (.iload_n 1, 1) := by decide +kernel
theorem dX6_noThrow_15 : decode cX6_noThrow 15 = .ok (.bipush 9, 2) := by decide +kernel
theorem dX6_noThrow_17 : decode cX6_noThrow 17 = .ok (.if_icmp .gt 9, 3) := by decide +kernel
theorem dX6_noThrow_20 : decode cX6_noThrow 20 = .ok (.iload_n 2, 1) := by decide +kernel
theorem dX6_noThrow_21 : decode cX6_noThrow 21 = .ok (.bipush 15, 2) := by decide +kernel
theorem dX6_noThrow_23 : decode cX6_noThrow 23 = .ok (.if_icmp .le 8, 3) := by decide +kernel
theorem dX6_noThrow_26 : decode cX6_noThrow 26 = .ok (.bipush (-6), 2) := by decide +kernel
theorem dX6_noThrow_28 : decode cX6_noThrow 28 = .ok (.goto 4, 3) := by decide +kernel
theorem dX6_noThrow_31 : decode cX6_noThrow 31 = .ok (.iconst 0, 1) := by decide +kernel
theorem dX6_noThrow_32 : decode cX6_noThrow 32 = .ok (.ireturn, 1) := by decide +kernel
set_option maxRecDepth 20000 in
theorem ggX6_fly_X6_isBall : GoodIn wsX6_fly wsX6_isBall := goodIn_r _ [11, 12, 13, 14, 10, 15, 60, 61, 62, 63, 64, 65, 66, 67, 68, 69, 70, 71, 72, 73, 74, 75, 76, 77, 78, 79, 80, 81, 82, 83, 84, 85, 86, 87, 88, 89, 90] (by decide +kernel) (by decide +kernel)
set_option maxRecDepth 20000 in
theorem gX6_fly_X6_isBall : GoodIn wsX6_fly (wsV RX6 119 RX6 yX6_isBall wsX6_isBall) := goodIn_app (goodIn_of _ (by decide +kernel)) ggX6_fly_X6_isBall
set_option maxRecDepth 20000 in
theorem ggX6_fly_X6_no : GoodIn wsX6_fly wsX6_no := goodIn_r _ [19, 20, 60, 61, 62, 63, 64, 65, 66, 67, 68, 69, 70, 71, 72, 73, 74, 75, 76, 77, 78, 79, 80, 81, 82, 83, 84, 85, 86, 87, 88, 89, 90] (by decide +kernel) (by decide +kernel)
set_option maxRecDepth 20000 in
theorem gX6_fly_X6_no : GoodIn wsX6_fly (wsV RX6 58 RX6 yX6_no wsX6_no) := goodIn_app (goodIn_of _ (by decide +kernel)) ggX6_fly_X6_no
set_option maxRecDepth 20000 in
theorem ggX6_fly_X6_noThrow : GoodIn wsX6_fly wsX6_noThrow := goodIn_r _ [24] (by decide +kernel) (by decide +kernel)
set_option maxRecDepth 20000 in
theorem gX6_fly_X6_noThrow : GoodIn wsX6_fly (wsV RX6 156 RX6 yX6_noThrow wsX6_noThrow) := goodIn_app (goodIn_of _ (by decide +kernel)) ggX6_fly_X6_noThrow
set_option maxRecDepth 20000 in
theorem ggX6_fly_X6_within : GoodIn wsX6_fly wsX6_within := goodIn_r _ [15] (by decide +kernel) (by decide +kernel)
set_option maxRecDepth 20000 in
theorem gX6_fly_X6_within : GoodIn wsX6_fly (va_wsS RX6 65 yX6_within wsX6_within) := goodIn_app (goodIn_of _ (by decide +kernel)) ggX6_fly_X6_within
set_option maxRecDepth 20000 in
theorem ggX6_fly_X6_flies : GoodIn wsX6_fly wsX6_flies := goodIn_r _ [28, 29, 3, 4, 5, 6, 30, 31, 32, 33, 34, 35, 36, 37, 38, 39, 2, 40, 41, 42, 43, 44, 45, 46, 10, 47, 48, 49, 50, 13, 14, 15, 51, 52, 53, 54, 55, 56, 57, 58, 59, 60, 61, 62, 63, 64, 65, 66, 67, 68, 69, 70, 71, 72, 73, 74, 75, 76, 77, 78, 79, 80, 81, 82, 83, 84, 85, 86, 87, 88, 89, 90] (by decide +kernel) (by decide +kernel)
set_option maxRecDepth 20000 in
theorem gX6_fly_X6_flies : GoodIn wsX6_fly (wsV RX6 152 RX6 yX6_flies wsX6_flies) := goodIn_app (goodIn_of _ (by decide +kernel)) ggX6_fly_X6_flies
theorem dX6_fly_0 : decode cX6_fly 0 = .ok (.aload_n 0, 1) := by decide +kernel
theorem dX6_fly_1 : decode cX6_fly 1 = .ok (.iload_n 1, 1) := by decide +kernel
theorem dX6_fly_2 : decode cX6_fly 2 = .ok (.invokevirtual 119, 3) := by decide +kernel
theorem dX6_fly_5 : decode cX6_fly 5 = .ok (.ifCond .ne 9, 3) := by decide +kernel
theorem dX6_fly_8 : decode cX6_fly 8 = .ok (.aload_n 0, 1) := by decide +kernel
theorem dX6_fly_9 : decode cX6_fly 9 = .ok (.iconst (-1), 1) := by decide +kernel
theorem dX6_fly_10 : decode cX6_fly 10 = .ok (.invokevirtual 58, 3) := by decide +kernel
theorem dX6_fly_13 : decode cX6_fly 13 = .ok (.ireturn, 1) := by decide +kernel
theorem dX6_fly_14 : decode cX6_fly 14 = .ok (.aload_n 0, 1) := by decide +kernel
theorem dX6_fly_15 : decode cX6_fly 15 = .ok (.iload_n 2, 1) := by decide +kernel
theorem dX6_fly_16 : decode cX6_fly 16 = .ok (.iload_n 3, 1) := by decide +kernel
theorem dX6_fly_17 : decode cX6_fly 17 = .ok (.invokevirtual 156, 3) := by decide +kernel
theorem dX6_fly_20 : decode cX6_fly 20 = .ok (.istore 5, 2) := by decide +kernel
theorem dX6_fly_22 : decode cX6_fly 22 = .ok (.iload 5, 2) := by decide +kernel
theorem dX6_fly_24 : decode cX6_fly 24 = .ok (.ifCond .ge 10, 3) := by decide +kernel
theorem dX6_fly_27 : decode cX6_fly 27 = .ok (.aload_n 0, 1) := by decide +kernel
theorem dX6_fly_28 : decode cX6_fly 28 = .ok (.iload 5, 2) := by decide +kernel
theorem dX6_fly_30 : decode cX6_fly 30 = .ok (.invokevirtual 58, 3) := by decide +kernel
theorem dX6_fly_33 : decode cX6_fly 33 = .ok (.ireturn, 1) := by decide +kernel
theorem dX6_fly_34 : decode cX6_fly 34 = .ok (.iload 4, 2) := by decide +kernel
theorem dX6_fly_36 : decode cX6_fly 36 = .ok (.iconst 0, 1) := by decide +kernel
theorem dX6_fly_37 : decode cX6_fly 37 = .ok (.iconst 4, 1) := by decide +kernel
theorem dX6_fly_38 : decode cX6_fly 38 = .ok (.invokestatic 65, 3) := by decide +kernel
theorem dX6_fly_41 : decode cX6_fly 41 = .ok (.ifCond .ne 10, 3) := by decide +kernel
theorem dX6_fly_44 : decode cX6_fly 44 = .ok (.aload_n 0, 1) := by decide +kernel
theorem dX6_fly_45 : decode cX6_fly 45 = .ok (.bipush (-2), 2) := by decide +kernel
theorem dX6_fly_47 : decode cX6_fly 47 = .ok (.invokevirtual 58, 3) := by decide +kernel
theorem dX6_fly_50 : decode cX6_fly 50 = .ok (.ireturn, 1) := by decide +kernel
theorem dX6_fly_51 : decode cX6_fly 51 = .ok (.aload_n 0, 1) := by decide +kernel
theorem dX6_fly_52 : decode cX6_fly 52 = .ok (.iload_n 1, 1) := by decide +kernel
theorem dX6_fly_53 : decode cX6_fly 53 = .ok (.iload_n 2, 1) := by decide +kernel
theorem dX6_fly_54 : decode cX6_fly 54 = .ok (.iload_n 3, 1) := by decide +kernel
theorem dX6_fly_55 : decode cX6_fly 55 = .ok (.aload_n 0, 1) := by decide +kernel
theorem dX6_fly_56 : decode cX6_fly 56 = .ok (.getfield 149, 3) := by decide +kernel
theorem dX6_fly_59 : decode cX6_fly 59 = .ok (.invokevirtual 152, 3) := by decide +kernel
theorem dX6_fly_62 : decode cX6_fly 62 = .ok (.pop, 1) := by decide +kernel
theorem dX6_fly_63 : decode cX6_fly 63 = .ok (.iload 4, 2) := by decide +kernel
theorem dX6_fly_65 : decode cX6_fly 65 = .ok (.ifCond .ne 10, 3) := by decide +kernel
theorem dX6_fly_68 : decode cX6_fly 68 = .ok (.aload_n 0, 1) := by decide +kernel
theorem dX6_fly_69 : decode cX6_fly 69 = .ok (.getfield 143, 3) := by decide +kernel
theorem dX6_fly_72 : decode cX6_fly 72 = .ok (.goto 46, 3) := by decide +kernel
theorem dX6_fly_75 : decode cX6_fly 75 = .ok (.iload 4, 2) := by decide +kernel
theorem dX6_fly_77 : decode cX6_fly 77 = .ok (.iconst 1, 1) := by decide +kernel
theorem dX6_fly_78 : decode cX6_fly 78 = .ok (.if_icmp .ne 10, 3) := by decide +kernel
theorem dX6_fly_81 : decode cX6_fly 81 = .ok (.aload_n 0, 1) := by decide +kernel
theorem dX6_fly_82 : decode cX6_fly 82 = .ok (.getfield 131, 3) := by decide +kernel
theorem dX6_fly_85 : decode cX6_fly 85 = .ok (.goto 33, 3) := by decide +kernel
theorem dX6_fly_88 : decode cX6_fly 88 = .ok (.iload 4, 2) := by decide +kernel
theorem dX6_fly_90 : decode cX6_fly 90 = .ok (.iconst 2, 1) := by decide +kernel
theorem dX6_fly_91 : decode cX6_fly 91 = .ok (.if_icmp .ne 10, 3) := by decide +kernel
theorem dX6_fly_94 : decode cX6_fly 94 = .ok (.aload_n 0, 1) := by decide +kernel
theorem dX6_fly_95 : decode cX6_fly 95 = .ok (.getfield 134, 3) := by decide +kernel
theorem dX6_fly_98 : decode cX6_fly 98 = .ok (.goto 20, 3) := by decide +kernel
theorem dX6_fly_101 : decode cX6_fly 101 = .ok (.iload 4, 2) := by decide +kernel
theorem dX6_fly_103 : decode cX6_fly 103 = .ok (.iconst 3, 1) := by decide +kernel
theorem dX6_fly_104 : decode cX6_fly 104 = .ok (.if_icmp .ne 10, 3) := by decide +kernel
theorem dX6_fly_107 : decode cX6_fly 107 = .ok (.aload_n 0, 1) := by decide +kernel
theorem dX6_fly_108 : decode cX6_fly 108 = .ok (.getfield 137, 3) := by decide +kernel
theorem dX6_fly_111 : decode cX6_fly 111 = .ok (.goto 7, 3) := by decide +kernel
theorem dX6_fly_114 : decode cX6_fly 114 = .ok (.aload_n 0, 1) := by decide +kernel
theorem dX6_fly_115 : decode cX6_fly 115 = .ok (.getfield 140, 3) := by decide +kernel
theorem dX6_fly_118 : decode cX6_fly 118 = .ok (.ireturn, 1) := by decide +kernel
set_option maxRecDepth 20000 in
theorem ggX6_goes_X6_flies : GoodIn wsX6_goes wsX6_flies := goodIn_r _ [9, 10, 11, 12, 13, 14, 15, 16, 17, 18, 19, 20, 21, 22, 23, 4, 24, 25, 26, 27, 28, 29, 30, 31, 8, 32, 33, 34, 35, 36, 37, 38, 39, 40, 41, 42, 43, 44, 45, 46, 47, 48, 49, 50, 51, 52, 53, 54, 55, 56, 57, 58, 59, 60, 61, 62, 63, 64, 65, 66, 67, 68, 69, 70, 71, 72, 73, 74, 75, 76, 77, 78] (by decide +kernel) (by decide +kernel)
set_option maxRecDepth 20000 in
theorem gX6_goes_X6_flies : GoodIn wsX6_goes (wsV RX6 152 RX6 yX6_flies wsX6_flies) := goodIn_app (goodIn_of _ (by decide +kernel)) ggX6_goes_X6_flies
theorem dX6_goes_0 : decode cX6_goes 0 = .ok (.aload_n 0, 1) := by decide +kernel
theorem dX6_goes_1 : decode cX6_goes 1 = .ok (.iload_n 1, 1) := by decide +kernel
theorem dX6_goes_2 : decode cX6_goes 2 = .ok (.iload_n 2, 1) := by decide +kernel
theorem dX6_goes_3 : decode cX6_goes 3 = .ok (.iload_n 3, 1) := by decide +kernel
theorem dX6_goes_4 : decode cX6_goes 4 = .ok (.aload_n 0, 1) := by decide +kernel
theorem dX6_goes_5 : decode cX6_goes 5 = .ok (.getfield 149, 3) := by decide +kernel
theorem dX6_goes_8 : decode cX6_goes 8 = .ok (.invokevirtual 152, 3) := by decide +kernel
theorem dX6_goes_11 : decode cX6_goes 11 = .ok (.istore 4, 2) := by decide +kernel
theorem dX6_goes_13 : decode cX6_goes 13 = .ok (.aload_n 0, 1) := by decide +kernel
theorem dX6_goes_14 : decode cX6_goes 14 = .ok (.dup, 1) := by decide +kernel
theorem dX6_goes_15 : decode cX6_goes 15 = .ok (.getfield 149, 3) := by decide +kernel
theorem dX6_goes_18 : decode cX6_goes 18 = .ok (.iconst 1, 1) := by decide +kernel
theorem dX6_goes_19 : decode cX6_goes 19 = .ok (.iadd, 1) := by decide +kernel
theorem dX6_goes_20 : decode cX6_goes 20 = .ok (.putfield 149, 3) := by decide +kernel
theorem dX6_goes_23 : decode cX6_goes 23 = .ok (.aload_n 0, 1) := by decide +kernel
theorem dX6_goes_24 : decode cX6_goes 24 = .ok (.dup, 1) := by decide +kernel
theorem dX6_goes_25 : decode cX6_goes 25 = .ok (.getfield 159, 3) := by decide +kernel
theorem dX6_goes_28 : decode cX6_goes 28 = .ok (.iconst 1, 1) := by decide +kernel
theorem dX6_goes_29 : decode cX6_goes 29 = .ok (.iadd, 1) := by decide +kernel
theorem dX6_goes_30 : decode cX6_goes 30 = .ok (.putfield 159, 3) := by decide +kernel
theorem dX6_goes_33 : decode cX6_goes 33 = .ok (.iload 4, 2) := by decide +kernel
theorem dX6_goes_35 : decode cX6_goes 35 = .ok (.ifCond .ne 23, 3) := by decide +kernel
theorem dX6_goes_38 : decode cX6_goes 38 = .ok (.aload_n 0, 1) := by decide +kernel
theorem dX6_goes_39 : decode cX6_goes 39 = .ok (.dup, 1) := by decide +kernel
theorem dX6_goes_40 : decode cX6_goes 40 = .ok (.getfield 162, 3) := by decide +kernel
theorem dX6_goes_43 : decode cX6_goes 43 = .ok (.iconst 1, 1) := by decide +kernel
theorem dX6_goes_44 : decode cX6_goes 44 = .ok (.iadd, 1) := by decide +kernel
theorem dX6_goes_45 : decode cX6_goes 45 = .ok (.putfield 162, 3) := by decide +kernel
theorem dX6_goes_48 : decode cX6_goes 48 = .ok (.aload_n 0, 1) := by decide +kernel
theorem dX6_goes_49 : decode cX6_goes 49 = .ok (.dup, 1) := by decide +kernel
theorem dX6_goes_50 : decode cX6_goes 50 = .ok (.getfield 89, 3) := by decide +kernel
theorem dX6_goes_53 : decode cX6_goes 53 = .ok (.iconst 1, 1) := by decide +kernel
theorem dX6_goes_54 : decode cX6_goes 54 = .ok (.iadd, 1) := by decide +kernel
theorem dX6_goes_55 : decode cX6_goes 55 = .ok (.putfield 89, 3) := by decide +kernel
theorem dX6_goes_58 : decode cX6_goes 58 = .ok (.iload 4, 2) := by decide +kernel
theorem dX6_goes_60 : decode cX6_goes 60 = .ok (.ireturn, 1) := by decide +kernel
set_option maxRecDepth 20000 in
theorem ggX6_throwIt_X6_isBall : GoodIn wsX6_throwIt wsX6_isBall := goodIn_r _ [6, 7, 8, 9, 5, 10, 66, 67, 68, 69, 70, 71, 72, 73, 74, 75, 76, 77, 78, 79, 80, 81, 82, 83, 84, 85, 86, 87, 88, 89, 90, 91, 92, 93, 94, 95, 96] (by decide +kernel) (by decide +kernel)
set_option maxRecDepth 20000 in
theorem gX6_throwIt_X6_isBall : GoodIn wsX6_throwIt (wsV RX6 119 RX6 yX6_isBall wsX6_isBall) := goodIn_app (goodIn_of _ (by decide +kernel)) ggX6_throwIt_X6_isBall
set_option maxRecDepth 20000 in
theorem ggX6_throwIt_X6_no : GoodIn wsX6_throwIt wsX6_no := goodIn_r _ [14, 15, 66, 67, 68, 69, 70, 71, 72, 73, 74, 75, 76, 77, 78, 79, 80, 81, 82, 83, 84, 85, 86, 87, 88, 89, 90, 91, 92, 93, 94, 95, 96] (by decide +kernel) (by decide +kernel)
set_option maxRecDepth 20000 in
theorem gX6_throwIt_X6_no : GoodIn wsX6_throwIt (wsV RX6 58 RX6 yX6_no wsX6_no) := goodIn_app (goodIn_of _ (by decide +kernel)) ggX6_throwIt_X6_no
set_option maxRecDepth 20000 in
theorem ggX6_throwIt_X6_noThrow : GoodIn wsX6_throwIt wsX6_noThrow := goodIn_r _ [19] (by decide +kernel) (by decide +kernel)
set_option maxRecDepth 20000 in
theorem gX6_throwIt_X6_noThrow : GoodIn wsX6_throwIt (wsV RX6 156 RX6 yX6_noThrow wsX6_noThrow) := goodIn_app (goodIn_of _ (by decide +kernel)) ggX6_throwIt_X6_noThrow
set_option maxRecDepth 20000 in
theorem ggX6_throwIt_X6_goes : GoodIn wsX6_throwIt wsX6_goes := goodIn_r _ [23, 1, 24, 25, 26, 27, 28, 29, 5, 30, 31, 32, 33, 34, 35, 36, 37, 38, 39, 40, 41, 42, 43, 44, 45, 46, 47, 48, 49, 50, 51, 52, 53, 54, 55, 56, 8, 9, 10, 57, 58, 59, 60, 61, 62, 63, 64, 65, 66, 67, 68, 69, 70, 71, 72, 73, 74, 75, 76, 77, 78, 79, 80, 81, 82, 83, 84, 85, 86, 87, 88, 89, 90, 91, 92, 93, 94, 95, 96] (by decide +kernel) (by decide +kernel)
set_option maxRecDepth 20000 in
theorem gX6_throwIt_X6_goes : GoodIn wsX6_throwIt (wsV RX6 165 RX6 yX6_goes wsX6_goes) := goodIn_app (goodIn_of _ (by decide +kernel)) ggX6_throwIt_X6_goes
theorem dX6_throwIt_0 : decode cX6_throwIt 0 = .ok (.aload_n 0, 1) := by decide +kernel
theorem dX6_throwIt_1 : decode cX6_throwIt 1 = .ok (.iload_n 1, 1) := by decide +kernel
theorem dX6_throwIt_2 : decode cX6_throwIt 2 = .ok (.invokevirtual 119, 3) := by decide +kernel
theorem dX6_throwIt_5 : decode cX6_throwIt 5 = .ok (.ifCond .ne 9, 3) := by decide +kernel
theorem dX6_throwIt_8 : decode cX6_throwIt 8 = .ok (.aload_n 0, 1) := by decide +kernel
theorem dX6_throwIt_9 : decode cX6_throwIt 9 = .ok (.iconst (-1), 1) := by decide +kernel
theorem dX6_throwIt_10 : decode cX6_throwIt 10 = .ok (.invokevirtual 58, 3) := by decide +kernel
theorem dX6_throwIt_13 : decode cX6_throwIt 13 = .ok (.ireturn, 1) := by decide +kernel
theorem dX6_throwIt_14 : decode cX6_throwIt 14 = .ok (.aload_n 0, 1) := by decide +kernel
theorem dX6_throwIt_15 : decode cX6_throwIt 15 = .ok (.iload_n 2, 1) := by decide +kernel
theorem dX6_throwIt_16 : decode cX6_throwIt 16 = .ok (.iload_n 3, 1) := by decide +kernel
theorem dX6_throwIt_17 : decode cX6_throwIt 17 = .ok (.invokevirtual 156, 3) := by decide +kernel
theorem dX6_throwIt_20 : decode cX6_throwIt 20 = .ok (.istore 4, 2) := by decide +kernel
theorem dX6_throwIt_22 : decode cX6_throwIt 22 = .ok (.iload 4, 2) := by decide +kernel
theorem dX6_throwIt_24 : decode cX6_throwIt 24 = .ok (.ifCond .ge 10, 3) := by decide +kernel
theorem dX6_throwIt_27 : decode cX6_throwIt 27 = .ok (.aload_n 0, 1) := by decide +kernel
theorem dX6_throwIt_28 : decode cX6_throwIt 28 = .ok (.iload 4, 2) := by decide +kernel
theorem dX6_throwIt_30 : decode cX6_throwIt 30 = .ok (.invokevirtual 58, 3) := by decide +kernel
theorem dX6_throwIt_33 : decode cX6_throwIt 33 = .ok (.ireturn, 1) := by decide +kernel
theorem dX6_throwIt_34 : decode cX6_throwIt 34 = .ok (.aload_n 0, 1) := by decide +kernel
theorem dX6_throwIt_35 : decode cX6_throwIt 35 = .ok (.getfield 149, 3) := by decide +kernel
theorem dX6_throwIt_38 : decode cX6_throwIt 38 = .ok (.sipush 9999, 3) := by decide +kernel
theorem dX6_throwIt_41 : decode cX6_throwIt 41 = .ok (.if_icmp .ne 12, 3) := by decide +kernel
theorem dX6_throwIt_44 : decode cX6_throwIt 44 = .ok (.aload_n 0, 1) := by decide +kernel
theorem dX6_throwIt_45 : decode cX6_throwIt 45 = .ok (.bipush (-6), 2) := by decide +kernel
theorem dX6_throwIt_47 : decode cX6_throwIt 47 = .ok (.invokevirtual 58, 3) := by decide +kernel
theorem dX6_throwIt_50 : decode cX6_throwIt 50 = .ok (.goto 10, 3) := by decide +kernel
theorem dX6_throwIt_53 : decode cX6_throwIt 53 = .ok (.aload_n 0, 1) := by decide +kernel
theorem dX6_throwIt_54 : decode cX6_throwIt 54 = .ok (.iload_n 1, 1) := by decide +kernel
theorem dX6_throwIt_55 : decode cX6_throwIt 55 = .ok (.iload_n 2, 1) := by decide +kernel
theorem dX6_throwIt_56 : decode cX6_throwIt 56 = .ok (.iload_n 3, 1) := by decide +kernel
theorem dX6_throwIt_57 : decode cX6_throwIt 57 = .ok (.invokevirtual 165, 3) := by decide +kernel
theorem dX6_throwIt_60 : decode cX6_throwIt 60 = .ok (.ireturn, 1) := by decide +kernel
set_option maxRecDepth 20000 in
theorem ggX6_pass_X6_no : GoodIn wsX6_pass wsX6_no := goodIn_r _ [6, 7, 8, 9, 10, 11, 12, 13, 14, 15, 16, 17, 18, 19, 20, 21, 22, 23, 24, 25, 26, 27, 28, 29, 30, 31, 32, 33, 34, 35, 36, 37, 38] (by decide +kernel) (by decide +kernel)
set_option maxRecDepth 20000 in
theorem gX6_pass_X6_no : GoodIn wsX6_pass (wsV RX6 58 RX6 yX6_no wsX6_no) := goodIn_app (goodIn_of _ (by decide +kernel)) ggX6_pass_X6_no
theorem dX6_pass_0 : decode cX6_pass 0 = .ok (.iload_n 1, 1) := by decide +kernel
theorem dX6_pass_1 : decode cX6_pass 1 = .ok (.iconst 1, 1) := by decide +kernel
theorem dX6_pass_2 : decode cX6_pass 2 = .ok (.if_icmp .ge 10, 3) := by decide +kernel
theorem dX6_pass_5 : decode cX6_pass 5 = .ok (.aload_n 0, 1) := by decide +kernel
theorem dX6_pass_6 : decode cX6_pass 6 = .ok (.bipush (-4), 2) := by decide +kernel
theorem dX6_pass_8 : decode cX6_pass 8 = .ok (.invokevirtual 58, 3) := by decide +kernel
theorem dX6_pass_11 : decode cX6_pass 11 = .ok (.ireturn, 1) := by decide +kernel
theorem dX6_pass_12 : decode cX6_pass 12 = .ok (.iload_n 1, 1) := by decide +kernel
theorem dX6_pass_13 : decode cX6_pass 13 = .ok (.bipush 99, 2) := by decide +kernel
theorem dX6_pass_15 : decode cX6_pass 15 = .ok (.if_icmp .gt 15, 3) := by decide +kernel
theorem dX6_pass_18 : decode cX6_pass 18 = .ok (.aload_n 0, 1) := by decide +kernel
theorem dX6_pass_19 : decode cX6_pass 19 = .ok (.getfield 149, 3) := by decide +kernel
theorem dX6_pass_22 : decode cX6_pass 22 = .ok (.iload_n 1, 1) := by decide +kernel
theorem dX6_pass_23 : decode cX6_pass 23 = .ok (.iadd, 1) := by decide +kernel
theorem dX6_pass_24 : decode cX6_pass 24 = .ok (.sipush 9999, 3) := by decide +kernel
theorem dX6_pass_27 : decode cX6_pass 27 = .ok (.if_icmp .le 10, 3) := by decide +kernel
theorem dX6_pass_30 : decode cX6_pass 30 = .ok (.aload_n 0, 1) := by decide +kernel
theorem dX6_pass_31 : decode cX6_pass 31 = .ok (.bipush (-6), 2) := by decide +kernel
theorem dX6_pass_33 : decode cX6_pass 33 = .ok (.invokevirtual 58, 3) := by decide +kernel
theorem dX6_pass_36 : decode cX6_pass 36 = .ok (.ireturn, 1) := by decide +kernel
theorem dX6_pass_37 : decode cX6_pass 37 = .ok (.aload_n 0, 1) := by decide +kernel
theorem dX6_pass_38 : decode cX6_pass 38 = .ok (.dup, 1) := by decide +kernel
theorem dX6_pass_39 : decode cX6_pass 39 = .ok (.getfield 149, 3) := by decide +kernel
theorem dX6_pass_42 : decode cX6_pass 42 = .ok (.iload_n 1, 1) := by decide +kernel
theorem dX6_pass_43 : decode cX6_pass 43 = .ok (.iadd, 1) := by decide +kernel
theorem dX6_pass_44 : decode cX6_pass 44 = .ok (.putfield 149, 3) := by decide +kernel
theorem dX6_pass_47 : decode cX6_pass 47 = .ok (.aload_n 0, 1) := by decide +kernel
theorem dX6_pass_48 : decode cX6_pass 48 = .ok (.getfield 149, 3) := by decide +kernel
theorem dX6_pass_51 : decode cX6_pass 51 = .ok (.ireturn, 1) := by decide +kernel
theorem dX6_clearBin_0 : decode cX6_clearBin 0 = .ok (.aload_n 0, 1) := by decide +kernel
theorem dX6_clearBin_1 : decode cX6_clearBin 1 = .ok (.getfield 89, 3) := by decide +kernel
theorem dX6_clearBin_4 : decode cX6_clearBin 4 = .ok (.istore_n 1, 1) := by decide +kernel
theorem dX6_clearBin_5 : decode cX6_clearBin 5 = .ok (.aload_n 0, 1) := by decide +kernel
theorem dX6_clearBin_6 : decode cX6_clearBin 6 = .ok (.iconst 0, 1) := by decide +kernel
theorem dX6_clearBin_7 : decode cX6_clearBin 7 = .ok (.putfield 89, 3) := by decide +kernel
theorem dX6_clearBin_10 : decode cX6_clearBin 10 = .ok (.iload_n 1, 1) := by decide +kernel
theorem dX6_clearBin_11 : decode cX6_clearBin 11 = .ok (.ireturn, 1) := by decide +kernel
set_option maxRecDepth 20000 in
theorem ggX6_goodOf_X6_isIn : GoodIn wsX6_goodOf wsX6_isIn := goodIn_r _ [5, 6, 7, 8, 9, 4, 10, 11, 12, 13, 14, 15, 16, 17, 18, 19, 20, 21, 22, 23, 24, 25, 26, 27, 28, 29, 30, 31, 32, 33, 34, 35, 36, 37, 38, 39, 40, 41, 42, 43, 44, 45, 46, 47, 48, 49, 50, 51, 52, 53, 54, 55, 56, 57, 58, 59, 60, 61, 62, 63, 64, 65, 66, 67, 68, 69, 70, 71, 72, 73, 74, 75, 76, 77, 78, 79, 80] (by decide +kernel) (by decide +kernel)
set_option maxRecDepth 20000 in
theorem gX6_goodOf_X6_isIn : GoodIn wsX6_goodOf (wsV RX6 169 RX6 yX6_isIn wsX6_isIn) := goodIn_app (goodIn_of _ (by decide +kernel)) ggX6_goodOf_X6_isIn
theorem dX6_goodOf_0 : decode cX6_goodOf 0 = .ok (.iconst 0, 1) := by decide +kernel
theorem dX6_goodOf_1 : decode cX6_goodOf 1 = .ok (.istore 4, 2) := by decide +kernel
theorem dX6_goodOf_3 : decode cX6_goodOf 3 = .ok (.iload_n 2, 1) := by decide +kernel
theorem dX6_goodOf_4 : decode cX6_goodOf 4 = .ok (.iconst 1, 1) := by decide +kernel
theorem dX6_goodOf_5 : decode cX6_goodOf 5 = .ok (.isub, 1) := by decide +kernel
theorem dX6_goodOf_6 : decode cX6_goodOf 6 = .ok (.istore 5, 2) := by decide +kernel
theorem dX6_goodOf_8 : decode cX6_goodOf 8 = .ok (.iload 5, 2) := by decide +kernel
theorem dX6_goodOf_10 : decode cX6_goodOf 10 = .ok (.iload_n 2, 1) := by decide +kernel
theorem dX6_goodOf_11 : decode cX6_goodOf 11 = .ok (.iconst 1, 1) := by decide +kernel
theorem dX6_goodOf_12 : decode cX6_goodOf 12 = .ok (.iadd, 1) := by decide +kernel
theorem dX6_goodOf_13 : decode cX6_goodOf 13 = .ok (.if_icmp .gt 43, 3) := by decide +kernel
theorem dX6_goodOf_16 : decode cX6_goodOf 16 = .ok (.iload_n 3, 1) := by decide +kernel
theorem dX6_goodOf_17 : decode cX6_goodOf 17 = .ok (.iconst 1, 1) := by decide +kernel
theorem dX6_goodOf_18 : decode cX6_goodOf 18 = .ok (.isub, 1) := by decide +kernel
theorem dX6_goodOf_19 : decode cX6_goodOf 19 = .ok (.istore 6, 2) := by decide +kernel
theorem dX6_goodOf_21 : decode cX6_goodOf 21 = .ok (.iload 6, 2) := by decide +kernel
theorem dX6_goodOf_23 : decode cX6_goodOf 23 = .ok (.iload_n 3, 1) := by decide +kernel
theorem dX6_goodOf_24 : decode cX6_goodOf 24 = .ok (.iconst 1, 1) := by decide +kernel
theorem dX6_goodOf_25 : decode cX6_goodOf 25 = .ok (.iadd, 1) := by decide +kernel
theorem dX6_goodOf_26 : decode cX6_goodOf 26 = .ok (.if_icmp .gt 24, 3) := by decide +kernel
theorem dX6_goodOf_29 : decode cX6_goodOf 29 = .ok (.aload_n 0, 1) := by decide +kernel
theorem dX6_goodOf_30 : decode cX6_goodOf 30 = .ok (.iload_n 1, 1) := by decide +kernel
theorem dX6_goodOf_31 : decode cX6_goodOf 31 = .ok (.iload 5, 2) := by decide +kernel
theorem dX6_goodOf_33 : decode cX6_goodOf 33 = .ok (.iload 6, 2) := by decide +kernel
theorem dX6_goodOf_35 : decode cX6_goodOf 35 = .ok (.invokevirtual 169, 3) := by decide +kernel
theorem dX6_goodOf_38 : decode cX6_goodOf 38 = .ok (.ifCond .eq 6, 3) := by decide +kernel
theorem dX6_goodOf_41 : decode cX6_goodOf 41 = .ok (.iinc 4 1, 3) := by decide +kernel
theorem dX6_goodOf_44 : decode cX6_goodOf 44 = .ok (.iinc 6 1, 3) := by decide +kernel
theorem dX6_goodOf_47 : decode cX6_goodOf 47 = .ok (.goto (-26), 3) := by decide +kernel
theorem dX6_goodOf_50 : decode cX6_goodOf 50 = .ok (.iinc 5 1, 3) := by decide +kernel
theorem dX6_goodOf_53 : decode cX6_goodOf 53 = .ok (.goto (-45), 3) := by decide +kernel
theorem dX6_goodOf_56 : decode cX6_goodOf 56 = .ok (.iload 4, 2) := by decide +kernel
theorem dX6_goodOf_58 : decode cX6_goodOf 58 = .ok (.ireturn, 1) := by decide +kernel
set_option maxRecDepth 20000 in
theorem ggX6_good_X6_isBall : GoodIn wsX6_good wsX6_isBall := goodIn_r _ [5, 6, 7, 8, 4, 9, 68, 69, 70, 71, 72, 73, 74, 75, 76, 77, 78, 79, 80, 81, 82, 83, 84, 85, 86, 87, 88, 89, 90, 91, 92, 93, 94, 95, 96, 97, 98] (by decide +kernel) (by decide +kernel)
set_option maxRecDepth 20000 in
theorem gX6_good_X6_isBall : GoodIn wsX6_good (wsV RX6 119 RX6 yX6_isBall wsX6_isBall) := goodIn_app (goodIn_of _ (by decide +kernel)) ggX6_good_X6_isBall
set_option maxRecDepth 20000 in
theorem ggX6_good_X6_no : GoodIn wsX6_good wsX6_no := goodIn_r _ [13, 14, 68, 69, 70, 71, 72, 73, 74, 75, 76, 77, 78, 79, 80, 81, 82, 83, 84, 85, 86, 87, 88, 89, 90, 91, 92, 93, 94, 95, 96, 97, 98] (by decide +kernel) (by decide +kernel)
set_option maxRecDepth 20000 in
theorem gX6_good_X6_no : GoodIn wsX6_good (wsV RX6 58 RX6 yX6_no wsX6_no) := goodIn_app (goodIn_of _ (by decide +kernel)) ggX6_good_X6_no
set_option maxRecDepth 20000 in
theorem ggX6_good_X6_noThrow : GoodIn wsX6_good wsX6_noThrow := goodIn_r _ [18] (by decide +kernel) (by decide +kernel)
set_option maxRecDepth 20000 in
theorem gX6_good_X6_noThrow : GoodIn wsX6_good (wsV RX6 156 RX6 yX6_noThrow wsX6_noThrow) := goodIn_app (goodIn_of _ (by decide +kernel)) ggX6_good_X6_noThrow
set_option maxRecDepth 20000 in
theorem ggX6_good_X6_goodOf : GoodIn wsX6_good wsX6_goodOf := goodIn_r _ [22, 23, 24, 25, 4, 26, 27, 28, 29, 30, 31, 32, 33, 34, 35, 36, 37, 38, 39, 40, 41, 42, 43, 44, 45, 46, 47, 48, 49, 50, 51, 52, 53, 54, 55, 56, 57, 58, 7, 8, 9, 59, 60, 61, 62, 63, 64, 65, 66, 67, 68, 69, 70, 71, 72, 73, 74, 75, 76, 77, 78, 79, 80, 81, 82, 83, 84, 85, 86, 87, 88, 89, 90, 91, 92, 93, 94, 95, 96, 97, 98] (by decide +kernel) (by decide +kernel)
set_option maxRecDepth 20000 in
theorem gX6_good_X6_goodOf : GoodIn wsX6_good (wsV RX6 172 RX6 yX6_goodOf wsX6_goodOf) := goodIn_app (goodIn_of _ (by decide +kernel)) ggX6_good_X6_goodOf
theorem dX6_good_0 : decode cX6_good 0 = .ok (.aload_n 0, 1) := by decide +kernel
theorem dX6_good_1 : decode cX6_good 1 = .ok (.iload_n 1, 1) := by decide +kernel
theorem dX6_good_2 : decode cX6_good 2 = .ok (.invokevirtual 119, 3) := by decide +kernel
theorem dX6_good_5 : decode cX6_good 5 = .ok (.ifCond .ne 9, 3) := by decide +kernel
theorem dX6_good_8 : decode cX6_good 8 = .ok (.aload_n 0, 1) := by decide +kernel
theorem dX6_good_9 : decode cX6_good 9 = .ok (.iconst (-1), 1) := by decide +kernel
theorem dX6_good_10 : decode cX6_good 10 = .ok (.invokevirtual 58, 3) := by decide +kernel
theorem dX6_good_13 : decode cX6_good 13 = .ok (.ireturn, 1) := by decide +kernel
theorem dX6_good_14 : decode cX6_good 14 = .ok (.aload_n 0, 1) := by decide +kernel
theorem dX6_good_15 : decode cX6_good 15 = .ok (.iload_n 2, 1) := by decide +kernel
theorem dX6_good_16 : decode cX6_good 16 = .ok (.iload_n 3, 1) := by decide +kernel
theorem dX6_good_17 : decode cX6_good 17 = .ok (.invokevirtual 156, 3) := by decide +kernel
theorem dX6_good_20 : decode cX6_good 20 = .ok (.istore 4, 2) := by decide +kernel
theorem dX6_good_22 : decode cX6_good 22 = .ok (.iload 4, 2) := by decide +kernel
theorem dX6_good_24 : decode cX6_good 24 = .ok (.ifCond .ge 12, 3) := by decide +kernel
theorem dX6_good_27 : decode cX6_good 27 = .ok (.aload_n 0, 1) := by decide +kernel
theorem dX6_good_28 : decode cX6_good 28 = .ok (.iload 4, 2) := by decide +kernel
theorem dX6_good_30 : decode cX6_good 30 = .ok (.invokevirtual 58, 3) := by decide +kernel
theorem dX6_good_33 : decode cX6_good 33 = .ok (.goto 10, 3) := by decide +kernel
theorem dX6_good_36 : decode cX6_good 36 = .ok (.aload_n 0, 1) := by decide +kernel
theorem dX6_good_37 : decode cX6_good 37 = .ok (.iload_n 1, 1) := by decide +kernel
theorem dX6_good_38 : decode cX6_good 38 = .ok (.iload_n 2, 1) := by decide +kernel
theorem dX6_good_39 : decode cX6_good 39 = .ok (.iload_n 3, 1) := by decide +kernel
theorem dX6_good_40 : decode cX6_good 40 = .ok (.invokevirtual 172, 3) := by decide +kernel
theorem dX6_good_43 : decode cX6_good 43 = .ok (.ireturn, 1) := by decide +kernel
set_option maxRecDepth 20000 in
theorem ggX6_best_X6_isBall : GoodIn wsX6_best wsX6_isBall := goodIn_r _ [5, 6, 7, 8, 4, 9, 64, 65, 66, 67, 68, 69, 70, 71, 72, 73, 74, 75, 76, 77, 78, 79, 80, 81, 82, 83, 84, 85, 86, 87, 88, 89, 90, 91, 92, 93, 94] (by decide +kernel) (by decide +kernel)
set_option maxRecDepth 20000 in
theorem gX6_best_X6_isBall : GoodIn wsX6_best (wsV RX6 119 RX6 yX6_isBall wsX6_isBall) := goodIn_app (goodIn_of _ (by decide +kernel)) ggX6_best_X6_isBall
set_option maxRecDepth 20000 in
theorem ggX6_best_X6_no : GoodIn wsX6_best wsX6_no := goodIn_r _ [13, 14, 64, 65, 66, 67, 68, 69, 70, 71, 72, 73, 74, 75, 76, 77, 78, 79, 80, 81, 82, 83, 84, 85, 86, 87, 88, 89, 90, 91, 92, 93, 94] (by decide +kernel) (by decide +kernel)
set_option maxRecDepth 20000 in
theorem gX6_best_X6_no : GoodIn wsX6_best (wsV RX6 58 RX6 yX6_no wsX6_no) := goodIn_app (goodIn_of _ (by decide +kernel)) ggX6_best_X6_no
set_option maxRecDepth 20000 in
theorem ggX6_best_X6_within : GoodIn wsX6_best wsX6_within := goodIn_r _ [9] (by decide +kernel) (by decide +kernel)
set_option maxRecDepth 20000 in
theorem gX6_best_X6_within : GoodIn wsX6_best (va_wsS RX6 65 yX6_within wsX6_within) := goodIn_app (goodIn_of _ (by decide +kernel)) ggX6_best_X6_within
set_option maxRecDepth 20000 in
theorem ggX6_best_X6_goodOf : GoodIn wsX6_best wsX6_goodOf := goodIn_r _ [18, 19, 20, 21, 4, 22, 23, 24, 25, 26, 27, 28, 29, 30, 31, 32, 33, 34, 35, 36, 37, 38, 39, 40, 41, 42, 43, 44, 45, 46, 47, 48, 49, 50, 51, 52, 53, 54, 7, 8, 9, 55, 56, 57, 58, 59, 60, 61, 62, 63, 64, 65, 66, 67, 68, 69, 70, 71, 72, 73, 74, 75, 76, 77, 78, 79, 80, 81, 82, 83, 84, 85, 86, 87, 88, 89, 90, 91, 92, 93, 94] (by decide +kernel) (by decide +kernel)
set_option maxRecDepth 20000 in
theorem gX6_best_X6_goodOf : GoodIn wsX6_best (wsV RX6 172 RX6 yX6_goodOf wsX6_goodOf) := goodIn_app (goodIn_of _ (by decide +kernel)) ggX6_best_X6_goodOf
theorem dX6_best_0 : decode cX6_best 0 = .ok (.aload_n 0, 1) := by decide +kernel
theorem dX6_best_1 : decode cX6_best 1 = .ok (.iload_n 1, 1) := by decide +kernel
theorem dX6_best_2 : decode cX6_best 2 = .ok (.invokevirtual 119, 3) := by decide +kernel
theorem dX6_best_5 : decode cX6_best 5 = .ok (.ifCond .ne 9, 3) := by decide +kernel
theorem dX6_best_8 : decode cX6_best 8 = .ok (.aload_n 0, 1) := by decide +kernel
theorem dX6_best_9 : decode cX6_best 9 = .ok (.iconst (-1), 1) := by decide +kernel
theorem dX6_best_10 : decode cX6_best 10 = .ok (.invokevirtual 58, 3) := by decide +kernel
theorem dX6_best_13 : decode cX6_best 13 = .ok (.ireturn, 1) := by decide +kernel
theorem dX6_best_14 : decode cX6_best 14 = .ok (.iload_n 2, 1) := by decide +kernel
theorem dX6_best_15 : decode cX6_best 15 = .ok (.iconst 0, 1) := by decide +kernel
theorem dX6_best_16 : decode cX6_best 16 = .ok (.iconst 1, 1) := by decide +kernel
theorem dX6_best_17 : decode cX6_best 17 = .ok (.invokestatic 65, 3) := by decide +kernel
theorem dX6_best_20 : decode cX6_best 20 = .ok (.ifCond .ne 10, 3) := by decide +kernel
theorem dX6_best_23 : decode cX6_best 23 = .ok (.aload_n 0, 1) := by decide +kernel
theorem dX6_best_24 : decode cX6_best 24 = .ok (.bipush (-2), 2) := by decide +kernel
theorem dX6_best_26 : decode cX6_best 26 = .ok (.invokevirtual 58, 3) := by decide +kernel
theorem dX6_best_29 : decode cX6_best 29 = .ok (.ireturn, 1) := by decide +kernel
theorem dX6_best_30 : decode cX6_best 30 = .ok (.iconst (-1), 1) := by decide +kernel
theorem dX6_best_31 : decode cX6_best 31 = .ok (.istore_n 3, 1) := by decide +kernel
theorem dX6_best_32 : decode cX6_best 32 = .ok (.iconst 0, 1) := by decide +kernel
theorem dX6_best_33 : decode cX6_best 33 = .ok (.istore 4, 2) := by decide +kernel
theorem dX6_best_35 : decode cX6_best 35 = .ok (.iconst 1, 1) := by decide +kernel
theorem dX6_best_36 : decode cX6_best 36 = .ok (.istore 5, 2) := by decide +kernel
theorem dX6_best_38 : decode cX6_best 38 = .ok (.iload 5, 2) := by decide +kernel
theorem dX6_best_40 : decode cX6_best 40 = .ok (.bipush 10, 2) := by decide +kernel
theorem dX6_best_42 : decode cX6_best 42 = .ok (.if_icmp .ge 61, 3) := by decide +kernel
theorem dX6_best_45 : decode cX6_best 45 = .ok (.bipush (-5), 2) := by decide +kernel
theorem dX6_best_47 : decode cX6_best 47 = .ok (.istore 6, 2) := by decide +kernel
theorem dX6_best_49 : decode cX6_best 49 = .ok (.iload 6, 2) := by decide +kernel
theorem dX6_best_51 : decode cX6_best 51 = .ok (.bipush 16, 2) := by decide +kernel
theorem dX6_best_53 : decode cX6_best 53 = .ok (.if_icmp .ge 44, 3) := by decide +kernel
theorem dX6_best_56 : decode cX6_best 56 = .ok (.aload_n 0, 1) := by decide +kernel
theorem dX6_best_57 : decode cX6_best 57 = .ok (.iload_n 1, 1) := by decide +kernel
theorem dX6_best_58 : decode cX6_best 58 = .ok (.iload 5, 2) := by decide +kernel
theorem dX6_best_60 : decode cX6_best 60 = .ok (.iload 6, 2) := by decide +kernel
theorem dX6_best_62 : decode cX6_best 62 = .ok (.invokevirtual 172, 3) := by decide +kernel
theorem dX6_best_65 : decode cX6_best 65 = .ok (.istore 7, 2) := by decide +kernel
theorem dX6_best_67 : decode cX6_best 67 = .ok (.iload 7, 2) := by decide +kernel
theorem dX6_best_69 : decode cX6_best 69 = .ok (.iload_n 3, 1) := by decide +kernel
theorem dX6_best_70 : decode cX6_best 70 = .ok (.if_icmp .gt 6, 3) := by decide +kernel
theorem dX6_best_73 : decode cX6_best 73 = .ok (.goto 18, 3) := by decide +kernel
theorem dX6_best_76 : decode cX6_best 76 = .ok (.iload 7, 2) := by decide +kernel
theorem dX6_best_78 : decode cX6_best 78 = .ok (.istore_n 3, 1) := by decide +kernel
theorem dX6_best_79 : decode cX6_best 79 = .ok (.bipush 100, 2) := by decide +kernel
theorem dX6_best_81 : decode cX6_best 81 = .ok (.iload 5, 2) := by decide +kernel
theorem dX6_best_83 : decode cX6_best 83 = .ok (.imul, 1) := by decide +kernel
theorem dX6_best_84 : decode cX6_best 84 = .ok (.iconst 5, 1) := by decide +kernel
theorem dX6_best_85 : decode cX6_best 85 = .ok (.iadd, 1) := by decide +kernel
theorem dX6_best_86 : decode cX6_best 86 = .ok (.iload 6, 2) := by decide +kernel
theorem dX6_best_88 : decode cX6_best 88 = .ok (.iadd, 1) := by decide +kernel
theorem dX6_best_89 : decode cX6_best 89 = .ok (.istore 4, 2) := by decide +kernel
theorem dX6_best_91 : decode cX6_best 91 = .ok (.iinc 6 1, 3) := by decide +kernel
theorem dX6_best_94 : decode cX6_best 94 = .ok (.goto (-45), 3) := by decide +kernel
theorem dX6_best_97 : decode cX6_best 97 = .ok (.iinc 5 1, 3) := by decide +kernel
theorem dX6_best_100 : decode cX6_best 100 = .ok (.goto (-62), 3) := by decide +kernel
theorem dX6_best_103 : decode cX6_best 103 = .ok (.iload_n 2, 1) := by decide +kernel
theorem dX6_best_104 : decode cX6_best 104 = .ok (.ifCond .ne 8, 3) := by decide +kernel
theorem dX6_best_107 : decode cX6_best 107 = .ok (.iload 4, 2) := by decide +kernel
theorem dX6_best_109 : decode cX6_best 109 = .ok (.goto 4, 3) := by decide +kernel
theorem dX6_best_112 : decode cX6_best 112 = .ok (.iload_n 3, 1) := by decide +kernel
theorem dX6_best_113 : decode cX6_best 113 = .ok (.ireturn, 1) := by decide +kernel
set_option maxRecDepth 20000 in
theorem ggX6_off_X6_isBall : GoodIn wsX6_off wsX6_isBall := goodIn_r _ [6, 7, 8, 9, 5, 10, 60, 61, 62, 63, 64, 65, 66, 67, 68, 69, 70, 71, 72, 73, 74, 75, 76, 77, 78, 79, 80, 81, 82, 83, 84, 85, 86, 87, 88, 89, 90] (by decide +kernel) (by decide +kernel)
set_option maxRecDepth 20000 in
theorem gX6_off_X6_isBall : GoodIn wsX6_off (wsV RX6 119 RX6 yX6_isBall wsX6_isBall) := goodIn_app (goodIn_of _ (by decide +kernel)) ggX6_off_X6_isBall
set_option maxRecDepth 20000 in
theorem ggX6_off_X6_no : GoodIn wsX6_off wsX6_no := goodIn_r _ [14, 15, 60, 61, 62, 63, 64, 65, 66, 67, 68, 69, 70, 71, 72, 73, 74, 75, 76, 77, 78, 79, 80, 81, 82, 83, 84, 85, 86, 87, 88, 89, 90] (by decide +kernel) (by decide +kernel)
set_option maxRecDepth 20000 in
theorem gX6_off_X6_no : GoodIn wsX6_off (wsV RX6 58 RX6 yX6_no wsX6_no) := goodIn_app (goodIn_of _ (by decide +kernel)) ggX6_off_X6_no
set_option maxRecDepth 20000 in
theorem ggX6_off_X6_within : GoodIn wsX6_off wsX6_within := goodIn_r _ [10] (by decide +kernel) (by decide +kernel)
set_option maxRecDepth 20000 in
theorem gX6_off_X6_within : GoodIn wsX6_off (va_wsS RX6 65 yX6_within wsX6_within) := goodIn_app (goodIn_of _ (by decide +kernel)) ggX6_off_X6_within
set_option maxRecDepth 20000 in
theorem ggX6_off_X6_isIn : GoodIn wsX6_off wsX6_isIn := goodIn_r _ [19, 20, 21, 22, 23, 5, 24, 25, 26, 27, 28, 1, 29, 30, 31, 32, 33, 34, 35, 36, 37, 38, 39, 40, 41, 42, 43, 44, 45, 46, 47, 48, 49, 50, 8, 9, 10, 51, 52, 53, 54, 55, 56, 57, 58, 59, 60, 61, 62, 63, 64, 65, 66, 67, 68, 69, 70, 71, 72, 73, 74, 75, 76, 77, 78, 79, 80, 81, 82, 83, 84, 85, 86, 87, 88, 89, 90] (by decide +kernel) (by decide +kernel)
set_option maxRecDepth 20000 in
theorem gX6_off_X6_isIn : GoodIn wsX6_off (wsV RX6 169 RX6 yX6_isIn wsX6_isIn) := goodIn_app (goodIn_of _ (by decide +kernel)) ggX6_off_X6_isIn
theorem dX6_off_0 : decode cX6_off 0 = .ok (.aload_n 0, 1) := by decide +kernel
theorem dX6_off_1 : decode cX6_off 1 = .ok (.iload_n 1, 1) := by decide +kernel
theorem dX6_off_2 : decode cX6_off 2 = .ok (.invokevirtual 119, 3) := by decide +kernel
theorem dX6_off_5 : decode cX6_off 5 = .ok (.ifCond .ne 9, 3) := by decide +kernel
theorem dX6_off_8 : decode cX6_off 8 = .ok (.aload_n 0, 1) := by decide +kernel
theorem dX6_off_9 : decode cX6_off 9 = .ok (.iconst (-1), 1) := by decide +kernel
theorem dX6_off_10 : decode cX6_off 10 = .ok (.invokevirtual 58, 3) := by decide +kernel
theorem dX6_off_13 : decode cX6_off 13 = .ok (.ireturn, 1) := by decide +kernel
theorem dX6_off_14 : decode cX6_off 14 = .ok (.iload_n 2, 1) := by decide +kernel
theorem dX6_off_15 : decode cX6_off 15 = .ok (.iconst 0, 1) := by decide +kernel
theorem dX6_off_16 : decode cX6_off 16 = .ok (.iconst 1, 1) := by decide +kernel
theorem dX6_off_17 : decode cX6_off 17 = .ok (.invokestatic 65, 3) := by decide +kernel
theorem dX6_off_20 : decode cX6_off 20 = .ok (.ifCond .ne 10, 3) := by decide +kernel
theorem dX6_off_23 : decode cX6_off 23 = .ok (.aload_n 0, 1) := by decide +kernel
theorem dX6_off_24 : decode cX6_off 24 = .ok (.bipush (-2), 2) := by decide +kernel
theorem dX6_off_26 : decode cX6_off 26 = .ok (.invokevirtual 58, 3) := by decide +kernel
theorem dX6_off_29 : decode cX6_off 29 = .ok (.ireturn, 1) := by decide +kernel
theorem dX6_off_30 : decode cX6_off 30 = .ok (.iconst 0, 1) := by decide +kernel
theorem dX6_off_31 : decode cX6_off 31 = .ok (.istore_n 3, 1) := by decide +kernel
theorem dX6_off_32 : decode cX6_off 32 = .ok (.iconst 1, 1) := by decide +kernel
theorem dX6_off_33 : decode cX6_off 33 = .ok (.istore 4, 2) := by decide +kernel
theorem dX6_off_35 : decode cX6_off 35 = .ok (.iload 4, 2) := by decide +kernel
theorem dX6_off_37 : decode cX6_off 37 = .ok (.bipush 10, 2) := by decide +kernel
theorem dX6_off_39 : decode cX6_off 39 = .ok (.if_icmp .ge 67, 3) := by decide +kernel
theorem dX6_off_42 : decode cX6_off 42 = .ok (.bipush (-5), 2) := by decide +kernel
theorem dX6_off_44 : decode cX6_off 44 = .ok (.istore 5, 2) := by decide +kernel
theorem dX6_off_46 : decode cX6_off 46 = .ok (.iload 5, 2) := by decide +kernel
theorem dX6_off_48 : decode cX6_off 48 = .ok (.bipush 16, 2) := by decide +kernel
theorem dX6_off_50 : decode cX6_off 50 = .ok (.if_icmp .ge 50, 3) := by decide +kernel
theorem dX6_off_53 : decode cX6_off 53 = .ok (.aload_n 0, 1) := by decide +kernel
theorem dX6_off_54 : decode cX6_off 54 = .ok (.iload_n 1, 1) := by decide +kernel
theorem dX6_off_55 : decode cX6_off 55 = .ok (.iload 4, 2) := by decide +kernel
theorem dX6_off_57 : decode cX6_off 57 = .ok (.iload 5, 2) := by decide +kernel
theorem dX6_off_59 : decode cX6_off 59 = .ok (.invokevirtual 169, 3) := by decide +kernel
theorem dX6_off_62 : decode cX6_off 62 = .ok (.ifCond .ne 6, 3) := by decide +kernel
theorem dX6_off_65 : decode cX6_off 65 = .ok (.goto 29, 3) := by decide +kernel
theorem dX6_off_68 : decode cX6_off 68 = .ok (.iload_n 2, 1) := by decide +kernel
theorem dX6_off_69 : decode cX6_off 69 = .ok (.ifCond .ne 15, 3) := by decide +kernel
theorem dX6_off_72 : decode cX6_off 72 = .ok (.aload_n 0, 1) := by decide +kernel
theorem dX6_off_73 : decode cX6_off 73 = .ok (.getfield 140, 3) := by decide +kernel
theorem dX6_off_76 : decode cX6_off 76 = .ok (.iconst 2, 1) := by decide +kernel
theorem dX6_off_77 : decode cX6_off 77 = .ok (.iand, 1) := by decide +kernel
theorem dX6_off_78 : decode cX6_off 78 = .ok (.ifCond .eq 16, 3) := by decide +kernel
theorem dX6_off_81 : decode cX6_off 81 = .ok (.goto 10, 3) := by decide +kernel
theorem dX6_off_84 : decode cX6_off 84 = .ok (.aload_n 0, 1) := by decide +kernel
theorem dX6_off_85 : decode cX6_off 85 = .ok (.getfield 140, 3) := by decide +kernel
theorem dX6_off_88 : decode cX6_off 88 = .ok (.ifCond .ne 6, 3) := by decide +kernel
theorem dX6_off_91 : decode cX6_off 91 = .ok (.iinc 3 1, 3) := by decide +kernel
theorem dX6_off_94 : decode cX6_off 94 = .ok (.iinc 5 1, 3) := by decide +kernel
theorem dX6_off_97 : decode cX6_off 97 = .ok (.goto (-51), 3) := by decide +kernel
theorem dX6_off_100 : decode cX6_off 100 = .ok (.iinc 4 1, 3) := by decide +kernel
theorem dX6_off_103 : decode cX6_off 103 = .ok (.goto (-68), 3) := by decide +kernel
theorem dX6_off_106 : decode cX6_off 106 = .ok (.iload_n 3, 1) := by decide +kernel
theorem dX6_off_107 : decode cX6_off 107 = .ok (.ireturn, 1) := by decide +kernel
set_option maxRecDepth 20000 in
theorem ggX6_when_X6_isBall : GoodIn wsX6_when wsX6_isBall := goodIn_r _ [6, 7, 8, 9, 5, 10, 60, 61, 62, 63, 64, 65, 66, 67, 68, 69, 70, 71, 72, 73, 74, 75, 76, 77, 78, 79, 80, 81, 82, 83, 84, 85, 86, 87, 88, 89, 90] (by decide +kernel) (by decide +kernel)
set_option maxRecDepth 20000 in
theorem gX6_when_X6_isBall : GoodIn wsX6_when (wsV RX6 119 RX6 yX6_isBall wsX6_isBall) := goodIn_app (goodIn_of _ (by decide +kernel)) ggX6_when_X6_isBall
set_option maxRecDepth 20000 in
theorem ggX6_when_X6_no : GoodIn wsX6_when wsX6_no := goodIn_r _ [14, 15, 60, 61, 62, 63, 64, 65, 66, 67, 68, 69, 70, 71, 72, 73, 74, 75, 76, 77, 78, 79, 80, 81, 82, 83, 84, 85, 86, 87, 88, 89, 90] (by decide +kernel) (by decide +kernel)
set_option maxRecDepth 20000 in
theorem gX6_when_X6_no : GoodIn wsX6_when (wsV RX6 58 RX6 yX6_no wsX6_no) := goodIn_app (goodIn_of _ (by decide +kernel)) ggX6_when_X6_no
set_option maxRecDepth 20000 in
theorem ggX6_when_X6_noThrow : GoodIn wsX6_when wsX6_noThrow := goodIn_r _ [19] (by decide +kernel) (by decide +kernel)
set_option maxRecDepth 20000 in
theorem gX6_when_X6_noThrow : GoodIn wsX6_when (wsV RX6 156 RX6 yX6_noThrow wsX6_noThrow) := goodIn_app (goodIn_of _ (by decide +kernel)) ggX6_when_X6_noThrow
set_option maxRecDepth 20000 in
theorem ggX6_when_X6_flies : GoodIn wsX6_when wsX6_flies := goodIn_r _ [23, 24, 25, 26, 27, 28, 29, 30, 31, 32, 33, 34, 35, 36, 37, 38, 39, 40, 41, 42, 43, 44, 45, 46, 5, 47, 48, 49, 50, 8, 9, 10, 51, 52, 53, 54, 55, 56, 57, 58, 59, 60, 61, 62, 63, 64, 65, 66, 67, 68, 69, 70, 71, 72, 73, 74, 75, 76, 77, 78, 79, 80, 81, 82, 83, 84, 85, 86, 87, 88, 89, 90] (by decide +kernel) (by decide +kernel)
set_option maxRecDepth 20000 in
theorem gX6_when_X6_flies : GoodIn wsX6_when (wsV RX6 152 RX6 yX6_flies wsX6_flies) := goodIn_app (goodIn_of _ (by decide +kernel)) ggX6_when_X6_flies
theorem dX6_when_0 : decode cX6_when 0 = .ok (.aload_n 0, 1) := by decide +kernel
theorem dX6_when_1 : decode cX6_when 1 = .ok (.iload_n 1, 1) := by decide +kernel
theorem dX6_when_2 : decode cX6_when 2 = .ok (.invokevirtual 119, 3) := by decide +kernel
theorem dX6_when_5 : decode cX6_when 5 = .ok (.ifCond .ne 9, 3) := by decide +kernel
theorem dX6_when_8 : decode cX6_when 8 = .ok (.aload_n 0, 1) := by decide +kernel
theorem dX6_when_9 : decode cX6_when 9 = .ok (.iconst (-1), 1) := by decide +kernel
theorem dX6_when_10 : decode cX6_when 10 = .ok (.invokevirtual 58, 3) := by decide +kernel
theorem dX6_when_13 : decode cX6_when 13 = .ok (.ireturn, 1) := by decide +kernel
theorem dX6_when_14 : decode cX6_when 14 = .ok (.aload_n 0, 1) := by decide +kernel
theorem dX6_when_15 : decode cX6_when 15 = .ok (.iload_n 2, 1) := by decide +kernel
theorem dX6_when_16 : decode cX6_when 16 = .ok (.iload_n 3, 1) := by decide +kernel
theorem dX6_when_17 : decode cX6_when 17 = .ok (.invokevirtual 156, 3) := by decide +kernel
theorem dX6_when_20 : decode cX6_when 20 = .ok (.istore 4, 2) := by decide +kernel
theorem dX6_when_22 : decode cX6_when 22 = .ok (.iload 4, 2) := by decide +kernel
theorem dX6_when_24 : decode cX6_when 24 = .ok (.ifCond .ge 10, 3) := by decide +kernel
theorem dX6_when_27 : decode cX6_when 27 = .ok (.aload_n 0, 1) := by decide +kernel
theorem dX6_when_28 : decode cX6_when 28 = .ok (.iload 4, 2) := by decide +kernel
theorem dX6_when_30 : decode cX6_when 30 = .ok (.invokevirtual 58, 3) := by decide +kernel
theorem dX6_when_33 : decode cX6_when 33 = .ok (.ireturn, 1) := by decide +kernel
theorem dX6_when_34 : decode cX6_when 34 = .ok (.iconst 0, 1) := by decide +kernel
theorem dX6_when_35 : decode cX6_when 35 = .ok (.istore 5, 2) := by decide +kernel
theorem dX6_when_37 : decode cX6_when 37 = .ok (.iload 5, 2) := by decide +kernel
theorem dX6_when_39 : decode cX6_when 39 = .ok (.bipush 9, 2) := by decide +kernel
theorem dX6_when_41 : decode cX6_when 41 = .ok (.if_icmp .ge 29, 3) := by decide +kernel
theorem dX6_when_44 : decode cX6_when 44 = .ok (.aload_n 0, 1) := by decide +kernel
theorem dX6_when_45 : decode cX6_when 45 = .ok (.iload_n 1, 1) := by decide +kernel
theorem dX6_when_46 : decode cX6_when 46 = .ok (.iload_n 2, 1) := by decide +kernel
theorem dX6_when_47 : decode cX6_when 47 = .ok (.iload_n 3, 1) := by decide +kernel
theorem dX6_when_48 : decode cX6_when 48 = .ok (.aload_n 0, 1) := by decide +kernel
theorem dX6_when_49 : decode cX6_when 49 = .ok (.getfield 149, 3) := by decide +kernel
theorem dX6_when_52 : decode cX6_when 52 = .ok (.iload 5, 2) := by decide +kernel
theorem dX6_when_54 : decode cX6_when 54 = .ok (.iadd, 1) := by decide +kernel
theorem dX6_when_55 : decode cX6_when 55 = .ok (.invokevirtual 152, 3) := by decide +kernel
theorem dX6_when_58 : decode cX6_when 58 = .ok (.ifCond .ne 6, 3) := by decide +kernel
theorem dX6_when_61 : decode cX6_when 61 = .ok (.iload 5, 2) := by decide +kernel
theorem dX6_when_63 : decode cX6_when 63 = .ok (.ireturn, 1) := by decide +kernel
theorem dX6_when_64 : decode cX6_when 64 = .ok (.iinc 5 1, 3) := by decide +kernel
theorem dX6_when_67 : decode cX6_when 67 = .ok (.goto (-30), 3) := by decide +kernel
theorem dX6_when_70 : decode cX6_when 70 = .ok (.bipush (-9), 2) := by decide +kernel
theorem dX6_when_72 : decode cX6_when 72 = .ok (.ireturn, 1) := by decide +kernel
set_option maxRecDepth 20000 in
theorem ggX6_crumpled_X6_isBall : GoodIn wsX6_crumpled wsX6_isBall := goodIn_r _ [6, 7, 8, 9, 5, 10, 64, 65, 66, 67, 68, 69, 70, 71, 72, 73, 74, 75, 76, 77, 78, 79, 80, 81, 82, 83, 84, 85, 86, 87, 88, 89, 90, 91, 92, 93, 94] (by decide +kernel) (by decide +kernel)
set_option maxRecDepth 20000 in
theorem gX6_crumpled_X6_isBall : GoodIn wsX6_crumpled (wsV RX6 119 RX6 yX6_isBall wsX6_isBall) := goodIn_app (goodIn_of _ (by decide +kernel)) ggX6_crumpled_X6_isBall
set_option maxRecDepth 20000 in
theorem ggX6_crumpled_X6_no : GoodIn wsX6_crumpled wsX6_no := goodIn_r _ [14, 15, 64, 65, 66, 67, 68, 69, 70, 71, 72, 73, 74, 75, 76, 77, 78, 79, 80, 81, 82, 83, 84, 85, 86, 87, 88, 89, 90, 91, 92, 93, 94] (by decide +kernel) (by decide +kernel)
set_option maxRecDepth 20000 in
theorem gX6_crumpled_X6_no : GoodIn wsX6_crumpled (wsV RX6 58 RX6 yX6_no wsX6_no) := goodIn_app (goodIn_of _ (by decide +kernel)) ggX6_crumpled_X6_no
set_option maxRecDepth 20000 in
theorem ggX6_crumpled_X6_noThrow : GoodIn wsX6_crumpled wsX6_noThrow := goodIn_r _ [19] (by decide +kernel) (by decide +kernel)
set_option maxRecDepth 20000 in
theorem gX6_crumpled_X6_noThrow : GoodIn wsX6_crumpled (wsV RX6 156 RX6 yX6_noThrow wsX6_noThrow) := goodIn_app (goodIn_of _ (by decide +kernel)) ggX6_crumpled_X6_noThrow
set_option maxRecDepth 20000 in
theorem ggX6_crumpled_X6_isIn : GoodIn wsX6_crumpled wsX6_isIn := goodIn_r _ [23, 24, 25, 26, 27, 5, 28, 29, 30, 31, 32, 33, 34, 35, 36, 37, 38, 39, 40, 41, 42, 43, 44, 45, 46, 47, 48, 49, 50, 51, 52, 53, 1, 54, 8, 9, 10, 55, 56, 57, 58, 59, 60, 61, 62, 63, 64, 65, 66, 67, 68, 69, 70, 71, 72, 73, 74, 75, 76, 77, 78, 79, 80, 81, 82, 83, 84, 85, 86, 87, 88, 89, 90, 91, 92, 93, 94] (by decide +kernel) (by decide +kernel)
set_option maxRecDepth 20000 in
theorem gX6_crumpled_X6_isIn : GoodIn wsX6_crumpled (wsV RX6 169 RX6 yX6_isIn wsX6_isIn) := goodIn_app (goodIn_of _ (by decide +kernel)) ggX6_crumpled_X6_isIn
theorem dX6_crumpled_0 : decode cX6_crumpled 0 = .ok (.aload_n 0, 1) := by decide +kernel
theorem dX6_crumpled_1 : decode cX6_crumpled 1 = .ok (.iload_n 1, 1) := by decide +kernel
theorem dX6_crumpled_2 : decode cX6_crumpled 2 = .ok (.invokevirtual 119, 3) := by decide +kernel
theorem dX6_crumpled_5 : decode cX6_crumpled 5 = .ok (.ifCond .ne 9, 3) := by decide +kernel
theorem dX6_crumpled_8 : decode cX6_crumpled 8 = .ok (.aload_n 0, 1) := by decide +kernel
theorem dX6_crumpled_9 : decode cX6_crumpled 9 = .ok (.iconst (-1), 1) := by decide +kernel
theorem dX6_crumpled_10 : decode cX6_crumpled 10 = .ok (.invokevirtual 58, 3) := by decide +kernel
theorem dX6_crumpled_13 : decode cX6_crumpled 13 = .ok (.ireturn, 1) := by decide +kernel
theorem dX6_crumpled_14 : decode cX6_crumpled 14 = .ok (.aload_n 0, 1) := by decide +kernel
theorem dX6_crumpled_15 : decode cX6_crumpled 15 = .ok (.iload_n 2, 1) := by decide +kernel
theorem dX6_crumpled_16 : decode cX6_crumpled 16 = .ok (.iload_n 3, 1) := by decide +kernel
theorem dX6_crumpled_17 : decode cX6_crumpled 17 = .ok (.invokevirtual 156, 3) := by decide +kernel
theorem dX6_crumpled_20 : decode cX6_crumpled 20 = .ok (.istore 4, 2) := by decide +kernel
theorem dX6_crumpled_22 : decode cX6_crumpled 22 = .ok (.iload 4, 2) := by decide +kernel
theorem dX6_crumpled_24 : decode cX6_crumpled 24 = .ok (.ifCond .ge 10, 3) := by decide +kernel
theorem dX6_crumpled_27 : decode cX6_crumpled 27 = .ok (.aload_n 0, 1) := by decide +kernel
theorem dX6_crumpled_28 : decode cX6_crumpled 28 = .ok (.iload 4, 2) := by decide +kernel
theorem dX6_crumpled_30 : decode cX6_crumpled 30 = .ok (.invokevirtual 58, 3) := by decide +kernel
theorem dX6_crumpled_33 : decode cX6_crumpled 33 = .ok (.ireturn, 1) := by decide +kernel
theorem dX6_crumpled_34 : decode cX6_crumpled 34 = .ok (.aload_n 0, 1) := by decide +kernel
theorem dX6_crumpled_35 : decode cX6_crumpled 35 = .ok (.getfield 16, 3) := by decide +kernel
theorem dX6_crumpled_38 : decode cX6_crumpled 38 = .ok (.iload_n 1, 1) := by decide +kernel
theorem dX6_crumpled_39 : decode cX6_crumpled 39 = .ok (.iaload, 1) := by decide +kernel
theorem dX6_crumpled_40 : decode cX6_crumpled 40 = .ok (.istore 5, 2) := by decide +kernel
theorem dX6_crumpled_42 : decode cX6_crumpled 42 = .ok (.iconst 0, 1) := by decide +kernel
theorem dX6_crumpled_43 : decode cX6_crumpled 43 = .ok (.istore 6, 2) := by decide +kernel
theorem dX6_crumpled_45 : decode cX6_crumpled 45 = .ok (.iconst 0, 1) := by decide +kernel
theorem dX6_crumpled_46 : decode cX6_crumpled 46 = .ok (.istore 7, 2) := by decide +kernel
theorem dX6_crumpled_48 : decode cX6_crumpled 48 = .ok (.iload 7, 2) := by decide +kernel
theorem dX6_crumpled_50 : decode cX6_crumpled 50 = .ok (.bipush 10, 2) := by decide +kernel
theorem dX6_crumpled_52 : decode cX6_crumpled 52 = .ok (.if_icmp .ge 36, 3) := by decide +kernel
theorem dX6_crumpled_55 : decode cX6_crumpled 55 = .ok (.aload_n 0, 1) := by decide +kernel
theorem dX6_crumpled_56 : decode cX6_crumpled 56 = .ok (.getfield 16, 3) := by decide +kernel
theorem dX6_crumpled_59 : decode cX6_crumpled 59 = .ok (.iload_n 1, 1) := by decide +kernel
theorem dX6_crumpled_60 : decode cX6_crumpled 60 = .ok (.iload 7, 2) := by decide +kernel
theorem dX6_crumpled_62 : decode cX6_crumpled 62 = .ok (.iastore, 1) := by decide +kernel
theorem dX6_crumpled_63 : decode cX6_crumpled 63 = .ok (.aload_n 0, 1) := by decide +kernel
theorem dX6_crumpled_64 : decode cX6_crumpled 64 = .ok (.iload_n 1, 1) := by decide +kernel
theorem dX6_crumpled_65 : decode cX6_crumpled 65 = .ok (.iload_n 2, 1) := by decide +kernel
theorem dX6_crumpled_66 : decode cX6_crumpled 66 = .ok (.iload_n 3, 1) := by decide +kernel
theorem dX6_crumpled_67 : decode cX6_crumpled 67 = .ok (.invokevirtual 169, 3) := by decide +kernel
theorem dX6_crumpled_70 : decode cX6_crumpled 70 = .ok (.ifCond .eq 12, 3) := by decide +kernel
theorem dX6_crumpled_73 : decode cX6_crumpled 73 = .ok (.iload 6, 2) := by decide +kernel
theorem dX6_crumpled_75 : decode cX6_crumpled 75 = .ok (.iconst 1, 1) := by decide +kernel
theorem dX6_crumpled_76 : decode cX6_crumpled 76 = .ok (.iload 7, 2) := by decide +kernel
theorem dX6_crumpled_78 : decode cX6_crumpled 78 = .ok (.ishl, 1) := by decide +kernel
theorem dX6_crumpled_79 : decode cX6_crumpled 79 = .ok (.ior, 1) := by decide +kernel
theorem dX6_crumpled_80 : decode cX6_crumpled 80 = .ok (.istore 6, 2) := by decide +kernel
theorem dX6_crumpled_82 : decode cX6_crumpled 82 = .ok (.iinc 7 1, 3) := by decide +kernel
theorem dX6_crumpled_85 : decode cX6_crumpled 85 = .ok (.goto (-37), 3) := by decide +kernel
theorem dX6_crumpled_88 : decode cX6_crumpled 88 = .ok (.aload_n 0, 1) := by decide +kernel
theorem dX6_crumpled_89 : decode cX6_crumpled 89 = .ok (.getfield 16, 3) := by decide +kernel
theorem dX6_crumpled_92 : decode cX6_crumpled 92 = .ok (.iload_n 1, 1) := by decide +kernel
theorem dX6_crumpled_93 : decode cX6_crumpled 93 = .ok (.iload 5, 2) := by decide +kernel
theorem dX6_crumpled_95 : decode cX6_crumpled 95 = .ok (.iastore, 1) := by decide +kernel
theorem dX6_crumpled_96 : decode cX6_crumpled 96 = .ok (.iload 6, 2) := by decide +kernel
theorem dX6_crumpled_98 : decode cX6_crumpled 98 = .ok (.ireturn, 1) := by decide +kernel
set_option maxRecDepth 20000 in
theorem ggX6_fills_X6_isBall : GoodIn wsX6_fills wsX6_isBall := goodIn_r _ [6, 7, 8, 9, 5, 10, 64, 65, 66, 67, 68, 69, 70, 71, 72, 73, 74, 75, 76, 77, 78, 79, 80, 81, 82, 83, 84, 85, 86, 87, 88, 89, 90, 91, 92, 93, 94] (by decide +kernel) (by decide +kernel)
set_option maxRecDepth 20000 in
theorem gX6_fills_X6_isBall : GoodIn wsX6_fills (wsV RX6 119 RX6 yX6_isBall wsX6_isBall) := goodIn_app (goodIn_of _ (by decide +kernel)) ggX6_fills_X6_isBall
set_option maxRecDepth 20000 in
theorem ggX6_fills_X6_no : GoodIn wsX6_fills wsX6_no := goodIn_r _ [14, 15, 64, 65, 66, 67, 68, 69, 70, 71, 72, 73, 74, 75, 76, 77, 78, 79, 80, 81, 82, 83, 84, 85, 86, 87, 88, 89, 90, 91, 92, 93, 94] (by decide +kernel) (by decide +kernel)
set_option maxRecDepth 20000 in
theorem gX6_fills_X6_no : GoodIn wsX6_fills (wsV RX6 58 RX6 yX6_no wsX6_no) := goodIn_app (goodIn_of _ (by decide +kernel)) ggX6_fills_X6_no
set_option maxRecDepth 20000 in
theorem ggX6_fills_X6_noThrow : GoodIn wsX6_fills wsX6_noThrow := goodIn_r _ [19] (by decide +kernel) (by decide +kernel)
set_option maxRecDepth 20000 in
theorem gX6_fills_X6_noThrow : GoodIn wsX6_fills (wsV RX6 156 RX6 yX6_noThrow wsX6_noThrow) := goodIn_app (goodIn_of _ (by decide +kernel)) ggX6_fills_X6_noThrow
set_option maxRecDepth 20000 in
theorem ggX6_fills_X6_isIn : GoodIn wsX6_fills wsX6_isIn := goodIn_r _ [23, 24, 25, 26, 27, 5, 28, 29, 30, 31, 32, 33, 34, 35, 36, 37, 38, 39, 40, 41, 42, 1, 43, 44, 45, 46, 47, 48, 49, 50, 51, 52, 53, 54, 8, 9, 10, 55, 56, 57, 58, 59, 60, 61, 62, 63, 64, 65, 66, 67, 68, 69, 70, 71, 72, 73, 74, 75, 76, 77, 78, 79, 80, 81, 82, 83, 84, 85, 86, 87, 88, 89, 90, 91, 92, 93, 94] (by decide +kernel) (by decide +kernel)
set_option maxRecDepth 20000 in
theorem gX6_fills_X6_isIn : GoodIn wsX6_fills (wsV RX6 169 RX6 yX6_isIn wsX6_isIn) := goodIn_app (goodIn_of _ (by decide +kernel)) ggX6_fills_X6_isIn
theorem dX6_fills_0 : decode cX6_fills 0 = .ok (.aload_n 0, 1) := by decide +kernel
theorem dX6_fills_1 : decode cX6_fills 1 = .ok (.iload_n 1, 1) := by decide +kernel
theorem dX6_fills_2 : decode cX6_fills 2 = .ok (.invokevirtual 119, 3) := by decide +kernel
theorem dX6_fills_5 : decode cX6_fills 5 = .ok (.ifCond .ne 9, 3) := by decide +kernel
theorem dX6_fills_8 : decode cX6_fills 8 = .ok (.aload_n 0, 1) := by decide +kernel
theorem dX6_fills_9 : decode cX6_fills 9 = .ok (.iconst (-1), 1) := by decide +kernel
theorem dX6_fills_10 : decode cX6_fills 10 = .ok (.invokevirtual 58, 3) := by decide +kernel
theorem dX6_fills_13 : decode cX6_fills 13 = .ok (.ireturn, 1) := by decide +kernel
theorem dX6_fills_14 : decode cX6_fills 14 = .ok (.aload_n 0, 1) := by decide +kernel
theorem dX6_fills_15 : decode cX6_fills 15 = .ok (.iload_n 2, 1) := by decide +kernel
theorem dX6_fills_16 : decode cX6_fills 16 = .ok (.iload_n 3, 1) := by decide +kernel
theorem dX6_fills_17 : decode cX6_fills 17 = .ok (.invokevirtual 156, 3) := by decide +kernel
theorem dX6_fills_20 : decode cX6_fills 20 = .ok (.istore 4, 2) := by decide +kernel
theorem dX6_fills_22 : decode cX6_fills 22 = .ok (.iload 4, 2) := by decide +kernel
theorem dX6_fills_24 : decode cX6_fills 24 = .ok (.ifCond .ge 10, 3) := by decide +kernel
theorem dX6_fills_27 : decode cX6_fills 27 = .ok (.aload_n 0, 1) := by decide +kernel
theorem dX6_fills_28 : decode cX6_fills 28 = .ok (.iload 4, 2) := by decide +kernel
theorem dX6_fills_30 : decode cX6_fills 30 = .ok (.invokevirtual 58, 3) := by decide +kernel
theorem dX6_fills_33 : decode cX6_fills 33 = .ok (.ireturn, 1) := by decide +kernel
theorem dX6_fills_34 : decode cX6_fills 34 = .ok (.aload_n 0, 1) := by decide +kernel
theorem dX6_fills_35 : decode cX6_fills 35 = .ok (.getfield 89, 3) := by decide +kernel
theorem dX6_fills_38 : decode cX6_fills 38 = .ok (.istore 5, 2) := by decide +kernel
theorem dX6_fills_40 : decode cX6_fills 40 = .ok (.iconst 0, 1) := by decide +kernel
theorem dX6_fills_41 : decode cX6_fills 41 = .ok (.istore 6, 2) := by decide +kernel
theorem dX6_fills_43 : decode cX6_fills 43 = .ok (.iconst 0, 1) := by decide +kernel
theorem dX6_fills_44 : decode cX6_fills 44 = .ok (.istore 7, 2) := by decide +kernel
theorem dX6_fills_46 : decode cX6_fills 46 = .ok (.iload 7, 2) := by decide +kernel
theorem dX6_fills_48 : decode cX6_fills 48 = .ok (.bipush 10, 2) := by decide +kernel
theorem dX6_fills_50 : decode cX6_fills 50 = .ok (.if_icmp .ge 34, 3) := by decide +kernel
theorem dX6_fills_53 : decode cX6_fills 53 = .ok (.aload_n 0, 1) := by decide +kernel
theorem dX6_fills_54 : decode cX6_fills 54 = .ok (.iload 7, 2) := by decide +kernel
theorem dX6_fills_56 : decode cX6_fills 56 = .ok (.putfield 89, 3) := by decide +kernel
theorem dX6_fills_59 : decode cX6_fills 59 = .ok (.aload_n 0, 1) := by decide +kernel
theorem dX6_fills_60 : decode cX6_fills 60 = .ok (.iload_n 1, 1) := by decide +kernel
theorem dX6_fills_61 : decode cX6_fills 61 = .ok (.iload_n 2, 1) := by decide +kernel
theorem dX6_fills_62 : decode cX6_fills 62 = .ok (.iload_n 3, 1) := by decide +kernel
theorem dX6_fills_63 : decode cX6_fills 63 = .ok (.invokevirtual 169, 3) := by decide +kernel
theorem dX6_fills_66 : decode cX6_fills 66 = .ok (.ifCond .eq 12, 3) := by decide +kernel
theorem dX6_fills_69 : decode cX6_fills 69 = .ok (.iload 6, 2) := by decide +kernel
theorem dX6_fills_71 : decode cX6_fills 71 = .ok (.iconst 1, 1) := by decide +kernel
theorem dX6_fills_72 : decode cX6_fills 72 = .ok (.iload 7, 2) := by decide +kernel
theorem dX6_fills_74 : decode cX6_fills 74 = .ok (.ishl, 1) := by decide +kernel
theorem dX6_fills_75 : decode cX6_fills 75 = .ok (.ior, 1) := by decide +kernel
theorem dX6_fills_76 : decode cX6_fills 76 = .ok (.istore 6, 2) := by decide +kernel
theorem dX6_fills_78 : decode cX6_fills 78 = .ok (.iinc 7 1, 3) := by decide +kernel
theorem dX6_fills_81 : decode cX6_fills 81 = .ok (.goto (-35), 3) := by decide +kernel
theorem dX6_fills_84 : decode cX6_fills 84 = .ok (.aload_n 0, 1) := by decide +kernel
theorem dX6_fills_85 : decode cX6_fills 85 = .ok (.iload 5, 2) := by decide +kernel
theorem dX6_fills_87 : decode cX6_fills 87 = .ok (.putfield 89, 3) := by decide +kernel
theorem dX6_fills_90 : decode cX6_fills 90 = .ok (.iload 6, 2) := by decide +kernel
theorem dX6_fills_92 : decode cX6_fills 92 = .ok (.ireturn, 1) := by decide +kernel
set_option maxRecDepth 20000 in
theorem ggX6_whose_X6_noThrow : GoodIn wsX6_whose wsX6_noThrow := goodIn_r _ [8] (by decide +kernel) (by decide +kernel)
set_option maxRecDepth 20000 in
theorem gX6_whose_X6_noThrow : GoodIn wsX6_whose (wsV RX6 156 RX6 yX6_noThrow wsX6_noThrow) := goodIn_app (goodIn_of _ (by decide +kernel)) ggX6_whose_X6_noThrow
set_option maxRecDepth 20000 in
theorem ggX6_whose_X6_no : GoodIn wsX6_whose wsX6_no := goodIn_r _ [12, 13, 56, 57, 58, 59, 60, 61, 62, 63, 64, 65, 66, 67, 68, 69, 70, 71, 72, 73, 74, 75, 76, 77, 78, 79, 80, 81, 82, 83, 84, 85, 86] (by decide +kernel) (by decide +kernel)
set_option maxRecDepth 20000 in
theorem gX6_whose_X6_no : GoodIn wsX6_whose (wsV RX6 58 RX6 yX6_no wsX6_no) := goodIn_app (goodIn_of _ (by decide +kernel)) ggX6_whose_X6_no
set_option maxRecDepth 20000 in
theorem ggX6_whose_X6_flies : GoodIn wsX6_whose wsX6_flies := goodIn_r _ [17, 18, 3, 19, 20, 21, 22, 23, 24, 25, 26, 27, 28, 29, 30, 31, 32, 33, 34, 35, 36, 37, 38, 39, 7, 40, 41, 42, 43, 44, 45, 46, 47, 48, 49, 50, 51, 52, 53, 54, 55, 56, 57, 58, 59, 60, 61, 62, 63, 64, 65, 66, 67, 68, 69, 70, 71, 72, 73, 74, 75, 76, 77, 78, 79, 80, 81, 82, 83, 84, 85, 86] (by decide +kernel) (by decide +kernel)
set_option maxRecDepth 20000 in
theorem gX6_whose_X6_flies : GoodIn wsX6_whose (wsV RX6 152 RX6 yX6_flies wsX6_flies) := goodIn_app (goodIn_of _ (by decide +kernel)) ggX6_whose_X6_flies
theorem dX6_whose_0 : decode cX6_whose 0 = .ok (.aload_n 0, 1) := by decide +kernel
theorem dX6_whose_1 : decode cX6_whose 1 = .ok (.iload_n 1, 1) := by decide +kernel
theorem dX6_whose_2 : decode cX6_whose 2 = .ok (.iload_n 2, 1) := by decide +kernel
theorem dX6_whose_3 : decode cX6_whose 3 = .ok (.invokevirtual 156, 3) := by decide +kernel
theorem dX6_whose_6 : decode cX6_whose 6 = .ok (.istore 4, 2) := by decide +kernel
theorem dX6_whose_8 : decode cX6_whose 8 = .ok (.iload 4, 2) := by decide +kernel
theorem dX6_whose_10 : decode cX6_whose 10 = .ok (.ifCond .ge 10, 3) := by decide +kernel
theorem dX6_whose_13 : decode cX6_whose 13 = .ok (.aload_n 0, 1) := by decide +kernel
theorem dX6_whose_14 : decode cX6_whose 14 = .ok (.iload 4, 2) := by decide +kernel
theorem dX6_whose_16 : decode cX6_whose 16 = .ok (.invokevirtual 58, 3) := by decide +kernel
theorem dX6_whose_19 : decode cX6_whose 19 = .ok (.ireturn, 1) := by decide +kernel
theorem dX6_whose_20 : decode cX6_whose 20 = .ok (.iconst 0, 1) := by decide +kernel
theorem dX6_whose_21 : decode cX6_whose 21 = .ok (.istore 5, 2) := by decide +kernel
theorem dX6_whose_23 : decode cX6_whose 23 = .ok (.iconst 0, 1) := by decide +kernel
theorem dX6_whose_24 : decode cX6_whose 24 = .ok (.istore 6, 2) := by decide +kernel
theorem dX6_whose_26 : decode cX6_whose 26 = .ok (.iload 6, 2) := by decide +kernel
theorem dX6_whose_28 : decode cX6_whose 28 = .ok (.aload_n 0, 1) := by decide +kernel
theorem dX6_whose_29 : decode cX6_whose 29 = .ok (.getfield 62, 3) := by decide +kernel
theorem dX6_whose_32 : decode cX6_whose 32 = .ok (.if_icmp .ge 39, 3) := by decide +kernel
theorem dX6_whose_35 : decode cX6_whose 35 = .ok (.aload_n 0, 1) := by decide +kernel
theorem dX6_whose_36 : decode cX6_whose 36 = .ok (.iload 6, 2) := by decide +kernel
theorem dX6_whose_38 : decode cX6_whose 38 = .ok (.iload_n 1, 1) := by decide +kernel
theorem dX6_whose_39 : decode cX6_whose 39 = .ok (.iload_n 2, 1) := by decide +kernel
theorem dX6_whose_40 : decode cX6_whose 40 = .ok (.aload_n 0, 1) := by decide +kernel
theorem dX6_whose_41 : decode cX6_whose 41 = .ok (.getfield 149, 3) := by decide +kernel
theorem dX6_whose_44 : decode cX6_whose 44 = .ok (.invokevirtual 152, 3) := by decide +kernel
theorem dX6_whose_47 : decode cX6_whose 47 = .ok (.pop, 1) := by decide +kernel
theorem dX6_whose_48 : decode cX6_whose 48 = .ok (.aload_n 0, 1) := by decide +kernel
theorem dX6_whose_49 : decode cX6_whose 49 = .ok (.getfield 131, 3) := by decide +kernel
theorem dX6_whose_52 : decode cX6_whose 52 = .ok (.iload_n 3, 1) := by decide +kernel
theorem dX6_whose_53 : decode cX6_whose 53 = .ok (.if_icmp .ne 12, 3) := by decide +kernel
theorem dX6_whose_56 : decode cX6_whose 56 = .ok (.iload 5, 2) := by decide +kernel
theorem dX6_whose_58 : decode cX6_whose 58 = .ok (.iconst 1, 1) := by decide +kernel
theorem dX6_whose_59 : decode cX6_whose 59 = .ok (.iload 6, 2) := by decide +kernel
theorem dX6_whose_61 : decode cX6_whose 61 = .ok (.ishl, 1) := by decide +kernel
theorem dX6_whose_62 : decode cX6_whose 62 = .ok (.ior, 1) := by decide +kernel
theorem dX6_whose_63 : decode cX6_whose 63 = .ok (.istore 5, 2) := by decide +kernel
theorem dX6_whose_65 : decode cX6_whose 65 = .ok (.iinc 6 1, 3) := by decide +kernel
theorem dX6_whose_68 : decode cX6_whose 68 = .ok (.goto (-42), 3) := by decide +kernel
theorem dX6_whose_71 : decode cX6_whose 71 = .ok (.iload 5, 2) := by decide +kernel
theorem dX6_whose_73 : decode cX6_whose 73 = .ok (.ireturn, 1) := by decide +kernel
theorem dX6_power_0 : decode cX6_power 0 = .ok (.lconst 1, 1) := by decide +kernel
theorem dX6_power_1 : decode cX6_power 1 = .ok (.lstore_n 3, 1) := by decide +kernel
theorem dX6_power_2 : decode cX6_power 2 = .ok (.iconst 0, 1) := by decide +kernel
theorem dX6_power_3 : decode cX6_power 3 = .ok (.istore 5, 2) := by decide +kernel
theorem dX6_power_5 : decode cX6_power 5 = .ok (.iload 5, 2) := by decide +kernel
theorem dX6_power_7 : decode cX6_power 7 = .ok (.iload_n 2, 1) := by decide +kernel
theorem dX6_power_8 : decode cX6_power 8 = .ok (.if_icmp .ge 13, 3) := by decide +kernel
theorem dX6_power_11 : decode cX6_power 11 = .ok (.lload_n 3, 1) := by decide +kernel
theorem dX6_power_12 : decode cX6_power 12 = .ok (.lload_n 0, 1) := by decide +kernel
theorem dX6_power_13 : decode cX6_power 13 = .ok (.lmul, 1) := by decide +kernel
theorem dX6_power_14 : decode cX6_power 14 = .ok (.lstore_n 3, 1) := by decide +kernel
theorem dX6_power_15 : decode cX6_power 15 = .ok (.iinc 5 1, 3) := by decide +kernel
theorem dX6_power_18 : decode cX6_power 18 = .ok (.goto (-13), 3) := by decide +kernel
theorem dX6_power_21 : decode cX6_power 21 = .ok (.lload_n 3, 1) := by decide +kernel
theorem dX6_power_22 : decode cX6_power 22 = .ok (.lreturn, 1) := by decide +kernel
theorem dX6_part_0 : decode cX6_part 0 = .ok (.lload_n 0, 1) := by decide +kernel
theorem dX6_part_1 : decode cX6_part 1 = .ok (.lstore 5, 2) := by decide +kernel
theorem dX6_part_3 : decode cX6_part 3 = .ok (.lload_n 2, 1) := by decide +kernel
theorem dX6_part_4 : decode cX6_part 4 = .ok (.lstore 7, 2) := by decide +kernel
theorem dX6_part_6 : decode cX6_part 6 = .ok (.lload 7, 2) := by decide +kernel
theorem dX6_part_8 : decode cX6_part 8 = .ok (.lconst 0, 1) := by decide +kernel
theorem dX6_part_9 : decode cX6_part 9 = .ok (.lcmp, 1) := by decide +kernel
theorem dX6_part_10 : decode cX6_part 10 = .ok (.ifCond .eq 21, 3) := by decide +kernel
theorem dX6_part_13 : decode cX6_part 13 = .ok (.lload 5, 2) := by decide +kernel
theorem dX6_part_15 : decode cX6_part 15 = .ok (.lload 7, 2) := by decide +kernel
theorem dX6_part_17 : decode cX6_part 17 = .ok (.lrem, 1) := by decide +kernel
theorem dX6_part_18 : decode cX6_part 18 = .ok (.lstore 9, 2) := by decide +kernel
theorem dX6_part_20 : decode cX6_part 20 = .ok (.lload 7, 2) := by decide +kernel
theorem dX6_part_22 : decode cX6_part 22 = .ok (.lstore 5, 2) := by decide +kernel
theorem dX6_part_24 : decode cX6_part 24 = .ok (.lload 9, 2) := by decide +kernel
theorem dX6_part_26 : decode cX6_part 26 = .ok (.lstore 7, 2) := by decide +kernel
theorem dX6_part_28 : decode cX6_part 28 = .ok (.goto (-22), 3) := by decide +kernel
theorem dX6_part_31 : decode cX6_part 31 = .ok (.iload 4, 2) := by decide +kernel
theorem dX6_part_33 : decode cX6_part 33 = .ok (.ifCond .ne 10, 3) := by decide +kernel
theorem dX6_part_36 : decode cX6_part 36 = .ok (.lload_n 0, 1) := by decide +kernel
theorem dX6_part_37 : decode cX6_part 37 = .ok (.lload 5, 2) := by decide +kernel
theorem dX6_part_39 : decode cX6_part 39 = .ok (.ldiv, 1) := by decide +kernel
theorem dX6_part_40 : decode cX6_part 40 = .ok (.goto 7, 3) := by decide +kernel
theorem dX6_part_43 : decode cX6_part 43 = .ok (.lload_n 2, 1) := by decide +kernel
theorem dX6_part_44 : decode cX6_part 44 = .ok (.lload 5, 2) := by decide +kernel
theorem dX6_part_46 : decode cX6_part 46 = .ok (.ldiv, 1) := by decide +kernel
theorem dX6_part_47 : decode cX6_part 47 = .ok (.lreturn, 1) := by decide +kernel
set_option maxRecDepth 20000 in
theorem ggX6_inRow_X6_noLong : GoodIn wsX6_inRow wsX6_noLong := goodIn_r _ [6, 7, 8, 9, 10, 5, 11, 12, 22, 23, 24, 25, 26, 27, 28, 29, 30, 31, 32, 33, 34, 35, 36, 37, 38, 39, 40, 41, 42, 43, 44, 45, 46, 47, 48, 49, 50, 51, 52] (by decide +kernel) (by decide +kernel)
set_option maxRecDepth 20000 in
theorem gX6_inRow_X6_noLong : GoodIn wsX6_inRow (wsV RX6 175 RX6 yX6_noLong wsX6_noLong) := goodIn_app (goodIn_of _ (by decide +kernel)) ggX6_inRow_X6_noLong
set_option maxRecDepth 20000 in
theorem ggX6_inRow_X6_within : GoodIn wsX6_inRow wsX6_within := goodIn_r _ [15] (by decide +kernel) (by decide +kernel)
set_option maxRecDepth 20000 in
theorem gX6_inRow_X6_within : GoodIn wsX6_inRow (va_wsS RX6 65 yX6_within wsX6_within) := goodIn_app (goodIn_of _ (by decide +kernel)) ggX6_inRow_X6_within
set_option maxRecDepth 20000 in
theorem ggX6_inRow_X6_power : GoodIn wsX6_inRow wsX6_power := goodIn_r _ [18] (by decide +kernel) (by decide +kernel)
set_option maxRecDepth 20000 in
theorem gX6_inRow_X6_power : GoodIn wsX6_inRow (va_wsS RX6 179 yX6_power wsX6_power) := goodIn_app (goodIn_of _ (by decide +kernel)) ggX6_inRow_X6_power
set_option maxRecDepth 20000 in
theorem ggX6_inRow_X6_part : GoodIn wsX6_inRow wsX6_part := goodIn_r _ [21] (by decide +kernel) (by decide +kernel)
set_option maxRecDepth 20000 in
theorem gX6_inRow_X6_part : GoodIn wsX6_inRow (va_wsS RX6 185 yX6_part wsX6_part) := goodIn_app (goodIn_of _ (by decide +kernel)) ggX6_inRow_X6_part
theorem dX6_inRow_0 : decode cX6_inRow 0 = .ok (.iload_n 1, 1) := by decide +kernel
theorem dX6_inRow_1 : decode cX6_inRow 1 = .ok (.ifCond .lt 7, 3) := by decide +kernel
theorem dX6_inRow_4 : decode cX6_inRow 4 = .ok (.iload_n 2, 1) := by decide +kernel
theorem dX6_inRow_5 : decode cX6_inRow 5 = .ok (.ifCond .ge 10, 3) := by decide +kernel
theorem dX6_inRow_8 : decode cX6_inRow 8 = .ok (.aload_n 0, 1) := by decide +kernel
theorem dX6_inRow_9 : decode cX6_inRow 9 = .ok (.bipush (-4), 2) := by decide +kernel
theorem dX6_inRow_11 : decode cX6_inRow 11 = .ok (.invokevirtual 175, 3) := by decide +kernel
theorem dX6_inRow_14 : decode cX6_inRow 14 = .ok (.lreturn, 1) := by decide +kernel
theorem dX6_inRow_15 : decode cX6_inRow 15 = .ok (.iload_n 1, 1) := by decide +kernel
theorem dX6_inRow_16 : decode cX6_inRow 16 = .ok (.bipush 15, 2) := by decide +kernel
theorem dX6_inRow_18 : decode cX6_inRow 18 = .ok (.if_icmp .gt 9, 3) := by decide +kernel
theorem dX6_inRow_21 : decode cX6_inRow 21 = .ok (.iload_n 2, 1) := by decide +kernel
theorem dX6_inRow_22 : decode cX6_inRow 22 = .ok (.bipush 9, 2) := by decide +kernel
theorem dX6_inRow_24 : decode cX6_inRow 24 = .ok (.if_icmp .le 10, 3) := by decide +kernel
theorem dX6_inRow_27 : decode cX6_inRow 27 = .ok (.aload_n 0, 1) := by decide +kernel
theorem dX6_inRow_28 : decode cX6_inRow 28 = .ok (.bipush (-6), 2) := by decide +kernel
theorem dX6_inRow_30 : decode cX6_inRow 30 = .ok (.invokevirtual 175, 3) := by decide +kernel
theorem dX6_inRow_33 : decode cX6_inRow 33 = .ok (.lreturn, 1) := by decide +kernel
theorem dX6_inRow_34 : decode cX6_inRow 34 = .ok (.iload_n 3, 1) := by decide +kernel
theorem dX6_inRow_35 : decode cX6_inRow 35 = .ok (.iconst 0, 1) := by decide +kernel
theorem dX6_inRow_36 : decode cX6_inRow 36 = .ok (.iconst 1, 1) := by decide +kernel
theorem dX6_inRow_37 : decode cX6_inRow 37 = .ok (.invokestatic 65, 3) := by decide +kernel
theorem dX6_inRow_40 : decode cX6_inRow 40 = .ok (.ifCond .eq 23, 3) := by decide +kernel
theorem dX6_inRow_43 : decode cX6_inRow 43 = .ok (.iload_n 2, 1) := by decide +kernel
theorem dX6_inRow_44 : decode cX6_inRow 44 = .ok (.i2l, 1) := by decide +kernel
theorem dX6_inRow_45 : decode cX6_inRow 45 = .ok (.iload_n 1, 1) := by decide +kernel
theorem dX6_inRow_46 : decode cX6_inRow 46 = .ok (.invokestatic 179, 3) := by decide +kernel
theorem dX6_inRow_49 : decode cX6_inRow 49 = .ok (.ldc2_w 183, 3) := by decide +kernel
theorem dX6_inRow_52 : decode cX6_inRow 52 = .ok (.iload_n 1, 1) := by decide +kernel
theorem dX6_inRow_53 : decode cX6_inRow 53 = .ok (.invokestatic 179, 3) := by decide +kernel
theorem dX6_inRow_56 : decode cX6_inRow 56 = .ok (.iload_n 3, 1) := by decide +kernel
theorem dX6_inRow_57 : decode cX6_inRow 57 = .ok (.invokestatic 185, 3) := by decide +kernel
theorem dX6_inRow_60 : decode cX6_inRow 60 = .ok (.goto 9, 3) := by decide +kernel
theorem dX6_inRow_63 : decode cX6_inRow 63 = .ok (.aload_n 0, 1) := by decide +kernel
theorem dX6_inRow_64 : decode cX6_inRow 64 = .ok (.bipush (-2), 2) := by decide +kernel
theorem dX6_inRow_66 : decode cX6_inRow 66 = .ok (.invokevirtual 175, 3) := by decide +kernel
theorem dX6_inRow_69 : decode cX6_inRow 69 = .ok (.lreturn, 1) := by decide +kernel
set_option maxRecDepth 20000 in
theorem ggX6_soMany_X6_noLong : GoodIn wsX6_soMany wsX6_noLong := goodIn_r _ [6, 7, 8, 9, 10, 5, 11, 12, 22, 23, 24, 25, 26, 27, 28, 29, 30, 31, 32, 33, 34, 35, 36, 37, 38, 39, 40, 41, 42, 43, 44, 45, 46, 47, 48, 49, 50, 51, 52] (by decide +kernel) (by decide +kernel)
set_option maxRecDepth 20000 in
theorem gX6_soMany_X6_noLong : GoodIn wsX6_soMany (wsV RX6 175 RX6 yX6_noLong wsX6_noLong) := goodIn_app (goodIn_of _ (by decide +kernel)) ggX6_soMany_X6_noLong
set_option maxRecDepth 20000 in
theorem ggX6_soMany_X6_within : GoodIn wsX6_soMany wsX6_within := goodIn_r _ [15] (by decide +kernel) (by decide +kernel)
set_option maxRecDepth 20000 in
theorem gX6_soMany_X6_within : GoodIn wsX6_soMany (va_wsS RX6 65 yX6_within wsX6_within) := goodIn_app (goodIn_of _ (by decide +kernel)) ggX6_soMany_X6_within
set_option maxRecDepth 20000 in
theorem ggX6_soMany_X6_power : GoodIn wsX6_soMany wsX6_power := goodIn_r _ [18] (by decide +kernel) (by decide +kernel)
set_option maxRecDepth 20000 in
theorem gX6_soMany_X6_power : GoodIn wsX6_soMany (va_wsS RX6 179 yX6_power wsX6_power) := goodIn_app (goodIn_of _ (by decide +kernel)) ggX6_soMany_X6_power
set_option maxRecDepth 20000 in
theorem ggX6_soMany_X6_part : GoodIn wsX6_soMany wsX6_part := goodIn_r _ [21] (by decide +kernel) (by decide +kernel)
set_option maxRecDepth 20000 in
theorem gX6_soMany_X6_part : GoodIn wsX6_soMany (va_wsS RX6 185 yX6_part wsX6_part) := goodIn_app (goodIn_of _ (by decide +kernel)) ggX6_soMany_X6_part
theorem dX6_soMany_0 : decode cX6_soMany 0 = .ok (.iload_n 1, 1) := by decide +kernel
theorem dX6_soMany_1 : decode cX6_soMany 1 = .ok (.ifCond .lt 11, 3) := by decide +kernel
theorem dX6_soMany_4 : decode cX6_soMany 4 = .ok (.iload_n 2, 1) := by decide +kernel
theorem dX6_soMany_5 : decode cX6_soMany 5 = .ok (.ifCond .lt 7, 3) := by decide +kernel
theorem dX6_soMany_8 : decode cX6_soMany 8 = .ok (.iload_n 3, 1) := by decide +kernel
theorem dX6_soMany_9 : decode cX6_soMany 9 = .ok (.ifCond .ge 10, 3) := by decide +kernel
theorem dX6_soMany_12 : decode cX6_soMany 12 = .ok (.aload_n 0, 1) := by decide +kernel
theorem dX6_soMany_13 : decode cX6_soMany 13 = .ok (.bipush (-4), 2) := by decide +kernel
theorem dX6_soMany_15 : decode cX6_soMany 15 = .ok (.invokevirtual 175, 3) := by decide +kernel
theorem dX6_soMany_18 : decode cX6_soMany 18 = .ok (.lreturn, 1) := by decide +kernel
theorem dX6_soMany_19 : decode cX6_soMany 19 = .ok (.iload_n 1, 1) := by decide +kernel
theorem dX6_soMany_20 : decode cX6_soMany 20 = .ok (.bipush 15, 2) := by decide +kernel
theorem dX6_soMany_22 : decode cX6_soMany 22 = .ok (.if_icmp .gt 14, 3) := by decide +kernel
theorem dX6_soMany_25 : decode cX6_soMany 25 = .ok (.iload_n 2, 1) := by decide +kernel
theorem dX6_soMany_26 : decode cX6_soMany 26 = .ok (.iload_n 1, 1) := by decide +kernel
theorem dX6_soMany_27 : decode cX6_soMany 27 = .ok (.if_icmp .gt 9, 3) := by decide +kernel
theorem dX6_soMany_30 : decode cX6_soMany 30 = .ok (.iload_n 3, 1) := by decide +kernel
theorem dX6_soMany_31 : decode cX6_soMany 31 = .ok (.bipush 9, 2) := by decide +kernel
theorem dX6_soMany_33 : decode cX6_soMany 33 = .ok (.if_icmp .le 10, 3) := by decide +kernel
theorem dX6_soMany_36 : decode cX6_soMany 36 = .ok (.aload_n 0, 1) := by decide +kernel
theorem dX6_soMany_37 : decode cX6_soMany 37 = .ok (.bipush (-6), 2) := by decide +kernel
theorem dX6_soMany_39 : decode cX6_soMany 39 = .ok (.invokevirtual 175, 3) := by decide +kernel
theorem dX6_soMany_42 : decode cX6_soMany 42 = .ok (.lreturn, 1) := by decide +kernel
theorem dX6_soMany_43 : decode cX6_soMany 43 = .ok (.iload 4, 2) := by decide +kernel
theorem dX6_soMany_45 : decode cX6_soMany 45 = .ok (.iconst 0, 1) := by decide +kernel
theorem dX6_soMany_46 : decode cX6_soMany 46 = .ok (.iconst 1, 1) := by decide +kernel
theorem dX6_soMany_47 : decode cX6_soMany 47 = .ok (.invokestatic 65, 3) := by decide +kernel
theorem dX6_soMany_50 : decode cX6_soMany 50 = .ok (.ifCond .ne 10, 3) := by decide +kernel
theorem dX6_soMany_53 : decode cX6_soMany 53 = .ok (.aload_n 0, 1) := by decide +kernel
theorem dX6_soMany_54 : decode cX6_soMany 54 = .ok (.bipush (-2), 2) := by decide +kernel
theorem dX6_soMany_56 : decode cX6_soMany 56 = .ok (.invokevirtual 175, 3) := by decide +kernel
theorem dX6_soMany_59 : decode cX6_soMany 59 = .ok (.lreturn, 1) := by decide +kernel
theorem dX6_soMany_60 : decode cX6_soMany 60 = .ok (.lconst 0, 1) := by decide +kernel
theorem dX6_soMany_61 : decode cX6_soMany 61 = .ok (.lstore 5, 2) := by decide +kernel
theorem dX6_soMany_63 : decode cX6_soMany 63 = .ok (.lconst 1, 1) := by decide +kernel
theorem dX6_soMany_64 : decode cX6_soMany 64 = .ok (.lstore 7, 2) := by decide +kernel
theorem dX6_soMany_66 : decode cX6_soMany 66 = .ok (.iconst 0, 1) := by decide +kernel
theorem dX6_soMany_67 : decode cX6_soMany 67 = .ok (.istore 9, 2) := by decide +kernel
theorem dX6_soMany_69 : decode cX6_soMany 69 = .ok (.iload 9, 2) := by decide +kernel
theorem dX6_soMany_71 : decode cX6_soMany 71 = .ok (.iload_n 1, 1) := by decide +kernel
theorem dX6_soMany_72 : decode cX6_soMany 72 = .ok (.if_icmp .gt 64, 3) := by decide +kernel
theorem dX6_soMany_75 : decode cX6_soMany 75 = .ok (.iload 9, 2) := by decide +kernel
theorem dX6_soMany_77 : decode cX6_soMany 77 = .ok (.ifCond .le 19, 3) := by decide +kernel
theorem dX6_soMany_80 : decode cX6_soMany 80 = .ok (.lload 7, 2) := by decide +kernel
theorem dX6_soMany_82 : decode cX6_soMany 82 = .ok (.iload_n 1, 1) := by decide +kernel
theorem dX6_soMany_83 : decode cX6_soMany 83 = .ok (.iload 9, 2) := by decide +kernel
theorem dX6_soMany_85 : decode cX6_soMany 85 = .ok (.isub, 1) := by decide +kernel
theorem dX6_soMany_86 : decode cX6_soMany 86 = .ok (.iconst 1, 1) := by decide +kernel
theorem dX6_soMany_87 : decode cX6_soMany 87 = .ok (.iadd, 1) := by decide +kernel
theorem dX6_soMany_88 : decode cX6_soMany 88 = .ok (.i2l, 1) := by decide +kernel
theorem dX6_soMany_89 : decode cX6_soMany 89 = .ok (.lmul, 1) := by decide +kernel
theorem dX6_soMany_90 : decode cX6_soMany 90 = .ok (.iload 9, 2) := by decide +kernel
theorem dX6_soMany_92 : decode cX6_soMany 92 = .ok (.i2l, 1) := by decide +kernel
theorem dX6_soMany_93 : decode cX6_soMany 93 = .ok (.ldiv, 1) := by decide +kernel
theorem dX6_soMany_94 : decode cX6_soMany 94 = .ok (.lstore 7, 2) := by decide +kernel
theorem dX6_soMany_96 : decode cX6_soMany 96 = .ok (.iload 9, 2) := by decide +kernel
theorem dX6_soMany_98 : decode cX6_soMany 98 = .ok (.iload_n 2, 1) := by decide +kernel
theorem dX6_soMany_99 : decode cX6_soMany 99 = .ok (.if_icmp .lt 31, 3) := by decide +kernel
theorem dX6_soMany_102 : decode cX6_soMany 102 = .ok (.lload 5, 2) := by decide +kernel
theorem dX6_soMany_104 : decode cX6_soMany 104 = .ok (.lload 7, 2) := by decide +kernel
theorem dX6_soMany_106 : decode cX6_soMany 106 = .ok (.iload_n 3, 1) := by decide +kernel
theorem dX6_soMany_107 : decode cX6_soMany 107 = .ok (.i2l, 1) := by decide +kernel
theorem dX6_soMany_108 : decode cX6_soMany 108 = .ok (.iload 9, 2) := by decide +kernel
theorem dX6_soMany_110 : decode cX6_soMany 110 = .ok (.invokestatic 179, 3) := by decide +kernel
theorem dX6_soMany_113 : decode cX6_soMany 113 = .ok (.lmul, 1) := by decide +kernel
theorem dX6_soMany_114 : decode cX6_soMany 114 = .ok (.bipush 9, 2) := by decide +kernel
theorem dX6_soMany_116 : decode cX6_soMany 116 = .ok (.iload_n 3, 1) := by decide +kernel
theorem dX6_soMany_117 : decode cX6_soMany 117 = .ok (.isub, 1) := by decide +kernel
theorem dX6_soMany_118 : decode cX6_soMany 118 = .ok (.i2l, 1) := by decide +kernel
theorem dX6_soMany_119 : decode cX6_soMany 119 = .ok (.iload_n 1, 1) := by decide +kernel
theorem dX6_soMany_120 : decode cX6_soMany 120 = .ok (.iload 9, 2) := by decide +kernel
theorem dX6_soMany_122 : decode cX6_soMany 122 = .ok (.isub, 1) := by decide +kernel
theorem dX6_soMany_123 : decode cX6_soMany 123 = .ok (.invokestatic 179, 3) := by decide +kernel
theorem dX6_soMany_126 : decode cX6_soMany 126 = .ok (.lmul, 1) := by decide +kernel
theorem dX6_soMany_127 : decode cX6_soMany 127 = .ok (.ladd, 1) := by decide +kernel
theorem dX6_soMany_128 : decode cX6_soMany 128 = .ok (.lstore 5, 2) := by decide +kernel
theorem dX6_soMany_130 : decode cX6_soMany 130 = .ok (.iinc 9 1, 3) := by decide +kernel
theorem dX6_soMany_133 : decode cX6_soMany 133 = .ok (.goto (-64), 3) := by decide +kernel
theorem dX6_soMany_136 : decode cX6_soMany 136 = .ok (.lload 5, 2) := by decide +kernel
theorem dX6_soMany_138 : decode cX6_soMany 138 = .ok (.ldc2_w 183, 3) := by decide +kernel
theorem dX6_soMany_141 : decode cX6_soMany 141 = .ok (.iload_n 1, 1) := by decide +kernel
theorem dX6_soMany_142 : decode cX6_soMany 142 = .ok (.invokestatic 179, 3) := by decide +kernel
theorem dX6_soMany_145 : decode cX6_soMany 145 = .ok (.iload 4, 2) := by decide +kernel
theorem dX6_soMany_147 : decode cX6_soMany 147 = .ok (.invokestatic 185, 3) := by decide +kernel
theorem dX6_soMany_150 : decode cX6_soMany 150 = .ok (.lreturn, 1) := by decide +kernel
set_option maxRecDepth 20000 in
theorem ggX6_farthest_X6_isBall : GoodIn wsX6_farthest wsX6_isBall := goodIn_r _ [12, 13, 14, 15, 11, 16, 60, 61, 62, 63, 64, 65, 66, 67, 68, 69, 70, 71, 72, 73, 74, 75, 76, 77, 78, 79, 80, 81, 82, 83, 84, 85, 86, 87, 88, 89, 90] (by decide +kernel) (by decide +kernel)
set_option maxRecDepth 20000 in
theorem gX6_farthest_X6_isBall : GoodIn wsX6_farthest (wsV RX6 119 RX6 yX6_isBall wsX6_isBall) := goodIn_app (goodIn_of _ (by decide +kernel)) ggX6_farthest_X6_isBall
set_option maxRecDepth 20000 in
theorem ggX6_farthest_X6_no : GoodIn wsX6_farthest wsX6_no := goodIn_r _ [20, 21, 60, 61, 62, 63, 64, 65, 66, 67, 68, 69, 70, 71, 72, 73, 74, 75, 76, 77, 78, 79, 80, 81, 82, 83, 84, 85, 86, 87, 88, 89, 90] (by decide +kernel) (by decide +kernel)
set_option maxRecDepth 20000 in
theorem gX6_farthest_X6_no : GoodIn wsX6_farthest (wsV RX6 58 RX6 yX6_no wsX6_no) := goodIn_app (goodIn_of _ (by decide +kernel)) ggX6_farthest_X6_no
set_option maxRecDepth 20000 in
theorem ggX6_farthest_X6_isIn : GoodIn wsX6_farthest wsX6_isIn := goodIn_r _ [25, 26, 27, 28, 29, 11, 30, 31, 32, 33, 34, 35, 36, 2, 37, 1, 3, 38, 39, 6, 40, 41, 42, 4, 5, 7, 43, 44, 45, 46, 47, 48, 49, 50, 14, 15, 16, 51, 52, 53, 54, 55, 56, 57, 58, 59, 60, 61, 62, 63, 64, 65, 66, 67, 68, 69, 70, 71, 72, 73, 74, 75, 76, 77, 78, 79, 80, 81, 82, 83, 84, 85, 86, 87, 88, 89, 90] (by decide +kernel) (by decide +kernel)
set_option maxRecDepth 20000 in
theorem gX6_farthest_X6_isIn : GoodIn wsX6_farthest (wsV RX6 169 RX6 yX6_isIn wsX6_isIn) := goodIn_app (goodIn_of _ (by decide +kernel)) ggX6_farthest_X6_isIn
theorem dX6_farthest_0 : decode cX6_farthest 0 = .ok (.aload_n 0, 1) := by decide +kernel
theorem dX6_farthest_1 : decode cX6_farthest 1 = .ok (.iload_n 1, 1) := by decide +kernel
theorem dX6_farthest_2 : decode cX6_farthest 2 = .ok (.invokevirtual 119, 3) := by decide +kernel
theorem dX6_farthest_5 : decode cX6_farthest 5 = .ok (.ifCond .ne 9, 3) := by decide +kernel
theorem dX6_farthest_8 : decode cX6_farthest 8 = .ok (.aload_n 0, 1) := by decide +kernel
theorem dX6_farthest_9 : decode cX6_farthest 9 = .ok (.iconst (-1), 1) := by decide +kernel
theorem dX6_farthest_10 : decode cX6_farthest 10 = .ok (.invokevirtual 58, 3) := by decide +kernel
theorem dX6_farthest_13 : decode cX6_farthest 13 = .ok (.ireturn, 1) := by decide +kernel
theorem dX6_farthest_14 : decode cX6_farthest 14 = .ok (.aload_n 0, 1) := by decide +kernel
theorem dX6_farthest_15 : decode cX6_farthest 15 = .ok (.getfield 38, 3) := by decide +kernel
theorem dX6_farthest_18 : decode cX6_farthest 18 = .ok (.istore_n 2, 1) := by decide +kernel
theorem dX6_farthest_19 : decode cX6_farthest 19 = .ok (.bipush (-9), 2) := by decide +kernel
theorem dX6_farthest_21 : decode cX6_farthest 21 = .ok (.istore_n 3, 1) := by decide +kernel
theorem dX6_farthest_22 : decode cX6_farthest 22 = .ok (.bipush 40, 2) := by decide +kernel
theorem dX6_farthest_24 : decode cX6_farthest 24 = .ok (.aload_n 0, 1) := by decide +kernel
theorem dX6_farthest_25 : decode cX6_farthest 25 = .ok (.getfield 47, 3) := by decide +kernel
theorem dX6_farthest_28 : decode cX6_farthest 28 = .ok (.aload_n 0, 1) := by decide +kernel
theorem dX6_farthest_29 : decode cX6_farthest 29 = .ok (.getfield 41, 3) := by decide +kernel
theorem dX6_farthest_32 : decode cX6_farthest 32 = .ok (.isub, 1) := by decide +kernel
theorem dX6_farthest_33 : decode cX6_farthest 33 = .ok (.invokestatic 146, 3) := by decide +kernel
theorem dX6_farthest_36 : decode cX6_farthest 36 = .ok (.istore 4, 2) := by decide +kernel
theorem dX6_farthest_38 : decode cX6_farthest 38 = .ok (.iload 4, 2) := by decide +kernel
theorem dX6_farthest_40 : decode cX6_farthest 40 = .ok (.ifCond .le 71, 3) := by decide +kernel
theorem dX6_farthest_43 : decode cX6_farthest 43 = .ok (.iload_n 3, 1) := by decide +kernel
theorem dX6_farthest_44 : decode cX6_farthest 44 = .ok (.ifCond .ge 67, 3) := by decide +kernel
theorem dX6_farthest_47 : decode cX6_farthest 47 = .ok (.aload_n 0, 1) := by decide +kernel
theorem dX6_farthest_48 : decode cX6_farthest 48 = .ok (.iload 4, 2) := by decide +kernel
theorem dX6_farthest_50 : decode cX6_farthest 50 = .ok (.putfield 38, 3) := by decide +kernel
theorem dX6_farthest_53 : decode cX6_farthest 53 = .ok (.iconst 1, 1) := by decide +kernel
theorem dX6_farthest_54 : decode cX6_farthest 54 = .ok (.istore 5, 2) := by decide +kernel
theorem dX6_farthest_56 : decode cX6_farthest 56 = .ok (.iload 5, 2) := by decide +kernel
theorem dX6_farthest_58 : decode cX6_farthest 58 = .ok (.bipush 10, 2) := by decide +kernel
theorem dX6_farthest_60 : decode cX6_farthest 60 = .ok (.if_icmp .ge 45, 3) := by decide +kernel
theorem dX6_farthest_63 : decode cX6_farthest 63 = .ok (.bipush (-5), 2) := by decide +kernel
theorem dX6_farthest_65 : decode cX6_farthest 65 = .ok (.istore 6, 2) := by decide +kernel
theorem dX6_farthest_67 : decode cX6_farthest 67 = .ok (.iload 6, 2) := by decide +kernel
theorem dX6_farthest_69 : decode cX6_farthest 69 = .ok (.bipush 16, 2) := by decide +kernel
theorem dX6_farthest_71 : decode cX6_farthest 71 = .ok (.if_icmp .ge 28, 3) := by decide +kernel
theorem dX6_farthest_74 : decode cX6_farthest 74 = .ok (.iload_n 3, 1) := by decide +kernel
theorem dX6_farthest_75 : decode cX6_farthest 75 = .ok (.ifCond .ge 18, 3) := by decide +kernel
theorem dX6_farthest_78 : decode cX6_farthest 78 = .ok (.aload_n 0, 1) := by decide +kernel
theorem dX6_farthest_79 : decode cX6_farthest 79 = .ok (.iload_n 1, 1) := by decide +kernel
theorem dX6_farthest_80 : decode cX6_farthest 80 = .ok (.iload 5, 2) := by decide +kernel
theorem dX6_farthest_82 : decode cX6_farthest 82 = .ok (.iload 6, 2) := by decide +kernel
theorem dX6_farthest_84 : decode cX6_farthest 84 = .ok (.invokevirtual 169, 3) := by decide +kernel
theorem dX6_farthest_87 : decode cX6_farthest 87 = .ok (.ifCond .eq 6, 3) := by decide +kernel
theorem dX6_farthest_90 : decode cX6_farthest 90 = .ok (.iload 4, 2) := by decide +kernel
theorem dX6_farthest_92 : decode cX6_farthest 92 = .ok (.istore_n 3, 1) := by decide +kernel
theorem dX6_farthest_93 : decode cX6_farthest 93 = .ok (.iinc 6 1, 3) := by decide +kernel
theorem dX6_farthest_96 : decode cX6_farthest 96 = .ok (.goto (-29), 3) := by decide +kernel
theorem dX6_farthest_99 : decode cX6_farthest 99 = .ok (.iinc 5 1, 3) := by decide +kernel
theorem dX6_farthest_102 : decode cX6_farthest 102 = .ok (.goto (-46), 3) := by decide +kernel
theorem dX6_farthest_105 : decode cX6_farthest 105 = .ok (.iinc 4 (-1), 3) := by decide +kernel
theorem dX6_farthest_108 : decode cX6_farthest 108 = .ok (.goto (-70), 3) := by decide +kernel
theorem dX6_farthest_111 : decode cX6_farthest 111 = .ok (.aload_n 0, 1) := by decide +kernel
theorem dX6_farthest_112 : decode cX6_farthest 112 = .ok (.iload_n 2, 1) := by decide +kernel
theorem dX6_farthest_113 : decode cX6_farthest 113 = .ok (.putfield 38, 3) := by decide +kernel
theorem dX6_farthest_116 : decode cX6_farthest 116 = .ok (.iload_n 3, 1) := by decide +kernel
theorem dX6_farthest_117 : decode cX6_farthest 117 = .ok (.ireturn, 1) := by decide +kernel
set_option maxRecDepth 20000 in
theorem ggX6_row_X6_no : GoodIn wsX6_row wsX6_no := goodIn_r _ [7, 8, 9, 10, 11, 12, 13, 14, 15, 16, 17, 18, 19, 20, 21, 22, 23, 24, 25, 26, 27, 28, 29, 30, 31, 32, 33, 34, 35, 36, 37, 38, 39] (by decide +kernel) (by decide +kernel)
set_option maxRecDepth 20000 in
theorem gX6_row_X6_no : GoodIn wsX6_row (wsV RX6 58 RX6 yX6_no wsX6_no) := goodIn_app (goodIn_of _ (by decide +kernel)) ggX6_row_X6_no
theorem dX6_row_0 : decode cX6_row 0 = .ok (.iload_n 1, 1) := by decide +kernel
theorem dX6_row_1 : decode cX6_row 1 = .ok (.ifCond .ge 10, 3) := by decide +kernel
theorem dX6_row_4 : decode cX6_row 4 = .ok (.aload_n 0, 1) := by decide +kernel
theorem dX6_row_5 : decode cX6_row 5 = .ok (.bipush (-4), 2) := by decide +kernel
theorem dX6_row_7 : decode cX6_row 7 = .ok (.invokevirtual 58, 3) := by decide +kernel
theorem dX6_row_10 : decode cX6_row 10 = .ok (.ireturn, 1) := by decide +kernel
theorem dX6_row_11 : decode cX6_row 11 = .ok (.iload_n 1, 1) := by decide +kernel
theorem dX6_row_12 : decode cX6_row 12 = .ok (.sipush 9999, 3) := by decide +kernel
theorem dX6_row_15 : decode cX6_row 15 = .ok (.if_icmp .gt 12, 3) := by decide +kernel
theorem dX6_row_18 : decode cX6_row 18 = .ok (.aload_n 0, 1) := by decide +kernel
theorem dX6_row_19 : decode cX6_row 19 = .ok (.getfield 189, 3) := by decide +kernel
theorem dX6_row_22 : decode cX6_row 22 = .ok (.bipush 12, 2) := by decide +kernel
theorem dX6_row_24 : decode cX6_row 24 = .ok (.if_icmp .ne 10, 3) := by decide +kernel
theorem dX6_row_27 : decode cX6_row 27 = .ok (.aload_n 0, 1) := by decide +kernel
theorem dX6_row_28 : decode cX6_row 28 = .ok (.bipush (-6), 2) := by decide +kernel
theorem dX6_row_30 : decode cX6_row 30 = .ok (.invokevirtual 58, 3) := by decide +kernel
theorem dX6_row_33 : decode cX6_row 33 = .ok (.ireturn, 1) := by decide +kernel
theorem dX6_row_34 : decode cX6_row 34 = .ok (.aload_n 0, 1) := by decide +kernel
theorem dX6_row_35 : decode cX6_row 35 = .ok (.getfield 22, 3) := by decide +kernel
theorem dX6_row_38 : decode cX6_row 38 = .ok (.aload_n 0, 1) := by decide +kernel
theorem dX6_row_39 : decode cX6_row 39 = .ok (.dup, 1) := by decide +kernel
theorem dX6_row_40 : decode cX6_row 40 = .ok (.getfield 189, 3) := by decide +kernel
theorem dX6_row_43 : decode cX6_row 43 = .ok (.dup_x1, 1) := by decide +kernel
theorem dX6_row_44 : decode cX6_row 44 = .ok (.iconst 1, 1) := by decide +kernel
theorem dX6_row_45 : decode cX6_row 45 = .ok (.iadd, 1) := by decide +kernel
theorem dX6_row_46 : decode cX6_row 46 = .ok (.putfield 189, 3) := by decide +kernel
theorem dX6_row_49 : decode cX6_row 49 = .ok (.iload_n 1, 1) := by decide +kernel
theorem dX6_row_50 : decode cX6_row 50 = .ok (.iastore, 1) := by decide +kernel
theorem dX6_row_51 : decode cX6_row 51 = .ok (.aload_n 0, 1) := by decide +kernel
theorem dX6_row_52 : decode cX6_row 52 = .ok (.getfield 189, 3) := by decide +kernel
theorem dX6_row_55 : decode cX6_row 55 = .ok (.ireturn, 1) := by decide +kernel
set_option maxRecDepth 20000 in
theorem ggX6_judge_X6_keep : GoodIn wsX6_judge wsX6_keep := goodIn_r _ [8, 9, 10, 11, 12, 13, 14, 15, 16, 17, 18, 19, 20, 21, 22, 23, 24, 72, 73, 74, 75, 76, 77, 78, 79, 80, 81, 82, 83, 84, 85, 86, 87, 88, 89, 90, 91, 92, 93, 94, 95, 96, 97, 98, 99, 100, 101, 102] (by decide +kernel) (by decide +kernel)
set_option maxRecDepth 20000 in
theorem gX6_judge_X6_keep : GoodIn wsX6_judge (wsV RX6 106 RX6 yX6_keep wsX6_keep) := goodIn_app (goodIn_of _ (by decide +kernel)) ggX6_judge_X6_keep
set_option maxRecDepth 20000 in
theorem ggX6_judge_X6_isBall : GoodIn wsX6_judge wsX6_isBall := goodIn_r _ [28, 24, 29, 30, 7, 31, 72, 73, 74, 75, 76, 77, 78, 79, 80, 81, 82, 83, 84, 85, 86, 87, 88, 89, 90, 91, 92, 93, 94, 95, 96, 97, 98, 99, 100, 101, 102] (by decide +kernel) (by decide +kernel)
set_option maxRecDepth 20000 in
theorem gX6_judge_X6_isBall : GoodIn wsX6_judge (wsV RX6 119 RX6 yX6_isBall wsX6_isBall) := goodIn_app (goodIn_of _ (by decide +kernel)) ggX6_judge_X6_isBall
set_option maxRecDepth 20000 in
theorem ggX6_judge_X6_noThrow : GoodIn wsX6_judge wsX6_noThrow := goodIn_r _ [35] (by decide +kernel) (by decide +kernel)
set_option maxRecDepth 20000 in
theorem gX6_judge_X6_noThrow : GoodIn wsX6_judge (wsV RX6 156 RX6 yX6_noThrow wsX6_noThrow) := goodIn_app (goodIn_of _ (by decide +kernel)) ggX6_judge_X6_noThrow
set_option maxRecDepth 20000 in
theorem ggX6_judge_X6_goes : GoodIn wsX6_judge wsX6_goes := goodIn_r _ [39, 21, 23, 22, 16, 40, 41, 42, 7, 43, 12, 44, 45, 46, 47, 18, 17, 15, 13, 14, 48, 49, 50, 51, 52, 53, 54, 55, 20, 56, 57, 58, 59, 10, 11, 9, 29, 30, 31, 60, 61, 62, 63, 64, 65, 66, 67, 19, 72, 73, 74, 75, 76, 77, 78, 79, 80, 81, 82, 83, 84, 85, 86, 87, 88, 89, 90, 91, 92, 93, 94, 95, 96, 97, 98, 99, 100, 101, 102] (by decide +kernel) (by decide +kernel)
set_option maxRecDepth 20000 in
theorem gX6_judge_X6_goes : GoodIn wsX6_judge (wsV RX6 165 RX6 yX6_goes wsX6_goes) := goodIn_app (goodIn_of _ (by decide +kernel)) ggX6_judge_X6_goes
set_option maxRecDepth 20000 in
theorem ggX6_judge_X6_again : GoodIn wsX6_judge wsX6_again := goodIn_r _ [71, 9, 10, 11, 12, 13, 14, 15, 16, 17, 18, 19, 20, 21, 22, 23, 24, 72, 73, 74, 75, 76, 77, 78, 79, 80, 81, 82, 83, 84, 85, 86, 87, 88, 89, 90, 91, 92, 93, 94, 95, 96, 97, 98, 99, 100, 101, 102] (by decide +kernel) (by decide +kernel)
set_option maxRecDepth 20000 in
theorem gX6_judge_X6_again : GoodIn wsX6_judge (wsV RX6 110 RX6 yX6_again wsX6_again) := goodIn_app (goodIn_of _ (by decide +kernel)) ggX6_judge_X6_again
theorem dX6_judge_0 : decode cX6_judge 0 = .ok (.aload_n 0, 1) := by decide +kernel
theorem dX6_judge_1 : decode cX6_judge 1 = .ok (.getfield 189, 3) := by decide +kernel
theorem dX6_judge_4 : decode cX6_judge 4 = .ok (.istore_n 1, 1) := by decide +kernel
theorem dX6_judge_5 : decode cX6_judge 5 = .ok (.aload_n 0, 1) := by decide +kernel
theorem dX6_judge_6 : decode cX6_judge 6 = .ok (.iconst 0, 1) := by decide +kernel
theorem dX6_judge_7 : decode cX6_judge 7 = .ok (.putfield 189, 3) := by decide +kernel
theorem dX6_judge_10 : decode cX6_judge 10 = .ok (.aload_n 0, 1) := by decide +kernel
theorem dX6_judge_11 : decode cX6_judge 11 = .ok (.aload_n 0, 1) := by decide +kernel
theorem dX6_judge_12 : decode cX6_judge 12 = .ok (.getfield 31, 3) := by decide +kernel
theorem dX6_judge_15 : decode cX6_judge 15 = .ok (.invokevirtual 106, 3) := by decide +kernel
theorem dX6_judge_18 : decode cX6_judge 18 = .ok (.bipush (-9), 2) := by decide +kernel
theorem dX6_judge_20 : decode cX6_judge 20 = .ok (.istore_n 2, 1) := by decide +kernel
theorem dX6_judge_21 : decode cX6_judge 21 = .ok (.iconst 0, 1) := by decide +kernel
theorem dX6_judge_22 : decode cX6_judge 22 = .ok (.istore_n 3, 1) := by decide +kernel
theorem dX6_judge_23 : decode cX6_judge 23 = .ok (.iload_n 3, 1) := by decide +kernel
theorem dX6_judge_24 : decode cX6_judge 24 = .ok (.iload_n 1, 1) := by decide +kernel
theorem dX6_judge_25 : decode cX6_judge 25 = .ok (.if_icmp .ge 89, 3) := by decide +kernel
theorem dX6_judge_28 : decode cX6_judge 28 = .ok (.iload_n 2, 1) := by decide +kernel
theorem dX6_judge_29 : decode cX6_judge 29 = .ok (.bipush (-9), 2) := by decide +kernel
theorem dX6_judge_31 : decode cX6_judge 31 = .ok (.if_icmp .ne 83, 3) := by decide +kernel
theorem dX6_judge_34 : decode cX6_judge 34 = .ok (.aload_n 0, 1) := by decide +kernel
theorem dX6_judge_35 : decode cX6_judge 35 = .ok (.getfield 22, 3) := by decide +kernel
theorem dX6_judge_38 : decode cX6_judge 38 = .ok (.iload_n 3, 1) := by decide +kernel
theorem dX6_judge_39 : decode cX6_judge 39 = .ok (.iaload, 1) := by decide +kernel
theorem dX6_judge_40 : decode cX6_judge 40 = .ok (.sipush 1000, 3) := by decide +kernel
theorem dX6_judge_43 : decode cX6_judge 43 = .ok (.idiv, 1) := by decide +kernel
theorem dX6_judge_44 : decode cX6_judge 44 = .ok (.istore 4, 2) := by decide +kernel
theorem dX6_judge_46 : decode cX6_judge 46 = .ok (.aload_n 0, 1) := by decide +kernel
theorem dX6_judge_47 : decode cX6_judge 47 = .ok (.getfield 22, 3) := by decide +kernel
theorem dX6_judge_50 : decode cX6_judge 50 = .ok (.iload_n 3, 1) := by decide +kernel
theorem dX6_judge_51 : decode cX6_judge 51 = .ok (.iaload, 1) := by decide +kernel
theorem dX6_judge_52 : decode cX6_judge 52 = .ok (.bipush 100, 2) := by decide +kernel
theorem dX6_judge_54 : decode cX6_judge 54 = .ok (.idiv, 1) := by decide +kernel
theorem dX6_judge_55 : decode cX6_judge 55 = .ok (.bipush 10, 2) := by decide +kernel
theorem dX6_judge_57 : decode cX6_judge 57 = .ok (.irem, 1) := by decide +kernel
theorem dX6_judge_58 : decode cX6_judge 58 = .ok (.istore 5, 2) := by decide +kernel
theorem dX6_judge_60 : decode cX6_judge 60 = .ok (.aload_n 0, 1) := by decide +kernel
theorem dX6_judge_61 : decode cX6_judge 61 = .ok (.getfield 22, 3) := by decide +kernel
theorem dX6_judge_64 : decode cX6_judge 64 = .ok (.iload_n 3, 1) := by decide +kernel
theorem dX6_judge_65 : decode cX6_judge 65 = .ok (.iaload, 1) := by decide +kernel
theorem dX6_judge_66 : decode cX6_judge 66 = .ok (.bipush 100, 2) := by decide +kernel
theorem dX6_judge_68 : decode cX6_judge 68 = .ok (.irem, 1) := by decide +kernel
theorem dX6_judge_69 : decode cX6_judge 69 = .ok (.iconst 5, 1) := by decide +kernel
theorem dX6_judge_70 : decode cX6_judge 70 = .ok (.isub, 1) := by decide +kernel
theorem dX6_judge_71 : decode cX6_judge 71 = .ok (.istore 6, 2) := by decide +kernel
theorem dX6_judge_73 : decode cX6_judge 73 = .ok (.aload_n 0, 1) := by decide +kernel
theorem dX6_judge_74 : decode cX6_judge 74 = .ok (.iload 4, 2) := by decide +kernel
theorem dX6_judge_76 : decode cX6_judge 76 = .ok (.invokevirtual 119, 3) := by decide +kernel
theorem dX6_judge_79 : decode cX6_judge 79 = .ok (.ifCond .eq 27, 3) := by decide +kernel
theorem dX6_judge_82 : decode cX6_judge 82 = .ok (.aload_n 0, 1) := by decide +kernel
theorem dX6_judge_83 : decode cX6_judge 83 = .ok (.iload 5, 2) := by decide +kernel
theorem dX6_judge_85 : decode cX6_judge 85 = .ok (.iload 6, 2) := by decide +kernel
theorem dX6_judge_87 : decode cX6_judge 87 = .ok (.invokevirtual 156, 3) := by decide +kernel
theorem dX6_judge_90 : decode cX6_judge 90 = .ok (.ifCond .lt 16, 3) := by decide +kernel
theorem dX6_judge_93 : decode cX6_judge 93 = .ok (.aload_n 0, 1) := by decide +kernel
theorem dX6_judge_94 : decode cX6_judge 94 = .ok (.iload 4, 2) := by decide +kernel
theorem dX6_judge_96 : decode cX6_judge 96 = .ok (.iload 5, 2) := by decide +kernel
theorem dX6_judge_98 : decode cX6_judge 98 = .ok (.iload 6, 2) := by decide +kernel
theorem dX6_judge_100 : decode cX6_judge 100 = .ok (.invokevirtual 165, 3) := by decide +kernel
theorem dX6_judge_103 : decode cX6_judge 103 = .ok (.ifCond .eq 5, 3) := by decide +kernel
theorem dX6_judge_106 : decode cX6_judge 106 = .ok (.iload_n 3, 1) := by decide +kernel
theorem dX6_judge_107 : decode cX6_judge 107 = .ok (.istore_n 2, 1) := by decide +kernel
theorem dX6_judge_108 : decode cX6_judge 108 = .ok (.iinc 3 1, 3) := by decide +kernel
theorem dX6_judge_111 : decode cX6_judge 111 = .ok (.goto (-88), 3) := by decide +kernel
theorem dX6_judge_114 : decode cX6_judge 114 = .ok (.aload_n 0, 1) := by decide +kernel
theorem dX6_judge_115 : decode cX6_judge 115 = .ok (.aload_n 0, 1) := by decide +kernel
theorem dX6_judge_116 : decode cX6_judge 116 = .ok (.getfield 31, 3) := by decide +kernel
theorem dX6_judge_119 : decode cX6_judge 119 = .ok (.invokevirtual 110, 3) := by decide +kernel
theorem dX6_judge_122 : decode cX6_judge 122 = .ok (.iload_n 2, 1) := by decide +kernel
theorem dX6_judge_123 : decode cX6_judge 123 = .ok (.ireturn, 1) := by decide +kernel
set_option maxRecDepth 20000 in
theorem ggX6_lots_X6_no : GoodIn wsX6_lots wsX6_no := goodIn_r _ [11, 12, 70, 71, 72, 73, 74, 75, 76, 77, 78, 79, 80, 81, 82, 83, 84, 85, 86, 87, 88, 89, 90, 91, 92, 93, 94, 95, 96, 97, 98, 99, 100] (by decide +kernel) (by decide +kernel)
set_option maxRecDepth 20000 in
theorem gX6_lots_X6_no : GoodIn wsX6_lots (wsV RX6 58 RX6 yX6_no wsX6_no) := goodIn_app (goodIn_of _ (by decide +kernel)) ggX6_lots_X6_no
set_option maxRecDepth 20000 in
theorem ggX6_lots_X6_keep : GoodIn wsX6_lots wsX6_keep := goodIn_r _ [16, 17, 18, 19, 20, 21, 22, 23, 24, 25, 26, 27, 28, 29, 3, 30, 1, 70, 71, 72, 73, 74, 75, 76, 77, 78, 79, 80, 81, 82, 83, 84, 85, 86, 87, 88, 89, 90, 91, 92, 93, 94, 95, 96, 97, 98, 99, 100] (by decide +kernel) (by decide +kernel)
set_option maxRecDepth 20000 in
theorem gX6_lots_X6_keep : GoodIn wsX6_lots (wsV RX6 106 RX6 yX6_keep wsX6_keep) := goodIn_app (goodIn_of _ (by decide +kernel)) ggX6_lots_X6_keep
set_option maxRecDepth 20000 in
theorem ggX6_lots_X6_goes : GoodIn wsX6_lots wsX6_goes := goodIn_r _ [34, 29, 30, 3, 24, 35, 36, 37, 10, 38, 20, 39, 40, 41, 42, 26, 25, 23, 21, 22, 43, 44, 45, 46, 47, 48, 49, 50, 28, 51, 52, 53, 54, 18, 19, 17, 55, 56, 57, 58, 59, 60, 61, 62, 63, 64, 65, 27, 70, 71, 72, 73, 74, 75, 76, 77, 78, 79, 80, 81, 82, 83, 84, 85, 86, 87, 88, 89, 90, 91, 92, 93, 94, 95, 96, 97, 98, 99, 100] (by decide +kernel) (by decide +kernel)
set_option maxRecDepth 20000 in
theorem gX6_lots_X6_goes : GoodIn wsX6_lots (wsV RX6 165 RX6 yX6_goes wsX6_goes) := goodIn_app (goodIn_of _ (by decide +kernel)) ggX6_lots_X6_goes
set_option maxRecDepth 20000 in
theorem ggX6_lots_X6_again : GoodIn wsX6_lots wsX6_again := goodIn_r _ [69, 17, 18, 19, 20, 21, 22, 23, 24, 25, 26, 27, 28, 29, 3, 30, 1, 70, 71, 72, 73, 74, 75, 76, 77, 78, 79, 80, 81, 82, 83, 84, 85, 86, 87, 88, 89, 90, 91, 92, 93, 94, 95, 96, 97, 98, 99, 100] (by decide +kernel) (by decide +kernel)
set_option maxRecDepth 20000 in
theorem gX6_lots_X6_again : GoodIn wsX6_lots (wsV RX6 110 RX6 yX6_again wsX6_again) := goodIn_app (goodIn_of _ (by decide +kernel)) ggX6_lots_X6_again
theorem dX6_lots_0 : decode cX6_lots 0 = .ok (.iload_n 1, 1) := by decide +kernel
theorem dX6_lots_1 : decode cX6_lots 1 = .ok (.iconst 1, 1) := by decide +kernel
theorem dX6_lots_2 : decode cX6_lots 2 = .ok (.if_icmp .ge 10, 3) := by decide +kernel
theorem dX6_lots_5 : decode cX6_lots 5 = .ok (.aload_n 0, 1) := by decide +kernel
theorem dX6_lots_6 : decode cX6_lots 6 = .ok (.bipush (-4), 2) := by decide +kernel
theorem dX6_lots_8 : decode cX6_lots 8 = .ok (.invokevirtual 58, 3) := by decide +kernel
theorem dX6_lots_11 : decode cX6_lots 11 = .ok (.ireturn, 1) := by decide +kernel
theorem dX6_lots_12 : decode cX6_lots 12 = .ok (.iload_n 1, 1) := by decide +kernel
theorem dX6_lots_13 : decode cX6_lots 13 = .ok (.bipush 30, 2) := by decide +kernel
theorem dX6_lots_15 : decode cX6_lots 15 = .ok (.if_icmp .le 10, 3) := by decide +kernel
theorem dX6_lots_18 : decode cX6_lots 18 = .ok (.aload_n 0, 1) := by decide +kernel
theorem dX6_lots_19 : decode cX6_lots 19 = .ok (.bipush (-6), 2) := by decide +kernel
theorem dX6_lots_21 : decode cX6_lots 21 = .ok (.invokevirtual 58, 3) := by decide +kernel
theorem dX6_lots_24 : decode cX6_lots 24 = .ok (.ireturn, 1) := by decide +kernel
theorem dX6_lots_25 : decode cX6_lots 25 = .ok (.aload_n 0, 1) := by decide +kernel
theorem dX6_lots_26 : decode cX6_lots 26 = .ok (.getfield 62, 3) := by decide +kernel
theorem dX6_lots_29 : decode cX6_lots 29 = .ok (.ifCond .ne 10, 3) := by decide +kernel
theorem dX6_lots_32 : decode cX6_lots 32 = .ok (.aload_n 0, 1) := by decide +kernel
theorem dX6_lots_33 : decode cX6_lots 33 = .ok (.bipush (-3), 2) := by decide +kernel
theorem dX6_lots_35 : decode cX6_lots 35 = .ok (.invokevirtual 58, 3) := by decide +kernel
theorem dX6_lots_38 : decode cX6_lots 38 = .ok (.ireturn, 1) := by decide +kernel
theorem dX6_lots_39 : decode cX6_lots 39 = .ok (.aload_n 0, 1) := by decide +kernel
theorem dX6_lots_40 : decode cX6_lots 40 = .ok (.aload_n 0, 1) := by decide +kernel
theorem dX6_lots_41 : decode cX6_lots 41 = .ok (.getfield 31, 3) := by decide +kernel
theorem dX6_lots_44 : decode cX6_lots 44 = .ok (.invokevirtual 106, 3) := by decide +kernel
theorem dX6_lots_47 : decode cX6_lots 47 = .ok (.iload_n 2, 1) := by decide +kernel
theorem dX6_lots_48 : decode cX6_lots 48 = .ok (.istore_n 3, 1) := by decide +kernel
theorem dX6_lots_49 : decode cX6_lots 49 = .ok (.aload_n 0, 1) := by decide +kernel
theorem dX6_lots_50 : decode cX6_lots 50 = .ok (.getfield 162, 3) := by decide +kernel
theorem dX6_lots_53 : decode cX6_lots 53 = .ok (.istore 4, 2) := by decide +kernel
theorem dX6_lots_55 : decode cX6_lots 55 = .ok (.iconst 0, 1) := by decide +kernel
theorem dX6_lots_56 : decode cX6_lots 56 = .ok (.istore 5, 2) := by decide +kernel
theorem dX6_lots_58 : decode cX6_lots 58 = .ok (.iload 5, 2) := by decide +kernel
theorem dX6_lots_60 : decode cX6_lots 60 = .ok (.iload_n 1, 1) := by decide +kernel
theorem dX6_lots_61 : decode cX6_lots 61 = .ok (.if_icmp .ge 89, 3) := by decide +kernel
theorem dX6_lots_64 : decode cX6_lots 64 = .ok (.iload_n 3, 1) := by decide +kernel
theorem dX6_lots_65 : decode cX6_lots 65 = .ok (.ldc 192, 2) := by decide +kernel
theorem dX6_lots_67 : decode cX6_lots 67 = .ok (.imul, 1) := by decide +kernel
theorem dX6_lots_68 : decode cX6_lots 68 = .ok (.ldc 193, 2) := by decide +kernel
theorem dX6_lots_70 : decode cX6_lots 70 = .ok (.iadd, 1) := by decide +kernel
theorem dX6_lots_71 : decode cX6_lots 71 = .ok (.istore_n 3, 1) := by decide +kernel
theorem dX6_lots_72 : decode cX6_lots 72 = .ok (.iload_n 3, 1) := by decide +kernel
theorem dX6_lots_73 : decode cX6_lots 73 = .ok (.ldc 194, 2) := by decide +kernel
theorem dX6_lots_75 : decode cX6_lots 75 = .ok (.iand, 1) := by decide +kernel
theorem dX6_lots_76 : decode cX6_lots 76 = .ok (.sipush 256, 3) := by decide +kernel
theorem dX6_lots_79 : decode cX6_lots 79 = .ok (.idiv, 1) := by decide +kernel
theorem dX6_lots_80 : decode cX6_lots 80 = .ok (.aload_n 0, 1) := by decide +kernel
theorem dX6_lots_81 : decode cX6_lots 81 = .ok (.getfield 62, 3) := by decide +kernel
theorem dX6_lots_84 : decode cX6_lots 84 = .ok (.irem, 1) := by decide +kernel
theorem dX6_lots_85 : decode cX6_lots 85 = .ok (.istore 6, 2) := by decide +kernel
theorem dX6_lots_87 : decode cX6_lots 87 = .ok (.iload_n 3, 1) := by decide +kernel
theorem dX6_lots_88 : decode cX6_lots 88 = .ok (.ldc 192, 2) := by decide +kernel
theorem dX6_lots_90 : decode cX6_lots 90 = .ok (.imul, 1) := by decide +kernel
theorem dX6_lots_91 : decode cX6_lots 91 = .ok (.ldc 193, 2) := by decide +kernel
theorem dX6_lots_93 : decode cX6_lots 93 = .ok (.iadd, 1) := by decide +kernel
theorem dX6_lots_94 : decode cX6_lots 94 = .ok (.istore_n 3, 1) := by decide +kernel
theorem dX6_lots_95 : decode cX6_lots 95 = .ok (.iload_n 3, 1) := by decide +kernel
theorem dX6_lots_96 : decode cX6_lots 96 = .ok (.ldc 194, 2) := by decide +kernel
theorem dX6_lots_98 : decode cX6_lots 98 = .ok (.iand, 1) := by decide +kernel
theorem dX6_lots_99 : decode cX6_lots 99 = .ok (.sipush 256, 3) := by decide +kernel
theorem dX6_lots_102 : decode cX6_lots 102 = .ok (.idiv, 1) := by decide +kernel
theorem dX6_lots_103 : decode cX6_lots 103 = .ok (.bipush 9, 2) := by decide +kernel
theorem dX6_lots_105 : decode cX6_lots 105 = .ok (.irem, 1) := by decide +kernel
theorem dX6_lots_106 : decode cX6_lots 106 = .ok (.iconst 1, 1) := by decide +kernel
theorem dX6_lots_107 : decode cX6_lots 107 = .ok (.iadd, 1) := by decide +kernel
theorem dX6_lots_108 : decode cX6_lots 108 = .ok (.istore 7, 2) := by decide +kernel
theorem dX6_lots_110 : decode cX6_lots 110 = .ok (.iload_n 3, 1) := by decide +kernel
theorem dX6_lots_111 : decode cX6_lots 111 = .ok (.ldc 192, 2) := by decide +kernel
theorem dX6_lots_113 : decode cX6_lots 113 = .ok (.imul, 1) := by decide +kernel
theorem dX6_lots_114 : decode cX6_lots 114 = .ok (.ldc 193, 2) := by decide +kernel
theorem dX6_lots_116 : decode cX6_lots 116 = .ok (.iadd, 1) := by decide +kernel
theorem dX6_lots_117 : decode cX6_lots 117 = .ok (.istore_n 3, 1) := by decide +kernel
theorem dX6_lots_118 : decode cX6_lots 118 = .ok (.iload_n 3, 1) := by decide +kernel
theorem dX6_lots_119 : decode cX6_lots 119 = .ok (.ldc 194, 2) := by decide +kernel
theorem dX6_lots_121 : decode cX6_lots 121 = .ok (.iand, 1) := by decide +kernel
theorem dX6_lots_122 : decode cX6_lots 122 = .ok (.sipush 256, 3) := by decide +kernel
theorem dX6_lots_125 : decode cX6_lots 125 = .ok (.idiv, 1) := by decide +kernel
theorem dX6_lots_126 : decode cX6_lots 126 = .ok (.bipush 21, 2) := by decide +kernel
theorem dX6_lots_128 : decode cX6_lots 128 = .ok (.irem, 1) := by decide +kernel
theorem dX6_lots_129 : decode cX6_lots 129 = .ok (.iconst 5, 1) := by decide +kernel
theorem dX6_lots_130 : decode cX6_lots 130 = .ok (.isub, 1) := by decide +kernel
theorem dX6_lots_131 : decode cX6_lots 131 = .ok (.istore 8, 2) := by decide +kernel
theorem dX6_lots_133 : decode cX6_lots 133 = .ok (.aload_n 0, 1) := by decide +kernel
theorem dX6_lots_134 : decode cX6_lots 134 = .ok (.iload 6, 2) := by decide +kernel
theorem dX6_lots_136 : decode cX6_lots 136 = .ok (.iload 7, 2) := by decide +kernel
theorem dX6_lots_138 : decode cX6_lots 138 = .ok (.iload 8, 2) := by decide +kernel
theorem dX6_lots_140 : decode cX6_lots 140 = .ok (.invokevirtual 165, 3) := by decide +kernel
theorem dX6_lots_143 : decode cX6_lots 143 = .ok (.pop, 1) := by decide +kernel
theorem dX6_lots_144 : decode cX6_lots 144 = .ok (.iinc 5 1, 3) := by decide +kernel
theorem dX6_lots_147 : decode cX6_lots 147 = .ok (.goto (-89), 3) := by decide +kernel
theorem dX6_lots_150 : decode cX6_lots 150 = .ok (.aload_n 0, 1) := by decide +kernel
theorem dX6_lots_151 : decode cX6_lots 151 = .ok (.getfield 162, 3) := by decide +kernel
theorem dX6_lots_154 : decode cX6_lots 154 = .ok (.iload 4, 2) := by decide +kernel
theorem dX6_lots_156 : decode cX6_lots 156 = .ok (.isub, 1) := by decide +kernel
theorem dX6_lots_157 : decode cX6_lots 157 = .ok (.istore 5, 2) := by decide +kernel
theorem dX6_lots_159 : decode cX6_lots 159 = .ok (.aload_n 0, 1) := by decide +kernel
theorem dX6_lots_160 : decode cX6_lots 160 = .ok (.aload_n 0, 1) := by decide +kernel
theorem dX6_lots_161 : decode cX6_lots 161 = .ok (.getfield 31, 3) := by decide +kernel
theorem dX6_lots_164 : decode cX6_lots 164 = .ok (.invokevirtual 110, 3) := by decide +kernel
theorem dX6_lots_167 : decode cX6_lots 167 = .ok (.iload 5, 2) := by decide +kernel
theorem dX6_lots_169 : decode cX6_lots 169 = .ok (.ireturn, 1) := by decide +kernel
theorem dX6_keep_0 : decode cX6_keep 0 = .ok (.iconst 0, 1) := by decide +kernel
theorem dX6_keep_1 : decode cX6_keep 1 = .ok (.istore_n 2, 1) := by decide +kernel
theorem dX6_keep_2 : decode cX6_keep 2 = .ok (.iload_n 2, 1) := by decide +kernel
theorem dX6_keep_3 : decode cX6_keep 3 = .ok (.iconst 5, 1) := by decide +kernel
theorem dX6_keep_4 : decode cX6_keep 4 = .ok (.if_icmp .ge 41, 3) := by decide +kernel
theorem dX6_keep_7 : decode cX6_keep 7 = .ok (.aload_n 1, 1) := by decide +kernel
theorem dX6_keep_8 : decode cX6_keep 8 = .ok (.iload_n 2, 1) := by decide +kernel
theorem dX6_keep_9 : decode cX6_keep 9 = .ok (.aload_n 0, 1) := by decide +kernel
theorem dX6_keep_10 : decode cX6_keep 10 = .ok (.getfield 7, 3) := by decide +kernel
theorem dX6_keep_13 : decode cX6_keep 13 = .ok (.iload_n 2, 1) := by decide +kernel
theorem dX6_keep_14 : decode cX6_keep 14 = .ok (.iaload, 1) := by decide +kernel
theorem dX6_keep_15 : decode cX6_keep 15 = .ok (.iastore, 1) := by decide +kernel
theorem dX6_keep_16 : decode cX6_keep 16 = .ok (.aload_n 1, 1) := by decide +kernel
theorem dX6_keep_17 : decode cX6_keep 17 = .ok (.iconst 5, 1) := by decide +kernel
theorem dX6_keep_18 : decode cX6_keep 18 = .ok (.iload_n 2, 1) := by decide +kernel
theorem dX6_keep_19 : decode cX6_keep 19 = .ok (.iadd, 1) := by decide +kernel
theorem dX6_keep_20 : decode cX6_keep 20 = .ok (.aload_n 0, 1) := by decide +kernel
theorem dX6_keep_21 : decode cX6_keep 21 = .ok (.getfield 13, 3) := by decide +kernel
theorem dX6_keep_24 : decode cX6_keep 24 = .ok (.iload_n 2, 1) := by decide +kernel
theorem dX6_keep_25 : decode cX6_keep 25 = .ok (.iaload, 1) := by decide +kernel
theorem dX6_keep_26 : decode cX6_keep 26 = .ok (.iastore, 1) := by decide +kernel
theorem dX6_keep_27 : decode cX6_keep 27 = .ok (.aload_n 1, 1) := by decide +kernel
theorem dX6_keep_28 : decode cX6_keep 28 = .ok (.bipush 10, 2) := by decide +kernel
theorem dX6_keep_30 : decode cX6_keep 30 = .ok (.iload_n 2, 1) := by decide +kernel
theorem dX6_keep_31 : decode cX6_keep 31 = .ok (.iadd, 1) := by decide +kernel
theorem dX6_keep_32 : decode cX6_keep 32 = .ok (.aload_n 0, 1) := by decide +kernel
theorem dX6_keep_33 : decode cX6_keep 33 = .ok (.getfield 16, 3) := by decide +kernel
theorem dX6_keep_36 : decode cX6_keep 36 = .ok (.iload_n 2, 1) := by decide +kernel
theorem dX6_keep_37 : decode cX6_keep 37 = .ok (.iaload, 1) := by decide +kernel
theorem dX6_keep_38 : decode cX6_keep 38 = .ok (.iastore, 1) := by decide +kernel
theorem dX6_keep_39 : decode cX6_keep 39 = .ok (.iinc 2 1, 3) := by decide +kernel
theorem dX6_keep_42 : decode cX6_keep 42 = .ok (.goto (-40), 3) := by decide +kernel
theorem dX6_keep_45 : decode cX6_keep 45 = .ok (.aload_n 1, 1) := by decide +kernel
theorem dX6_keep_46 : decode cX6_keep 46 = .ok (.bipush 15, 2) := by decide +kernel
theorem dX6_keep_48 : decode cX6_keep 48 = .ok (.aload_n 0, 1) := by decide +kernel
theorem dX6_keep_49 : decode cX6_keep 49 = .ok (.getfield 34, 3) := by decide +kernel
theorem dX6_keep_52 : decode cX6_keep 52 = .ok (.iastore, 1) := by decide +kernel
theorem dX6_keep_53 : decode cX6_keep 53 = .ok (.aload_n 1, 1) := by decide +kernel
theorem dX6_keep_54 : decode cX6_keep 54 = .ok (.bipush 16, 2) := by decide +kernel
theorem dX6_keep_56 : decode cX6_keep 56 = .ok (.aload_n 0, 1) := by decide +kernel
theorem dX6_keep_57 : decode cX6_keep 57 = .ok (.getfield 38, 3) := by decide +kernel
theorem dX6_keep_60 : decode cX6_keep 60 = .ok (.iastore, 1) := by decide +kernel
theorem dX6_keep_61 : decode cX6_keep 61 = .ok (.aload_n 1, 1) := by decide +kernel
theorem dX6_keep_62 : decode cX6_keep 62 = .ok (.bipush 17, 2) := by decide +kernel
theorem dX6_keep_64 : decode cX6_keep 64 = .ok (.aload_n 0, 1) := by decide +kernel
theorem dX6_keep_65 : decode cX6_keep 65 = .ok (.getfield 41, 3) := by decide +kernel
theorem dX6_keep_68 : decode cX6_keep 68 = .ok (.iastore, 1) := by decide +kernel
theorem dX6_keep_69 : decode cX6_keep 69 = .ok (.aload_n 1, 1) := by decide +kernel
theorem dX6_keep_70 : decode cX6_keep 70 = .ok (.bipush 18, 2) := by decide +kernel
theorem dX6_keep_72 : decode cX6_keep 72 = .ok (.aload_n 0, 1) := by decide +kernel
theorem dX6_keep_73 : decode cX6_keep 73 = .ok (.getfield 44, 3) := by decide +kernel
theorem dX6_keep_76 : decode cX6_keep 76 = .ok (.iastore, 1) := by decide +kernel
theorem dX6_keep_77 : decode cX6_keep 77 = .ok (.aload_n 1, 1) := by decide +kernel
theorem dX6_keep_78 : decode cX6_keep 78 = .ok (.bipush 19, 2) := by decide +kernel
theorem dX6_keep_80 : decode cX6_keep 80 = .ok (.aload_n 0, 1) := by decide +kernel
theorem dX6_keep_81 : decode cX6_keep 81 = .ok (.getfield 89, 3) := by decide +kernel
theorem dX6_keep_84 : decode cX6_keep 84 = .ok (.iastore, 1) := by decide +kernel
theorem dX6_keep_85 : decode cX6_keep 85 = .ok (.aload_n 1, 1) := by decide +kernel
theorem dX6_keep_86 : decode cX6_keep 86 = .ok (.bipush 20, 2) := by decide +kernel
theorem dX6_keep_88 : decode cX6_keep 88 = .ok (.aload_n 0, 1) := by decide +kernel
theorem dX6_keep_89 : decode cX6_keep 89 = .ok (.getfield 47, 3) := by decide +kernel
theorem dX6_keep_92 : decode cX6_keep 92 = .ok (.iastore, 1) := by decide +kernel
theorem dX6_keep_93 : decode cX6_keep 93 = .ok (.aload_n 1, 1) := by decide +kernel
theorem dX6_keep_94 : decode cX6_keep 94 = .ok (.bipush 21, 2) := by decide +kernel
theorem dX6_keep_96 : decode cX6_keep 96 = .ok (.aload_n 0, 1) := by decide +kernel
theorem dX6_keep_97 : decode cX6_keep 97 = .ok (.getfield 50, 3) := by decide +kernel
theorem dX6_keep_100 : decode cX6_keep 100 = .ok (.iastore, 1) := by decide +kernel
theorem dX6_keep_101 : decode cX6_keep 101 = .ok (.aload_n 1, 1) := by decide +kernel
theorem dX6_keep_102 : decode cX6_keep 102 = .ok (.bipush 22, 2) := by decide +kernel
theorem dX6_keep_104 : decode cX6_keep 104 = .ok (.aload_n 0, 1) := by decide +kernel
theorem dX6_keep_105 : decode cX6_keep 105 = .ok (.getfield 92, 3) := by decide +kernel
theorem dX6_keep_108 : decode cX6_keep 108 = .ok (.iastore, 1) := by decide +kernel
theorem dX6_keep_109 : decode cX6_keep 109 = .ok (.aload_n 1, 1) := by decide +kernel
theorem dX6_keep_110 : decode cX6_keep 110 = .ok (.bipush 23, 2) := by decide +kernel
theorem dX6_keep_112 : decode cX6_keep 112 = .ok (.aload_n 0, 1) := by decide +kernel
theorem dX6_keep_113 : decode cX6_keep 113 = .ok (.getfield 53, 3) := by decide +kernel
theorem dX6_keep_116 : decode cX6_keep 116 = .ok (.iastore, 1) := by decide +kernel
theorem dX6_keep_117 : decode cX6_keep 117 = .ok (.aload_n 1, 1) := by decide +kernel
theorem dX6_keep_118 : decode cX6_keep 118 = .ok (.bipush 24, 2) := by decide +kernel
theorem dX6_keep_120 : decode cX6_keep 120 = .ok (.aload_n 0, 1) := by decide +kernel
theorem dX6_keep_121 : decode cX6_keep 121 = .ok (.getfield 149, 3) := by decide +kernel
theorem dX6_keep_124 : decode cX6_keep 124 = .ok (.iastore, 1) := by decide +kernel
theorem dX6_keep_125 : decode cX6_keep 125 = .ok (.aload_n 1, 1) := by decide +kernel
theorem dX6_keep_126 : decode cX6_keep 126 = .ok (.bipush 25, 2) := by decide +kernel
theorem dX6_keep_128 : decode cX6_keep 128 = .ok (.aload_n 0, 1) := by decide +kernel
theorem dX6_keep_129 : decode cX6_keep 129 = .ok (.getfield 162, 3) := by decide +kernel
theorem dX6_keep_132 : decode cX6_keep 132 = .ok (.iastore, 1) := by decide +kernel
theorem dX6_keep_133 : decode cX6_keep 133 = .ok (.aload_n 1, 1) := by decide +kernel
theorem dX6_keep_134 : decode cX6_keep 134 = .ok (.bipush 26, 2) := by decide +kernel
theorem dX6_keep_136 : decode cX6_keep 136 = .ok (.aload_n 0, 1) := by decide +kernel
theorem dX6_keep_137 : decode cX6_keep 137 = .ok (.getfield 159, 3) := by decide +kernel
theorem dX6_keep_140 : decode cX6_keep 140 = .ok (.iastore, 1) := by decide +kernel
theorem dX6_keep_141 : decode cX6_keep 141 = .ok (.aload_n 1, 1) := by decide +kernel
theorem dX6_keep_142 : decode cX6_keep 142 = .ok (.bipush 27, 2) := by decide +kernel
theorem dX6_keep_144 : decode cX6_keep 144 = .ok (.aload_n 0, 1) := by decide +kernel
theorem dX6_keep_145 : decode cX6_keep 145 = .ok (.getfield 62, 3) := by decide +kernel
theorem dX6_keep_148 : decode cX6_keep 148 = .ok (.iastore, 1) := by decide +kernel
theorem dX6_keep_149 : decode cX6_keep 149 = .ok (.return_, 1) := by decide +kernel
theorem dX6_again_0 : decode cX6_again 0 = .ok (.iconst 0, 1) := by decide +kernel
theorem dX6_again_1 : decode cX6_again 1 = .ok (.istore_n 2, 1) := by decide +kernel
theorem dX6_again_2 : decode cX6_again 2 = .ok (.iload_n 2, 1) := by decide +kernel
theorem dX6_again_3 : decode cX6_again 3 = .ok (.iconst 5, 1) := by decide +kernel
theorem dX6_again_4 : decode cX6_again 4 = .ok (.if_icmp .ge 41, 3) := by decide +kernel
theorem dX6_again_7 : decode cX6_again 7 = .ok (.aload_n 0, 1) := by decide +kernel
theorem dX6_again_8 : decode cX6_again 8 = .ok (.getfield 7, 3) := by decide +kernel
theorem dX6_again_11 : decode cX6_again 11 = .ok (.iload_n 2, 1) := by decide +kernel
theorem dX6_again_12 : decode cX6_again 12 = .ok (.aload_n 1, 1) := by decide +kernel
theorem dX6_again_13 : decode cX6_again 13 = .ok (.iload_n 2, 1) := by decide +kernel
theorem dX6_again_14 : decode cX6_again 14 = .ok (.iaload, 1) := by decide +kernel
theorem dX6_again_15 : decode cX6_again 15 = .ok (.iastore, 1) := by decide +kernel
theorem dX6_again_16 : decode cX6_again 16 = .ok (.aload_n 0, 1) := by decide +kernel
theorem dX6_again_17 : decode cX6_again 17 = .ok (.getfield 13, 3) := by decide +kernel
theorem dX6_again_20 : decode cX6_again 20 = .ok (.iload_n 2, 1) := by decide +kernel
theorem dX6_again_21 : decode cX6_again 21 = .ok (.aload_n 1, 1) := by decide +kernel
theorem dX6_again_22 : decode cX6_again 22 = .ok (.iconst 5, 1) := by decide +kernel
theorem dX6_again_23 : decode cX6_again 23 = .ok (.iload_n 2, 1) := by decide +kernel
theorem dX6_again_24 : decode cX6_again 24 = .ok (.iadd, 1) := by decide +kernel
theorem dX6_again_25 : decode cX6_again 25 = .ok (.iaload, 1) := by decide +kernel
theorem dX6_again_26 : decode cX6_again 26 = .ok (.iastore, 1) := by decide +kernel
theorem dX6_again_27 : decode cX6_again 27 = .ok (.aload_n 0, 1) := by decide +kernel
theorem dX6_again_28 : decode cX6_again 28 = .ok (.getfield 16, 3) := by decide +kernel
theorem dX6_again_31 : decode cX6_again 31 = .ok (.iload_n 2, 1) := by decide +kernel
theorem dX6_again_32 : decode cX6_again 32 = .ok (.aload_n 1, 1) := by decide +kernel
theorem dX6_again_33 : decode cX6_again 33 = .ok (.bipush 10, 2) := by decide +kernel
theorem dX6_again_35 : decode cX6_again 35 = .ok (.iload_n 2, 1) := by decide +kernel
theorem dX6_again_36 : decode cX6_again 36 = .ok (.iadd, 1) := by decide +kernel
theorem dX6_again_37 : decode cX6_again 37 = .ok (.iaload, 1) := by decide +kernel
theorem dX6_again_38 : decode cX6_again 38 = .ok (.iastore, 1) := by decide +kernel
theorem dX6_again_39 : decode cX6_again 39 = .ok (.iinc 2 1, 3) := by decide +kernel
theorem dX6_again_42 : decode cX6_again 42 = .ok (.goto (-40), 3) := by decide +kernel
theorem dX6_again_45 : decode cX6_again 45 = .ok (.aload_n 0, 1) := by decide +kernel
theorem dX6_again_46 : decode cX6_again 46 = .ok (.aload_n 1, 1) := by decide +kernel
theorem dX6_again_47 : decode cX6_again 47 = .ok (.bipush 15, 2) := by decide +kernel
theorem dX6_again_49 : decode cX6_again 49 = .ok (.iaload, 1) := by decide +kernel
theorem dX6_again_50 : decode cX6_again 50 = .ok (.putfield 34, 3) := by decide +kernel
theorem dX6_again_53 : decode cX6_again 53 = .ok (.aload_n 0, 1) := by decide +kernel
theorem dX6_again_54 : decode cX6_again 54 = .ok (.aload_n 1, 1) := by decide +kernel
theorem dX6_again_55 : decode cX6_again 55 = .ok (.bipush 16, 2) := by decide +kernel
theorem dX6_again_57 : decode cX6_again 57 = .ok (.iaload, 1) := by decide +kernel
theorem dX6_again_58 : decode cX6_again 58 = .ok (.putfield 38, 3) := by decide +kernel
theorem dX6_again_61 : decode cX6_again 61 = .ok (.aload_n 0, 1) := by decide +kernel
theorem dX6_again_62 : decode cX6_again 62 = .ok (.aload_n 1, 1) := by decide +kernel
theorem dX6_again_63 : decode cX6_again 63 = .ok (.bipush 17, 2) := by decide +kernel
theorem dX6_again_65 : decode cX6_again 65 = .ok (.iaload, 1) := by decide +kernel
theorem dX6_again_66 : decode cX6_again 66 = .ok (.putfield 41, 3) := by decide +kernel
theorem dX6_again_69 : decode cX6_again 69 = .ok (.aload_n 0, 1) := by decide +kernel
theorem dX6_again_70 : decode cX6_again 70 = .ok (.aload_n 1, 1) := by decide +kernel
theorem dX6_again_71 : decode cX6_again 71 = .ok (.bipush 18, 2) := by decide +kernel
theorem dX6_again_73 : decode cX6_again 73 = .ok (.iaload, 1) := by decide +kernel
theorem dX6_again_74 : decode cX6_again 74 = .ok (.putfield 44, 3) := by decide +kernel
theorem dX6_again_77 : decode cX6_again 77 = .ok (.aload_n 0, 1) := by decide +kernel
theorem dX6_again_78 : decode cX6_again 78 = .ok (.aload_n 1, 1) := by decide +kernel
theorem dX6_again_79 : decode cX6_again 79 = .ok (.bipush 19, 2) := by decide +kernel
theorem dX6_again_81 : decode cX6_again 81 = .ok (.iaload, 1) := by decide +kernel
theorem dX6_again_82 : decode cX6_again 82 = .ok (.putfield 89, 3) := by decide +kernel
theorem dX6_again_85 : decode cX6_again 85 = .ok (.aload_n 0, 1) := by decide +kernel
theorem dX6_again_86 : decode cX6_again 86 = .ok (.aload_n 1, 1) := by decide +kernel
theorem dX6_again_87 : decode cX6_again 87 = .ok (.bipush 20, 2) := by decide +kernel
theorem dX6_again_89 : decode cX6_again 89 = .ok (.iaload, 1) := by decide +kernel
theorem dX6_again_90 : decode cX6_again 90 = .ok (.putfield 47, 3) := by decide +kernel
theorem dX6_again_93 : decode cX6_again 93 = .ok (.aload_n 0, 1) := by decide +kernel
theorem dX6_again_94 : decode cX6_again 94 = .ok (.aload_n 1, 1) := by decide +kernel
theorem dX6_again_95 : decode cX6_again 95 = .ok (.bipush 21, 2) := by decide +kernel
theorem dX6_again_97 : decode cX6_again 97 = .ok (.iaload, 1) := by decide +kernel
theorem dX6_again_98 : decode cX6_again 98 = .ok (.putfield 50, 3) := by decide +kernel
theorem dX6_again_101 : decode cX6_again 101 = .ok (.aload_n 0, 1) := by decide +kernel
theorem dX6_again_102 : decode cX6_again 102 = .ok (.aload_n 1, 1) := by decide +kernel
theorem dX6_again_103 : decode cX6_again 103 = .ok (.bipush 22, 2) := by decide +kernel
theorem dX6_again_105 : decode cX6_again 105 = .ok (.iaload, 1) := by decide +kernel
theorem dX6_again_106 : decode cX6_again 106 = .ok (.putfield 92, 3) := by decide +kernel
theorem dX6_again_109 : decode cX6_again 109 = .ok (.aload_n 0, 1) := by decide +kernel
theorem dX6_again_110 : decode cX6_again 110 = .ok (.aload_n 1, 1) := by decide +kernel
theorem dX6_again_111 : decode cX6_again 111 = .ok (.bipush 23, 2) := by decide +kernel
theorem dX6_again_113 : decode cX6_again 113 = .ok (.iaload, 1) := by decide +kernel
theorem dX6_again_114 : decode cX6_again 114 = .ok (.putfield 53, 3) := by decide +kernel
theorem dX6_again_117 : decode cX6_again 117 = .ok (.aload_n 0, 1) := by decide +kernel
theorem dX6_again_118 : decode cX6_again 118 = .ok (.aload_n 1, 1) := by decide +kernel
theorem dX6_again_119 : decode cX6_again 119 = .ok (.bipush 24, 2) := by decide +kernel
theorem dX6_again_121 : decode cX6_again 121 = .ok (.iaload, 1) := by decide +kernel
theorem dX6_again_122 : decode cX6_again 122 = .ok (.putfield 149, 3) := by decide +kernel
theorem dX6_again_125 : decode cX6_again 125 = .ok (.aload_n 0, 1) := by decide +kernel
theorem dX6_again_126 : decode cX6_again 126 = .ok (.aload_n 1, 1) := by decide +kernel
theorem dX6_again_127 : decode cX6_again 127 = .ok (.bipush 25, 2) := by decide +kernel
theorem dX6_again_129 : decode cX6_again 129 = .ok (.iaload, 1) := by decide +kernel
theorem dX6_again_130 : decode cX6_again 130 = .ok (.putfield 162, 3) := by decide +kernel
theorem dX6_again_133 : decode cX6_again 133 = .ok (.aload_n 0, 1) := by decide +kernel
theorem dX6_again_134 : decode cX6_again 134 = .ok (.aload_n 1, 1) := by decide +kernel
theorem dX6_again_135 : decode cX6_again 135 = .ok (.bipush 26, 2) := by decide +kernel
theorem dX6_again_137 : decode cX6_again 137 = .ok (.iaload, 1) := by decide +kernel
theorem dX6_again_138 : decode cX6_again 138 = .ok (.putfield 159, 3) := by decide +kernel
theorem dX6_again_141 : decode cX6_again 141 = .ok (.aload_n 0, 1) := by decide +kernel
theorem dX6_again_142 : decode cX6_again 142 = .ok (.aload_n 1, 1) := by decide +kernel
theorem dX6_again_143 : decode cX6_again 143 = .ok (.bipush 27, 2) := by decide +kernel
theorem dX6_again_145 : decode cX6_again 145 = .ok (.iaload, 1) := by decide +kernel
theorem dX6_again_146 : decode cX6_again 146 = .ok (.putfield 62, 3) := by decide +kernel
theorem dX6_again_149 : decode cX6_again 149 = .ok (.return_, 1) := by decide +kernel
set_option maxRecDepth 20000 in
theorem ggX6_image_X6_keep : GoodIn wsX6_image wsX6_keep := goodIn_r _ [8, 9, 10, 11, 12, 13, 14, 15, 16, 17, 18, 19, 20, 3, 21, 22, 23, 24, 25, 26, 27, 28, 29, 30, 31, 32, 33, 34, 35, 36, 37, 38, 39, 40, 41, 42, 43, 44, 45, 46, 47, 48, 49, 50, 51, 52, 53, 54] (by decide +kernel) (by decide +kernel)
set_option maxRecDepth 20000 in
theorem gX6_image_X6_keep : GoodIn wsX6_image (wsV RX6 106 RX6 yX6_keep wsX6_keep) := goodIn_app (goodIn_of _ (by decide +kernel)) ggX6_image_X6_keep
theorem dX6_image_0 : decode cX6_image 0 = .ok (.aload_n 0, 1) := by decide +kernel
theorem dX6_image_1 : decode cX6_image 1 = .ok (.iconst 1, 1) := by decide +kernel
theorem dX6_image_2 : decode cX6_image 2 = .ok (.putfield 195, 3) := by decide +kernel
theorem dX6_image_5 : decode cX6_image 5 = .ok (.aload_n 0, 1) := by decide +kernel
theorem dX6_image_6 : decode cX6_image 6 = .ok (.aload_n 0, 1) := by decide +kernel
theorem dX6_image_7 : decode cX6_image 7 = .ok (.getfield 28, 3) := by decide +kernel
theorem dX6_image_10 : decode cX6_image 10 = .ok (.invokevirtual 106, 3) := by decide +kernel
theorem dX6_image_13 : decode cX6_image 13 = .ok (.aload_n 0, 1) := by decide +kernel
theorem dX6_image_14 : decode cX6_image 14 = .ok (.getfield 149, 3) := by decide +kernel
theorem dX6_image_17 : decode cX6_image 17 = .ok (.ireturn, 1) := by decide +kernel
set_option maxRecDepth 20000 in
theorem ggX6_on_X6_no : GoodIn wsX6_on wsX6_no := goodIn_r _ [8, 9, 29, 30, 31, 32, 33, 34, 35, 36, 37, 38, 39, 40, 41, 42, 43, 44, 45, 46, 47, 48, 49, 50, 51, 52, 53, 54, 55, 56, 57, 58, 59] (by decide +kernel) (by decide +kernel)
set_option maxRecDepth 20000 in
theorem gX6_on_X6_no : GoodIn wsX6_on (wsV RX6 58 RX6 yX6_no wsX6_no) := goodIn_app (goodIn_of _ (by decide +kernel)) ggX6_on_X6_no
set_option maxRecDepth 20000 in
theorem ggX6_on_X6_again : GoodIn wsX6_on wsX6_again := goodIn_r _ [13, 14, 15, 16, 17, 18, 19, 20, 21, 22, 23, 24, 25, 3, 26, 27, 28, 29, 30, 31, 32, 33, 34, 35, 36, 37, 38, 39, 40, 41, 42, 43, 44, 45, 46, 47, 48, 49, 50, 51, 52, 53, 54, 55, 56, 57, 58, 59] (by decide +kernel) (by decide +kernel)
set_option maxRecDepth 20000 in
theorem gX6_on_X6_again : GoodIn wsX6_on (wsV RX6 110 RX6 yX6_again wsX6_again) := goodIn_app (goodIn_of _ (by decide +kernel)) ggX6_on_X6_again
theorem dX6_on_0 : decode cX6_on 0 = .ok (.aload_n 0, 1) := by decide +kernel
theorem dX6_on_1 : decode cX6_on 1 = .ok (.getfield 195, 3) := by decide +kernel
theorem dX6_on_4 : decode cX6_on 4 = .ok (.ifCond .ne 10, 3) := by decide +kernel
theorem dX6_on_7 : decode cX6_on 7 = .ok (.aload_n 0, 1) := by decide +kernel
theorem dX6_on_8 : decode cX6_on 8 = .ok (.bipush (-3), 2) := by decide +kernel
theorem dX6_on_10 : decode cX6_on 10 = .ok (.invokevirtual 58, 3) := by decide +kernel
theorem dX6_on_13 : decode cX6_on 13 = .ok (.ireturn, 1) := by decide +kernel
theorem dX6_on_14 : decode cX6_on 14 = .ok (.aload_n 0, 1) := by decide +kernel
theorem dX6_on_15 : decode cX6_on 15 = .ok (.aload_n 0, 1) := by decide +kernel
theorem dX6_on_16 : decode cX6_on 16 = .ok (.getfield 28, 3) := by decide +kernel
theorem dX6_on_19 : decode cX6_on 19 = .ok (.invokevirtual 110, 3) := by decide +kernel
theorem dX6_on_22 : decode cX6_on 22 = .ok (.aload_n 0, 1) := by decide +kernel
theorem dX6_on_23 : decode cX6_on 23 = .ok (.getfield 149, 3) := by decide +kernel
theorem dX6_on_26 : decode cX6_on 26 = .ok (.ireturn, 1) := by decide +kernel
set_option maxRecDepth 20000 in
theorem ggX6_count_X6_within : GoodIn wsX6_count wsX6_within := goodIn_r _ [15] (by decide +kernel) (by decide +kernel)
set_option maxRecDepth 20000 in
theorem gX6_count_X6_within : GoodIn wsX6_count (va_wsS RX6 65 yX6_within wsX6_within) := goodIn_app (goodIn_of _ (by decide +kernel)) ggX6_count_X6_within
theorem dX6_count_0 : decode cX6_count 0 = .ok (.iload_n 1, 1) := by decide +kernel
theorem dX6_count_1 : decode cX6_count 1 = .ok (.tableswitch 105 0 9 #[55, 60, 65, 70, 75, 80, 85, 90, 95, 100], 55) := by decide +kernel
theorem dX6_count_56 : decode cX6_count 56 = .ok (.aload_n 0, 1) := by decide +kernel
theorem dX6_count_57 : decode cX6_count 57 = .ok (.getfield 62, 3) := by decide +kernel
theorem dX6_count_60 : decode cX6_count 60 = .ok (.ireturn, 1) := by decide +kernel
theorem dX6_count_61 : decode cX6_count 61 = .ok (.aload_n 0, 1) := by decide +kernel
theorem dX6_count_62 : decode cX6_count 62 = .ok (.getfield 38, 3) := by decide +kernel
theorem dX6_count_65 : decode cX6_count 65 = .ok (.ireturn, 1) := by decide +kernel
theorem dX6_count_66 : decode cX6_count 66 = .ok (.aload_n 0, 1) := by decide +kernel
theorem dX6_count_67 : decode cX6_count 67 = .ok (.getfield 89, 3) := by decide +kernel
theorem dX6_count_70 : decode cX6_count 70 = .ok (.ireturn, 1) := by decide +kernel
theorem dX6_count_71 : decode cX6_count 71 = .ok (.aload_n 0, 1) := by decide +kernel
theorem dX6_count_72 : decode cX6_count 72 = .ok (.getfield 149, 3) := by decide +kernel
theorem dX6_count_75 : decode cX6_count 75 = .ok (.ireturn, 1) := by decide +kernel
theorem dX6_count_76 : decode cX6_count 76 = .ok (.aload_n 0, 1) := by decide +kernel
theorem dX6_count_77 : decode cX6_count 77 = .ok (.getfield 162, 3) := by decide +kernel
theorem dX6_count_80 : decode cX6_count 80 = .ok (.ireturn, 1) := by decide +kernel
theorem dX6_count_81 : decode cX6_count 81 = .ok (.aload_n 0, 1) := by decide +kernel
theorem dX6_count_82 : decode cX6_count 82 = .ok (.getfield 159, 3) := by decide +kernel
theorem dX6_count_85 : decode cX6_count 85 = .ok (.ireturn, 1) := by decide +kernel
theorem dX6_count_86 : decode cX6_count 86 = .ok (.aload_n 0, 1) := by decide +kernel
theorem dX6_count_87 : decode cX6_count 87 = .ok (.getfield 47, 3) := by decide +kernel
theorem dX6_count_90 : decode cX6_count 90 = .ok (.ireturn, 1) := by decide +kernel
theorem dX6_count_91 : decode cX6_count 91 = .ok (.aload_n 0, 1) := by decide +kernel
theorem dX6_count_92 : decode cX6_count 92 = .ok (.getfield 50, 3) := by decide +kernel
theorem dX6_count_95 : decode cX6_count 95 = .ok (.ireturn, 1) := by decide +kernel
theorem dX6_count_96 : decode cX6_count 96 = .ok (.aload_n 0, 1) := by decide +kernel
theorem dX6_count_97 : decode cX6_count 97 = .ok (.getfield 189, 3) := by decide +kernel
theorem dX6_count_100 : decode cX6_count 100 = .ok (.ireturn, 1) := by decide +kernel
theorem dX6_count_101 : decode cX6_count 101 = .ok (.aload_n 0, 1) := by decide +kernel
theorem dX6_count_102 : decode cX6_count 102 = .ok (.getfield 69, 3) := by decide +kernel
theorem dX6_count_105 : decode cX6_count 105 = .ok (.ireturn, 1) := by decide +kernel
theorem dX6_count_106 : decode cX6_count 106 = .ok (.iload_n 1, 1) := by decide +kernel
theorem dX6_count_107 : decode cX6_count 107 = .ok (.bipush 11, 2) := by decide +kernel
theorem dX6_count_109 : decode cX6_count 109 = .ok (.bipush 16, 2) := by decide +kernel
theorem dX6_count_111 : decode cX6_count 111 = .ok (.invokestatic 65, 3) := by decide +kernel
theorem dX6_count_114 : decode cX6_count 114 = .ok (.ifCond .eq 15, 3) := by decide +kernel
theorem dX6_count_117 : decode cX6_count 117 = .ok (.aload_n 0, 1) := by decide +kernel
theorem dX6_count_118 : decode cX6_count 118 = .ok (.getfield 25, 3) := by decide +kernel
theorem dX6_count_121 : decode cX6_count 121 = .ok (.iload_n 1, 1) := by decide +kernel
theorem dX6_count_122 : decode cX6_count 122 = .ok (.bipush 10, 2) := by decide +kernel
theorem dX6_count_124 : decode cX6_count 124 = .ok (.isub, 1) := by decide +kernel
theorem dX6_count_125 : decode cX6_count 125 = .ok (.iaload, 1) := by decide +kernel
theorem dX6_count_126 : decode cX6_count 126 = .ok (.goto 5, 3) := by decide +kernel
theorem dX6_count_129 : decode cX6_count 129 = .ok (.bipush (-9), 2) := by decide +kernel
theorem dX6_count_131 : decode cX6_count 131 = .ok (.ireturn, 1) := by decide +kernel
theorem dJ11_isValidCodePoint_9a6ad_0 : decode cJ11_isValidCodePoint_9a6ad 0 = .ok (.iload_n 0, 1) := by decide +kernel
theorem dJ11_isValidCodePoint_9a6ad_1 : decode cJ11_isValidCodePoint_9a6ad 1 = .ok (.bipush 16, 2) := by decide +kernel
theorem dJ11_isValidCodePoint_9a6ad_3 : decode cJ11_isValidCodePoint_9a6ad 3 = .ok (.iushr, 1) := by decide +kernel
theorem dJ11_isValidCodePoint_9a6ad_4 : decode cJ11_isValidCodePoint_9a6ad 4 = .ok (.istore_n 1, 1) := by decide +kernel
theorem dJ11_isValidCodePoint_9a6ad_5 : decode cJ11_isValidCodePoint_9a6ad 5 = .ok (.iload_n 1, 1) := by decide +kernel
theorem dJ11_isValidCodePoint_9a6ad_6 : decode cJ11_isValidCodePoint_9a6ad 6 = .ok (.bipush 17, 2) := by decide +kernel
theorem dJ11_isValidCodePoint_9a6ad_8 : decode cJ11_isValidCodePoint_9a6ad 8 = .ok (.if_icmp .ge 7, 3) := by decide +kernel
theorem dJ11_isValidCodePoint_9a6ad_11 : decode cJ11_isValidCodePoint_9a6ad 11 = .ok (.iconst 1, 1) := by decide +kernel
theorem dJ11_isValidCodePoint_9a6ad_12 : decode cJ11_isValidCodePoint_9a6ad 12 = .ok (.goto 4, 3) := by decide +kernel
theorem dJ11_isValidCodePoint_9a6ad_15 : decode cJ11_isValidCodePoint_9a6ad 15 = .ok (.iconst 0, 1) := by decide +kernel
theorem dJ11_isValidCodePoint_9a6ad_16 : decode cJ11_isValidCodePoint_9a6ad 16 = .ok (.ireturn, 1) := by decide +kernel
theorem dJ11_highSurrogate_5068e_0 : decode cJ11_highSurrogate_5068e 0 = .ok (.iload_n 0, 1) := by decide +kernel
theorem dJ11_highSurrogate_5068e_1 : decode cJ11_highSurrogate_5068e 1 = .ok (.bipush 10, 2) := by decide +kernel
theorem dJ11_highSurrogate_5068e_3 : decode cJ11_highSurrogate_5068e 3 = .ok (.iushr, 1) := by decide +kernel
theorem dJ11_highSurrogate_5068e_4 : decode cJ11_highSurrogate_5068e 4 = .ok (.ldc 110, 2) := by decide +kernel
theorem dJ11_highSurrogate_5068e_6 : decode cJ11_highSurrogate_5068e 6 = .ok (.iadd, 1) := by decide +kernel
theorem dJ11_highSurrogate_5068e_7 : decode cJ11_highSurrogate_5068e 7 = .ok (.i2c, 1) := by decide +kernel
theorem dJ11_highSurrogate_5068e_8 : decode cJ11_highSurrogate_5068e 8 = .ok (.ireturn, 1) := by decide +kernel
theorem dJ11_lowSurrogate_5068e_0 : decode cJ11_lowSurrogate_5068e 0 = .ok (.iload_n 0, 1) := by decide +kernel
theorem dJ11_lowSurrogate_5068e_1 : decode cJ11_lowSurrogate_5068e 1 = .ok (.sipush 1023, 3) := by decide +kernel
theorem dJ11_lowSurrogate_5068e_4 : decode cJ11_lowSurrogate_5068e 4 = .ok (.iand, 1) := by decide +kernel
theorem dJ11_lowSurrogate_5068e_5 : decode cJ11_lowSurrogate_5068e 5 = .ok (.ldc 76, 2) := by decide +kernel
theorem dJ11_lowSurrogate_5068e_7 : decode cJ11_lowSurrogate_5068e 7 = .ok (.iadd, 1) := by decide +kernel
theorem dJ11_lowSurrogate_5068e_8 : decode cJ11_lowSurrogate_5068e 8 = .ok (.i2c, 1) := by decide +kernel
theorem dJ11_lowSurrogate_5068e_9 : decode cJ11_lowSurrogate_5068e 9 = .ok (.ireturn, 1) := by decide +kernel
theorem dJ9_max_7cf53_0 : decode cJ9_max_7cf53 0 = .ok (.iload_n 0, 1) := by decide +kernel
theorem dJ9_max_7cf53_1 : decode cJ9_max_7cf53 1 = .ok (.iload_n 1, 1) := by decide +kernel
theorem dJ9_max_7cf53_2 : decode cJ9_max_7cf53 2 = .ok (.if_icmp .lt 7, 3) := by decide +kernel
theorem dJ9_max_7cf53_5 : decode cJ9_max_7cf53 5 = .ok (.iload_n 0, 1) := by decide +kernel
theorem dJ9_max_7cf53_6 : decode cJ9_max_7cf53 6 = .ok (.goto 4, 3) := by decide +kernel
theorem dJ9_max_7cf53_9 : decode cJ9_max_7cf53 9 = .ok (.iload_n 1, 1) := by decide +kernel
theorem dJ9_max_7cf53_10 : decode cJ9_max_7cf53 10 = .ok (.ireturn, 1) := by decide +kernel
theorem dJ9_min_7cf53_0 : decode cJ9_min_7cf53 0 = .ok (.iload_n 0, 1) := by decide +kernel
theorem dJ9_min_7cf53_1 : decode cJ9_min_7cf53 1 = .ok (.iload_n 1, 1) := by decide +kernel
theorem dJ9_min_7cf53_2 : decode cJ9_min_7cf53 2 = .ok (.if_icmp .gt 7, 3) := by decide +kernel
theorem dJ9_min_7cf53_5 : decode cJ9_min_7cf53 5 = .ok (.iload_n 0, 1) := by decide +kernel
theorem dJ9_min_7cf53_6 : decode cJ9_min_7cf53 6 = .ok (.goto 4, 3) := by decide +kernel
theorem dJ9_min_7cf53_9 : decode cJ9_min_7cf53 9 = .ok (.iload_n 1, 1) := by decide +kernel
theorem dJ9_min_7cf53_10 : decode cJ9_min_7cf53 10 = .ok (.ireturn, 1) := by decide +kernel
set_option maxRecDepth 20000 in
theorem ggJ0_length_8abf5_J0_coder_7d493 : GoodIn wsJ0_length_8abf5 wsJ0_coder_7d493 := goodIn_r _ [6, 7, 8] (by decide +kernel) (by decide +kernel)
set_option maxRecDepth 20000 in
theorem gJ0_length_8abf5_J0_coder_7d493 : GoodIn wsJ0_length_8abf5 (wsV RJ0 335 RJ0 yJ0_coder_7d493 wsJ0_coder_7d493) := goodIn_app (goodIn_of _ (by decide +kernel)) ggJ0_length_8abf5_J0_coder_7d493
theorem dJ0_length_8abf5_0 : decode cJ0_length_8abf5 0 = .ok (.aload_n 0, 1) := by decide +kernel
theorem dJ0_length_8abf5_1 : decode cJ0_length_8abf5 1 = .ok (.getfield 9, 3) := by decide +kernel
theorem dJ0_length_8abf5_4 : decode cJ0_length_8abf5 4 = .ok (.arraylength, 1) := by decide +kernel
theorem dJ0_length_8abf5_5 : decode cJ0_length_8abf5 5 = .ok (.aload_n 0, 1) := by decide +kernel
theorem dJ0_length_8abf5_6 : decode cJ0_length_8abf5 6 = .ok (.invokevirtual 335, 3) := by decide +kernel
theorem dJ0_length_8abf5_9 : decode cJ0_length_8abf5 9 = .ok (.ishr, 1) := by decide +kernel
theorem dJ0_length_8abf5_10 : decode cJ0_length_8abf5 10 = .ok (.ireturn, 1) := by decide +kernel
set_option maxRecDepth 20000 in
theorem ggJ0_indexOf_0f7a4_J0_indexOf_7cf53 : GoodIn wsJ0_indexOf_0f7a4 wsJ0_indexOf_7cf53 := goodIn_r _ [5, 6, 7, 8, 9, 4, 10, 11, 12, 13, 14, 15, 16, 17, 18, 19, 20, 21, 22, 23, 24, 25, 26, 27, 28, 29, 30, 31, 32, 33, 34, 35, 36, 37, 38, 39, 40, 41, 42, 43, 44, 45, 46, 47, 48, 49, 50, 51, 52, 53, 54, 55, 56, 57, 58, 59, 60, 61, 62, 63, 64, 65, 66, 67, 68, 69, 70, 71, 72, 73, 74, 75, 76, 77, 78, 79, 80, 81, 82, 83, 84, 85] (by decide +kernel) (by decide +kernel)
set_option maxRecDepth 20000 in
theorem gJ0_indexOf_0f7a4_J0_indexOf_7cf53 : GoodIn wsJ0_indexOf_0f7a4 (wsV RJ0 633 RJ0 yJ0_indexOf_7cf53 wsJ0_indexOf_7cf53) := goodIn_app (goodIn_of _ (by decide +kernel)) ggJ0_indexOf_0f7a4_J0_indexOf_7cf53
theorem dJ0_indexOf_0f7a4_0 : decode cJ0_indexOf_0f7a4 0 = .ok (.aload_n 0, 1) := by decide +kernel
theorem dJ0_indexOf_0f7a4_1 : decode cJ0_indexOf_0f7a4 1 = .ok (.iload_n 1, 1) := by decide +kernel
theorem dJ0_indexOf_0f7a4_2 : decode cJ0_indexOf_0f7a4 2 = .ok (.iconst 0, 1) := by decide +kernel
theorem dJ0_indexOf_0f7a4_3 : decode cJ0_indexOf_0f7a4 3 = .ok (.invokevirtual 633, 3) := by decide +kernel
theorem dJ0_indexOf_0f7a4_6 : decode cJ0_indexOf_0f7a4 6 = .ok (.ireturn, 1) := by decide +kernel
set_option maxRecDepth 20000 in
theorem ggJ0_indexOf_7cf53_J0_isLatin1_aae02 : GoodIn wsJ0_indexOf_7cf53 wsJ0_isLatin1_aae02 := goodIn_r _ [6, 7, 8] (by decide +kernel) (by decide +kernel)
set_option maxRecDepth 20000 in
theorem gJ0_indexOf_7cf53_J0_isLatin1_aae02 : GoodIn wsJ0_indexOf_7cf53 (wsV RJ0 492 RJ0 yJ0_isLatin1_aae02 wsJ0_isLatin1_aae02) := goodIn_app (goodIn_of _ (by decide +kernel)) ggJ0_indexOf_7cf53_J0_isLatin1_aae02
set_option maxRecDepth 20000 in
theorem ggJ0_indexOf_7cf53_J0_length_8abf5 : GoodIn wsJ0_indexOf_7cf53 wsJ0_length_8abf5 := goodIn_r _ [12, 1, 13, 14, 15, 5, 16, 7, 8] (by decide +kernel) (by decide +kernel)
set_option maxRecDepth 20000 in
theorem gJ0_indexOf_7cf53_J0_length_8abf5 : GoodIn wsJ0_indexOf_7cf53 (wsV RJ0 505 RJ0 yJ0_length_8abf5 wsJ0_length_8abf5) := goodIn_app (goodIn_of _ (by decide +kernel)) ggJ0_indexOf_7cf53_J0_length_8abf5
set_option maxRecDepth 20000 in
theorem ggJ0_indexOf_7cf53_J1_indexOf_4cfef : GoodIn wsJ0_indexOf_7cf53 wsJ1_indexOf_4cfef := goodIn_r _ [20, 21, 22, 23, 24, 25, 26, 27, 28, 29, 19, 30, 31, 32, 33] (by decide +kernel) (by decide +kernel)
set_option maxRecDepth 20000 in
theorem gJ0_indexOf_7cf53_J1_indexOf_4cfef : GoodIn wsJ0_indexOf_7cf53 (va_wsS RJ0 637 yJ1_indexOf_4cfef wsJ1_indexOf_4cfef) := goodIn_app (goodIn_of _ (by decide +kernel)) ggJ0_indexOf_7cf53_J1_indexOf_4cfef
set_option maxRecDepth 20000 in
theorem ggJ0_indexOf_7cf53_J2_indexOf_4cfef : GoodIn wsJ0_indexOf_7cf53 wsJ2_indexOf_4cfef := goodIn_r _ [37, 38, 22, 23, 24, 39, 26, 27, 40, 41, 42, 36, 43, 44, 45, 46, 47, 48, 49, 50, 51, 5, 52, 53, 54, 55, 56, 57, 58, 59, 60, 61, 62, 63, 64, 65, 66, 67, 68, 69, 70, 71, 72, 73, 74, 75, 76, 77, 78, 79, 80, 81] (by decide +kernel) (by decide +kernel)
set_option maxRecDepth 20000 in
theorem gJ0_indexOf_7cf53_J2_indexOf_4cfef : GoodIn wsJ0_indexOf_7cf53 (va_wsS RJ0 640 yJ2_indexOf_4cfef wsJ2_indexOf_4cfef) := goodIn_app (goodIn_of _ (by decide +kernel)) ggJ0_indexOf_7cf53_J2_indexOf_4cfef
theorem dJ0_indexOf_7cf53_0 : decode cJ0_indexOf_7cf53 0 = .ok (.aload_n 0, 1) := by decide +kernel
theorem dJ0_indexOf_7cf53_1 : decode cJ0_indexOf_7cf53 1 = .ok (.invokevirtual 492, 3) := by decide +kernel
theorem dJ0_indexOf_7cf53_4 : decode cJ0_indexOf_7cf53 4 = .ok (.ifCond .eq 19, 3) := by decide +kernel
theorem dJ0_indexOf_7cf53_7 : decode cJ0_indexOf_7cf53 7 = .ok (.aload_n 0, 1) := by decide +kernel
theorem dJ0_indexOf_7cf53_8 : decode cJ0_indexOf_7cf53 8 = .ok (.getfield 9, 3) := by decide +kernel
theorem dJ0_indexOf_7cf53_11 : decode cJ0_indexOf_7cf53 11 = .ok (.iload_n 1, 1) := by decide +kernel
theorem dJ0_indexOf_7cf53_12 : decode cJ0_indexOf_7cf53 12 = .ok (.iload_n 2, 1) := by decide +kernel
theorem dJ0_indexOf_7cf53_13 : decode cJ0_indexOf_7cf53 13 = .ok (.aload_n 0, 1) := by decide +kernel
theorem dJ0_indexOf_7cf53_14 : decode cJ0_indexOf_7cf53 14 = .ok (.invokevirtual 505, 3) := by decide +kernel
theorem dJ0_indexOf_7cf53_17 : decode cJ0_indexOf_7cf53 17 = .ok (.invokestatic 637, 3) := by decide +kernel
theorem dJ0_indexOf_7cf53_20 : decode cJ0_indexOf_7cf53 20 = .ok (.goto 16, 3) := by decide +kernel
theorem dJ0_indexOf_7cf53_23 : decode cJ0_indexOf_7cf53 23 = .ok (.aload_n 0, 1) := by decide +kernel
theorem dJ0_indexOf_7cf53_24 : decode cJ0_indexOf_7cf53 24 = .ok (.getfield 9, 3) := by decide +kernel
theorem dJ0_indexOf_7cf53_27 : decode cJ0_indexOf_7cf53 27 = .ok (.iload_n 1, 1) := by decide +kernel
theorem dJ0_indexOf_7cf53_28 : decode cJ0_indexOf_7cf53 28 = .ok (.iload_n 2, 1) := by decide +kernel
theorem dJ0_indexOf_7cf53_29 : decode cJ0_indexOf_7cf53 29 = .ok (.aload_n 0, 1) := by decide +kernel
theorem dJ0_indexOf_7cf53_30 : decode cJ0_indexOf_7cf53 30 = .ok (.invokevirtual 505, 3) := by decide +kernel
theorem dJ0_indexOf_7cf53_33 : decode cJ0_indexOf_7cf53 33 = .ok (.invokestatic 640, 3) := by decide +kernel
theorem dJ0_indexOf_7cf53_36 : decode cJ0_indexOf_7cf53 36 = .ok (.ireturn, 1) := by decide +kernel
theorem dJ0_coder_7d493_0 : decode cJ0_coder_7d493 0 = .ok (.getstatic 38, 3) := by decide +kernel
theorem dJ0_coder_7d493_3 : decode cJ0_coder_7d493 3 = .ok (.ifCond .eq 10, 3) := by decide +kernel
theorem dJ0_coder_7d493_6 : decode cJ0_coder_7d493 6 = .ok (.aload_n 0, 1) := by decide +kernel
theorem dJ0_coder_7d493_7 : decode cJ0_coder_7d493 7 = .ok (.getfield 15, 3) := by decide +kernel
theorem dJ0_coder_7d493_10 : decode cJ0_coder_7d493 10 = .ok (.goto 4, 3) := by decide +kernel
theorem dJ0_coder_7d493_13 : decode cJ0_coder_7d493 13 = .ok (.iconst 1, 1) := by decide +kernel
theorem dJ0_coder_7d493_14 : decode cJ0_coder_7d493 14 = .ok (.ireturn, 1) := by decide +kernel
theorem dJ0_isLatin1_aae02_0 : decode cJ0_isLatin1_aae02 0 = .ok (.getstatic 38, 3) := by decide +kernel
theorem dJ0_isLatin1_aae02_3 : decode cJ0_isLatin1_aae02 3 = .ok (.ifCond .eq 14, 3) := by decide +kernel
theorem dJ0_isLatin1_aae02_6 : decode cJ0_isLatin1_aae02 6 = .ok (.aload_n 0, 1) := by decide +kernel
theorem dJ0_isLatin1_aae02_7 : decode cJ0_isLatin1_aae02 7 = .ok (.getfield 15, 3) := by decide +kernel
theorem dJ0_isLatin1_aae02_10 : decode cJ0_isLatin1_aae02 10 = .ok (.ifCond .ne 7, 3) := by decide +kernel
theorem dJ0_isLatin1_aae02_13 : decode cJ0_isLatin1_aae02 13 = .ok (.iconst 1, 1) := by decide +kernel
theorem dJ0_isLatin1_aae02_14 : decode cJ0_isLatin1_aae02 14 = .ok (.goto 4, 3) := by decide +kernel
theorem dJ0_isLatin1_aae02_17 : decode cJ0_isLatin1_aae02 17 = .ok (.iconst 0, 1) := by decide +kernel
theorem dJ0_isLatin1_aae02_18 : decode cJ0_isLatin1_aae02 18 = .ok (.ireturn, 1) := by decide +kernel
set_option maxRecDepth 20000 in
theorem ggJ0_checkBoundsBeginEnd_23922_J3_checkFromToIndex_8c36e : GoodIn wsJ0_checkBoundsBeginEnd_23922 wsJ3_checkFromToIndex_8c36e := goodIn_r _ [5] (by decide +kernel) (by decide +kernel)
set_option maxRecDepth 20000 in
theorem gJ0_checkBoundsBeginEnd_23922_J3_checkFromToIndex_8c36e : GoodIn wsJ0_checkBoundsBeginEnd_23922 (va_wsS RJ0 1062 yJ3_checkFromToIndex_8c36e wsJ3_checkFromToIndex_8c36e) := goodIn_app (goodIn_of _ (by decide +kernel)) ggJ0_checkBoundsBeginEnd_23922_J3_checkFromToIndex_8c36e
theorem dJ0_checkBoundsBeginEnd_23922_0 : decode cJ0_checkBoundsBeginEnd_23922 0 = .ok (.iload_n 0, 1) := by decide +kernel
theorem dJ0_checkBoundsBeginEnd_23922_1 : decode cJ0_checkBoundsBeginEnd_23922 1 = .ok (.iload_n 1, 1) := by decide +kernel
theorem dJ0_checkBoundsBeginEnd_23922_2 : decode cJ0_checkBoundsBeginEnd_23922 2 = .ok (.iload_n 2, 1) := by decide +kernel
theorem dJ0_checkBoundsBeginEnd_23922_3 : decode cJ0_checkBoundsBeginEnd_23922 3 = .ok (.getstatic 1053, 3) := by decide +kernel
theorem dJ0_checkBoundsBeginEnd_23922_6 : decode cJ0_checkBoundsBeginEnd_23922 6 = .ok (.invokestatic 1062, 3) := by decide +kernel
theorem dJ0_checkBoundsBeginEnd_23922_9 : decode cJ0_checkBoundsBeginEnd_23922 9 = .ok (.pop, 1) := by decide +kernel
theorem dJ0_checkBoundsBeginEnd_23922_10 : decode cJ0_checkBoundsBeginEnd_23922 10 = .ok (.return_, 1) := by decide +kernel
theorem dJ1_canEncode_9a6ad_0 : decode cJ1_canEncode_9a6ad 0 = .ok (.iload_n 0, 1) := by decide +kernel
theorem dJ1_canEncode_9a6ad_1 : decode cJ1_canEncode_9a6ad 1 = .ok (.ifCond .lt 14, 3) := by decide +kernel
theorem dJ1_canEncode_9a6ad_4 : decode cJ1_canEncode_9a6ad 4 = .ok (.iload_n 0, 1) := by decide +kernel
theorem dJ1_canEncode_9a6ad_5 : decode cJ1_canEncode_9a6ad 5 = .ok (.sipush 255, 3) := by decide +kernel
theorem dJ1_canEncode_9a6ad_8 : decode cJ1_canEncode_9a6ad 8 = .ok (.if_icmp .gt 7, 3) := by decide +kernel
theorem dJ1_canEncode_9a6ad_11 : decode cJ1_canEncode_9a6ad 11 = .ok (.iconst 1, 1) := by decide +kernel
theorem dJ1_canEncode_9a6ad_12 : decode cJ1_canEncode_9a6ad 12 = .ok (.goto 4, 3) := by decide +kernel
theorem dJ1_canEncode_9a6ad_15 : decode cJ1_canEncode_9a6ad 15 = .ok (.iconst 0, 1) := by decide +kernel
theorem dJ1_canEncode_9a6ad_16 : decode cJ1_canEncode_9a6ad 16 = .ok (.ireturn, 1) := by decide +kernel
set_option maxRecDepth 20000 in
theorem ggJ1_indexOf_4cfef_J1_canEncode_9a6ad : GoodIn wsJ1_indexOf_4cfef wsJ1_canEncode_9a6ad := goodIn_r _ [11] (by decide +kernel) (by decide +kernel)
set_option maxRecDepth 20000 in
theorem gJ1_indexOf_4cfef_J1_canEncode_9a6ad : GoodIn wsJ1_indexOf_4cfef (va_wsS RJ1 88 yJ1_canEncode_9a6ad wsJ1_canEncode_9a6ad) := goodIn_app (goodIn_of _ (by decide +kernel)) ggJ1_indexOf_4cfef_J1_canEncode_9a6ad
set_option maxRecDepth 20000 in
theorem ggJ1_indexOf_4cfef_J1_indexOfChar_4cfef : GoodIn wsJ1_indexOf_4cfef wsJ1_indexOfChar_4cfef := goodIn_r _ [14] (by decide +kernel) (by decide +kernel)
set_option maxRecDepth 20000 in
theorem gJ1_indexOf_4cfef_J1_indexOfChar_4cfef : GoodIn wsJ1_indexOf_4cfef (va_wsS RJ1 95 yJ1_indexOfChar_4cfef wsJ1_indexOfChar_4cfef) := goodIn_app (goodIn_of _ (by decide +kernel)) ggJ1_indexOf_4cfef_J1_indexOfChar_4cfef
theorem dJ1_indexOf_4cfef_0 : decode cJ1_indexOf_4cfef 0 = .ok (.iload_n 1, 1) := by decide +kernel
theorem dJ1_indexOf_4cfef_1 : decode cJ1_indexOf_4cfef 1 = .ok (.invokestatic 88, 3) := by decide +kernel
theorem dJ1_indexOf_4cfef_4 : decode cJ1_indexOf_4cfef 4 = .ok (.ifCond .ne 5, 3) := by decide +kernel
theorem dJ1_indexOf_4cfef_7 : decode cJ1_indexOf_4cfef 7 = .ok (.iconst (-1), 1) := by decide +kernel
theorem dJ1_indexOf_4cfef_8 : decode cJ1_indexOf_4cfef 8 = .ok (.ireturn, 1) := by decide +kernel
theorem dJ1_indexOf_4cfef_9 : decode cJ1_indexOf_4cfef 9 = .ok (.iload_n 2, 1) := by decide +kernel
theorem dJ1_indexOf_4cfef_10 : decode cJ1_indexOf_4cfef 10 = .ok (.iconst 0, 1) := by decide +kernel
theorem dJ1_indexOf_4cfef_11 : decode cJ1_indexOf_4cfef 11 = .ok (.invokestatic 92, 3) := by decide +kernel
theorem dJ1_indexOf_4cfef_14 : decode cJ1_indexOf_4cfef 14 = .ok (.istore_n 2, 1) := by decide +kernel
theorem dJ1_indexOf_4cfef_15 : decode cJ1_indexOf_4cfef 15 = .ok (.iload_n 3, 1) := by decide +kernel
theorem dJ1_indexOf_4cfef_16 : decode cJ1_indexOf_4cfef 16 = .ok (.aload_n 0, 1) := by decide +kernel
theorem dJ1_indexOf_4cfef_17 : decode cJ1_indexOf_4cfef 17 = .ok (.arraylength, 1) := by decide +kernel
theorem dJ1_indexOf_4cfef_18 : decode cJ1_indexOf_4cfef 18 = .ok (.invokestatic 38, 3) := by decide +kernel
theorem dJ1_indexOf_4cfef_21 : decode cJ1_indexOf_4cfef 21 = .ok (.istore_n 3, 1) := by decide +kernel
theorem dJ1_indexOf_4cfef_22 : decode cJ1_indexOf_4cfef 22 = .ok (.iload_n 2, 1) := by decide +kernel
theorem dJ1_indexOf_4cfef_23 : decode cJ1_indexOf_4cfef 23 = .ok (.iload_n 3, 1) := by decide +kernel
theorem dJ1_indexOf_4cfef_24 : decode cJ1_indexOf_4cfef 24 = .ok (.if_icmp .lt 5, 3) := by decide +kernel
theorem dJ1_indexOf_4cfef_27 : decode cJ1_indexOf_4cfef 27 = .ok (.iconst (-1), 1) := by decide +kernel
theorem dJ1_indexOf_4cfef_28 : decode cJ1_indexOf_4cfef 28 = .ok (.ireturn, 1) := by decide +kernel
theorem dJ1_indexOf_4cfef_29 : decode cJ1_indexOf_4cfef 29 = .ok (.aload_n 0, 1) := by decide +kernel
theorem dJ1_indexOf_4cfef_30 : decode cJ1_indexOf_4cfef 30 = .ok (.iload_n 1, 1) := by decide +kernel
theorem dJ1_indexOf_4cfef_31 : decode cJ1_indexOf_4cfef 31 = .ok (.iload_n 2, 1) := by decide +kernel
theorem dJ1_indexOf_4cfef_32 : decode cJ1_indexOf_4cfef 32 = .ok (.iload_n 3, 1) := by decide +kernel
theorem dJ1_indexOf_4cfef_33 : decode cJ1_indexOf_4cfef 33 = .ok (.invokestatic 95, 3) := by decide +kernel
theorem dJ1_indexOf_4cfef_36 : decode cJ1_indexOf_4cfef 36 = .ok (.ireturn, 1) := by decide +kernel
theorem dJ1_indexOfChar_4cfef_0 : decode cJ1_indexOfChar_4cfef 0 = .ok (.iload_n 1, 1) := by decide +kernel
theorem dJ1_indexOfChar_4cfef_1 : decode cJ1_indexOfChar_4cfef 1 = .ok (.i2b, 1) := by decide +kernel
theorem dJ1_indexOfChar_4cfef_2 : decode cJ1_indexOfChar_4cfef 2 = .ok (.istore 4, 2) := by decide +kernel
theorem dJ1_indexOfChar_4cfef_4 : decode cJ1_indexOfChar_4cfef 4 = .ok (.iload_n 2, 1) := by decide +kernel
theorem dJ1_indexOfChar_4cfef_5 : decode cJ1_indexOfChar_4cfef 5 = .ok (.istore 5, 2) := by decide +kernel
theorem dJ1_indexOfChar_4cfef_7 : decode cJ1_indexOfChar_4cfef 7 = .ok (.iload 5, 2) := by decide +kernel
theorem dJ1_indexOfChar_4cfef_9 : decode cJ1_indexOfChar_4cfef 9 = .ok (.iload_n 3, 1) := by decide +kernel
theorem dJ1_indexOfChar_4cfef_10 : decode cJ1_indexOfChar_4cfef 10 = .ok (.if_icmp .ge 21, 3) := by decide +kernel
theorem dJ1_indexOfChar_4cfef_13 : decode cJ1_indexOfChar_4cfef 13 = .ok (.aload_n 0, 1) := by decide +kernel
theorem dJ1_indexOfChar_4cfef_14 : decode cJ1_indexOfChar_4cfef 14 = .ok (.iload 5, 2) := by decide +kernel
theorem dJ1_indexOfChar_4cfef_16 : decode cJ1_indexOfChar_4cfef 16 = .ok (.baload, 1) := by decide +kernel
theorem dJ1_indexOfChar_4cfef_17 : decode cJ1_indexOfChar_4cfef 17 = .ok (.iload 4, 2) := by decide +kernel
theorem dJ1_indexOfChar_4cfef_19 : decode cJ1_indexOfChar_4cfef 19 = .ok (.if_icmp .ne 6, 3) := by decide +kernel
theorem dJ1_indexOfChar_4cfef_22 : decode cJ1_indexOfChar_4cfef 22 = .ok (.iload 5, 2) := by decide +kernel
theorem dJ1_indexOfChar_4cfef_24 : decode cJ1_indexOfChar_4cfef 24 = .ok (.ireturn, 1) := by decide +kernel
theorem dJ1_indexOfChar_4cfef_25 : decode cJ1_indexOfChar_4cfef 25 = .ok (.iinc 5 1, 3) := by decide +kernel
theorem dJ1_indexOfChar_4cfef_28 : decode cJ1_indexOfChar_4cfef 28 = .ok (.goto (-21), 3) := by decide +kernel
theorem dJ1_indexOfChar_4cfef_31 : decode cJ1_indexOfChar_4cfef 31 = .ok (.iconst (-1), 1) := by decide +kernel
theorem dJ1_indexOfChar_4cfef_32 : decode cJ1_indexOfChar_4cfef 32 = .ok (.ireturn, 1) := by decide +kernel
set_option maxRecDepth 20000 in
theorem ggJ2_getChar_3b067_J2_length_9d52b : GoodIn wsJ2_getChar_3b067 wsJ2_length_9d52b := goodIn_r _ [7] (by decide +kernel) (by decide +kernel)
set_option maxRecDepth 20000 in
theorem gJ2_getChar_3b067_J2_length_9d52b : GoodIn wsJ2_getChar_3b067 (va_wsS RJ2 48 yJ2_length_9d52b wsJ2_length_9d52b) := goodIn_app (goodIn_of _ (by decide +kernel)) ggJ2_getChar_3b067_J2_length_9d52b
theorem dJ2_getChar_3b067_0 : decode cJ2_getChar_3b067 0 = .ok (.getstatic 44, 3) := by decide +kernel
theorem dJ2_getChar_3b067_3 : decode cJ2_getChar_3b067 3 = .ok (.ifCond .ne 25, 3) := by decide +kernel
theorem dJ2_getChar_3b067_6 : decode cJ2_getChar_3b067 6 = .ok (.iload_n 1, 1) := by decide +kernel
theorem dJ2_getChar_3b067_7 : decode cJ2_getChar_3b067 7 = .ok (.ifCond .lt 11, 3) := by decide +kernel
theorem dJ2_getChar_3b067_10 : decode cJ2_getChar_3b067 10 = .ok (.iload_n 1, 1) := by decide +kernel
theorem dJ2_getChar_3b067_11 : decode cJ2_getChar_3b067 11 = .ok (.aload_n 0, 1) := by decide +kernel
theorem dJ2_getChar_3b067_12 : decode cJ2_getChar_3b067 12 = .ok (.invokestatic 48, 3) := by decide +kernel
theorem dJ2_getChar_3b067_15 : decode cJ2_getChar_3b067 15 = .ok (.if_icmp .lt 13, 3) := by decide +kernel
theorem dJ2_getChar_3b067_18 : decode cJ2_getChar_3b067 18 = .ok (.new 52, 3) := by decide +kernel
theorem dJ2_getChar_3b067_21 : decode cJ2_getChar_3b067 21 = .ok (.dup, 1) := by decide +kernel
theorem dJ2_getChar_3b067_22 : decode cJ2_getChar_3b067 22 = .ok (.ldc 54, 2) := by decide +kernel
theorem dJ2_getChar_3b067_24 : decode cJ2_getChar_3b067 24 = .ok (.invokespecial 56, 3) := by decide +kernel
theorem dJ2_getChar_3b067_27 : decode cJ2_getChar_3b067 27 = .ok (.athrow, 1) := by decide +kernel
theorem dJ2_getChar_3b067_28 : decode cJ2_getChar_3b067 28 = .ok (.iload_n 1, 1) := by decide +kernel
theorem dJ2_getChar_3b067_29 : decode cJ2_getChar_3b067 29 = .ok (.iconst 1, 1) := by decide +kernel
theorem dJ2_getChar_3b067_30 : decode cJ2_getChar_3b067 30 = .ok (.ishl, 1) := by decide +kernel
theorem dJ2_getChar_3b067_31 : decode cJ2_getChar_3b067 31 = .ok (.istore_n 1, 1) := by decide +kernel
theorem dJ2_getChar_3b067_32 : decode cJ2_getChar_3b067 32 = .ok (.aload_n 0, 1) := by decide +kernel
theorem dJ2_getChar_3b067_33 : decode cJ2_getChar_3b067 33 = .ok (.iload_n 1, 1) := by decide +kernel
theorem dJ2_getChar_3b067_34 : decode cJ2_getChar_3b067 34 = .ok (.iinc 1 1, 3) := by decide +kernel
theorem dJ2_getChar_3b067_37 : decode cJ2_getChar_3b067 37 = .ok (.baload, 1) := by decide +kernel
theorem dJ2_getChar_3b067_38 : decode cJ2_getChar_3b067 38 = .ok (.sipush 255, 3) := by decide +kernel
theorem dJ2_getChar_3b067_41 : decode cJ2_getChar_3b067 41 = .ok (.iand, 1) := by decide +kernel
theorem dJ2_getChar_3b067_42 : decode cJ2_getChar_3b067 42 = .ok (.getstatic 59, 3) := by decide +kernel
theorem dJ2_getChar_3b067_45 : decode cJ2_getChar_3b067 45 = .ok (.ishl, 1) := by decide +kernel
theorem dJ2_getChar_3b067_46 : decode cJ2_getChar_3b067 46 = .ok (.aload_n 0, 1) := by decide +kernel
theorem dJ2_getChar_3b067_47 : decode cJ2_getChar_3b067 47 = .ok (.iload_n 1, 1) := by decide +kernel
theorem dJ2_getChar_3b067_48 : decode cJ2_getChar_3b067 48 = .ok (.baload, 1) := by decide +kernel
theorem dJ2_getChar_3b067_49 : decode cJ2_getChar_3b067 49 = .ok (.sipush 255, 3) := by decide +kernel
theorem dJ2_getChar_3b067_52 : decode cJ2_getChar_3b067 52 = .ok (.iand, 1) := by decide +kernel
theorem dJ2_getChar_3b067_53 : decode cJ2_getChar_3b067 53 = .ok (.getstatic 63, 3) := by decide +kernel
theorem dJ2_getChar_3b067_56 : decode cJ2_getChar_3b067 56 = .ok (.ishl, 1) := by decide +kernel
theorem dJ2_getChar_3b067_57 : decode cJ2_getChar_3b067 57 = .ok (.ior, 1) := by decide +kernel
theorem dJ2_getChar_3b067_58 : decode cJ2_getChar_3b067 58 = .ok (.i2c, 1) := by decide +kernel
theorem dJ2_getChar_3b067_59 : decode cJ2_getChar_3b067 59 = .ok (.ireturn, 1) := by decide +kernel
theorem dJ2_length_9d52b_0 : decode cJ2_length_9d52b 0 = .ok (.aload_n 0, 1) := by decide +kernel
theorem dJ2_length_9d52b_1 : decode cJ2_length_9d52b 1 = .ok (.arraylength, 1) := by decide +kernel
theorem dJ2_length_9d52b_2 : decode cJ2_length_9d52b 2 = .ok (.iconst 1, 1) := by decide +kernel
theorem dJ2_length_9d52b_3 : decode cJ2_length_9d52b 3 = .ok (.ishr, 1) := by decide +kernel
theorem dJ2_length_9d52b_4 : decode cJ2_length_9d52b 4 = .ok (.ireturn, 1) := by decide +kernel
set_option maxRecDepth 20000 in
theorem ggJ2_indexOf_4cfef_J2_indexOfChar_4cfef : GoodIn wsJ2_indexOf_4cfef wsJ2_indexOfChar_4cfef := goodIn_r _ [12, 13, 14, 11, 15, 16, 17, 18, 19, 20, 21, 22, 23, 24, 25, 26, 27, 28, 29, 30, 31, 32, 33, 34, 35, 36] (by decide +kernel) (by decide +kernel)
set_option maxRecDepth 20000 in
theorem gJ2_indexOf_4cfef_J2_indexOfChar_4cfef : GoodIn wsJ2_indexOf_4cfef (va_wsS RJ2 228 yJ2_indexOfChar_4cfef wsJ2_indexOfChar_4cfef) := goodIn_app (goodIn_of _ (by decide +kernel)) ggJ2_indexOf_4cfef_J2_indexOfChar_4cfef
set_option maxRecDepth 20000 in
theorem ggJ2_indexOf_4cfef_J2_indexOfSupplementary_4cfef : GoodIn wsJ2_indexOf_4cfef wsJ2_indexOfSupplementary_4cfef := goodIn_r _ [39, 40, 41, 42, 43, 44, 45, 46, 47, 48, 49, 50, 51, 13, 14, 11, 15, 16, 17, 18, 19, 20, 21, 22, 23, 24, 25, 26, 27, 31, 32, 33, 34, 35, 36] (by decide +kernel) (by decide +kernel)
set_option maxRecDepth 20000 in
theorem gJ2_indexOf_4cfef_J2_indexOfSupplementary_4cfef : GoodIn wsJ2_indexOf_4cfef (va_wsS RJ2 232 yJ2_indexOfSupplementary_4cfef wsJ2_indexOfSupplementary_4cfef) := goodIn_app (goodIn_of _ (by decide +kernel)) ggJ2_indexOf_4cfef_J2_indexOfSupplementary_4cfef
theorem dJ2_indexOf_4cfef_0 : decode cJ2_indexOf_4cfef 0 = .ok (.iload_n 2, 1) := by decide +kernel
theorem dJ2_indexOf_4cfef_1 : decode cJ2_indexOf_4cfef 1 = .ok (.iconst 0, 1) := by decide +kernel
theorem dJ2_indexOf_4cfef_2 : decode cJ2_indexOf_4cfef 2 = .ok (.invokestatic 224, 3) := by decide +kernel
theorem dJ2_indexOf_4cfef_5 : decode cJ2_indexOf_4cfef 5 = .ok (.istore_n 2, 1) := by decide +kernel
theorem dJ2_indexOf_4cfef_6 : decode cJ2_indexOf_4cfef 6 = .ok (.iload_n 3, 1) := by decide +kernel
theorem dJ2_indexOf_4cfef_7 : decode cJ2_indexOf_4cfef 7 = .ok (.aload_n 0, 1) := by decide +kernel
theorem dJ2_indexOf_4cfef_8 : decode cJ2_indexOf_4cfef 8 = .ok (.arraylength, 1) := by decide +kernel
theorem dJ2_indexOf_4cfef_9 : decode cJ2_indexOf_4cfef 9 = .ok (.iconst 1, 1) := by decide +kernel
theorem dJ2_indexOf_4cfef_10 : decode cJ2_indexOf_4cfef 10 = .ok (.ishr, 1) := by decide +kernel
theorem dJ2_indexOf_4cfef_11 : decode cJ2_indexOf_4cfef 11 = .ok (.invokestatic 183, 3) := by decide +kernel
theorem dJ2_indexOf_4cfef_14 : decode cJ2_indexOf_4cfef 14 = .ok (.istore_n 3, 1) := by decide +kernel
theorem dJ2_indexOf_4cfef_15 : decode cJ2_indexOf_4cfef 15 = .ok (.iload_n 2, 1) := by decide +kernel
theorem dJ2_indexOf_4cfef_16 : decode cJ2_indexOf_4cfef 16 = .ok (.iload_n 3, 1) := by decide +kernel
theorem dJ2_indexOf_4cfef_17 : decode cJ2_indexOf_4cfef 17 = .ok (.if_icmp .lt 5, 3) := by decide +kernel
theorem dJ2_indexOf_4cfef_20 : decode cJ2_indexOf_4cfef 20 = .ok (.iconst (-1), 1) := by decide +kernel
theorem dJ2_indexOf_4cfef_21 : decode cJ2_indexOf_4cfef 21 = .ok (.ireturn, 1) := by decide +kernel
theorem dJ2_indexOf_4cfef_22 : decode cJ2_indexOf_4cfef 22 = .ok (.iload_n 1, 1) := by decide +kernel
theorem dJ2_indexOf_4cfef_23 : decode cJ2_indexOf_4cfef 23 = .ok (.ldc 227, 2) := by decide +kernel
theorem dJ2_indexOf_4cfef_25 : decode cJ2_indexOf_4cfef 25 = .ok (.if_icmp .ge 11, 3) := by decide +kernel
theorem dJ2_indexOf_4cfef_28 : decode cJ2_indexOf_4cfef 28 = .ok (.aload_n 0, 1) := by decide +kernel
theorem dJ2_indexOf_4cfef_29 : decode cJ2_indexOf_4cfef 29 = .ok (.iload_n 1, 1) := by decide +kernel
theorem dJ2_indexOf_4cfef_30 : decode cJ2_indexOf_4cfef 30 = .ok (.iload_n 2, 1) := by decide +kernel
theorem dJ2_indexOf_4cfef_31 : decode cJ2_indexOf_4cfef 31 = .ok (.iload_n 3, 1) := by decide +kernel
theorem dJ2_indexOf_4cfef_32 : decode cJ2_indexOf_4cfef 32 = .ok (.invokestatic 228, 3) := by decide +kernel
theorem dJ2_indexOf_4cfef_35 : decode cJ2_indexOf_4cfef 35 = .ok (.ireturn, 1) := by decide +kernel
theorem dJ2_indexOf_4cfef_36 : decode cJ2_indexOf_4cfef 36 = .ok (.aload_n 0, 1) := by decide +kernel
theorem dJ2_indexOf_4cfef_37 : decode cJ2_indexOf_4cfef 37 = .ok (.iload_n 1, 1) := by decide +kernel
theorem dJ2_indexOf_4cfef_38 : decode cJ2_indexOf_4cfef 38 = .ok (.iload_n 2, 1) := by decide +kernel
theorem dJ2_indexOf_4cfef_39 : decode cJ2_indexOf_4cfef 39 = .ok (.iload_n 3, 1) := by decide +kernel
theorem dJ2_indexOf_4cfef_40 : decode cJ2_indexOf_4cfef 40 = .ok (.invokestatic 232, 3) := by decide +kernel
theorem dJ2_indexOf_4cfef_43 : decode cJ2_indexOf_4cfef 43 = .ok (.ireturn, 1) := by decide +kernel
set_option maxRecDepth 20000 in
theorem ggJ2_indexOfChar_4cfef_J2_checkBoundsBeginEnd_d044e : GoodIn wsJ2_indexOfChar_4cfef wsJ2_checkBoundsBeginEnd_d044e := goodIn_r _ [4, 5, 6, 3, 7, 8, 9, 10, 11, 12, 13, 14, 15, 16] (by decide +kernel) (by decide +kernel)
set_option maxRecDepth 20000 in
theorem gJ2_indexOfChar_4cfef_J2_checkBoundsBeginEnd_d044e : GoodIn wsJ2_indexOfChar_4cfef (va_wsS RJ2 96 yJ2_checkBoundsBeginEnd_d044e wsJ2_checkBoundsBeginEnd_d044e) := goodIn_app (goodIn_of _ (by decide +kernel)) ggJ2_indexOfChar_4cfef_J2_checkBoundsBeginEnd_d044e
set_option maxRecDepth 20000 in
theorem ggJ2_indexOfChar_4cfef_J2_indexOfCharUnsafe_4cfef : GoodIn wsJ2_indexOfChar_4cfef wsJ2_indexOfCharUnsafe_4cfef := goodIn_r _ [19, 20, 21, 3, 22, 23, 24, 25, 5, 6, 7] (by decide +kernel) (by decide +kernel)
set_option maxRecDepth 20000 in
theorem gJ2_indexOfChar_4cfef_J2_indexOfCharUnsafe_4cfef : GoodIn wsJ2_indexOfChar_4cfef (va_wsS RJ2 244 yJ2_indexOfCharUnsafe_4cfef wsJ2_indexOfCharUnsafe_4cfef) := goodIn_app (goodIn_of _ (by decide +kernel)) ggJ2_indexOfChar_4cfef_J2_indexOfCharUnsafe_4cfef
theorem dJ2_indexOfChar_4cfef_0 : decode cJ2_indexOfChar_4cfef 0 = .ok (.iload_n 2, 1) := by decide +kernel
theorem dJ2_indexOfChar_4cfef_1 : decode cJ2_indexOfChar_4cfef 1 = .ok (.iload_n 3, 1) := by decide +kernel
theorem dJ2_indexOfChar_4cfef_2 : decode cJ2_indexOfChar_4cfef 2 = .ok (.aload_n 0, 1) := by decide +kernel
theorem dJ2_indexOfChar_4cfef_3 : decode cJ2_indexOfChar_4cfef 3 = .ok (.invokestatic 96, 3) := by decide +kernel
theorem dJ2_indexOfChar_4cfef_6 : decode cJ2_indexOfChar_4cfef 6 = .ok (.aload_n 0, 1) := by decide +kernel
theorem dJ2_indexOfChar_4cfef_7 : decode cJ2_indexOfChar_4cfef 7 = .ok (.iload_n 1, 1) := by decide +kernel
theorem dJ2_indexOfChar_4cfef_8 : decode cJ2_indexOfChar_4cfef 8 = .ok (.iload_n 2, 1) := by decide +kernel
theorem dJ2_indexOfChar_4cfef_9 : decode cJ2_indexOfChar_4cfef 9 = .ok (.iload_n 3, 1) := by decide +kernel
theorem dJ2_indexOfChar_4cfef_10 : decode cJ2_indexOfChar_4cfef 10 = .ok (.invokestatic 244, 3) := by decide +kernel
theorem dJ2_indexOfChar_4cfef_13 : decode cJ2_indexOfChar_4cfef 13 = .ok (.ireturn, 1) := by decide +kernel
set_option maxRecDepth 20000 in
theorem ggJ2_indexOfCharUnsafe_4cfef_J2_getChar_3b067 : GoodIn wsJ2_indexOfCharUnsafe_4cfef wsJ2_getChar_3b067 := goodIn_r _ [4, 5, 6, 7, 8, 9, 3, 10] (by decide +kernel) (by decide +kernel)
set_option maxRecDepth 20000 in
theorem gJ2_indexOfCharUnsafe_4cfef_J2_getChar_3b067 : GoodIn wsJ2_indexOfCharUnsafe_4cfef (va_wsS RJ2 71 yJ2_getChar_3b067 wsJ2_getChar_3b067) := goodIn_app (goodIn_of _ (by decide +kernel)) ggJ2_indexOfCharUnsafe_4cfef_J2_getChar_3b067
theorem dJ2_indexOfCharUnsafe_4cfef_0 : decode cJ2_indexOfCharUnsafe_4cfef 0 = .ok (.iload_n 2, 1) := by decide +kernel
theorem dJ2_indexOfCharUnsafe_4cfef_1 : decode cJ2_indexOfCharUnsafe_4cfef 1 = .ok (.istore 4, 2) := by decide +kernel
theorem dJ2_indexOfCharUnsafe_4cfef_3 : decode cJ2_indexOfCharUnsafe_4cfef 3 = .ok (.iload 4, 2) := by decide +kernel
theorem dJ2_indexOfCharUnsafe_4cfef_5 : decode cJ2_indexOfCharUnsafe_4cfef 5 = .ok (.iload_n 3, 1) := by decide +kernel
theorem dJ2_indexOfCharUnsafe_4cfef_6 : decode cJ2_indexOfCharUnsafe_4cfef 6 = .ok (.if_icmp .ge 22, 3) := by decide +kernel
theorem dJ2_indexOfCharUnsafe_4cfef_9 : decode cJ2_indexOfCharUnsafe_4cfef 9 = .ok (.aload_n 0, 1) := by decide +kernel
theorem dJ2_indexOfCharUnsafe_4cfef_10 : decode cJ2_indexOfCharUnsafe_4cfef 10 = .ok (.iload 4, 2) := by decide +kernel
theorem dJ2_indexOfCharUnsafe_4cfef_12 : decode cJ2_indexOfCharUnsafe_4cfef 12 = .ok (.invokestatic 71, 3) := by decide +kernel
theorem dJ2_indexOfCharUnsafe_4cfef_15 : decode cJ2_indexOfCharUnsafe_4cfef 15 = .ok (.iload_n 1, 1) := by decide +kernel
theorem dJ2_indexOfCharUnsafe_4cfef_16 : decode cJ2_indexOfCharUnsafe_4cfef 16 = .ok (.if_icmp .ne 6, 3) := by decide +kernel
theorem dJ2_indexOfCharUnsafe_4cfef_19 : decode cJ2_indexOfCharUnsafe_4cfef 19 = .ok (.iload 4, 2) := by decide +kernel
theorem dJ2_indexOfCharUnsafe_4cfef_21 : decode cJ2_indexOfCharUnsafe_4cfef 21 = .ok (.ireturn, 1) := by decide +kernel
theorem dJ2_indexOfCharUnsafe_4cfef_22 : decode cJ2_indexOfCharUnsafe_4cfef 22 = .ok (.iinc 4 1, 3) := by decide +kernel
theorem dJ2_indexOfCharUnsafe_4cfef_25 : decode cJ2_indexOfCharUnsafe_4cfef 25 = .ok (.goto (-22), 3) := by decide +kernel
theorem dJ2_indexOfCharUnsafe_4cfef_28 : decode cJ2_indexOfCharUnsafe_4cfef 28 = .ok (.iconst (-1), 1) := by decide +kernel
theorem dJ2_indexOfCharUnsafe_4cfef_29 : decode cJ2_indexOfCharUnsafe_4cfef 29 = .ok (.ireturn, 1) := by decide +kernel
set_option maxRecDepth 20000 in
theorem ggJ2_indexOfSupplementary_4cfef_J11_isValidCodePoint_9a6ad : GoodIn wsJ2_indexOfSupplementary_4cfef wsJ11_isValidCodePoint_9a6ad := goodIn_r _ [4] (by decide +kernel) (by decide +kernel)
set_option maxRecDepth 20000 in
theorem gJ2_indexOfSupplementary_4cfef_J11_isValidCodePoint_9a6ad : GoodIn wsJ2_indexOfSupplementary_4cfef (va_wsS RJ2 164 yJ11_isValidCodePoint_9a6ad wsJ11_isValidCodePoint_9a6ad) := goodIn_app (goodIn_of _ (by decide +kernel)) ggJ2_indexOfSupplementary_4cfef_J11_isValidCodePoint_9a6ad
set_option maxRecDepth 20000 in
theorem ggJ2_indexOfSupplementary_4cfef_J11_highSurrogate_5068e : GoodIn wsJ2_indexOfSupplementary_4cfef wsJ11_highSurrogate_5068e := goodIn_r _ [7, 8] (by decide +kernel) (by decide +kernel)
set_option maxRecDepth 20000 in
theorem gJ2_indexOfSupplementary_4cfef_J11_highSurrogate_5068e : GoodIn wsJ2_indexOfSupplementary_4cfef (va_wsS RJ2 157 yJ11_highSurrogate_5068e wsJ11_highSurrogate_5068e) := goodIn_app (goodIn_of _ (by decide +kernel)) ggJ2_indexOfSupplementary_4cfef_J11_highSurrogate_5068e
set_option maxRecDepth 20000 in
theorem ggJ2_indexOfSupplementary_4cfef_J11_lowSurrogate_5068e : GoodIn wsJ2_indexOfSupplementary_4cfef wsJ11_lowSurrogate_5068e := goodIn_r _ [11, 12] (by decide +kernel) (by decide +kernel)
set_option maxRecDepth 20000 in
theorem gJ2_indexOfSupplementary_4cfef_J11_lowSurrogate_5068e : GoodIn wsJ2_indexOfSupplementary_4cfef (va_wsS RJ2 161 yJ11_lowSurrogate_5068e wsJ11_lowSurrogate_5068e) := goodIn_app (goodIn_of _ (by decide +kernel)) ggJ2_indexOfSupplementary_4cfef_J11_lowSurrogate_5068e
set_option maxRecDepth 20000 in
theorem ggJ2_indexOfSupplementary_4cfef_J2_checkBoundsBeginEnd_d044e : GoodIn wsJ2_indexOfSupplementary_4cfef wsJ2_checkBoundsBeginEnd_d044e := goodIn_r _ [16, 17, 18, 15, 19, 20, 21, 22, 23, 24, 25, 26, 27, 28] (by decide +kernel) (by decide +kernel)
set_option maxRecDepth 20000 in
theorem gJ2_indexOfSupplementary_4cfef_J2_checkBoundsBeginEnd_d044e : GoodIn wsJ2_indexOfSupplementary_4cfef (va_wsS RJ2 96 yJ2_checkBoundsBeginEnd_d044e wsJ2_checkBoundsBeginEnd_d044e) := goodIn_app (goodIn_of _ (by decide +kernel)) ggJ2_indexOfSupplementary_4cfef_J2_checkBoundsBeginEnd_d044e
set_option maxRecDepth 20000 in
theorem ggJ2_indexOfSupplementary_4cfef_J2_getChar_3b067 : GoodIn wsJ2_indexOfSupplementary_4cfef wsJ2_getChar_3b067 := goodIn_r _ [31, 32, 33, 34, 17, 18, 15, 19] (by decide +kernel) (by decide +kernel)
set_option maxRecDepth 20000 in
theorem gJ2_indexOfSupplementary_4cfef_J2_getChar_3b067 : GoodIn wsJ2_indexOfSupplementary_4cfef (va_wsS RJ2 71 yJ2_getChar_3b067 wsJ2_getChar_3b067) := goodIn_app (goodIn_of _ (by decide +kernel)) ggJ2_indexOfSupplementary_4cfef_J2_getChar_3b067
theorem dJ2_indexOfSupplementary_4cfef_0 : decode cJ2_indexOfSupplementary_4cfef 0 = .ok (.iload_n 1, 1) := by decide +kernel
theorem dJ2_indexOfSupplementary_4cfef_1 : decode cJ2_indexOfSupplementary_4cfef 1 = .ok (.invokestatic 164, 3) := by decide +kernel
theorem dJ2_indexOfSupplementary_4cfef_4 : decode cJ2_indexOfSupplementary_4cfef 4 = .ok (.ifCond .eq 65, 3) := by decide +kernel
theorem dJ2_indexOfSupplementary_4cfef_7 : decode cJ2_indexOfSupplementary_4cfef 7 = .ok (.iload_n 1, 1) := by decide +kernel
theorem dJ2_indexOfSupplementary_4cfef_8 : decode cJ2_indexOfSupplementary_4cfef 8 = .ok (.invokestatic 157, 3) := by decide +kernel
theorem dJ2_indexOfSupplementary_4cfef_11 : decode cJ2_indexOfSupplementary_4cfef 11 = .ok (.istore 4, 2) := by decide +kernel
theorem dJ2_indexOfSupplementary_4cfef_13 : decode cJ2_indexOfSupplementary_4cfef 13 = .ok (.iload_n 1, 1) := by decide +kernel
theorem dJ2_indexOfSupplementary_4cfef_14 : decode cJ2_indexOfSupplementary_4cfef 14 = .ok (.invokestatic 161, 3) := by decide +kernel
theorem dJ2_indexOfSupplementary_4cfef_17 : decode cJ2_indexOfSupplementary_4cfef 17 = .ok (.istore 5, 2) := by decide +kernel
theorem dJ2_indexOfSupplementary_4cfef_19 : decode cJ2_indexOfSupplementary_4cfef 19 = .ok (.iload_n 2, 1) := by decide +kernel
theorem dJ2_indexOfSupplementary_4cfef_20 : decode cJ2_indexOfSupplementary_4cfef 20 = .ok (.iload_n 3, 1) := by decide +kernel
theorem dJ2_indexOfSupplementary_4cfef_21 : decode cJ2_indexOfSupplementary_4cfef 21 = .ok (.aload_n 0, 1) := by decide +kernel
theorem dJ2_indexOfSupplementary_4cfef_22 : decode cJ2_indexOfSupplementary_4cfef 22 = .ok (.invokestatic 96, 3) := by decide +kernel
theorem dJ2_indexOfSupplementary_4cfef_25 : decode cJ2_indexOfSupplementary_4cfef 25 = .ok (.iload_n 2, 1) := by decide +kernel
theorem dJ2_indexOfSupplementary_4cfef_26 : decode cJ2_indexOfSupplementary_4cfef 26 = .ok (.istore 6, 2) := by decide +kernel
theorem dJ2_indexOfSupplementary_4cfef_28 : decode cJ2_indexOfSupplementary_4cfef 28 = .ok (.iload 6, 2) := by decide +kernel
theorem dJ2_indexOfSupplementary_4cfef_30 : decode cJ2_indexOfSupplementary_4cfef 30 = .ok (.iload_n 3, 1) := by decide +kernel
theorem dJ2_indexOfSupplementary_4cfef_31 : decode cJ2_indexOfSupplementary_4cfef 31 = .ok (.iconst 1, 1) := by decide +kernel
theorem dJ2_indexOfSupplementary_4cfef_32 : decode cJ2_indexOfSupplementary_4cfef 32 = .ok (.isub, 1) := by decide +kernel
theorem dJ2_indexOfSupplementary_4cfef_33 : decode cJ2_indexOfSupplementary_4cfef 33 = .ok (.if_icmp .ge 36, 3) := by decide +kernel
theorem dJ2_indexOfSupplementary_4cfef_36 : decode cJ2_indexOfSupplementary_4cfef 36 = .ok (.aload_n 0, 1) := by decide +kernel
theorem dJ2_indexOfSupplementary_4cfef_37 : decode cJ2_indexOfSupplementary_4cfef 37 = .ok (.iload 6, 2) := by decide +kernel
theorem dJ2_indexOfSupplementary_4cfef_39 : decode cJ2_indexOfSupplementary_4cfef 39 = .ok (.invokestatic 71, 3) := by decide +kernel
theorem dJ2_indexOfSupplementary_4cfef_42 : decode cJ2_indexOfSupplementary_4cfef 42 = .ok (.iload 4, 2) := by decide +kernel
theorem dJ2_indexOfSupplementary_4cfef_44 : decode cJ2_indexOfSupplementary_4cfef 44 = .ok (.if_icmp .ne 19, 3) := by decide +kernel
theorem dJ2_indexOfSupplementary_4cfef_47 : decode cJ2_indexOfSupplementary_4cfef 47 = .ok (.aload_n 0, 1) := by decide +kernel
theorem dJ2_indexOfSupplementary_4cfef_48 : decode cJ2_indexOfSupplementary_4cfef 48 = .ok (.iload 6, 2) := by decide +kernel
theorem dJ2_indexOfSupplementary_4cfef_50 : decode cJ2_indexOfSupplementary_4cfef 50 = .ok (.iconst 1, 1) := by decide +kernel
theorem dJ2_indexOfSupplementary_4cfef_51 : decode cJ2_indexOfSupplementary_4cfef 51 = .ok (.iadd, 1) := by decide +kernel
theorem dJ2_indexOfSupplementary_4cfef_52 : decode cJ2_indexOfSupplementary_4cfef 52 = .ok (.invokestatic 71, 3) := by decide +kernel
theorem dJ2_indexOfSupplementary_4cfef_55 : decode cJ2_indexOfSupplementary_4cfef 55 = .ok (.iload 5, 2) := by decide +kernel
theorem dJ2_indexOfSupplementary_4cfef_57 : decode cJ2_indexOfSupplementary_4cfef 57 = .ok (.if_icmp .ne 6, 3) := by decide +kernel
theorem dJ2_indexOfSupplementary_4cfef_60 : decode cJ2_indexOfSupplementary_4cfef 60 = .ok (.iload 6, 2) := by decide +kernel
theorem dJ2_indexOfSupplementary_4cfef_62 : decode cJ2_indexOfSupplementary_4cfef 62 = .ok (.ireturn, 1) := by decide +kernel
theorem dJ2_indexOfSupplementary_4cfef_63 : decode cJ2_indexOfSupplementary_4cfef 63 = .ok (.iinc 6 1, 3) := by decide +kernel
theorem dJ2_indexOfSupplementary_4cfef_66 : decode cJ2_indexOfSupplementary_4cfef 66 = .ok (.goto (-38), 3) := by decide +kernel
theorem dJ2_indexOfSupplementary_4cfef_69 : decode cJ2_indexOfSupplementary_4cfef 69 = .ok (.iconst (-1), 1) := by decide +kernel
theorem dJ2_indexOfSupplementary_4cfef_70 : decode cJ2_indexOfSupplementary_4cfef 70 = .ok (.ireturn, 1) := by decide +kernel
set_option maxRecDepth 20000 in
theorem ggJ2_checkBoundsBeginEnd_d044e_J2_length_9d52b : GoodIn wsJ2_checkBoundsBeginEnd_d044e wsJ2_length_9d52b := goodIn_r _ [4] (by decide +kernel) (by decide +kernel)
set_option maxRecDepth 20000 in
theorem gJ2_checkBoundsBeginEnd_d044e_J2_length_9d52b : GoodIn wsJ2_checkBoundsBeginEnd_d044e (va_wsS RJ2 48 yJ2_length_9d52b wsJ2_length_9d52b) := goodIn_app (goodIn_of _ (by decide +kernel)) ggJ2_checkBoundsBeginEnd_d044e_J2_length_9d52b
set_option maxRecDepth 20000 in
theorem ggJ2_checkBoundsBeginEnd_d044e_J0_checkBoundsBeginEnd_23922 : GoodIn wsJ2_checkBoundsBeginEnd_d044e wsJ0_checkBoundsBeginEnd_23922 := goodIn_r _ [8, 9, 10, 11, 12, 13] (by decide +kernel) (by decide +kernel)
set_option maxRecDepth 20000 in
theorem gJ2_checkBoundsBeginEnd_d044e_J0_checkBoundsBeginEnd_23922 : GoodIn wsJ2_checkBoundsBeginEnd_d044e (va_wsS RJ2 241 yJ0_checkBoundsBeginEnd_23922 wsJ0_checkBoundsBeginEnd_23922) := goodIn_app (goodIn_of _ (by decide +kernel)) ggJ2_checkBoundsBeginEnd_d044e_J0_checkBoundsBeginEnd_23922
theorem dJ2_checkBoundsBeginEnd_d044e_0 : decode cJ2_checkBoundsBeginEnd_d044e 0 = .ok (.iload_n 0, 1) := by decide +kernel
theorem dJ2_checkBoundsBeginEnd_d044e_1 : decode cJ2_checkBoundsBeginEnd_d044e 1 = .ok (.iload_n 1, 1) := by decide +kernel
theorem dJ2_checkBoundsBeginEnd_d044e_2 : decode cJ2_checkBoundsBeginEnd_d044e 2 = .ok (.aload_n 2, 1) := by decide +kernel
theorem dJ2_checkBoundsBeginEnd_d044e_3 : decode cJ2_checkBoundsBeginEnd_d044e 3 = .ok (.invokestatic 48, 3) := by decide +kernel
theorem dJ2_checkBoundsBeginEnd_d044e_6 : decode cJ2_checkBoundsBeginEnd_d044e 6 = .ok (.invokestatic 241, 3) := by decide +kernel
theorem dJ2_checkBoundsBeginEnd_d044e_9 : decode cJ2_checkBoundsBeginEnd_d044e 9 = .ok (.return_, 1) := by decide +kernel
theorem dJ3_checkFromToIndex_8c36e_0 : decode cJ3_checkFromToIndex_8c36e 0 = .ok (.iload_n 0, 1) := by decide +kernel
theorem dJ3_checkFromToIndex_8c36e_1 : decode cJ3_checkFromToIndex_8c36e 1 = .ok (.ifCond .lt 13, 3) := by decide +kernel
theorem dJ3_checkFromToIndex_8c36e_4 : decode cJ3_checkFromToIndex_8c36e 4 = .ok (.iload_n 0, 1) := by decide +kernel
theorem dJ3_checkFromToIndex_8c36e_5 : decode cJ3_checkFromToIndex_8c36e 5 = .ok (.iload_n 1, 1) := by decide +kernel
theorem dJ3_checkFromToIndex_8c36e_6 : decode cJ3_checkFromToIndex_8c36e 6 = .ok (.if_icmp .gt 8, 3) := by decide +kernel
theorem dJ3_checkFromToIndex_8c36e_9 : decode cJ3_checkFromToIndex_8c36e 9 = .ok (.iload_n 1, 1) := by decide +kernel
theorem dJ3_checkFromToIndex_8c36e_10 : decode cJ3_checkFromToIndex_8c36e 10 = .ok (.iload_n 2, 1) := by decide +kernel
theorem dJ3_checkFromToIndex_8c36e_11 : decode cJ3_checkFromToIndex_8c36e 11 = .ok (.if_icmp .le 11, 3) := by decide +kernel
theorem dJ3_checkFromToIndex_8c36e_14 : decode cJ3_checkFromToIndex_8c36e 14 = .ok (.aload_n 3, 1) := by decide +kernel
theorem dJ3_checkFromToIndex_8c36e_15 : decode cJ3_checkFromToIndex_8c36e 15 = .ok (.iload_n 0, 1) := by decide +kernel
theorem dJ3_checkFromToIndex_8c36e_16 : decode cJ3_checkFromToIndex_8c36e 16 = .ok (.iload_n 1, 1) := by decide +kernel
theorem dJ3_checkFromToIndex_8c36e_17 : decode cJ3_checkFromToIndex_8c36e 17 = .ok (.iload_n 2, 1) := by decide +kernel
theorem dJ3_checkFromToIndex_8c36e_18 : decode cJ3_checkFromToIndex_8c36e 18 = .ok (.invokestatic 99, 3) := by decide +kernel
theorem dJ3_checkFromToIndex_8c36e_21 : decode cJ3_checkFromToIndex_8c36e 21 = .ok (.athrow, 1) := by decide +kernel
theorem dJ3_checkFromToIndex_8c36e_22 : decode cJ3_checkFromToIndex_8c36e 22 = .ok (.iload_n 0, 1) := by decide +kernel
theorem dJ3_checkFromToIndex_8c36e_23 : decode cJ3_checkFromToIndex_8c36e 23 = .ok (.ireturn, 1) := by decide +kernel
