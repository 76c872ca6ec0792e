theorem dX6_off_17 : decode cX6_off 17 = .ok (.invokestatic 65, 3) := by decide +kernel
theorem dX6_off_20 : decode cX6_off 20 = .ok (.ifCond .ne 10, 3) := by decide +kernel
theorem dX6_off_23 : decode cX6_off 23 = .ok (.aload_n 0, 1) := by decide +kernel
theorem dX6_off_24 : decode cX6_off 24 = .ok (.bipush (-2), 2) := by decide +kernel
theorem dX6_off_26 : decode cX6_off 26 = .ok (.invokevirtual 58, 3) := by decide +kernel
theorem dX6_off_29 : decode cX6_off 29 = .ok (.ireturn, 1) := by decide +kernel
theorem dX6_off_30 : decode cX6_off 30 = .ok (.iconst 0, 1) := by decide +kernel
theorem dX6_off_31 : decode cX6_off 31 = .ok (.istore_n 3, 1) := by decide +kernel
theorem dX6_off_32 : decode cX6_off 32 = .ok (.iconst 1, 1) := by decide +kernel
theorem dX6_off_33 : decode cX6_off 33 = .ok (.istore 4, 2) := by decide +kernel
theorem dX6_off_35 : decode cX6_off 35 = .ok (.iload 4, 2) := by decide +kernel
theorem dX6_off_37 : decode cX6_off 37 = .ok (.bipush 10, 2) := by decide +kernel
theorem dX6_off_39 : decode cX6_off 39 = .ok (.if_icmp .ge 67, 3) := by decide +kernel
theorem dX6_off_42 : decode cX6_off 42 = .ok (.bipush (-5), 2) := by decide +kernel
theorem dX6_off_44 : decode cX6_off 44 = .ok (.istore 5, 2) := by decide +kernel
theorem dX6_off_46 : decode cX6_off 46 = .ok (.iload 5, 2) := by decide +kernel
theorem dX6_off_48 : decode cX6_off 48 = .ok (.bipush 16, 2) := by decide +kernel
theorem dX6_off_50 : decode cX6_off 50 = .ok (.if_icmp .ge 50, 3) := by decide +kernel
theorem dX6_off_53 : decode cX6_off 53 = .ok (.aload_n 0, 1) := by decide +kernel
theorem dX6_off_54 : decode cX6_off 54 = .ok (.iload_n 1, 1) := by decide +kernel
theorem dX6_off_55 : decode cX6_off 55 = .ok (.iload 4, 2) := by decide +kernel
theorem dX6_off_57 : decode cX6_off 57 = .ok (.iload 5, 2) := by decide +kernel
theorem dX6_off_59 : decode cX6_off 59 = .ok (.invokevirtual 169, 3) := by decide +kernel
theorem dX6_off_62 : decode cX6_off 62 = .ok (.ifCond .ne 6, 3) := by decide +kernel
theorem dX6_off_65 : decode cX6_off 65 = .ok (.goto 29, 3) := by decide +kernel
theorem dX6_off_68 : decode cX6_off 68 = .ok (.iload_n 2, 1) := by decide +kernel
theorem dX6_off_69 : decode cX6_off 69 = .ok (.ifCond .ne 15, 3) := by decide +kernel
theorem dX6_off_72 : decode cX6_off 72 = .ok (.aload_n 0, 1) := by decide +kernel
theorem dX6_off_73 : decode cX6_off 73 = .ok (.getfield 140, 3) := by decide +kernel
theorem dX6_off_76 : decode cX6_off 76 = .ok (.iconst 2, 1) := by decide +kernel
theorem dX6_off_77 : decode cX6_off 77 = .ok (.iand, 1) := by decide +kernel
theorem dX6_off_78 : decode cX6_off 78 = .ok (.ifCond .eq 16, 3) := by decide +kernel
theorem dX6_off_81 : decode cX6_off 81 = .ok (.goto 10, 3) := by decide +kernel
theorem dX6_off_84 : decode cX6_off 84 = .ok (.aload_n 0, 1) := by decide +kernel
theorem dX6_off_85 : decode cX6_off 85 = .ok (.getfield 140, 3) := by decide +kernel
theorem dX6_off_88 : decode cX6_off 88 = .ok (.ifCond .ne 6, 3) := by decide +kernel
theorem dX6_off_91 : decode cX6_off 91 = .ok (.iinc 3 1, 3) := by decide +kernel
theorem dX6_off_94 : decode cX6_off 94 = .ok (.iinc 5 1, 3) := by decide +kernel
theorem dX6_off_97 : decode cX6_off 97 = .ok (.goto (-51), 3) := by decide +kernel
theorem dX6_off_100 : decode cX6_off 100 = .ok (.iinc 4 1, 3) := by decide +kernel
theorem dX6_off_103 : decode cX6_off 103 = .ok (.goto (-68), 3) := by decide +kernel
theorem dX6_off_106 : decode cX6_off 106 = .ok (.iload_n 3, 1) := by decide +kernel
theorem dX6_off_107 : decode cX6_off 107 = .ok (.ireturn, 1) := by decide +kernel
set_option maxRecDepth 20000 in
theorem ggX6_when_X6_isBall : GoodIn wsX6_when wsX6_isBall := goodIn_r _ [6, 7, 8, 9, 5, 10, 60, 61, 62, 63, 64, 65, 66, 67, 68, 69, 70, 71, 72, 73, 74, 75, 76, 77, 78, 79, 80, 81, 82, 83, 84, 85, 86, 87, 88, 89, 90] (by decide +kernel) (by decide +kernel)
set_option maxRecDepth 20000 in
theorem gX6_when_X6_isBall : GoodIn wsX6_when (wsV RX6 119 RX6 yX6_isBall wsX6_isBall) := goodIn_app (goodIn_of _ (by decide +kernel)) ggX6_when_X6_isBall
set_option maxRecDepth 20000 in
theorem ggX6_when_X6_no : GoodIn wsX6_when wsX6_no := goodIn_r _ [14, 15, 60, 61, 62, 63, 64, 65, 66, 67, 68, 69, 70, 71, 72, 73, 74, 75, 76, 77, 78, 79, 80, 81, 82, 83, 84, 85, 86, 87, 88, 89, 90] (by decide +kernel) (by decide +kernel)
set_option maxRecDepth 20000 in
theorem gX6_when_X6_no : GoodIn wsX6_when (wsV RX6 58 RX6 yX6_no wsX6_no) := goodIn_app (goodIn_of _ (by decide +kernel)) ggX6_when_X6_no
set_option maxRecDepth 20000 in
theorem ggX6_when_X6_noThrow : GoodIn wsX6_when wsX6_noThrow := goodIn_r _ [19] (by decide +kernel) (by decide +kernel)
set_option maxRecDepth 20000 in
theorem gX6_when_X6_noThrow : GoodIn wsX6_when (wsV RX6 156 RX6 yX6_noThrow wsX6_noThrow) := goodIn_app (goodIn_of _ (by decide +kernel)) ggX6_when_X6_noThrow
set_option maxRecDepth 20000 in
theorem ggX6_when_X6_flies : GoodIn wsX6_when wsX6_flies := goodIn_r _ [23, 24, 25, 26, 27, 28, 29, 30, 31, 32, 33, 34, 35, 36, 37, 38, 39, 40, 41, 42, 43, 44, 45, 46, 5, 47, 48, 49, 50, 8, 9, 10, 51, 52, 53, 54, 55, 56, 57, 58, 59, 60, 61, 62, 63, 64, 65, 66, 67, 68, 69, 70, 71, 72, 73, 74, 75, 76, 77, 78, 79, 80, 81, 82, 83, 84, 85, 86, 87, 88, 89, 90] (by decide +kernel) (by decide +kernel)
set_option maxRecDepth 20000 in
theorem gX6_when_X6_flies : GoodIn wsX6_when (wsV RX6 152 RX6 yX6_flies wsX6_flies) := goodIn_app (goodIn_of _ (by decide +kernel)) ggX6_when_X6_flies
theorem dX6_when_0 : decode cX6_when 0 = .ok (.aload_n 0, 1) := by decide +kernel
theorem dX6_when_1 : decode cX6_when 1 = .ok (.iload_n 1, 1) := by decide +kernel
theorem dX6_when_2 : decode cX6_when 2 = .ok (.invokevirtual 119, 3) := by decide +kernel
theorem dX6_when_5 : decode cX6_when 5 = .ok (.ifCond .ne 9, 3) := by decide +kernel
theorem dX6_when_8 : decode cX6_when 8 = .ok (.aload_n 0, 1) := by decide +kernel
theorem dX6_when_9 : decode cX6_when 9 = .ok (.iconst (-1), 1) := by decide +kernel
theorem dX6_when_10 : decode cX6_when 10 = .ok (.invokevirtual 58, 3) := by decide +kernel
theorem dX6_when_13 : decode cX6_when 13 = .ok (.ireturn, 1) := by decide +kernel
theorem dX6_when_14 : decode cX6_when 14 = .ok (.aload_n 0, 1) := by decide +kernel
theorem dX6_when_15 : decode cX6_when 15 = .ok (.iload_n 2, 1) := by decide +kernel
theorem dX6_when_16 : decode cX6_when 16 = .ok (.iload_n 3, 1) := by decide +kernel
theorem dX6_when_17 : decode cX6_when 17 = .ok (.invokevirtual 156, 3) := by decide +kernel
theorem dX6_when_20 : decode cX6_when 20 = .ok (.istore 4, 2) := by decide +kernel
theorem dX6_when_22 : decode cX6_when 22 = .ok (.iload 4, 2) := by decide +kernel
theorem dX6_when_24 : decode cX6_when 24 = .ok (.ifCond .ge 10, 3) := by decide +kernel
theorem dX6_when_27 : decode cX6_when 27 = .ok (.aload_n 0, 1) := by decide +kernel
theorem dX6_when_28 : decode cX6_when 28 = .ok (.iload 4, 2) := by decide +kernel
theorem dX6_when_30 : decode cX6_when 30 = .ok (.invokevirtual 58, 3) := by decide +kernel
theorem dX6_when_33 : decode cX6_when 33 = .ok (.ireturn, 1) := by decide +kernel
theorem dX6_when_34 : decode cX6_when 34 = .ok (.iconst 0, 1) := by decide +kernel
theorem dX6_when_35 : decode cX6_when 35 = .ok (.istore 5, 2) := by decide +kernel
theorem dX6_when_37 : decode cX6_when 37 = .ok (.iload 5, 2) := by decide +kernel
theorem dX6_when_39 : decode cX6_when 39 = .ok (.bipush 9, 2) := by decide +kernel
theorem dX6_when_41 : decode cX6_when 41 = .ok (.if_icmp .ge 29, 3) := by decide +kernel
theorem dX6_when_44 : decode cX6_when 44 = .ok (.aload_n 0, 1) := by decide +kernel
theorem dX6_when_45 : decode cX6_when 45 = .ok (.iload_n 1, 1) := by decide +kernel
theorem dX6_when_46 : decode cX6_when 46 = .ok (.iload_n 2, 1) := by decide +kernel
theorem dX6_when_47 : decode cX6_when 47 = .ok (.iload_n 3, 1) := by decide +kernel
theorem dX6_when_48 : decode cX6_when 48 = .ok (.aload_n 0, 1) := by decide +kernel
theorem dX6_when_49 : decode cX6_when 49 = .ok (.getfield 149, 3) := by decide +kernel
theorem dX6_when_52 : decode cX6_when 52 = .ok (.iload 5, 2) := by decide +kernel
theorem dX6_when_54 : decode cX6_when 54 = .ok (.iadd, 1) := by decide +kernel
theorem dX6_when_55 : decode cX6_when 55 = .ok (.invokevirtual 152, 3) := by decide +kernel
theorem dX6_when_58 : decode cX6_when 58 = .ok (.ifCond .ne 6, 3) := by decide +kernel
theorem dX6_when_61 : decode cX6_when 61 = .ok (.iload 5, 2) := by decide +kernel
theorem dX6_when_63 : decode cX6_when 63 = .ok (.ireturn, 1) := by decide +kernel
theorem dX6_when_64 : decode cX6_when 64 = .ok (.iinc 5 1, 3) := by decide +kernel
theorem dX6_when_67 : decode cX6_when 67 = .ok (.goto (-30), 3) := by decide +kernel
theorem dX6_when_70 : decode cX6_when 70 = .ok (.bipush (-9), 2) := by decide +kernel
theorem dX6_when_72 : decode cX6_when 72 = .ok (.ireturn, 1) := by decide +kernel
set_option maxRecDepth 20000 in
theorem ggX6_crumpled_X6_isBall : GoodIn wsX6_crumpled wsX6_isBall := goodIn_r _ [6, 7, 8, 9, 5, 10, 64, 65, 66, 67, 68, 69, 70, 71, 72, 73, 74, 75, 76, 77, 78, 79, 80, 81, 82, 83, 84, 85, 86, 87, 88, 89, 90, 91, 92, 93, 94] (by decide +kernel) (by decide +kernel)
set_option maxRecDepth 20000 in
theorem gX6_crumpled_X6_isBall : GoodIn wsX6_crumpled (wsV RX6 119 RX6 yX6_isBall wsX6_isBall) := goodIn_app (goodIn_of _ (by decide +kernel)) ggX6_crumpled_X6_isBall
set_option maxRecDepth 20000 in
theorem ggX6_crumpled_X6_no : GoodIn wsX6_crumpled wsX6_no := goodIn_r _ [14, 15, 64, 65, 66, 67, 68, 69, 70, 71, 72, 73, 74, 75, 76, 77, 78, 79, 80, 81, 82, 83, 84, 85, 86, 87, 88, 89, 90, 91, 92, 93, 94] (by decide +kernel) (by decide +kernel)
set_option maxRecDepth 20000 in
theorem gX6_crumpled_X6_no : GoodIn wsX6_crumpled (wsV RX6 58 RX6 yX6_no wsX6_no) := goodIn_app (goodIn_of _ (by decide +kernel)) ggX6_crumpled_X6_no
set_option maxRecDepth 20000 in
theorem ggX6_crumpled_X6_noThrow : GoodIn wsX6_crumpled wsX6_noThrow := goodIn_r _ [19] (by decide +kernel) (by decide +kernel)
set_option maxRecDepth 20000 in
theorem gX6_crumpled_X6_noThrow : GoodIn wsX6_crumpled (wsV RX6 156 RX6 yX6_noThrow wsX6_noThrow) := goodIn_app (goodIn_of _ (by decide +kernel)) ggX6_crumpled_X6_noThrow
set_option maxRecDepth 20000 in
theorem ggX6_crumpled_X6_isIn : GoodIn wsX6_crumpled wsX6_isIn := goodIn_r _ [23, 24, 25, 26, 27, 5, 28, 29, 30, 31, 32, 33, 34, 35, 36, 37, 38, 39, 40, 41, 42, 43, 44, 45, 46, 47, 48, 49, 50, 51, 52, 53, 1, 54, 8, 9, 10, 55, 56, 57, 58, 59, 60, 61, 62, 63, 64, 65, 66, 67, 68, 69, 70, 71, 72, 73, 74, 75, 76, 77, 78, 79, 80, 81, 82, 83, 84, 85, 86, 87, 88, 89, 90, 91, 92, 93, 94] (by decide +kernel) (by decide +kernel)
set_option maxRecDepth 20000 in
theorem gX6_crumpled_X6_isIn : GoodIn wsX6_crumpled (wsV RX6 169 RX6 yX6_isIn wsX6_isIn) := goodIn_app (goodIn_of _ (by decide +kernel)) ggX6_crumpled_X6_isIn
theorem dX6_crumpled_0 : decode cX6_crumpled 0 = .ok (.aload_n 0, 1) := by decide +kernel
theorem dX6_crumpled_1 : decode cX6_crumpled 1 = .ok (.iload_n 1, 1) := by decide +kernel
theorem dX6_crumpled_2 : decode cX6_crumpled 2 = .ok (.invokevirtual 119, 3) := by decide +kernel
theorem dX6_crumpled_5 : decode cX6_crumpled 5 = .ok (.ifCond .ne 9, 3) := by decide +kernel
theorem dX6_crumpled_8 : decode cX6_crumpled 8 = .ok (.aload_n 0, 1) := by decide +kernel
theorem dX6_crumpled_9 : decode cX6_crumpled 9 = .ok (.iconst (-1), 1) := by decide +kernel
theorem dX6_crumpled_10 : decode cX6_crumpled 10 = .ok (.invokevirtual 58, 3) := by decide +kernel
theorem dX6_crumpled_13 : decode cX6_crumpled 13 = .ok (.ireturn, 1) := by decide +kernel
theorem dX6_crumpled_14 : decode cX6_crumpled 14 = .ok (.aload_n 0, 1) := by decide +kernel
theorem dX6_crumpled_15 : decode cX6_crumpled 15 = .ok (.iload_n 2, 1) := by decide +kernel
theorem dX6_crumpled_16 : decode cX6_crumpled 16 = .ok (.iload_n 3, 1) := by decide +kernel
theorem dX6_crumpled_17 : decode cX6_crumpled 17 = .ok (.invokevirtual 156, 3) := by decide +kernel
theorem dX6_crumpled_20 : decode cX6_crumpled 20 = .ok (.istore 4, 2) := by decide +kernel
theorem dX6_crumpled_22 : decode cX6_crumpled 22 = .ok (.iload 4, 2) := by decide +kernel
theorem dX6_crumpled_24 : decode cX6_crumpled 24 = .ok (.ifCond .ge 10, 3) := by decide +kernel
theorem dX6_crumpled_27 : decode cX6_crumpled 27 = .ok (.aload_n 0, 1) := by decide +kernel
theorem dX6_crumpled_28 : decode cX6_crumpled 28 = .ok (.iload 4, 2) := by decide +kernel
theorem dX6_crumpled_30 : decode cX6_crumpled 30 = .ok (.invokevirtual 58, 3) := by decide +kernel
theorem dX6_crumpled_33 : decode cX6_crumpled 33 = .ok (.ireturn, 1) := by decide +kernel
theorem dX6_crumpled_34 : decode cX6_crumpled 34 = .ok (.aload_n 0, 1) := by decide +kernel
theorem dX6_crumpled_35 : decode cX6_crumpled 35 = .ok (.getfield 16, 3) := by decide +kernel
theorem dX6_crumpled_38 : decode cX6_crumpled 38 = .ok (.iload_n 1, 1) := by decide +kernel
theorem dX6_crumpled_39 : decode cX6_crumpled 39 = .ok (.iaload, 1) := by decide +kernel
theorem dX6_crumpled_40 : decode cX6_crumpled 40 = .ok (.istore 5, 2) := by decide +kernel
theorem dX6_crumpled_42 : decode cX6_crumpled 42 = .ok (.iconst 0, 1) := by decide +kernel
theorem dX6_crumpled_43 : decode cX6_crumpled 43 = .ok (.istore 6, 2) := by decide +kernel
theorem dX6_crumpled_45 : decode cX6_crumpled 45 = .ok (.iconst 0, 1) := by decide +kernel
theorem dX6_crumpled_46 : decode cX6_crumpled 46 = .ok (.istore 7, 2) := by decide +kernel
theorem dX6_crumpled_48 : decode cX6_crumpled 48 = .ok (.iload 7, 2) := by decide +kernel
theorem dX6_crumpled_50 : decode cX6_crumpled 50 = .ok (.bipush 10, 2) := by decide +kernel
theorem dX6_crumpled_52 : decode cX6_crumpled 52 = .ok (.if_icmp .ge 36, 3) := by decide +kernel
theorem dX6_crumpled_55 : decode cX6_crumpled 55 = .ok (.aload_n 0, 1) := by decide +kernel
theorem dX6_crumpled_56 : decode cX6_crumpled 56 = .ok (.getfield 16, 3) := by decide +kernel
theorem dX6_crumpled_59 : decode cX6_crumpled 59 = .ok (.iload_n 1, 1) := by decide +kernel
theorem dX6_crumpled_60 : decode cX6_crumpled 60 = .ok (.iload 7, 2) := by decide +kernel
theorem dX6_crumpled_62 : decode cX6_crumpled 62 = .ok (.iastore, 1) := by decide +kernel
theorem dX6_crumpled_63 : decode cX6_crumpled 63 = .ok (.aload_n 0, 1) := by decide +kernel
theorem dX6_crumpled_64 : decode cX6_crumpled 64 = .ok (.iload_n 1, 1) := by decide +kernel
theorem dX6_crumpled_65 : decode cX6_crumpled 65 = .ok (.iload_n 2, 1) := by decide +kernel
theorem dX6_crumpled_66 : decode cX6_crumpled 66 = .ok (.iload_n 3, 1) := by decide +kernel
theorem dX6_crumpled_67 : decode cX6_crumpled 67 = .ok (.invokevirtual 169, 3) := by decide +kernel
theorem dX6_crumpled_70 : decode cX6_crumpled 70 = .ok (.ifCond .eq 12, 3) := by decide +kernel
theorem dX6_crumpled_73 : decode cX6_crumpled 73 = .ok (.iload 6, 2) := by decide +kernel
theorem dX6_crumpled_75 : decode cX6_crumpled 75 = .ok (.iconst 1, 1) := by decide +kernel
theorem dX6_crumpled_76 : decode cX6_crumpled 76 = .ok (.iload 7, 2) := by decide +kernel
theorem dX6_crumpled_78 : decode cX6_crumpled 78 = .ok (.ishl, 1) := by decide +kernel
theorem dX6_crumpled_79 : decode cX6_crumpled 79 = .ok (.ior, 1) := by decide +kernel
theorem dX6_crumpled_80 : decode cX6_crumpled 80 = .ok (.istore 6, 2) := by decide +kernel
theorem dX6_crumpled_82 : decode cX6_crumpled 82 = .ok (.iinc 7 1, 3) := by decide +kernel
theorem dX6_crumpled_85 : decode cX6_crumpled 85 = .ok (.goto (-37), 3) := by decide +kernel
theorem dX6_crumpled_88 : decode cX6_crumpled 88 = .ok (.aload_n 0, 1) := by decide +kernel
theorem dX6_crumpled_89 : decode cX6_crumpled 89 = .ok (.getfield 16, 3) := by decide +kernel
theorem dX6_crumpled_92 : decode cX6_crumpled 92 = .ok (.iload_n 1, 1) := by decide +kernel
theorem dX6_crumpled_93 : decode cX6_crumpled 93 = .ok (.iload 5, 2) := by decide +kernel
theorem dX6_crumpled_95 : decode cX6_crumpled 95 = .ok (.iastore, 1) := by decide +kernel
theorem dX6_crumpled_96 : decode cX6_crumpled 96 = .ok (.iload 6, 2) := by decide +kernel
theorem dX6_crumpled_98 : decode cX6_crumpled 98 = .ok (.ireturn, 1) := by decide +kernel
set_option maxRecDepth 20000 in
theorem ggX6_fills_X6_isBall : GoodIn wsX6_fills wsX6_isBall := goodIn_r _ [6, 7, 8, 9, 5, 10, 64, 65, 66, 67, 68, 69, 70, 71, 72, 73, 74, 75, 76, 77, 78, 79, 80, 81, 82, 83, 84, 85, 86, 87, 88, 89, 90, 91, 92, 93, 94] (by decide +kernel) (by decide +kernel)
set_option maxRecDepth 20000 in
theorem gX6_fills_X6_isBall : GoodIn wsX6_fills (wsV RX6 119 RX6 yX6_isBall wsX6_isBall) := goodIn_app (goodIn_of _ (by decide +kernel)) ggX6_fills_X6_isBall
set_option maxRecDepth 20000 in
theorem ggX6_fills_X6_no : GoodIn wsX6_fills wsX6_no := goodIn_r _ [14, 15, 64, 65, 66, 67, 68, 69, 70, 71, 72, 73, 74, 75, 76, 77, 78, 79, 80, 81, 82, 83, 84, 85, 86, 87, 88, 89, 90, 91, 92, 93, 94] (by decide +kernel) (by decide +kernel)
set_option maxRecDepth 20000 in
theorem gX6_fills_X6_no : GoodIn wsX6_fills (wsV RX6 58 RX6 yX6_no wsX6_no) := goodIn_app (goodIn_of _ (by decide +kernel)) ggX6_fills_X6_no
set_option maxRecDepth 20000 in
theorem ggX6_fills_X6_noThrow : GoodIn wsX6_fills wsX6_noThrow := goodIn_r _ [19] (by decide +kernel) (by decide +kernel)
set_option maxRecDepth 20000 in
theorem gX6_fills_X6_noThrow : GoodIn wsX6_fills (wsV RX6 156 RX6 yX6_noThrow wsX6_noThrow) := goodIn_app (goodIn_of _ (by decide +kernel)) ggX6_fills_X6_noThrow
set_option maxRecDepth 20000 in
theorem ggX6_fills_X6_isIn : GoodIn wsX6_fills wsX6_isIn := goodIn_r _ [23, 24, 25, 26, 27, 5, 28, 29, 30, 31, 32, 33, 34, 35, 36, 37, 38, 39, 40, 41, 42, 1, 43, 44, 45, 46, 47, 48, 49, 50, 51, 52, 53, 54, 8, 9, 10, 55, 56, 57, 58, 59, 60, 61, 62, 63, 64, 65, 66, 67, 68, 69, 70, 71, 72, 73, 74, 75, 76, 77, 78, 79, 80, 81, 82, 83, 84, 85, 86, 87, 88, 89, 90, 91, 92, 93, 94] (by decide +kernel) (by decide +kernel)
set_option maxRecDepth 20000 in
theorem gX6_fills_X6_isIn : GoodIn wsX6_fills (wsV RX6 169 RX6 yX6_isIn wsX6_isIn) := goodIn_app (goodIn_of _ (by decide +kernel)) ggX6_fills_X6_isIn
theorem dX6_fills_0 : decode cX6_fills 0 = .ok (.aload_n 0, 1) := by decide +kernel
theorem dX6_fills_1 : decode cX6_fills 1 = .ok (.iload_n 1, 1) := by decide +kernel
theorem dX6_fills_2 : decode cX6_fills 2 = .ok (.invokevirtual 119, 3) := by decide +kernel
theorem dX6_fills_5 : decode cX6_fills 5 = .ok (.ifCond .ne 9, 3) := by decide +kernel
theorem dX6_fills_8 : decode cX6_fills 8 = .ok (.aload_n 0, 1) := by decide +kernel
theorem dX6_fills_9 : decode cX6_fills 9 = .ok (.iconst (-1), 1) := by decide +kernel
theorem dX6_fills_10 : decode cX6_fills 10 = .ok (.invokevirtual 58, 3) := by decide +kernel
theorem dX6_fills_13 : decode cX6_fills 13 = .ok (.ireturn, 1) := by decide +kernel
theorem dX6_fills_14 : decode cX6_fills 14 = .ok (.aload_n 0, 1) := by decide +kernel
theorem dX6_fills_15 : decode cX6_fills 15 = .ok (.iload_n 2, 1) := by decide +kernel
theorem dX6_fills_16 : decode cX6_fills 16 = .ok (.iload_n 3, 1) := by decide +kernel
theorem dX6_fills_17 : decode cX6_fills 17 = .ok (.invokevirtual 156, 3) := by decide +kernel
theorem dX6_fills_20 : decode cX6_fills 20 = .ok (.istore 4, 2) := by decide +kernel
theorem dX6_fills_22 : decode cX6_fills 22 = .ok (.iload 4, 2) := by decide +kernel
theorem dX6_fills_24 : decode cX6_fills 24 = .ok (.ifCond .ge 10, 3) := by decide +kernel
theorem dX6_fills_27 : decode cX6_fills 27 = .ok (.aload_n 0, 1) := by decide +kernel
theorem dX6_fills_28 : decode cX6_fills 28 = .ok (.iload 4, 2) := by decide +kernel
theorem dX6_fills_30 : decode cX6_fills 30 = .ok (.invokevirtual 58, 3) := by decide +kernel
theorem dX6_fills_33 : decode cX6_fills 33 = .ok (.ireturn, 1) := by decide +kernel
theorem dX6_fills_34 : decode cX6_fills 34 = .ok (.aload_n 0, 1) := by decide +kernel
theorem dX6_fills_35 : decode cX6_fills 35 = .ok (.getfield 89, 3) := by decide +kernel
theorem dX6_fills_38 : decode cX6_fills 38 = .ok (.istore 5, 2) := by decide +kernel
theorem dX6_fills_40 : decode cX6_fills 40 = .ok (.iconst 0, 1) := by decide +kernel
theorem dX6_fills_41 : decode cX6_fills 41 = .ok (.istore 6, 2) := by decide +kernel
theorem dX6_fills_43 : decode cX6_fills 43 = .ok (.iconst 0, 1) := by decide +kernel
theorem dX6_fills_44 : decode cX6_fills 44 = .ok (.istore 7, 2) := by decide +kernel
theorem dX6_fills_46 : decode cX6_fills 46 = .ok (.iload 7, 2) := by decide +kernel
theorem dX6_fills_48 : decode cX6_fills 48 = .ok (.bipush 10, 2) := by decide +kernel
theorem dX6_fills_50 : decode cX6_fills 50 = .ok (.if_icmp .ge 34, 3) := by decide +kernel
theorem dX6_fills_53 : decode cX6_fills 53 = .ok (.aload_n 0, 1) := by decide +kernel
theorem dX6_fills_54 : decode cX6_fills 54 = .ok (.iload 7, 2) := by decide +kernel
theorem dX6_fills_56 : decode cX6_fills 56 = .ok (.putfield 89, 3) := by decide +kernel
theorem dX6_fills_59 : decode cX6_fills 59 = .ok (.aload_n 0, 1) := by decide +kernel
theorem dX6_fills_60 : decode cX6_fills 60 = .ok (.iload_n 1, 1) := by decide +kernel
theorem dX6_fills_61 : decode cX6_fills 61 = .ok (.iload_n 2, 1) := by decide +kernel
theorem dX6_fills_62 : decode cX6_fills 62 = .ok (.iload_n 3, 1) := by decide +kernel
theorem dX6_fills_63 : decode cX6_fills 63 = .ok (.invokevirtual 169, 3) := by decide +kernel
theorem dX6_fills_66 : decode cX6_fills 66 = .ok (.ifCond .eq 12, 3) := by decide +kernel
theorem dX6_fills_69 : decode cX6_fills 69 = .ok (.iload 6, 2) := by decide +kernel
theorem dX6_fills_71 : decode cX6_fills 71 = .ok (.iconst 1, 1) := by decide +kernel
theorem dX6_fills_72 : decode cX6_fills 72 = .ok (.iload 7, 2) := by decide +kernel
theorem dX6_fills_74 : decode cX6_fills 74 = .ok (.ishl, 1) := by decide +kernel
theorem dX6_fills_75 : decode cX6_fills 75 = .ok (.ior, 1) := by decide +kernel
theorem dX6_fills_76 : decode cX6_fills 76 = .ok (.istore 6, 2) := by decide +kernel
theorem dX6_fills_78 : decode cX6_fills 78 = .ok (.iinc 7 1, 3) := by decide +kernel
theorem dX6_fills_81 : decode cX6_fills 81 = .ok (.goto (-35), 3) := by decide +kernel
theorem dX6_fills_84 : decode cX6_fills 84 = .ok (.aload_n 0, 1) := by decide +kernel
theorem dX6_fills_85 : decode cX6_fills 85 = .ok (.iload 5, 2) := by decide +kernel
theorem dX6_fills_87 : decode cX6_fills 87 = .ok (.putfield 89, 3) := by decide +kernel
theorem dX6_fills_90 : decode cX6_fills 90 = .ok (.iload 6, 2) := by decide +kernel
theorem dX6_fills_92 : decode cX6_fills 92 = .ok (.ireturn, 1) := by decide +kernel
set_option maxRecDepth 20000 in
theorem ggX6_whose_X6_noThrow : GoodIn wsX6_whose wsX6_noThrow := goodIn_r _ [8] (by decide +kernel) (by decide +kernel)
set_option maxRecDepth 20000 in
theorem gX6_whose_X6_noThrow : GoodIn wsX6_whose (wsV RX6 156 RX6 yX6_noThrow wsX6_noThrow) := goodIn_app (goodIn_of _ (by decide +kernel)) ggX6_whose_X6_noThrow
set_option maxRecDepth 20000 in
theorem ggX6_whose_X6_no : GoodIn wsX6_whose wsX6_no := goodIn_r _ [12, 13, 56, 57, 58, 59, 60, 61, 62, 63, 64, 65, 66, 67, 68, 69, 70, 71, 72, 73, 74, 75, 76, 77, 78, 79, 80, 81, 82, 83, 84, 85, 86] (by decide +kernel) (by decide +kernel)
set_option maxRecDepth 20000 in
theorem gX6_whose_X6_no : GoodIn wsX6_whose (wsV RX6 58 RX6 yX6_no wsX6_no) := goodIn_app (goodIn_of _ (by decide +kernel)) ggX6_whose_X6_no
set_option maxRecDepth 20000 in
theorem ggX6_whose_X6_flies : GoodIn wsX6_whose wsX6_flies := goodIn_r _ [17, 18, 3, 19, 20, 21, 22, 23, 24, 25, 26, 27, 28, 29, 30, 31, 32, 33, 34, 35, 36, 37, 38, 39, 7, 40, 41, 42, 43, 44, 45, 46, 47, 48, 49, 50, 51, 52, 53, 54, 55, 56, 57, 58, 59, 60, 61, 62, 63, 64, 65, 66, 67, 68, 69, 70, 71, 72, 73, 74, 75, 76, 77, 78, 79, 80, 81, 82, 83, 84, 85, 86] (by decide +kernel) (by decide +kernel)
set_option maxRecDepth 20000 in
theorem gX6_whose_X6_flies : GoodIn wsX6_whose (wsV RX6 152 RX6 yX6_flies wsX6_flies) := goodIn_app (goodIn_of _ (by decide +kernel)) ggX6_whose_X6_flies
theorem dX6_whose_0 : decode cX6_whose 0 = .ok (.aload_n 0, 1) := by decide +kernel
theorem dX6_whose_1 : decode cX6_whose 1 = .ok (.iload_n 1, 1) := by decide +kernel
theorem dX6_whose_2 : decode cX6_whose 2 = .ok (.iload_n 2, 1) := by decide +kernel
theorem dX6_whose_3 : decode cX6_whose 3 = .ok (.invokevirtual 156, 3) := by decide +kernel
theorem dX6_whose_6 : decode cX6_whose 6 = .ok (.istore 4, 2) := by decide +kernel
theorem dX6_whose_8 : decode cX6_whose 8 = .ok (.iload 4, 2) := by decide +kernel
theorem dX6_whose_10 : decode cX6_whose 10 = .ok (.ifCond .ge 10, 3) := by decide +kernel
theorem dX6_whose_13 : decode cX6_whose 13 = .ok (.aload_n 0, 1) := by decide +kernel
theorem dX6_whose_14 : decode cX6_whose 14 = .ok (.iload 4, 2) := by decide +kernel
theorem dX6_whose_16 : decode cX6_whose 16 = .ok (.invokevirtual 58, 3) := by decide +kernel
theorem dX6_whose_19 : decode cX6_whose 19 = .ok (.ireturn, 1) := by decide +kernel
theorem dX6_whose_20 : decode cX6_whose 20 = .ok (.iconst 0, 1) := by decide +kernel
theorem dX6_whose_21 : decode cX6_whose 21 = .ok (.istore 5, 2) := by decide +kernel
theorem dX6_whose_23 : decode cX6_whose 23 = .ok (.iconst 0, 1) := by decide +kernel
theorem dX6_whose_24 : decode cX6_whose 24 = .ok (.istore 6, 2) := by decide +kernel
theorem dX6_whose_26 : decode cX6_whose 26 = .ok (.iload 6, 2) := by decide +kernel
theorem dX6_whose_28 : decode cX6_whose 28 = .ok (.aload_n 0, 1) := by decide +kernel
theorem dX6_whose_29 : decode cX6_whose 29 = .ok (.getfield 62, 3) := by decide +kernel
theorem dX6_whose_32 : decode cX6_whose 32 = .ok (.if_icmp .ge 39, 3) := by decide +kernel
theorem dX6_whose_35 : decode cX6_whose 35 = .ok (.aload_n 0, 1) := by decide +kernel
theorem dX6_whose_36 : decode cX6_whose 36 = .ok (.iload 6, 2) := by decide +kernel
theorem dX6_whose_38 : decode cX6_whose 38 = .ok (.iload_n 1, 1) := by decide +kernel
theorem dX6_whose_39 : decode cX6_whose 39 = .ok (.iload_n 2, 1) := by decide +kernel
theorem dX6_whose_40 : decode cX6_whose 40 = .ok (.aload_n 0, 1) := by decide +kernel
theorem dX6_whose_41 : decode cX6_whose 41 = .ok (.getfield 149, 3) := by decide +kernel
theorem dX6_whose_44 : decode cX6_whose 44 = .ok (.invokevirtual 152, 3) := by decide +kernel
theorem dX6_whose_47 : decode cX6_whose 47 = .ok (.pop, 1) := by decide +kernel
theorem dX6_whose_48 : decode cX6_whose 48 = .ok (.aload_n 0, 1) := by decide +kernel
theorem dX6_whose_49 : decode cX6_whose 49 = .ok (.getfield 131, 3) := by decide +kernel
theorem dX6_whose_52 : decode cX6_whose 52 = .ok (.iload_n 3, 1) := by decide +kernel
theorem dX6_whose_53 : decode cX6_whose 53 = .ok (.if_icmp .ne 12, 3) := by decide +kernel
theorem dX6_whose_56 : decode cX6_whose 56 = .ok (.iload 5, 2) := by decide +kernel
theorem dX6_whose_58 : decode cX6_whose 58 = .ok (.iconst 1, 1) := by decide +kernel
theorem dX6_whose_59 : decode cX6_whose 59 = .ok (.iload 6, 2) := by decide +kernel
theorem dX6_whose_61 : decode cX6_whose 61 = .ok (.ishl, 1) := by decide +kernel
theorem dX6_whose_62 : decode cX6_whose 62 = .ok (.ior, 1) := by decide +kernel
theorem dX6_whose_63 : decode cX6_whose 63 = .ok (.istore 5, 2) := by decide +kernel
theorem dX6_whose_65 : decode cX6_whose 65 = .ok (.iinc 6 1, 3) := by decide +kernel
theorem dX6_whose_68 : decode cX6_whose 68 = .ok (.goto (-42), 3) := by decide +kernel
theorem dX6_whose_71 : decode cX6_whose 71 = .ok (.iload 5, 2) := by decide +kernel
theorem dX6_whose_73 : decode cX6_whose 73 = .ok (.ireturn, 1) := by decide +kernel
theorem dX6_power_0 : decode cX6_power 0 = .ok (.lconst 1, 1) := by decide +kernel
theorem dX6_power_1 : decode cX6_power 1 = .ok (.lstore_n 3, 1) := by decide +kernel
theorem dX6_power_2 : decode cX6_power 2 = .ok (.iconst 0, 1) := by decide +kernel
theorem dX6_power_3 : decode cX6_power 3 = .ok (.istore 5, 2) := by decide +kernel
theorem dX6_power_5 : decode cX6_power 5 = .ok (.iload 5, 2) := by decide +kernel
theorem dX6_power_7 : decode cX6_power 7 = .ok (.iload_n 2, 1) := by decide +kernel
theorem dX6_power_8 : decode cX6_power 8 = .ok (.if_icmp .ge 13, 3) := by decide +kernel
theorem dX6_power_11 : decode cX6_power 11 = .ok (.lload_n 3, 1) := by decide +kernel
theorem dX6_power_12 : decode cX6_power 12 = .ok (.lload_n 0, 1) := by decide +kernel
theorem dX6_power_13 : decode cX6_power 13 = .ok (.lmul, 1) := by decide +kernel
theorem dX6_power_14 : decode cX6_power 14 = .ok (.lstore_n 3, 1) := by decide +kernel
theorem dX6_power_15 : decode cX6_power 15 = .ok (.iinc 5 1, 3) := by decide +kernel
theorem dX6_power_18 : decode cX6_power 18 = .ok (.goto (-13), 3) := by decide +kernel
theorem dX6_power_21 : decode cX6_power 21 = .ok (.lload_n 3, 1) := by decide +kernel
theorem dX6_power_22 : decode cX6_power 22 = .ok (.lreturn, 1) := by decide +kernel
theorem dX6_part_0 : decode cX6_part 0 = .ok (.lload_n 0, 1) := by decide +kernel
theorem dX6_part_1 : decode cX6_part 1 = .ok (.lstore 5, 2) := by decide +kernel
theorem dX6_part_3 : decode cX6_part 3 = .ok (.lload_n 2, 1) := by decide +kernel
theorem dX6_part_4 : decode cX6_part 4 = .ok (.lstore 7, 2) := by decide +kernel
theorem dX6_part_6 : decode cX6_part 6 = .ok (.lload 7, 2) := by decide +kernel
theorem dX6_part_8 : decode cX6_part 8 = .ok (.lconst 0, 1) := by decide +kernel
theorem dX6_part_9 : decode cX6_part 9 = .ok (.lcmp, 1) := by decide +kernel
theorem dX6_part_10 : decode cX6_part 10 = .ok (.ifCond .eq 21, 3) := by decide +kernel
theorem dX6_part_13 : decode cX6_part 13 = .ok (.lload 5, 2) := by decide +kernel
theorem dX6_part_15 : decode cX6_part 15 = .ok (.lload 7, 2) := by decide +kernel
theorem dX6_part_17 : decode cX6_part 17 = .ok (.lrem, 1) := by decide +kernel
theorem dX6_part_18 : decode cX6_part 18 = .ok (.lstore 9, 2) := by decide +kernel
theorem dX6_part_20 : decode cX6_part 20 = .ok (.lload 7, 2) := by decide +kernel
theorem dX6_part_22 : decode cX6_part 22 = .ok (.lstore 5, 2) := by decide +kernel
theorem dX6_part_24 : decode cX6_part 24 = .ok (.lload 9, 2) := by decide +kernel
theorem dX6_part_26 : decode cX6_part 26 = .ok (.lstore 7, 2) := by decide +kernel
theorem dX6_part_28 : decode cX6_part 28 = .ok (.goto (-22), 3) := by decide +kernel
theorem dX6_part_31 : decode cX6_part 31 = .ok (.iload 4, 2) := by decide +kernel
theorem dX6_part_33 : decode cX6_part 33 = .ok (.ifCond .ne 10, 3) := by decide +kernel
theorem dX6_part_36 : decode cX6_part 36 = .ok (.lload_n 0, 1) := by decide +kernel
theorem dX6_part_37 : decode cX6_part 37 = .ok (.lload 5, 2) := by decide +kernel
theorem dX6_part_39 : decode cX6_part 39 = .ok (.ldiv, 1) := by decide +kernel
theorem dX6_part_40 : decode cX6_part 40 = .ok (.goto 7, 3) := by decide +kernel
theorem dX6_part_43 : decode cX6_part 43 = .ok (.lload_n 2, 1) := by decide +kernel
theorem dX6_part_44 : decode cX6_part 44 = .ok (.lload 5, 2) := by decide +kernel
theorem dX6_part_46 : decode cX6_part 46 = .ok (.ldiv, 1) := by decide +kernel
theorem dX6_part_47 : decode cX6_part 47 = .ok (.lreturn, 1) := by decide +kernel
set_option maxRecDepth 20000 in
theorem ggX6_inRow_X6_noLong : GoodIn wsX6_inRow wsX6_noLong := goodIn_r _ [6, 7, 8, 9, 10, 5, 11, 12, 22, 23, 24, 25, 26, 27, 28, 29, 30, 31, 32, 33, 34, 35, 36, 37, 38, 39, 40, 41, 42, 43, 44, 45, 46, 47, 48, 49, 50, 51, 52] (by decide +kernel) (by decide +kernel)
set_option maxRecDepth 20000 in
theorem gX6_inRow_X6_noLong : GoodIn wsX6_inRow (wsV RX6 175 RX6 yX6_noLong wsX6_noLong) := goodIn_app (goodIn_of _ (by decide +kernel)) ggX6_inRow_X6_noLong
set_option maxRecDepth 20000 in
theorem ggX6_inRow_X6_within : GoodIn wsX6_inRow wsX6_within := goodIn_r _ [15] (by decide +kernel) (by decide +kernel)
set_option maxRecDepth 20000 in
theorem gX6_inRow_X6_within : GoodIn wsX6_inRow (va_wsS RX6 65 yX6_within wsX6_within) := goodIn_app (goodIn_of _ (by decide +kernel)) ggX6_inRow_X6_within
set_option maxRecDepth 20000 in
theorem ggX6_inRow_X6_power : GoodIn wsX6_inRow wsX6_power := goodIn_r _ [18] (by decide +kernel) (by decide +kernel)
set_option maxRecDepth 20000 in
theorem gX6_inRow_X6_power : GoodIn wsX6_inRow (va_wsS RX6 179 yX6_power wsX6_power) := goodIn_app (goodIn_of _ (by decide +kernel)) ggX6_inRow_X6_power
set_option maxRecDepth 20000 in
theorem ggX6_inRow_X6_part : GoodIn wsX6_inRow wsX6_part := goodIn_r _ [21] (by decide +kernel) (by decide +kernel)
set_option maxRecDepth 20000 in
theorem gX6_inRow_X6_part : GoodIn wsX6_inRow (va_wsS RX6 185 yX6_part wsX6_part) := goodIn_app (goodIn_of _ (by decide +kernel)) ggX6_inRow_X6_part
theorem dX6_inRow_0 : decode cX6_inRow 0 = .ok (.iload_n 1, 1) := by decide +kernel
theorem dX6_inRow_1 : decode cX6_inRow 1 = .ok (.ifCond .lt 7, 3) := by decide +kernel
theorem dX6_inRow_4 : decode cX6_inRow 4 = .ok (.iload_n 2, 1) := by decide +kernel
theorem dX6_inRow_5 : decode cX6_inRow 5 = .ok (.ifCond .ge 10, 3) := by decide +kernel
theorem dX6_inRow_8 : decode cX6_inRow 8 = .ok (.aload_n 0, 1) := by decide +kernel
theorem dX6_inRow_9 : decode cX6_inRow 9 = .ok (.bipush (-4), 2) := by decide +kernel
theorem dX6_inRow_11 : decode cX6_inRow 11 = .ok (.invokevirtual 175, 3) := by decide +kernel
theorem dX6_inRow_14 : decode cX6_inRow 14 = .ok (.lreturn, 1) := by decide +kernel
theorem dX6_inRow_15 : decode cX6_inRow 15 = .ok (.iload_n 1, 1) := by decide +kernel
theorem dX6_inRow_16 : decode cX6_inRow 16 = .ok (.bipush 15, 2) := by decide +kernel
theorem dX6_inRow_18 : decode cX6_inRow 18 = .ok (.if_icmp .gt 9, 3) := by decide +kernel
theorem dX6_inRow_21 : decode cX6_inRow 21 = .ok (.iload_n 2, 1) := by decide +kernel
theorem dX6_inRow_22 : decode cX6_inRow 22 = .ok (.bipush 9, 2) := by decide +kernel
theorem dX6_inRow_24 : decode cX6_inRow 24 = .ok (.if_icmp .le 10, 3) := by decide +kernel
theorem dX6_inRow_27 : decode cX6_inRow 27 = .ok (.aload_n 0, 1) := by decide +kernel
theorem dX6_inRow_28 : decode cX6_inRow 28 = .ok (.bipush (-6), 2) := by decide +kernel
theorem dX6_inRow_30 : decode cX6_inRow 30 = .ok (.invokevirtual 175, 3) := by decide +kernel
theorem dX6_inRow_33 : decode cX6_inRow 33 = .ok (.lreturn, 1) := by decide +kernel
theorem dX6_inRow_34 : decode cX6_inRow 34 = .ok (.iload_n 3, 1) := by decide +kernel
theorem dX6_inRow_35 : decode cX6_inRow 35 = .ok (.iconst 0, 1) := by decide +kernel
theorem dX6_inRow_36 : decode cX6_inRow 36 = .ok (.iconst 1, 1) := by decide +kernel
theorem dX6_inRow_37 : decode cX6_inRow 37 = .ok (.invokestatic 65, 3) := by decide +kernel
theorem dX6_inRow_40 : decode cX6_inRow 40 = .ok (.ifCond .eq 23, 3) := by decide +kernel
theorem dX6_inRow_43 : decode cX6_inRow 43 = .ok (.iload_n 2, 1) := by decide +kernel
theorem dX6_inRow_44 : decode cX6_inRow 44 = .ok (.i2l, 1) := by decide +kernel
theorem dX6_inRow_45 : decode cX6_inRow 45 = .ok (.iload_n 1, 1) := by decide +kernel
theorem dX6_inRow_46 : decode cX6_inRow 46 = .ok (.invokestatic 179, 3) := by decide +kernel
theorem dX6_inRow_49 : decode cX6_inRow 49 = .ok (.ldc2_w 183, 3) := by decide +kernel
theorem dX6_inRow_52 : decode cX6_inRow 52 = .ok (.iload_n 1, 1) := by decide +kernel
theorem dX6_inRow_53 : decode cX6_inRow 53 = .ok (.invokestatic 179, 3) := by decide +kernel
theorem dX6_inRow_56 : decode cX6_inRow 56 = .ok (.iload_n 3, 1) := by decide +kernel
theorem dX6_inRow_57 : decode cX6_inRow 57 = .ok (.invokestatic 185, 3) := by decide +kernel
theorem dX6_inRow_60 : decode cX6_inRow 60 = .ok (.goto 9, 3) := by decide +kernel
theorem dX6_inRow_63 : decode cX6_inRow 63 = .ok (.aload_n 0, 1) := by decide +kernel
theorem dX6_inRow_64 : decode cX6_inRow 64 = .ok (.bipush (-2), 2) := by decide +kernel
theorem dX6_inRow_66 : decode cX6_inRow 66 = .ok (.invokevirtual 175, 3) := by decide +kernel
theorem dX6_inRow_69 : decode cX6_inRow 69 = .ok (.lreturn, 1) := by decide +kernel
set_option maxRecDepth 20000 in
theorem ggX6_soMany_X6_noLong : GoodIn wsX6_soMany wsX6_noLong := goodIn_r _ [6, 7, 8, 9, 10, 5, 11, 12, 22, 23, 24, 25, 26, 27, 28, 29, 30, 31, 32, 33, 34, 35, 36, 37, 38, 39, 40, 41, 42, 43, 44, 45, 46, 47, 48, 49, 50, 51, 52] (by decide +kernel) (by decide +kernel)
set_option maxRecDepth 20000 in
theorem gX6_soMany_X6_noLong : GoodIn wsX6_soMany (wsV RX6 175 RX6 yX6_noLong wsX6_noLong) := goodIn_app (goodIn_of _ (by decide +kernel)) ggX6_soMany_X6_noLong
set_option maxRecDepth 20000 in
theorem ggX6_soMany_X6_within : GoodIn wsX6_soMany wsX6_within := goodIn_r _ [15] (by decide +kernel) (by decide +kernel)
set_option maxRecDepth 20000 in
theorem gX6_soMany_X6_within : GoodIn wsX6_soMany (va_wsS RX6 65 yX6_within wsX6_within) := goodIn_app (goodIn_of _ (by decide +kernel)) ggX6_soMany_X6_within
set_option maxRecDepth 20000 in
theorem ggX6_soMany_X6_power : GoodIn wsX6_soMany wsX6_power := goodIn_r _ [18] (by decide +kernel) (by decide +kernel)
set_option maxRecDepth 20000 in
theorem gX6_soMany_X6_power : GoodIn wsX6_soMany (va_wsS RX6 179 yX6_power wsX6_power) := goodIn_app (goodIn_of _ (by decide +kernel)) ggX6_soMany_X6_power
set_option maxRecDepth 20000 in
theorem ggX6_soMany_X6_part : GoodIn wsX6_soMany wsX6_part := goodIn_r _ [21] (by decide +kernel) (by decide +kernel)
set_option maxRecDepth 20000 in
theorem gX6_soMany_X6_part : GoodIn wsX6_soMany (va_wsS RX6 185 yX6_part wsX6_part) := goodIn_app (goodIn_of _ (by decide +kernel)) ggX6_soMany_X6_part
theorem dX6_soMany_0 : decode cX6_soMany 0 = .ok (.iload_n 1, 1) := by decide +kernel
theorem dX6_soMany_1 : decode cX6_soMany 1 = .ok (.ifCond .lt 11, 3) := by decide +kernel
theorem dX6_soMany_4 : decode cX6_soMany 4 = .ok (.iload_n 2, 1) := by decide +kernel
theorem dX6_soMany_5 : decode cX6_soMany 5 = .ok (.ifCond .lt 7, 3) := by decide +kernel
theorem dX6_soMany_8 : decode cX6_soMany 8 = .ok (.iload_n 3, 1) := by decide +kernel
theorem dX6_soMany_9 : decode cX6_soMany 9 = .ok (.ifCond .ge 10, 3) := by decide +kernel
theorem dX6_soMany_12 : decode cX6_soMany 12 = .ok (.aload_n 0, 1) := by decide +kernel
theorem dX6_soMany_13 : decode cX6_soMany 13 = .ok (.bipush (-4), 2) := by decide +kernel
theorem dX6_soMany_15 : decode cX6_soMany 15 = .ok (.invokevirtual 175, 3) := by decide +kernel
theorem dX6_soMany_18 : decode cX6_soMany 18 = .ok (.lreturn, 1) := by decide +kernel
theorem dX6_soMany_19 : decode cX6_soMany 19 = .ok (.iload_n 1, 1) := by decide +kernel
theorem dX6_soMany_20 : decode cX6_soMany 20 = .ok (.bipush 15, 2) := by decide +kernel
theorem dX6_soMany_22 : decode cX6_soMany 22 = .ok (.if_icmp .gt 14, 3) := by decide +kernel
theorem dX6_soMany_25 : decode cX6_soMany 25 = .ok (.iload_n 2, 1) := by decide +kernel
theorem dX6_soMany_26 : decode cX6_soMany 26 = .ok (.iload_n 1, 1) := by decide +kernel
theorem dX6_soMany_27 : decode cX6_soMany 27 = .ok (.if_icmp .gt 9, 3) := by decide +kernel
theorem dX6_soMany_30 : decode cX6_soMany 30 = .ok (.iload_n 3, 1) := by decide +kernel
theorem dX6_soMany_31 : decode cX6_soMany 31 = .ok (.bipush 9, 2) := by decide +kernel
theorem dX6_soMany_33 : decode cX6_soMany 33 = .ok (.if_icmp .le 10, 3) := by decide +kernel
theorem dX6_soMany_36 : decode cX6_soMany 36 = .ok (.aload_n 0, 1) := by decide +kernel
theorem dX6_soMany_37 : decode cX6_soMany 37 = .ok (.bipush (-6), 2) := by decide +kernel
theorem dX6_soMany_39 : decode cX6_soMany 39 = .ok (.invokevirtual 175, 3) := by decide +kernel
theorem dX6_soMany_42 : decode cX6_soMany 42 = .ok (.lreturn, 1) := by decide +kernel
theorem dX6_soMany_43 : decode cX6_soMany 43 = .ok (.iload 4, 2) := by decide +kernel
theorem dX6_soMany_45 : decode cX6_soMany 45 = .ok (.iconst 0, 1) := by decide +kernel
theorem dX6_soMany_46 : decode cX6_soMany 46 = .ok (.iconst 1, 1) := by decide +kernel
theorem dX6_soMany_47 : decode cX6_soMany 47 = .ok (.invokestatic 65, 3) := by decide +kernel
theorem dX6_soMany_50 : decode cX6_soMany 50 = .ok (.ifCond .ne 10, 3) := by decide +kernel
theorem dX6_soMany_53 : decode cX6_soMany 53 = .ok (.aload_n 0, 1) := by decide +kernel
theorem dX6_soMany_54 : decode cX6_soMany 54 = .ok (.bipush (-2), 2) := by decide +kernel
theorem dX6_soMany_56 : decode cX6_soMany 56 = .ok (.invokevirtual 175, 3) := by decide +kernel
theorem dX6_soMany_59 : decode cX6_soMany 59 = .ok (.lreturn, 1) := by decide +kernel
theorem dX6_soMany_60 : decode cX6_soMany 60 = .ok (.lconst 0, 1) := by decide +kernel
theorem dX6_soMany_61 : decode cX6_soMany 61 = .ok (.lstore 5, 2) := by decide +kernel
theorem dX6_soMany_63 : decode cX6_soMany 63 = .ok (.lconst 1, 1) := by decide +kernel
theorem dX6_soMany_64 : decode cX6_soMany 64 = .ok (.lstore 7, 2) := by decide +kernel
theorem dX6_soMany_66 : decode cX6_soMany 66 = .ok (.iconst 0, 1) := by decide +kernel
theorem dX6_soMany_67 : decode cX6_soMany 67 = .ok (.istore 9, 2) := by decide +kernel
theorem dX6_soMany_69 : decode cX6_soMany 69 = .ok (.iload 9, 2) := by decide +kernel
theorem dX6_soMany_71 : decode cX6_soMany 71 = .ok (.iload_n 1, 1) := by decide +kernel
theorem dX6_soMany_72 : decode cX6_soMany 72 = .ok (.if_icmp .gt 64, 3) := by decide +kernel
theorem dX6_soMany_75 : decode cX6_soMany 75 = .ok (.iload 9, 2) := by decide +kernel
theorem dX6_soMany_77 : decode cX6_soMany 77 = .ok (.ifCond .le 19, 3) := by decide +kernel
theorem dX6_soMany_80 : decode cX6_soMany 80 = .ok (.lload 7, 2) := by decide +kernel
theorem dX6_soMany_82 : decode cX6_soMany 82 = .ok (.iload_n 1, 1) := by decide +kernel
theorem dX6_soMany_83 : decode cX6_soMany 83 = .ok (.iload 9, 2) := by decide +kernel
theorem dX6_soMany_85 : decode cX6_soMany 85 = .ok (.isub, 1) := by decide +kernel
theorem dX6_soMany_86 : decode cX6_soMany 86 = .ok (.iconst 1, 1) := by decide +kernel
theorem dX6_soMany_87 : decode cX6_soMany 87 = .ok (.iadd, 1) := by decide +kernel
theorem dX6_soMany_88 : decode cX6_soMany 88 = .ok (.i2l, 1) := by decide +kernel
theorem dX6_soMany_89 : decode cX6_soMany 89 = .ok (.lmul, 1) := by decide +kernel
theorem dX6_soMany_90 : decode cX6_soMany 90 = .ok (.iload 9, 2) := by decide +kernel
theorem dX6_soMany_92 : decode cX6_soMany 92 = .ok (.i2l, 1) := by decide +kernel
theorem dX6_soMany_93 : decode cX6_soMany 93 = .ok (.ldiv, 1) := by decide +kernel
theorem dX6_soMany_94 : decode cX6_soMany 94 = .ok (.lstore 7, 2) := by decide +kernel
theorem dX6_soMany_96 : decode cX6_soMany 96 = .ok (.iload 9, 2) := by decide +kernel
theorem dX6_soMany_98 : decode cX6_soMany 98 = .ok (.iload_n 2, 1) := by decide +kernel
theorem dX6_soMany_99 : decode cX6_soMany 99 = .ok (.if_icmp .lt 31, 3) := by decide +kernel
theorem dX6_soMany_102 : decode cX6_soMany 102 = .ok (.lload 5, 2) := by decide +kernel
theorem dX6_soMany_104 : decode cX6_soMany 104 = .ok (.lload 7, 2) := by decide +kernel
theorem dX6_soMany_106 : decode cX6_soMany 106 = .ok (.iload_n 3, 1) := by decide +kernel
theorem dX6_soMany_107 : decode cX6_soMany 107 = .ok (.i2l, 1) := by decide +kernel
theorem dX6_soMany_108 : decode cX6_soMany 108 = .ok (.iload 9, 2) := by decide +kernel
theorem dX6_soMany_110 : decode cX6_soMany 110 = .ok (.invokestatic 179, 3) := by decide +kernel
theorem dX6_soMany_113 : decode cX6_soMany 113 = .ok (.lmul, 1) := by decide +kernel
theorem dX6_soMany_114 : decode cX6_soMany 114 = .ok (.bipush 9, 2) := by decide +kernel
theorem dX6_soMany_116 : decode cX6_soMany 116 = .ok (.iload_n 3, 1) := by decide +kernel
theorem dX6_soMany_117 : decode cX6_soMany 117 = .ok (.isub, 1) := by decide +kernel
theorem dX6_soMany_118 : decode cX6_soMany 118 = .ok (.i2l, 1) := by decide +kernel
theorem dX6_soMany_119 : decode cX6_soMany 119 = .ok (.iload_n 1, 1) := by decide +kernel
theorem dX6_soMany_120 : decode cX6_soMany 120 = .ok (.iload 9, 2) := by decide +kernel
theorem dX6_soMany_122 : decode cX6_soMany 122 = .ok (.isub, 1) := by decide +kernel
theorem dX6_soMany_123 : decode cX6_soMany 123 = .ok (.invokestatic 179, 3) := by decide +kernel
theorem dX6_soMany_126 : decode cX6_soMany 126 = .ok (.lmul, 1) := by decide +kernel
theorem dX6_soMany_127 : decode cX6_soMany 127 = .ok (.ladd, 1) := by decide +kernel
theorem dX6_soMany_128 : decode cX6_soMany 128 = .ok (.lstore 5, 2) := by decide +kernel
theorem dX6_soMany_130 : decode cX6_soMany 130 = .ok (.iinc 9 1, 3) := by decide +kernel
theorem dX6_soMany_133 : decode cX6_soMany 133 = .ok (.goto (-64), 3) := by decide +kernel
theorem dX6_soMany_136 : decode cX6_soMany 136 = .ok (.lload 5, 2) := by decide +kernel
theorem dX6_soMany_138 : decode cX6_soMany 138 = .ok (.ldc2_w 183, 3) := by decide +kernel
theorem dX6_soMany_141 : decode cX6_soMany 141 = .ok (.iload_n 1, 1) := by decide +kernel
theorem dX6_soMany_142 : decode cX6_soMany 142 = .ok (.invokestatic 179, 3) := by decide +kernel
theorem dX6_soMany_145 : decode cX6_soMany 145 = .ok (.iload 4, 2) := by decide +kernel
theorem dX6_soMany_147 : decode cX6_soMany 147 = .ok (.invokestatic 185, 3) := by decide +kernel
theorem dX6_soMany_150 : decode cX6_soMany 150 = .ok (.lreturn, 1) := by decide +kernel
set_option maxRecDepth 20000 in
theorem ggX6_farthest_X6_isBall : GoodIn wsX6_farthest wsX6_isBall := goodIn_r _ [12, 13, 14, 15, 11, 16, 60, 61, 62, 63, 64, 65, 66, 67, 68, 69, 70, 71, 72, 73, 74, 75, 76, 77, 78, 79, 80, 81, 82, 83, 84, 85, 86, 87, 88, 89, 90] (by decide +kernel) (by decide +kernel)
set_option maxRecDepth 20000 in
theorem gX6_farthest_X6_isBall : GoodIn wsX6_farthest (wsV RX6 119 RX6 yX6_isBall wsX6_isBall) := goodIn_app (goodIn_of _ (by decide +kernel)) ggX6_farthest_X6_isBall
set_option maxRecDepth 20000 in
theorem ggX6_farthest_X6_no : GoodIn wsX6_farthest wsX6_no := goodIn_r _ [20, 21, 60, 61, 62, 63, 64, 65, 66, 67, 68, 69, 70, 71, 72, 73, 74, 75, 76, 77, 78, 79, 80, 81, 82, 83, 84, 85, 86, 87, 88, 89, 90] (by decide +kernel) (by decide +kernel)
set_option maxRecDepth 20000 in
theorem gX6_farthest_X6_no : GoodIn wsX6_farthest (wsV RX6 58 RX6 yX6_no wsX6_no) := goodIn_app (goodIn_of _ (by decide +kernel)) ggX6_farthest_X6_no
set_option maxRecDepth 20000 in
theorem ggX6_farthest_X6_isIn : GoodIn wsX6_farthest wsX6_isIn := goodIn_r _ [25, 26, 27, 28, 29, 11, 30, 31, 32, 33, 34, 35, 36, 2, 37, 1, 3, 38, 39, 6, 40, 41, 42, 4, 5, 7, 43, 44, 45, 46, 47, 48, 49, 50, 14, 15, 16, 51, 52, 53, 54, 55, 56, 57, 58, 59, 60, 61, 62, 63, 64, 65, 66, 67, 68, 69, 70, 71, 72, 73, 74, 75, 76, 77, 78, 79, 80, 81, 82, 83, 84, 85, 86, 87, 88, 89, 90] (by decide +kernel) (by decide +kernel)
set_option maxRecDepth 20000 in
theorem gX6_farthest_X6_isIn : GoodIn wsX6_farthest (wsV RX6 169 RX6 yX6_isIn wsX6_isIn) := goodIn_app (goodIn_of _ (by decide +kernel)) ggX6_farthest_X6_isIn
theorem dX6_farthest_0 : decode cX6_farthest 0 = .ok (.aload_n 0, 1) := by decide +kernel
theorem dX6_farthest_1 : decode cX6_farthest 1 = .ok (.iload_n 1, 1) := by decide +kernel
theorem dX6_farthest_2 : decode cX6_farthest 2 = .ok (.invokevirtual 119, 3) := by decide +kernel
theorem dX6_farthest_5 : decode cX6_farthest 5 = .ok (.ifCond .ne 9, 3) := by decide +kernel
theorem dX6_farthest_8 : decode cX6_farthest 8 = .ok (.aload_n 0, 1) := by decide +kernel
theorem dX6_farthest_9 : decode cX6_farthest 9 = .ok (.iconst (-1), 1) := by decide +kernel
theorem dX6_farthest_10 : decode cX6_farthest 10 = .ok (.invokevirtual 58, 3) := by decide +kernel
theorem dX6_farthest_13 : decode cX6_farthest 13 = .ok (.ireturn, 1) := by decide +kernel
theorem dX6_farthest_14 : decode cX6_farthest 14 = .ok (.aload_n 0, 1) := by decide +kernel
theorem dX6_farthest_15 : decode cX6_farthest 15 = .ok (.getfield 38, 3) := by decide +kernel
theorem dX6_farthest_18 : decode cX6_farthest 18 = .ok (.istore_n 2, 1) := by decide +kernel
theorem dX6_farthest_19 : decode cX6_farthest 19 = .ok (.bipush (-9), 2) := by decide +kernel
theorem dX6_farthest_21 : decode cX6_farthest 21 = .ok (.istore_n 3, 1) := by decide +kernel
theorem dX6_farthest_22 : decode cX6_farthest 22 = .ok (.bipush 40, 2) := by decide +kernel
theorem dX6_farthest_24 : decode cX6_farthest 24 = .ok (.aload_n 0, 1) := by decide +kernel
theorem dX6_farthest_25 : decode cX6_farthest 25 = .ok (.getfield 47, 3) := by decide +kernel
theorem dX6_farthest_28 : decode cX6_farthest 28 = .ok (.aload_n 0, 1) := by decide +kernel
theorem dX6_farthest_29 : decode cX6_farthest 29 = .ok (.getfield 41, 3) := by decide +kernel
theorem dX6_farthest_32 : decode cX6_farthest 32 = .ok (.isub, 1) := by decide +kernel
theorem dX6_farthest_33 : decode cX6_farthest 33 = .ok (.invokestatic 146, 3) := by decide +kernel
theorem dX6_farthest_36 : decode cX6_farthest 36 = .ok (.istore 4, 2) := by decide +kernel
theorem dX6_farthest_38 : decode cX6_farthest 38 = .ok (.iload 4, 2) := by decide +kernel
theorem dX6_farthest_40 : decode cX6_farthest 40 = .ok (.ifCond .le 71, 3) := by decide +kernel
theorem dX6_farthest_43 : decode cX6_farthest 43 = .ok (.iload_n 3, 1) := by decide +kernel
theorem dX6_farthest_44 : decode cX6_farthest 44 = .ok (.ifCond .ge 67, 3) := by decide +kernel
theorem dX6_farthest_47 : decode cX6_farthest 47 = .ok (.aload_n 0, 1) := by decide +kernel
theorem dX6_farthest_48 : decode cX6_farthest 48 = .ok (.iload 4, 2) := by decide +kernel
theorem dX6_farthest_50 : decode cX6_farthest 50 = .ok (.putfield 38, 3) := by decide +kernel
theorem dX6_farthest_53 : decode cX6_farthest 53 = .ok (.iconst 1, 1) := by decide +kernel
theorem dX6_farthest_54 : decode cX6_farthest 54 = .ok (.istore 5, 2) := by decide +kernel
theorem dX6_farthest_56 : decode cX6_farthest 56 = .ok (.iload 5, 2) := by decide +kernel
theorem dX6_farthest_58 : decode cX6_farthest 58 = .ok (.bipush 10, 2) := by decide +kernel
theorem dX6_farthest_60 : decode cX6_farthest 60 = .ok (.if_icmp .ge 45, 3) := by decide +kernel
theorem dX6_farthest_63 : decode cX6_farthest 63 = .ok (.bipush (-5), 2) := by decide +kernel
theorem dX6_farthest_65 : decode cX6_farthest 65 = .ok (.istore 6, 2) := by decide +kernel
theorem dX6_farthest_67 : decode cX6_farthest 67 = .ok (.iload 6, 2) := by decide +kernel
theorem dX6_farthest_69 : decode cX6_farthest 69 = .ok (.bipush 16, 2) := by decide +kernel
theorem dX6_farthest_71 : decode cX6_farthest 71 = .ok (.if_icmp .ge 28, 3) := by decide +kernel
theorem dX6_farthest_74 : decode cX6_farthest 74 = .ok (.iload_n 3, 1) := by decide +kernel
theorem dX6_farthest_75 : decode cX6_farthest 75 = .ok (.ifCond .ge 18, 3) := by decide +kernel
theorem dX6_farthest_78 : decode cX6_farthest 78 = .ok (.aload_n 0, 1) := by decide +kernel
theorem dX6_farthest_79 : decode cX6_farthest 79 = .ok (.iload_n 1, 1) := by decide +kernel
theorem dX6_farthest_80 : decode cX6_farthest 80 = .ok (.iload 5, 2) := by decide +kernel
theorem dX6_farthest_82 : decode cX6_farthest 82 = .ok (.iload 6, 2) := by decide +kernel
theorem dX6_farthest_84 : decode cX6_farthest 84 = .ok (.invokevirtual 169, 3) := by decide +kernel
theorem dX6_farthest_87 : decode cX6_farthest 87 = .ok (.ifCond .eq 6, 3) := by decide +kernel
theorem dX6_farthest_90 : decode cX6_farthest 90 = .ok (.iload 4, 2) := by decide +kernel
theorem dX6_farthest_92 : decode cX6_farthest 92 = .ok (.istore_n 3, 1) := by decide +kernel
theorem dX6_farthest_93 : decode cX6_farthest 93 = .ok (.iinc 6 1, 3) := by decide +kernel
theorem dX6_farthest_96 : decode cX6_farthest 96 = .ok (.goto (-29), 3) := by decide +kernel
theorem dX6_farthest_99 : decode cX6_farthest 99 = .ok (.iinc 5 1, 3) := by decide +kernel
theorem dX6_farthest_102 : decode cX6_farthest 102 = .ok (.goto (-46), 3) := by decide +kernel
theorem dX6_farthest_105 : decode cX6_farthest 105 = .ok (.iinc 4 (-1), 3) := by decide +kernel
theorem dX6_farthest_108 : decode cX6_farthest 108 = .ok (.goto (-70), 3) := by decide +kernel
theorem dX6_farthest_111 : decode cX6_farthest 111 = .ok (.aload_n 0, 1) := by decide +kernel
theorem dX6_farthest_112 : decode cX6_farthest 112 = .ok (.iload_n 2, 1) := by decide +kernel
theorem dX6_farthest_113 : decode cX6_farthest 113 = .ok (.putfield 38, 3) := by decide +kernel
theorem dX6_farthest_116 : decode cX6_farthest 116 = .ok (.iload_n 3, 1) := by decide +kernel
theorem dX6_farthest_117 : decode cX6_farthest 117 = .ok (.ireturn, 1) := by decide +kernel
set_option maxRecDepth 20000 in
theorem ggX6_row_X6_no : GoodIn wsX6_row wsX6_no := goodIn_r _ [7, 8, 9, 10, 11, 12, 13, 14, 15, 16, 17, 18, 19, 20, 21, 22, 23, 24, 25, 26, 27, 28, 29, 30, 31, 32, 33, 34, 35, 36, 37, 38, 39] (by decide +kernel) (by decide +kernel)
set_option maxRecDepth 20000 in
theorem gX6_row_X6_no : GoodIn wsX6_row (wsV RX6 58 RX6 yX6_no wsX6_no) := goodIn_app (goodIn_of _ (by decide +kernel)) ggX6_row_X6_no
theorem dX6_row_0 : decode cX6_row 0 = .ok (.iload_n 1, 1) := by decide +kernel
theorem dX6_row_1 : decode cX6_row 1 = .ok (.ifCond .ge 10, 3) := by decide +kernel
theorem dX6_row_4 : decode cX6_row 4 = .ok (.aload_n 0, 1) := by decide +kernel
theorem dX6_row_5 : decode cX6_row 5 = .ok (.bipush (-4), 2) := by decide +kernel
theorem dX6_row_7 : decode cX6_row 7 = .ok (.invokevirtual 58, 3) := by decide +kernel
theorem dX6_row_10 : decode cX6_row 10 = .ok (.ireturn, 1) := by decide +kernel
theorem dX6_row_11 : decode cX6_row 11 = .ok (.iload_n 1, 1) := by decide +kernel
theorem dX6_row_12 : decode cX6_row 12 = .ok (.sipush 9999, 3) := by decide +kernel
theorem dX6_row_15 : decode cX6_row 15 = .ok (.if_icmp .gt 12, 3) := by decide +kernel
theorem dX6_row_18 : decode cX6_row 18 = .ok (.aload_n 0, 1) := by decide +kernel
theorem dX6_row_19 : decode cX6_row 19 = .ok (.getfield 189, 3) := by decide +kernel
theorem dX6_row_22 : decode cX6_row 22 = .ok (.bipush 12, 2) := by decide +kernel
theorem dX6_row_24 : decode cX6_row 24 = .ok (.if_icmp .ne 10, 3) := by decide +kernel
theorem dX6_row_27 : decode cX6_row 27 = .ok (.aload_n 0, 1) := by decide +kernel
theorem dX6_row_28 : decode cX6_row 28 = .ok (.bipush (-6), 2) := by decide +kernel
theorem dX6_row_30 : decode cX6_row 30 = .ok (.invokevirtual 58, 3) := by decide +kernel
theorem dX6_row_33 : decode cX6_row 33 = .ok (.ireturn, 1) := by decide +kernel
theorem dX6_row_34 : decode cX6_row 34 = .ok (.aload_n 0, 1) := by decide +kernel
theorem dX6_row_35 : decode cX6_row 35 = .ok (.getfield 22, 3) := by decide +kernel
theorem dX6_row_38 : decode cX6_row 38 = .ok (.aload_n 0, 1) := by decide +kernel
theorem dX6_row_39 : decode cX6_row 39 = .ok (.dup, 1) := by decide +kernel
theorem dX6_row_40 : decode cX6_row 40 = .ok (.getfield 189, 3) := by decide +kernel
theorem dX6_row_43 : decode cX6_row 43 = .ok (.dup_x1, 1) := by decide +kernel
theorem dX6_row_44 : decode cX6_row 44 = .ok (.iconst 1, 1) := by decide +kernel
theorem dX6_row_45 : decode cX6_row 45 = .ok (.iadd, 1) := by decide +kernel
theorem dX6_row_46 : decode cX6_row 46 = .ok (.putfield 189, 3) := by decide +kernel
theorem dX6_row_49 : decode cX6_row 49 = .ok (.iload_n 1, 1) := by decide +kernel
theorem dX6_row_50 : decode cX6_row 50 = .ok (.iastore, 1) := by decide +kernel
theorem dX6_row_51 : decode cX6_row 51 = .ok (.aload_n 0, 1) := by decide +kernel
theorem dX6_row_52 : decode cX6_row 52 = .ok (.getfield 189, 3) := by decide +kernel
theorem dX6_row_55 : decode cX6_row 55 = .ok (.ireturn, 1) := by decide +kernel
set_option maxRecDepth 20000 in
theorem ggX6_judge_X6_keep : GoodIn wsX6_judge wsX6_keep := goodIn_r _ [8, 9, 10, 11, 12, 13, 14, 15, 16, 17, 18, 19, 20, 21, 22, 23, 24, 72, 73, 74, 75, 76, 77, 78, 79, 80, 81, 82, 83, 84, 85, 86, 87, 88, 89, 90, 91, 92, 93, 94, 95, 96, 97, 98, 99, 100, 101, 102] (by decide +kernel) (by decide +kernel)
set_option maxRecDepth 20000 in
theorem gX6_judge_X6_keep : GoodIn wsX6_judge (wsV RX6 106 RX6 yX6_keep wsX6_keep) := goodIn_app (goodIn_of _ (by decide +kernel)) ggX6_judge_X6_keep
set_option maxRecDepth 20000 in
theorem ggX6_judge_X6_isBall : GoodIn wsX6_judge wsX6_isBall := goodIn_r _ [28, 24, 29, 30, 7, 31, 72, 73, 74, 75, 76, 77, 78, 79, 80, 81, 82, 83, 84, 85, 86, 87, 88, 89, 90, 91, 92, 93, 94, 95, 96, 97, 98, 99, 100, 101, 102] (by decide +kernel) (by decide +kernel)
set_option maxRecDepth 20000 in
theorem gX6_judge_X6_isBall : GoodIn wsX6_judge (wsV RX6 119 RX6 yX6_isBall wsX6_isBall) := goodIn_app (goodIn_of _ (by decide +kernel)) ggX6_judge_X6_isBall
set_option maxRecDepth 20000 in
theorem ggX6_judge_X6_noThrow : GoodIn wsX6_judge wsX6_noThrow := goodIn_r _ [35] (by decide +kernel) (by decide +kernel)
set_option maxRecDepth 20000 in
theorem gX6_judge_X6_noThrow : GoodIn wsX6_judge (wsV RX6 156 RX6 yX6_noThrow wsX6_noThrow) := goodIn_app (goodIn_of _ (by decide +kernel)) ggX6_judge_X6_noThrow
set_option maxRecDepth 20000 in
theorem ggX6_judge_X6_goes : GoodIn wsX6_judge wsX6_goes := goodIn_r _ [39, 21, 23, 22, 16, 40, 41, 42, 7, 43, 12, 44, 45, 46, 47, 18, 17, 15, 13, 14, 48, 49, 50, 51, 52, 53, 54, 55, 20, 56, 57, 58, 59, 10, 11, 9, 29, 30, 31, 60, 61, 62, 63, 64, 65, 66, 67, 19, 72, 73, 74, 75, 76, 77, 78, 79, 80, 81, 82, 83, 84, 85, 86, 87, 88, 89, 90, 91, 92, 93, 94, 95, 96, 97, 98, 99, 100, 101, 102] (by decide +kernel) (by decide +kernel)
set_option maxRecDepth 20000 in
theorem gX6_judge_X6_goes : GoodIn wsX6_judge (wsV RX6 165 RX6 yX6_goes wsX6_goes) := goodIn_app (goodIn_of _ (by decide +kernel)) ggX6_judge_X6_goes
set_option maxRecDepth 20000 in
theorem ggX6_judge_X6_again : GoodIn wsX6_judge wsX6_again := goodIn_r _ [71, 9, 10, 11, 12, 13, 14, 15, 16, 17, 18, 19, 20, 21, 22, 23, 24, 72, 73, 74, 75, 76, 77, 78, 79, 80, 81, 82, 83, 84, 85, 86, 87, 88, 89, 90, 91, 92, 93, 94, 95, 96, 97, 98, 99, 100, 101, 102] (by decide +kernel) (by decide +kernel)
set_option maxRecDepth 20000 in
theorem gX6_judge_X6_again : GoodIn wsX6_judge (wsV RX6 110 RX6 yX6_again wsX6_again) := goodIn_app (goodIn_of _ (by decide +kernel)) ggX6_judge_X6_again
theorem dX6_judge_0 : decode cX6_judge 0 = .ok (.aload_n 0, 1) := by decide +kernel
theorem dX6_judge_1 : decode cX6_judge 1 = .ok (.getfield 189, 3) := by decide +kernel
theorem dX6_judge_4 : decode cX6_judge 4 = .ok (.istore_n 1, 1) := by decide +kernel
theorem dX6_judge_5 : decode cX6_judge 5 = .ok (.aload_n 0, 1) := by decide +kernel
theorem dX6_judge_6 : decode cX6_judge 6 = .ok (.iconst 0, 1) := by decide +kernel
theorem dX6_judge_7 : decode cX6_judge 7 = .ok (.putfield 189, 3) := by decide +kernel
theorem dX6_judge_10 : decode cX6_judge 10 = .ok (.aload_n 0, 1) := by decide +kernel
theorem dX6_judge_11 : decode cX6_judge 11 = .ok (.aload_n 0, 1) := by decide +kernel
theorem dX6_judge_12 : decode cX6_judge 12 = .ok (.getfield 31, 3) := by decide +kernel
theorem dX6_judge_15 : decode cX6_judge 15 = .ok (.invokevirtual 106, 3) := by decide +kernel
theorem dX6_judge_18 : decode cX6_judge 18 = .ok (.bipush (-9), 2) := by decide +kernel
theorem dX6_judge_20 : decode cX6_judge 20 = .ok (.istore_n 2, 1) := by decide +kernel
theorem dX6_judge_21 : decode cX6_judge 21 = .ok (.iconst 0, 1) := by decide +kernel
theorem dX6_judge_22 : decode cX6_judge 22 = .ok (.istore_n 3, 1) := by decide +kernel
theorem dX6_judge_23 : decode cX6_judge 23 = .ok (.iload_n 3, 1) := by decide +kernel
theorem dX6_judge_24 : decode cX6_judge 24 = .ok (.iload_n 1, 1) := by decide +kernel
theorem dX6_judge_25 : decode cX6_judge 25 = .ok (.if_icmp .ge 89, 3) := by decide +kernel
theorem dX6_judge_28 : decode cX6_judge 28 = .ok (.iload_n 2, 1) := by decide +kernel
theorem dX6_judge_29 : decode cX6_judge 29 = .ok (.bipush (-9), 2) := by decide +kernel
theorem dX6_judge_31 : decode cX6_judge 31 = .ok (.if_icmp .ne 83, 3) := by decide +kernel
theorem dX6_judge_34 : decode cX6_judge 34 = .ok (.aload_n 0, 1) := by decide +kernel
theorem dX6_judge_35 : decode cX6_judge 35 = .ok (.getfield 22, 3) := by decide +kernel
theorem dX6_judge_38 : decode cX6_judge 38 = .ok (.iload_n 3, 1) := by decide +kernel
theorem dX6_judge_39 : decode cX6_judge 39 = .ok (.iaload, 1) := by decide +kernel
theorem dX6_judge_40 : decode cX6_judge 40 = .ok (.sipush 1000, 3) := by decide +kernel
theorem dX6_judge_43 : decode cX6_judge 43 = .ok (.idiv, 1) := by decide +kernel
theorem dX6_judge_44 : decode cX6_judge 44 = .ok (.istore 4, 2) := by decide +kernel
theorem dX6_judge_46 : decode cX6_judge 46 = .ok (.aload_n 0, 1) := by decide +kernel
theorem dX6_judge_47 : decode cX6_judge 47 = .ok (.getfield 22, 3) := by decide +kernel
theorem dX6_judge_50 : decode cX6_judge 50 = .ok (.iload_n 3, 1) := by decide +kernel
theorem dX6_judge_51 : decode cX6_judge 51 = .ok (.iaload, 1) := by decide +kernel
theorem dX6_judge_52 : decode cX6_judge 52 = .ok (.bipush 100, 2) := by decide +kernel
theorem dX6_judge_54 : decode cX6_judge 54 = .ok (.idiv, 1) := by decide +kernel
theorem dX6_judge_55 : decode cX6_judge 55 = .ok (.bipush 10, 2) := by decide +kernel
theorem dX6_judge_57 : decode cX6_judge 57 = .ok (.irem, 1) := by decide +kernel
theorem dX6_judge_58 : decode cX6_judge 58 = .ok (.istore 5, 2) := by decide +kernel
theorem dX6_judge_60 : decode cX6_judge 60 = .ok (.aload_n 0, 1) := by decide +kernel
theorem dX6_judge_61 : decode cX6_judge 61 = .ok (.getfield 22, 3) := by decide +kernel
theorem dX6_judge_64 : decode cX6_judge 64 = .ok (.iload_n 3, 1) := by decide +kernel
theorem dX6_judge_65 : decode cX6_judge 65 = .ok (.iaload, 1) := by decide +kernel
theorem dX6_judge_66 : decode cX6_judge 66 = .ok (.bipush 100, 2) := by decide +kernel
theorem dX6_judge_68 : decode cX6_judge 68 = .ok (.irem, 1) := by decide +kernel
theorem dX6_judge_69 : decode cX6_judge 69 = .ok (.iconst 5, 1) := by decide +kernel
theorem dX6_judge_70 : decode cX6_judge 70 = .ok (.isub, 1) := by decide +kernel
theorem dX6_judge_71 : decode cX6_judge 71 = .ok (.istore 6, 2) := by decide +kernel
theorem dX6_judge_73 : decode cX6_judge 73 = .ok (.aload_n 0, 1) := by decide +kernel
theorem dX6_judge_74 : decode cX6_judge 74 = .ok (.iload 4, 2) := by decide +kernel
theorem dX6_judge_76 : decode cX6_judge 76 = .ok (.invokevirtual 119, 3) := by decide +kernel
theorem dX6_judge_79 : decode cX6_judge 79 = .ok (.ifCond .eq 27, 3) := by decide +kernel
theorem dX6_judge_82 : decode cX6_judge 82 = .ok (.aload_n 0, 1) := by decide +kernel
theorem dX6_judge_83 : decode cX6_judge 83 = .ok (.iload 5, 2) := by decide +kernel
theorem dX6_judge_85 : decode cX6_judge 85 = .ok (.iload 6, 2) := by decide +kernel
theorem dX6_judge_87 : decode cX6_judge 87 = .ok (.invokevirtual 156, 3) := by decide +kernel
theorem dX6_judge_90 : decode cX6_judge 90 = .ok (.ifCond .lt 16, 3) := by decide +kernel
theorem dX6_judge_93 : decode cX6_judge 93 = .ok (.aload_n 0, 1) := by decide +kernel
theorem dX6_judge_94 : decode cX6_judge 94 = .ok (.iload 4, 2) := by decide +kernel
theorem dX6_judge_96 : decode cX6_judge 96 = .ok (.iload 5, 2) := by decide +kernel
theorem dX6_judge_98 : decode cX6_judge 98 = .ok (.iload 6, 2) := by decide +kernel
theorem dX6_judge_100 : decode cX6_judge 100 = .ok (.invokevirtual 165, 3) := by decide +kernel
theorem dX6_judge_103 : decode cX6_judge 103 = .ok (.ifCond .eq 5, 3) := by decide +kernel
theorem dX6_judge_106 : decode cX6_judge 106 = .ok (.iload_n 3, 1) := by decide +kernel
theorem dX6_judge_107 : decode cX6_judge 107 = .ok (.istore_n 2, 1) := by decide +kernel
theorem dX6_judge_108 : decode cX6_judge 108 = .ok (.iinc 3 1, 3) := by decide +kernel
theorem dX6_judge_111 : decode cX6_judge 111 = .ok (.goto (-88), 3) := by decide +kernel
theorem dX6_judge_114 : decode cX6_judge 114 = .ok (.aload_n 0, 1) := by decide +kernel
theorem dX6_judge_115 : decode cX6_judge 115 = .ok (.aload_n 0, 1) := by decide +kernel
theorem dX6_judge_116 : decode cX6_judge 116 = .ok (.getfield 31, 3) := by decide +kernel
theorem dX6_judge_119 : decode cX6_judge 119 = .ok (.invokevirtual 110, 3) := by decide +kernel
theorem dX6_judge_122 : decode cX6_judge 122 = .ok (.iload_n 2, 1) := by decide +kernel
theorem dX6_judge_123 : decode cX6_judge 123 = .ok (.ireturn, 1) := by decide +kernel
set_option maxRecDepth 20000 in
theorem ggX6_lots_X6_no : GoodIn wsX6_lots wsX6_no := goodIn_r _ [11, 12, 70, 71, 72, 73, 74, 75, 76, 77, 78, 79, 80, 81, 82, 83, 84, 85, 86, 87, 88, 89, 90, 91, 92, 93, 94, 95, 96, 97, 98, 99, 100] (by decide +kernel) (by decide +kernel)
set_option maxRecDepth 20000 in
theorem gX6_lots_X6_no : GoodIn wsX6_lots (wsV RX6 58 RX6 yX6_no wsX6_no) := goodIn_app (goodIn_of _ (by decide +kernel)) ggX6_lots_X6_no
set_option maxRecDepth 20000 in
theorem ggX6_lots_X6_keep : GoodIn wsX6_lots wsX6_keep := goodIn_r _ [16, 17, 18, 19, 20, 21, 22, 23, 24, 25, 26, 27, 28, 29, 3, 30, 1, 70, 71, 72, 73, 74, 75, 76, 77, 78, 79, 80, 81, 82, 83, 84, 85, 86, 87, 88, 89, 90, 91, 92, 93, 94, 95, 96, 97, 98, 99, 100] (by decide +kernel) (by decide +kernel)
set_option maxRecDepth 20000 in
theorem gX6_lots_X6_keep : GoodIn wsX6_lots (wsV RX6 106 RX6 yX6_keep wsX6_keep) := goodIn_app (goodIn_of _ (by decide +kernel)) ggX6_lots_X6_keep
set_option maxRecDepth 20000 in
theorem ggX6_lots_X6_goes : GoodIn wsX6_lots wsX6_goes := goodIn_r _ [34, 29, 30, 3, 24, 35, 36, 37, 10, 38, 20, 39, 40, 41, 42, 26, 25, 23, 21, 22, 43, 44, 45, 46, 47, 48, 49, 50, 28, 51, 52, 53, 54, 18, 19, 17, 55, 56, 57, 58, 59, 60, 61, 62, 63, 64, 65, 27, 70, 71, 72, 73, 74, 75, 76, 77, 78, 79, 80, 81, 82, 83, 84, 85, 86, 87, 88, 89, 90, 91, 92, 93, 94, 95, 96, 97, 98, 99, 100] (by decide +kernel) (by decide +kernel)
set_option maxRecDepth 20000 in
theorem gX6_lots_X6_goes : GoodIn wsX6_lots (wsV RX6 165 RX6 yX6_goes wsX6_goes) := goodIn_app (goodIn_of _ (by decide +kernel)) ggX6_lots_X6_goes
set_option maxRecDepth 20000 in
theorem ggX6_lots_X6_again : GoodIn wsX6_lots wsX6_again := goodIn_r _ [69, 17, 18, 19, 20, 21, 22, 23, 24, 25, 26, 27, 28, 29, 3, 30, 1, 70, 71, 72, 73, 74, 75, 76, 77, 78, 79, 80, 81, 82, 83, 84, 85, 86, 87, 88, 89, 90, 91, 92, 93, 94, 95, 96, 97, 98, 99, 100] (by decide +kernel) (by decide +kernel)
set_option maxRecDepth 20000 in
theorem gX6_lots_X6_again : GoodIn wsX6_lots (wsV RX6 110 RX6 yX6_again wsX6_again) := goodIn_app (goodIn_of _ (by decide +kernel)) ggX6_lots_X6_again
theorem dX6_lots_0 : decode cX6_lots 0 = .ok (.iload_n 1, 1) := by decide +kernel
theorem dX6_lots_1 : decode cX6_lots 1 = .ok (.iconst 1, 1) := by decide +kernel
theorem dX6_lots_2 : decode cX6_lots 2 = .ok (.if_icmp .ge 10, 3) := by decide +kernel
theorem dX6_lots_5 : decode cX6_lots 5 = .ok (.aload_n 0, 1) := by decide +kernel
theorem dX6_lots_6 : decode cX6_lots 6 = .ok (.bipush (-4), 2) := by decide +kernel
theorem dX6_lots_8 : decode cX6_lots 8 = .ok (.invokevirtual 58, 3) := by decide +kernel
theorem dX6_lots_11 : decode cX6_lots 11 = .ok (.ireturn, 1) := by decide +kernel
theorem dX6_lots_12 : decode cX6_lots 12 = .ok (.iload_n 1, 1) := by decide +kernel
theorem dX6_lots_13 : decode cX6_lots 13 = .ok (.bipush 30, 2) := by decide +kernel
theorem dX6_lots_15 : decode cX6_lots 15 = .ok (.if_icmp .le 10, 3) := by decide +kernel
theorem dX6_lots_18 : decode cX6_lots 18 = .ok (.aload_n 0, 1) := by decide +kernel
theorem dX6_lots_19 : decode cX6_lots 19 = .ok (.bipush (-6), 2) := by decide +kernel
theorem dX6_lots_21 : decode cX6_lots 21 = .ok (.invokevirtual 58, 3) := by decide +kernel
theorem dX6_lots_24 : decode cX6_lots 24 = .ok (.ireturn, 1) := by decide +kernel
theorem dX6_lots_25 : decode cX6_lots 25 = .ok (.aload_n 0, 1) := by decide +kernel
theorem dX6_lots_26 : decode cX6_lots 26 = .ok (.getfield 62, 3) := by decide +kernel
theorem dX6_lots_29 : decode cX6_lots 29 = .ok (.ifCond .ne 10, 3) := by decide +kernel
theorem dX6_lots_32 : decode cX6_lots 32 = .ok (.aload_n 0, 1) := by decide +kernel
theorem dX6_lots_33 : decode cX6_lots 33 = .ok (.bipush (-3), 2) := by decide +kernel
theorem dX6_lots_35 : decode cX6_lots 35 = .ok (.invokevirtual 58, 3) := by decide +kernel
theorem dX6_lots_38 : decode cX6_lots 38 = .ok (.ireturn, 1) := by decide +kernel
theorem dX6_lots_39 : decode cX6_lots 39 = .ok (.aload_n 0, 1) := by decide +kernel
theorem dX6_lots_40 : decode cX6_lots 40 = .ok (.aload_n 0, 1) := by decide +kernel
theorem dX6_lots_41 : decode cX6_lots 41 = .ok (.getfield 31, 3) := by decide +kernel
theorem dX6_lots_44 : decode cX6_lots 44 = .ok (.invokevirtual 106, 3) := by decide +kernel
theorem dX6_lots_47 : decode cX6_lots 47 = .ok (.iload_n 2, 1) := by decide +kernel
theorem dX6_lots_48 : decode cX6_lots 48 = .ok (.istore_n 3, 1) := by decide +kernel
theorem dX6_lots_49 : decode cX6_lots 49 = .ok (.aload_n 0, 1) := by decide +kernel
theorem dX6_lots_50 : decode cX6_lots 50 = .ok (.getfield 162, 3) := by decide +kernel
theorem dX6_lots_53 : decode cX6_lots 53 = .ok (.istore 4, 2) := by decide +kernel
theorem dX6_lots_55 : decode cX6_lots 55 = .ok (.iconst 0, 1) := by decide +kernel
theorem dX6_lots_56 : decode cX6_lots 56 = .ok (.istore 5, 2) := by decide +kernel
theorem dX6_lots_58 : decode cX6_lots 58 = .ok (.iload 5, 2) := by decide +kernel
theorem dX6_lots_60 : decode cX6_lots 60 = .ok (.iload_n 1, 1) := by decide +kernel
theorem dX6_lots_61 : decode cX6_lots 61 = .ok (.if_icmp .ge 89, 3) := by decide +kernel
theorem dX6_lots_64 : decode cX6_lots 64 = .ok (.iload_n 3, 1) := by decide +kernel
theorem dX6_lots_65 : decode cX6_lots 65 = .ok (.ldc 192, 2) := by decide +kernel
theorem dX6_lots_67 : decode cX6_lots 67 = .ok (.imul, 1) := by decide +kernel
theorem dX6_lots_68 : decode cX6_lots 68 = .ok (.ldc 193, 2) := by decide +kernel
theorem dX6_lots_70 : decode cX6_lots 70 = .ok (.iadd, 1) := by decide +kernel
theorem dX6_lots_71 : decode cX6_lots 71 = .ok (.istore_n 3, 1) := by decide +kernel
theorem dX6_lots_72 : decode cX6_lots 72 = .ok (.iload_n 3, 1) := by decide +kernel
theorem dX6_lots_73 : decode cX6_lots 73 = .ok (.ldc 194, 2) := by decide +kernel
theorem dX6_lots_75 : decode cX6_lots 75 = .ok (.iand, 1) := by decide +kernel
theorem dX6_lots_76 : decode cX6_lots 76 = .ok (.sipush 256, 3) := by decide +kernel
theorem dX6_lots_79 : decode cX6_lots 79 = .ok (.idiv, 1) := by decide +kernel
theorem dX6_lots_80 : decode cX6_lots 80 = .ok (.aload_n 0, 1) := by decide +kernel
theorem dX6_lots_81 : decode cX6_lots 81 = .ok (.getfield 62, 3) := by decide +kernel
theorem dX6_lots_84 : decode cX6_lots 84 = .ok (.irem, 1) := by decide +kernel
theorem dX6_lots_85 : decode cX6_lots 85 = .ok (.istore 6, 2) := by decide +kernel
theorem dX6_lots_87 : decode cX6_lots 87 = .ok (.iload_n 3, 1) := by decide +kernel
theorem dX6_lots_88 : decode cX6_lots 88 = .ok (.ldc 192, 2) := by decide +kernel
theorem dX6_lots_90 : decode cX6_lots 90 = .ok (.imul, 1) := by decide +kernel
theorem dX6_lots_91 : decode cX6_lots 91 = .ok (.ldc 193, 2) := by decide +kernel
theorem dX6_lots_93 : decode cX6_lots 93 = .ok (.iadd, 1) := by decide +kernel
theorem dX6_lots_94 : decode cX6_lots 94 = .ok (.istore_n 3, 1) := by decide +kernel
theorem dX6_lots_95 : decode cX6_lots 95 = .ok (.iload_n 3, 1) := by decide +kernel
theorem dX6_lots_96 : decode cX6_lots 96 = .ok (.ldc 194, 2) := by decide +kernel
theorem dX6_lots_98 : decode cX6_lots 98 = .ok (.iand, 1) := by decide +kernel
theorem dX6_lots_99 : decode cX6_lots 99 = .ok (.sipush 256, 3) := by decide +kernel
theorem dX6_lots_102 : decode cX6_lots 102 = .ok (.idiv, 1) := by decide +kernel
theorem dX6_lots_103 : decode cX6_lots 103 = .ok (.bipush 9, 2) := by decide +kernel
theorem dX6_lots_105 : decode cX6_lots 105 = .ok (.irem, 1) := by decide +kernel
theorem dX6_lots_106 : decode cX6_lots 106 = .ok (.iconst 1, 1) := by decide +kernel
theorem dX6_lots_107 : decode cX6_lots 107 = .ok (.iadd, 1) := by decide +kernel
theorem dX6_lots_108 : decode cX6_lots 108 = .ok (.istore 7, 2) := by decide +kernel
theorem dX6_lots_110 : decode cX6_lots 110 = .ok (.iload_n 3, 1) := by decide +kernel
theorem dX6_lots_111 : decode cX6_lots 111 = .ok (.ldc 192, 2) := by decide +kernel
theorem dX6_lots_113 : decode cX6_lots 113 = .ok (.imul, 1) := by decide +kernel
theorem dX6_lots_114 : decode cX6_lots 114 = .ok (.ldc 193, 2) := by decide +kernel
theorem dX6_lots_116 : decode cX6_lots 116 = .ok (.iadd, 1) := by decide +kernel
theorem dX6_lots_117 : decode cX6_lots 117 = .ok (.istore_n 3, 1) := by decide +kernel
theorem dX6_lots_118 : decode cX6_lots 118 = .ok (.iload_n 3, 1) := by decide +kernel
theorem dX6_lots_119 : decode cX6_lots 119 = .ok (.ldc 194, 2) := by decide +kernel
theorem dX6_lots_121 : decode cX6_lots 121 = .ok (.iand, 1) := by decide +kernel
theorem dX6_lots_122 : decode cX6_lots 122 = .ok (.sipush 256, 3) := by decide +kernel
theorem dX6_lots_125 : decode cX6_lots 125 = .ok (.idiv, 1) := by decide +kernel
theorem dX6_lots_126 : decode cX6_lots 126 = .ok (.bipush 21, 2) := by decide +kernel
theorem dX6_lots_128 : decode cX6_lots 128 = .ok (.irem, 1) := by decide +kernel
theorem dX6_lots_129 : decode cX6_lots 129 = .ok (.iconst 5, 1) := by decide +kernel
theorem dX6_lots_130 : decode cX6_lots 130 = .ok (.isub, 1) := by decide +kernel
theorem dX6_lots_131 : decode cX6_lots 131 = .ok (.istore 8, 2) := by decide +kernel
theorem dX6_lots_133 : decode cX6_lots 133 = .ok (.aload_n 0, 1) := by decide +kernel
theorem dX6_lots_134 : decode cX6_lots 134 = .ok (.iload 6, 2) := by decide +kernel
theorem dX6_lots_136 : decode cX6_lots 136 = .ok (.iload 7, 2) := by decide +kernel
theorem dX6_lots_138 : decode cX6_lots 138 = .ok (.iload 8, 2) := by decide +kernel
theorem dX6_lots_140 : decode cX6_lots 140 = .ok (.invokevirtual 165, 3) := by decide +kernel
theorem dX6_lots_143 : decode cX6_lots 143 = .ok (.pop, 1) := by decide +kernel
theorem dX6_lots_144 : decode cX6_lots 144 = .ok (.iinc 5 1, 3) := by decide +kernel
theorem dX6_lots_147 : decode cX6_lots 147 = .ok (.goto (-89), 3) := by decide +kernel
theorem dX6_lots_150 : decode cX6_lots 150 = .ok (.aload_n 0, 1) := by decide +kernel
theorem dX6_lots_151 : decode cX6_lots 151 = .ok (.getfield 162, 3) := by decide +kernel
theorem dX6_lots_154 : decode cX6_lots 154 = .ok (.iload 4, 2) := by decide +kernel
theorem dX6_lots_156 : decode cX6_lots 156 = .ok (.isub, 1) := by decide +kernel
theorem dX6_lots_157 : decode cX6_lots 157 = .ok (.istore 5, 2) := by decide +kernel
theorem dX6_lots_159 : decode cX6_lots 159 = .ok (.aload_n 0, 1) := by decide +kernel
theorem dX6_lots_160 : decode cX6_lots 160 = .ok (.aload_n 0, 1) := by decide +kernel
theorem dX6_lots_161 : decode cX6_lots 161 = .ok (.getfield 31, 3) := by decide +kernel
theorem dX6_lots_164 : decode cX6_lots 164 = .ok (.invokevirtual 110, 3) := by decide +kernel
theorem dX6_lots_167 : decode cX6_lots 167 = .ok (.iload 5, 2) := by decide +kernel
theorem dX6_lots_169 : decode cX6_lots 169 = .ok (.ireturn, 1) := by decide +kernel
theorem dX6_keep_0 : decode cX6_keep 0 = .ok (.iconst 0, 1) := by decide +kernel
theorem dX6_keep_1 : decode cX6_keep 1 = .ok (.istore_n 2, 1) := by decide +kernel
theorem dX6_keep_2 : decode cX6_keep 2 = .ok (.iload_n 2, 1) := by decide +kernel
theorem dX6_keep_3 : decode cX6_keep 3 = .ok (.iconst 5, 1) := by decide +kernel
theorem dX6_keep_4 : decode cX6_keep 4 = .ok (.if_icmp .ge 41, 3) := by decide +kernel
theorem dX6_keep_7 : decode cX6_keep 7 = .ok (.aload_n 1, 1) := by decide +kernel
theorem dX6_keep_8 : decode cX6_keep 8 = .ok (.iload_n 2, 1) := by decide +kernel
theorem dX6_keep_9 : decode cX6_keep 9 = .ok (.aload_n 0, 1) := by decide +kernel
theorem dX6_keep_10 : decode cX6_keep 10 = .ok (.getfield 7, 3) := by decide +kernel
theorem dX6_keep_13 : decode cX6_keep 13 = .ok (.iload_n 2, 1) := by decide +kernel
theorem dX6_keep_14 : decode cX6_keep 14 = .ok (.iaload, 1) := by decide +kernel
theorem dX6_keep_15 : decode cX6_keep 15 = .ok (.iastore, 1) := by decide +kernel
theorem dX6_keep_16 : decode cX6_keep 16 = .ok (.aload_n 1, 1) := by decide +kernel
theorem dX6_keep_17 : decode cX6_keep 17 = .ok (.iconst 5, 1) := by decide +kernel
theorem dX6_keep_18 : decode cX6_keep 18 = .ok (.iload_n 2, 1) := by decide +kernel
theorem dX6_keep_19 : decode cX6_keep 19 = .ok (.iadd, 1) := by decide +kernel
theorem dX6_keep_20 : decode cX6_keep 20 = .ok (.aload_n 0, 1) := by decide +kernel
theorem dX6_keep_21 : decode cX6_keep 21 = .ok (.getfield 13, 3) := by decide +kernel
theorem dX6_keep_24 : decode cX6_keep 24 = .ok (.iload_n 2, 1) := by decide +kernel
theorem dX6_keep_25 : decode cX6_keep 25 = .ok (.iaload, 1) := by decide +kernel
theorem dX6_keep_26 : decode cX6_keep 26 = .ok (.iastore, 1) := by decide +kernel
theorem dX6_keep_27 : decode cX6_keep 27 = .ok (.aload_n 1, 1) := by decide +kernel
theorem dX6_keep_28 : decode cX6_keep 28 = .ok (.bipush 10, 2) := by decide +kernel
theorem dX6_keep_30 : decode cX6_keep 30 = .ok (.iload_n 2, 1) := by decide +kernel
theorem dX6_keep_31 : decode cX6_keep 31 = .ok (.iadd, 1) := by decide +kernel
theorem dX6_keep_32 : decode cX6_keep 32 = .ok (.aload_n 0, 1) := by decide +kernel
theorem dX6_keep_33 : decode cX6_keep 33 = .ok (.getfield 16, 3) := by decide +kernel
theorem dX6_keep_36 : decode cX6_keep 36 = .ok (.iload_n 2, 1) := by decide +kernel
theorem dX6_keep_37 : decode cX6_keep 37 = .ok (.iaload, 1) := by decide +kernel
theorem dX6_keep_38 : decode cX6_keep 38 = .ok (.iastore, 1) := by decide +kernel
theorem dX6_keep_39 : decode cX6_keep 39 = .ok (.iinc 2 1, 3) := by decide +kernel
theorem dX6_keep_42 : decode cX6_keep 42 = .ok (.goto (-40), 3) := by decide +kernel
theorem dX6_keep_45 : decode cX6_keep 45 = .ok (.aload_n 1, 1) := by decide +kernel
theorem dX6_keep_46 : decode cX6_keep 46 = .ok (.bipush 15, 2) := by decide +kernel
theorem dX6_keep_48 : decode cX6_keep 48 = .ok (.aload_n 0, 1) := by decide +kernel
theorem dX6_keep_49 : decode cX6_keep 49 = .ok (.getfield 34, 3) := by decide +kernel
theorem dX6_keep_52 : decode cX6_keep 52 = .ok (.iastore, 1) := by decide +kernel
theorem dX6_keep_53 : decode cX6_keep 53 = .ok (.aload_n 1, 1) := by decide +kernel
theorem dX6_keep_54 : decode cX6_keep 54 = .ok (.bipush 16, 2) := by decide +kernel
theorem dX6_keep_56 : decode cX6_keep 56 = .ok (.aload_n 0, 1) := by decide +kernel
theorem dX6_keep_57 : decode cX6_keep 57 = .ok (.getfield 38, 3) := by decide +kernel
theorem dX6_keep_60 : decode cX6_keep 60 = .ok (.iastore, 1) := by decide +kernel
theorem dX6_keep_61 : decode cX6_keep 61 = .ok (.aload_n 1, 1) := by decide +kernel
theorem dX6_keep_62 : decode cX6_keep 62 = .ok (.bipush 17, 2) := by decide +kernel
theorem dX6_keep_64 : decode cX6_keep 64 = .ok (.aload_n 0, 1) := by decide +kernel
theorem dX6_keep_65 : decode cX6_keep 65 = .ok (.getfield 41, 3) := by decide +kernel
theorem dX6_keep_68 : decode cX6_keep 68 = .ok (.iastore, 1) := by decide +kernel
theorem dX6_keep_69 : decode cX6_keep 69 = .ok (.aload_n 1, 1) := by decide +kernel
theorem dX6_keep_70 : decode cX6_keep 70 = .ok (.bipush 18, 2) := by decide +kernel
theorem dX6_keep_72 : decode cX6_keep 72 = .ok (.aload_n 0, 1) := by decide +kernel
theorem dX6_keep_73 : decode cX6_keep 73 = .ok (.getfield 44, 3) := by decide +kernel
theorem dX6_keep_76 : decode cX6_keep 76 = .ok (.iastore, 1) := by decide +kernel
theorem dX6_keep_77 : decode cX6_keep 77 = .ok (.aload_n 1, 1) := by decide +kernel
theorem dX6_keep_78 : decode cX6_keep 78 = .ok (.bipush 19, 2) := by decide +kernel
theorem dX6_keep_80 : decode cX6_keep 80 = .ok (.aload_n 0, 1) := by decide +kernel
theorem dX6_keep_81 : decode cX6_keep 81 = .ok (.getfield 89, 3) := by decide +kernel
theorem dX6_keep_84 : decode cX6_keep 84 = .ok (.iastore, 1) := by decide +kernel
theorem dX6_keep_85 : decode cX6_keep 85 = .ok (.aload_n 1, 1) := by decide +kernel
theorem dX6_keep_86 : decode cX6_keep 86 = .ok (.bipush 20, 2) := by decide +kernel
theorem dX6_keep_88 : decode cX6_keep 88 = .ok (.aload_n 0, 1) := by decide +kernel
theorem dX6_keep_89 : decode cX6_keep 89 = .ok (.getfield 47, 3) := by decide +kernel
theorem dX6_keep_92 : decode cX6_keep 92 = .ok (.iastore, 1) := by decide +kernel
theorem dX6_keep_93 : decode cX6_keep 93 = .ok (.aload_n 1, 1) := by decide +kernel
theorem dX6_keep_94 : decode cX6_keep 94 = .ok (.bipush 21, 2) := by decide +kernel
theorem dX6_keep_96 : decode cX6_keep 96 = .ok (.aload_n 0, 1) := by decide +kernel
theorem dX6_keep_97 : decode cX6_keep 97 = .ok (.getfield 50, 3) := by decide +kernel
theorem dX6_keep_100 : decode cX6_keep 100 = .ok (.iastore, 1) := by decide +kernel
theorem dX6_keep_101 : decode cX6_keep 101 = .ok (.aload_n 1, 1) := by decide +kernel
theorem dX6_keep_102 : decode cX6_keep 102 = .ok (.bipush 22, 2) := by decide +kernel
theorem dX6_keep_104 : decode cX6_keep 104 = .ok (.aload_n 0, 1) := by decide +kernel
theorem dX6_keep_105 : decode cX6_keep 105 = .ok (.getfield 92, 3) := by decide +kernel
theorem dX6_keep_108 : decode cX6_keep 108 = .ok (.iastore, 1) := by decide +kernel
theorem dX6_keep_109 : decode cX6_keep 109 = .ok (.aload_n 1, 1) := by decide +kernel
theorem dX6_keep_110 : decode cX6_keep 110 = .ok (.bipush 23, 2) := by decide +kernel
theorem dX6_keep_112 : decode cX6_keep 112 = .ok (.aload_n 0, 1) := by decide +kernel
theorem dX6_keep_113 : decode cX6_keep 113 = .ok (.getfield 53, 3) := by decide +kernel
theorem dX6_keep_116 : decode cX6_keep 116 = .ok (.iastore, 1) := by decide +kernel
theorem dX6_keep_117 : decode cX6_keep 117 = .ok (.aload_n 1, 1) := by decide +kernel
theorem dX6_keep_118 : decode cX6_keep 118 = .ok (.bipush 24, 2) := by decide +kernel
theorem dX6_keep_120 : decode cX6_keep 120 = .ok (.aload_n 0, 1) := by decide +kernel
theorem dX6_keep_121 : decode cX6_keep 121 = .ok (.getfield 149, 3) := by decide +kernel
theorem dX6_keep_124 : decode cX6_keep 124 = .ok (.iastore, 1) := by decide +kernel
theorem dX6_keep_125 : decode cX6_keep 125 = .ok (.aload_n 1, 1) := by decide +kernel
theorem dX6_keep_126 : decode cX6_keep 126 = .ok (.bipush 25, 2) := by decide +kernel
theorem dX6_keep_128 : decode cX6_keep 128 = .ok (.aload_n 0, 1) := by decide +kernel
theorem dX6_keep_129 : decode cX6_keep 129 = .ok (.getfield 162, 3) := by decide +kernel
theorem dX6_keep_132 : decode cX6_keep 132 = .ok (.iastore, 1) := by decide +kernel
theorem dX6_keep_133 : decode cX6_keep 133 = .ok (.aload_n 1, 1) := by decide +kernel
theorem dX6_keep_134 : decode cX6_keep 134 = .ok (.bipush 26, 2) := by decide +kernel
theorem dX6_keep_136 : decode cX6_keep 136 = .ok (.aload_n 0, 1) := by decide +kernel
theorem dX6_keep_137 : decode cX6_keep 137 = .ok (.getfield 159, 3) := by decide +kernel
theorem dX6_keep_140 : decode cX6_keep 140 = .ok (.iastore, 1) := by decide +kernel
theorem dX6_keep_141 : decode cX6_keep 141 = .ok (.aload_n 1, 1) := by decide +kernel
theorem dX6_keep_142 : decode cX6_keep 142 = .ok (.bipush 27, 2) := by decide +kernel
theorem dX6_keep_144 : decode cX6_keep 144 = .ok (.aload_n 0, 1) := by decide +kernel
theorem dX6_keep_145 : decode cX6_keep 145 = .ok (.getfield 62, 3) := by decide +kernel
theorem dX6_keep_148 : decode cX6_keep 148 = .ok (.iastore, 1) := by decide +kernel
theorem dX6_keep_149 : decode cX6_keep 149 = .ok (.return_, 1) := by decide +kernel
theorem dX6_again_0 : decode cX6_again 0 = .ok (.iconst 0, 1) := by decide +kernel
theorem dX6_again_1 : decode cX6_again 1 = .ok (.istore_n 2, 1) := by decide +kernel
theorem dX6_again_2 : decode cX6_again 2 = .ok (.iload_n 2, 1) := by decide +kernel
theorem dX6_again_3 : decode cX6_again 3 = .ok (.iconst 5, 1) := by decide +kernel
theorem dX6_again_4 : decode cX6_again 4 = .ok (.if_icmp .ge 41, 3) := by decide +kernel
theorem dX6_again_7 : decode cX6_again 7 = .ok (.aload_n 0, 1) := by decide +kernel
theorem dX6_again_8 : decode cX6_again 8 = .ok (.getfield 7, 3) := by decide +kernel
theorem dX6_again_11 : decode cX6_again 11 = .ok (.iload_n 2, 1) := by decide +kernel
theorem dX6_again_12 : decode cX6_again 12 = .ok (.aload_n 1, 1) := by decide +kernel
theorem dX6_again_13 : decode cX6_again 13 = .ok (.iload_n 2, 1) := by decide +kernel
theorem dX6_again_14 : decode cX6_again 14 = .ok (.iaload, 1) := by decide +kernel
theorem dX6_again_15 : decode cX6_again 15 = .ok (.iastore, 1) := by decide +kernel
theorem dX6_again_16 : decode cX6_again 16 = .ok (.aload_n 0, 1) := by decide +kernel
theorem dX6_again_17 : decode cX6_again 17 = .ok (.getfield 13, 3) := by decide +kernel
theorem dX6_again_20 : decode cX6_again 20 = .ok (.iload_n 2, 1) := by decide +kernel
theorem dX6_again_21 : decode cX6_again 21 = .ok (.aload_n 1, 1) := by decide +kernel
theorem dX6_again_22 : decode cX6_again 22 = .ok (.iconst 5, 1) := by decide +kernel
theorem dX6_again_23 : decode cX6_again 23 = .ok (.iload_n 2, 1) := by decide +kernel
theorem dX6_again_24 : decode cX6_again 24 = .ok (.iadd, 1) := by decide +kernel
theorem dX6_again_25 : decode cX6_again 25 = .ok (.iaload, 1) := by decide +kernel
theorem dX6_again_26 : decode cX6_again 26 = .ok (.iastore, 1) := by decide +kernel
theorem dX6_again_27 : decode cX6_again 27 = .ok (.aload_n 0, 1) := by decide +kernel
theorem dX6_again_28 : decode cX6_again 28 = .ok (.getfield 16, 3) := by decide +kernel
theorem dX6_again_31 : decode cX6_again 31 = .ok (.iload_n 2, 1) := by decide +kernel
theorem dX6_again_32 : decode cX6_again 32 = .ok (.aload_n 1, 1) := by decide +kernel
theorem dX6_again_33 : decode cX6_again 33 = .ok (.bipush 10, 2) := by decide +kernel
theorem dX6_again_35 : decode cX6_again 35 = .ok (.iload_n 2, 1) := by decide +kernel
theorem dX6_again_36 : decode cX6_again 36 = .ok (.iadd, 1) := by decide +kernel
theorem dX6_again_37 : decode cX6_again 37 = .ok (.iaload, 1) := by decide +kernel
theorem dX6_again_38 : decode cX6_again 38 = .ok (.iastore, 1) := by decide +kernel
theorem dX6_again_39 : decode cX6_again 39 = .ok (.iinc 2 1, 3) := by decide +kernel
theorem dX6_again_42 : decode cX6_again 42 = .ok (.goto (-40), 3) := by decide +kernel
theorem dX6_again_45 : decode cX6_again 45 = .ok (.aload_n 0, 1) := by decide +kernel
theorem dX6_again_46 : decode cX6_again 46 = .ok (.aload_n 1, 1) := by decide +kernel
theorem dX6_again_47 : decode cX6_again 47 = .ok (.bipush 15, 2) := by decide +kernel
theorem dX6_again_49 : decode cX6_again 49 = .ok (.iaload, 1) := by decide +kernel
theorem dX6_again_50 : decode cX6_again 50 = .ok (.putfield 34, 3) := by decide +kernel
theorem dX6_again_53 : decode cX6_again 53 = .ok (.aload_n 0, 1) := by decide +kernel
theorem dX6_again_54 : decode cX6_again 54 = .ok (.aload_n 1, 1) := by decide +kernel
theorem dX6_again_55 : decode cX6_again 55 = .ok (.bipush 16, 2) := by decide +kernel
theorem dX6_again_57 : decode cX6_again 57 = .ok (.iaload, 1) := by decide +kernel
theorem dX6_again_58 : decode cX6_again 58 = .ok (.putfield 38, 3) := by decide +kernel
theorem dX6_again_61 : decode cX6_again 61 = .ok (.aload_n 0, 1) := by decide +kernel
theorem dX6_again_62 : decode cX6_again 62 = .ok (.aload_n 1, 1) := by decide +kernel
theorem dX6_again_63 : decode cX6_again 63 = .ok (.bipush 17, 2) := by decide +kernel
theorem dX6_again_65 : decode cX6_again 65 = .ok (.iaload, 1) := by decide +kernel
theorem dX6_again_66 : decode cX6_again 66 = .ok (.putfield 41, 3) := by decide +kernel
theorem dX6_again_69 : decode cX6_again 69 = .ok (.aload_n 0, 1) := by decide +kernel
theorem dX6_again_70 : decode cX6_again 70 = .ok (.aload_n 1, 1) := by decide +kernel
theorem dX6_again_71 : decode cX6_again 71 = .ok (.bipush 18, 2) := by decide +kernel
theorem dX6_again_73 : decode cX6_again 73 = .ok (.iaload, 1) := by decide +kernel
theorem dX6_again_74 : decode cX6_again 74 = .ok (.putfield 44, 3) := by decide +kernel
theorem dX6_again_77 : decode cX6_again 77 = .ok (.aload_n 0, 1) := by decide +kernel
theorem dX6_again_78 : decode cX6_again 78 = .ok (.aload_n 1, 1) := by decide +kernel
theorem dX6_again_79 : decode cX6_again 79 = .ok (.bipush 19, 2) := by decide +kernel
theorem dX6_again_81 : decode cX6_again 81 = .ok (.iaload, 1) := by decide +kernel
theorem dX6_again_82 : decode cX6_again 82 = .ok (.putfield 89, 3) := by decide +kernel
theorem dX6_again_85 : decode cX6_again 85 = .ok (.aload_n 0, 1) := by decide +kernel
theorem dX6_again_86 : decode cX6_again 86 = .ok (.aload_n 1, 1) := by decide +kernel
theorem dX6_again_87 : decode cX6_again 87 = .ok (.bipush 20, 2) := by decide +kernel
theorem dX6_again_89 : decode cX6_again 89 = .ok (.iaload, 1) := by decide +kernel
theorem dX6_again_90 : decode cX6_again 90 = .ok (.putfield 47, 3) := by decide +kernel
theorem dX6_again_93 : decode cX6_again 93 = .ok (.aload_n 0, 1) := by decide +kernel
theorem dX6_again_94 : decode cX6_again 94 = .ok (.aload_n 1, 1) := by decide +kernel
theorem dX6_again_95 : decode cX6_again 95 = .ok (.bipush 21, 2) := by decide +kernel
theorem dX6_again_97 : decode cX6_again 97 = .ok (.iaload, 1) := by decide +kernel
theorem dX6_again_98 : decode cX6_again 98 = .ok (.putfield 50, 3) := by decide +kernel
theorem dX6_again_101 : decode cX6_again 101 = .ok (.aload_n 0, 1) := by decide +kernel
theorem dX6_again_102 : decode cX6_again 102 = .ok (.aload_n 1, 1) := by decide +kernel
theorem dX6_again_103 : decode cX6_again 103 = .ok (.bipush 22, 2) := by decide +kernel
theorem dX6_again_105 : decode cX6_again 105 = .ok (.iaload, 1) := by decide +kernel
theorem dX6_again_106 : decode cX6_again 106 = .ok (.putfield 92, 3) := by decide +kernel
theorem dX6_again_109 : decode cX6_again 109 = .ok (.aload_n 0, 1) := by decide +kernel
theorem dX6_again_110 : decode cX6_again 110 = .ok (.aload_n 1, 1) := by decide +kernel
theorem dX6_again_111 : decode cX6_again 111 = .ok (.bipush 23, 2) := by decide +kernel
theorem dX6_again_113 : decode cX6_again 113 = .ok (.iaload, 1) := by decide +kernel
theorem dX6_again_114 : decode cX6_again 114 = .ok (.putfield 53, 3) := by decide +kernel
theorem dX6_again_117 : decode cX6_again 117 = .ok (.aload_n 0, 1) := by decide +kernel
theorem dX6_again_118 : decode cX6_again 118 = .ok (.aload_n 1, 1) := by decide +kernel
theorem dX6_again_119 : decode cX6_again 119 = .ok (.bipush 24, 2) := by decide +kernel
theorem dX6_again_121 : decode cX6_again 121 = .ok (.iaload, 1) := by decide +kernel
theorem dX6_again_122 : decode cX6_again 122 = .ok (.putfield 149, 3) := by decide +kernel
theorem dX6_again_125 : decode cX6_again 125 = .ok (.aload_n 0, 1) := by decide +kernel
theorem dX6_again_126 : decode cX6_again 126 = .ok (.aload_n 1, 1) := by decide +kernel
theorem dX6_again_127 : decode cX6_again 127 = .ok (.bipush 25, 2) := by decide +kernel
theorem dX6_again_129 : decode cX6_again 129 = .ok (.iaload, 1) := by decide +kernel
theorem dX6_again_130 : decode cX6_again 130 = .ok (.putfield 162, 3) := by decide +kernel
theorem dX6_again_133 : decode cX6_again 133 = .ok (.aload_n 0, 1) := by decide +kernel
theorem dX6_again_134 : decode cX6_again 134 = .ok (.aload_n 1, 1) := by decide +kernel
theorem dX6_again_135 : decode cX6_again 135 = .ok (.bipush 26, 2) := by decide +kernel
theorem dX6_again_137 : decode cX6_again 137 = .ok (.iaload, 1) := by decide +kernel
theorem dX6_again_138 : decode cX6_again 138 = .ok (.putfield 159, 3) := by decide +kernel
theorem dX6_again_141 : decode cX6_again 141 = .ok (.aload_n 0, 1) := by decide +kernel
theorem dX6_again_142 : decode cX6_again 142 = .ok (.aload_n 1, 1) := by decide +kernel
theorem dX6_again_143 : decode cX6_again 143 = .ok (.bipush 27, 2) := by decide +kernel
theorem dX6_again_145 : decode cX6_again 145 = .ok (.iaload, 1) := by decide +kernel
theorem dX6_again_146 : decode cX6_again 146 = .ok (.putfield 62, 3) := by decide +kernel
theorem dX6_again_149 : decode cX6_again 149 = .ok (.return_, 1) := by decide +kernel
set_option maxRecDepth 20000 in
theorem ggX6_image_X6_keep : GoodIn wsX6_image wsX6_keep := goodIn_r _ [8, 9, 10, 11, 12, 13, 14, 15, 16, 17, 18, 19, 20, 3, 21, 22, 23, 24, 25, 26, 27, 28, 29, 30, 31, 32, 33, 34, 35, 36, 37, 38, 39, 40, 41, 42, 43, 44, 45, 46, 47, 48, 49, 50, 51, 52, 53, 54] (by decide +kernel) (by decide +kernel)
set_option maxRecDepth 20000 in
theorem gX6_image_X6_keep : GoodIn wsX6_image (wsV RX6 106 RX6 yX6_keep wsX6_keep) := goodIn_app (goodIn_of _ (by decide +kernel)) ggX6_image_X6_keep
theorem dX6_image_0 : decode cX6_image 0 = .ok (.aload_n 0, 1) := by decide +kernel
theorem dX6_image_1 : decode cX6_image 1 = .ok (.iconst 1, 1) := by decide +kernel
theorem dX6_image_2 : decode cX6_image 2 = .ok (.putfield 195, 3) := by decide +kernel
theorem dX6_image_5 : decode cX6_image 5 = .ok (.aload_n 0, 1) := by decide +kernel
theorem dX6_image_6 : decode cX6_image 6 = .ok (.aload_n 0, 1) := by decide +kernel
theorem dX6_image_7 : decode cX6_image 7 = .ok (.getfield 28, 3) := by decide +kernel
theorem dX6_image_10 : decode cX6_image 10 = .ok (.invokevirtual 106, 3) := by decide +kernel
theorem dX6_image_13 : decode cX6_image 13 = .ok (.aload_n 0, 1) := by decide +kernel
theorem dX6_image_14 : decode cX6_image 14 = .ok (.getfield 149, 3) := by decide +kernel
theorem dX6_image_17 : decode cX6_image 17 = .ok (.ireturn, 1) := by decide +kernel
set_option maxRecDepth 20000 in
theorem ggX6_on_X6_no : GoodIn wsX6_on wsX6_no := goodIn_r _ [8, 9, 29, 30, 31, 32, 33, 34, 35, 36, 37, 38, 39, 40, 41, 42, 43, 44, 45, 46, 47, 48, 49, 50, 51, 52, 53, 54, 55, 56, 57, 58, 59] (by decide +kernel) (by decide +kernel)
set_option maxRecDepth 20000 in
theorem gX6_on_X6_no : GoodIn wsX6_on (wsV RX6 58 RX6 yX6_no wsX6_no) := goodIn_app (goodIn_of _ (by decide +kernel)) ggX6_on_X6_no
set_option maxRecDepth 20000 in
theorem ggX6_on_X6_again : GoodIn wsX6_on wsX6_again := goodIn_r _ [13, 14, 15, 16, 17, 18, 19, 20, 21, 22, 23, 24, 25, 3, 26, 27, 28, 29, 30, 31, 32, 33, 34, 35, 36, 37, 38, 39, 40, 41, 42, 43, 44, 45, 46, 47, 48, 49, 50, 51, 52, 53, 54, 55, 56, 57, 58, 59] (by decide +kernel) (by decide +kernel)
set_option maxRecDepth 20000 in
theorem gX6_on_X6_again : GoodIn wsX6_on (wsV RX6 110 RX6 yX6_again wsX6_again) := goodIn_app (goodIn_of _ (by decide +kernel)) ggX6_on_X6_again
theorem dX6_on_0 : decode cX6_on 0 = .ok (.aload_n 0, 1) := by decide +kernel
theorem dX6_on_1 : decode cX6_on 1 = .ok (.getfield 195, 3) := by decide +kernel
theorem dX6_on_4 : decode cX6_on 4 = .ok (.ifCond .ne 10, 3) := by decide +kernel
theorem dX6_on_7 : decode cX6_on 7 = .ok (.aload_n 0, 1) := by decide +kernel
theorem dX6_on_8 : decode cX6_on 8 = .ok (.bipush (-3), 2) := by decide +kernel
theorem dX6_on_10 : decode cX6_on 10 = .ok (.invokevirtual 58, 3) := by decide +kernel
theorem dX6_on_13 : decode cX6_on 13 = .ok (.ireturn, 1) := by decide +kernel
theorem dX6_on_14 : decode cX6_on 14 = .ok (.aload_n 0, 1) := by decide +kernel
theorem dX6_on_15 : decode cX6_on 15 = .ok (.aload_n 0, 1) := by decide +kernel
theorem dX6_on_16 : decode cX6_on 16 = .ok (.getfield 28, 3) := by decide +kernel
theorem dX6_on_19 : decode cX6_on 19 = .ok (.invokevirtual 110, 3) := by decide +kernel
theorem dX6_on_22 : decode cX6_on 22 = .ok (.aload_n 0, 1) := by decide +kernel
theorem dX6_on_23 : decode cX6_on 23 = .ok (.getfield 149, 3) := by decide +kernel
theorem dX6_on_26 : decode cX6_on 26 = .ok (.ireturn, 1) := by decide +kernel
set_option maxRecDepth 20000 in
theorem ggX6_count_X6_within : GoodIn wsX6_count wsX6_within := goodIn_r _ [15] (by decide +kernel) (by decide +kernel)
set_option maxRecDepth 20000 in
theorem gX6_count_X6_within : GoodIn wsX6_count (va_wsS RX6 65 yX6_within wsX6_within) := goodIn_app (goodIn_of _ (by decide +kernel)) ggX6_count_X6_within
theorem dX6_count_0 : decode cX6_count 0 = .ok (.iload_n 1, 1) := by decide +kernel
theorem dX6_count_1 : decode cX6_count 1 = .ok (.tableswitch 105 0 9 #[55, 60, 65, 70, 75, 80, 85, 90, 95, 100], 55) := by decide +kernel
theorem dX6_count_56 : decode cX6_count 56 = .ok (.aload_n 0, 1) := by decide +kernel
theorem dX6_count_57 : decode cX6_count 57 = .ok (.getfield 62, 3) := by decide +kernel
theorem dX6_count_60 : decode cX6_count 60 = .ok (.ireturn, 1) := by decide +kernel
theorem dX6_count_61 : decode cX6_count 61 = .ok (.aload_n 0, 1) := by decide +kernel
theorem dX6_count_62 : decode cX6_count 62 = .ok (.getfield 38, 3) := by decide +kernel
theorem dX6_count_65 : decode cX6_count 65 = .ok (.ireturn, 1) := by decide +kernel
theorem dX6_count_66 : decode cX6_count 66 = .ok (.aload_n 0, 1) := by decide +kernel
theorem dX6_count_67 : decode cX6_count 67 = .ok (.getfield 89, 3) := by decide +kernel
theorem dX6_count_70 : decode cX6_count 70 = .ok (.ireturn, 1) := by decide +kernel
theorem dX6_count_71 : decode cX6_count 71 = .ok (.aload_n 0, 1) := by decide +kernel
theorem dX6_count_72 : decode cX6_count 72 = .ok (.getfield 149, 3) := by decide +kernel
theorem dX6_count_75 : decode cX6_count 75 = .ok (.ireturn, 1) := by decide +kernel
theorem dX6_count_76 : decode cX6_count 76 = .ok (.aload_n 0, 1) := by decide +kernel
theorem dX6_count_77 : decode cX6_count 77 = .ok (.getfield 162, 3) := by decide +kernel
theorem dX6_count_80 : decode cX6_count 80 = .ok (.ireturn, 1) := by decide +kernel
theorem dX6_count_81 : decode cX6_count 81 = .ok (.aload_n 0, 1) := by decide +kernel
theorem dX6_count_82 : decode cX6_count 82 = .ok (.getfield 159, 3) := by decide +kernel
theorem dX6_count_85 : decode cX6_count 85 = .ok (.ireturn, 1) := by decide +kernel
theorem dX6_count_86 : decode cX6_count 86 = .ok (.aload_n 0, 1) := by decide +kernel
theorem dX6_count_87 : decode cX6_count 87 = .ok (.getfield 47, 3) := by decide +kernel
theorem dX6_count_90 : decode cX6_count 90 = .ok (.ireturn, 1) := by decide +kernel
theorem dX6_count_91 : decode cX6_count 91 = .ok (.aload_n 0, 1) := by decide +kernel
theorem dX6_count_92 : decode cX6_count 92 = .ok (.getfield 50, 3) := by decide +kernel
theorem dX6_count_95 : decode cX6_count 95 = .ok (.ireturn, 1) := by decide +kernel
theorem dX6_count_96 : decode cX6_count 96 = .ok (.aload_n 0, 1) := by decide +kernel
theorem dX6_count_97 : decode cX6_count 97 = .ok (.getfield 189, 3) := by decide +kernel
theorem dX6_count_100 : decode cX6_count 100 = .ok (.ireturn, 1) := by decide +kernel
theorem dX6_count_101 : decode cX6_count 101 = .ok (.aload_n 0, 1) := by decide +kernel
theorem dX6_count_102 : decode cX6_count 102 = .ok (.getfield 69, 3) := by decide +kernel
theorem dX6_count_105 : decode cX6_count 105 = .ok (.ireturn, 1) := by decide +kernel
theorem dX6_count_106 : decode cX6_count 106 = .ok (.iload_n 1, 1) := by decide +kernel
theorem dX6_count_107 : decode cX6_count 107 = .ok (.bipush 11, 2) := by decide +kernel
theorem dX6_count_109 : decode cX6_count 109 = .ok (.bipush 16, 2) := by decide +kernel
theorem dX6_count_111 : decode cX6_count 111 = .ok (.invokestatic 65, 3) := by decide +kernel
theorem dX6_count_114 : decode cX6_count 114 = .ok (.ifCond .eq 15, 3) := by decide +kernel
theorem dX6_count_117 : decode cX6_count 117 = .ok (.aload_n 0, 1) := by decide +kernel
theorem dX6_count_118 : decode cX6_count 118 = .ok (.getfield 25, 3) := by decide +kernel
theorem dX6_count_121 : decode cX6_count 121 = .ok (.iload_n 1, 1) := by decide +kernel
theorem dX6_count_122 : decode cX6_count 122 = .ok (.bipush 10, 2) := by decide +kernel
theorem dX6_count_124 : decode cX6_count 124 = .ok (.isub, 1) := by decide +kernel
theorem dX6_count_125 : decode cX6_count 125 = .ok (.iaload, 1) := by decide +kernel
theorem dX6_count_126 : decode cX6_count 126 = .ok (.goto 5, 3) := by decide +kernel
theorem dX6_count_129 : decode cX6_count 129 = .ok (.bipush (-9), 2) := by decide +kernel
theorem dX6_count_131 : decode cX6_count 131 = .ok (.ireturn, 1) := by decide +kernel
theorem dJ11_isValidCodePoint_9a6ad_0 : decode cJ11_isValidCodePoint_9a6ad 0 = .ok (.iload_n 0, 1) := by decide +kernel
theorem dJ11_isValidCodePoint_9a6ad_1 : decode cJ11_isValidCodePoint_9a6ad 1 = .ok (.bipush 16, 2) := by decide +kernel
theorem dJ11_isValidCodePoint_9a6ad_3 : decode cJ11_isValidCodePoint_9a6ad 3 = .ok (.iushr, 1) := by decide +kernel
theorem dJ11_isValidCodePoint_9a6ad_4 : decode cJ11_isValidCodePoint_9a6ad 4 = .ok (.istore_n 1, 1) := by decide +kernel
theorem dJ11_isValidCodePoint_9a6ad_5 : decode cJ11_isValidCodePoint_9a6ad 5 = .ok (.iload_n 1, 1) := by decide +kernel
theorem dJ11_isValidCodePoint_9a6ad_6 : decode cJ11_isValidCodePoint_9a6ad 6 = .ok (.bipush 17, 2) := by decide +kernel
theorem dJ11_isValidCodePoint_9a6ad_8 : decode cJ11_isValidCodePoint_9a6ad 8 = .ok (.if_icmp .ge 7, 3) := by decide +kernel
theorem dJ11_isValidCodePoint_9a6ad_11 : decode cJ11_isValidCodePoint_9a6ad 11 = .ok (.iconst 1, 1) := by decide +kernel
theorem dJ11_isValidCodePoint_9a6ad_12 : decode cJ11_isValidCodePoint_9a6ad 12 = .ok (.goto 4, 3) := by decide +kernel
theorem dJ11_isValidCodePoint_9a6ad_15 : decode cJ11_isValidCodePoint_9a6ad 15 = .ok (.iconst 0, 1) := by decide +kernel
theorem dJ11_isValidCodePoint_9a6ad_16 : decode cJ11_isValidCodePoint_9a6ad 16 = .ok (.ireturn, 1) := by decide +kernel
theorem dJ11_highSurrogate_5068e_0 : decode cJ11_highSurrogate_5068e 0 = .ok (.iload_n 0, 1) := by decide +kernel
theorem dJ11_highSurrogate_5068e_1 : decode cJ11_highSurrogate_5068e 1 = .ok (.bipush 10, 2) := by decide +kernel
theorem dJ11_highSurrogate_5068e_3 : decode cJ11_highSurrogate_5068e 3 = .ok (.iushr, 1) := by decide +kernel
theorem dJ11_highSurrogate_5068e_4 : decode cJ11_highSurrogate_5068e 4 = .ok (.ldc 110, 2) := by decide +kernel
theorem dJ11_highSurrogate_5068e_6 : decode cJ11_highSurrogate_5068e 6 = .ok (.iadd, 1) := by decide +kernel
theorem dJ11_highSurrogate_5068e_7 : decode cJ11_highSurrogate_5068e 7 = .ok (.i2c, 1) := by decide +kernel
theorem dJ11_highSurrogate_5068e_8 : decode cJ11_highSurrogate_5068e 8 = .ok (.ireturn, 1) := by decide +kernel
theorem dJ11_lowSurrogate_5068e_0 : decode cJ11_lowSurrogate_5068e 0 = .ok (.iload_n 0, 1) := by decide +kernel
theorem dJ11_lowSurrogate_5068e_1 : decode cJ11_lowSurrogate_5068e 1 = .ok (.sipush 1023, 3) := by decide +kernel
theorem dJ11_lowSurrogate_5068e_4 : decode cJ11_lowSurrogate_5068e 4 = .ok (.iand, 1) := by decide +kernel
theorem dJ11_lowSurrogate_5068e_5 : decode cJ11_lowSurrogate_5068e 5 = .ok (.ldc 76, 2) := by decide +kernel
theorem dJ11_lowSurrogate_5068e_7 : decode cJ11_lowSurrogate_5068e 7 = .ok (.iadd, 1) := by decide +kernel
theorem dJ11_lowSurrogate_5068e_8 : decode cJ11_lowSurrogate_5068e 8 = .ok (.i2c, 1) := by decide +kernel
theorem dJ11_lowSurrogate_5068e_9 : decode cJ11_lowSurrogate_5068e 9 = .ok (.ireturn, 1) := by decide +kernel
theorem dJ9_max_7cf53_0 : decode cJ9_max_7cf53 0 = .ok (.iload_n 0, 1) := by decide +kernel
theorem dJ9_max_7cf53_1 : decode cJ9_max_7cf53 1 = .ok (.iload_n 1, 1) := by decide +kernel
theorem dJ9_max_7cf53_2 : decode cJ9_max_7cf53 2 = .ok (.if_icmp .lt 7, 3) := by decide +kernel
theorem dJ9_max_7cf53_5 : decode cJ9_max_7cf53 5 = .ok (.iload_n 0, 1) := by decide +kernel
theorem dJ9_max_7cf53_6 : decode cJ9_max_7cf53 6 = .ok (.goto 4, 3) := by decide +kernel
theorem dJ9_max_7cf53_9 : decode cJ9_max_7cf53 9 = .ok (.iload_n 1, 1) := by decide +kernel
theorem dJ9_max_7cf53_10 : decode cJ9_max_7cf53 10 = .ok (.ireturn, 1) := by decide +kernel
theorem dJ9_min_7cf53_0 : decode cJ9_min_7cf53 0 = .ok (.iload_n 0, 1) := by decide +kernel
theorem dJ9_min_7cf53_1 : decode cJ9_min_7cf53 1 = .ok (.iload_n 1, 1) := by decide +kernel
theorem dJ9_min_7cf53_2 : decode cJ9_min_7cf53 2 = .ok (.if_icmp .gt 7, 3) := by decide +kernel
theorem dJ9_min_7cf53_5 : decode cJ9_min_7cf53 5 = .ok (.iload_n 0, 1) := by decide +kernel
theorem dJ9_min_7cf53_6 : decode cJ9_min_7cf53 6 = .ok (.goto 4, 3) := by decide +kernel
theorem dJ9_min_7cf53_9 : decode cJ9_min_7cf53 9 = .ok (.iload_n 1, 1) := by decide +kernel
theorem dJ9_min_7cf53_10 : decode cJ9_min_7cf53 10 = .ok (.ireturn, 1) := by decide +kernel
set_option maxRecDepth 20000 in
theorem ggJ0_length_8abf5_J0_coder_7d493 : GoodIn wsJ0_length_8abf5 wsJ0_coder_7d493 := goodIn_r _ [6, 7, 8] (by decide +kernel) (by decide +kernel)
set_option maxRecDepth 20000 in
theorem gJ0_length_8abf5_J0_coder_7d493 : GoodIn wsJ0_length_8abf5 (wsV RJ0 335 RJ0 yJ0_coder_7d493 wsJ0_coder_7d493) := goodIn_app (goodIn_of _ (by decide +kernel)) ggJ0_length_8abf5_J0_coder_7d493
theorem dJ0_length_8abf5_0 : decode cJ0_length_8abf5 0 = .ok (.aload_n 0, 1) := by decide +kernel
theorem dJ0_length_8abf5_1 : decode cJ0_length_8abf5 1 = .ok (.getfield 9, 3) := by decide +kernel
theorem dJ0_length_8abf5_4 : decode cJ0_length_8abf5 4 = .ok (.arraylength, 1) := by decide +kernel
theorem dJ0_length_8abf5_5 : decode cJ0_length_8abf5 5 = .ok (.aload_n 0, 1) := by decide +kernel
theorem dJ0_length_8abf5_6 : decode cJ0_length_8abf5 6 = .ok (.invokevirtual 335, 3) := by decide +kernel
theorem dJ0_length_8abf5_9 : decode cJ0_length_8abf5 9 = .ok (.ishr, 1) := by decide +kernel
theorem dJ0_length_8abf5_10 : decode cJ0_length_8abf5 10 = .ok (.ireturn, 1) := by decide +kernel
set_option maxRecDepth 20000 in
theorem ggJ0_indexOf_0f7a4_J0_indexOf_7cf53 : GoodIn wsJ0_indexOf_0f7a4 wsJ0_indexOf_7cf53 := goodIn_r _ [5, 6, 7, 8, 9, 4, 10, 11, 12, 13, 14, 15, 16, 17, 18, 19, 20, 21, 22, 23, 24, 25, 26, 27, 28, 29, 30, 31, 32, 33, 34, 35, 36, 37, 38, 39, 40, 41, 42, 43, 44, 45, 46, 47, 48, 49, 50, 51, 52, 53, 54, 55, 56, 57, 58, 59, 60, 61, 62, 63, 64, 65, 66, 67, 68, 69, 70, 71, 72, 73, 74, 75, 76, 77, 78, 79, 80, 81, 82, 83, 84, 85] (by decide +kernel) (by decide +kernel)
set_option maxRecDepth 20000 in
theorem gJ0_indexOf_0f7a4_J0_indexOf_7cf53 : GoodIn wsJ0_indexOf_0f7a4 (wsV RJ0 633 RJ0 yJ0_indexOf_7cf53 wsJ0_indexOf_7cf53) := goodIn_app (goodIn_of _ (by decide +kernel)) ggJ0_indexOf_0f7a4_J0_indexOf_7cf53
theorem dJ0_indexOf_0f7a4_0 : decode cJ0_indexOf_0f7a4 0 = .ok (.aload_n 0, 1) := by decide +kernel
theorem dJ0_indexOf_0f7a4_1 : decode cJ0_indexOf_0f7a4 1 = .ok (.iload_n 1, 1) := by decide +kernel
theorem dJ0_indexOf_0f7a4_2 : decode cJ0_indexOf_0f7a4 2 = .ok (.iconst 0, 1) := by decide +kernel
theorem dJ0_indexOf_0f7a4_3 : decode cJ0_indexOf_0f7a4 3 = .ok (.invokevirtual 633, 3) := by decide +kernel
theorem dJ0_indexOf_0f7a4_6 : decode cJ0_indexOf_0f7a4 6 = .ok (.ireturn, 1) := by decide +kernel
set_option maxRecDepth 20000 in
theorem ggJ0_indexOf_7cf53_J0_isLatin1_aae02 : GoodIn wsJ0_indexOf_7cf53 wsJ0_isLatin1_aae02 := goodIn_r _ [6, 7, 8] (by decide +kernel) (by decide +kernel)
set_option maxRecDepth 20000 in
theorem gJ0_indexOf_7cf53_J0_isLatin1_aae02 : GoodIn wsJ0_indexOf_7cf53 (wsV RJ0 492 RJ0 yJ0_isLatin1_aae02 wsJ0_isLatin1_aae02) := goodIn_app (goodIn_of _ (by decide +kernel)) ggJ0_indexOf_7cf53_J0_isLatin1_aae02
set_option maxRecDepth 20000 in
theorem ggJ0_indexOf_7cf53_J0_length_8abf5 : GoodIn wsJ0_indexOf_7cf53 wsJ0_length_8abf5 := goodIn_r _ [12, 1, 13, 14, 15, 5, 16, 7, 8] (by decide +kernel) (by decide +kernel)
set_option maxRecDepth 20000 in
theorem gJ0_indexOf_7cf53_J0_length_8abf5 : GoodIn wsJ0_indexOf_7cf53 (wsV RJ0 505 RJ0 yJ0_length_8abf5 wsJ0_length_8abf5) := goodIn_app (goodIn_of _ (by decide +kernel)) ggJ0_indexOf_7cf53_J0_length_8abf5
set_option maxRecDepth 20000 in
theorem ggJ0_indexOf_7cf53_J1_indexOf_4cfef : GoodIn wsJ0_indexOf_7cf53 wsJ1_indexOf_4cfef := goodIn_r _ [20, 21, 22, 23, 24, 25, 26, 27, 28, 29, 19, 30, 31, 32, 33] (by decide +kernel) (by decide +kernel)
set_option maxRecDepth 20000 in
theorem gJ0_indexOf_7cf53_J1_indexOf_4cfef : GoodIn wsJ0_indexOf_7cf53 (va_wsS RJ0 637 yJ1_indexOf_4cfef wsJ1_indexOf_4cfef) := goodIn_app (goodIn_of _ (by decide +kernel)) ggJ0_indexOf_7cf53_J1_indexOf_4cfef
set_option maxRecDepth 20000 in
theorem ggJ0_indexOf_7cf53_J2_indexOf_4cfef : GoodIn wsJ0_indexOf_7cf53 wsJ2_indexOf_4cfef := goodIn_r _ [37, 38, 22, 23, 24, 39, 26, 27, 40, 41, 42, 36, 43, 44, 45, 46, 47, 48, 49, 50, 51, 5, 52, 53, 54, 55, 56, 57, 58, 59, 60, 61, 62, 63, 64, 65, 66, 67, 68, 69, 70, 71, 72, 73, 74, 75, 76, 77, 78, 79, 80, 81] (by decide +kernel) (by decide +kernel)
set_option maxRecDepth 20000 in
theorem gJ0_indexOf_7cf53_J2_indexOf_4cfef : GoodIn wsJ0_indexOf_7cf53 (va_wsS RJ0 640 yJ2_indexOf_4cfef wsJ2_indexOf_4cfef) := goodIn_app (goodIn_of _ (by decide +kernel)) ggJ0_indexOf_7cf53_J2_indexOf_4cfef
theorem dJ0_indexOf_7cf53_0 : decode cJ0_indexOf_7cf53 0 = .ok (.aload_n 0, 1) := by decide +kernel
theorem dJ0_indexOf_7cf53_1 : decode cJ0_indexOf_7cf53 1 = .ok (.invokevirtual 492, 3) := by decide +kernel
theorem dJ0_indexOf_7cf53_4 : decode cJ0_indexOf_7cf53 4 = .ok (.ifCond .eq 19, 3) := by decide +kernel
theorem dJ0_indexOf_7cf53_7 : decode cJ0_indexOf_7cf53 7 = .ok (.aload_n 0, 1) := by decide +kernel
theorem dJ0_indexOf_7cf53_8 : decode cJ0_indexOf_7cf53 8 = .ok (.getfield 9, 3) := by decide +kernel
theorem dJ0_indexOf_7cf53_11 : decode cJ0_indexOf_7cf53 11 = .ok (.iload_n 1, 1) := by decide +kernel
theorem dJ0_indexOf_7cf53_12 : decode cJ0_indexOf_7cf53 12 = .ok (.iload_n 2, 1) := by decide +kernel
theorem dJ0_indexOf_7cf53_13 : decode cJ0_indexOf_7cf53 13 = .ok (.aload_n 0, 1) := by decide +kernel
theorem dJ0_indexOf_7cf53_14 : decode cJ0_indexOf_7cf53 14 = .ok (.invokevirtual 505, 3) := by decide +kernel
theorem dJ0_indexOf_7cf53_17 : decode cJ0_indexOf_7cf53 17 = .ok (.invokestatic 637, 3) := by decide +kernel
theorem dJ0_indexOf_7cf53_20 : decode cJ0_indexOf_7cf53 20 = .ok (.goto 16, 3) := by decide +kernel
theorem dJ0_indexOf_7cf53_23 : decode cJ0_indexOf_7cf53 23 = .ok (.aload_n 0, 1) := by decide +kernel
theorem dJ0_indexOf_7cf53_24 : decode cJ0_indexOf_7cf53 24 = .ok (.getfield 9, 3) := by decide +kernel
theorem dJ0_indexOf_7cf53_27 : decode cJ0_indexOf_7cf53 27 = .ok (.iload_n 1, 1) := by decide +kernel
theorem dJ0_indexOf_7cf53_28 : decode cJ0_indexOf_7cf53 28 = .ok (.iload_n 2, 1) := by decide +kernel
theorem dJ0_indexOf_7cf53_29 : decode cJ0_indexOf_7cf53 29 = .ok (.aload_n 0, 1) := by decide +kernel
theorem dJ0_indexOf_7cf53_30 : decode cJ0_indexOf_7cf53 30 = .ok (.invokevirtual 505, 3) := by decide +kernel
theorem dJ0_indexOf_7cf53_33 : decode cJ0_indexOf_7cf53 33 = .ok (.invokestatic 640, 3) := by decide +kernel
theorem dJ0_indexOf_7cf53_36 : decode cJ0_indexOf_7cf53 36 = .ok (.ireturn, 1) := by decide +kernel
theorem dJ0_coder_7d493_0 : decode cJ0_coder_7d493 0 = .ok (.getstatic 38, 3) := by decide +kernel
theorem dJ0_coder_7d493_3 : decode cJ0_coder_7d493 3 = .ok (.ifCond .eq 10, 3) := by decide +kernel
theorem dJ0_coder_7d493_6 : decode cJ0_coder_7d493 6 = .ok (.aload_n 0, 1) := by decide +kernel
theorem dJ0_coder_7d493_7 : decode cJ0_coder_7d493 7 = .ok (.getfield 15, 3) := by decide +kernel
theorem dJ0_coder_7d493_10 : decode cJ0_coder_7d493 10 = .ok (.goto 4, 3) := by decide +kernel
theorem dJ0_coder_7d493_13 : decode cJ0_coder_7d493 13 = .ok (.iconst 1, 1) := by decide +kernel
theorem dJ0_coder_7d493_14 : decode cJ0_coder_7d493 14 = .ok (.ireturn, 1) := by decide +kernel
theorem dJ0_isLatin1_aae02_0 : decode cJ0_isLatin1_aae02 0 = .ok (.getstatic 38, 3) := by decide +kernel
theorem dJ0_isLatin1_aae02_3 : decode cJ0_isLatin1_aae02 3 = .ok (.ifCond .eq 14, 3) := by decide +kernel
theorem dJ0_isLatin1_aae02_6 : decode cJ0_isLatin1_aae02 6 = .ok (.aload_n 0, 1) := by decide +kernel
theorem dJ0_isLatin1_aae02_7 : decode cJ0_isLatin1_aae02 7 = .ok (.getfield 15, 3) := by decide +kernel
theorem dJ0_isLatin1_aae02_10 : decode cJ0_isLatin1_aae02 10 = .ok (.ifCond .ne 7, 3) := by decide +kernel
theorem dJ0_isLatin1_aae02_13 : decode cJ0_isLatin1_aae02 13 = .ok (.iconst 1, 1) := by decide +kernel
theorem dJ0_isLatin1_aae02_14 : decode cJ0_isLatin1_aae02 14 = .ok (.goto 4, 3) := by decide +kernel
theorem dJ0_isLatin1_aae02_17 : decode cJ0_isLatin1_aae02 17 = .ok (.iconst 0, 1) := by decide +kernel
theorem dJ0_isLatin1_aae02_18 : decode cJ0_isLatin1_aae02 18 = .ok (.ireturn, 1) := by decide +kernel
set_option maxRecDepth 20000 in
theorem ggJ0_checkBoundsBeginEnd_23922_J3_checkFromToIndex_8c36e : GoodIn wsJ0_checkBoundsBeginEnd_23922 wsJ3_checkFromToIndex_8c36e := goodIn_r _ [5] (by decide +kernel) (by decide +kernel)
set_option maxRecDepth 20000 in
theorem gJ0_checkBoundsBeginEnd_23922_J3_checkFromToIndex_8c36e : GoodIn wsJ0_checkBoundsBeginEnd_23922 (va_wsS RJ0 1062 yJ3_checkFromToIndex_8c36e wsJ3_checkFromToIndex_8c36e) := goodIn_app (goodIn_of _ (by decide +kernel)) ggJ0_checkBoundsBeginEnd_23922_J3_checkFromToIndex_8c36e
theorem dJ0_checkBoundsBeginEnd_23922_0 : decode cJ0_checkBoundsBeginEnd_23922 0 = .ok (.iload_n 0, 1) := by decide +kernel
theorem dJ0_checkBoundsBeginEnd_23922_1 : decode cJ0_checkBoundsBeginEnd_23922 1 = .ok (.iload_n 1, 1) := by decide +kernel
theorem dJ0_checkBoundsBeginEnd_23922_2 : decode cJ0_checkBoundsBeginEnd_23922 2 = .ok (.iload_n 2, 1) := by decide +kernel
theorem dJ0_checkBoundsBeginEnd_23922_3 : decode cJ0_checkBoundsBeginEnd_23922 3 = .ok (.getstatic 1053, 3) := by decide +kernel
theorem dJ0_checkBoundsBeginEnd_23922_6 : decode cJ0_checkBoundsBeginEnd_23922 6 = .ok (.invokestatic 1062, 3) := by decide +kernel
theorem dJ0_checkBoundsBeginEnd_23922_9 : decode cJ0_checkBoundsBeginEnd_23922 9 = .ok (.pop, 1) := by decide +kernel
theorem dJ0_checkBoundsBeginEnd_23922_10 : decode cJ0_checkBoundsBeginEnd_23922 10 = .ok (.return_, 1) := by decide +kernel
theorem dJ1_canEncode_9a6ad_0 : decode cJ1_canEncode_9a6ad 0 = .ok (.iload_n 0, 1) := by decide +kernel
theorem dJ1_canEncode_9a6ad_1 : decode cJ1_canEncode_9a6ad 1 = .ok (.ifCond .lt 14, 3) := by decide +kernel
theorem dJ1_canEncode_9a6ad_4 : decode cJ1_canEncode_9a6ad 4 = .ok (.iload_n 0, 1) := by decide +kernel
theorem dJ1_canEncode_9a6ad_5 : decode cJ1_canEncode_9a6ad 5 = .ok (.sipush 255, 3) := by decide +kernel
theorem dJ1_canEncode_9a6ad_8 : decode cJ1_canEncode_9a6ad 8 = .ok (.if_icmp .gt 7, 3) := by decide +kernel
theorem dJ1_canEncode_9a6ad_11 : decode cJ1_canEncode_9a6ad 11 = .ok (.iconst 1, 1) := by decide +kernel
theorem dJ1_canEncode_9a6ad_12 : decode cJ1_canEncode_9a6ad 12 = .ok (.goto 4, 3) := by decide +kernel
theorem dJ1_canEncode_9a6ad_15 : decode cJ1_canEncode_9a6ad 15 = .ok (.iconst 0, 1) := by decide +kernel
theorem dJ1_canEncode_9a6ad_16 : decode cJ1_canEncode_9a6ad 16 = .ok (.ireturn, 1) := by decide +kernel
set_option maxRecDepth 20000 in
theorem ggJ1_indexOf_4cfef_J1_canEncode_9a6ad : GoodIn wsJ1_indexOf_4cfef wsJ1_canEncode_9a6ad := goodIn_r _ [11] (by decide +kernel) (by decide +kernel)
set_option maxRecDepth 20000 in
theorem gJ1_indexOf_4cfef_J1_canEncode_9a6ad : GoodIn wsJ1_indexOf_4cfef (va_wsS RJ1 88 yJ1_canEncode_9a6ad wsJ1_canEncode_9a6ad) := goodIn_app (goodIn_of _ (by decide +kernel)) ggJ1_indexOf_4cfef_J1_canEncode_9a6ad
set_option maxRecDepth 20000 in
theorem ggJ1_indexOf_4cfef_J1_indexOfChar_4cfef : GoodIn wsJ1_indexOf_4cfef wsJ1_indexOfChar_4cfef := goodIn_r _ [14] (by decide +kernel) (by decide +kernel)
set_option maxRecDepth 20000 in
theorem gJ1_indexOf_4cfef_J1_indexOfChar_4cfef : GoodIn wsJ1_indexOf_4cfef (va_wsS RJ1 95 yJ1_indexOfChar_4cfef wsJ1_indexOfChar_4cfef) := goodIn_app (goodIn_of _ (by decide +kernel)) ggJ1_indexOf_4cfef_J1_indexOfChar_4cfef
theorem dJ1_indexOf_4cfef_0 : decode cJ1_indexOf_4cfef 0 = .ok (.iload_n 1, 1) := by decide +kernel
theorem dJ1_indexOf_4cfef_1 : decode cJ1_indexOf_4cfef 1 = .ok (.invokestatic 88, 3) := by decide +kernel
theorem dJ1_indexOf_4cfef_4 : decode cJ1_indexOf_4cfef 4 = .ok (.ifCond .ne 5, 3) := by decide +kernel
theorem dJ1_indexOf_4cfef_7 : decode cJ1_indexOf_4cfef 7 = .ok (.iconst (-1), 1) := by decide +kernel
theorem dJ1_indexOf_4cfef_8 : decode cJ1_indexOf_4cfef 8 = .ok (.ireturn, 1) := by decide +kernel
theorem dJ1_indexOf_4cfef_9 : decode cJ1_indexOf_4cfef 9 = .ok (.iload_n 2, 1) := by decide +kernel
theorem dJ1_indexOf_4cfef_10 : decode cJ1_indexOf_4cfef 10 = .ok (.iconst 0, 1) := by decide +kernel
theorem dJ1_indexOf_4cfef_11 : decode cJ1_indexOf_4cfef 11 = .ok (.invokestatic 92, 3) := by decide +kernel
theorem dJ1_indexOf_4cfef_14 : decode cJ1_indexOf_4cfef 14 = .ok (.istore_n 2, 1) := by decide +kernel
theorem dJ1_indexOf_4cfef_15 : decode cJ1_indexOf_4cfef 15 = .ok (.iload_n 3, 1) := by decide +kernel
theorem dJ1_indexOf_4cfef_16 : decode cJ1_indexOf_4cfef 16 = .ok (.aload_n 0, 1) := by decide +kernel
theorem dJ1_indexOf_4cfef_17 : decode cJ1_indexOf_4cfef 17 = .ok (.arraylength, 1) := by decide +kernel
theorem dJ1_indexOf_4cfef_18 : decode cJ1_indexOf_4cfef 18 = .ok (.invokestatic 38, 3) := by decide +kernel
theorem dJ1_indexOf_4cfef_21 : decode cJ1_indexOf_4cfef 21 = .ok (.istore_n 3, 1) := by decide +kernel
theorem dJ1_indexOf_4cfef_22 : decode cJ1_indexOf_4cfef 22 = .ok (.iload_n 2, 1) := by decide +kernel
theorem dJ1_indexOf_4cfef_23 : decode cJ1_indexOf_4cfef 23 = .ok (.iload_n 3, 1) := by decide +kernel
theorem dJ1_indexOf_4cfef_24 : decode cJ1_indexOf_4cfef 24 = .ok (.if_icmp .lt 5, 3) := by decide +kernel
theorem dJ1_indexOf_4cfef_27 : decode cJ1_indexOf_4cfef 27 = .ok (.iconst (-1), 1) := by decide +kernel
theorem dJ1_indexOf_4cfef_28 : decode cJ1_indexOf_4cfef 28 = .ok (.ireturn, 1) := by decide +kernel
theorem dJ1_indexOf_4cfef_29 : decode cJ1_indexOf_4cfef 29 = .ok (.aload_n 0, 1) := by decide +kernel
theorem dJ1_indexOf_4cfef_30 : decode cJ1_indexOf_4cfef 30 = .ok (.iload_n 1, 1) := by decide +kernel
theorem dJ1_indexOf_4cfef_31 : decode cJ1_indexOf_4cfef 31 = .ok (.iload_n 2, 1) := by decide +kernel
theorem dJ1_indexOf_4cfef_32 : decode cJ1_indexOf_4cfef 32 = .ok (.iload_n 3, 1) := by decide +kernel
theorem dJ1_indexOf_4cfef_33 : decode cJ1_indexOf_4cfef 33 = .ok (.invokestatic 95, 3) := by decide +kernel
theorem dJ1_indexOf_4cfef_36 : decode cJ1_indexOf_4cfef 36 = .ok (.ireturn, 1) := by decide +kernel
theorem dJ1_indexOfChar_4cfef_0 : decode cJ1_indexOfChar_4cfef 0 = .ok (.iload_n 1, 1) := by decide +kernel
theorem dJ1_indexOfChar_4cfef_1 : decode cJ1_indexOfChar_4cfef 1 = .ok (.i2b, 1) := by decide +kernel
theorem dJ1_indexOfChar_4cfef_2 : decode cJ1_indexOfChar_4cfef 2 = .ok (.istore 4, 2) := by decide +kernel
theorem dJ1_indexOfChar_4cfef_4 : decode cJ1_indexOfChar_4cfef 4 = .ok (.iload_n 2, 1) := by decide +kernel
theorem dJ1_indexOfChar_4cfef_5 : decode cJ1_indexOfChar_4cfef 5 = .ok (.istore 5, 2) := by decide +kernel
theorem dJ1_indexOfChar_4cfef_7 : decode cJ1_indexOfChar_4cfef 7 = .ok (.iload 5, 2) := by decide +kernel
theorem dJ1_indexOfChar_4cfef_9 : decode cJ1_indexOfChar_4cfef 9 = .ok (.iload_n 3, 1) := by decide +kernel
theorem dJ1_indexOfChar_4cfef_10 : decode cJ1_indexOfChar_4cfef 10 = .ok (.if_icmp .ge 21, 3) := by decide +kernel
theorem dJ1_indexOfChar_4cfef_13 : decode cJ1_indexOfChar_4cfef 13 = .ok (.aload_n 0, 1) := by decide +kernel
theorem dJ1_indexOfChar_4cfef_14 : decode cJ1_indexOfChar_4cfef 14 = .ok (.iload 5, 2) := by decide +kernel
theorem dJ1_indexOfChar_4cfef_16 : decode cJ1_indexOfChar_4cfef 16 = .ok (.baload, 1) := by decide +kernel
theorem dJ1_indexOfChar_4cfef_17 : decode cJ1_indexOfChar_4cfef 17 = .ok (.iload 4, 2) := by decide +kernel
theorem dJ1_indexOfChar_4cfef_19 : decode cJ1_indexOfChar_4cfef 19 = .ok (.if_icmp .ne 6, 3) := by decide +kernel
theorem dJ1_indexOfChar_4cfef_22 : decode cJ1_indexOfChar_4cfef 22 = .ok (.iload 5, 2) := by decide +kernel
theorem dJ1_indexOfChar_4cfef_24 : decode cJ1_indexOfChar_4cfef 24 = .ok (.ireturn, 1) := by decide +kernel
theorem dJ1_indexOfChar_4cfef_25 : decode cJ1_indexOfChar_4cfef 25 = .ok (.iinc 5 1, 3) := by decide +kernel
theorem dJ1_indexOfChar_4cfef_28 : decode cJ1_indexOfChar_4cfef 28 = .ok (.goto (-21), 3) := by decide +kernel
theorem dJ1_indexOfChar_4cfef_31 : decode cJ1_indexOfChar_4cfef 31 = .ok (.iconst (-1), 1) := by decide +kernel
theorem dJ1_indexOfChar_4cfef_32 : decode cJ1_indexOfChar_4cfef 32 = .ok (.ireturn, 1) := by decide +kernel
set_option maxRecDepth 20000 in
theorem ggJ2_getChar_3b067_J2_length_9d52b : GoodIn wsJ2_getChar_3b067 wsJ2_length_9d52b := goodIn_r _ [7] (by decide +kernel) (by decide +kernel)
set_option maxRecDepth 20000 in
theorem gJ2_getChar_3b067_J2_length_9d52b : GoodIn wsJ2_getChar_3b067 (va_wsS RJ2 48 yJ2_length_9d52b wsJ2_length_9d52b) := goodIn_app (goodIn_of _ (by decide +kernel)) ggJ2_getChar_3b067_J2_length_9d52b
theorem dJ2_getChar_3b067_0 : decode cJ2_getChar_3b067 0 = .ok (.getstatic 44, 3) := by decide +kernel
theorem dJ2_getChar_3b067_3 : decode cJ2_getChar_3b067 3 = .ok (.ifCond .ne 25, 3) := by decide +kernel
theorem dJ2_getChar_3b067_6 : decode cJ2_getChar_3b067 6 = .ok (.iload_n 1, 1) := by decide +kernel
theorem dJ2_getChar_3b067_7 : decode cJ2_getChar_3b067 7 = .ok (.ifCond .lt 11, 3) := by decide +kernel
theorem dJ2_getChar_3b067_10 : decode cJ2_getChar_3b067 10 = .ok (.iload_n 1, 1) := by decide +kernel
theorem dJ2_getChar_3b067_11 : decode cJ2_getChar_3b067 11 = .ok (.aload_n 0, 1) := by decide +kernel
theorem dJ2_getChar_3b067_12 : decode cJ2_getChar_3b067 12 = .ok (.invokestatic 48, 3) := by decide +kernel
theorem dJ2_getChar_3b067_15 : decode cJ2_getChar_3b067 15 = .ok (.if_icmp .lt 13, 3) := by decide +kernel
theorem dJ2_getChar_3b067_18 : decode cJ2_getChar_3b067 18 = .ok (.new 52, 3) := by decide +kernel
theorem dJ2_getChar_3b067_21 : decode cJ2_getChar_3b067 21 = .ok (.dup, 1) := by decide +kernel
theorem dJ2_getChar_3b067_22 : decode cJ2_getChar_3b067 22 = .ok (.ldc 54, 2) := by decide +kernel
theorem dJ2_getChar_3b067_24 : decode cJ2_getChar_3b067 24 = .ok (.invokespecial 56, 3) := by decide +kernel
theorem dJ2_getChar_3b067_27 : decode cJ2_getChar_3b067 27 = .ok (.athrow, 1) := by decide +kernel
theorem dJ2_getChar_3b067_28 : decode cJ2_getChar_3b067 28 = .ok (.iload_n 1, 1) := by decide +kernel
theorem dJ2_getChar_3b067_29 : decode cJ2_getChar_3b067 29 = .ok (.iconst 1, 1) := by decide +kernel
theorem dJ2_getChar_3b067_30 : decode cJ2_getChar_3b067 30 = .ok (.ishl, 1) := by decide +kernel
theorem dJ2_getChar_3b067_31 : decode cJ2_getChar_3b067 31 = .ok (.istore_n 1, 1) := by decide +kernel
theorem dJ2_getChar_3b067_32 : decode cJ2_getChar_3b067 32 = .ok (.aload_n 0, 1) := by decide +kernel
theorem dJ2_getChar_3b067_33 : decode cJ2_getChar_3b067 33 = .ok (.iload_n 1, 1) := by decide +kernel
theorem dJ2_getChar_3b067_34 : decode cJ2_getChar_3b067 34 = .ok (.iinc 1 1, 3) := by decide +kernel
theorem dJ2_getChar_3b067_37 : decode cJ2_getChar_3b067 37 = .ok (.baload, 1) := by decide +kernel
theorem dJ2_getChar_3b067_38 : decode cJ2_getChar_3b067 38 = .ok (.sipush 255, 3) := by decide +kernel
theorem dJ2_getChar_3b067_41 : decode cJ2_getChar_3b067 41 = .ok (.iand, 1) := by decide +kernel
theorem dJ2_getChar_3b067_42 : decode cJ2_getChar_3b067 42 = .ok (.getstatic 59, 3) := by decide +kernel
theorem dJ2_getChar_3b067_45 : decode cJ2_getChar_3b067 45 = .ok (.ishl, 1) := by decide +kernel
theorem dJ2_getChar_3b067_46 : decode cJ2_getChar_3b067 46 = .ok (.aload_n 0, 1) := by decide +kernel
theorem dJ2_getChar_3b067_47 : decode cJ2_getChar_3b067 47 = .ok (.iload_n 1, 1) := by decide +kernel
theorem dJ2_getChar_3b067_48 : decode cJ2_getChar_3b067 48 = .ok (.baload, 1) := by decide +kernel
theorem dJ2_getChar_3b067_49 : decode cJ2_getChar_3b067 49 = .ok (.sipush 255, 3) := by decide +kernel
theorem dJ2_getChar_3b067_52 : decode cJ2_getChar_3b067 52 = .ok (.iand, 1) := by decide +kernel
theorem dJ2_getChar_3b067_53 : decode cJ2_getChar_3b067 53 = .ok (.getstatic 63, 3) := by decide +kernel
theorem dJ2_getChar_3b067_56 : decode cJ2_getChar_3b067 56 = .ok (.ishl, 1) := by decide +kernel
theorem dJ2_getChar_3b067_57 : decode cJ2_getChar_3b067 57 = .ok (.ior, 1) := by decide +kernel
theorem dJ2_getChar_3b067_58 : decode cJ2_getChar_3b067 58 = .ok (.i2c, 1) := by decide +kernel
theorem dJ2_getChar_3b067_59 : decode cJ2_getChar_3b067 59 = .ok (.ireturn, 1) := by decide +kernel
theorem dJ2_length_9d52b_0 : decode cJ2_length_9d52b 0 = .ok (.aload_n 0, 1) := by decide +kernel
theorem dJ2_length_9d52b_1 : decode cJ2_length_9d52b 1 = .ok (.arraylength, 1) := by decide +kernel
theorem dJ2_length_9d52b_2 : decode cJ2_length_9d52b 2 = .ok (.iconst 1, 1) := by decide +kernel
theorem dJ2_length_9d52b_3 : decode cJ2_length_9d52b 3 = .ok (.ishr, 1) := by decide +kernel
theorem dJ2_length_9d52b_4 : decode cJ2_length_9d52b 4 = .ok (.ireturn, 1) := by decide +kernel
set_option maxRecDepth 20000 in
theorem ggJ2_indexOf_4cfef_J2_indexOfChar_4cfef : GoodIn wsJ2_indexOf_4cfef wsJ2_indexOfChar_4cfef := goodIn_r _ [12, 13, 14, 11, 15, 16, 17, 18, 19, 20, 21, 22, 23, 24, 25, 26, 27, 28, 29, 30, 31, 32, 33, 34, 35, 36] (by decide +kernel) (by decide +kernel)
set_option maxRecDepth 20000 in
theorem gJ2_indexOf_4cfef_J2_indexOfChar_4cfef : GoodIn wsJ2_indexOf_4cfef (va_wsS RJ2 228 yJ2_indexOfChar_4cfef wsJ2_indexOfChar_4cfef) := goodIn_app (goodIn_of _ (by decide +kernel)) ggJ2_indexOf_4cfef_J2_indexOfChar_4cfef
set_option maxRecDepth 20000 in
theorem ggJ2_indexOf_4cfef_J2_indexOfSupplementary_4cfef : GoodIn wsJ2_indexOf_4cfef wsJ2_indexOfSupplementary_4cfef := goodIn_r _ [39, 40, 41, 42, 43, 44, 45, 46, 47, 48, 49, 50, 51, 13, 14, 11, 15, 16, 17, 18, 19, 20, 21, 22, 23, 24, 25, 26, 27, 31, 32, 33, 34, 35, 36] (by decide +kernel) (by decide +kernel)
set_option maxRecDepth 20000 in
theorem gJ2_indexOf_4cfef_J2_indexOfSupplementary_4cfef : GoodIn wsJ2_indexOf_4cfef (va_wsS RJ2 232 yJ2_indexOfSupplementary_4cfef wsJ2_indexOfSupplementary_4cfef) := goodIn_app (goodIn_of _ (by decide +kernel)) ggJ2_indexOf_4cfef_J2_indexOfSupplementary_4cfef
theorem dJ2_indexOf_4cfef_0 : decode cJ2_indexOf_4cfef 0 = .ok (.iload_n 2, 1) := by decide +kernel
theorem dJ2_indexOf_4cfef_1 : decode cJ2_indexOf_4cfef 1 = .ok (.iconst 0, 1) := by decide +kernel
theorem dJ2_indexOf_4cfef_2 : decode cJ2_indexOf_4cfef 2 = .ok (.invokestatic 224, 3) := by decide +kernel
theorem dJ2_indexOf_4cfef_5 : decode cJ2_indexOf_4cfef 5 = .ok (.istore_n 2, 1) := by decide +kernel
theorem dJ2_indexOf_4cfef_6 : decode cJ2_indexOf_4cfef 6 = .ok (.iload_n 3, 1) := by decide +kernel
theorem dJ2_indexOf_4cfef_7 : decode cJ2_indexOf_4cfef 7 = .ok (.aload_n 0, 1) := by decide +kernel
theorem dJ2_indexOf_4cfef_8 : decode cJ2_indexOf_4cfef 8 = .ok (.arraylength, 1) := by decide +kernel
theorem dJ2_indexOf_4cfef_9 : decode cJ2_indexOf_4cfef 9 = .ok (.iconst 1, 1) := by decide +kernel
theorem dJ2_indexOf_4cfef_10 : decode cJ2_indexOf_4cfef 10 = .ok (.ishr, 1) := by decide +kernel
theorem dJ2_indexOf_4cfef_11 : decode cJ2_indexOf_4cfef 11 = .ok (.invokestatic 183, 3) := by decide +kernel
theorem dJ2_indexOf_4cfef_14 : decode cJ2_indexOf_4cfef 14 = .ok (.istore_n 3, 1) := by decide +kernel
theorem dJ2_indexOf_4cfef_15 : decode cJ2_indexOf_4cfef 15 = .ok (.iload_n 2, 1) := by decide +kernel
theorem dJ2_indexOf_4cfef_16 : decode cJ2_indexOf_4cfef 16 = .ok (.iload_n 3, 1) := by decide +kernel
theorem dJ2_indexOf_4cfef_17 : decode cJ2_indexOf_4cfef 17 = .ok (.if_icmp .lt 5, 3) := by decide +kernel
theorem dJ2_indexOf_4cfef_20 : decode cJ2_indexOf_4cfef 20 = .ok (.iconst (-1), 1) := by decide +kernel
theorem dJ2_indexOf_4cfef_21 : decode cJ2_indexOf_4cfef 21 = .ok (.ireturn, 1) := by decide +kernel
theorem dJ2_indexOf_4cfef_22 : decode cJ2_indexOf_4cfef 22 = .ok (.iload_n 1, 1) := by decide +kernel
theorem dJ2_indexOf_4cfef_23 : decode cJ2_indexOf_4cfef 23 = .ok (.ldc 227, 2) := by decide +kernel
theorem dJ2_indexOf_4cfef_25 : decode cJ2_indexOf_4cfef 25 = .ok (.if_icmp .ge 11, 3) := by decide +kernel
theorem dJ2_indexOf_4cfef_28 : decode cJ2_indexOf_4cfef 28 = .ok (.aload_n 0, 1) := by decide +kernel
theorem dJ2_indexOf_4cfef_29 : decode cJ2_indexOf_4cfef 29 = .ok (.iload_n 1, 1) := by decide +kernel
theorem dJ2_indexOf_4cfef_30 : decode cJ2_indexOf_4cfef 30 = .ok (.iload_n 2, 1) := by decide +kernel
theorem dJ2_indexOf_4cfef_31 : decode cJ2_indexOf_4cfef 31 = .ok (.iload_n 3, 1) := by decide +kernel
theorem dJ2_indexOf_4cfef_32 : decode cJ2_indexOf_4cfef 32 = .ok (.invokestatic 228, 3) := by decide +kernel
theorem dJ2_indexOf_4cfef_35 : decode cJ2_indexOf_4cfef 35 = .ok (.ireturn, 1) := by decide +kernel
theorem dJ2_indexOf_4cfef_36 : decode cJ2_indexOf_4cfef 36 = .ok (.aload_n 0, 1) := by decide +kernel
theorem dJ2_indexOf_4cfef_37 : decode cJ2_indexOf_4cfef 37 = .ok (.iload_n 1, 1) := by decide +kernel
theorem dJ2_indexOf_4cfef_38 : decode cJ2_indexOf_4cfef 38 = .ok (.iload_n 2, 1) := by decide +kernel
theorem dJ2_indexOf_4cfef_39 : decode cJ2_indexOf_4cfef 39 = .ok (.iload_n 3, 1) := by decide +kernel
theorem dJ2_indexOf_4cfef_40 : decode cJ2_indexOf_4cfef 40 = .ok (.invokestatic 232, 3) := by decide +kernel
theorem dJ2_indexOf_4cfef_43 : decode cJ2_indexOf_4cfef 43 = .ok (.ireturn, 1) := by decide +kernel
set_option maxRecDepth 20000 in
theorem ggJ2_indexOfChar_4cfef_J2_checkBoundsBeginEnd_d044e : GoodIn wsJ2_indexOfChar_4cfef wsJ2_checkBoundsBeginEnd_d044e := goodIn_r _ [4, 5, 6, 3, 7, 8, 9, 10, 11, 12, 13, 14, 15, 16] (by decide +kernel) (by decide +kernel)
set_option maxRecDepth 20000 in
theorem gJ2_indexOfChar_4cfef_J2_checkBoundsBeginEnd_d044e : GoodIn wsJ2_indexOfChar_4cfef (va_wsS RJ2 96 yJ2_checkBoundsBeginEnd_d044e wsJ2_checkBoundsBeginEnd_d044e) := goodIn_app (goodIn_of _ (by decide +kernel)) ggJ2_indexOfChar_4cfef_J2_checkBoundsBeginEnd_d044e
set_option maxRecDepth 20000 in
theorem ggJ2_indexOfChar_4cfef_J2_indexOfCharUnsafe_4cfef : GoodIn wsJ2_indexOfChar_4cfef wsJ2_indexOfCharUnsafe_4cfef := goodIn_r _ [19, 20, 21, 3, 22, 23, 24, 25, 5, 6, 7] (by decide +kernel) (by decide +kernel)
set_option maxRecDepth 20000 in
theorem gJ2_indexOfChar_4cfef_J2_indexOfCharUnsafe_4cfef : GoodIn wsJ2_indexOfChar_4cfef (va_wsS RJ2 244 yJ2_indexOfCharUnsafe_4cfef wsJ2_indexOfCharUnsafe_4cfef) := goodIn_app (goodIn_of _ (by decide +kernel)) ggJ2_indexOfChar_4cfef_J2_indexOfCharUnsafe_4cfef
theorem dJ2_indexOfChar_4cfef_0 : decode cJ2_indexOfChar_4cfef 0 = .ok (.iload_n 2, 1) := by decide +kernel
theorem dJ2_indexOfChar_4cfef_1 : decode cJ2_indexOfChar_4cfef 1 = .ok (.iload_n 3, 1) := by decide +kernel
theorem dJ2_indexOfChar_4cfef_2 : decode cJ2_indexOfChar_4cfef 2 = .ok (.aload_n 0, 1) := by decide +kernel
theorem dJ2_indexOfChar_4cfef_3 : decode cJ2_indexOfChar_4cfef 3 = .ok (.invokestatic 96, 3) := by decide +kernel
theorem dJ2_indexOfChar_4cfef_6 : decode cJ2_indexOfChar_4cfef 6 = .ok (.aload_n 0, 1) := by decide +kernel
theorem dJ2_indexOfChar_4cfef_7 : decode cJ2_indexOfChar_4cfef 7 = .ok (.iload_n 1, 1) := by decide +kernel
theorem dJ2_indexOfChar_4cfef_8 : decode cJ2_indexOfChar_4cfef 8 = .ok (.iload_n 2, 1) := by decide +kernel
theorem dJ2_indexOfChar_4cfef_9 : decode cJ2_indexOfChar_4cfef 9 = .ok (.iload_n 3, 1) := by decide +kernel
theorem dJ2_indexOfChar_4cfef_10 : decode cJ2_indexOfChar_4cfef 10 = .ok (.invokestatic 244, 3) := by decide +kernel
theorem dJ2_indexOfChar_4cfef_13 : decode cJ2_indexOfChar_4cfef 13 = .ok (.ireturn, 1) := by decide +kernel
set_option maxRecDepth 20000 in
theorem ggJ2_indexOfCharUnsafe_4cfef_J2_getChar_3b067 : GoodIn wsJ2_indexOfCharUnsafe_4cfef wsJ2_getChar_3b067 := goodIn_r _ [4, 5, 6, 7, 8, 9, 3, 10] (by decide +kernel) (by decide +kernel)
set_option maxRecDepth 20000 in
theorem gJ2_indexOfCharUnsafe_4cfef_J2_getChar_3b067 : GoodIn wsJ2_indexOfCharUnsafe_4cfef (va_wsS RJ2 71 yJ2_getChar_3b067 wsJ2_getChar_3b067) := goodIn_app (goodIn_of _ (by decide +kernel)) ggJ2_indexOfCharUnsafe_4cfef_J2_getChar_3b067
theorem dJ2_indexOfCharUnsafe_4cfef_0 : decode cJ2_indexOfCharUnsafe_4cfef 0 = .ok (.iload_n 2, 1) := by decide +kernel
theorem dJ2_indexOfCharUnsafe_4cfef_1 : decode cJ2_indexOfCharUnsafe_4cfef 1 = .ok (.istore 4, 2) := by decide +kernel
theorem dJ2_indexOfCharUnsafe_4cfef_3 : decode cJ2_indexOfCharUnsafe_4cfef 3 = .ok (.iload 4, 2) := by decide +kernel
theorem dJ2_indexOfCharUnsafe_4cfef_5 : decode cJ2_indexOfCharUnsafe_4cfef 5 = .ok (.iload_n 3, 1) := by decide +kernel
theorem dJ2_indexOfCharUnsafe_4cfef_6 : decode cJ2_indexOfCharUnsafe_4cfef 6 = .ok (.if_icmp .ge 22, 3) := by decide +kernel
theorem dJ2_indexOfCharUnsafe_4cfef_9 : decode cJ2_indexOfCharUnsafe_4cfef 9 = .ok (.aload_n 0, 1) := by decide +kernel
theorem dJ2_indexOfCharUnsafe_4cfef_10 : decode cJ2_indexOfCharUnsafe_4cfef 10 = .ok (.iload 4, 2) := by decide +kernel
theorem dJ2_indexOfCharUnsafe_4cfef_12 : decode cJ2_indexOfCharUnsafe_4cfef 12 = .ok (.invokestatic 71, 3) := by decide +kernel
theorem dJ2_indexOfCharUnsafe_4cfef_15 : decode cJ2_indexOfCharUnsafe_4cfef 15 = .ok (.iload_n 1, 1) := by decide +kernel
theorem dJ2_indexOfCharUnsafe_4cfef_16 : decode cJ2_indexOfCharUnsafe_4cfef 16 = .ok (.if_icmp .ne 6, 3) := by decide +kernel
theorem dJ2_indexOfCharUnsafe_4cfef_19 : decode cJ2_indexOfCharUnsafe_4cfef 19 = .ok (.iload 4, 2) := by decide +kernel
theorem dJ2_indexOfCharUnsafe_4cfef_21 : decode cJ2_indexOfCharUnsafe_4cfef 21 = .ok (.ireturn, 1) := by decide +kernel
theorem dJ2_indexOfCharUnsafe_4cfef_22 : decode cJ2_indexOfCharUnsafe_4cfef 22 = .ok (.iinc 4 1, 3) := by decide +kernel
theorem dJ2_indexOfCharUnsafe_4cfef_25 : decode cJ2_indexOfCharUnsafe_4cfef 25 = .ok (.goto (-22), 3) := by decide +kernel
theorem dJ2_indexOfCharUnsafe_4cfef_28 : decode cJ2_indexOfCharUnsafe_4cfef 28 = .ok (.iconst (-1), 1) := by decide +kernel
theorem dJ2_indexOfCharUnsafe_4cfef_29 : decode cJ2_indexOfCharUnsafe_4cfef 29 = .ok (.ireturn, 1) := by decide +kernel
set_option maxRecDepth 20000 in
theorem ggJ2_indexOfSupplementary_4cfef_J11_isValidCodePoint_9a6ad : GoodIn wsJ2_indexOfSupplementary_4cfef wsJ11_isValidCodePoint_9a6ad := goodIn_r _ [4] (by decide +kernel) (by decide +kernel)
set_option maxRecDepth 20000 in
theorem gJ2_indexOfSupplementary_4cfef_J11_isValidCodePoint_9a6ad : GoodIn wsJ2_indexOfSupplementary_4cfef (va_wsS RJ2 164 yJ11_isValidCodePoint_9a6ad wsJ11_isValidCodePoint_9a6ad) := goodIn_app (goodIn_of _ (by decide +kernel)) ggJ2_indexOfSupplementary_4cfef_J11_isValidCodePoint_9a6ad
set_option maxRecDepth 20000 in
theorem ggJ2_indexOfSupplementary_4cfef_J11_highSurrogate_5068e : GoodIn wsJ2_indexOfSupplementary_4cfef wsJ11_highSurrogate_5068e := goodIn_r _ [7, 8] (by decide +kernel) (by decide +kernel)
set_option maxRecDepth 20000 in
theorem gJ2_indexOfSupplementary_4cfef_J11_highSurrogate_5068e : GoodIn wsJ2_indexOfSupplementary_4cfef (va_wsS RJ2 157 yJ11_highSurrogate_5068e wsJ11_highSurrogate_5068e) := goodIn_app (goodIn_of _ (by decide +kernel)) ggJ2_indexOfSupplementary_4cfef_J11_highSurrogate_5068e
set_option maxRecDepth 20000 in
theorem ggJ2_indexOfSupplementary_4cfef_J11_lowSurrogate_5068e : GoodIn wsJ2_indexOfSupplementary_4cfef wsJ11_lowSurrogate_5068e := goodIn_r _ [11, 12] (by decide +kernel) (by decide +kernel)
set_option maxRecDepth 20000 in
theorem gJ2_indexOfSupplementary_4cfef_J11_lowSurrogate_5068e : GoodIn wsJ2_indexOfSupplementary_4cfef (va_wsS RJ2 161 yJ11_lowSurrogate_5068e wsJ11_lowSurrogate_5068e) := goodIn_app (goodIn_of _ (by decide +kernel)) ggJ2_indexOfSupplementary_4cfef_J11_lowSurrogate_5068e
set_option maxRecDepth 20000 in
theorem ggJ2_indexOfSupplementary_4cfef_J2_checkBoundsBeginEnd_d044e : GoodIn wsJ2_indexOfSupplementary_4cfef wsJ2_checkBoundsBeginEnd_d044e := goodIn_r _ [16, 17, 18, 15, 19, 20, 21, 22, 23, 24, 25, 26, 27, 28] (by decide +kernel) (by decide +kernel)
set_option maxRecDepth 20000 in
theorem gJ2_indexOfSupplementary_4cfef_J2_checkBoundsBeginEnd_d044e : GoodIn wsJ2_indexOfSupplementary_4cfef (va_wsS RJ2 96 yJ2_checkBoundsBeginEnd_d044e wsJ2_checkBoundsBeginEnd_d044e) := goodIn_app (goodIn_of _ (by decide +kernel)) ggJ2_indexOfSupplementary_4cfef_J2_checkBoundsBeginEnd_d044e
set_option maxRecDepth 20000 in
theorem ggJ2_indexOfSupplementary_4cfef_J2_getChar_3b067 : GoodIn wsJ2_indexOfSupplementary_4cfef wsJ2_getChar_3b067 := goodIn_r _ [31, 32, 33, 34, 17, 18, 15, 19] (by decide +kernel) (by decide +kernel)
set_option maxRecDepth 20000 in
theorem gJ2_indexOfSupplementary_4cfef_J2_getChar_3b067 : GoodIn wsJ2_indexOfSupplementary_4cfef (va_wsS RJ2 71 yJ2_getChar_3b067 wsJ2_getChar_3b067) := goodIn_app (goodIn_of _ (by decide +kernel)) ggJ2_indexOfSupplementary_4cfef_J2_getChar_3b067
theorem dJ2_indexOfSupplementary_4cfef_0 : decode cJ2_indexOfSupplementary_4cfef 0 = .ok (.iload_n 1, 1) := by decide +kernel
theorem dJ2_indexOfSupplementary_4cfef_1 : decode cJ2_indexOfSupplementary_4cfef 1 = .ok (.invokestatic 164, 3) := by decide +kernel
theorem dJ2_indexOfSupplementary_4cfef_4 : decode cJ2_indexOfSupplementary_4cfef 4 = .ok (.ifCond .eq 65, 3) := by decide +kernel
theorem dJ2_indexOfSupplementary_4cfef_7 : decode cJ2_indexOfSupplementary_4cfef 7 = .ok (.iload_n 1, 1) := by decide +kernel
theorem dJ2_indexOfSupplementary_4cfef_8 : decode cJ2_indexOfSupplementary_4cfef 8 = .ok (.invokestatic 157, 3) := by decide +kernel
theorem dJ2_indexOfSupplementary_4cfef_11 : decode cJ2_indexOfSupplementary_4cfef 11 = .ok (.istore 4, 2) := by decide +kernel
theorem dJ2_indexOfSupplementary_4cfef_13 : decode cJ2_indexOfSupplementary_4cfef 13 = .ok (.iload_n 1, 1) := by decide +kernel
theorem dJ2_indexOfSupplementary_4cfef_14 : decode cJ2_indexOfSupplementary_4cfef 14 = .ok (.invokestatic 161, 3) := by decide +kernel
theorem dJ2_indexOfSupplementary_4cfef_17 : decode cJ2_indexOfSupplementary_4cfef 17 = .ok (.istore 5, 2) := by decide +kernel
theorem dJ2_indexOfSupplementary_4cfef_19 : decode cJ2_indexOfSupplementary_4cfef 19 = .ok (.iload_n 2, 1) := by decide +kernel
theorem dJ2_indexOfSupplementary_4cfef_20 : decode cJ2_indexOfSupplementary_4cfef 20 = .ok (.iload_n 3, 1) := by decide +kernel
theorem dJ2_indexOfSupplementary_4cfef_21 : decode cJ2_indexOfSupplementary_4cfef 21 = .ok (.aload_n 0, 1) := by decide +kernel
theorem dJ2_indexOfSupplementary_4cfef_22 : decode cJ2_indexOfSupplementary_4cfef 22 = .ok (.invokestatic 96, 3) := by decide +kernel
theorem dJ2_indexOfSupplementary_4cfef_25 : decode cJ2_indexOfSupplementary_4cfef 25 = .ok (.iload_n 2, 1) := by decide +kernel
theorem dJ2_indexOfSupplementary_4cfef_26 : decode cJ2_indexOfSupplementary_4cfef 26 = .ok (.istore 6, 2) := by decide +kernel
theorem dJ2_indexOfSupplementary_4cfef_28 : decode cJ2_indexOfSupplementary_4cfef 28 = .ok (.iload 6, 2) := by decide +kernel
theorem dJ2_indexOfSupplementary_4cfef_30 : decode cJ2_indexOfSupplementary_4cfef 30 = .ok (.iload_n 3, 1) := by decide +kernel
theorem dJ2_indexOfSupplementary_4cfef_31 : decode cJ2_indexOfSupplementary_4cfef 31 = .ok (.iconst 1, 1) := by decide +kernel
theorem dJ2_indexOfSupplementary_4cfef_32 : decode cJ2_indexOfSupplementary_4cfef 32 = .ok (.isub, 1) := by decide +kernel
theorem dJ2_indexOfSupplementary_4cfef_33 : decode cJ2_indexOfSupplementary_4cfef 33 = .ok (.if_icmp .ge 36, 3) := by decide +kernel
theorem dJ2_indexOfSupplementary_4cfef_36 : decode cJ2_indexOfSupplementary_4cfef 36 = .ok (.aload_n 0, 1) := by decide +kernel
theorem dJ2_indexOfSupplementary_4cfef_37 : decode cJ2_indexOfSupplementary_4cfef 37 = .ok (.iload 6, 2) := by decide +kernel
theorem dJ2_indexOfSupplementary_4cfef_39 : decode cJ2_indexOfSupplementary_4cfef 39 = .ok (.invokestatic 71, 3) := by decide +kernel
theorem dJ2_indexOfSupplementary_4cfef_42 : decode cJ2_indexOfSupplementary_4cfef 42 = .ok (.iload 4, 2) := by decide +kernel
theorem dJ2_indexOfSupplementary_4cfef_44 : decode cJ2_indexOfSupplementary_4cfef 44 = .ok (.if_icmp .ne 19, 3) := by decide +kernel
theorem dJ2_indexOfSupplementary_4cfef_47 : decode cJ2_indexOfSupplementary_4cfef 47 = .ok (.aload_n 0, 1) := by decide +kernel
theorem dJ2_indexOfSupplementary_4cfef_48 : decode cJ2_indexOfSupplementary_4cfef 48 = .ok (.iload 6, 2) := by decide +kernel
theorem dJ2_indexOfSupplementary_4cfef_50 : decode cJ2_indexOfSupplementary_4cfef 50 = .ok (.iconst 1, 1) := by decide +kernel
theorem dJ2_indexOfSupplementary_4cfef_51 : decode cJ2_indexOfSupplementary_4cfef 51 = .ok (.iadd, 1) := by decide +kernel
theorem dJ2_indexOfSupplementary_4cfef_52 : decode cJ2_indexOfSupplementary_4cfef 52 = .ok (.invokestatic 71, 3) := by decide +kernel
theorem dJ2_indexOfSupplementary_4cfef_55 : decode cJ2_indexOfSupplementary_4cfef 55 = .ok (.iload 5, 2) := by decide +kernel
theorem dJ2_indexOfSupplementary_4cfef_57 : decode cJ2_indexOfSupplementary_4cfef 57 = .ok (.if_icmp .ne 6, 3) := by decide +kernel
theorem dJ2_indexOfSupplementary_4cfef_60 : decode cJ2_indexOfSupplementary_4cfef 60 = .ok (.iload 6, 2) := by decide +kernel
theorem dJ2_indexOfSupplementary_4cfef_62 : decode cJ2_indexOfSupplementary_4cfef 62 = .ok (.ireturn, 1) := by decide +kernel
theorem dJ2_indexOfSupplementary_4cfef_63 : decode cJ2_indexOfSupplementary_4cfef 63 = .ok (.iinc 6 1, 3) := by decide +kernel
theorem dJ2_indexOfSupplementary_4cfef_66 : decode cJ2_indexOfSupplementary_4cfef 66 = .ok (.goto (-38), 3) := by decide +kernel
theorem dJ2_indexOfSupplementary_4cfef_69 : decode cJ2_indexOfSupplementary_4cfef 69 = .ok (.iconst (-1), 1) := by decide +kernel
theorem dJ2_indexOfSupplementary_4cfef_70 : decode cJ2_indexOfSupplementary_4cfef 70 = .ok (.ireturn, 1) := by decide +kernel
set_option maxRecDepth 20000 in
theorem ggJ2_checkBoundsBeginEnd_d044e_J2_length_9d52b : GoodIn wsJ2_checkBoundsBeginEnd_d044e wsJ2_length_9d52b := goodIn_r _ [4] (by decide +kernel) (by decide +kernel)
set_option maxRecDepth 20000 in
theorem gJ2_checkBoundsBeginEnd_d044e_J2_length_9d52b : GoodIn wsJ2_checkBoundsBeginEnd_d044e (va_wsS RJ2 48 yJ2_length_9d52b wsJ2_length_9d52b) := goodIn_app (goodIn_of _ (by decide +kernel)) ggJ2_checkBoundsBeginEnd_d044e_J2_length_9d52b
set_option maxRecDepth 20000 in
theorem ggJ2_checkBoundsBeginEnd_d044e_J0_checkBoundsBeginEnd_23922 : GoodIn wsJ2_checkBoundsBeginEnd_d044e wsJ0_checkBoundsBeginEnd_23922 := goodIn_r _ [8, 9, 10, 11, 12, 13] (by decide +kernel) (by decide +kernel)
set_option maxRecDepth 20000 in
theorem gJ2_checkBoundsBeginEnd_d044e_J0_checkBoundsBeginEnd_23922 : GoodIn wsJ2_checkBoundsBeginEnd_d044e (va_wsS RJ2 241 yJ0_checkBoundsBeginEnd_23922 wsJ0_checkBoundsBeginEnd_23922) := goodIn_app (goodIn_of _ (by decide +kernel)) ggJ2_checkBoundsBeginEnd_d044e_J0_checkBoundsBeginEnd_23922
theorem dJ2_checkBoundsBeginEnd_d044e_0 : decode cJ2_checkBoundsBeginEnd_d044e 0 = .ok (.iload_n 0, 1) := by decide +kernel
theorem dJ2_checkBoundsBeginEnd_d044e_1 : decode cJ2_checkBoundsBeginEnd_d044e 1 = .ok (.iload_n 1, 1) := by decide +kernel
theorem dJ2_checkBoundsBeginEnd_d044e_2 : decode cJ2_checkBoundsBeginEnd_d044e 2 = .ok (.aload_n 2, 1) := by decide +kernel
theorem dJ2_checkBoundsBeginEnd_d044e_3 : decode cJ2_checkBoundsBeginEnd_d044e 3 = .ok (.invokestatic 48, 3) := by decide +kernel
theorem dJ2_checkBoundsBeginEnd_d044e_6 : decode cJ2_checkBoundsBeginEnd_d044e 6 = .ok (.invokestatic 241, 3) := by decide +kernel
theorem dJ2_checkBoundsBeginEnd_d044e_9 : decode cJ2_checkBoundsBeginEnd_d044e 9 = .ok (.return_, 1) := by decide +kernel
theorem dJ3_checkFromToIndex_8c36e_0 : decode cJ3_checkFromToIndex_8c36e 0 = .ok (.iload_n 0, 1) := by decide +kernel
theorem dJ3_checkFromToIndex_8c36e_1 : decode cJ3_checkFromToIndex_8c36e 1 = .ok (.ifCond .lt 13, 3) := by decide +kernel
theorem dJ3_checkFromToIndex_8c36e_4 : decode cJ3_checkFromToIndex_8c36e 4 = .ok (.iload_n 0, 1) := by decide +kernel
theorem dJ3_checkFromToIndex_8c36e_5 : decode cJ3_checkFromToIndex_8c36e 5 = .ok (.iload_n 1, 1) := by decide +kernel
theorem dJ3_checkFromToIndex_8c36e_6 : decode cJ3_checkFromToIndex_8c36e 6 = .ok (.if_icmp .gt 8, 3) := by decide +kernel
theorem dJ3_checkFromToIndex_8c36e_9 : decode cJ3_checkFromToIndex_8c36e 9 = .ok (.iload_n 1, 1) := by decide +kernel
theorem dJ3_checkFromToIndex_8c36e_10 : decode cJ3_checkFromToIndex_8c36e 10 = .ok (.iload_n 2, 1) := by decide +kernel
theorem dJ3_checkFromToIndex_8c36e_11 : decode cJ3_checkFromToIndex_8c36e 11 = .ok (.if_icmp .le 11, 3) := by decide +kernel
theorem dJ3_checkFromToIndex_8c36e_14 : decode cJ3_checkFromToIndex_8c36e 14 = .ok (.aload_n 3, 1) := by decide +kernel
theorem dJ3_checkFromToIndex_8c36e_15 : decode cJ3_checkFromToIndex_8c36e 15 = .ok (.iload_n 0, 1) := by decide +kernel
theorem dJ3_checkFromToIndex_8c36e_16 : decode cJ3_checkFromToIndex_8c36e 16 = .ok (.iload_n 1, 1) := by decide +kernel
theorem dJ3_checkFromToIndex_8c36e_17 : decode cJ3_checkFromToIndex_8c36e 17 = .ok (.iload_n 2, 1) := by decide +kernel
theorem dJ3_checkFromToIndex_8c36e_18 : decode cJ3_checkFromToIndex_8c36e 18 = .ok (.invokestatic 99, 3) := by decide +kernel
theorem dJ3_checkFromToIndex_8c36e_21 : decode cJ3_checkFromToIndex_8c36e 21 = .ok (.athrow, 1) := by decide +kernel
theorem dJ3_checkFromToIndex_8c36e_22 : decode cJ3_checkFromToIndex_8c36e 22 = .ok (.iload_n 0, 1) := by decide +kernel
theorem dJ3_checkFromToIndex_8c36e_23 : decode cJ3_checkFromToIndex_8c36e 23 = .ok (.ireturn, 1) := by decide +kernel
