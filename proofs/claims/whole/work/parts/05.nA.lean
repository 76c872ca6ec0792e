theorem dX0_init_0 : decode cX0_init 0 = .ok (.aload_n 0, 1) := by decide +kernel
theorem dX0_init_1 : decode cX0_init 1 = .ok (.invokespecial 3, 3) := by decide +kernel
theorem dX0_init_4 : decode cX0_init 4 = .ok (.return_, 1) := by decide +kernel
set_option maxRecDepth 20000 in
theorem ggX0_run_X3_dragOf : GoodIn wsX0_run wsX3_dragOf := goodIn_r _ [12, 13, 14, 15, 16, 17, 18, 19, 10, 20, 21, 22, 23, 24, 25, 26, 27, 28, 29, 30, 31, 32, 33, 34, 35, 36, 84, 85, 86, 87, 88, 89, 90, 91, 92, 93, 94, 95, 96, 97, 98, 99] (by decide +kernel) (by decide +kernel)
set_option maxRecDepth 20000 in
theorem gX0_run_X3_dragOf_n41 : GoodIn wsX0_run (wsX3_dragOf) := ggX0_run_X3_dragOf
set_option maxRecDepth 20000 in
theorem ggX0_run_X3_fallOf : GoodIn wsX0_run wsX3_fallOf := goodIn_r _ [39, 32, 33, 34, 10, 35, 36, 22, 23, 24, 25, 26, 84, 85, 86, 87, 88, 89, 90, 91, 92, 93, 94, 95, 96, 97, 98, 99] (by decide +kernel) (by decide +kernel)
set_option maxRecDepth 20000 in
theorem gX0_run_X3_fallOf_n45 : GoodIn wsX0_run (wsX3_fallOf) := ggX0_run_X3_fallOf
set_option maxRecDepth 20000 in
theorem ggX0_run_X3_fanOf : GoodIn wsX0_run wsX3_fanOf := goodIn_r _ [42, 43, 32, 33, 34, 10, 35, 36, 22, 23, 24, 25, 26, 84, 85, 86, 87, 88, 89, 90, 91, 92, 93, 94, 95, 96, 97, 98, 99] (by decide +kernel) (by decide +kernel)
set_option maxRecDepth 20000 in
theorem gX0_run_X3_fanOf_n48 : GoodIn wsX0_run (wsX3_fanOf) := ggX0_run_X3_fanOf
set_option maxRecDepth 20000 in
theorem ggX0_run_X0_step : GoodIn wsX0_run wsX0_step := goodIn_r _ [48, 4, 8, 2, 7, 5, 49, 14, 15, 16, 1, 50, 51, 52, 47, 53, 6, 54, 55, 56, 57, 58, 10, 59, 60, 61, 62, 63, 64, 65, 76, 77, 78, 79, 80, 81, 82, 83, 84, 85, 86, 87, 88, 89, 90, 91, 92, 93, 94, 95, 96, 97, 98, 99] (by decide +kernel) (by decide +kernel)
set_option maxRecDepth 20000 in
theorem gX0_run_X0_step : GoodIn wsX0_run (wsV RX0 51 RX0 yX0_step wsX0_step) := goodIn_app (goodIn_of _ (by decide +kernel)) ggX0_run_X0_step
set_option maxRecDepth 20000 in
theorem ggX0_run_X0_nearerZero : GoodIn wsX0_run wsX0_nearerZero := goodIn_r _ [68, 49, 14, 15, 16, 69, 70, 71] (by decide +kernel) (by decide +kernel)
set_option maxRecDepth 20000 in
theorem gX0_run_X0_nearerZero : GoodIn wsX0_run (va_wsS RX0 55 yX0_nearerZero wsX0_nearerZero) := goodIn_app (goodIn_of _ (by decide +kernel)) ggX0_run_X0_nearerZero
set_option maxRecDepth 20000 in
theorem ggX0_run_X3_blowsIn : GoodIn wsX0_run wsX3_blowsIn := goodIn_r _ [74, 75, 84, 85, 86, 87, 88, 89, 90, 91, 92, 93, 94, 95, 96, 97, 98, 99] (by decide +kernel) (by decide +kernel)
set_option maxRecDepth 20000 in
theorem gX0_run_X3_blowsIn_n62 : GoodIn wsX0_run (wsX3_blowsIn) := ggX0_run_X3_blowsIn
theorem dX0_run_0 : decode cX0_run 0 = .ok (.aload_n 0, 1) := by decide +kernel
theorem dX0_run_1 : decode cX0_run 1 = .ok (.iconst (-1), 1) := by decide +kernel
theorem dX0_run_2 : decode cX0_run 2 = .ok (.putfield 9, 3) := by decide +kernel
theorem dX0_run_5 : decode cX0_run 5 = .ok (.aload_n 0, 1) := by decide +kernel
theorem dX0_run_6 : decode cX0_run 6 = .ok (.iconst 0, 1) := by decide +kernel
theorem dX0_run_7 : decode cX0_run 7 = .ok (.putfield 15, 3) := by decide +kernel
theorem dX0_run_10 : decode cX0_run 10 = .ok (.aload_n 0, 1) := by decide +kernel
theorem dX0_run_11 : decode cX0_run 11 = .ok (.iconst 0, 1) := by decide +kernel
theorem dX0_run_12 : decode cX0_run 12 = .ok (.putfield 18, 3) := by decide +kernel
theorem dX0_run_15 : decode cX0_run 15 = .ok (.aload_n 0, 1) := by decide +kernel
theorem dX0_run_16 : decode cX0_run 16 = .ok (.aload_n 1, 1) := by decide +kernel
theorem dX0_run_17 : decode cX0_run 17 = .ok (.getfield 21, 3) := by decide +kernel
theorem dX0_run_20 : decode cX0_run 20 = .ok (.putfield 26, 3) := by decide +kernel
theorem dX0_run_23 : decode cX0_run 23 = .ok (.aload_n 0, 1) := by decide +kernel
theorem dX0_run_24 : decode cX0_run 24 = .ok (.aload_n 0, 1) := by decide +kernel
theorem dX0_run_25 : decode cX0_run 25 = .ok (.getfield 26, 3) := by decide +kernel
theorem dX0_run_28 : decode cX0_run 28 = .ok (.putfield 29, 3) := by decide +kernel
theorem dX0_run_31 : decode cX0_run 31 = .ok (.aload_n 0, 1) := by decide +kernel
theorem dX0_run_32 : decode cX0_run 32 = .ok (.iconst 0, 1) := by decide +kernel
theorem dX0_run_33 : decode cX0_run 33 = .ok (.putfield 32, 3) := by decide +kernel
theorem dX0_run_36 : decode cX0_run 36 = .ok (.aload_n 0, 1) := by decide +kernel
theorem dX0_run_37 : decode cX0_run 37 = .ok (.iload_n 3, 1) := by decide +kernel
theorem dX0_run_38 : decode cX0_run 38 = .ok (.putfield 35, 3) := by decide +kernel
theorem dX0_run_41 : decode cX0_run 41 = .ok (.aload_n 0, 1) := by decide +kernel
theorem dX0_run_42 : decode cX0_run 42 = .ok (.iload 4, 2) := by decide +kernel
theorem dX0_run_44 : decode cX0_run 44 = .ok (.putfield 38, 3) := by decide +kernel
theorem dX0_run_47 : decode cX0_run 47 = .ok (.aload_n 1, 1) := by decide +kernel
theorem dX0_run_48 : decode cX0_run 48 = .ok (.iload_n 2, 1) := by decide +kernel
theorem dX0_run_49 : decode cX0_run 49 = .ok (.invokevirtual 41, 3) := by decide +kernel
theorem dX0_run_52 : decode cX0_run 52 = .ok (.istore 5, 2) := by decide +kernel
theorem dX0_run_54 : decode cX0_run 54 = .ok (.aload_n 1, 1) := by decide +kernel
theorem dX0_run_55 : decode cX0_run 55 = .ok (.iload_n 2, 1) := by decide +kernel
theorem dX0_run_56 : decode cX0_run 56 = .ok (.invokevirtual 45, 3) := by decide +kernel
theorem dX0_run_59 : decode cX0_run 59 = .ok (.istore 6, 2) := by decide +kernel
theorem dX0_run_61 : decode cX0_run 61 = .ok (.aload_n 1, 1) := by decide +kernel
theorem dX0_run_62 : decode cX0_run 62 = .ok (.iload_n 2, 1) := by decide +kernel
theorem dX0_run_63 : decode cX0_run 63 = .ok (.invokevirtual 48, 3) := by decide +kernel
theorem dX0_run_66 : decode cX0_run 66 = .ok (.istore 7, 2) := by decide +kernel
theorem dX0_run_68 : decode cX0_run 68 = .ok (.aload_n 0, 1) := by decide +kernel
theorem dX0_run_69 : decode cX0_run 69 = .ok (.getfield 9, 3) := by decide +kernel
theorem dX0_run_72 : decode cX0_run 72 = .ok (.iconst (-1), 1) := by decide +kernel
theorem dX0_run_73 : decode cX0_run 73 = .ok (.if_icmp .ne 83, 3) := by decide +kernel
theorem dX0_run_76 : decode cX0_run 76 = .ok (.aload_n 0, 1) := by decide +kernel
theorem dX0_run_77 : decode cX0_run 77 = .ok (.getfield 18, 3) := by decide +kernel
theorem dX0_run_80 : decode cX0_run 80 = .ok (.bipush 60, 2) := by decide +kernel
theorem dX0_run_82 : decode cX0_run 82 = .ok (.if_icmp .ge 74, 3) := by decide +kernel
theorem dX0_run_85 : decode cX0_run 85 = .ok (.aload_n 0, 1) := by decide +kernel
theorem dX0_run_86 : decode cX0_run 86 = .ok (.dup, 1) := by decide +kernel
theorem dX0_run_87 : decode cX0_run 87 = .ok (.getfield 18, 3) := by decide +kernel
theorem dX0_run_90 : decode cX0_run 90 = .ok (.iconst 1, 1) := by decide +kernel
theorem dX0_run_91 : decode cX0_run 91 = .ok (.iadd, 1) := by decide +kernel
theorem dX0_run_92 : decode cX0_run 92 = .ok (.putfield 18, 3) := by decide +kernel
theorem dX0_run_95 : decode cX0_run 95 = .ok (.aload_n 0, 1) := by decide +kernel
theorem dX0_run_96 : decode cX0_run 96 = .ok (.aload_n 1, 1) := by decide +kernel
theorem dX0_run_97 : decode cX0_run 97 = .ok (.invokevirtual 51, 3) := by decide +kernel
theorem dX0_run_100 : decode cX0_run 100 = .ok (.aload_n 0, 1) := by decide +kernel
theorem dX0_run_101 : decode cX0_run 101 = .ok (.aload_n 0, 1) := by decide +kernel
theorem dX0_run_102 : decode cX0_run 102 = .ok (.getfield 35, 3) := by decide +kernel
theorem dX0_run_105 : decode cX0_run 105 = .ok (.iload 5, 2) := by decide +kernel
theorem dX0_run_107 : decode cX0_run 107 = .ok (.invokestatic 55, 3) := by decide +kernel
theorem dX0_run_110 : decode cX0_run 110 = .ok (.putfield 35, 3) := by decide +kernel
theorem dX0_run_113 : decode cX0_run 113 = .ok (.aload_n 0, 1) := by decide +kernel
theorem dX0_run_114 : decode cX0_run 114 = .ok (.dup, 1) := by decide +kernel
theorem dX0_run_115 : decode cX0_run 115 = .ok (.getfield 38, 3) := by decide +kernel
theorem dX0_run_118 : decode cX0_run 118 = .ok (.iload 6, 2) := by decide +kernel
theorem dX0_run_120 : decode cX0_run 120 = .ok (.isub, 1) := by decide +kernel
theorem dX0_run_121 : decode cX0_run 121 = .ok (.putfield 38, 3) := by decide +kernel
theorem dX0_run_124 : decode cX0_run 124 = .ok (.aload_n 1, 1) := by decide +kernel
theorem dX0_run_125 : decode cX0_run 125 = .ok (.aload_n 1, 1) := by decide +kernel
theorem dX0_run_126 : decode cX0_run 126 = .ok (.getfield 59, 3) := by decide +kernel
theorem dX0_run_129 : decode cX0_run 129 = .ok (.aload_n 0, 1) := by decide +kernel
theorem dX0_run_130 : decode cX0_run 130 = .ok (.getfield 18, 3) := by decide +kernel
theorem dX0_run_133 : decode cX0_run 133 = .ok (.iconst 4, 1) := by decide +kernel
theorem dX0_run_134 : decode cX0_run 134 = .ok (.idiv, 1) := by decide +kernel
theorem dX0_run_135 : decode cX0_run 135 = .ok (.iadd, 1) := by decide +kernel
theorem dX0_run_136 : decode cX0_run 136 = .ok (.invokevirtual 62, 3) := by decide +kernel
theorem dX0_run_139 : decode cX0_run 139 = .ok (.ifCond .eq (-71), 3) := by decide +kernel
theorem dX0_run_142 : decode cX0_run 142 = .ok (.aload_n 0, 1) := by decide +kernel
theorem dX0_run_143 : decode cX0_run 143 = .ok (.dup, 1) := by decide +kernel
theorem dX0_run_144 : decode cX0_run 144 = .ok (.getfield 35, 3) := by decide +kernel
theorem dX0_run_147 : decode cX0_run 147 = .ok (.iload 7, 2) := by decide +kernel
theorem dX0_run_149 : decode cX0_run 149 = .ok (.iadd, 1) := by decide +kernel
theorem dX0_run_150 : decode cX0_run 150 = .ok (.putfield 35, 3) := by decide +kernel
theorem dX0_run_153 : decode cX0_run 153 = .ok (.goto (-85), 3) := by decide +kernel
theorem dX0_run_156 : decode cX0_run 156 = .ok (.aload_n 0, 1) := by decide +kernel
theorem dX0_run_157 : decode cX0_run 157 = .ok (.getfield 9, 3) := by decide +kernel
theorem dX0_run_160 : decode cX0_run 160 = .ok (.iconst (-1), 1) := by decide +kernel
theorem dX0_run_161 : decode cX0_run 161 = .ok (.if_icmp .ne 8, 3) := by decide +kernel
theorem dX0_run_164 : decode cX0_run 164 = .ok (.aload_n 0, 1) := by decide +kernel
theorem dX0_run_165 : decode cX0_run 165 = .ok (.iconst 1, 1) := by decide +kernel
theorem dX0_run_166 : decode cX0_run 166 = .ok (.putfield 9, 3) := by decide +kernel
theorem dX0_run_169 : decode cX0_run 169 = .ok (.return_, 1) := by decide +kernel
set_option maxRecDepth 20000 in
theorem ggX0_step_X0_strikeCeilingAndWall : GoodIn wsX0_step wsX0_strikeCeilingAndWall := goodIn_r _ [15, 1, 2, 16, 3, 4, 30, 31, 32, 33, 34, 35, 36, 37, 38, 39, 40, 41, 42, 43, 44, 45, 46, 47, 48, 49, 50, 51, 52, 53] (by decide +kernel) (by decide +kernel)
set_option maxRecDepth 20000 in
theorem gX0_step_X0_strikeCeilingAndWall : GoodIn wsX0_step (wsV RX0 66 RX0 yX0_strikeCeilingAndWall wsX0_strikeCeilingAndWall) := goodIn_app (goodIn_of _ (by decide +kernel)) ggX0_step_X0_strikeCeilingAndWall
set_option maxRecDepth 20000 in
theorem ggX0_step_X0_comeDownToRim : GoodIn wsX0_step wsX0_comeDownToRim := goodIn_r _ [20, 3, 10, 16, 1, 4, 2, 21, 22, 23, 24, 25, 26, 27, 28, 29, 30, 31, 32, 33, 34, 35, 36, 37, 38, 39, 40, 41, 42, 43, 44, 45, 46, 47, 48, 49, 50, 51, 52, 53] (by decide +kernel) (by decide +kernel)
set_option maxRecDepth 20000 in
theorem gX0_step_X0_comeDownToRim : GoodIn wsX0_step (wsV RX0 77 RX0 yX0_comeDownToRim wsX0_comeDownToRim) := goodIn_app (goodIn_of _ (by decide +kernel)) ggX0_step_X0_comeDownToRim
theorem dX0_step_0 : decode cX0_step 0 = .ok (.aload_n 0, 1) := by decide +kernel
theorem dX0_step_1 : decode cX0_step 1 = .ok (.getfield 26, 3) := by decide +kernel
theorem dX0_step_4 : decode cX0_step 4 = .ok (.istore_n 2, 1) := by decide +kernel
theorem dX0_step_5 : decode cX0_step 5 = .ok (.aload_n 0, 1) := by decide +kernel
theorem dX0_step_6 : decode cX0_step 6 = .ok (.getfield 38, 3) := by decide +kernel
theorem dX0_step_9 : decode cX0_step 9 = .ok (.ifCond .ge 7, 3) := by decide +kernel
theorem dX0_step_12 : decode cX0_step 12 = .ok (.iconst 1, 1) := by decide +kernel
theorem dX0_step_13 : decode cX0_step 13 = .ok (.goto 4, 3) := by decide +kernel
theorem dX0_step_16 : decode cX0_step 16 = .ok (.iconst 0, 1) := by decide +kernel
theorem dX0_step_17 : decode cX0_step 17 = .ok (.istore_n 3, 1) := by decide +kernel
theorem dX0_step_18 : decode cX0_step 18 = .ok (.aload_n 0, 1) := by decide +kernel
theorem dX0_step_19 : decode cX0_step 19 = .ok (.dup, 1) := by decide +kernel
theorem dX0_step_20 : decode cX0_step 20 = .ok (.getfield 15, 3) := by decide +kernel
theorem dX0_step_23 : decode cX0_step 23 = .ok (.aload_n 0, 1) := by decide +kernel
theorem dX0_step_24 : decode cX0_step 24 = .ok (.getfield 35, 3) := by decide +kernel
theorem dX0_step_27 : decode cX0_step 27 = .ok (.iadd, 1) := by decide +kernel
theorem dX0_step_28 : decode cX0_step 28 = .ok (.putfield 15, 3) := by decide +kernel
theorem dX0_step_31 : decode cX0_step 31 = .ok (.aload_n 0, 1) := by decide +kernel
theorem dX0_step_32 : decode cX0_step 32 = .ok (.dup, 1) := by decide +kernel
theorem dX0_step_33 : decode cX0_step 33 = .ok (.getfield 26, 3) := by decide +kernel
theorem dX0_step_36 : decode cX0_step 36 = .ok (.aload_n 0, 1) := by decide +kernel
theorem dX0_step_37 : decode cX0_step 37 = .ok (.getfield 38, 3) := by decide +kernel
theorem dX0_step_40 : decode cX0_step 40 = .ok (.iadd, 1) := by decide +kernel
theorem dX0_step_41 : decode cX0_step 41 = .ok (.putfield 26, 3) := by decide +kernel
theorem dX0_step_44 : decode cX0_step 44 = .ok (.aload_n 0, 1) := by decide +kernel
theorem dX0_step_45 : decode cX0_step 45 = .ok (.aload_n 1, 1) := by decide +kernel
theorem dX0_step_46 : decode cX0_step 46 = .ok (.invokevirtual 66, 3) := by decide +kernel
theorem dX0_step_49 : decode cX0_step 49 = .ok (.aload_n 0, 1) := by decide +kernel
theorem dX0_step_50 : decode cX0_step 50 = .ok (.aload_n 0, 1) := by decide +kernel
theorem dX0_step_51 : decode cX0_step 51 = .ok (.getfield 29, 3) := by decide +kernel
theorem dX0_step_54 : decode cX0_step 54 = .ok (.aload_n 0, 1) := by decide +kernel
theorem dX0_step_55 : decode cX0_step 55 = .ok (.getfield 26, 3) := by decide +kernel
theorem dX0_step_58 : decode cX0_step 58 = .ok (.invokestatic 69, 3) := by decide +kernel
theorem dX0_step_61 : decode cX0_step 61 = .ok (.putfield 29, 3) := by decide +kernel
theorem dX0_step_64 : decode cX0_step 64 = .ok (.iload_n 3, 1) := by decide +kernel
theorem dX0_step_65 : decode cX0_step 65 = .ok (.ifCond .eq 27, 3) := by decide +kernel
theorem dX0_step_68 : decode cX0_step 68 = .ok (.iload_n 2, 1) := by decide +kernel
theorem dX0_step_69 : decode cX0_step 69 = .ok (.aload_n 1, 1) := by decide +kernel
theorem dX0_step_70 : decode cX0_step 70 = .ok (.getfield 74, 3) := by decide +kernel
theorem dX0_step_73 : decode cX0_step 73 = .ok (.if_icmp .le 19, 3) := by decide +kernel
theorem dX0_step_76 : decode cX0_step 76 = .ok (.aload_n 0, 1) := by decide +kernel
theorem dX0_step_77 : decode cX0_step 77 = .ok (.getfield 26, 3) := by decide +kernel
theorem dX0_step_80 : decode cX0_step 80 = .ok (.aload_n 1, 1) := by decide +kernel
theorem dX0_step_81 : decode cX0_step 81 = .ok (.getfield 74, 3) := by decide +kernel
theorem dX0_step_84 : decode cX0_step 84 = .ok (.if_icmp .gt 8, 3) := by decide +kernel
theorem dX0_step_87 : decode cX0_step 87 = .ok (.aload_n 0, 1) := by decide +kernel
theorem dX0_step_88 : decode cX0_step 88 = .ok (.aload_n 1, 1) := by decide +kernel
theorem dX0_step_89 : decode cX0_step 89 = .ok (.invokevirtual 77, 3) := by decide +kernel
theorem dX0_step_92 : decode cX0_step 92 = .ok (.aload_n 0, 1) := by decide +kernel
theorem dX0_step_93 : decode cX0_step 93 = .ok (.getfield 9, 3) := by decide +kernel
theorem dX0_step_96 : decode cX0_step 96 = .ok (.iconst (-1), 1) := by decide +kernel
theorem dX0_step_97 : decode cX0_step 97 = .ok (.if_icmp .ne 30, 3) := by decide +kernel
theorem dX0_step_100 : decode cX0_step 100 = .ok (.aload_n 0, 1) := by decide +kernel
theorem dX0_step_101 : decode cX0_step 101 = .ok (.getfield 26, 3) := by decide +kernel
theorem dX0_step_104 : decode cX0_step 104 = .ok (.ifCond .gt 23, 3) := by decide +kernel
theorem dX0_step_107 : decode cX0_step 107 = .ok (.aload_n 0, 1) := by decide +kernel
theorem dX0_step_108 : decode cX0_step 108 = .ok (.aload_n 0, 1) := by decide +kernel
theorem dX0_step_109 : decode cX0_step 109 = .ok (.getfield 15, 3) := by decide +kernel
theorem dX0_step_112 : decode cX0_step 112 = .ok (.aload_n 1, 1) := by decide +kernel
theorem dX0_step_113 : decode cX0_step 113 = .ok (.getfield 80, 3) := by decide +kernel
theorem dX0_step_116 : decode cX0_step 116 = .ok (.if_icmp .ge 7, 3) := by decide +kernel
theorem dX0_step_119 : decode cX0_step 119 = .ok (.iconst 1, 1) := by decide +kernel
theorem dX0_step_120 : decode cX0_step 120 = .ok (.goto 4, 3) := by decide +kernel
theorem dX0_step_123 : decode cX0_step 123 = .ok (.iconst 2, 1) := by decide +kernel
theorem dX0_step_124 : decode cX0_step 124 = .ok (.putfield 9, 3) := by decide +kernel
theorem dX0_step_127 : decode cX0_step 127 = .ok (.return_, 1) := by decide +kernel
theorem dX0_strikeCeilingAndWall_0 : decode cX0_strikeCeilingAndWall 0 = .ok (.aload_n 0, 1) := by decide +kernel
theorem dX0_strikeCeilingAndWall_1 : decode cX0_strikeCeilingAndWall 1 = .ok (.getfield 26, 3) := by decide +kernel
theorem dX0_strikeCeilingAndWall_4 : decode cX0_strikeCeilingAndWall 4 = .ok (.aload_n 1, 1) := by decide +kernel
theorem dX0_strikeCeilingAndWall_5 : decode cX0_strikeCeilingAndWall 5 = .ok (.getfield 83, 3) := by decide +kernel
theorem dX0_strikeCeilingAndWall_8 : decode cX0_strikeCeilingAndWall 8 = .ok (.if_icmp .le 37, 3) := by decide +kernel
theorem dX0_strikeCeilingAndWall_11 : decode cX0_strikeCeilingAndWall 11 = .ok (.aload_n 0, 1) := by decide +kernel
theorem dX0_strikeCeilingAndWall_12 : decode cX0_strikeCeilingAndWall 12 = .ok (.iconst 2, 1) := by decide +kernel
theorem dX0_strikeCeilingAndWall_13 : decode cX0_strikeCeilingAndWall 13 = .ok (.aload_n 1, 1) := by decide +kernel
theorem dX0_strikeCeilingAndWall_14 : decode cX0_strikeCeilingAndWall 14 = .ok (.getfield 83, 3) := by decide +kernel
theorem dX0_strikeCeilingAndWall_17 : decode cX0_strikeCeilingAndWall 17 = .ok (.imul, 1) := by decide +kernel
theorem dX0_strikeCeilingAndWall_18 : decode cX0_strikeCeilingAndWall 18 = .ok (.aload_n 0, 1) := by decide +kernel
theorem dX0_strikeCeilingAndWall_19 : decode cX0_strikeCeilingAndWall 19 = .ok (.getfield 26, 3) := by decide +kernel
theorem dX0_strikeCeilingAndWall_22 : decode cX0_strikeCeilingAndWall 22 = .ok (.isub, 1) := by decide +kernel
theorem dX0_strikeCeilingAndWall_23 : decode cX0_strikeCeilingAndWall 23 = .ok (.putfield 26, 3) := by decide +kernel
theorem dX0_strikeCeilingAndWall_26 : decode cX0_strikeCeilingAndWall 26 = .ok (.aload_n 0, 1) := by decide +kernel
theorem dX0_strikeCeilingAndWall_27 : decode cX0_strikeCeilingAndWall 27 = .ok (.aload_n 0, 1) := by decide +kernel
theorem dX0_strikeCeilingAndWall_28 : decode cX0_strikeCeilingAndWall 28 = .ok (.getfield 38, 3) := by decide +kernel
theorem dX0_strikeCeilingAndWall_31 : decode cX0_strikeCeilingAndWall 31 = .ok (.ineg, 1) := by decide +kernel
theorem dX0_strikeCeilingAndWall_32 : decode cX0_strikeCeilingAndWall 32 = .ok (.putfield 38, 3) := by decide +kernel
theorem dX0_strikeCeilingAndWall_35 : decode cX0_strikeCeilingAndWall 35 = .ok (.aload_n 0, 1) := by decide +kernel
theorem dX0_strikeCeilingAndWall_36 : decode cX0_strikeCeilingAndWall 36 = .ok (.dup, 1) := by decide +kernel
theorem dX0_strikeCeilingAndWall_37 : decode cX0_strikeCeilingAndWall 37 = .ok (.getfield 32, 3) := by decide +kernel
theorem dX0_strikeCeilingAndWall_40 : decode cX0_strikeCeilingAndWall 40 = .ok (.iconst 1, 1) := by decide +kernel
theorem dX0_strikeCeilingAndWall_41 : decode cX0_strikeCeilingAndWall 41 = .ok (.ior, 1) := by decide +kernel
theorem dX0_strikeCeilingAndWall_42 : decode cX0_strikeCeilingAndWall 42 = .ok (.putfield 32, 3) := by decide +kernel
theorem dX0_strikeCeilingAndWall_45 : decode cX0_strikeCeilingAndWall 45 = .ok (.aload_n 0, 1) := by decide +kernel
theorem dX0_strikeCeilingAndWall_46 : decode cX0_strikeCeilingAndWall 46 = .ok (.getfield 15, 3) := by decide +kernel
theorem dX0_strikeCeilingAndWall_49 : decode cX0_strikeCeilingAndWall 49 = .ok (.aload_n 1, 1) := by decide +kernel
theorem dX0_strikeCeilingAndWall_50 : decode cX0_strikeCeilingAndWall 50 = .ok (.getfield 86, 3) := by decide +kernel
theorem dX0_strikeCeilingAndWall_53 : decode cX0_strikeCeilingAndWall 53 = .ok (.if_icmp .le 39, 3) := by decide +kernel
theorem dX0_strikeCeilingAndWall_56 : decode cX0_strikeCeilingAndWall 56 = .ok (.aload_n 0, 1) := by decide +kernel
theorem dX0_strikeCeilingAndWall_57 : decode cX0_strikeCeilingAndWall 57 = .ok (.iconst 2, 1) := by decide +kernel
theorem dX0_strikeCeilingAndWall_58 : decode cX0_strikeCeilingAndWall 58 = .ok (.aload_n 1, 1) := by decide +kernel
theorem dX0_strikeCeilingAndWall_59 : decode cX0_strikeCeilingAndWall 59 = .ok (.getfield 86, 3) := by decide +kernel
theorem dX0_strikeCeilingAndWall_62 : decode cX0_strikeCeilingAndWall 62 = .ok (.imul, 1) := by decide +kernel
theorem dX0_strikeCeilingAndWall_63 : decode cX0_strikeCeilingAndWall 63 = .ok (.aload_n 0, 1) := by decide +kernel
theorem dX0_strikeCeilingAndWall_64 : decode cX0_strikeCeilingAndWall 64 = .ok (.getfield 15, 3) := by decide +kernel
theorem dX0_strikeCeilingAndWall_67 : decode cX0_strikeCeilingAndWall 67 = .ok (.isub, 1) := by decide +kernel
theorem dX0_strikeCeilingAndWall_68 : decode cX0_strikeCeilingAndWall 68 = .ok (.putfield 15, 3) := by decide +kernel
theorem dX0_strikeCeilingAndWall_71 : decode cX0_strikeCeilingAndWall 71 = .ok (.aload_n 0, 1) := by decide +kernel
theorem dX0_strikeCeilingAndWall_72 : decode cX0_strikeCeilingAndWall 72 = .ok (.aload_n 0, 1) := by decide +kernel
theorem dX0_strikeCeilingAndWall_73 : decode cX0_strikeCeilingAndWall 73 = .ok (.getfield 35, 3) := by decide +kernel
theorem dX0_strikeCeilingAndWall_76 : decode cX0_strikeCeilingAndWall 76 = .ok (.ineg, 1) := by decide +kernel
theorem dX0_strikeCeilingAndWall_77 : decode cX0_strikeCeilingAndWall 77 = .ok (.iconst 2, 1) := by decide +kernel
theorem dX0_strikeCeilingAndWall_78 : decode cX0_strikeCeilingAndWall 78 = .ok (.idiv, 1) := by decide +kernel
theorem dX0_strikeCeilingAndWall_79 : decode cX0_strikeCeilingAndWall 79 = .ok (.putfield 35, 3) := by decide +kernel
theorem dX0_strikeCeilingAndWall_82 : decode cX0_strikeCeilingAndWall 82 = .ok (.aload_n 0, 1) := by decide +kernel
theorem dX0_strikeCeilingAndWall_83 : decode cX0_strikeCeilingAndWall 83 = .ok (.dup, 1) := by decide +kernel
theorem dX0_strikeCeilingAndWall_84 : decode cX0_strikeCeilingAndWall 84 = .ok (.getfield 32, 3) := by decide +kernel
theorem dX0_strikeCeilingAndWall_87 : decode cX0_strikeCeilingAndWall 87 = .ok (.iconst 2, 1) := by decide +kernel
theorem dX0_strikeCeilingAndWall_88 : decode cX0_strikeCeilingAndWall 88 = .ok (.ior, 1) := by decide +kernel
theorem dX0_strikeCeilingAndWall_89 : decode cX0_strikeCeilingAndWall 89 = .ok (.putfield 32, 3) := by decide +kernel
theorem dX0_strikeCeilingAndWall_92 : decode cX0_strikeCeilingAndWall 92 = .ok (.aload_n 0, 1) := by decide +kernel
theorem dX0_strikeCeilingAndWall_93 : decode cX0_strikeCeilingAndWall 93 = .ok (.getfield 15, 3) := by decide +kernel
theorem dX0_strikeCeilingAndWall_96 : decode cX0_strikeCeilingAndWall 96 = .ok (.ifCond .ge 13, 3) := by decide +kernel
theorem dX0_strikeCeilingAndWall_99 : decode cX0_strikeCeilingAndWall 99 = .ok (.aload_n 0, 1) := by decide +kernel
theorem dX0_strikeCeilingAndWall_100 : decode cX0_strikeCeilingAndWall 100 = .ok (.iconst 0, 1) := by decide +kernel
theorem dX0_strikeCeilingAndWall_101 : decode cX0_strikeCeilingAndWall 101 = .ok (.putfield 15, 3) := by decide +kernel
theorem dX0_strikeCeilingAndWall_104 : decode cX0_strikeCeilingAndWall 104 = .ok (.aload_n 0, 1) := by decide +kernel
theorem dX0_strikeCeilingAndWall_105 : decode cX0_strikeCeilingAndWall 105 = .ok (.iconst 0, 1) := by decide +kernel
theorem dX0_strikeCeilingAndWall_106 : decode cX0_strikeCeilingAndWall 106 = .ok (.putfield 35, 3) := by decide +kernel
theorem dX0_strikeCeilingAndWall_109 : decode cX0_strikeCeilingAndWall 109 = .ok (.return_, 1) := by decide +kernel
set_option maxRecDepth 20000 in
theorem ggX0_comeDownToRim_X3_isOverBin : GoodIn wsX0_comeDownToRim wsX3_isOverBin := goodIn_r _ [10, 11, 12, 24, 25, 26, 27, 28, 29, 30, 31, 32, 33, 34, 35, 36, 37, 38, 39] (by decide +kernel) (by decide +kernel)
set_option maxRecDepth 20000 in
theorem gX0_comeDownToRim_X3_isOverBin_n89 : GoodIn wsX0_comeDownToRim (wsX3_isOverBin) := ggX0_comeDownToRim_X3_isOverBin
set_option maxRecDepth 20000 in
theorem ggX0_comeDownToRim_X3_isBesideBin : GoodIn wsX0_comeDownToRim wsX3_isBesideBin := goodIn_r _ [15, 11, 12, 24, 25, 26, 27, 28, 29, 30, 31, 32, 33, 34, 35, 36, 37, 38, 39] (by decide +kernel) (by decide +kernel)
set_option maxRecDepth 20000 in
theorem gX0_comeDownToRim_X3_isBesideBin_n95 : GoodIn wsX0_comeDownToRim (wsX3_isBesideBin) := ggX0_comeDownToRim_X3_isBesideBin
theorem dX0_comeDownToRim_0 : decode cX0_comeDownToRim 0 = .ok (.aload_n 1, 1) := by decide +kernel
theorem dX0_comeDownToRim_1 : decode cX0_comeDownToRim 1 = .ok (.aload_n 0, 1) := by decide +kernel
theorem dX0_comeDownToRim_2 : decode cX0_comeDownToRim 2 = .ok (.getfield 15, 3) := by decide +kernel
theorem dX0_comeDownToRim_5 : decode cX0_comeDownToRim 5 = .ok (.invokevirtual 89, 3) := by decide +kernel
theorem dX0_comeDownToRim_8 : decode cX0_comeDownToRim 8 = .ok (.ifCond .eq 24, 3) := by decide +kernel
theorem dX0_comeDownToRim_11 : decode cX0_comeDownToRim 11 = .ok (.aload_n 0, 1) := by decide +kernel
theorem dX0_comeDownToRim_12 : decode cX0_comeDownToRim 12 = .ok (.aload_n 1, 1) := by decide +kernel
theorem dX0_comeDownToRim_13 : decode cX0_comeDownToRim 13 = .ok (.getfield 92, 3) := by decide +kernel
theorem dX0_comeDownToRim_16 : decode cX0_comeDownToRim 16 = .ok (.bipush 9, 2) := by decide +kernel
theorem dX0_comeDownToRim_18 : decode cX0_comeDownToRim 18 = .ok (.if_icmp .lt 7, 3) := by decide +kernel
theorem dX0_comeDownToRim_21 : decode cX0_comeDownToRim 21 = .ok (.iconst 3, 1) := by decide +kernel
theorem dX0_comeDownToRim_22 : decode cX0_comeDownToRim 22 = .ok (.goto 4, 3) := by decide +kernel
theorem dX0_comeDownToRim_25 : decode cX0_comeDownToRim 25 = .ok (.iconst 0, 1) := by decide +kernel
theorem dX0_comeDownToRim_26 : decode cX0_comeDownToRim 26 = .ok (.putfield 9, 3) := by decide +kernel
theorem dX0_comeDownToRim_29 : decode cX0_comeDownToRim 29 = .ok (.goto 57, 3) := by decide +kernel
theorem dX0_comeDownToRim_32 : decode cX0_comeDownToRim 32 = .ok (.aload_n 1, 1) := by decide +kernel
theorem dX0_comeDownToRim_33 : decode cX0_comeDownToRim 33 = .ok (.aload_n 0, 1) := by decide +kernel
theorem dX0_comeDownToRim_34 : decode cX0_comeDownToRim 34 = .ok (.getfield 15, 3) := by decide +kernel
theorem dX0_comeDownToRim_37 : decode cX0_comeDownToRim 37 = .ok (.invokevirtual 95, 3) := by decide +kernel
theorem dX0_comeDownToRim_40 : decode cX0_comeDownToRim 40 = .ok (.ifCond .eq 46, 3) := by decide +kernel
theorem dX0_comeDownToRim_43 : decode cX0_comeDownToRim 43 = .ok (.aload_n 0, 1) := by decide +kernel
theorem dX0_comeDownToRim_44 : decode cX0_comeDownToRim 44 = .ok (.getfield 32, 3) := by decide +kernel
theorem dX0_comeDownToRim_47 : decode cX0_comeDownToRim 47 = .ok (.iconst 4, 1) := by decide +kernel
theorem dX0_comeDownToRim_48 : decode cX0_comeDownToRim 48 = .ok (.iand, 1) := by decide +kernel
theorem dX0_comeDownToRim_49 : decode cX0_comeDownToRim 49 = .ok (.ifCond .ne 37, 3) := by decide +kernel
theorem dX0_comeDownToRim_52 : decode cX0_comeDownToRim 52 = .ok (.aload_n 0, 1) := by decide +kernel
theorem dX0_comeDownToRim_53 : decode cX0_comeDownToRim 53 = .ok (.aload_n 1, 1) := by decide +kernel
theorem dX0_comeDownToRim_54 : decode cX0_comeDownToRim 54 = .ok (.getfield 74, 3) := by decide +kernel
theorem dX0_comeDownToRim_57 : decode cX0_comeDownToRim 57 = .ok (.iconst 1, 1) := by decide +kernel
theorem dX0_comeDownToRim_58 : decode cX0_comeDownToRim 58 = .ok (.iadd, 1) := by decide +kernel
theorem dX0_comeDownToRim_59 : decode cX0_comeDownToRim 59 = .ok (.putfield 26, 3) := by decide +kernel
theorem dX0_comeDownToRim_62 : decode cX0_comeDownToRim 62 = .ok (.aload_n 0, 1) := by decide +kernel
theorem dX0_comeDownToRim_63 : decode cX0_comeDownToRim 63 = .ok (.aload_n 0, 1) := by decide +kernel
theorem dX0_comeDownToRim_64 : decode cX0_comeDownToRim 64 = .ok (.getfield 35, 3) := by decide +kernel
theorem dX0_comeDownToRim_67 : decode cX0_comeDownToRim 67 = .ok (.ineg, 1) := by decide +kernel
theorem dX0_comeDownToRim_68 : decode cX0_comeDownToRim 68 = .ok (.putfield 35, 3) := by decide +kernel
theorem dX0_comeDownToRim_71 : decode cX0_comeDownToRim 71 = .ok (.aload_n 0, 1) := by decide +kernel
theorem dX0_comeDownToRim_72 : decode cX0_comeDownToRim 72 = .ok (.iconst 1, 1) := by decide +kernel
theorem dX0_comeDownToRim_73 : decode cX0_comeDownToRim 73 = .ok (.putfield 38, 3) := by decide +kernel
theorem dX0_comeDownToRim_76 : decode cX0_comeDownToRim 76 = .ok (.aload_n 0, 1) := by decide +kernel
theorem dX0_comeDownToRim_77 : decode cX0_comeDownToRim 77 = .ok (.dup, 1) := by decide +kernel
theorem dX0_comeDownToRim_78 : decode cX0_comeDownToRim 78 = .ok (.getfield 32, 3) := by decide +kernel
theorem dX0_comeDownToRim_81 : decode cX0_comeDownToRim 81 = .ok (.iconst 4, 1) := by decide +kernel
theorem dX0_comeDownToRim_82 : decode cX0_comeDownToRim 82 = .ok (.ior, 1) := by decide +kernel
theorem dX0_comeDownToRim_83 : decode cX0_comeDownToRim 83 = .ok (.putfield 32, 3) := by decide +kernel
theorem dX0_comeDownToRim_86 : decode cX0_comeDownToRim 86 = .ok (.return_, 1) := by decide +kernel
theorem dX0_nearerZero_0 : decode cX0_nearerZero 0 = .ok (.iload_n 0, 1) := by decide +kernel
theorem dX0_nearerZero_1 : decode cX0_nearerZero 1 = .ok (.ifCond .le 13, 3) := by decide +kernel
theorem dX0_nearerZero_4 : decode cX0_nearerZero 4 = .ok (.iconst 0, 1) := by decide +kernel
theorem dX0_nearerZero_5 : decode cX0_nearerZero 5 = .ok (.iload_n 0, 1) := by decide +kernel
theorem dX0_nearerZero_6 : decode cX0_nearerZero 6 = .ok (.iload_n 1, 1) := by decide +kernel
theorem dX0_nearerZero_7 : decode cX0_nearerZero 7 = .ok (.isub, 1) := by decide +kernel
theorem dX0_nearerZero_8 : decode cX0_nearerZero 8 = .ok (.invokestatic 69, 3) := by decide +kernel
theorem dX0_nearerZero_11 : decode cX0_nearerZero 11 = .ok (.goto 10, 3) := by decide +kernel
theorem dX0_nearerZero_14 : decode cX0_nearerZero 14 = .ok (.iconst 0, 1) := by decide +kernel
theorem dX0_nearerZero_15 : decode cX0_nearerZero 15 = .ok (.iload_n 0, 1) := by decide +kernel
theorem dX0_nearerZero_16 : decode cX0_nearerZero 16 = .ok (.iload_n 1, 1) := by decide +kernel
theorem dX0_nearerZero_17 : decode cX0_nearerZero 17 = .ok (.iadd, 1) := by decide +kernel
theorem dX0_nearerZero_18 : decode cX0_nearerZero 18 = .ok (.invokestatic 98, 3) := by decide +kernel
theorem dX0_nearerZero_21 : decode cX0_nearerZero 21 = .ok (.ireturn, 1) := by decide +kernel
theorem dX1_init_0 : decode cX1_init 0 = .ok (.aload_n 0, 1) := by decide +kernel
theorem dX1_init_1 : decode cX1_init 1 = .ok (.invokespecial 1, 3) := by decide +kernel
theorem dX1_init_4 : decode cX1_init 4 = .ok (.return_, 1) := by decide +kernel
theorem dX1_drawBelow_0 : decode cX1_drawBelow 0 = .ok (.aload_n 0, 1) := by decide +kernel
theorem dX1_drawBelow_1 : decode cX1_drawBelow 1 = .ok (.aload_n 0, 1) := by decide +kernel
theorem dX1_drawBelow_2 : decode cX1_drawBelow 2 = .ok (.getfield 7, 3) := by decide +kernel
theorem dX1_drawBelow_5 : decode cX1_drawBelow 5 = .ok (.ldc 13, 2) := by decide +kernel
theorem dX1_drawBelow_7 : decode cX1_drawBelow 7 = .ok (.imul, 1) := by decide +kernel
theorem dX1_drawBelow_8 : decode cX1_drawBelow 8 = .ok (.ldc 14, 2) := by decide +kernel
theorem dX1_drawBelow_10 : decode cX1_drawBelow 10 = .ok (.iadd, 1) := by decide +kernel
theorem dX1_drawBelow_11 : decode cX1_drawBelow 11 = .ok (.putfield 7, 3) := by decide +kernel
theorem dX1_drawBelow_14 : decode cX1_drawBelow 14 = .ok (.aload_n 0, 1) := by decide +kernel
theorem dX1_drawBelow_15 : decode cX1_drawBelow 15 = .ok (.getfield 7, 3) := by decide +kernel
theorem dX1_drawBelow_18 : decode cX1_drawBelow 18 = .ok (.ldc 15, 2) := by decide +kernel
theorem dX1_drawBelow_20 : decode cX1_drawBelow 20 = .ok (.iand, 1) := by decide +kernel
theorem dX1_drawBelow_21 : decode cX1_drawBelow 21 = .ok (.sipush 256, 3) := by decide +kernel
theorem dX1_drawBelow_24 : decode cX1_drawBelow 24 = .ok (.idiv, 1) := by decide +kernel
theorem dX1_drawBelow_25 : decode cX1_drawBelow 25 = .ok (.istore_n 2, 1) := by decide +kernel
theorem dX1_drawBelow_26 : decode cX1_drawBelow 26 = .ok (.iload_n 1, 1) := by decide +kernel
theorem dX1_drawBelow_27 : decode cX1_drawBelow 27 = .ok (.ifCond .le 9, 3) := by decide +kernel
theorem dX1_drawBelow_30 : decode cX1_drawBelow 30 = .ok (.iload_n 2, 1) := by decide +kernel
theorem dX1_drawBelow_31 : decode cX1_drawBelow 31 = .ok (.iload_n 1, 1) := by decide +kernel
theorem dX1_drawBelow_32 : decode cX1_drawBelow 32 = .ok (.irem, 1) := by decide +kernel
theorem dX1_drawBelow_33 : decode cX1_drawBelow 33 = .ok (.goto 4, 3) := by decide +kernel
theorem dX1_drawBelow_36 : decode cX1_drawBelow 36 = .ok (.iconst 0, 1) := by decide +kernel
theorem dX1_drawBelow_37 : decode cX1_drawBelow 37 = .ok (.ireturn, 1) := by decide +kernel
theorem dX2_init_0 : decode cX2_init 0 = .ok (.aload_n 0, 1) := by decide +kernel
theorem dX2_init_1 : decode cX2_init 1 = .ok (.invokespecial 3, 3) := by decide +kernel
theorem dX2_init_4 : decode cX2_init 4 = .ok (.return_, 1) := by decide +kernel
set_option maxRecDepth 20000 in
theorem ggX2_atLeast_X2_power : GoodIn wsX2_atLeast wsX2_power := goodIn_r _ [7] (by decide +kernel) (by decide +kernel)
set_option maxRecDepth 20000 in
theorem gX2_atLeast_X2_power : GoodIn wsX2_atLeast (va_wsS RX2 17 yX2_power wsX2_power) := goodIn_app (goodIn_of _ (by decide +kernel)) ggX2_atLeast_X2_power
set_option maxRecDepth 20000 in
theorem ggX2_atLeast_X2_choices : GoodIn wsX2_atLeast wsX2_choices := goodIn_r _ [10] (by decide +kernel) (by decide +kernel)
set_option maxRecDepth 20000 in
theorem gX2_atLeast_X2_choices : GoodIn wsX2_atLeast (va_wsS RX2 24 yX2_choices wsX2_choices) := goodIn_app (goodIn_of _ (by decide +kernel)) ggX2_atLeast_X2_choices
set_option maxRecDepth 20000 in
theorem ggX2_atLeast_X2_commonDivisor : GoodIn wsX2_atLeast wsX2_commonDivisor := goodIn_r _ [13] (by decide +kernel) (by decide +kernel)
set_option maxRecDepth 20000 in
theorem gX2_atLeast_X2_commonDivisor : GoodIn wsX2_atLeast (va_wsS RX2 28 yX2_commonDivisor wsX2_commonDivisor) := goodIn_app (goodIn_of _ (by decide +kernel)) ggX2_atLeast_X2_commonDivisor
theorem dX2_atLeast_0 : decode cX2_atLeast 0 = .ok (.aload_n 0, 1) := by decide +kernel
theorem dX2_atLeast_1 : decode cX2_atLeast 1 = .ok (.lconst 0, 1) := by decide +kernel
theorem dX2_atLeast_2 : decode cX2_atLeast 2 = .ok (.putfield 9, 3) := by decide +kernel
theorem dX2_atLeast_5 : decode cX2_atLeast 5 = .ok (.aload_n 0, 1) := by decide +kernel
theorem dX2_atLeast_6 : decode cX2_atLeast 6 = .ok (.ldc2_w 15, 3) := by decide +kernel
theorem dX2_atLeast_9 : decode cX2_atLeast 9 = .ok (.iload_n 1, 1) := by decide +kernel
theorem dX2_atLeast_10 : decode cX2_atLeast 10 = .ok (.invokestatic 17, 3) := by decide +kernel
theorem dX2_atLeast_13 : decode cX2_atLeast 13 = .ok (.putfield 21, 3) := by decide +kernel
theorem dX2_atLeast_16 : decode cX2_atLeast 16 = .ok (.iload_n 2, 1) := by decide +kernel
theorem dX2_atLeast_17 : decode cX2_atLeast 17 = .ok (.istore 4, 2) := by decide +kernel
theorem dX2_atLeast_19 : decode cX2_atLeast 19 = .ok (.iload 4, 2) := by decide +kernel
theorem dX2_atLeast_21 : decode cX2_atLeast 21 = .ok (.iload_n 1, 1) := by decide +kernel
theorem dX2_atLeast_22 : decode cX2_atLeast 22 = .ok (.if_icmp .gt 45, 3) := by decide +kernel
theorem dX2_atLeast_25 : decode cX2_atLeast 25 = .ok (.aload_n 0, 1) := by decide +kernel
theorem dX2_atLeast_26 : decode cX2_atLeast 26 = .ok (.dup, 1) := by decide +kernel
theorem dX2_atLeast_27 : decode cX2_atLeast 27 = .ok (.getfield 9, 3) := by decide +kernel
theorem dX2_atLeast_30 : decode cX2_atLeast 30 = .ok (.iload_n 1, 1) := by decide +kernel
theorem dX2_atLeast_31 : decode cX2_atLeast 31 = .ok (.iload 4, 2) := by decide +kernel
theorem dX2_atLeast_33 : decode cX2_atLeast 33 = .ok (.invokestatic 24, 3) := by decide +kernel
theorem dX2_atLeast_36 : decode cX2_atLeast 36 = .ok (.iload_n 3, 1) := by decide +kernel
theorem dX2_atLeast_37 : decode cX2_atLeast 37 = .ok (.i2l, 1) := by decide +kernel
theorem dX2_atLeast_38 : decode cX2_atLeast 38 = .ok (.iload 4, 2) := by decide +kernel
theorem dX2_atLeast_40 : decode cX2_atLeast 40 = .ok (.invokestatic 17, 3) := by decide +kernel
theorem dX2_atLeast_43 : decode cX2_atLeast 43 = .ok (.lmul, 1) := by decide +kernel
theorem dX2_atLeast_44 : decode cX2_atLeast 44 = .ok (.bipush 9, 2) := by decide +kernel
theorem dX2_atLeast_46 : decode cX2_atLeast 46 = .ok (.iload_n 3, 1) := by decide +kernel
theorem dX2_atLeast_47 : decode cX2_atLeast 47 = .ok (.isub, 1) := by decide +kernel
theorem dX2_atLeast_48 : decode cX2_atLeast 48 = .ok (.i2l, 1) := by decide +kernel
theorem dX2_atLeast_49 : decode cX2_atLeast 49 = .ok (.iload_n 1, 1) := by decide +kernel
theorem dX2_atLeast_50 : decode cX2_atLeast 50 = .ok (.iload 4, 2) := by decide +kernel
theorem dX2_atLeast_52 : decode cX2_atLeast 52 = .ok (.isub, 1) := by decide +kernel
theorem dX2_atLeast_53 : decode cX2_atLeast 53 = .ok (.invokestatic 17, 3) := by decide +kernel
theorem dX2_atLeast_56 : decode cX2_atLeast 56 = .ok (.lmul, 1) := by decide +kernel
theorem dX2_atLeast_57 : decode cX2_atLeast 57 = .ok (.ladd, 1) := by decide +kernel
theorem dX2_atLeast_58 : decode cX2_atLeast 58 = .ok (.putfield 9, 3) := by decide +kernel
theorem dX2_atLeast_61 : decode cX2_atLeast 61 = .ok (.iinc 4 1, 3) := by decide +kernel
theorem dX2_atLeast_64 : decode cX2_atLeast 64 = .ok (.goto (-45), 3) := by decide +kernel
theorem dX2_atLeast_67 : decode cX2_atLeast 67 = .ok (.aload_n 0, 1) := by decide +kernel
theorem dX2_atLeast_68 : decode cX2_atLeast 68 = .ok (.getfield 9, 3) := by decide +kernel
theorem dX2_atLeast_71 : decode cX2_atLeast 71 = .ok (.aload_n 0, 1) := by decide +kernel
theorem dX2_atLeast_72 : decode cX2_atLeast 72 = .ok (.getfield 21, 3) := by decide +kernel
theorem dX2_atLeast_75 : decode cX2_atLeast 75 = .ok (.invokestatic 28, 3) := by decide +kernel
theorem dX2_atLeast_78 : decode cX2_atLeast 78 = .ok (.lstore 4, 2) := by decide +kernel
theorem dX2_atLeast_80 : decode cX2_atLeast 80 = .ok (.lload 4, 2) := by decide +kernel
theorem dX2_atLeast_82 : decode cX2_atLeast 82 = .ok (.lconst 1, 1) := by decide +kernel
theorem dX2_atLeast_83 : decode cX2_atLeast 83 = .ok (.lcmp, 1) := by decide +kernel
theorem dX2_atLeast_84 : decode cX2_atLeast 84 = .ok (.ifCond .le 25, 3) := by decide +kernel
theorem dX2_atLeast_87 : decode cX2_atLeast 87 = .ok (.aload_n 0, 1) := by decide +kernel
theorem dX2_atLeast_88 : decode cX2_atLeast 88 = .ok (.dup, 1) := by decide +kernel
theorem dX2_atLeast_89 : decode cX2_atLeast 89 = .ok (.getfield 9, 3) := by decide +kernel
theorem dX2_atLeast_92 : decode cX2_atLeast 92 = .ok (.lload 4, 2) := by decide +kernel
theorem dX2_atLeast_94 : decode cX2_atLeast 94 = .ok (.ldiv, 1) := by decide +kernel
theorem dX2_atLeast_95 : decode cX2_atLeast 95 = .ok (.putfield 9, 3) := by decide +kernel
theorem dX2_atLeast_98 : decode cX2_atLeast 98 = .ok (.aload_n 0, 1) := by decide +kernel
theorem dX2_atLeast_99 : decode cX2_atLeast 99 = .ok (.dup, 1) := by decide +kernel
theorem dX2_atLeast_100 : decode cX2_atLeast 100 = .ok (.getfield 21, 3) := by decide +kernel
theorem dX2_atLeast_103 : decode cX2_atLeast 103 = .ok (.lload 4, 2) := by decide +kernel
theorem dX2_atLeast_105 : decode cX2_atLeast 105 = .ok (.ldiv, 1) := by decide +kernel
theorem dX2_atLeast_106 : decode cX2_atLeast 106 = .ok (.putfield 21, 3) := by decide +kernel
theorem dX2_atLeast_109 : decode cX2_atLeast 109 = .ok (.return_, 1) := by decide +kernel
theorem dX2_power_0 : decode cX2_power 0 = .ok (.lconst 1, 1) := by decide +kernel
theorem dX2_power_1 : decode cX2_power 1 = .ok (.lstore_n 3, 1) := by decide +kernel
theorem dX2_power_2 : decode cX2_power 2 = .ok (.iconst 0, 1) := by decide +kernel
theorem dX2_power_3 : decode cX2_power 3 = .ok (.istore 5, 2) := by decide +kernel
theorem dX2_power_5 : decode cX2_power 5 = .ok (.iload 5, 2) := by decide +kernel
theorem dX2_power_7 : decode cX2_power 7 = .ok (.iload_n 2, 1) := by decide +kernel
theorem dX2_power_8 : decode cX2_power 8 = .ok (.if_icmp .ge 13, 3) := by decide +kernel
theorem dX2_power_11 : decode cX2_power 11 = .ok (.lload_n 3, 1) := by decide +kernel
theorem dX2_power_12 : decode cX2_power 12 = .ok (.lload_n 0, 1) := by decide +kernel
theorem dX2_power_13 : decode cX2_power 13 = .ok (.lmul, 1) := by decide +kernel
theorem dX2_power_14 : decode cX2_power 14 = .ok (.lstore_n 3, 1) := by decide +kernel
theorem dX2_power_15 : decode cX2_power 15 = .ok (.iinc 5 1, 3) := by decide +kernel
theorem dX2_power_18 : decode cX2_power 18 = .ok (.goto (-13), 3) := by decide +kernel
theorem dX2_power_21 : decode cX2_power 21 = .ok (.lload_n 3, 1) := by decide +kernel
theorem dX2_power_22 : decode cX2_power 22 = .ok (.lreturn, 1) := by decide +kernel
theorem dX2_choices_0 : decode cX2_choices 0 = .ok (.lconst 1, 1) := by decide +kernel
theorem dX2_choices_1 : decode cX2_choices 1 = .ok (.lstore_n 2, 1) := by decide +kernel
theorem dX2_choices_2 : decode cX2_choices 2 = .ok (.iconst 1, 1) := by decide +kernel
theorem dX2_choices_3 : decode cX2_choices 3 = .ok (.istore 4, 2) := by decide +kernel
theorem dX2_choices_5 : decode cX2_choices 5 = .ok (.iload 4, 2) := by decide +kernel
theorem dX2_choices_7 : decode cX2_choices 7 = .ok (.iload_n 1, 1) := by decide +kernel
theorem dX2_choices_8 : decode cX2_choices 8 = .ok (.if_icmp .gt 23, 3) := by decide +kernel
theorem dX2_choices_11 : decode cX2_choices 11 = .ok (.lload_n 2, 1) := by decide +kernel
theorem dX2_choices_12 : decode cX2_choices 12 = .ok (.iload_n 0, 1) := by decide +kernel
theorem dX2_choices_13 : decode cX2_choices 13 = .ok (.iload_n 1, 1) := by decide +kernel
theorem dX2_choices_14 : decode cX2_choices 14 = .ok (.isub, 1) := by decide +kernel
theorem dX2_choices_15 : decode cX2_choices 15 = .ok (.iload 4, 2) := by decide +kernel
theorem dX2_choices_17 : decode cX2_choices 17 = .ok (.iadd, 1) := by decide +kernel
theorem dX2_choices_18 : decode cX2_choices 18 = .ok (.i2l, 1) := by decide +kernel
theorem dX2_choices_19 : decode cX2_choices 19 = .ok (.lmul, 1) := by decide +kernel
theorem dX2_choices_20 : decode cX2_choices 20 = .ok (.iload 4, 2) := by decide +kernel
theorem dX2_choices_22 : decode cX2_choices 22 = .ok (.i2l, 1) := by decide +kernel
theorem dX2_choices_23 : decode cX2_choices 23 = .ok (.ldiv, 1) := by decide +kernel
theorem dX2_choices_24 : decode cX2_choices 24 = .ok (.lstore_n 2, 1) := by decide +kernel
theorem dX2_choices_25 : decode cX2_choices 25 = .ok (.iinc 4 1, 3) := by decide +kernel
theorem dX2_choices_28 : decode cX2_choices 28 = .ok (.goto (-23), 3) := by decide +kernel
theorem dX2_choices_31 : decode cX2_choices 31 = .ok (.lload_n 2, 1) := by decide +kernel
theorem dX2_choices_32 : decode cX2_choices 32 = .ok (.lreturn, 1) := by decide +kernel
theorem dX2_commonDivisor_0 : decode cX2_commonDivisor 0 = .ok (.lload_n 0, 1) := by decide +kernel
theorem dX2_commonDivisor_1 : decode cX2_commonDivisor 1 = .ok (.lstore 4, 2) := by decide +kernel
theorem dX2_commonDivisor_3 : decode cX2_commonDivisor 3 = .ok (.lload_n 2, 1) := by decide +kernel
theorem dX2_commonDivisor_4 : decode cX2_commonDivisor 4 = .ok (.lstore 6, 2) := by decide +kernel
theorem dX2_commonDivisor_6 : decode cX2_commonDivisor 6 = .ok (.iconst 0, 1) := by decide +kernel
theorem dX2_commonDivisor_7 : decode cX2_commonDivisor 7 = .ok (.istore 8, 2) := by decide +kernel
theorem dX2_commonDivisor_9 : decode cX2_commonDivisor 9 = .ok (.iload 8, 2) := by decide +kernel
theorem dX2_commonDivisor_11 : decode cX2_commonDivisor 11 = .ok (.sipush 1000, 3) := by decide +kernel
theorem dX2_commonDivisor_14 : decode cX2_commonDivisor 14 = .ok (.if_icmp .ge 31, 3) := by decide +kernel
theorem dX2_commonDivisor_17 : decode cX2_commonDivisor 17 = .ok (.lload 6, 2) := by decide +kernel
theorem dX2_commonDivisor_19 : decode cX2_commonDivisor 19 = .ok (.lconst 0, 1) := by decide +kernel
theorem dX2_commonDivisor_20 : decode cX2_commonDivisor 20 = .ok (.lcmp, 1) := by decide +kernel
theorem dX2_commonDivisor_21 : decode cX2_commonDivisor 21 = .ok (.ifCond .eq 24, 3) := by decide +kernel
theorem dX2_commonDivisor_24 : decode cX2_commonDivisor 24 = .ok (.lload 4, 2) := by decide +kernel
theorem dX2_commonDivisor_26 : decode cX2_commonDivisor 26 = .ok (.lload 6, 2) := by decide +kernel
theorem dX2_commonDivisor_28 : decode cX2_commonDivisor 28 = .ok (.lrem, 1) := by decide +kernel
theorem dX2_commonDivisor_29 : decode cX2_commonDivisor 29 = .ok (.lstore 9, 2) := by decide +kernel
theorem dX2_commonDivisor_31 : decode cX2_commonDivisor 31 = .ok (.lload 6, 2) := by decide +kernel
theorem dX2_commonDivisor_33 : decode cX2_commonDivisor 33 = .ok (.lstore 4, 2) := by decide +kernel
theorem dX2_commonDivisor_35 : decode cX2_commonDivisor 35 = .ok (.lload 9, 2) := by decide +kernel
theorem dX2_commonDivisor_37 : decode cX2_commonDivisor 37 = .ok (.lstore 6, 2) := by decide +kernel
theorem dX2_commonDivisor_39 : decode cX2_commonDivisor 39 = .ok (.iinc 8 1, 3) := by decide +kernel
theorem dX2_commonDivisor_42 : decode cX2_commonDivisor 42 = .ok (.goto (-33), 3) := by decide +kernel
theorem dX2_commonDivisor_45 : decode cX2_commonDivisor 45 = .ok (.lload 4, 2) := by decide +kernel
theorem dX2_commonDivisor_47 : decode cX2_commonDivisor 47 = .ok (.lreturn, 1) := by decide +kernel
theorem dX3_init_0 : decode cX3_init 0 = .ok (.aload_n 0, 1) := by decide +kernel
theorem dX3_init_1 : decode cX3_init 1 = .ok (.invokespecial 3, 3) := by decide +kernel
theorem dX3_init_4 : decode cX3_init 4 = .ok (.aload_n 0, 1) := by decide +kernel
theorem dX3_init_5 : decode cX3_init 5 = .ok (.iconst 5, 1) := by decide +kernel
theorem dX3_init_6 : decode cX3_init 6 = .ok (.putfield 9, 3) := by decide +kernel
theorem dX3_init_9 : decode cX3_init 9 = .ok (.aload_n 0, 1) := by decide +kernel
theorem dX3_init_10 : decode cX3_init 10 = .ok (.bipush 12, 2) := by decide +kernel
theorem dX3_init_12 : decode cX3_init 12 = .ok (.putfield 15, 3) := by decide +kernel
theorem dX3_init_15 : decode cX3_init 15 = .ok (.aload_n 0, 1) := by decide +kernel
theorem dX3_init_16 : decode cX3_init 16 = .ok (.iconst 2, 1) := by decide +kernel
theorem dX3_init_17 : decode cX3_init 17 = .ok (.putfield 18, 3) := by decide +kernel
theorem dX3_init_20 : decode cX3_init 20 = .ok (.aload_n 0, 1) := by decide +kernel
theorem dX3_init_21 : decode cX3_init 21 = .ok (.iconst 3, 1) := by decide +kernel
theorem dX3_init_22 : decode cX3_init 22 = .ok (.putfield 21, 3) := by decide +kernel
theorem dX3_init_25 : decode cX3_init 25 = .ok (.aload_n 0, 1) := by decide +kernel
theorem dX3_init_26 : decode cX3_init 26 = .ok (.iconst 0, 1) := by decide +kernel
theorem dX3_init_27 : decode cX3_init 27 = .ok (.putfield 24, 3) := by decide +kernel
theorem dX3_init_30 : decode cX3_init 30 = .ok (.aload_n 0, 1) := by decide +kernel
theorem dX3_init_31 : decode cX3_init 31 = .ok (.bipush 40, 2) := by decide +kernel
theorem dX3_init_33 : decode cX3_init 33 = .ok (.putfield 27, 3) := by decide +kernel
theorem dX3_init_36 : decode cX3_init 36 = .ok (.aload_n 0, 1) := by decide +kernel
theorem dX3_init_37 : decode cX3_init 37 = .ok (.bipush 40, 2) := by decide +kernel
theorem dX3_init_39 : decode cX3_init 39 = .ok (.putfield 30, 3) := by decide +kernel
theorem dX3_init_42 : decode cX3_init 42 = .ok (.aload_n 0, 1) := by decide +kernel
theorem dX3_init_43 : decode cX3_init 43 = .ok (.iconst 0, 1) := by decide +kernel
theorem dX3_init_44 : decode cX3_init 44 = .ok (.putfield 33, 3) := by decide +kernel
theorem dX3_init_47 : decode cX3_init 47 = .ok (.aload_n 0, 1) := by decide +kernel
theorem dX3_init_48 : decode cX3_init 48 = .ok (.iconst 3, 1) := by decide +kernel
theorem dX3_init_49 : decode cX3_init 49 = .ok (.putfield 36, 3) := by decide +kernel
theorem dX3_init_52 : decode cX3_init 52 = .ok (.aload_n 0, 1) := by decide +kernel
theorem dX3_init_53 : decode cX3_init 53 = .ok (.iconst 0, 1) := by decide +kernel
theorem dX3_init_54 : decode cX3_init 54 = .ok (.putfield 39, 3) := by decide +kernel
theorem dX3_init_57 : decode cX3_init 57 = .ok (.aload_n 0, 1) := by decide +kernel
theorem dX3_init_58 : decode cX3_init 58 = .ok (.iconst 0, 1) := by decide +kernel
theorem dX3_init_59 : decode cX3_init 59 = .ok (.putfield 42, 3) := by decide +kernel
theorem dX3_init_62 : decode cX3_init 62 = .ok (.aload_n 0, 1) := by decide +kernel
theorem dX3_init_63 : decode cX3_init 63 = .ok (.iconst 0, 1) := by decide +kernel
theorem dX3_init_64 : decode cX3_init 64 = .ok (.putfield 45, 3) := by decide +kernel
theorem dX3_init_67 : decode cX3_init 67 = .ok (.aload_n 0, 1) := by decide +kernel
theorem dX3_init_68 : decode cX3_init 68 = .ok (.iconst 0, 1) := by decide +kernel
theorem dX3_init_69 : decode cX3_init 69 = .ok (.putfield 48, 3) := by decide +kernel
theorem dX3_init_72 : decode cX3_init 72 = .ok (.aload_n 0, 1) := by decide +kernel
theorem dX3_init_73 : decode cX3_init 73 = .ok (.iconst 5, 1) := by decide +kernel
theorem dX3_init_74 : decode cX3_init 74 = .ok (.newarray .int, 2) := by decide +kernel
theorem dX3_init_76 : decode cX3_init 76 = .ok (.putfield 51, 3) := by decide +kernel
theorem dX3_init_79 : decode cX3_init 79 = .ok (.aload_n 0, 1) := by decide +kernel
theorem dX3_init_80 : decode cX3_init 80 = .ok (.iconst 5, 1) := by decide +kernel
theorem dX3_init_81 : decode cX3_init 81 = .ok (.newarray .int, 2) := by decide +kernel
theorem dX3_init_83 : decode cX3_init 83 = .ok (.putfield 55, 3) := by decide +kernel
theorem dX3_init_86 : decode cX3_init 86 = .ok (.aload_n 0, 1) := by decide +kernel
theorem dX3_init_87 : decode cX3_init 87 = .ok (.iconst 5, 1) := by decide +kernel
theorem dX3_init_88 : decode cX3_init 88 = .ok (.newarray .int, 2) := by decide +kernel
theorem dX3_init_90 : decode cX3_init 90 = .ok (.putfield 58, 3) := by decide +kernel
theorem dX3_init_93 : decode cX3_init 93 = .ok (.return_, 1) := by decide +kernel
theorem dX3_become_0 : decode cX3_become 0 = .ok (.aload_n 0, 1) := by decide +kernel
theorem dX3_become_1 : decode cX3_become 1 = .ok (.aload_n 1, 1) := by decide +kernel
theorem dX3_become_2 : decode cX3_become 2 = .ok (.getfield 9, 3) := by decide +kernel
theorem dX3_become_5 : decode cX3_become 5 = .ok (.putfield 9, 3) := by decide +kernel
theorem dX3_become_8 : decode cX3_become 8 = .ok (.aload_n 0, 1) := by decide +kernel
theorem dX3_become_9 : decode cX3_become 9 = .ok (.aload_n 1, 1) := by decide +kernel
theorem dX3_become_10 : decode cX3_become 10 = .ok (.getfield 15, 3) := by decide +kernel
theorem dX3_become_13 : decode cX3_become 13 = .ok (.putfield 15, 3) := by decide +kernel
theorem dX3_become_16 : decode cX3_become 16 = .ok (.aload_n 0, 1) := by decide +kernel
theorem dX3_become_17 : decode cX3_become 17 = .ok (.aload_n 1, 1) := by decide +kernel
theorem dX3_become_18 : decode cX3_become 18 = .ok (.getfield 18, 3) := by decide +kernel
theorem dX3_become_21 : decode cX3_become 21 = .ok (.putfield 18, 3) := by decide +kernel
theorem dX3_become_24 : decode cX3_become 24 = .ok (.aload_n 0, 1) := by decide +kernel
theorem dX3_become_25 : decode cX3_become 25 = .ok (.aload_n 1, 1) := by decide +kernel
theorem dX3_become_26 : decode cX3_become 26 = .ok (.getfield 21, 3) := by decide +kernel
theorem dX3_become_29 : decode cX3_become 29 = .ok (.putfield 21, 3) := by decide +kernel
theorem dX3_become_32 : decode cX3_become 32 = .ok (.aload_n 0, 1) := by decide +kernel
theorem dX3_become_33 : decode cX3_become 33 = .ok (.aload_n 1, 1) := by decide +kernel
theorem dX3_become_34 : decode cX3_become 34 = .ok (.getfield 24, 3) := by decide +kernel
theorem dX3_become_37 : decode cX3_become 37 = .ok (.putfield 24, 3) := by decide +kernel
theorem dX3_become_40 : decode cX3_become 40 = .ok (.aload_n 0, 1) := by decide +kernel
theorem dX3_become_41 : decode cX3_become 41 = .ok (.aload_n 1, 1) := by decide +kernel
theorem dX3_become_42 : decode cX3_become 42 = .ok (.getfield 27, 3) := by decide +kernel
theorem dX3_become_45 : decode cX3_become 45 = .ok (.putfield 27, 3) := by decide +kernel
theorem dX3_become_48 : decode cX3_become 48 = .ok (.aload_n 0, 1) := by decide +kernel
theorem dX3_become_49 : decode cX3_become 49 = .ok (.aload_n 1, 1) := by decide +kernel
theorem dX3_become_50 : decode cX3_become 50 = .ok (.getfield 30, 3) := by decide +kernel
theorem dX3_become_53 : decode cX3_become 53 = .ok (.putfield 30, 3) := by decide +kernel
theorem dX3_become_56 : decode cX3_become 56 = .ok (.aload_n 0, 1) := by decide +kernel
theorem dX3_become_57 : decode cX3_become 57 = .ok (.aload_n 1, 1) := by decide +kernel
theorem dX3_become_58 : decode cX3_become 58 = .ok (.getfield 33, 3) := by decide +kernel
theorem dX3_become_61 : decode cX3_become 61 = .ok (.putfield 33, 3) := by decide +kernel
theorem dX3_become_64 : decode cX3_become 64 = .ok (.aload_n 0, 1) := by decide +kernel
theorem dX3_become_65 : decode cX3_become 65 = .ok (.aload_n 1, 1) := by decide +kernel
theorem dX3_become_66 : decode cX3_become 66 = .ok (.getfield 36, 3) := by decide +kernel
theorem dX3_become_69 : decode cX3_become 69 = .ok (.putfield 36, 3) := by decide +kernel
theorem dX3_become_72 : decode cX3_become 72 = .ok (.aload_n 0, 1) := by decide +kernel
theorem dX3_become_73 : decode cX3_become 73 = .ok (.aload_n 1, 1) := by decide +kernel
theorem dX3_become_74 : decode cX3_become 74 = .ok (.getfield 39, 3) := by decide +kernel
theorem dX3_become_77 : decode cX3_become 77 = .ok (.putfield 39, 3) := by decide +kernel
theorem dX3_become_80 : decode cX3_become 80 = .ok (.aload_n 0, 1) := by decide +kernel
theorem dX3_become_81 : decode cX3_become 81 = .ok (.aload_n 1, 1) := by decide +kernel
theorem dX3_become_82 : decode cX3_become 82 = .ok (.getfield 42, 3) := by decide +kernel
theorem dX3_become_85 : decode cX3_become 85 = .ok (.putfield 42, 3) := by decide +kernel
theorem dX3_become_88 : decode cX3_become 88 = .ok (.aload_n 0, 1) := by decide +kernel
theorem dX3_become_89 : decode cX3_become 89 = .ok (.aload_n 1, 1) := by decide +kernel
theorem dX3_become_90 : decode cX3_become 90 = .ok (.getfield 45, 3) := by decide +kernel
theorem dX3_become_93 : decode cX3_become 93 = .ok (.putfield 45, 3) := by decide +kernel
theorem dX3_become_96 : decode cX3_become 96 = .ok (.aload_n 0, 1) := by decide +kernel
theorem dX3_become_97 : decode cX3_become 97 = .ok (.aload_n 1, 1) := by decide +kernel
theorem dX3_become_98 : decode cX3_become 98 = .ok (.getfield 48, 3) := by decide +kernel
theorem dX3_become_101 : decode cX3_become 101 = .ok (.putfield 48, 3) := by decide +kernel
theorem dX3_become_104 : decode cX3_become 104 = .ok (.iconst 0, 1) := by decide +kernel
theorem dX3_become_105 : decode cX3_become 105 = .ok (.istore_n 2, 1) := by decide +kernel
theorem dX3_become_106 : decode cX3_become 106 = .ok (.iload_n 2, 1) := by decide +kernel
theorem dX3_become_107 : decode cX3_become 107 = .ok (.iconst 5, 1) := by decide +kernel
theorem dX3_become_108 : decode cX3_become 108 = .ok (.if_icmp .ge 45, 3) := by decide +kernel
theorem dX3_become_111 : decode cX3_become 111 = .ok (.aload_n 0, 1) := by decide +kernel
theorem dX3_become_112 : decode cX3_become 112 = .ok (.getfield 51, 3) := by decide +kernel
theorem dX3_become_115 : decode cX3_become 115 = .ok (.iload_n 2, 1) := by decide +kernel
theorem dX3_become_116 : decode cX3_become 116 = .ok (.aload_n 1, 1) := by decide +kernel
theorem dX3_become_117 : decode cX3_become 117 = .ok (.getfield 51, 3) := by decide +kernel
theorem dX3_become_120 : decode cX3_become 120 = .ok (.iload_n 2, 1) := by decide +kernel
theorem dX3_become_121 : decode cX3_become 121 = .ok (.iaload, 1) := by decide +kernel
theorem dX3_become_122 : decode cX3_become 122 = .ok (.iastore, 1) := by decide +kernel
theorem dX3_become_123 : decode cX3_become 123 = .ok (.aload_n 0, 1) := by decide +kernel
theorem dX3_become_124 : decode cX3_become 124 = .ok (.getfield 55, 3) := by decide +kernel
theorem dX3_become_127 : decode cX3_become 127 = .ok (.iload_n 2, 1) := by decide +kernel
theorem dX3_become_128 : decode cX3_become 128 = .ok (.aload_n 1, 1) := by decide +kernel
theorem dX3_become_129 : decode cX3_become 129 = .ok (.getfield 55, 3) := by decide +kernel
theorem dX3_become_132 : decode cX3_become 132 = .ok (.iload_n 2, 1) := by decide +kernel
theorem dX3_become_133 : decode cX3_become 133 = .ok (.iaload, 1) := by decide +kernel
theorem dX3_become_134 : decode cX3_become 134 = .ok (.iastore, 1) := by decide +kernel
theorem dX3_become_135 : decode cX3_become 135 = .ok (.aload_n 0, 1) := by decide +kernel
theorem dX3_become_136 : decode cX3_become 136 = .ok (.getfield 58, 3) := by decide +kernel
theorem dX3_become_139 : decode cX3_become 139 = .ok (.iload_n 2, 1) := by decide +kernel
theorem dX3_become_140 : decode cX3_become 140 = .ok (.aload_n 1, 1) := by decide +kernel
theorem dX3_become_141 : decode cX3_become 141 = .ok (.getfield 58, 3) := by decide +kernel
theorem dX3_become_144 : decode cX3_become 144 = .ok (.iload_n 2, 1) := by decide +kernel
theorem dX3_become_145 : decode cX3_become 145 = .ok (.iaload, 1) := by decide +kernel
theorem dX3_become_146 : decode cX3_become 146 = .ok (.iastore, 1) := by decide +kernel
theorem dX3_become_147 : decode cX3_become 147 = .ok (.iinc 2 1, 3) := by decide +kernel
theorem dX3_become_150 : decode cX3_become 150 = .ok (.goto (-44), 3) := by decide +kernel
theorem dX3_become_153 : decode cX3_become 153 = .ok (.return_, 1) := by decide +kernel
theorem dX3_hasBall_0 : decode cX3_hasBall 0 = .ok (.iload_n 1, 1) := by decide +kernel
theorem dX3_hasBall_1 : decode cX3_hasBall 1 = .ok (.ifCond .lt 20, 3) := by decide +kernel
theorem dX3_hasBall_4 : decode cX3_hasBall 4 = .ok (.iload_n 1, 1) := by decide +kernel
theorem dX3_hasBall_5 : decode cX3_hasBall 5 = .ok (.aload_n 0, 1) := by decide +kernel
theorem dX3_hasBall_6 : decode cX3_hasBall 6 = .ok (.getfield 48, 3) := by decide +kernel
theorem dX3_hasBall_9 : decode cX3_hasBall 9 = .ok (.if_icmp .ge 12, 3) := by decide +kernel
theorem dX3_hasBall_12 : decode cX3_hasBall 12 = .ok (.iload_n 1, 1) := by decide +kernel
theorem dX3_hasBall_13 : decode cX3_hasBall 13 = .ok (.iconst 5, 1) := by decide +kernel
theorem dX3_hasBall_14 : decode cX3_hasBall 14 = .ok (.if_icmp .ge 7, 3) := by decide +kernel
theorem dX3_hasBall_17 : decode cX3_hasBall 17 = .ok (.iconst 1, 1) := by decide +kernel
theorem dX3_hasBall_18 : decode cX3_hasBall 18 = .ok (.goto 4, 3) := by decide +kernel
theorem dX3_hasBall_21 : decode cX3_hasBall 21 = .ok (.iconst 0, 1) := by decide +kernel
theorem dX3_hasBall_22 : decode cX3_hasBall 22 = .ok (.ireturn, 1) := by decide +kernel
set_option maxRecDepth 20000 in
theorem ggX3_kindOf_X3_hasBall : GoodIn wsX3_kindOf wsX3_hasBall := goodIn_r _ [6, 7, 8, 9, 10, 11, 12, 13, 14, 15, 16, 17, 18, 19, 20, 21, 22, 23] (by decide +kernel) (by decide +kernel)
set_option maxRecDepth 20000 in
theorem gX3_kindOf_X3_hasBall : GoodIn wsX3_kindOf (wsV RX3 61 RX3 yX3_hasBall wsX3_hasBall) := goodIn_app (goodIn_of _ (by decide +kernel)) ggX3_kindOf_X3_hasBall
theorem dX3_kindOf_0 : decode cX3_kindOf 0 = .ok (.aload_n 0, 1) := by decide +kernel
theorem dX3_kindOf_1 : decode cX3_kindOf 1 = .ok (.iload_n 1, 1) := by decide +kernel
theorem dX3_kindOf_2 : decode cX3_kindOf 2 = .ok (.invokevirtual 61, 3) := by decide +kernel
theorem dX3_kindOf_5 : decode cX3_kindOf 5 = .ok (.ifCond .eq 12, 3) := by decide +kernel
theorem dX3_kindOf_8 : decode cX3_kindOf 8 = .ok (.aload_n 0, 1) := by decide +kernel
theorem dX3_kindOf_9 : decode cX3_kindOf 9 = .ok (.getfield 51, 3) := by decide +kernel
theorem dX3_kindOf_12 : decode cX3_kindOf 12 = .ok (.iload_n 1, 1) := by decide +kernel
theorem dX3_kindOf_13 : decode cX3_kindOf 13 = .ok (.iaload, 1) := by decide +kernel
theorem dX3_kindOf_14 : decode cX3_kindOf 14 = .ok (.goto 4, 3) := by decide +kernel
theorem dX3_kindOf_17 : decode cX3_kindOf 17 = .ok (.iconst 0, 1) := by decide +kernel
theorem dX3_kindOf_18 : decode cX3_kindOf 18 = .ok (.ireturn, 1) := by decide +kernel
set_option maxRecDepth 20000 in
theorem ggX3_sizeOf_X3_hasBall : GoodIn wsX3_sizeOf wsX3_hasBall := goodIn_r _ [6, 7, 8, 9, 10, 11, 12, 13, 14, 15, 16, 17, 18, 19, 20, 21, 22, 23] (by decide +kernel) (by decide +kernel)
set_option maxRecDepth 20000 in
theorem gX3_sizeOf_X3_hasBall : GoodIn wsX3_sizeOf (wsV RX3 61 RX3 yX3_hasBall wsX3_hasBall) := goodIn_app (goodIn_of _ (by decide +kernel)) ggX3_sizeOf_X3_hasBall
theorem dX3_sizeOf_0 : decode cX3_sizeOf 0 = .ok (.aload_n 0, 1) := by decide +kernel
theorem dX3_sizeOf_1 : decode cX3_sizeOf 1 = .ok (.iload_n 1, 1) := by decide +kernel
theorem dX3_sizeOf_2 : decode cX3_sizeOf 2 = .ok (.invokevirtual 61, 3) := by decide +kernel
theorem dX3_sizeOf_5 : decode cX3_sizeOf 5 = .ok (.ifCond .eq 12, 3) := by decide +kernel
theorem dX3_sizeOf_8 : decode cX3_sizeOf 8 = .ok (.aload_n 0, 1) := by decide +kernel
theorem dX3_sizeOf_9 : decode cX3_sizeOf 9 = .ok (.getfield 55, 3) := by decide +kernel
theorem dX3_sizeOf_12 : decode cX3_sizeOf 12 = .ok (.iload_n 1, 1) := by decide +kernel
theorem dX3_sizeOf_13 : decode cX3_sizeOf 13 = .ok (.iaload, 1) := by decide +kernel
theorem dX3_sizeOf_14 : decode cX3_sizeOf 14 = .ok (.goto 4, 3) := by decide +kernel
theorem dX3_sizeOf_17 : decode cX3_sizeOf 17 = .ok (.iconst 0, 1) := by decide +kernel
theorem dX3_sizeOf_18 : decode cX3_sizeOf 18 = .ok (.ireturn, 1) := by decide +kernel
set_option maxRecDepth 20000 in
theorem ggX3_tightOf_X3_hasBall : GoodIn wsX3_tightOf wsX3_hasBall := goodIn_r _ [6, 7, 8, 9, 10, 11, 12, 13, 14, 15, 16, 17, 18, 19, 20, 21, 22, 23] (by decide +kernel) (by decide +kernel)
set_option maxRecDepth 20000 in
theorem gX3_tightOf_X3_hasBall : GoodIn wsX3_tightOf (wsV RX3 61 RX3 yX3_hasBall wsX3_hasBall) := goodIn_app (goodIn_of _ (by decide +kernel)) ggX3_tightOf_X3_hasBall
theorem dX3_tightOf_0 : decode cX3_tightOf 0 = .ok (.aload_n 0, 1) := by decide +kernel
theorem dX3_tightOf_1 : decode cX3_tightOf 1 = .ok (.iload_n 1, 1) := by decide +kernel
theorem dX3_tightOf_2 : decode cX3_tightOf 2 = .ok (.invokevirtual 61, 3) := by decide +kernel
theorem dX3_tightOf_5 : decode cX3_tightOf 5 = .ok (.ifCond .eq 12, 3) := by decide +kernel
theorem dX3_tightOf_8 : decode cX3_tightOf 8 = .ok (.aload_n 0, 1) := by decide +kernel
theorem dX3_tightOf_9 : decode cX3_tightOf 9 = .ok (.getfield 58, 3) := by decide +kernel
theorem dX3_tightOf_12 : decode cX3_tightOf 12 = .ok (.iload_n 1, 1) := by decide +kernel
theorem dX3_tightOf_13 : decode cX3_tightOf 13 = .ok (.iaload, 1) := by decide +kernel
theorem dX3_tightOf_14 : decode cX3_tightOf 14 = .ok (.goto 4, 3) := by decide +kernel
theorem dX3_tightOf_17 : decode cX3_tightOf 17 = .ok (.iconst 0, 1) := by decide +kernel
theorem dX3_tightOf_18 : decode cX3_tightOf 18 = .ok (.ireturn, 1) := by decide +kernel
set_option maxRecDepth 20000 in
theorem ggX3_setTight_X3_hasBall : GoodIn wsX3_setTight wsX3_hasBall := goodIn_r _ [6, 7, 8, 9, 10, 11, 12, 13, 14, 15, 16, 17, 18, 19, 20, 21, 22, 23] (by decide +kernel) (by decide +kernel)
set_option maxRecDepth 20000 in
theorem gX3_setTight_X3_hasBall : GoodIn wsX3_setTight (wsV RX3 61 RX3 yX3_hasBall wsX3_hasBall) := goodIn_app (goodIn_of _ (by decide +kernel)) ggX3_setTight_X3_hasBall
theorem dX3_setTight_0 : decode cX3_setTight 0 = .ok (.aload_n 0, 1) := by decide +kernel
theorem dX3_setTight_1 : decode cX3_setTight 1 = .ok (.iload_n 1, 1) := by decide +kernel
theorem dX3_setTight_2 : decode cX3_setTight 2 = .ok (.invokevirtual 61, 3) := by decide +kernel
theorem dX3_setTight_5 : decode cX3_setTight 5 = .ok (.ifCond .eq 10, 3) := by decide +kernel
theorem dX3_setTight_8 : decode cX3_setTight 8 = .ok (.aload_n 0, 1) := by decide +kernel
theorem dX3_setTight_9 : decode cX3_setTight 9 = .ok (.getfield 58, 3) := by decide +kernel
theorem dX3_setTight_12 : decode cX3_setTight 12 = .ok (.iload_n 1, 1) := by decide +kernel
theorem dX3_setTight_13 : decode cX3_setTight 13 = .ok (.iload_n 2, 1) := by decide +kernel
theorem dX3_setTight_14 : decode cX3_setTight 14 = .ok (.iastore, 1) := by decide +kernel
theorem dX3_setTight_15 : decode cX3_setTight 15 = .ok (.return_, 1) := by decide +kernel
set_option maxRecDepth 20000 in
theorem ggX3_dragOf_X3_sizeOf : GoodIn wsX3_dragOf wsX3_sizeOf := goodIn_r _ [9, 10, 11, 12, 13, 8, 14, 15, 26, 27, 28, 29, 30, 31, 32, 33, 34, 35, 36, 37, 38, 39, 40, 41] (by decide +kernel) (by decide +kernel)
set_option maxRecDepth 20000 in
theorem gX3_dragOf_X3_sizeOf : GoodIn wsX3_dragOf (wsV RX3 65 RX3 yX3_sizeOf wsX3_sizeOf) := goodIn_app (goodIn_of _ (by decide +kernel)) ggX3_dragOf_X3_sizeOf
set_option maxRecDepth 20000 in
theorem ggX3_dragOf_X3_tightOf : GoodIn wsX3_dragOf wsX3_tightOf := goodIn_r _ [19, 20, 11, 12, 13, 8, 14, 15, 26, 27, 28, 29, 30, 31, 32, 33, 34, 35, 36, 37, 38, 39, 40, 41] (by decide +kernel) (by decide +kernel)
set_option maxRecDepth 20000 in
theorem gX3_dragOf_X3_tightOf : GoodIn wsX3_dragOf (wsV RX3 69 RX3 yX3_tightOf wsX3_tightOf) := goodIn_app (goodIn_of _ (by decide +kernel)) ggX3_dragOf_X3_tightOf
set_option maxRecDepth 20000 in
theorem ggX3_dragOf_X3_kindOf : GoodIn wsX3_dragOf wsX3_kindOf := goodIn_r _ [24, 25, 11, 12, 13, 8, 14, 15, 26, 27, 28, 29, 30, 31, 32, 33, 34, 35, 36, 37, 38, 39, 40, 41] (by decide +kernel) (by decide +kernel)
set_option maxRecDepth 20000 in
theorem gX3_dragOf_X3_kindOf : GoodIn wsX3_dragOf (wsV RX3 78 RX3 yX3_kindOf wsX3_kindOf) := goodIn_app (goodIn_of _ (by decide +kernel)) ggX3_dragOf_X3_kindOf
theorem dX3_dragOf_0 : decode cX3_dragOf 0 = .ok (.iconst 0, 1) := by decide +kernel
theorem dX3_dragOf_1 : decode cX3_dragOf 1 = .ok (.aload_n 0, 1) := by decide +kernel
theorem dX3_dragOf_2 : decode cX3_dragOf 2 = .ok (.iload_n 1, 1) := by decide +kernel
theorem dX3_dragOf_3 : decode cX3_dragOf 3 = .ok (.invokevirtual 65, 3) := by decide +kernel
theorem dX3_dragOf_6 : decode cX3_dragOf 6 = .ok (.iconst 3, 1) := by decide +kernel
theorem dX3_dragOf_7 : decode cX3_dragOf 7 = .ok (.idiv, 1) := by decide +kernel
theorem dX3_dragOf_8 : decode cX3_dragOf 8 = .ok (.aload_n 0, 1) := by decide +kernel
theorem dX3_dragOf_9 : decode cX3_dragOf 9 = .ok (.iload_n 1, 1) := by decide +kernel
theorem dX3_dragOf_10 : decode cX3_dragOf 10 = .ok (.invokevirtual 69, 3) := by decide +kernel
theorem dX3_dragOf_13 : decode cX3_dragOf 13 = .ok (.iconst 4, 1) := by decide +kernel
theorem dX3_dragOf_14 : decode cX3_dragOf 14 = .ok (.idiv, 1) := by decide +kernel
theorem dX3_dragOf_15 : decode cX3_dragOf 15 = .ok (.isub, 1) := by decide +kernel
theorem dX3_dragOf_16 : decode cX3_dragOf 16 = .ok (.invokestatic 72, 3) := by decide +kernel
theorem dX3_dragOf_19 : decode cX3_dragOf 19 = .ok (.istore_n 2, 1) := by decide +kernel
theorem dX3_dragOf_20 : decode cX3_dragOf 20 = .ok (.aload_n 0, 1) := by decide +kernel
theorem dX3_dragOf_21 : decode cX3_dragOf 21 = .ok (.iload_n 1, 1) := by decide +kernel
theorem dX3_dragOf_22 : decode cX3_dragOf 22 = .ok (.invokevirtual 78, 3) := by decide +kernel
theorem dX3_dragOf_25 : decode cX3_dragOf 25 = .ok (.tableswitch 49 1 5 #[35, 47, 39, 43, 47], 35) := by decide +kernel
theorem dX3_dragOf_60 : decode cX3_dragOf 60 = .ok (.iload_n 2, 1) := by decide +kernel
theorem dX3_dragOf_61 : decode cX3_dragOf 61 = .ok (.iconst 2, 1) := by decide +kernel
theorem dX3_dragOf_62 : decode cX3_dragOf 62 = .ok (.idiv, 1) := by decide +kernel
theorem dX3_dragOf_63 : decode cX3_dragOf 63 = .ok (.ireturn, 1) := by decide +kernel
theorem dX3_dragOf_64 : decode cX3_dragOf 64 = .ok (.iload_n 2, 1) := by decide +kernel
theorem dX3_dragOf_65 : decode cX3_dragOf 65 = .ok (.iconst 1, 1) := by decide +kernel
theorem dX3_dragOf_66 : decode cX3_dragOf 66 = .ok (.iadd, 1) := by decide +kernel
theorem dX3_dragOf_67 : decode cX3_dragOf 67 = .ok (.ireturn, 1) := by decide +kernel
theorem dX3_dragOf_68 : decode cX3_dragOf 68 = .ok (.iload_n 2, 1) := by decide +kernel
theorem dX3_dragOf_69 : decode cX3_dragOf 69 = .ok (.iconst 2, 1) := by decide +kernel
theorem dX3_dragOf_70 : decode cX3_dragOf 70 = .ok (.iadd, 1) := by decide +kernel
theorem dX3_dragOf_71 : decode cX3_dragOf 71 = .ok (.ireturn, 1) := by decide +kernel
theorem dX3_dragOf_72 : decode cX3_dragOf 72 = .ok (.iconst 0, 1) := by decide +kernel
theorem dX3_dragOf_73 : decode cX3_dragOf 73 = .ok (.ireturn, 1) := by decide +kernel
theorem dX3_dragOf_74 : decode cX3_dragOf 74 = .ok (.iload_n 2, 1) := by decide +kernel
theorem dX3_dragOf_75 : decode cX3_dragOf 75 = .ok (.ireturn, 1) := by decide +kernel
set_option maxRecDepth 20000 in
theorem ggX3_fallOf_X3_kindOf : GoodIn wsX3_fallOf wsX3_kindOf := goodIn_r _ [5, 6, 7, 8, 9, 4, 10, 11, 12, 13, 14, 15, 16, 17, 18, 19, 20, 21, 22, 23, 24, 25, 26, 27] (by decide +kernel) (by decide +kernel)
set_option maxRecDepth 20000 in
theorem gX3_fallOf_X3_kindOf : GoodIn wsX3_fallOf (wsV RX3 78 RX3 yX3_kindOf wsX3_kindOf) := goodIn_app (goodIn_of _ (by decide +kernel)) ggX3_fallOf_X3_kindOf
theorem dX3_fallOf_0 : decode cX3_fallOf 0 = .ok (.aload_n 0, 1) := by decide +kernel
theorem dX3_fallOf_1 : decode cX3_fallOf 1 = .ok (.iload_n 1, 1) := by decide +kernel
theorem dX3_fallOf_2 : decode cX3_fallOf 2 = .ok (.invokevirtual 78, 3) := by decide +kernel
theorem dX3_fallOf_5 : decode cX3_fallOf 5 = .ok (.lookupswitch 31 #[(2, 27), (5, 29)], 27) := by decide +kernel
theorem dX3_fallOf_32 : decode cX3_fallOf 32 = .ok (.iconst 2, 1) := by decide +kernel
theorem dX3_fallOf_33 : decode cX3_fallOf 33 = .ok (.ireturn, 1) := by decide +kernel
theorem dX3_fallOf_34 : decode cX3_fallOf 34 = .ok (.iconst 3, 1) := by decide +kernel
theorem dX3_fallOf_35 : decode cX3_fallOf 35 = .ok (.ireturn, 1) := by decide +kernel
theorem dX3_fallOf_36 : decode cX3_fallOf 36 = .ok (.iconst 1, 1) := by decide +kernel
theorem dX3_fallOf_37 : decode cX3_fallOf 37 = .ok (.ireturn, 1) := by decide +kernel
set_option maxRecDepth 20000 in
theorem ggX3_fanOf_X3_kindOf : GoodIn wsX3_fanOf wsX3_kindOf := goodIn_r _ [6, 7, 8, 9, 10, 5, 11, 12, 13, 14, 15, 16, 17, 18, 19, 20, 21, 22, 23, 24, 25, 26, 27, 28] (by decide +kernel) (by decide +kernel)
set_option maxRecDepth 20000 in
theorem gX3_fanOf_X3_kindOf : GoodIn wsX3_fanOf (wsV RX3 78 RX3 yX3_kindOf wsX3_kindOf) := goodIn_app (goodIn_of _ (by decide +kernel)) ggX3_fanOf_X3_kindOf
theorem dX3_fanOf_0 : decode cX3_fanOf 0 = .ok (.aload_n 0, 1) := by decide +kernel
theorem dX3_fanOf_1 : decode cX3_fanOf 1 = .ok (.iload_n 1, 1) := by decide +kernel
theorem dX3_fanOf_2 : decode cX3_fanOf 2 = .ok (.invokevirtual 78, 3) := by decide +kernel
theorem dX3_fanOf_5 : decode cX3_fanOf 5 = .ok (.tableswitch 47 2 5 #[31, 38, 38, 45], 31) := by decide +kernel
theorem dX3_fanOf_36 : decode cX3_fanOf 36 = .ok (.aload_n 0, 1) := by decide +kernel
theorem dX3_fanOf_37 : decode cX3_fanOf 37 = .ok (.getfield 33, 3) := by decide +kernel
theorem dX3_fanOf_40 : decode cX3_fanOf 40 = .ok (.iconst 2, 1) := by decide +kernel
theorem dX3_fanOf_41 : decode cX3_fanOf 41 = .ok (.idiv, 1) := by decide +kernel
theorem dX3_fanOf_42 : decode cX3_fanOf 42 = .ok (.ireturn, 1) := by decide +kernel
theorem dX3_fanOf_43 : decode cX3_fanOf 43 = .ok (.iconst 2, 1) := by decide +kernel
theorem dX3_fanOf_44 : decode cX3_fanOf 44 = .ok (.aload_n 0, 1) := by decide +kernel
theorem dX3_fanOf_45 : decode cX3_fanOf 45 = .ok (.getfield 33, 3) := by decide +kernel
theorem dX3_fanOf_48 : decode cX3_fanOf 48 = .ok (.imul, 1) := by decide +kernel
theorem dX3_fanOf_49 : decode cX3_fanOf 49 = .ok (.ireturn, 1) := by decide +kernel
theorem dX3_fanOf_50 : decode cX3_fanOf 50 = .ok (.iconst 0, 1) := by decide +kernel
theorem dX3_fanOf_51 : decode cX3_fanOf 51 = .ok (.ireturn, 1) := by decide +kernel
theorem dX3_fanOf_52 : decode cX3_fanOf 52 = .ok (.aload_n 0, 1) := by decide +kernel
theorem dX3_fanOf_53 : decode cX3_fanOf 53 = .ok (.getfield 33, 3) := by decide +kernel
theorem dX3_fanOf_56 : decode cX3_fanOf 56 = .ok (.ireturn, 1) := by decide +kernel
theorem dX3_blowsIn_0 : decode cX3_blowsIn 0 = .ok (.aload_n 0, 1) := by decide +kernel
theorem dX3_blowsIn_1 : decode cX3_blowsIn 1 = .ok (.getfield 36, 3) := by decide +kernel
theorem dX3_blowsIn_4 : decode cX3_blowsIn 4 = .ok (.ifCond .le 16, 3) := by decide +kernel
theorem dX3_blowsIn_7 : decode cX3_blowsIn 7 = .ok (.iload_n 1, 1) := by decide +kernel
theorem dX3_blowsIn_8 : decode cX3_blowsIn 8 = .ok (.aload_n 0, 1) := by decide +kernel
theorem dX3_blowsIn_9 : decode cX3_blowsIn 9 = .ok (.getfield 36, 3) := by decide +kernel
theorem dX3_blowsIn_12 : decode cX3_blowsIn 12 = .ok (.irem, 1) := by decide +kernel
theorem dX3_blowsIn_13 : decode cX3_blowsIn 13 = .ok (.ifCond .ne 7, 3) := by decide +kernel
theorem dX3_blowsIn_16 : decode cX3_blowsIn 16 = .ok (.iconst 1, 1) := by decide +kernel
theorem dX3_blowsIn_17 : decode cX3_blowsIn 17 = .ok (.goto 4, 3) := by decide +kernel
theorem dX3_blowsIn_20 : decode cX3_blowsIn 20 = .ok (.iconst 0, 1) := by decide +kernel
theorem dX3_blowsIn_21 : decode cX3_blowsIn 21 = .ok (.ireturn, 1) := by decide +kernel
theorem dX3_isOverBin_0 : decode cX3_isOverBin 0 = .ok (.iload_n 1, 1) := by decide +kernel
theorem dX3_isOverBin_1 : decode cX3_isOverBin 1 = .ok (.aload_n 0, 1) := by decide +kernel
theorem dX3_isOverBin_2 : decode cX3_isOverBin 2 = .ok (.getfield 15, 3) := by decide +kernel
theorem dX3_isOverBin_5 : decode cX3_isOverBin 5 = .ok (.if_icmp .lt 20, 3) := by decide +kernel
theorem dX3_isOverBin_8 : decode cX3_isOverBin 8 = .ok (.iload_n 1, 1) := by decide +kernel
theorem dX3_isOverBin_9 : decode cX3_isOverBin 9 = .ok (.aload_n 0, 1) := by decide +kernel
theorem dX3_isOverBin_10 : decode cX3_isOverBin 10 = .ok (.getfield 15, 3) := by decide +kernel
theorem dX3_isOverBin_13 : decode cX3_isOverBin 13 = .ok (.aload_n 0, 1) := by decide +kernel
theorem dX3_isOverBin_14 : decode cX3_isOverBin 14 = .ok (.getfield 18, 3) := by decide +kernel
theorem dX3_isOverBin_17 : decode cX3_isOverBin 17 = .ok (.iadd, 1) := by decide +kernel
theorem dX3_isOverBin_18 : decode cX3_isOverBin 18 = .ok (.if_icmp .ge 7, 3) := by decide +kernel
theorem dX3_isOverBin_21 : decode cX3_isOverBin 21 = .ok (.iconst 1, 1) := by decide +kernel
theorem dX3_isOverBin_22 : decode cX3_isOverBin 22 = .ok (.goto 4, 3) := by decide +kernel
theorem dX3_isOverBin_25 : decode cX3_isOverBin 25 = .ok (.iconst 0, 1) := by decide +kernel
theorem dX3_isOverBin_26 : decode cX3_isOverBin 26 = .ok (.ireturn, 1) := by decide +kernel
theorem dX3_isBesideBin_0 : decode cX3_isBesideBin 0 = .ok (.iload_n 1, 1) := by decide +kernel
theorem dX3_isBesideBin_1 : decode cX3_isBesideBin 1 = .ok (.aload_n 0, 1) := by decide +kernel
theorem dX3_isBesideBin_2 : decode cX3_isBesideBin 2 = .ok (.getfield 15, 3) := by decide +kernel
theorem dX3_isBesideBin_5 : decode cX3_isBesideBin 5 = .ok (.iconst 1, 1) := by decide +kernel
theorem dX3_isBesideBin_6 : decode cX3_isBesideBin 6 = .ok (.isub, 1) := by decide +kernel
theorem dX3_isBesideBin_7 : decode cX3_isBesideBin 7 = .ok (.if_icmp .eq 16, 3) := by decide +kernel
theorem dX3_isBesideBin_10 : decode cX3_isBesideBin 10 = .ok (.iload_n 1, 1) := by decide +kernel
theorem dX3_isBesideBin_11 : decode cX3_isBesideBin 11 = .ok (.aload_n 0, 1) := by decide +kernel
theorem dX3_isBesideBin_12 : decode cX3_isBesideBin 12 = .ok (.getfield 15, 3) := by decide +kernel
theorem dX3_isBesideBin_15 : decode cX3_isBesideBin 15 = .ok (.aload_n 0, 1) := by decide +kernel
theorem dX3_isBesideBin_16 : decode cX3_isBesideBin 16 = .ok (.getfield 18, 3) := by decide +kernel
theorem dX3_isBesideBin_19 : decode cX3_isBesideBin 19 = .ok (.iadd, 1) := by decide +kernel
theorem dX3_isBesideBin_20 : decode cX3_isBesideBin 20 = .ok (.if_icmp .ne 7, 3) := by decide +kernel
theorem dX3_isBesideBin_23 : decode cX3_isBesideBin 23 = .ok (.iconst 1, 1) := by decide +kernel
theorem dX3_isBesideBin_24 : decode cX3_isBesideBin 24 = .ok (.goto 4, 3) := by decide +kernel
theorem dX3_isBesideBin_27 : decode cX3_isBesideBin 27 = .ok (.iconst 0, 1) := by decide +kernel
theorem dX3_isBesideBin_28 : decode cX3_isBesideBin 28 = .ok (.ireturn, 1) := by decide +kernel
theorem dX3_noteThrow_0 : decode cX3_noteThrow 0 = .ok (.aload_n 0, 1) := by decide +kernel
theorem dX3_noteThrow_1 : decode cX3_noteThrow 1 = .ok (.dup, 1) := by decide +kernel
theorem dX3_noteThrow_2 : decode cX3_noteThrow 2 = .ok (.getfield 39, 3) := by decide +kernel
theorem dX3_noteThrow_5 : decode cX3_noteThrow 5 = .ok (.iconst 1, 1) := by decide +kernel
theorem dX3_noteThrow_6 : decode cX3_noteThrow 6 = .ok (.iadd, 1) := by decide +kernel
theorem dX3_noteThrow_7 : decode cX3_noteThrow 7 = .ok (.putfield 39, 3) := by decide +kernel
theorem dX3_noteThrow_10 : decode cX3_noteThrow 10 = .ok (.aload_n 0, 1) := by decide +kernel
theorem dX3_noteThrow_11 : decode cX3_noteThrow 11 = .ok (.dup, 1) := by decide +kernel
theorem dX3_noteThrow_12 : decode cX3_noteThrow 12 = .ok (.getfield 45, 3) := by decide +kernel
theorem dX3_noteThrow_15 : decode cX3_noteThrow 15 = .ok (.iconst 1, 1) := by decide +kernel
theorem dX3_noteThrow_16 : decode cX3_noteThrow 16 = .ok (.iadd, 1) := by decide +kernel
theorem dX3_noteThrow_17 : decode cX3_noteThrow 17 = .ok (.putfield 45, 3) := by decide +kernel
theorem dX3_noteThrow_20 : decode cX3_noteThrow 20 = .ok (.iload_n 1, 1) := by decide +kernel
theorem dX3_noteThrow_21 : decode cX3_noteThrow 21 = .ok (.ifCond .ne 23, 3) := by decide +kernel
theorem dX3_noteThrow_24 : decode cX3_noteThrow 24 = .ok (.aload_n 0, 1) := by decide +kernel
theorem dX3_noteThrow_25 : decode cX3_noteThrow 25 = .ok (.dup, 1) := by decide +kernel
theorem dX3_noteThrow_26 : decode cX3_noteThrow 26 = .ok (.getfield 42, 3) := by decide +kernel
theorem dX3_noteThrow_29 : decode cX3_noteThrow 29 = .ok (.iconst 1, 1) := by decide +kernel
theorem dX3_noteThrow_30 : decode cX3_noteThrow 30 = .ok (.iadd, 1) := by decide +kernel
theorem dX3_noteThrow_31 : decode cX3_noteThrow 31 = .ok (.putfield 42, 3) := by decide +kernel
theorem dX3_noteThrow_34 : decode cX3_noteThrow 34 = .ok (.aload_n 0, 1) := by decide +kernel
theorem dX3_noteThrow_35 : decode cX3_noteThrow 35 = .ok (.dup, 1) := by decide +kernel
theorem dX3_noteThrow_36 : decode cX3_noteThrow 36 = .ok (.getfield 24, 3) := by decide +kernel
theorem dX3_noteThrow_39 : decode cX3_noteThrow 39 = .ok (.iconst 1, 1) := by decide +kernel
theorem dX3_noteThrow_40 : decode cX3_noteThrow 40 = .ok (.iadd, 1) := by decide +kernel
theorem dX3_noteThrow_41 : decode cX3_noteThrow 41 = .ok (.putfield 24, 3) := by decide +kernel
theorem dX3_noteThrow_44 : decode cX3_noteThrow 44 = .ok (.return_, 1) := by decide +kernel
set_option maxRecDepth 20000 in
theorem ggX3_setBin_X3_isWithin : GoodIn wsX3_setBin wsX3_isWithin := goodIn_r _ [8] (by decide +kernel) (by decide +kernel)
set_option maxRecDepth 20000 in
theorem gX3_setBin_X3_isWithin : GoodIn wsX3_setBin (va_wsS RX3 81 yX3_isWithin wsX3_isWithin) := goodIn_app (goodIn_of _ (by decide +kernel)) ggX3_setBin_X3_isWithin
theorem dX3_setBin_0 : decode cX3_setBin 0 = .ok (.iload_n 1, 1) := by decide +kernel
theorem dX3_setBin_1 : decode cX3_setBin 1 = .ok (.iconst 1, 1) := by decide +kernel
theorem dX3_setBin_2 : decode cX3_setBin 2 = .ok (.bipush 40, 2) := by decide +kernel
theorem dX3_setBin_4 : decode cX3_setBin 4 = .ok (.invokestatic 81, 3) := by decide +kernel
theorem dX3_setBin_7 : decode cX3_setBin 7 = .ok (.ifCond .eq 32, 3) := by decide +kernel
theorem dX3_setBin_10 : decode cX3_setBin 10 = .ok (.iload_n 2, 1) := by decide +kernel
theorem dX3_setBin_11 : decode cX3_setBin 11 = .ok (.iconst 1, 1) := by decide +kernel
theorem dX3_setBin_12 : decode cX3_setBin 12 = .ok (.iconst 5, 1) := by decide +kernel
theorem dX3_setBin_13 : decode cX3_setBin 13 = .ok (.invokestatic 81, 3) := by decide +kernel
theorem dX3_setBin_16 : decode cX3_setBin 16 = .ok (.ifCond .eq 23, 3) := by decide +kernel
theorem dX3_setBin_19 : decode cX3_setBin 19 = .ok (.iload_n 3, 1) := by decide +kernel
theorem dX3_setBin_20 : decode cX3_setBin 20 = .ok (.iconst 1, 1) := by decide +kernel
theorem dX3_setBin_21 : decode cX3_setBin 21 = .ok (.bipush 9, 2) := by decide +kernel
theorem dX3_setBin_23 : decode cX3_setBin 23 = .ok (.invokestatic 81, 3) := by decide +kernel
theorem dX3_setBin_26 : decode cX3_setBin 26 = .ok (.ifCond .eq 13, 3) := by decide +kernel
theorem dX3_setBin_29 : decode cX3_setBin 29 = .ok (.aload_n 0, 1) := by decide +kernel
theorem dX3_setBin_30 : decode cX3_setBin 30 = .ok (.getfield 27, 3) := by decide +kernel
theorem dX3_setBin_33 : decode cX3_setBin 33 = .ok (.iload_n 1, 1) := by decide +kernel
theorem dX3_setBin_34 : decode cX3_setBin 34 = .ok (.iload_n 2, 1) := by decide +kernel
theorem dX3_setBin_35 : decode cX3_setBin 35 = .ok (.iadd, 1) := by decide +kernel
theorem dX3_setBin_36 : decode cX3_setBin 36 = .ok (.if_icmp .ge 5, 3) := by decide +kernel
theorem dX3_setBin_39 : decode cX3_setBin 39 = .ok (.iconst 0, 1) := by decide +kernel
theorem dX3_setBin_40 : decode cX3_setBin 40 = .ok (.ireturn, 1) := by decide +kernel
theorem dX3_setBin_41 : decode cX3_setBin 41 = .ok (.aload_n 0, 1) := by decide +kernel
theorem dX3_setBin_42 : decode cX3_setBin 42 = .ok (.iload_n 1, 1) := by decide +kernel
theorem dX3_setBin_43 : decode cX3_setBin 43 = .ok (.putfield 15, 3) := by decide +kernel
theorem dX3_setBin_46 : decode cX3_setBin 46 = .ok (.aload_n 0, 1) := by decide +kernel
theorem dX3_setBin_47 : decode cX3_setBin 47 = .ok (.iload_n 2, 1) := by decide +kernel
theorem dX3_setBin_48 : decode cX3_setBin 48 = .ok (.putfield 18, 3) := by decide +kernel
theorem dX3_setBin_51 : decode cX3_setBin 51 = .ok (.aload_n 0, 1) := by decide +kernel
theorem dX3_setBin_52 : decode cX3_setBin 52 = .ok (.iload_n 3, 1) := by decide +kernel
theorem dX3_setBin_53 : decode cX3_setBin 53 = .ok (.putfield 21, 3) := by decide +kernel
theorem dX3_setBin_56 : decode cX3_setBin 56 = .ok (.iconst 1, 1) := by decide +kernel
theorem dX3_setBin_57 : decode cX3_setBin 57 = .ok (.ireturn, 1) := by decide +kernel
set_option maxRecDepth 20000 in
theorem ggX3_setWall_X3_isWithin : GoodIn wsX3_setWall wsX3_isWithin := goodIn_r _ [7] (by decide +kernel) (by decide +kernel)
set_option maxRecDepth 20000 in
theorem gX3_setWall_X3_isWithin : GoodIn wsX3_setWall (va_wsS RX3 81 yX3_isWithin wsX3_isWithin) := goodIn_app (goodIn_of _ (by decide +kernel)) ggX3_setWall_X3_isWithin
theorem dX3_setWall_0 : decode cX3_setWall 0 = .ok (.iload_n 1, 1) := by decide +kernel
theorem dX3_setWall_1 : decode cX3_setWall 1 = .ok (.iconst 5, 1) := by decide +kernel
theorem dX3_setWall_2 : decode cX3_setWall 2 = .ok (.bipush 60, 2) := by decide +kernel
theorem dX3_setWall_4 : decode cX3_setWall 4 = .ok (.invokestatic 81, 3) := by decide +kernel
theorem dX3_setWall_7 : decode cX3_setWall 7 = .ok (.ifCond .eq 16, 3) := by decide +kernel
theorem dX3_setWall_10 : decode cX3_setWall 10 = .ok (.iload_n 1, 1) := by decide +kernel
theorem dX3_setWall_11 : decode cX3_setWall 11 = .ok (.aload_n 0, 1) := by decide +kernel
theorem dX3_setWall_12 : decode cX3_setWall 12 = .ok (.getfield 15, 3) := by decide +kernel
theorem dX3_setWall_15 : decode cX3_setWall 15 = .ok (.aload_n 0, 1) := by decide +kernel
theorem dX3_setWall_16 : decode cX3_setWall 16 = .ok (.getfield 18, 3) := by decide +kernel
theorem dX3_setWall_19 : decode cX3_setWall 19 = .ok (.iadd, 1) := by decide +kernel
theorem dX3_setWall_20 : decode cX3_setWall 20 = .ok (.if_icmp .ge 5, 3) := by decide +kernel
theorem dX3_setWall_23 : decode cX3_setWall 23 = .ok (.iconst 0, 1) := by decide +kernel
theorem dX3_setWall_24 : decode cX3_setWall 24 = .ok (.ireturn, 1) := by decide +kernel
theorem dX3_setWall_25 : decode cX3_setWall 25 = .ok (.aload_n 0, 1) := by decide +kernel
theorem dX3_setWall_26 : decode cX3_setWall 26 = .ok (.iload_n 1, 1) := by decide +kernel
theorem dX3_setWall_27 : decode cX3_setWall 27 = .ok (.putfield 27, 3) := by decide +kernel
theorem dX3_setWall_30 : decode cX3_setWall 30 = .ok (.iconst 1, 1) := by decide +kernel
theorem dX3_setWall_31 : decode cX3_setWall 31 = .ok (.ireturn, 1) := by decide +kernel
set_option maxRecDepth 20000 in
theorem ggX3_setCeiling_X3_isWithin : GoodIn wsX3_setCeiling wsX3_isWithin := goodIn_r _ [5] (by decide +kernel) (by decide +kernel)
set_option maxRecDepth 20000 in
theorem gX3_setCeiling_X3_isWithin : GoodIn wsX3_setCeiling (va_wsS RX3 81 yX3_isWithin wsX3_isWithin) := goodIn_app (goodIn_of _ (by decide +kernel)) ggX3_setCeiling_X3_isWithin
theorem dX3_setCeiling_0 : decode cX3_setCeiling 0 = .ok (.iload_n 1, 1) := by decide +kernel
theorem dX3_setCeiling_1 : decode cX3_setCeiling 1 = .ok (.bipush 10, 2) := by decide +kernel
theorem dX3_setCeiling_3 : decode cX3_setCeiling 3 = .ok (.bipush 60, 2) := by decide +kernel
theorem dX3_setCeiling_5 : decode cX3_setCeiling 5 = .ok (.invokestatic 81, 3) := by decide +kernel
theorem dX3_setCeiling_8 : decode cX3_setCeiling 8 = .ok (.ifCond .ne 5, 3) := by decide +kernel
theorem dX3_setCeiling_11 : decode cX3_setCeiling 11 = .ok (.iconst 0, 1) := by decide +kernel
theorem dX3_setCeiling_12 : decode cX3_setCeiling 12 = .ok (.ireturn, 1) := by decide +kernel
theorem dX3_setCeiling_13 : decode cX3_setCeiling 13 = .ok (.aload_n 0, 1) := by decide +kernel
theorem dX3_setCeiling_14 : decode cX3_setCeiling 14 = .ok (.iload_n 1, 1) := by decide +kernel
theorem dX3_setCeiling_15 : decode cX3_setCeiling 15 = .ok (.putfield 30, 3) := by decide +kernel
theorem dX3_setCeiling_18 : decode cX3_setCeiling 18 = .ok (.iconst 1, 1) := by decide +kernel
theorem dX3_setCeiling_19 : decode cX3_setCeiling 19 = .ok (.ireturn, 1) := by decide +kernel
set_option maxRecDepth 20000 in
theorem ggX3_setHand_X3_isWithin : GoodIn wsX3_setHand wsX3_isWithin := goodIn_r _ [5] (by decide +kernel) (by decide +kernel)
set_option maxRecDepth 20000 in
theorem gX3_setHand_X3_isWithin : GoodIn wsX3_setHand (va_wsS RX3 81 yX3_isWithin wsX3_isWithin) := goodIn_app (goodIn_of _ (by decide +kernel)) ggX3_setHand_X3_isWithin
theorem dX3_setHand_0 : decode cX3_setHand 0 = .ok (.iload_n 1, 1) := by decide +kernel
theorem dX3_setHand_1 : decode cX3_setHand 1 = .ok (.iconst 0, 1) := by decide +kernel
theorem dX3_setHand_2 : decode cX3_setHand 2 = .ok (.bipush 9, 2) := by decide +kernel
theorem dX3_setHand_4 : decode cX3_setHand 4 = .ok (.invokestatic 81, 3) := by decide +kernel
theorem dX3_setHand_7 : decode cX3_setHand 7 = .ok (.ifCond .ne 5, 3) := by decide +kernel
theorem dX3_setHand_10 : decode cX3_setHand 10 = .ok (.iconst 0, 1) := by decide +kernel
theorem dX3_setHand_11 : decode cX3_setHand 11 = .ok (.ireturn, 1) := by decide +kernel
theorem dX3_setHand_12 : decode cX3_setHand 12 = .ok (.aload_n 0, 1) := by decide +kernel
theorem dX3_setHand_13 : decode cX3_setHand 13 = .ok (.iload_n 1, 1) := by decide +kernel
theorem dX3_setHand_14 : decode cX3_setHand 14 = .ok (.putfield 9, 3) := by decide +kernel
theorem dX3_setHand_17 : decode cX3_setHand 17 = .ok (.iconst 1, 1) := by decide +kernel
theorem dX3_setHand_18 : decode cX3_setHand 18 = .ok (.ireturn, 1) := by decide +kernel
set_option maxRecDepth 20000 in
theorem ggX3_setFan_X3_isWithin : GoodIn wsX3_setFan wsX3_isWithin := goodIn_r _ [6] (by decide +kernel) (by decide +kernel)
set_option maxRecDepth 20000 in
theorem gX3_setFan_X3_isWithin : GoodIn wsX3_setFan (va_wsS RX3 81 yX3_isWithin wsX3_isWithin) := goodIn_app (goodIn_of _ (by decide +kernel)) ggX3_setFan_X3_isWithin
theorem dX3_setFan_0 : decode cX3_setFan 0 = .ok (.iload_n 1, 1) := by decide +kernel
theorem dX3_setFan_1 : decode cX3_setFan 1 = .ok (.bipush (-3), 2) := by decide +kernel
theorem dX3_setFan_3 : decode cX3_setFan 3 = .ok (.iconst 3, 1) := by decide +kernel
theorem dX3_setFan_4 : decode cX3_setFan 4 = .ok (.invokestatic 81, 3) := by decide +kernel
theorem dX3_setFan_7 : decode cX3_setFan 7 = .ok (.ifCond .eq 13, 3) := by decide +kernel
theorem dX3_setFan_10 : decode cX3_setFan 10 = .ok (.iload_n 2, 1) := by decide +kernel
theorem dX3_setFan_11 : decode cX3_setFan 11 = .ok (.iconst 1, 1) := by decide +kernel
theorem dX3_setFan_12 : decode cX3_setFan 12 = .ok (.bipush 9, 2) := by decide +kernel
theorem dX3_setFan_14 : decode cX3_setFan 14 = .ok (.invokestatic 81, 3) := by decide +kernel
theorem dX3_setFan_17 : decode cX3_setFan 17 = .ok (.ifCond .ne 5, 3) := by decide +kernel
theorem dX3_setFan_20 : decode cX3_setFan 20 = .ok (.iconst 0, 1) := by decide +kernel
theorem dX3_setFan_21 : decode cX3_setFan 21 = .ok (.ireturn, 1) := by decide +kernel
theorem dX3_setFan_22 : decode cX3_setFan 22 = .ok (.aload_n 0, 1) := by decide +kernel
theorem dX3_setFan_23 : decode cX3_setFan 23 = .ok (.iload_n 1, 1) := by decide +kernel
theorem dX3_setFan_24 : decode cX3_setFan 24 = .ok (.putfield 33, 3) := by decide +kernel
theorem dX3_setFan_27 : decode cX3_setFan 27 = .ok (.aload_n 0, 1) := by decide +kernel
theorem dX3_setFan_28 : decode cX3_setFan 28 = .ok (.iload_n 2, 1) := by decide +kernel
theorem dX3_setFan_29 : decode cX3_setFan 29 = .ok (.putfield 36, 3) := by decide +kernel
theorem dX3_setFan_32 : decode cX3_setFan 32 = .ok (.iconst 1, 1) := by decide +kernel
theorem dX3_setFan_33 : decode cX3_setFan 33 = .ok (.ireturn, 1) := by decide +kernel
set_option maxRecDepth 20000 in
theorem ggX3_setFill_X3_isWithin : GoodIn wsX3_setFill wsX3_isWithin := goodIn_r _ [5] (by decide +kernel) (by decide +kernel)
set_option maxRecDepth 20000 in
theorem gX3_setFill_X3_isWithin : GoodIn wsX3_setFill (va_wsS RX3 81 yX3_isWithin wsX3_isWithin) := goodIn_app (goodIn_of _ (by decide +kernel)) ggX3_setFill_X3_isWithin
theorem dX3_setFill_0 : decode cX3_setFill 0 = .ok (.iload_n 1, 1) := by decide +kernel
theorem dX3_setFill_1 : decode cX3_setFill 1 = .ok (.iconst 0, 1) := by decide +kernel
theorem dX3_setFill_2 : decode cX3_setFill 2 = .ok (.bipush 9, 2) := by decide +kernel
theorem dX3_setFill_4 : decode cX3_setFill 4 = .ok (.invokestatic 81, 3) := by decide +kernel
theorem dX3_setFill_7 : decode cX3_setFill 7 = .ok (.ifCond .ne 5, 3) := by decide +kernel
theorem dX3_setFill_10 : decode cX3_setFill 10 = .ok (.iconst 0, 1) := by decide +kernel
theorem dX3_setFill_11 : decode cX3_setFill 11 = .ok (.ireturn, 1) := by decide +kernel
theorem dX3_setFill_12 : decode cX3_setFill 12 = .ok (.aload_n 0, 1) := by decide +kernel
theorem dX3_setFill_13 : decode cX3_setFill 13 = .ok (.iload_n 1, 1) := by decide +kernel
theorem dX3_setFill_14 : decode cX3_setFill 14 = .ok (.putfield 24, 3) := by decide +kernel
theorem dX3_setFill_17 : decode cX3_setFill 17 = .ok (.iconst 1, 1) := by decide +kernel
theorem dX3_setFill_18 : decode cX3_setFill 18 = .ok (.ireturn, 1) := by decide +kernel
set_option maxRecDepth 20000 in
theorem ggX3_addBall_X3_isWithin : GoodIn wsX3_addBall wsX3_isWithin := goodIn_r _ [8] (by decide +kernel) (by decide +kernel)
set_option maxRecDepth 20000 in
theorem gX3_addBall_X3_isWithin : GoodIn wsX3_addBall (va_wsS RX3 81 yX3_isWithin wsX3_isWithin) := goodIn_app (goodIn_of _ (by decide +kernel)) ggX3_addBall_X3_isWithin
theorem dX3_addBall_0 : decode cX3_addBall 0 = .ok (.aload_n 0, 1) := by decide +kernel
theorem dX3_addBall_1 : decode cX3_addBall 1 = .ok (.getfield 48, 3) := by decide +kernel
theorem dX3_addBall_4 : decode cX3_addBall 4 = .ok (.ifCond .lt 31, 3) := by decide +kernel
theorem dX3_addBall_7 : decode cX3_addBall 7 = .ok (.aload_n 0, 1) := by decide +kernel
theorem dX3_addBall_8 : decode cX3_addBall 8 = .ok (.getfield 48, 3) := by decide +kernel
theorem dX3_addBall_11 : decode cX3_addBall 11 = .ok (.iconst 5, 1) := by decide +kernel
theorem dX3_addBall_12 : decode cX3_addBall 12 = .ok (.if_icmp .ge 23, 3) := by decide +kernel
theorem dX3_addBall_15 : decode cX3_addBall 15 = .ok (.iload_n 2, 1) := by decide +kernel
theorem dX3_addBall_16 : decode cX3_addBall 16 = .ok (.iconst 1, 1) := by decide +kernel
theorem dX3_addBall_17 : decode cX3_addBall 17 = .ok (.bipush 9, 2) := by decide +kernel
theorem dX3_addBall_19 : decode cX3_addBall 19 = .ok (.invokestatic 81, 3) := by decide +kernel
theorem dX3_addBall_22 : decode cX3_addBall 22 = .ok (.ifCond .eq 13, 3) := by decide +kernel
theorem dX3_addBall_25 : decode cX3_addBall 25 = .ok (.iload_n 3, 1) := by decide +kernel
theorem dX3_addBall_26 : decode cX3_addBall 26 = .ok (.iconst 0, 1) := by decide +kernel
theorem dX3_addBall_27 : decode cX3_addBall 27 = .ok (.bipush 9, 2) := by decide +kernel
theorem dX3_addBall_29 : decode cX3_addBall 29 = .ok (.invokestatic 81, 3) := by decide +kernel
theorem dX3_addBall_32 : decode cX3_addBall 32 = .ok (.ifCond .ne 5, 3) := by decide +kernel
theorem dX3_addBall_35 : decode cX3_addBall 35 = .ok (.iconst 0, 1) := by decide +kernel
theorem dX3_addBall_36 : decode cX3_addBall 36 = .ok (.ireturn, 1) := by decide +kernel
theorem dX3_addBall_37 : decode cX3_addBall 37 = .ok (.aload_n 0, 1) := by decide +kernel
theorem dX3_addBall_38 : decode cX3_addBall 38 = .ok (.getfield 51, 3) := by decide +kernel
theorem dX3_addBall_41 : decode cX3_addBall 41 = .ok (.aload_n 0, 1) := by decide +kernel
theorem dX3_addBall_42 : decode cX3_addBall 42 = .ok (.getfield 48, 3) := by decide +kernel
theorem dX3_addBall_45 : decode cX3_addBall 45 = .ok (.iload_n 1, 1) := by decide +kernel
theorem dX3_addBall_46 : decode cX3_addBall 46 = .ok (.iastore, 1) := by decide +kernel
theorem dX3_addBall_47 : decode cX3_addBall 47 = .ok (.aload_n 0, 1) := by decide +kernel
theorem dX3_addBall_48 : decode cX3_addBall 48 = .ok (.getfield 55, 3) := by decide +kernel
theorem dX3_addBall_51 : decode cX3_addBall 51 = .ok (.aload_n 0, 1) := by decide +kernel
theorem dX3_addBall_52 : decode cX3_addBall 52 = .ok (.getfield 48, 3) := by decide +kernel
theorem dX3_addBall_55 : decode cX3_addBall 55 = .ok (.iload_n 2, 1) := by decide +kernel
theorem dX3_addBall_56 : decode cX3_addBall 56 = .ok (.iastore, 1) := by decide +kernel
theorem dX3_addBall_57 : decode cX3_addBall 57 = .ok (.aload_n 0, 1) := by decide +kernel
theorem dX3_addBall_58 : decode cX3_addBall 58 = .ok (.getfield 58, 3) := by decide +kernel
theorem dX3_addBall_61 : decode cX3_addBall 61 = .ok (.aload_n 0, 1) := by decide +kernel
theorem dX3_addBall_62 : decode cX3_addBall 62 = .ok (.getfield 48, 3) := by decide +kernel
theorem dX3_addBall_65 : decode cX3_addBall 65 = .ok (.iload_n 3, 1) := by decide +kernel
theorem dX3_addBall_66 : decode cX3_addBall 66 = .ok (.iastore, 1) := by decide +kernel
theorem dX3_addBall_67 : decode cX3_addBall 67 = .ok (.aload_n 0, 1) := by decide +kernel
theorem dX3_addBall_68 : decode cX3_addBall 68 = .ok (.dup, 1) := by decide +kernel
theorem dX3_addBall_69 : decode cX3_addBall 69 = .ok (.getfield 48, 3) := by decide +kernel
theorem dX3_addBall_72 : decode cX3_addBall 72 = .ok (.iconst 1, 1) := by decide +kernel
theorem dX3_addBall_73 : decode cX3_addBall 73 = .ok (.iadd, 1) := by decide +kernel
theorem dX3_addBall_74 : decode cX3_addBall 74 = .ok (.putfield 48, 3) := by decide +kernel
theorem dX3_addBall_77 : decode cX3_addBall 77 = .ok (.iconst 1, 1) := by decide +kernel
theorem dX3_addBall_78 : decode cX3_addBall 78 = .ok (.ireturn, 1) := by decide +kernel
theorem dX3_isWithin_0 : decode cX3_isWithin 0 = .ok (.iload_n 0, 1) := by decide +kernel
theorem dX3_isWithin_1 : decode cX3_isWithin 1 = .ok (.iload_n 1, 1) := by decide +kernel
theorem dX3_isWithin_2 : decode cX3_isWithin 2 = .ok (.if_icmp .lt 12, 3) := by decide +kernel
theorem dX3_isWithin_5 : decode cX3_isWithin 5 = .ok (.iload_n 0, 1) := by decide +kernel
theorem dX3_isWithin_6 : decode cX3_isWithin 6 = .ok (.iload_n 2, 1) := by decide +kernel
theorem dX3_isWithin_7 : decode cX3_isWithin 7 = .ok (.if_icmp .gt 7, 3) := by decide +kernel
theorem dX3_isWithin_10 : decode cX3_isWithin 10 = .ok (.iconst 1, 1) := by decide +kernel
theorem dX3_isWithin_11 : decode cX3_isWithin 11 = .ok (.goto 4, 3) := by decide +kernel
theorem dX3_isWithin_14 : decode cX3_isWithin 14 = .ok (.iconst 0, 1) := by decide +kernel
theorem dX3_isWithin_15 : decode cX3_isWithin 15 = .ok (.ireturn, 1) := by decide +kernel
theorem dX4_init_0 : decode cX4_init 0 = .ok (.aload_n 0, 1) := by decide +kernel
theorem dX4_init_1 : decode cX4_init 1 = .ok (.invokespecial 3, 3) := by decide +kernel
theorem dX4_init_4 : decode cX4_init 4 = .ok (.aload_n 0, 1) := by decide +kernel
theorem dX4_init_5 : decode cX4_init 5 = .ok (.bipush 80, 2) := by decide +kernel
theorem dX4_init_7 : decode cX4_init 7 = .ok (.newarray .int, 2) := by decide +kernel
theorem dX4_init_9 : decode cX4_init 9 = .ok (.putfield 9, 3) := by decide +kernel
theorem dX4_init_12 : decode cX4_init 12 = .ok (.return_, 1) := by decide +kernel
theorem dX4_hasRoom_0 : decode cX4_hasRoom 0 = .ok (.aload_n 0, 1) := by decide +kernel
theorem dX4_hasRoom_1 : decode cX4_hasRoom 1 = .ok (.getfield 15, 3) := by decide +kernel
theorem dX4_hasRoom_4 : decode cX4_hasRoom 4 = .ok (.bipush 80, 2) := by decide +kernel
theorem dX4_hasRoom_6 : decode cX4_hasRoom 6 = .ok (.if_icmp .ge 7, 3) := by decide +kernel
theorem dX4_hasRoom_9 : decode cX4_hasRoom 9 = .ok (.iconst 1, 1) := by decide +kernel
theorem dX4_hasRoom_10 : decode cX4_hasRoom 10 = .ok (.goto 4, 3) := by decide +kernel
theorem dX4_hasRoom_13 : decode cX4_hasRoom 13 = .ok (.iconst 0, 1) := by decide +kernel
theorem dX4_hasRoom_14 : decode cX4_hasRoom 14 = .ok (.ireturn, 1) := by decide +kernel
theorem dX4_add_0 : decode cX4_add 0 = .ok (.aload_n 0, 1) := by decide +kernel
theorem dX4_add_1 : decode cX4_add 1 = .ok (.getfield 15, 3) := by decide +kernel
theorem dX4_add_4 : decode cX4_add 4 = .ok (.ifCond .lt 32, 3) := by decide +kernel
theorem dX4_add_7 : decode cX4_add 7 = .ok (.aload_n 0, 1) := by decide +kernel
theorem dX4_add_8 : decode cX4_add 8 = .ok (.getfield 15, 3) := by decide +kernel
theorem dX4_add_11 : decode cX4_add 11 = .ok (.bipush 80, 2) := by decide +kernel
theorem dX4_add_13 : decode cX4_add 13 = .ok (.if_icmp .ge 23, 3) := by decide +kernel
theorem dX4_add_16 : decode cX4_add 16 = .ok (.aload_n 0, 1) := by decide +kernel
theorem dX4_add_17 : decode cX4_add 17 = .ok (.getfield 9, 3) := by decide +kernel
theorem dX4_add_20 : decode cX4_add 20 = .ok (.aload_n 0, 1) := by decide +kernel
theorem dX4_add_21 : decode cX4_add 21 = .ok (.getfield 15, 3) := by decide +kernel
theorem dX4_add_24 : decode cX4_add 24 = .ok (.iload_n 1, 1) := by decide +kernel
theorem dX4_add_25 : decode cX4_add 25 = .ok (.iastore, 1) := by decide +kernel
theorem dX4_add_26 : decode cX4_add 26 = .ok (.aload_n 0, 1) := by decide +kernel
theorem dX4_add_27 : decode cX4_add 27 = .ok (.dup, 1) := by decide +kernel
theorem dX4_add_28 : decode cX4_add 28 = .ok (.getfield 15, 3) := by decide +kernel
theorem dX4_add_31 : decode cX4_add 31 = .ok (.iconst 1, 1) := by decide +kernel
theorem dX4_add_32 : decode cX4_add 32 = .ok (.iadd, 1) := by decide +kernel
theorem dX4_add_33 : decode cX4_add 33 = .ok (.putfield 15, 3) := by decide +kernel
theorem dX4_add_36 : decode cX4_add 36 = .ok (.aload_n 0, 1) := by decide +kernel
theorem dX4_add_37 : decode cX4_add 37 = .ok (.getfield 15, 3) := by decide +kernel
theorem dX4_add_40 : decode cX4_add 40 = .ok (.ireturn, 1) := by decide +kernel
theorem dX4_clear_0 : decode cX4_clear 0 = .ok (.aload_n 0, 1) := by decide +kernel
theorem dX4_clear_1 : decode cX4_clear 1 = .ok (.iconst 0, 1) := by decide +kernel
theorem dX4_clear_2 : decode cX4_clear 2 = .ok (.putfield 15, 3) := by decide +kernel
theorem dX4_clear_5 : decode cX4_clear 5 = .ok (.return_, 1) := by decide +kernel
set_option maxRecDepth 20000 in
theorem ggX4_tell_X4_countStatements : GoodIn wsX4_tell wsX4_countStatements := goodIn_r _ [6, 1, 7, 8, 9, 10, 5, 11, 12, 13, 14, 15, 16, 17, 18, 19, 20, 21, 22, 23, 24, 25, 26, 27, 28, 29, 30, 31, 32, 33, 34, 35, 36, 37, 38, 39, 40, 41, 42, 43, 44, 45, 46, 47, 48, 49, 50, 51, 94, 95, 96, 97, 98, 99, 100] (by decide +kernel) (by decide +kernel)
set_option maxRecDepth 20000 in
theorem gX4_tell_X4_countStatements : GoodIn wsX4_tell (wsV RX4 19 RX4 yX4_countStatements wsX4_countStatements) := goodIn_app (goodIn_of _ (by decide +kernel)) ggX4_tell_X4_countStatements
set_option maxRecDepth 20000 in
theorem ggX4_tell_X4_readStatement : GoodIn wsX4_tell wsX4_readStatement := goodIn_r _ [11, 12, 1, 13, 14, 15, 5, 16, 7, 17, 18, 19, 20, 21, 22, 23, 24, 25, 26, 27, 28, 29, 30, 31, 32, 33, 34, 35, 36, 37, 38, 39, 40, 41, 42, 43, 44, 45, 46, 47, 48, 49, 50, 51, 94, 95, 96, 97, 98, 99, 100] (by decide +kernel) (by decide +kernel)
set_option maxRecDepth 20000 in
theorem gX4_tell_X4_readStatement : GoodIn wsX4_tell (wsV RX4 26 RX4 yX4_readStatement wsX4_readStatement) := goodIn_app (goodIn_of _ (by decide +kernel)) ggX4_tell_X4_readStatement
set_option maxRecDepth 20000 in
theorem ggX4_tell_X4_tellStatement : GoodIn wsX4_tell wsX4_tellStatement := goodIn_r _ [55, 12, 22, 39, 40, 56, 57, 58, 59, 60, 61, 62, 63, 64, 65, 66, 67, 68, 69, 70, 71, 72, 73, 74, 75, 76, 77, 78, 79, 80, 81, 82, 83, 84, 85, 86, 87, 88, 89, 90, 91, 92, 93, 94, 95, 96, 97, 98, 99, 100, 101, 102, 103, 104, 105, 106, 107, 108, 109, 110, 111, 112, 113, 114, 115, 116] (by decide +kernel) (by decide +kernel)
set_option maxRecDepth 20000 in
theorem gX4_tell_X4_tellStatement : GoodIn wsX4_tell (wsV RX4 30 RX4 yX4_tellStatement wsX4_tellStatement) := goodIn_app (goodIn_of _ (by decide +kernel)) ggX4_tell_X4_tellStatement
theorem dX4_tell_0 : decode cX4_tell 0 = .ok (.aload_n 0, 1) := by decide +kernel
theorem dX4_tell_1 : decode cX4_tell 1 = .ok (.invokevirtual 19, 3) := by decide +kernel
theorem dX4_tell_4 : decode cX4_tell 4 = .ok (.istore_n 2, 1) := by decide +kernel
theorem dX4_tell_5 : decode cX4_tell 5 = .ok (.iload_n 2, 1) := by decide +kernel
theorem dX4_tell_6 : decode cX4_tell 6 = .ok (.ifCond .gt 12, 3) := by decide +kernel
theorem dX4_tell_9 : decode cX4_tell 9 = .ok (.sipush (-1000), 3) := by decide +kernel
theorem dX4_tell_12 : decode cX4_tell 12 = .ok (.aload_n 0, 1) := by decide +kernel
theorem dX4_tell_13 : decode cX4_tell 13 = .ok (.getfield 23, 3) := by decide +kernel
theorem dX4_tell_16 : decode cX4_tell 16 = .ok (.isub, 1) := by decide +kernel
theorem dX4_tell_17 : decode cX4_tell 17 = .ok (.ireturn, 1) := by decide +kernel
theorem dX4_tell_18 : decode cX4_tell 18 = .ok (.aload_n 0, 1) := by decide +kernel
theorem dX4_tell_19 : decode cX4_tell 19 = .ok (.iconst 0, 1) := by decide +kernel
theorem dX4_tell_20 : decode cX4_tell 20 = .ok (.putfield 23, 3) := by decide +kernel
theorem dX4_tell_23 : decode cX4_tell 23 = .ok (.iconst 0, 1) := by decide +kernel
theorem dX4_tell_24 : decode cX4_tell 24 = .ok (.istore_n 3, 1) := by decide +kernel
theorem dX4_tell_25 : decode cX4_tell 25 = .ok (.iload_n 3, 1) := by decide +kernel
theorem dX4_tell_26 : decode cX4_tell 26 = .ok (.iload_n 2, 1) := by decide +kernel
theorem dX4_tell_27 : decode cX4_tell 27 = .ok (.if_icmp .ge 37, 3) := by decide +kernel
theorem dX4_tell_30 : decode cX4_tell 30 = .ok (.aload_n 0, 1) := by decide +kernel
theorem dX4_tell_31 : decode cX4_tell 31 = .ok (.getfield 23, 3) := by decide +kernel
theorem dX4_tell_34 : decode cX4_tell 34 = .ok (.istore 4, 2) := by decide +kernel
theorem dX4_tell_36 : decode cX4_tell 36 = .ok (.aload_n 0, 1) := by decide +kernel
theorem dX4_tell_37 : decode cX4_tell 37 = .ok (.invokevirtual 26, 3) := by decide +kernel
theorem dX4_tell_40 : decode cX4_tell 40 = .ok (.ifCond .eq 11, 3) := by decide +kernel
theorem dX4_tell_43 : decode cX4_tell 43 = .ok (.aload_n 0, 1) := by decide +kernel
theorem dX4_tell_44 : decode cX4_tell 44 = .ok (.aload_n 1, 1) := by decide +kernel
theorem dX4_tell_45 : decode cX4_tell 45 = .ok (.invokevirtual 30, 3) := by decide +kernel
theorem dX4_tell_48 : decode cX4_tell 48 = .ok (.ifCond .ne 10, 3) := by decide +kernel
theorem dX4_tell_51 : decode cX4_tell 51 = .ok (.sipush (-2000), 3) := by decide +kernel
theorem dX4_tell_54 : decode cX4_tell 54 = .ok (.iload 4, 2) := by decide +kernel
theorem dX4_tell_56 : decode cX4_tell 56 = .ok (.isub, 1) := by decide +kernel
theorem dX4_tell_57 : decode cX4_tell 57 = .ok (.ireturn, 1) := by decide +kernel
theorem dX4_tell_58 : decode cX4_tell 58 = .ok (.iinc 3 1, 3) := by decide +kernel
theorem dX4_tell_61 : decode cX4_tell 61 = .ok (.goto (-36), 3) := by decide +kernel
theorem dX4_tell_64 : decode cX4_tell 64 = .ok (.iload_n 2, 1) := by decide +kernel
theorem dX4_tell_65 : decode cX4_tell 65 = .ok (.ireturn, 1) := by decide +kernel
set_option maxRecDepth 20000 in
theorem ggX4_countStatements_X4_readStatement : GoodIn wsX4_countStatements wsX4_readStatement := goodIn_r _ [7, 8, 1, 9, 10, 11, 6, 12, 2, 13, 14, 15, 16, 17, 18, 19, 20, 21, 22, 23, 24, 25, 26, 27, 28, 29, 30, 31, 32, 33, 34, 35, 36, 37, 38, 39, 40, 41, 42, 43, 44, 45, 46, 47, 48, 49, 50, 51, 52, 53, 54] (by decide +kernel) (by decide +kernel)
set_option maxRecDepth 20000 in
theorem gX4_countStatements_X4_readStatement : GoodIn wsX4_countStatements (wsV RX4 26 RX4 yX4_readStatement wsX4_readStatement) := goodIn_app (goodIn_of _ (by decide +kernel)) ggX4_countStatements_X4_readStatement
theorem dX4_countStatements_0 : decode cX4_countStatements 0 = .ok (.aload_n 0, 1) := by decide +kernel
theorem dX4_countStatements_1 : decode cX4_countStatements 1 = .ok (.iconst 0, 1) := by decide +kernel
theorem dX4_countStatements_2 : decode cX4_countStatements 2 = .ok (.putfield 23, 3) := by decide +kernel
theorem dX4_countStatements_5 : decode cX4_countStatements 5 = .ok (.iconst 0, 1) := by decide +kernel
theorem dX4_countStatements_6 : decode cX4_countStatements 6 = .ok (.istore_n 1, 1) := by decide +kernel
theorem dX4_countStatements_7 : decode cX4_countStatements 7 = .ok (.iload_n 1, 1) := by decide +kernel
theorem dX4_countStatements_8 : decode cX4_countStatements 8 = .ok (.bipush 80, 2) := by decide +kernel
theorem dX4_countStatements_10 : decode cX4_countStatements 10 = .ok (.if_icmp .ge 29, 3) := by decide +kernel
theorem dX4_countStatements_13 : decode cX4_countStatements 13 = .ok (.aload_n 0, 1) := by decide +kernel
theorem dX4_countStatements_14 : decode cX4_countStatements 14 = .ok (.getfield 23, 3) := by decide +kernel
theorem dX4_countStatements_17 : decode cX4_countStatements 17 = .ok (.aload_n 0, 1) := by decide +kernel
theorem dX4_countStatements_18 : decode cX4_countStatements 18 = .ok (.getfield 15, 3) := by decide +kernel
theorem dX4_countStatements_21 : decode cX4_countStatements 21 = .ok (.if_icmp .ge 18, 3) := by decide +kernel
theorem dX4_countStatements_24 : decode cX4_countStatements 24 = .ok (.aload_n 0, 1) := by decide +kernel
theorem dX4_countStatements_25 : decode cX4_countStatements 25 = .ok (.invokevirtual 26, 3) := by decide +kernel
theorem dX4_countStatements_28 : decode cX4_countStatements 28 = .ok (.ifCond .ne 5, 3) := by decide +kernel
theorem dX4_countStatements_31 : decode cX4_countStatements 31 = .ok (.iconst 0, 1) := by decide +kernel
theorem dX4_countStatements_32 : decode cX4_countStatements 32 = .ok (.ireturn, 1) := by decide +kernel
theorem dX4_countStatements_33 : decode cX4_countStatements 33 = .ok (.iinc 1 1, 3) := by decide +kernel
theorem dX4_countStatements_36 : decode cX4_countStatements 36 = .ok (.goto (-29), 3) := by decide +kernel
theorem dX4_countStatements_39 : decode cX4_countStatements 39 = .ok (.iload_n 1, 1) := by decide +kernel
theorem dX4_countStatements_40 : decode cX4_countStatements 40 = .ok (.ireturn, 1) := by decide +kernel
set_option maxRecDepth 20000 in
theorem ggX4_tellStatement_X3_setBin : GoodIn wsX4_tellStatement wsX3_setBin := goodIn_r _ [8, 9, 10, 11, 12, 13, 14, 6, 15, 50, 51, 52, 53, 54, 55, 56, 57, 58, 59, 60, 61, 62, 63, 64, 65] (by decide +kernel) (by decide +kernel)
set_option maxRecDepth 20000 in
theorem gX4_tellStatement_X3_setBin_n46 : GoodIn wsX4_tellStatement (wsX3_setBin) := ggX4_tellStatement_X3_setBin
set_option maxRecDepth 20000 in
theorem ggX4_tellStatement_X3_setWall : GoodIn wsX4_tellStatement wsX3_setWall := goodIn_r _ [18, 10, 11, 9, 13, 14, 6, 15, 50, 51, 52, 53, 54, 55, 56, 57, 58, 59, 60, 61, 62, 63, 64, 65] (by decide +kernel) (by decide +kernel)
set_option maxRecDepth 20000 in
theorem gX4_tellStatement_X3_setWall_n52 : GoodIn wsX4_tellStatement (wsX3_setWall) := ggX4_tellStatement_X3_setWall
set_option maxRecDepth 20000 in
theorem ggX4_tellStatement_X3_setCeiling : GoodIn wsX4_tellStatement wsX3_setCeiling := goodIn_r _ [21, 22, 13, 14, 6, 15, 50, 51, 52, 53, 54, 55, 56, 57, 58, 59, 60, 61, 62, 63, 64, 65] (by decide +kernel) (by decide +kernel)
set_option maxRecDepth 20000 in
theorem gX4_tellStatement_X3_setCeiling_n56 : GoodIn wsX4_tellStatement (wsX3_setCeiling) := ggX4_tellStatement_X3_setCeiling
set_option maxRecDepth 20000 in
theorem ggX4_tellStatement_X3_setHand : GoodIn wsX4_tellStatement wsX3_setHand := goodIn_r _ [25, 26, 13, 14, 6, 15, 50, 51, 52, 53, 54, 55, 56, 57, 58, 59, 60, 61, 62, 63, 64, 65] (by decide +kernel) (by decide +kernel)
set_option maxRecDepth 20000 in
theorem gX4_tellStatement_X3_setHand_n59 : GoodIn wsX4_tellStatement (wsX3_setHand) := ggX4_tellStatement_X3_setHand
set_option maxRecDepth 20000 in
theorem ggX4_tellStatement_X3_setFan : GoodIn wsX4_tellStatement wsX3_setFan := goodIn_r _ [29, 30, 31, 13, 14, 6, 15, 50, 51, 52, 53, 54, 55, 56, 57, 58, 59, 60, 61, 62, 63, 64, 65] (by decide +kernel) (by decide +kernel)
set_option maxRecDepth 20000 in
theorem gX4_tellStatement_X3_setFan_n62 : GoodIn wsX4_tellStatement (wsX3_setFan) := ggX4_tellStatement_X3_setFan
set_option maxRecDepth 20000 in
theorem ggX4_tellStatement_X3_setFill : GoodIn wsX4_tellStatement wsX3_setFill := goodIn_r _ [34, 35, 13, 14, 6, 15, 50, 51, 52, 53, 54, 55, 56, 57, 58, 59, 60, 61, 62, 63, 64, 65] (by decide +kernel) (by decide +kernel)
set_option maxRecDepth 20000 in
theorem gX4_tellStatement_X3_setFill_n66 : GoodIn wsX4_tellStatement (wsX3_setFill) := ggX4_tellStatement_X3_setFill
set_option maxRecDepth 20000 in
theorem ggX4_tellStatement_X3_addBall : GoodIn wsX4_tellStatement wsX3_addBall := goodIn_r _ [38, 39, 40, 41, 42, 13, 14, 6, 15, 50, 51, 52, 53, 54, 55, 56, 57, 58, 59, 60, 61, 62, 63, 64, 65] (by decide +kernel) (by decide +kernel)
set_option maxRecDepth 20000 in
theorem gX4_tellStatement_X3_addBall_n69 : GoodIn wsX4_tellStatement (wsX3_addBall) := ggX4_tellStatement_X3_addBall
theorem dX4_tellStatement_0 : decode cX4_tellStatement 0 = .ok (.aload_n 0, 1) := by decide +kernel
theorem dX4_tellStatement_1 : decode cX4_tellStatement 1 = .ok (.getfield 34, 3) := by decide +kernel
theorem dX4_tellStatement_4 : decode cX4_tellStatement 4 = .ok (.lookupswitch 126 #[(98, 60), (99, 86), (102, 104), (104, 95), (105, 117), (119, 77)], 60) := by decide +kernel
theorem dX4_tellStatement_64 : decode cX4_tellStatement 64 = .ok (.aload_n 1, 1) := by decide +kernel
theorem dX4_tellStatement_65 : decode cX4_tellStatement 65 = .ok (.aload_n 0, 1) := by decide +kernel
theorem dX4_tellStatement_66 : decode cX4_tellStatement 66 = .ok (.getfield 37, 3) := by decide +kernel
theorem dX4_tellStatement_69 : decode cX4_tellStatement 69 = .ok (.aload_n 0, 1) := by decide +kernel
theorem dX4_tellStatement_70 : decode cX4_tellStatement 70 = .ok (.getfield 40, 3) := by decide +kernel
theorem dX4_tellStatement_73 : decode cX4_tellStatement 73 = .ok (.aload_n 0, 1) := by decide +kernel
theorem dX4_tellStatement_74 : decode cX4_tellStatement 74 = .ok (.getfield 43, 3) := by decide +kernel
theorem dX4_tellStatement_77 : decode cX4_tellStatement 77 = .ok (.invokevirtual 46, 3) := by decide +kernel
theorem dX4_tellStatement_80 : decode cX4_tellStatement 80 = .ok (.ireturn, 1) := by decide +kernel
theorem dX4_tellStatement_81 : decode cX4_tellStatement 81 = .ok (.aload_n 1, 1) := by decide +kernel
theorem dX4_tellStatement_82 : decode cX4_tellStatement 82 = .ok (.aload_n 0, 1) := by decide +kernel
theorem dX4_tellStatement_83 : decode cX4_tellStatement 83 = .ok (.getfield 37, 3) := by decide +kernel
theorem dX4_tellStatement_86 : decode cX4_tellStatement 86 = .ok (.invokevirtual 52, 3) := by decide +kernel
theorem dX4_tellStatement_89 : decode cX4_tellStatement 89 = .ok (.ireturn, 1) := by decide +kernel
theorem dX4_tellStatement_90 : decode cX4_tellStatement 90 = .ok (.aload_n 1, 1) := by decide +kernel
theorem dX4_tellStatement_91 : decode cX4_tellStatement 91 = .ok (.aload_n 0, 1) := by decide +kernel
theorem dX4_tellStatement_92 : decode cX4_tellStatement 92 = .ok (.getfield 37, 3) := by decide +kernel
theorem dX4_tellStatement_95 : decode cX4_tellStatement 95 = .ok (.invokevirtual 56, 3) := by decide +kernel
theorem dX4_tellStatement_98 : decode cX4_tellStatement 98 = .ok (.ireturn, 1) := by decide +kernel
theorem dX4_tellStatement_99 : decode cX4_tellStatement 99 = .ok (.aload_n 1, 1) := by decide +kernel
theorem dX4_tellStatement_100 : decode cX4_tellStatement 100 = .ok (.aload_n 0, 1) := by decide +kernel
theorem dX4_tellStatement_101 : decode cX4_tellStatement 101 = .ok (.getfield 37, 3) := by decide +kernel
theorem dX4_tellStatement_104 : decode cX4_tellStatement 104 = .ok (.invokevirtual 59, 3) := by decide +kernel
theorem dX4_tellStatement_107 : decode cX4_tellStatement 107 = .ok (.ireturn, 1) := by decide +kernel
theorem dX4_tellStatement_108 : decode cX4_tellStatement 108 = .ok (.aload_n 1, 1) := by decide +kernel
theorem dX4_tellStatement_109 : decode cX4_tellStatement 109 = .ok (.aload_n 0, 1) := by decide +kernel
theorem dX4_tellStatement_110 : decode cX4_tellStatement 110 = .ok (.getfield 37, 3) := by decide +kernel
theorem dX4_tellStatement_113 : decode cX4_tellStatement 113 = .ok (.aload_n 0, 1) := by decide +kernel
theorem dX4_tellStatement_114 : decode cX4_tellStatement 114 = .ok (.getfield 40, 3) := by decide +kernel
theorem dX4_tellStatement_117 : decode cX4_tellStatement 117 = .ok (.invokevirtual 62, 3) := by decide +kernel
theorem dX4_tellStatement_120 : decode cX4_tellStatement 120 = .ok (.ireturn, 1) := by decide +kernel
theorem dX4_tellStatement_121 : decode cX4_tellStatement 121 = .ok (.aload_n 1, 1) := by decide +kernel
theorem dX4_tellStatement_122 : decode cX4_tellStatement 122 = .ok (.aload_n 0, 1) := by decide +kernel
theorem dX4_tellStatement_123 : decode cX4_tellStatement 123 = .ok (.getfield 37, 3) := by decide +kernel
theorem dX4_tellStatement_126 : decode cX4_tellStatement 126 = .ok (.invokevirtual 66, 3) := by decide +kernel
theorem dX4_tellStatement_129 : decode cX4_tellStatement 129 = .ok (.ireturn, 1) := by decide +kernel
theorem dX4_tellStatement_130 : decode cX4_tellStatement 130 = .ok (.aload_n 1, 1) := by decide +kernel
theorem dX4_tellStatement_131 : decode cX4_tellStatement 131 = .ok (.aload_n 0, 1) := by decide +kernel
theorem dX4_tellStatement_132 : decode cX4_tellStatement 132 = .ok (.getfield 37, 3) := by decide +kernel
theorem dX4_tellStatement_135 : decode cX4_tellStatement 135 = .ok (.aload_n 0, 1) := by decide +kernel
theorem dX4_tellStatement_136 : decode cX4_tellStatement 136 = .ok (.getfield 40, 3) := by decide +kernel
theorem dX4_tellStatement_139 : decode cX4_tellStatement 139 = .ok (.aload_n 0, 1) := by decide +kernel
theorem dX4_tellStatement_140 : decode cX4_tellStatement 140 = .ok (.getfield 43, 3) := by decide +kernel
theorem dX4_tellStatement_143 : decode cX4_tellStatement 143 = .ok (.invokevirtual 69, 3) := by decide +kernel
theorem dX4_tellStatement_146 : decode cX4_tellStatement 146 = .ok (.ireturn, 1) := by decide +kernel
set_option maxRecDepth 20000 in
theorem ggX4_readStatement_X4_letterHere : GoodIn wsX4_readStatement wsX4_letterHere := goodIn_r _ [7, 2, 8, 9, 44, 45, 46, 47, 48, 49, 50] (by decide +kernel) (by decide +kernel)
set_option maxRecDepth 20000 in
theorem gX4_readStatement_X4_letterHere : GoodIn wsX4_readStatement (wsV RX4 72 RX4 yX4_letterHere wsX4_letterHere) := goodIn_app (goodIn_of _ (by decide +kernel)) ggX4_readStatement_X4_letterHere
set_option maxRecDepth 20000 in
theorem ggX4_readStatement_X4_readFirst : GoodIn wsX4_readStatement wsX4_readFirst := goodIn_r _ [13, 14, 15, 16, 17, 6, 18, 19, 20, 21, 22, 2, 3, 4, 5, 7, 8, 9, 44, 45, 46, 47, 48, 49, 50] (by decide +kernel) (by decide +kernel)
set_option maxRecDepth 20000 in
theorem gX4_readStatement_X4_readFirst : GoodIn wsX4_readStatement (wsV RX4 75 RX4 yX4_readFirst wsX4_readFirst) := goodIn_app (goodIn_of _ (by decide +kernel)) ggX4_readStatement_X4_readFirst
set_option maxRecDepth 20000 in
theorem ggX4_readStatement_X4_passLetter : GoodIn wsX4_readStatement wsX4_passLetter := goodIn_r _ [26, 2, 3, 4, 5, 6, 7, 8, 9, 44, 45, 46, 47, 48, 49, 50] (by decide +kernel) (by decide +kernel)
set_option maxRecDepth 20000 in
theorem gX4_readStatement_X4_passLetter : GoodIn wsX4_readStatement (wsV RX4 78 RX4 yX4_passLetter wsX4_passLetter) := goodIn_app (goodIn_of _ (by decide +kernel)) ggX4_readStatement_X4_passLetter
set_option maxRecDepth 20000 in
theorem ggX4_readStatement_X4_readTwoDigits : GoodIn wsX4_readStatement wsX4_readTwoDigits := goodIn_r _ [30, 31, 32, 15, 16, 17, 6, 18, 19, 20, 21, 22, 2, 3, 4, 5, 7, 8, 9, 44, 45, 46, 47, 48, 49, 50] (by decide +kernel) (by decide +kernel)
set_option maxRecDepth 20000 in
theorem gX4_readStatement_X4_readTwoDigits : GoodIn wsX4_readStatement (wsV RX4 81 RX4 yX4_readTwoDigits wsX4_readTwoDigits) := goodIn_app (goodIn_of _ (by decide +kernel)) ggX4_readStatement_X4_readTwoDigits
set_option maxRecDepth 20000 in
theorem ggX4_readStatement_X4_readFan : GoodIn wsX4_readStatement wsX4_readFan := goodIn_r _ [36, 2, 14, 31, 3, 4, 5, 6, 7, 8, 9, 10, 11, 12, 13, 15, 16, 17, 18, 19, 20, 21, 22, 44, 45, 46, 47, 48, 49, 50] (by decide +kernel) (by decide +kernel)
set_option maxRecDepth 20000 in
theorem gX4_readStatement_X4_readFan : GoodIn wsX4_readStatement (wsV RX4 84 RX4 yX4_readFan wsX4_readFan) := goodIn_app (goodIn_of _ (by decide +kernel)) ggX4_readStatement_X4_readFan
set_option maxRecDepth 20000 in
theorem ggX4_readStatement_X4_readKind : GoodIn wsX4_readStatement wsX4_readKind := goodIn_r _ [40, 14, 2, 3, 4, 5, 6, 7, 8, 9, 41, 42, 43, 44, 45, 46, 47, 48, 49, 50] (by decide +kernel) (by decide +kernel)
set_option maxRecDepth 20000 in
theorem gX4_readStatement_X4_readKind : GoodIn wsX4_readStatement (wsV RX4 87 RX4 yX4_readKind wsX4_readKind) := goodIn_app (goodIn_of _ (by decide +kernel)) ggX4_readStatement_X4_readKind
theorem dX4_readStatement_0 : decode cX4_readStatement 0 = .ok (.aload_n 0, 1) := by decide +kernel
theorem dX4_readStatement_1 : decode cX4_readStatement 1 = .ok (.aload_n 0, 1) := by decide +kernel
theorem dX4_readStatement_2 : decode cX4_readStatement 2 = .ok (.invokevirtual 72, 3) := by decide +kernel
theorem dX4_readStatement_5 : decode cX4_readStatement 5 = .ok (.putfield 34, 3) := by decide +kernel
theorem dX4_readStatement_8 : decode cX4_readStatement 8 = .ok (.aload_n 0, 1) := by decide +kernel
theorem dX4_readStatement_9 : decode cX4_readStatement 9 = .ok (.getfield 34, 3) := by decide +kernel
theorem dX4_readStatement_12 : decode cX4_readStatement 12 = .ok (.tableswitch 290 98 119 #[104, 153, 290, 290, 219, 290, 186, 186, 290, 290, 290, 290, 290, 290, 251, 290, 290, 290, 290, 290, 290, 153], 104) := by decide +kernel
theorem dX4_readStatement_116 : decode cX4_readStatement 116 = .ok (.aload_n 0, 1) := by decide +kernel
theorem dX4_readStatement_117 : decode cX4_readStatement 117 = .ok (.dup, 1) := by decide +kernel
theorem dX4_readStatement_118 : decode cX4_readStatement 118 = .ok (.getfield 23, 3) := by decide +kernel
theorem dX4_readStatement_121 : decode cX4_readStatement 121 = .ok (.iconst 1, 1) := by decide +kernel
theorem dX4_readStatement_122 : decode cX4_readStatement 122 = .ok (.iadd, 1) := by decide +kernel
theorem dX4_readStatement_123 : decode cX4_readStatement 123 = .ok (.putfield 23, 3) := by decide +kernel
theorem dX4_readStatement_126 : decode cX4_readStatement 126 = .ok (.aload_n 0, 1) := by decide +kernel
theorem dX4_readStatement_127 : decode cX4_readStatement 127 = .ok (.iconst 2, 1) := by decide +kernel
theorem dX4_readStatement_128 : decode cX4_readStatement 128 = .ok (.invokevirtual 75, 3) := by decide +kernel
theorem dX4_readStatement_131 : decode cX4_readStatement 131 = .ok (.ifCond .eq 32, 3) := by decide +kernel
theorem dX4_readStatement_134 : decode cX4_readStatement 134 = .ok (.aload_n 0, 1) := by decide +kernel
theorem dX4_readStatement_135 : decode cX4_readStatement 135 = .ok (.bipush 44, 2) := by decide +kernel
theorem dX4_readStatement_137 : decode cX4_readStatement 137 = .ok (.invokevirtual 78, 3) := by decide +kernel
theorem dX4_readStatement_140 : decode cX4_readStatement 140 = .ok (.ifCond .eq 23, 3) := by decide +kernel
theorem dX4_readStatement_143 : decode cX4_readStatement 143 = .ok (.aload_n 0, 1) := by decide +kernel
theorem dX4_readStatement_144 : decode cX4_readStatement 144 = .ok (.invokevirtual 81, 3) := by decide +kernel
theorem dX4_readStatement_147 : decode cX4_readStatement 147 = .ok (.ifCond .eq 16, 3) := by decide +kernel
theorem dX4_readStatement_150 : decode cX4_readStatement 150 = .ok (.aload_n 0, 1) := by decide +kernel
theorem dX4_readStatement_151 : decode cX4_readStatement 151 = .ok (.bipush 59, 2) := by decide +kernel
theorem dX4_readStatement_153 : decode cX4_readStatement 153 = .ok (.invokevirtual 78, 3) := by decide +kernel
theorem dX4_readStatement_156 : decode cX4_readStatement 156 = .ok (.ifCond .eq 7, 3) := by decide +kernel
theorem dX4_readStatement_159 : decode cX4_readStatement 159 = .ok (.iconst 1, 1) := by decide +kernel
theorem dX4_readStatement_160 : decode cX4_readStatement 160 = .ok (.goto 4, 3) := by decide +kernel
theorem dX4_readStatement_163 : decode cX4_readStatement 163 = .ok (.iconst 0, 1) := by decide +kernel
theorem dX4_readStatement_164 : decode cX4_readStatement 164 = .ok (.ireturn, 1) := by decide +kernel
theorem dX4_readStatement_165 : decode cX4_readStatement 165 = .ok (.aload_n 0, 1) := by decide +kernel
theorem dX4_readStatement_166 : decode cX4_readStatement 166 = .ok (.dup, 1) := by decide +kernel
theorem dX4_readStatement_167 : decode cX4_readStatement 167 = .ok (.getfield 23, 3) := by decide +kernel
theorem dX4_readStatement_170 : decode cX4_readStatement 170 = .ok (.iconst 1, 1) := by decide +kernel
theorem dX4_readStatement_171 : decode cX4_readStatement 171 = .ok (.iadd, 1) := by decide +kernel
theorem dX4_readStatement_172 : decode cX4_readStatement 172 = .ok (.putfield 23, 3) := by decide +kernel
theorem dX4_readStatement_175 : decode cX4_readStatement 175 = .ok (.aload_n 0, 1) := by decide +kernel
theorem dX4_readStatement_176 : decode cX4_readStatement 176 = .ok (.iconst 2, 1) := by decide +kernel
theorem dX4_readStatement_177 : decode cX4_readStatement 177 = .ok (.invokevirtual 75, 3) := by decide +kernel
theorem dX4_readStatement_180 : decode cX4_readStatement 180 = .ok (.ifCond .eq 16, 3) := by decide +kernel
theorem dX4_readStatement_183 : decode cX4_readStatement 183 = .ok (.aload_n 0, 1) := by decide +kernel
theorem dX4_readStatement_184 : decode cX4_readStatement 184 = .ok (.bipush 59, 2) := by decide +kernel
theorem dX4_readStatement_186 : decode cX4_readStatement 186 = .ok (.invokevirtual 78, 3) := by decide +kernel
theorem dX4_readStatement_189 : decode cX4_readStatement 189 = .ok (.ifCond .eq 7, 3) := by decide +kernel
theorem dX4_readStatement_192 : decode cX4_readStatement 192 = .ok (.iconst 1, 1) := by decide +kernel
theorem dX4_readStatement_193 : decode cX4_readStatement 193 = .ok (.goto 4, 3) := by decide +kernel
theorem dX4_readStatement_196 : decode cX4_readStatement 196 = .ok (.iconst 0, 1) := by decide +kernel
theorem dX4_readStatement_197 : decode cX4_readStatement 197 = .ok (.ireturn, 1) := by decide +kernel
theorem dX4_readStatement_198 : decode cX4_readStatement 198 = .ok (.aload_n 0, 1) := by decide +kernel
theorem dX4_readStatement_199 : decode cX4_readStatement 199 = .ok (.dup, 1) := by decide +kernel
theorem dX4_readStatement_200 : decode cX4_readStatement 200 = .ok (.getfield 23, 3) := by decide +kernel
theorem dX4_readStatement_203 : decode cX4_readStatement 203 = .ok (.iconst 1, 1) := by decide +kernel
theorem dX4_readStatement_204 : decode cX4_readStatement 204 = .ok (.iadd, 1) := by decide +kernel
theorem dX4_readStatement_205 : decode cX4_readStatement 205 = .ok (.putfield 23, 3) := by decide +kernel
theorem dX4_readStatement_208 : decode cX4_readStatement 208 = .ok (.aload_n 0, 1) := by decide +kernel
theorem dX4_readStatement_209 : decode cX4_readStatement 209 = .ok (.iconst 1, 1) := by decide +kernel
theorem dX4_readStatement_210 : decode cX4_readStatement 210 = .ok (.invokevirtual 75, 3) := by decide +kernel
theorem dX4_readStatement_213 : decode cX4_readStatement 213 = .ok (.ifCond .eq 16, 3) := by decide +kernel
theorem dX4_readStatement_216 : decode cX4_readStatement 216 = .ok (.aload_n 0, 1) := by decide +kernel
theorem dX4_readStatement_217 : decode cX4_readStatement 217 = .ok (.bipush 59, 2) := by decide +kernel
theorem dX4_readStatement_219 : decode cX4_readStatement 219 = .ok (.invokevirtual 78, 3) := by decide +kernel
theorem dX4_readStatement_222 : decode cX4_readStatement 222 = .ok (.ifCond .eq 7, 3) := by decide +kernel
theorem dX4_readStatement_225 : decode cX4_readStatement 225 = .ok (.iconst 1, 1) := by decide +kernel
theorem dX4_readStatement_226 : decode cX4_readStatement 226 = .ok (.goto 4, 3) := by decide +kernel
theorem dX4_readStatement_229 : decode cX4_readStatement 229 = .ok (.iconst 0, 1) := by decide +kernel
theorem dX4_readStatement_230 : decode cX4_readStatement 230 = .ok (.ireturn, 1) := by decide +kernel
theorem dX4_readStatement_231 : decode cX4_readStatement 231 = .ok (.aload_n 0, 1) := by decide +kernel
theorem dX4_readStatement_232 : decode cX4_readStatement 232 = .ok (.dup, 1) := by decide +kernel
theorem dX4_readStatement_233 : decode cX4_readStatement 233 = .ok (.getfield 23, 3) := by decide +kernel
theorem dX4_readStatement_236 : decode cX4_readStatement 236 = .ok (.iconst 1, 1) := by decide +kernel
theorem dX4_readStatement_237 : decode cX4_readStatement 237 = .ok (.iadd, 1) := by decide +kernel
theorem dX4_readStatement_238 : decode cX4_readStatement 238 = .ok (.putfield 23, 3) := by decide +kernel
theorem dX4_readStatement_241 : decode cX4_readStatement 241 = .ok (.aload_n 0, 1) := by decide +kernel
theorem dX4_readStatement_242 : decode cX4_readStatement 242 = .ok (.invokevirtual 84, 3) := by decide +kernel
theorem dX4_readStatement_245 : decode cX4_readStatement 245 = .ok (.ifCond .eq 16, 3) := by decide +kernel
theorem dX4_readStatement_248 : decode cX4_readStatement 248 = .ok (.aload_n 0, 1) := by decide +kernel
theorem dX4_readStatement_249 : decode cX4_readStatement 249 = .ok (.bipush 59, 2) := by decide +kernel
theorem dX4_readStatement_251 : decode cX4_readStatement 251 = .ok (.invokevirtual 78, 3) := by decide +kernel
theorem dX4_readStatement_254 : decode cX4_readStatement 254 = .ok (.ifCond .eq 7, 3) := by decide +kernel
theorem dX4_readStatement_257 : decode cX4_readStatement 257 = .ok (.iconst 1, 1) := by decide +kernel
theorem dX4_readStatement_258 : decode cX4_readStatement 258 = .ok (.goto 4, 3) := by decide +kernel
theorem dX4_readStatement_261 : decode cX4_readStatement 261 = .ok (.iconst 0, 1) := by decide +kernel
theorem dX4_readStatement_262 : decode cX4_readStatement 262 = .ok (.ireturn, 1) := by decide +kernel
theorem dX4_readStatement_263 : decode cX4_readStatement 263 = .ok (.aload_n 0, 1) := by decide +kernel
theorem dX4_readStatement_264 : decode cX4_readStatement 264 = .ok (.dup, 1) := by decide +kernel
theorem dX4_readStatement_265 : decode cX4_readStatement 265 = .ok (.getfield 23, 3) := by decide +kernel
theorem dX4_readStatement_268 : decode cX4_readStatement 268 = .ok (.iconst 1, 1) := by decide +kernel
theorem dX4_readStatement_269 : decode cX4_readStatement 269 = .ok (.iadd, 1) := by decide +kernel
theorem dX4_readStatement_270 : decode cX4_readStatement 270 = .ok (.putfield 23, 3) := by decide +kernel
theorem dX4_readStatement_273 : decode cX4_readStatement 273 = .ok (.aload_n 0, 1) := by decide +kernel
theorem dX4_readStatement_274 : decode cX4_readStatement 274 = .ok (.invokevirtual 87, 3) := by decide +kernel
theorem dX4_readStatement_277 : decode cX4_readStatement 277 = .ok (.ifCond .eq 23, 3) := by decide +kernel
theorem dX4_readStatement_280 : decode cX4_readStatement 280 = .ok (.aload_n 0, 1) := by decide +kernel
theorem dX4_readStatement_281 : decode cX4_readStatement 281 = .ok (.invokevirtual 81, 3) := by decide +kernel
theorem dX4_readStatement_284 : decode cX4_readStatement 284 = .ok (.ifCond .eq 16, 3) := by decide +kernel
theorem dX4_readStatement_287 : decode cX4_readStatement 287 = .ok (.aload_n 0, 1) := by decide +kernel
theorem dX4_readStatement_288 : decode cX4_readStatement 288 = .ok (.bipush 59, 2) := by decide +kernel
theorem dX4_readStatement_290 : decode cX4_readStatement 290 = .ok (.invokevirtual 78, 3) := by decide +kernel
theorem dX4_readStatement_293 : decode cX4_readStatement 293 = .ok (.ifCond .eq 7, 3) := by decide +kernel
theorem dX4_readStatement_296 : decode cX4_readStatement 296 = .ok (.iconst 1, 1) := by decide +kernel
theorem dX4_readStatement_297 : decode cX4_readStatement 297 = .ok (.goto 4, 3) := by decide +kernel
theorem dX4_readStatement_300 : decode cX4_readStatement 300 = .ok (.iconst 0, 1) := by decide +kernel
theorem dX4_readStatement_301 : decode cX4_readStatement 301 = .ok (.ireturn, 1) := by decide +kernel
theorem dX4_readStatement_302 : decode cX4_readStatement 302 = .ok (.iconst 0, 1) := by decide +kernel
theorem dX4_readStatement_303 : decode cX4_readStatement 303 = .ok (.ireturn, 1) := by decide +kernel
set_option maxRecDepth 20000 in
theorem ggX4_readFirst_X4_readNumber : GoodIn wsX4_readFirst wsX4_readNumber := goodIn_r _ [6, 7, 8, 9, 10, 11, 12, 13, 14, 5, 15, 16, 17, 18, 19, 20, 21, 22, 23, 24] (by decide +kernel) (by decide +kernel)
set_option maxRecDepth 20000 in
theorem gX4_readFirst_X4_readNumber : GoodIn wsX4_readFirst (wsV RX4 90 RX4 yX4_readNumber wsX4_readNumber) := goodIn_app (goodIn_of _ (by decide +kernel)) ggX4_readFirst_X4_readNumber
theorem dX4_readFirst_0 : decode cX4_readFirst 0 = .ok (.aload_n 0, 1) := by decide +kernel
theorem dX4_readFirst_1 : decode cX4_readFirst 1 = .ok (.aload_n 0, 1) := by decide +kernel
theorem dX4_readFirst_2 : decode cX4_readFirst 2 = .ok (.iload_n 1, 1) := by decide +kernel
theorem dX4_readFirst_3 : decode cX4_readFirst 3 = .ok (.invokevirtual 90, 3) := by decide +kernel
theorem dX4_readFirst_6 : decode cX4_readFirst 6 = .ok (.putfield 37, 3) := by decide +kernel
theorem dX4_readFirst_9 : decode cX4_readFirst 9 = .ok (.aload_n 0, 1) := by decide +kernel
theorem dX4_readFirst_10 : decode cX4_readFirst 10 = .ok (.getfield 37, 3) := by decide +kernel
theorem dX4_readFirst_13 : decode cX4_readFirst 13 = .ok (.ifCond .lt 7, 3) := by decide +kernel
theorem dX4_readFirst_16 : decode cX4_readFirst 16 = .ok (.iconst 1, 1) := by decide +kernel
theorem dX4_readFirst_17 : decode cX4_readFirst 17 = .ok (.goto 4, 3) := by decide +kernel
theorem dX4_readFirst_20 : decode cX4_readFirst 20 = .ok (.iconst 0, 1) := by decide +kernel
theorem dX4_readFirst_21 : decode cX4_readFirst 21 = .ok (.ireturn, 1) := by decide +kernel
set_option maxRecDepth 20000 in
theorem ggX4_readFan_X4_letterHere : GoodIn wsX4_readFan wsX4_letterHere := goodIn_r _ [8, 1, 9, 10, 23, 24, 25, 26, 27, 28, 29] (by decide +kernel) (by decide +kernel)
set_option maxRecDepth 20000 in
theorem gX4_readFan_X4_letterHere : GoodIn wsX4_readFan (wsV RX4 72 RX4 yX4_letterHere wsX4_letterHere) := goodIn_app (goodIn_of _ (by decide +kernel)) ggX4_readFan_X4_letterHere
set_option maxRecDepth 20000 in
theorem ggX4_readFan_X4_readFirst : GoodIn wsX4_readFan wsX4_readFirst := goodIn_r _ [14, 2, 15, 16, 17, 7, 18, 19, 20, 21, 22, 1, 4, 5, 6, 8, 9, 10, 23, 24, 25, 26, 27, 28, 29] (by decide +kernel) (by decide +kernel)
set_option maxRecDepth 20000 in
theorem gX4_readFan_X4_readFirst : GoodIn wsX4_readFan (wsV RX4 75 RX4 yX4_readFirst wsX4_readFirst) := goodIn_app (goodIn_of _ (by decide +kernel)) ggX4_readFan_X4_readFirst
set_option maxRecDepth 20000 in
theorem ggX4_readFan_X4_readNumber : GoodIn wsX4_readFan wsX4_readNumber := goodIn_r _ [18, 19, 20, 21, 22, 1, 4, 5, 6, 7, 8, 9, 10, 23, 24, 25, 26, 27, 28, 29] (by decide +kernel) (by decide +kernel)
set_option maxRecDepth 20000 in
theorem gX4_readFan_X4_readNumber : GoodIn wsX4_readFan (wsV RX4 90 RX4 yX4_readNumber wsX4_readNumber) := goodIn_app (goodIn_of _ (by decide +kernel)) ggX4_readFan_X4_readNumber
theorem dX4_readFan_0 : decode cX4_readFan 0 = .ok (.aload_n 0, 1) := by decide +kernel
theorem dX4_readFan_1 : decode cX4_readFan 1 = .ok (.invokevirtual 72, 3) := by decide +kernel
theorem dX4_readFan_4 : decode cX4_readFan 4 = .ok (.istore_n 1, 1) := by decide +kernel
theorem dX4_readFan_5 : decode cX4_readFan 5 = .ok (.iload_n 1, 1) := by decide +kernel
theorem dX4_readFan_6 : decode cX4_readFan 6 = .ok (.bipush 43, 2) := by decide +kernel
theorem dX4_readFan_8 : decode cX4_readFan 8 = .ok (.if_icmp .eq 11, 3) := by decide +kernel
theorem dX4_readFan_11 : decode cX4_readFan 11 = .ok (.iload_n 1, 1) := by decide +kernel
theorem dX4_readFan_12 : decode cX4_readFan 12 = .ok (.bipush 45, 2) := by decide +kernel
theorem dX4_readFan_14 : decode cX4_readFan 14 = .ok (.if_icmp .eq 5, 3) := by decide +kernel
theorem dX4_readFan_17 : decode cX4_readFan 17 = .ok (.iconst 0, 1) := by decide +kernel
theorem dX4_readFan_18 : decode cX4_readFan 18 = .ok (.ireturn, 1) := by decide +kernel
theorem dX4_readFan_19 : decode cX4_readFan 19 = .ok (.aload_n 0, 1) := by decide +kernel
theorem dX4_readFan_20 : decode cX4_readFan 20 = .ok (.dup, 1) := by decide +kernel
theorem dX4_readFan_21 : decode cX4_readFan 21 = .ok (.getfield 23, 3) := by decide +kernel
theorem dX4_readFan_24 : decode cX4_readFan 24 = .ok (.iconst 1, 1) := by decide +kernel
theorem dX4_readFan_25 : decode cX4_readFan 25 = .ok (.iadd, 1) := by decide +kernel
theorem dX4_readFan_26 : decode cX4_readFan 26 = .ok (.putfield 23, 3) := by decide +kernel
theorem dX4_readFan_29 : decode cX4_readFan 29 = .ok (.aload_n 0, 1) := by decide +kernel
theorem dX4_readFan_30 : decode cX4_readFan 30 = .ok (.iconst 1, 1) := by decide +kernel
theorem dX4_readFan_31 : decode cX4_readFan 31 = .ok (.invokevirtual 75, 3) := by decide +kernel
theorem dX4_readFan_34 : decode cX4_readFan 34 = .ok (.ifCond .ne 5, 3) := by decide +kernel
theorem dX4_readFan_37 : decode cX4_readFan 37 = .ok (.iconst 0, 1) := by decide +kernel
theorem dX4_readFan_38 : decode cX4_readFan 38 = .ok (.ireturn, 1) := by decide +kernel
theorem dX4_readFan_39 : decode cX4_readFan 39 = .ok (.iload_n 1, 1) := by decide +kernel
theorem dX4_readFan_40 : decode cX4_readFan 40 = .ok (.bipush 45, 2) := by decide +kernel
theorem dX4_readFan_42 : decode cX4_readFan 42 = .ok (.if_icmp .ne 12, 3) := by decide +kernel
theorem dX4_readFan_45 : decode cX4_readFan 45 = .ok (.aload_n 0, 1) := by decide +kernel
theorem dX4_readFan_46 : decode cX4_readFan 46 = .ok (.aload_n 0, 1) := by decide +kernel
theorem dX4_readFan_47 : decode cX4_readFan 47 = .ok (.getfield 37, 3) := by decide +kernel
theorem dX4_readFan_50 : decode cX4_readFan 50 = .ok (.ineg, 1) := by decide +kernel
theorem dX4_readFan_51 : decode cX4_readFan 51 = .ok (.putfield 37, 3) := by decide +kernel
theorem dX4_readFan_54 : decode cX4_readFan 54 = .ok (.aload_n 0, 1) := by decide +kernel
theorem dX4_readFan_55 : decode cX4_readFan 55 = .ok (.aload_n 0, 1) := by decide +kernel
theorem dX4_readFan_56 : decode cX4_readFan 56 = .ok (.iconst 1, 1) := by decide +kernel
theorem dX4_readFan_57 : decode cX4_readFan 57 = .ok (.invokevirtual 90, 3) := by decide +kernel
theorem dX4_readFan_60 : decode cX4_readFan 60 = .ok (.putfield 40, 3) := by decide +kernel
theorem dX4_readFan_63 : decode cX4_readFan 63 = .ok (.aload_n 0, 1) := by decide +kernel
theorem dX4_readFan_64 : decode cX4_readFan 64 = .ok (.getfield 40, 3) := by decide +kernel
theorem dX4_readFan_67 : decode cX4_readFan 67 = .ok (.ifCond .lt 7, 3) := by decide +kernel
theorem dX4_readFan_70 : decode cX4_readFan 70 = .ok (.iconst 1, 1) := by decide +kernel
theorem dX4_readFan_71 : decode cX4_readFan 71 = .ok (.goto 4, 3) := by decide +kernel
theorem dX4_readFan_74 : decode cX4_readFan 74 = .ok (.iconst 0, 1) := by decide +kernel
theorem dX4_readFan_75 : decode cX4_readFan 75 = .ok (.ireturn, 1) := by decide +kernel
set_option maxRecDepth 20000 in
theorem ggX4_readKind_X4_letterHere : GoodIn wsX4_readKind wsX4_letterHere := goodIn_r _ [7, 2, 8, 9, 13, 14, 15, 16, 17, 18, 19] (by decide +kernel) (by decide +kernel)
set_option maxRecDepth 20000 in
theorem gX4_readKind_X4_letterHere : GoodIn wsX4_readKind (wsV RX4 72 RX4 yX4_letterHere wsX4_letterHere) := goodIn_app (goodIn_of _ (by decide +kernel)) ggX4_readKind_X4_letterHere
set_option maxRecDepth 20000 in
theorem ggX4_readKind_X4_kindOfLetter : GoodIn wsX4_readKind wsX4_kindOfLetter := goodIn_r _ [12] (by decide +kernel) (by decide +kernel)
set_option maxRecDepth 20000 in
theorem gX4_readKind_X4_kindOfLetter : GoodIn wsX4_readKind (va_wsS RX4 94 yX4_kindOfLetter wsX4_kindOfLetter) := goodIn_app (goodIn_of _ (by decide +kernel)) ggX4_readKind_X4_kindOfLetter
theorem dX4_readKind_0 : decode cX4_readKind 0 = .ok (.aload_n 0, 1) := by decide +kernel
theorem dX4_readKind_1 : decode cX4_readKind 1 = .ok (.aload_n 0, 1) := by decide +kernel
theorem dX4_readKind_2 : decode cX4_readKind 2 = .ok (.invokevirtual 72, 3) := by decide +kernel
theorem dX4_readKind_5 : decode cX4_readKind 5 = .ok (.invokestatic 94, 3) := by decide +kernel
theorem dX4_readKind_8 : decode cX4_readKind 8 = .ok (.putfield 37, 3) := by decide +kernel
theorem dX4_readKind_11 : decode cX4_readKind 11 = .ok (.aload_n 0, 1) := by decide +kernel
theorem dX4_readKind_12 : decode cX4_readKind 12 = .ok (.getfield 37, 3) := by decide +kernel
theorem dX4_readKind_15 : decode cX4_readKind 15 = .ok (.ifCond .ge 5, 3) := by decide +kernel
theorem dX4_readKind_18 : decode cX4_readKind 18 = .ok (.iconst 0, 1) := by decide +kernel
theorem dX4_readKind_19 : decode cX4_readKind 19 = .ok (.ireturn, 1) := by decide +kernel
theorem dX4_readKind_20 : decode cX4_readKind 20 = .ok (.aload_n 0, 1) := by decide +kernel
theorem dX4_readKind_21 : decode cX4_readKind 21 = .ok (.dup, 1) := by decide +kernel
theorem dX4_readKind_22 : decode cX4_readKind 22 = .ok (.getfield 23, 3) := by decide +kernel
theorem dX4_readKind_25 : decode cX4_readKind 25 = .ok (.iconst 1, 1) := by decide +kernel
theorem dX4_readKind_26 : decode cX4_readKind 26 = .ok (.iadd, 1) := by decide +kernel
theorem dX4_readKind_27 : decode cX4_readKind 27 = .ok (.putfield 23, 3) := by decide +kernel
theorem dX4_readKind_30 : decode cX4_readKind 30 = .ok (.iconst 1, 1) := by decide +kernel
theorem dX4_readKind_31 : decode cX4_readKind 31 = .ok (.ireturn, 1) := by decide +kernel
set_option maxRecDepth 20000 in
theorem ggX4_readTwoDigits_X4_readNumber : GoodIn wsX4_readTwoDigits wsX4_readNumber := goodIn_r _ [7, 8, 9, 10, 11, 12, 13, 14, 15, 6, 16, 17, 18, 19, 20, 21, 22, 23, 24, 25] (by decide +kernel) (by decide +kernel)
set_option maxRecDepth 20000 in
theorem gX4_readTwoDigits_X4_readNumber : GoodIn wsX4_readTwoDigits (wsV RX4 90 RX4 yX4_readNumber wsX4_readNumber) := goodIn_app (goodIn_of _ (by decide +kernel)) ggX4_readTwoDigits_X4_readNumber
theorem dX4_readTwoDigits_0 : decode cX4_readTwoDigits 0 = .ok (.aload_n 0, 1) := by decide +kernel
theorem dX4_readTwoDigits_1 : decode cX4_readTwoDigits 1 = .ok (.aload_n 0, 1) := by decide +kernel
theorem dX4_readTwoDigits_2 : decode cX4_readTwoDigits 2 = .ok (.iconst 1, 1) := by decide +kernel
theorem dX4_readTwoDigits_3 : decode cX4_readTwoDigits 3 = .ok (.invokevirtual 90, 3) := by decide +kernel
theorem dX4_readTwoDigits_6 : decode cX4_readTwoDigits 6 = .ok (.putfield 40, 3) := by decide +kernel
theorem dX4_readTwoDigits_9 : decode cX4_readTwoDigits 9 = .ok (.aload_n 0, 1) := by decide +kernel
theorem dX4_readTwoDigits_10 : decode cX4_readTwoDigits 10 = .ok (.getfield 40, 3) := by decide +kernel
theorem dX4_readTwoDigits_13 : decode cX4_readTwoDigits 13 = .ok (.ifCond .ge 5, 3) := by decide +kernel
theorem dX4_readTwoDigits_16 : decode cX4_readTwoDigits 16 = .ok (.iconst 0, 1) := by decide +kernel
theorem dX4_readTwoDigits_17 : decode cX4_readTwoDigits 17 = .ok (.ireturn, 1) := by decide +kernel
theorem dX4_readTwoDigits_18 : decode cX4_readTwoDigits 18 = .ok (.aload_n 0, 1) := by decide +kernel
theorem dX4_readTwoDigits_19 : decode cX4_readTwoDigits 19 = .ok (.aload_n 0, 1) := by decide +kernel
theorem dX4_readTwoDigits_20 : decode cX4_readTwoDigits 20 = .ok (.iconst 1, 1) := by decide +kernel
theorem dX4_readTwoDigits_21 : decode cX4_readTwoDigits 21 = .ok (.invokevirtual 90, 3) := by decide +kernel
theorem dX4_readTwoDigits_24 : decode cX4_readTwoDigits 24 = .ok (.putfield 43, 3) := by decide +kernel
theorem dX4_readTwoDigits_27 : decode cX4_readTwoDigits 27 = .ok (.aload_n 0, 1) := by decide +kernel
theorem dX4_readTwoDigits_28 : decode cX4_readTwoDigits 28 = .ok (.getfield 43, 3) := by decide +kernel
theorem dX4_readTwoDigits_31 : decode cX4_readTwoDigits 31 = .ok (.ifCond .lt 7, 3) := by decide +kernel
theorem dX4_readTwoDigits_34 : decode cX4_readTwoDigits 34 = .ok (.iconst 1, 1) := by decide +kernel
theorem dX4_readTwoDigits_35 : decode cX4_readTwoDigits 35 = .ok (.goto 4, 3) := by decide +kernel
theorem dX4_readTwoDigits_38 : decode cX4_readTwoDigits 38 = .ok (.iconst 0, 1) := by decide +kernel
theorem dX4_readTwoDigits_39 : decode cX4_readTwoDigits 39 = .ok (.ireturn, 1) := by decide +kernel
set_option maxRecDepth 20000 in
theorem ggX4_readNumber_X4_letterHere : GoodIn wsX4_readNumber wsX4_letterHere := goodIn_r _ [10, 5, 11, 12, 13, 14, 15, 16, 17, 18, 19] (by decide +kernel) (by decide +kernel)
set_option maxRecDepth 20000 in
theorem gX4_readNumber_X4_letterHere : GoodIn wsX4_readNumber (wsV RX4 72 RX4 yX4_letterHere wsX4_letterHere) := goodIn_app (goodIn_of _ (by decide +kernel)) ggX4_readNumber_X4_letterHere
theorem dX4_readNumber_0 : decode cX4_readNumber 0 = .ok (.iconst (-1), 1) := by decide +kernel
theorem dX4_readNumber_1 : decode cX4_readNumber 1 = .ok (.istore_n 2, 1) := by decide +kernel
theorem dX4_readNumber_2 : decode cX4_readNumber 2 = .ok (.aload_n 0, 1) := by decide +kernel
theorem dX4_readNumber_3 : decode cX4_readNumber 3 = .ok (.invokevirtual 72, 3) := by decide +kernel
theorem dX4_readNumber_6 : decode cX4_readNumber 6 = .ok (.istore_n 3, 1) := by decide +kernel
theorem dX4_readNumber_7 : decode cX4_readNumber 7 = .ok (.iconst 0, 1) := by decide +kernel
theorem dX4_readNumber_8 : decode cX4_readNumber 8 = .ok (.istore 4, 2) := by decide +kernel
theorem dX4_readNumber_10 : decode cX4_readNumber 10 = .ok (.iload 4, 2) := by decide +kernel
theorem dX4_readNumber_12 : decode cX4_readNumber 12 = .ok (.iload_n 1, 1) := by decide +kernel
theorem dX4_readNumber_13 : decode cX4_readNumber 13 = .ok (.if_icmp .ge 50, 3) := by decide +kernel
theorem dX4_readNumber_16 : decode cX4_readNumber 16 = .ok (.iload_n 3, 1) := by decide +kernel
theorem dX4_readNumber_17 : decode cX4_readNumber 17 = .ok (.bipush 48, 2) := by decide +kernel
theorem dX4_readNumber_19 : decode cX4_readNumber 19 = .ok (.if_icmp .lt 44, 3) := by decide +kernel
theorem dX4_readNumber_22 : decode cX4_readNumber 22 = .ok (.iload_n 3, 1) := by decide +kernel
theorem dX4_readNumber_23 : decode cX4_readNumber 23 = .ok (.bipush 57, 2) := by decide +kernel
theorem dX4_readNumber_25 : decode cX4_readNumber 25 = .ok (.if_icmp .gt 38, 3) := by decide +kernel
theorem dX4_readNumber_28 : decode cX4_readNumber 28 = .ok (.bipush 10, 2) := by decide +kernel
theorem dX4_readNumber_30 : decode cX4_readNumber 30 = .ok (.iconst 0, 1) := by decide +kernel
theorem dX4_readNumber_31 : decode cX4_readNumber 31 = .ok (.iload_n 2, 1) := by decide +kernel
theorem dX4_readNumber_32 : decode cX4_readNumber 32 = .ok (.invokestatic 97, 3) := by decide +kernel
theorem dX4_readNumber_35 : decode cX4_readNumber 35 = .ok (.imul, 1) := by decide +kernel
theorem dX4_readNumber_36 : decode cX4_readNumber 36 = .ok (.iload_n 3, 1) := by decide +kernel
theorem dX4_readNumber_37 : decode cX4_readNumber 37 = .ok (.iadd, 1) := by decide +kernel
theorem dX4_readNumber_38 : decode cX4_readNumber 38 = .ok (.bipush 48, 2) := by decide +kernel
theorem dX4_readNumber_40 : decode cX4_readNumber 40 = .ok (.isub, 1) := by decide +kernel
theorem dX4_readNumber_41 : decode cX4_readNumber 41 = .ok (.istore_n 2, 1) := by decide +kernel
theorem dX4_readNumber_42 : decode cX4_readNumber 42 = .ok (.aload_n 0, 1) := by decide +kernel
theorem dX4_readNumber_43 : decode cX4_readNumber 43 = .ok (.dup, 1) := by decide +kernel
theorem dX4_readNumber_44 : decode cX4_readNumber 44 = .ok (.getfield 23, 3) := by decide +kernel
theorem dX4_readNumber_47 : decode cX4_readNumber 47 = .ok (.iconst 1, 1) := by decide +kernel
theorem dX4_readNumber_48 : decode cX4_readNumber 48 = .ok (.iadd, 1) := by decide +kernel
theorem dX4_readNumber_49 : decode cX4_readNumber 49 = .ok (.putfield 23, 3) := by decide +kernel
theorem dX4_readNumber_52 : decode cX4_readNumber 52 = .ok (.aload_n 0, 1) := by decide +kernel
theorem dX4_readNumber_53 : decode cX4_readNumber 53 = .ok (.invokevirtual 72, 3) := by decide +kernel
theorem dX4_readNumber_56 : decode cX4_readNumber 56 = .ok (.istore_n 3, 1) := by decide +kernel
theorem dX4_readNumber_57 : decode cX4_readNumber 57 = .ok (.iinc 4 1, 3) := by decide +kernel
theorem dX4_readNumber_60 : decode cX4_readNumber 60 = .ok (.goto (-50), 3) := by decide +kernel
theorem dX4_readNumber_63 : decode cX4_readNumber 63 = .ok (.iload_n 2, 1) := by decide +kernel
theorem dX4_readNumber_64 : decode cX4_readNumber 64 = .ok (.ireturn, 1) := by decide +kernel
set_option maxRecDepth 20000 in
theorem ggX4_passLetter_X4_letterHere : GoodIn wsX4_passLetter wsX4_letterHere := goodIn_r _ [6, 1, 7, 8, 9, 10, 11, 12, 13, 14, 15] (by decide +kernel) (by decide +kernel)
set_option maxRecDepth 20000 in
theorem gX4_passLetter_X4_letterHere : GoodIn wsX4_passLetter (wsV RX4 72 RX4 yX4_letterHere wsX4_letterHere) := goodIn_app (goodIn_of _ (by decide +kernel)) ggX4_passLetter_X4_letterHere
theorem dX4_passLetter_0 : decode cX4_passLetter 0 = .ok (.aload_n 0, 1) := by decide +kernel
theorem dX4_passLetter_1 : decode cX4_passLetter 1 = .ok (.invokevirtual 72, 3) := by decide +kernel
theorem dX4_passLetter_4 : decode cX4_passLetter 4 = .ok (.iload_n 1, 1) := by decide +kernel
theorem dX4_passLetter_5 : decode cX4_passLetter 5 = .ok (.if_icmp .eq 5, 3) := by decide +kernel
theorem dX4_passLetter_8 : decode cX4_passLetter 8 = .ok (.iconst 0, 1) := by decide +kernel
theorem dX4_passLetter_9 : decode cX4_passLetter 9 = .ok (.ireturn, 1) := by decide +kernel
theorem dX4_passLetter_10 : decode cX4_passLetter 10 = .ok (.aload_n 0, 1) := by decide +kernel
theorem dX4_passLetter_11 : decode cX4_passLetter 11 = .ok (.dup, 1) := by decide +kernel
theorem dX4_passLetter_12 : decode cX4_passLetter 12 = .ok (.getfield 23, 3) := by decide +kernel
theorem dX4_passLetter_15 : decode cX4_passLetter 15 = .ok (.iconst 1, 1) := by decide +kernel
theorem dX4_passLetter_16 : decode cX4_passLetter 16 = .ok (.iadd, 1) := by decide +kernel
theorem dX4_passLetter_17 : decode cX4_passLetter 17 = .ok (.putfield 23, 3) := by decide +kernel
theorem dX4_passLetter_20 : decode cX4_passLetter 20 = .ok (.iconst 1, 1) := by decide +kernel
theorem dX4_passLetter_21 : decode cX4_passLetter 21 = .ok (.ireturn, 1) := by decide +kernel
theorem dX4_letterHere_0 : decode cX4_letterHere 0 = .ok (.aload_n 0, 1) := by decide +kernel
theorem dX4_letterHere_1 : decode cX4_letterHere 1 = .ok (.getfield 23, 3) := by decide +kernel
theorem dX4_letterHere_4 : decode cX4_letterHere 4 = .ok (.ifCond .lt 35, 3) := by decide +kernel
theorem dX4_letterHere_7 : decode cX4_letterHere 7 = .ok (.aload_n 0, 1) := by decide +kernel
theorem dX4_letterHere_8 : decode cX4_letterHere 8 = .ok (.getfield 23, 3) := by decide +kernel
theorem dX4_letterHere_11 : decode cX4_letterHere 11 = .ok (.aload_n 0, 1) := by decide +kernel
theorem dX4_letterHere_12 : decode cX4_letterHere 12 = .ok (.getfield 15, 3) := by decide +kernel
theorem dX4_letterHere_15 : decode cX4_letterHere 15 = .ok (.if_icmp .ge 24, 3) := by decide +kernel
theorem dX4_letterHere_18 : decode cX4_letterHere 18 = .ok (.aload_n 0, 1) := by decide +kernel
theorem dX4_letterHere_19 : decode cX4_letterHere 19 = .ok (.getfield 23, 3) := by decide +kernel
theorem dX4_letterHere_22 : decode cX4_letterHere 22 = .ok (.bipush 80, 2) := by decide +kernel
theorem dX4_letterHere_24 : decode cX4_letterHere 24 = .ok (.if_icmp .ge 15, 3) := by decide +kernel
theorem dX4_letterHere_27 : decode cX4_letterHere 27 = .ok (.aload_n 0, 1) := by decide +kernel
theorem dX4_letterHere_28 : decode cX4_letterHere 28 = .ok (.getfield 9, 3) := by decide +kernel
theorem dX4_letterHere_31 : decode cX4_letterHere 31 = .ok (.aload_n 0, 1) := by decide +kernel
theorem dX4_letterHere_32 : decode cX4_letterHere 32 = .ok (.getfield 23, 3) := by decide +kernel
theorem dX4_letterHere_35 : decode cX4_letterHere 35 = .ok (.iaload, 1) := by decide +kernel
theorem dX4_letterHere_36 : decode cX4_letterHere 36 = .ok (.goto 4, 3) := by decide +kernel
theorem dX4_letterHere_39 : decode cX4_letterHere 39 = .ok (.iconst (-1), 1) := by decide +kernel
theorem dX4_letterHere_40 : decode cX4_letterHere 40 = .ok (.ireturn, 1) := by decide +kernel
theorem dX4_kindOfLetter_0 : decode cX4_kindOfLetter 0 = .ok (.iload_n 0, 1) := by decide +kernel
theorem dX4_kindOfLetter_1 : decode cX4_kindOfLetter 1 = .ok (.lookupswitch 71 #[(98, 61), (107, 69), (108, 67), (112, 59), (115, 65), (119, 63)], 59) := by decide +kernel
theorem dX4_kindOfLetter_60 : decode cX4_kindOfLetter 60 = .ok (.iconst 0, 1) := by decide +kernel
theorem dX4_kindOfLetter_61 : decode cX4_kindOfLetter 61 = .ok (.ireturn, 1) := by decide +kernel
theorem dX4_kindOfLetter_62 : decode cX4_kindOfLetter 62 = .ok (.iconst 1, 1) := by decide +kernel
theorem dX4_kindOfLetter_63 : decode cX4_kindOfLetter 63 = .ok (.ireturn, 1) := by decide +kernel
theorem dX4_kindOfLetter_64 : decode cX4_kindOfLetter 64 = .ok (.iconst 2, 1) := by decide +kernel
theorem dX4_kindOfLetter_65 : decode cX4_kindOfLetter 65 = .ok (.ireturn, 1) := by decide +kernel
theorem dX4_kindOfLetter_66 : decode cX4_kindOfLetter 66 = .ok (.iconst 3, 1) := by decide +kernel
theorem dX4_kindOfLetter_67 : decode cX4_kindOfLetter 67 = .ok (.ireturn, 1) := by decide +kernel
theorem dX4_kindOfLetter_68 : decode cX4_kindOfLetter 68 = .ok (.iconst 4, 1) := by decide +kernel
theorem dX4_kindOfLetter_69 : decode cX4_kindOfLetter 69 = .ok (.ireturn, 1) := by decide +kernel
theorem dX4_kindOfLetter_70 : decode cX4_kindOfLetter 70 = .ok (.iconst 5, 1) := by decide +kernel
theorem dX4_kindOfLetter_71 : decode cX4_kindOfLetter 71 = .ok (.ireturn, 1) := by decide +kernel
theorem dX4_kindOfLetter_72 : decode cX4_kindOfLetter 72 = .ok (.iconst (-1), 1) := by decide +kernel
theorem dX4_kindOfLetter_73 : decode cX4_kindOfLetter 73 = .ok (.ireturn, 1) := by decide +kernel
