theorem dX0_init_0 : decode cX0_init 0 = .ok (.aload_n 0, 1) := by decide +kernel
theorem dX0_init_1 : decode cX0_init 1 = .ok (.invokespecial 1, 3) := by decide +kernel
theorem dX0_init_4 : decode cX0_init 4 = .ok (.aload_n 0, 1) := by decide +kernel
theorem dX0_init_5 : decode cX0_init 5 = .ok (.sipush 144, 3) := by decide +kernel
theorem dX0_init_8 : decode cX0_init 8 = .ok (.newarray .int, 2) := by decide +kernel
theorem dX0_init_10 : decode cX0_init 10 = .ok (.putfield 9, 3) := by decide +kernel
theorem dX0_init_13 : decode cX0_init 13 = .ok (.aload_n 0, 1) := by decide +kernel
theorem dX0_init_14 : decode cX0_init 14 = .ok (.iconst 1, 1) := by decide +kernel
theorem dX0_init_15 : decode cX0_init 15 = .ok (.putfield 13, 3) := by decide +kernel
theorem dX0_init_18 : decode cX0_init 18 = .ok (.return_, 1) := by decide +kernel
theorem dX0_begin_0 : decode cX0_begin 0 = .ok (.aload_n 0, 1) := by decide +kernel
theorem dX0_begin_1 : decode cX0_begin 1 = .ok (.iload_n 1, 1) := by decide +kernel
theorem dX0_begin_2 : decode cX0_begin 2 = .ok (.putfield 17, 3) := by decide +kernel
theorem dX0_begin_5 : decode cX0_begin 5 = .ok (.aload_n 0, 1) := by decide +kernel
theorem dX0_begin_6 : decode cX0_begin 6 = .ok (.iload_n 2, 1) := by decide +kernel
theorem dX0_begin_7 : decode cX0_begin 7 = .ok (.putfield 20, 3) := by decide +kernel
theorem dX0_begin_10 : decode cX0_begin 10 = .ok (.aload_n 0, 1) := by decide +kernel
theorem dX0_begin_11 : decode cX0_begin 11 = .ok (.iload_n 3, 1) := by decide +kernel
theorem dX0_begin_12 : decode cX0_begin 12 = .ok (.putfield 13, 3) := by decide +kernel
theorem dX0_begin_15 : decode cX0_begin 15 = .ok (.return_, 1) := by decide +kernel
theorem dX0_has_0 : decode cX0_has 0 = .ok (.iload_n 1, 1) := by decide +kernel
theorem dX0_has_1 : decode cX0_has 1 = .ok (.ifCond .lt 39, 3) := by decide +kernel
theorem dX0_has_4 : decode cX0_has 4 = .ok (.iload_n 1, 1) := by decide +kernel
theorem dX0_has_5 : decode cX0_has 5 = .ok (.aload_n 0, 1) := by decide +kernel
theorem dX0_has_6 : decode cX0_has 6 = .ok (.getfield 17, 3) := by decide +kernel
theorem dX0_has_9 : decode cX0_has 9 = .ok (.if_icmp .ge 31, 3) := by decide +kernel
theorem dX0_has_12 : decode cX0_has 12 = .ok (.iload_n 1, 1) := by decide +kernel
theorem dX0_has_13 : decode cX0_has 13 = .ok (.bipush 9, 2) := by decide +kernel
theorem dX0_has_15 : decode cX0_has 15 = .ok (.if_icmp .ge 25, 3) := by decide +kernel
theorem dX0_has_18 : decode cX0_has 18 = .ok (.iload_n 2, 1) := by decide +kernel
theorem dX0_has_19 : decode cX0_has 19 = .ok (.ifCond .lt 21, 3) := by decide +kernel
theorem dX0_has_22 : decode cX0_has 22 = .ok (.iload_n 2, 1) := by decide +kernel
theorem dX0_has_23 : decode cX0_has 23 = .ok (.aload_n 0, 1) := by decide +kernel
theorem dX0_has_24 : decode cX0_has 24 = .ok (.getfield 20, 3) := by decide +kernel
theorem dX0_has_27 : decode cX0_has 27 = .ok (.if_icmp .ge 13, 3) := by decide +kernel
theorem dX0_has_30 : decode cX0_has 30 = .ok (.iload_n 2, 1) := by decide +kernel
theorem dX0_has_31 : decode cX0_has 31 = .ok (.bipush 16, 2) := by decide +kernel
theorem dX0_has_33 : decode cX0_has 33 = .ok (.if_icmp .ge 7, 3) := by decide +kernel
theorem dX0_has_36 : decode cX0_has 36 = .ok (.iconst 1, 1) := by decide +kernel
theorem dX0_has_37 : decode cX0_has 37 = .ok (.goto 4, 3) := by decide +kernel
theorem dX0_has_40 : decode cX0_has 40 = .ok (.iconst 0, 1) := by decide +kernel
theorem dX0_has_41 : decode cX0_has 41 = .ok (.ireturn, 1) := by decide +kernel
set_option maxRecDepth 20000 in
theorem ggX0_get_X0_has : GoodIn wsX0_get wsX0_has := goodIn_r _ [6, 7, 8, 9, 10, 11, 12] (by decide +kernel) (by decide +kernel)
set_option maxRecDepth 20000 in
theorem gX0_get_X0_has : GoodIn wsX0_get (wsV RX0 23 RX0 yX0_has wsX0_has) := goodIn_app (goodIn_of _ (by decide +kernel)) ggX0_get_X0_has
theorem dX0_get_0 : decode cX0_get 0 = .ok (.aload_n 0, 1) := by decide +kernel
theorem dX0_get_1 : decode cX0_get 1 = .ok (.iload_n 1, 1) := by decide +kernel
theorem dX0_get_2 : decode cX0_get 2 = .ok (.iload_n 2, 1) := by decide +kernel
theorem dX0_get_3 : decode cX0_get 3 = .ok (.invokevirtual 23, 3) := by decide +kernel
theorem dX0_get_6 : decode cX0_get 6 = .ok (.ifCond .eq 17, 3) := by decide +kernel
theorem dX0_get_9 : decode cX0_get 9 = .ok (.aload_n 0, 1) := by decide +kernel
theorem dX0_get_10 : decode cX0_get 10 = .ok (.getfield 9, 3) := by decide +kernel
theorem dX0_get_13 : decode cX0_get 13 = .ok (.iload_n 1, 1) := by decide +kernel
theorem dX0_get_14 : decode cX0_get 14 = .ok (.bipush 16, 2) := by decide +kernel
theorem dX0_get_16 : decode cX0_get 16 = .ok (.imul, 1) := by decide +kernel
theorem dX0_get_17 : decode cX0_get 17 = .ok (.iload_n 2, 1) := by decide +kernel
theorem dX0_get_18 : decode cX0_get 18 = .ok (.iadd, 1) := by decide +kernel
theorem dX0_get_19 : decode cX0_get 19 = .ok (.iaload, 1) := by decide +kernel
theorem dX0_get_20 : decode cX0_get 20 = .ok (.goto 4, 3) := by decide +kernel
theorem dX0_get_23 : decode cX0_get 23 = .ok (.iconst 0, 1) := by decide +kernel
theorem dX0_get_24 : decode cX0_get 24 = .ok (.ireturn, 1) := by decide +kernel
set_option maxRecDepth 20000 in
theorem ggX0_set_X0_has : GoodIn wsX0_set wsX0_has := goodIn_r _ [6, 7, 8, 9, 10, 11, 12] (by decide +kernel) (by decide +kernel)
set_option maxRecDepth 20000 in
theorem gX0_set_X0_has : GoodIn wsX0_set (wsV RX0 23 RX0 yX0_has wsX0_has) := goodIn_app (goodIn_of _ (by decide +kernel)) ggX0_set_X0_has
theorem dX0_set_0 : decode cX0_set 0 = .ok (.aload_n 0, 1) := by decide +kernel
theorem dX0_set_1 : decode cX0_set 1 = .ok (.iload_n 1, 1) := by decide +kernel
theorem dX0_set_2 : decode cX0_set 2 = .ok (.iload_n 2, 1) := by decide +kernel
theorem dX0_set_3 : decode cX0_set 3 = .ok (.invokevirtual 23, 3) := by decide +kernel
theorem dX0_set_6 : decode cX0_set 6 = .ok (.ifCond .eq 15, 3) := by decide +kernel
theorem dX0_set_9 : decode cX0_set 9 = .ok (.aload_n 0, 1) := by decide +kernel
theorem dX0_set_10 : decode cX0_set 10 = .ok (.getfield 9, 3) := by decide +kernel
theorem dX0_set_13 : decode cX0_set 13 = .ok (.iload_n 1, 1) := by decide +kernel
theorem dX0_set_14 : decode cX0_set 14 = .ok (.bipush 16, 2) := by decide +kernel
theorem dX0_set_16 : decode cX0_set 16 = .ok (.imul, 1) := by decide +kernel
theorem dX0_set_17 : decode cX0_set 17 = .ok (.iload_n 2, 1) := by decide +kernel
theorem dX0_set_18 : decode cX0_set 18 = .ok (.iadd, 1) := by decide +kernel
theorem dX0_set_19 : decode cX0_set 19 = .ok (.iload_n 3, 1) := by decide +kernel
theorem dX0_set_20 : decode cX0_set 20 = .ok (.iastore, 1) := by decide +kernel
theorem dX0_set_21 : decode cX0_set 21 = .ok (.return_, 1) := by decide +kernel
theorem dX0_middle_0 : decode cX0_middle 0 = .ok (.aload_n 0, 1) := by decide +kernel
theorem dX0_middle_1 : decode cX0_middle 1 = .ok (.getfield 17, 3) := by decide +kernel
theorem dX0_middle_4 : decode cX0_middle 4 = .ok (.iconst 1, 1) := by decide +kernel
theorem dX0_middle_5 : decode cX0_middle 5 = .ok (.isub, 1) := by decide +kernel
theorem dX0_middle_6 : decode cX0_middle 6 = .ok (.iconst 2, 1) := by decide +kernel
theorem dX0_middle_7 : decode cX0_middle 7 = .ok (.idiv, 1) := by decide +kernel
theorem dX0_middle_8 : decode cX0_middle 8 = .ok (.ireturn, 1) := by decide +kernel
set_option maxRecDepth 20000 in
theorem ggX0_xOf_X0_middle : GoodIn wsX0_xOf wsX0_middle := goodIn_r _ [6, 7, 8, 9, 10, 11] (by decide +kernel) (by decide +kernel)
set_option maxRecDepth 20000 in
theorem gX0_xOf_X0_middle : GoodIn wsX0_xOf (wsV RX0 27 RX0 yX0_middle wsX0_middle) := goodIn_app (goodIn_of _ (by decide +kernel)) ggX0_xOf_X0_middle
theorem dX0_xOf_0 : decode cX0_xOf 0 = .ok (.iload_n 2, 1) := by decide +kernel
theorem dX0_xOf_1 : decode cX0_xOf 1 = .ok (.aload_n 0, 1) := by decide +kernel
theorem dX0_xOf_2 : decode cX0_xOf 2 = .ok (.getfield 13, 3) := by decide +kernel
theorem dX0_xOf_5 : decode cX0_xOf 5 = .ok (.imul, 1) := by decide +kernel
theorem dX0_xOf_6 : decode cX0_xOf 6 = .ok (.iload_n 1, 1) := by decide +kernel
theorem dX0_xOf_7 : decode cX0_xOf 7 = .ok (.aload_n 0, 1) := by decide +kernel
theorem dX0_xOf_8 : decode cX0_xOf 8 = .ok (.invokevirtual 27, 3) := by decide +kernel
theorem dX0_xOf_11 : decode cX0_xOf 11 = .ok (.isub, 1) := by decide +kernel
theorem dX0_xOf_12 : decode cX0_xOf 12 = .ok (.imul, 1) := by decide +kernel
theorem dX0_xOf_13 : decode cX0_xOf 13 = .ok (.bipush 8, 2) := by decide +kernel
theorem dX0_xOf_15 : decode cX0_xOf 15 = .ok (.idiv, 1) := by decide +kernel
theorem dX0_xOf_16 : decode cX0_xOf 16 = .ok (.ireturn, 1) := by decide +kernel
set_option maxRecDepth 20000 in
theorem ggX0_laidAt_X0_middle : GoodIn wsX0_laidAt wsX0_middle := goodIn_r _ [8, 2, 18, 19, 20, 21] (by decide +kernel) (by decide +kernel)
set_option maxRecDepth 20000 in
theorem gX0_laidAt_X0_middle : GoodIn wsX0_laidAt (wsV RX0 27 RX0 yX0_middle wsX0_middle) := goodIn_app (goodIn_of _ (by decide +kernel)) ggX0_laidAt_X0_middle
set_option maxRecDepth 20000 in
theorem ggX0_laidAt_X0_get : GoodIn wsX0_laidAt wsX0_get := goodIn_r _ [12, 13, 14, 15, 16, 7, 17, 2, 3, 18, 19, 20, 21] (by decide +kernel) (by decide +kernel)
set_option maxRecDepth 20000 in
theorem gX0_laidAt_X0_get : GoodIn wsX0_laidAt (wsV RX0 31 RX0 yX0_get wsX0_get) := goodIn_app (goodIn_of _ (by decide +kernel)) ggX0_laidAt_X0_get
theorem dX0_laidAt_0 : decode cX0_laidAt 0 = .ok (.aload_n 0, 1) := by decide +kernel
theorem dX0_laidAt_1 : decode cX0_laidAt 1 = .ok (.getfield 13, 3) := by decide +kernel
theorem dX0_laidAt_4 : decode cX0_laidAt 4 = .ok (.iconst 1, 1) := by decide +kernel
theorem dX0_laidAt_5 : decode cX0_laidAt 5 = .ok (.if_icmp .ge 5, 3) := by decide +kernel
theorem dX0_laidAt_8 : decode cX0_laidAt 8 = .ok (.iconst 0, 1) := by decide +kernel
theorem dX0_laidAt_9 : decode cX0_laidAt 9 = .ok (.ireturn, 1) := by decide +kernel
theorem dX0_laidAt_10 : decode cX0_laidAt 10 = .ok (.bipush 16, 2) := by decide +kernel
theorem dX0_laidAt_12 : decode cX0_laidAt 12 = .ok (.iload_n 2, 1) := by decide +kernel
theorem dX0_laidAt_13 : decode cX0_laidAt 13 = .ok (.imul, 1) := by decide +kernel
theorem dX0_laidAt_14 : decode cX0_laidAt 14 = .ok (.aload_n 0, 1) := by decide +kernel
theorem dX0_laidAt_15 : decode cX0_laidAt 15 = .ok (.getfield 13, 3) := by decide +kernel
theorem dX0_laidAt_18 : decode cX0_laidAt 18 = .ok (.idiv, 1) := by decide +kernel
theorem dX0_laidAt_19 : decode cX0_laidAt 19 = .ok (.istore_n 3, 1) := by decide +kernel
theorem dX0_laidAt_20 : decode cX0_laidAt 20 = .ok (.bipush 16, 2) := by decide +kernel
theorem dX0_laidAt_22 : decode cX0_laidAt 22 = .ok (.aload_n 0, 1) := by decide +kernel
theorem dX0_laidAt_23 : decode cX0_laidAt 23 = .ok (.invokevirtual 27, 3) := by decide +kernel
theorem dX0_laidAt_26 : decode cX0_laidAt 26 = .ok (.imul, 1) := by decide +kernel
theorem dX0_laidAt_27 : decode cX0_laidAt 27 = .ok (.iload_n 2, 1) := by decide +kernel
theorem dX0_laidAt_28 : decode cX0_laidAt 28 = .ok (.ifCond .ne 7, 3) := by decide +kernel
theorem dX0_laidAt_31 : decode cX0_laidAt 31 = .ok (.iconst 0, 1) := by decide +kernel
theorem dX0_laidAt_32 : decode cX0_laidAt 32 = .ok (.goto 10, 3) := by decide +kernel
theorem dX0_laidAt_35 : decode cX0_laidAt 35 = .ok (.sipush 128, 3) := by decide +kernel
theorem dX0_laidAt_38 : decode cX0_laidAt 38 = .ok (.iload_n 1, 1) := by decide +kernel
theorem dX0_laidAt_39 : decode cX0_laidAt 39 = .ok (.imul, 1) := by decide +kernel
theorem dX0_laidAt_40 : decode cX0_laidAt 40 = .ok (.iload_n 2, 1) := by decide +kernel
theorem dX0_laidAt_41 : decode cX0_laidAt 41 = .ok (.idiv, 1) := by decide +kernel
theorem dX0_laidAt_42 : decode cX0_laidAt 42 = .ok (.iadd, 1) := by decide +kernel
theorem dX0_laidAt_43 : decode cX0_laidAt 43 = .ok (.istore 4, 2) := by decide +kernel
theorem dX0_laidAt_45 : decode cX0_laidAt 45 = .ok (.iload 4, 2) := by decide +kernel
theorem dX0_laidAt_47 : decode cX0_laidAt 47 = .ok (.ifCond .lt 34, 3) := by decide +kernel
theorem dX0_laidAt_50 : decode cX0_laidAt 50 = .ok (.iload 4, 2) := by decide +kernel
theorem dX0_laidAt_52 : decode cX0_laidAt 52 = .ok (.bipush 16, 2) := by decide +kernel
theorem dX0_laidAt_54 : decode cX0_laidAt 54 = .ok (.aload_n 0, 1) := by decide +kernel
theorem dX0_laidAt_55 : decode cX0_laidAt 55 = .ok (.getfield 17, 3) := by decide +kernel
theorem dX0_laidAt_58 : decode cX0_laidAt 58 = .ok (.iconst 1, 1) := by decide +kernel
theorem dX0_laidAt_59 : decode cX0_laidAt 59 = .ok (.isub, 1) := by decide +kernel
theorem dX0_laidAt_60 : decode cX0_laidAt 60 = .ok (.imul, 1) := by decide +kernel
theorem dX0_laidAt_61 : decode cX0_laidAt 61 = .ok (.if_icmp .gt 20, 3) := by decide +kernel
theorem dX0_laidAt_64 : decode cX0_laidAt 64 = .ok (.iload_n 3, 1) := by decide +kernel
theorem dX0_laidAt_65 : decode cX0_laidAt 65 = .ok (.ifCond .lt 16, 3) := by decide +kernel
theorem dX0_laidAt_68 : decode cX0_laidAt 68 = .ok (.iload_n 3, 1) := by decide +kernel
theorem dX0_laidAt_69 : decode cX0_laidAt 69 = .ok (.bipush 16, 2) := by decide +kernel
theorem dX0_laidAt_71 : decode cX0_laidAt 71 = .ok (.aload_n 0, 1) := by decide +kernel
theorem dX0_laidAt_72 : decode cX0_laidAt 72 = .ok (.getfield 20, 3) := by decide +kernel
theorem dX0_laidAt_75 : decode cX0_laidAt 75 = .ok (.iconst 1, 1) := by decide +kernel
theorem dX0_laidAt_76 : decode cX0_laidAt 76 = .ok (.isub, 1) := by decide +kernel
theorem dX0_laidAt_77 : decode cX0_laidAt 77 = .ok (.imul, 1) := by decide +kernel
theorem dX0_laidAt_78 : decode cX0_laidAt 78 = .ok (.if_icmp .le 5, 3) := by decide +kernel
theorem dX0_laidAt_81 : decode cX0_laidAt 81 = .ok (.iconst 0, 1) := by decide +kernel
theorem dX0_laidAt_82 : decode cX0_laidAt 82 = .ok (.ireturn, 1) := by decide +kernel
theorem dX0_laidAt_83 : decode cX0_laidAt 83 = .ok (.iload_n 3, 1) := by decide +kernel
theorem dX0_laidAt_84 : decode cX0_laidAt 84 = .ok (.bipush 16, 2) := by decide +kernel
theorem dX0_laidAt_86 : decode cX0_laidAt 86 = .ok (.idiv, 1) := by decide +kernel
theorem dX0_laidAt_87 : decode cX0_laidAt 87 = .ok (.istore 5, 2) := by decide +kernel
theorem dX0_laidAt_89 : decode cX0_laidAt 89 = .ok (.iload_n 3, 1) := by decide +kernel
theorem dX0_laidAt_90 : decode cX0_laidAt 90 = .ok (.bipush 16, 2) := by decide +kernel
theorem dX0_laidAt_92 : decode cX0_laidAt 92 = .ok (.irem, 1) := by decide +kernel
theorem dX0_laidAt_93 : decode cX0_laidAt 93 = .ok (.istore 6, 2) := by decide +kernel
theorem dX0_laidAt_95 : decode cX0_laidAt 95 = .ok (.iload 4, 2) := by decide +kernel
theorem dX0_laidAt_97 : decode cX0_laidAt 97 = .ok (.bipush 16, 2) := by decide +kernel
theorem dX0_laidAt_99 : decode cX0_laidAt 99 = .ok (.idiv, 1) := by decide +kernel
theorem dX0_laidAt_100 : decode cX0_laidAt 100 = .ok (.istore 7, 2) := by decide +kernel
theorem dX0_laidAt_102 : decode cX0_laidAt 102 = .ok (.iload 4, 2) := by decide +kernel
theorem dX0_laidAt_104 : decode cX0_laidAt 104 = .ok (.bipush 16, 2) := by decide +kernel
theorem dX0_laidAt_106 : decode cX0_laidAt 106 = .ok (.irem, 1) := by decide +kernel
theorem dX0_laidAt_107 : decode cX0_laidAt 107 = .ok (.istore 8, 2) := by decide +kernel
theorem dX0_laidAt_109 : decode cX0_laidAt 109 = .ok (.bipush 16, 2) := by decide +kernel
theorem dX0_laidAt_111 : decode cX0_laidAt 111 = .ok (.iload 8, 2) := by decide +kernel
theorem dX0_laidAt_113 : decode cX0_laidAt 113 = .ok (.isub, 1) := by decide +kernel
theorem dX0_laidAt_114 : decode cX0_laidAt 114 = .ok (.bipush 16, 2) := by decide +kernel
theorem dX0_laidAt_116 : decode cX0_laidAt 116 = .ok (.iload 6, 2) := by decide +kernel
theorem dX0_laidAt_118 : decode cX0_laidAt 118 = .ok (.isub, 1) := by decide +kernel
theorem dX0_laidAt_119 : decode cX0_laidAt 119 = .ok (.imul, 1) := by decide +kernel
theorem dX0_laidAt_120 : decode cX0_laidAt 120 = .ok (.aload_n 0, 1) := by decide +kernel
theorem dX0_laidAt_121 : decode cX0_laidAt 121 = .ok (.iload 7, 2) := by decide +kernel
theorem dX0_laidAt_123 : decode cX0_laidAt 123 = .ok (.iload 5, 2) := by decide +kernel
theorem dX0_laidAt_125 : decode cX0_laidAt 125 = .ok (.invokevirtual 31, 3) := by decide +kernel
theorem dX0_laidAt_128 : decode cX0_laidAt 128 = .ok (.imul, 1) := by decide +kernel
theorem dX0_laidAt_129 : decode cX0_laidAt 129 = .ok (.iload 8, 2) := by decide +kernel
theorem dX0_laidAt_131 : decode cX0_laidAt 131 = .ok (.bipush 16, 2) := by decide +kernel
theorem dX0_laidAt_133 : decode cX0_laidAt 133 = .ok (.iload 6, 2) := by decide +kernel
theorem dX0_laidAt_135 : decode cX0_laidAt 135 = .ok (.isub, 1) := by decide +kernel
theorem dX0_laidAt_136 : decode cX0_laidAt 136 = .ok (.imul, 1) := by decide +kernel
theorem dX0_laidAt_137 : decode cX0_laidAt 137 = .ok (.aload_n 0, 1) := by decide +kernel
theorem dX0_laidAt_138 : decode cX0_laidAt 138 = .ok (.iload 7, 2) := by decide +kernel
theorem dX0_laidAt_140 : decode cX0_laidAt 140 = .ok (.iconst 1, 1) := by decide +kernel
theorem dX0_laidAt_141 : decode cX0_laidAt 141 = .ok (.iadd, 1) := by decide +kernel
theorem dX0_laidAt_142 : decode cX0_laidAt 142 = .ok (.iload 5, 2) := by decide +kernel
theorem dX0_laidAt_144 : decode cX0_laidAt 144 = .ok (.invokevirtual 31, 3) := by decide +kernel
theorem dX0_laidAt_147 : decode cX0_laidAt 147 = .ok (.imul, 1) := by decide +kernel
theorem dX0_laidAt_148 : decode cX0_laidAt 148 = .ok (.iadd, 1) := by decide +kernel
theorem dX0_laidAt_149 : decode cX0_laidAt 149 = .ok (.istore 9, 2) := by decide +kernel
theorem dX0_laidAt_151 : decode cX0_laidAt 151 = .ok (.bipush 16, 2) := by decide +kernel
theorem dX0_laidAt_153 : decode cX0_laidAt 153 = .ok (.iload 8, 2) := by decide +kernel
theorem dX0_laidAt_155 : decode cX0_laidAt 155 = .ok (.isub, 1) := by decide +kernel
theorem dX0_laidAt_156 : decode cX0_laidAt 156 = .ok (.iload 6, 2) := by decide +kernel
theorem dX0_laidAt_158 : decode cX0_laidAt 158 = .ok (.imul, 1) := by decide +kernel
theorem dX0_laidAt_159 : decode cX0_laidAt 159 = .ok (.aload_n 0, 1) := by decide +kernel
theorem dX0_laidAt_160 : decode cX0_laidAt 160 = .ok (.iload 7, 2) := by decide +kernel
theorem dX0_laidAt_162 : decode cX0_laidAt 162 = .ok (.iload 5, 2) := by decide +kernel
theorem dX0_laidAt_164 : decode cX0_laidAt 164 = .ok (.iconst 1, 1) := by decide +kernel
theorem dX0_laidAt_165 : decode cX0_laidAt 165 = .ok (.iadd, 1) := by decide +kernel
theorem dX0_laidAt_166 : decode cX0_laidAt 166 = .ok (.invokevirtual 31, 3) := by decide +kernel
theorem dX0_laidAt_169 : decode cX0_laidAt 169 = .ok (.imul, 1) := by decide +kernel
theorem dX0_laidAt_170 : decode cX0_laidAt 170 = .ok (.iload 8, 2) := by decide +kernel
theorem dX0_laidAt_172 : decode cX0_laidAt 172 = .ok (.iload 6, 2) := by decide +kernel
theorem dX0_laidAt_174 : decode cX0_laidAt 174 = .ok (.imul, 1) := by decide +kernel
theorem dX0_laidAt_175 : decode cX0_laidAt 175 = .ok (.aload_n 0, 1) := by decide +kernel
theorem dX0_laidAt_176 : decode cX0_laidAt 176 = .ok (.iload 7, 2) := by decide +kernel
theorem dX0_laidAt_178 : decode cX0_laidAt 178 = .ok (.iconst 1, 1) := by decide +kernel
theorem dX0_laidAt_179 : decode cX0_laidAt 179 = .ok (.iadd, 1) := by decide +kernel
theorem dX0_laidAt_180 : decode cX0_laidAt 180 = .ok (.iload 5, 2) := by decide +kernel
theorem dX0_laidAt_182 : decode cX0_laidAt 182 = .ok (.iconst 1, 1) := by decide +kernel
theorem dX0_laidAt_183 : decode cX0_laidAt 183 = .ok (.iadd, 1) := by decide +kernel
theorem dX0_laidAt_184 : decode cX0_laidAt 184 = .ok (.invokevirtual 31, 3) := by decide +kernel
theorem dX0_laidAt_187 : decode cX0_laidAt 187 = .ok (.imul, 1) := by decide +kernel
theorem dX0_laidAt_188 : decode cX0_laidAt 188 = .ok (.iadd, 1) := by decide +kernel
theorem dX0_laidAt_189 : decode cX0_laidAt 189 = .ok (.istore 10, 2) := by decide +kernel
theorem dX0_laidAt_191 : decode cX0_laidAt 191 = .ok (.iload 9, 2) := by decide +kernel
theorem dX0_laidAt_193 : decode cX0_laidAt 193 = .ok (.iload 10, 2) := by decide +kernel
theorem dX0_laidAt_195 : decode cX0_laidAt 195 = .ok (.iadd, 1) := by decide +kernel
theorem dX0_laidAt_196 : decode cX0_laidAt 196 = .ok (.sipush 256, 3) := by decide +kernel
theorem dX0_laidAt_199 : decode cX0_laidAt 199 = .ok (.idiv, 1) := by decide +kernel
theorem dX0_laidAt_200 : decode cX0_laidAt 200 = .ok (.ireturn, 1) := by decide +kernel
theorem dX1_init_0 : decode cX1_init 0 = .ok (.aload_n 0, 1) := by decide +kernel
theorem dX1_init_1 : decode cX1_init 1 = .ok (.invokespecial 5, 3) := by decide +kernel
theorem dX1_init_4 : decode cX1_init 4 = .ok (.aload_n 0, 1) := by decide +kernel
theorem dX1_init_5 : decode cX1_init 5 = .ok (.ldc 11, 2) := by decide +kernel
theorem dX1_init_7 : decode cX1_init 7 = .ok (.newarray .int, 2) := by decide +kernel
theorem dX1_init_9 : decode cX1_init 9 = .ok (.putfield 12, 3) := by decide +kernel
theorem dX1_init_12 : decode cX1_init 12 = .ok (.aload_n 0, 1) := by decide +kernel
theorem dX1_init_13 : decode cX1_init 13 = .ok (.bipush 6, 2) := by decide +kernel
theorem dX1_init_15 : decode cX1_init 15 = .ok (.newarray .int, 2) := by decide +kernel
theorem dX1_init_17 : decode cX1_init 17 = .ok (.putfield 16, 3) := by decide +kernel
theorem dX1_init_20 : decode cX1_init 20 = .ok (.return_, 1) := by decide +kernel
theorem dX1_forget_0 : decode cX1_forget 0 = .ok (.aload_n 0, 1) := by decide +kernel
theorem dX1_forget_1 : decode cX1_forget 1 = .ok (.iconst 0, 1) := by decide +kernel
theorem dX1_forget_2 : decode cX1_forget 2 = .ok (.putfield 19, 3) := by decide +kernel
theorem dX1_forget_5 : decode cX1_forget 5 = .ok (.aload_n 0, 1) := by decide +kernel
theorem dX1_forget_6 : decode cX1_forget 6 = .ok (.iconst 0, 1) := by decide +kernel
theorem dX1_forget_7 : decode cX1_forget 7 = .ok (.putfield 23, 3) := by decide +kernel
theorem dX1_forget_10 : decode cX1_forget 10 = .ok (.return_, 1) := by decide +kernel
theorem dX1_has_0 : decode cX1_has 0 = .ok (.iload_n 1, 1) := by decide +kernel
theorem dX1_has_1 : decode cX1_has 1 = .ok (.ifCond .lt 15, 3) := by decide +kernel
theorem dX1_has_4 : decode cX1_has 4 = .ok (.iload_n 1, 1) := by decide +kernel
theorem dX1_has_5 : decode cX1_has 5 = .ok (.aload_n 0, 1) := by decide +kernel
theorem dX1_has_6 : decode cX1_has 6 = .ok (.getfield 23, 3) := by decide +kernel
theorem dX1_has_9 : decode cX1_has 9 = .ok (.if_icmp .ge 7, 3) := by decide +kernel
theorem dX1_has_12 : decode cX1_has 12 = .ok (.iconst 1, 1) := by decide +kernel
theorem dX1_has_13 : decode cX1_has 13 = .ok (.goto 4, 3) := by decide +kernel
theorem dX1_has_16 : decode cX1_has 16 = .ok (.iconst 0, 1) := by decide +kernel
theorem dX1_has_17 : decode cX1_has 17 = .ok (.ireturn, 1) := by decide +kernel
set_option maxRecDepth 20000 in
theorem ggX1_begin_X1_slotOf : GoodIn wsX1_begin wsX1_slotOf := goodIn_r _ [10, 2, 11, 12, 13, 14, 15, 16, 17, 18, 19] (by decide +kernel) (by decide +kernel)
set_option maxRecDepth 20000 in
theorem gX1_begin_X1_slotOf : GoodIn wsX1_begin (wsV RX1 29 RX1 yX1_slotOf wsX1_slotOf) := goodIn_app (goodIn_of _ (by decide +kernel)) ggX1_begin_X1_slotOf
theorem dX1_begin_0 : decode cX1_begin 0 = .ok (.aload_n 0, 1) := by decide +kernel
theorem dX1_begin_1 : decode cX1_begin 1 = .ok (.getfield 23, 3) := by decide +kernel
theorem dX1_begin_4 : decode cX1_begin 4 = .ok (.bipush 6, 2) := by decide +kernel
theorem dX1_begin_6 : decode cX1_begin 6 = .ok (.if_icmp .lt 19, 3) := by decide +kernel
theorem dX1_begin_9 : decode cX1_begin 9 = .ok (.aload_n 0, 1) := by decide +kernel
theorem dX1_begin_10 : decode cX1_begin 10 = .ok (.aload_n 0, 1) := by decide +kernel
theorem dX1_begin_11 : decode cX1_begin 11 = .ok (.getfield 19, 3) := by decide +kernel
theorem dX1_begin_14 : decode cX1_begin 14 = .ok (.iconst 1, 1) := by decide +kernel
theorem dX1_begin_15 : decode cX1_begin 15 = .ok (.iadd, 1) := by decide +kernel
theorem dX1_begin_16 : decode cX1_begin 16 = .ok (.bipush 6, 2) := by decide +kernel
theorem dX1_begin_18 : decode cX1_begin 18 = .ok (.irem, 1) := by decide +kernel
theorem dX1_begin_19 : decode cX1_begin 19 = .ok (.putfield 19, 3) := by decide +kernel
theorem dX1_begin_22 : decode cX1_begin 22 = .ok (.goto 13, 3) := by decide +kernel
theorem dX1_begin_25 : decode cX1_begin 25 = .ok (.aload_n 0, 1) := by decide +kernel
theorem dX1_begin_26 : decode cX1_begin 26 = .ok (.dup, 1) := by decide +kernel
theorem dX1_begin_27 : decode cX1_begin 27 = .ok (.getfield 23, 3) := by decide +kernel
theorem dX1_begin_30 : decode cX1_begin 30 = .ok (.iconst 1, 1) := by decide +kernel
theorem dX1_begin_31 : decode cX1_begin 31 = .ok (.iadd, 1) := by decide +kernel
theorem dX1_begin_32 : decode cX1_begin 32 = .ok (.putfield 23, 3) := by decide +kernel
theorem dX1_begin_35 : decode cX1_begin 35 = .ok (.aload_n 0, 1) := by decide +kernel
theorem dX1_begin_36 : decode cX1_begin 36 = .ok (.dup, 1) := by decide +kernel
theorem dX1_begin_37 : decode cX1_begin 37 = .ok (.getfield 26, 3) := by decide +kernel
theorem dX1_begin_40 : decode cX1_begin 40 = .ok (.iconst 1, 1) := by decide +kernel
theorem dX1_begin_41 : decode cX1_begin 41 = .ok (.iadd, 1) := by decide +kernel
theorem dX1_begin_42 : decode cX1_begin 42 = .ok (.putfield 26, 3) := by decide +kernel
theorem dX1_begin_45 : decode cX1_begin 45 = .ok (.aload_n 0, 1) := by decide +kernel
theorem dX1_begin_46 : decode cX1_begin 46 = .ok (.aload_n 0, 1) := by decide +kernel
theorem dX1_begin_47 : decode cX1_begin 47 = .ok (.getfield 23, 3) := by decide +kernel
theorem dX1_begin_50 : decode cX1_begin 50 = .ok (.iconst 1, 1) := by decide +kernel
theorem dX1_begin_51 : decode cX1_begin 51 = .ok (.isub, 1) := by decide +kernel
theorem dX1_begin_52 : decode cX1_begin 52 = .ok (.invokevirtual 29, 3) := by decide +kernel
theorem dX1_begin_55 : decode cX1_begin 55 = .ok (.istore_n 2, 1) := by decide +kernel
theorem dX1_begin_56 : decode cX1_begin 56 = .ok (.aload_n 0, 1) := by decide +kernel
theorem dX1_begin_57 : decode cX1_begin 57 = .ok (.getfield 16, 3) := by decide +kernel
theorem dX1_begin_60 : decode cX1_begin 60 = .ok (.iload_n 2, 1) := by decide +kernel
theorem dX1_begin_61 : decode cX1_begin 61 = .ok (.iload_n 1, 1) := by decide +kernel
theorem dX1_begin_62 : decode cX1_begin 62 = .ok (.iastore, 1) := by decide +kernel
theorem dX1_begin_63 : decode cX1_begin 63 = .ok (.iload_n 2, 1) := by decide +kernel
theorem dX1_begin_64 : decode cX1_begin 64 = .ok (.sipush 6400, 3) := by decide +kernel
theorem dX1_begin_67 : decode cX1_begin 67 = .ok (.imul, 1) := by decide +kernel
theorem dX1_begin_68 : decode cX1_begin 68 = .ok (.istore_n 3, 1) := by decide +kernel
theorem dX1_begin_69 : decode cX1_begin 69 = .ok (.iload_n 3, 1) := by decide +kernel
theorem dX1_begin_70 : decode cX1_begin 70 = .ok (.iload_n 2, 1) := by decide +kernel
theorem dX1_begin_71 : decode cX1_begin 71 = .ok (.sipush 6400, 3) := by decide +kernel
theorem dX1_begin_74 : decode cX1_begin 74 = .ok (.imul, 1) := by decide +kernel
theorem dX1_begin_75 : decode cX1_begin 75 = .ok (.sipush 6400, 3) := by decide +kernel
theorem dX1_begin_78 : decode cX1_begin 78 = .ok (.iadd, 1) := by decide +kernel
theorem dX1_begin_79 : decode cX1_begin 79 = .ok (.if_icmp .ge 16, 3) := by decide +kernel
theorem dX1_begin_82 : decode cX1_begin 82 = .ok (.aload_n 0, 1) := by decide +kernel
theorem dX1_begin_83 : decode cX1_begin 83 = .ok (.getfield 12, 3) := by decide +kernel
theorem dX1_begin_86 : decode cX1_begin 86 = .ok (.iload_n 3, 1) := by decide +kernel
theorem dX1_begin_87 : decode cX1_begin 87 = .ok (.iconst 0, 1) := by decide +kernel
theorem dX1_begin_88 : decode cX1_begin 88 = .ok (.iastore, 1) := by decide +kernel
theorem dX1_begin_89 : decode cX1_begin 89 = .ok (.iinc 3 1, 3) := by decide +kernel
theorem dX1_begin_92 : decode cX1_begin 92 = .ok (.goto (-23), 3) := by decide +kernel
theorem dX1_begin_95 : decode cX1_begin 95 = .ok (.aload_n 0, 1) := by decide +kernel
theorem dX1_begin_96 : decode cX1_begin 96 = .ok (.getfield 23, 3) := by decide +kernel
theorem dX1_begin_99 : decode cX1_begin 99 = .ok (.iconst 1, 1) := by decide +kernel
theorem dX1_begin_100 : decode cX1_begin 100 = .ok (.isub, 1) := by decide +kernel
theorem dX1_begin_101 : decode cX1_begin 101 = .ok (.ireturn, 1) := by decide +kernel
set_option maxRecDepth 20000 in
theorem ggX1_slotOf_J9_floorMod_7cf53 : GoodIn wsX1_slotOf wsJ9_floorMod_7cf53 := goodIn_r _ [5] (by decide +kernel) (by decide +kernel)
set_option maxRecDepth 20000 in
theorem gX1_slotOf_J9_floorMod_7cf53 : GoodIn wsX1_slotOf (va_wsS RX1 33 yJ9_floorMod_7cf53 wsJ9_floorMod_7cf53) := goodIn_app (goodIn_of _ (by decide +kernel)) ggX1_slotOf_J9_floorMod_7cf53
theorem dX1_slotOf_0 : decode cX1_slotOf 0 = .ok (.aload_n 0, 1) := by decide +kernel
theorem dX1_slotOf_1 : decode cX1_slotOf 1 = .ok (.getfield 19, 3) := by decide +kernel
theorem dX1_slotOf_4 : decode cX1_slotOf 4 = .ok (.iload_n 1, 1) := by decide +kernel
theorem dX1_slotOf_5 : decode cX1_slotOf 5 = .ok (.iadd, 1) := by decide +kernel
theorem dX1_slotOf_6 : decode cX1_slotOf 6 = .ok (.bipush 6, 2) := by decide +kernel
theorem dX1_slotOf_8 : decode cX1_slotOf 8 = .ok (.invokestatic 33, 3) := by decide +kernel
theorem dX1_slotOf_11 : decode cX1_slotOf 11 = .ok (.ireturn, 1) := by decide +kernel
set_option maxRecDepth 20000 in
theorem ggX1_senderOf_X1_slotOf : GoodIn wsX1_senderOf wsX1_slotOf := goodIn_r _ [6, 7, 8, 9, 10, 11, 12, 13, 14, 15, 16] (by decide +kernel) (by decide +kernel)
set_option maxRecDepth 20000 in
theorem gX1_senderOf_X1_slotOf : GoodIn wsX1_senderOf (wsV RX1 29 RX1 yX1_slotOf wsX1_slotOf) := goodIn_app (goodIn_of _ (by decide +kernel)) ggX1_senderOf_X1_slotOf
theorem dX1_senderOf_0 : decode cX1_senderOf 0 = .ok (.aload_n 0, 1) := by decide +kernel
theorem dX1_senderOf_1 : decode cX1_senderOf 1 = .ok (.getfield 16, 3) := by decide +kernel
theorem dX1_senderOf_4 : decode cX1_senderOf 4 = .ok (.aload_n 0, 1) := by decide +kernel
theorem dX1_senderOf_5 : decode cX1_senderOf 5 = .ok (.iload_n 1, 1) := by decide +kernel
theorem dX1_senderOf_6 : decode cX1_senderOf 6 = .ok (.invokevirtual 29, 3) := by decide +kernel
theorem dX1_senderOf_9 : decode cX1_senderOf 9 = .ok (.iaload, 1) := by decide +kernel
theorem dX1_senderOf_10 : decode cX1_senderOf 10 = .ok (.ireturn, 1) := by decide +kernel
set_option maxRecDepth 20000 in
theorem ggX1_placeOf_X1_slotOf : GoodIn wsX1_placeOf wsX1_slotOf := goodIn_r _ [5, 6, 7, 8, 9, 10, 11, 12, 13, 14, 15] (by decide +kernel) (by decide +kernel)
set_option maxRecDepth 20000 in
theorem gX1_placeOf_X1_slotOf : GoodIn wsX1_placeOf (wsV RX1 29 RX1 yX1_slotOf wsX1_slotOf) := goodIn_app (goodIn_of _ (by decide +kernel)) ggX1_placeOf_X1_slotOf
theorem dX1_placeOf_0 : decode cX1_placeOf 0 = .ok (.iload_n 3, 1) := by decide +kernel
theorem dX1_placeOf_1 : decode cX1_placeOf 1 = .ok (.ifCond .lt 20, 3) := by decide +kernel
theorem dX1_placeOf_4 : decode cX1_placeOf 4 = .ok (.iload_n 3, 1) := by decide +kernel
theorem dX1_placeOf_5 : decode cX1_placeOf 5 = .ok (.sipush 400, 3) := by decide +kernel
theorem dX1_placeOf_8 : decode cX1_placeOf 8 = .ok (.if_icmp .ge 13, 3) := by decide +kernel
theorem dX1_placeOf_11 : decode cX1_placeOf 11 = .ok (.iload_n 2, 1) := by decide +kernel
theorem dX1_placeOf_12 : decode cX1_placeOf 12 = .ok (.ifCond .lt 9, 3) := by decide +kernel
theorem dX1_placeOf_15 : decode cX1_placeOf 15 = .ok (.iload_n 2, 1) := by decide +kernel
theorem dX1_placeOf_16 : decode cX1_placeOf 16 = .ok (.bipush 16, 2) := by decide +kernel
theorem dX1_placeOf_18 : decode cX1_placeOf 18 = .ok (.if_icmp .lt 5, 3) := by decide +kernel
theorem dX1_placeOf_21 : decode cX1_placeOf 21 = .ok (.iconst (-1), 1) := by decide +kernel
theorem dX1_placeOf_22 : decode cX1_placeOf 22 = .ok (.ireturn, 1) := by decide +kernel
theorem dX1_placeOf_23 : decode cX1_placeOf 23 = .ok (.aload_n 0, 1) := by decide +kernel
theorem dX1_placeOf_24 : decode cX1_placeOf 24 = .ok (.iload_n 1, 1) := by decide +kernel
theorem dX1_placeOf_25 : decode cX1_placeOf 25 = .ok (.invokevirtual 29, 3) := by decide +kernel
theorem dX1_placeOf_28 : decode cX1_placeOf 28 = .ok (.sipush 6400, 3) := by decide +kernel
theorem dX1_placeOf_31 : decode cX1_placeOf 31 = .ok (.imul, 1) := by decide +kernel
theorem dX1_placeOf_32 : decode cX1_placeOf 32 = .ok (.iload_n 2, 1) := by decide +kernel
theorem dX1_placeOf_33 : decode cX1_placeOf 33 = .ok (.sipush 400, 3) := by decide +kernel
theorem dX1_placeOf_36 : decode cX1_placeOf 36 = .ok (.imul, 1) := by decide +kernel
theorem dX1_placeOf_37 : decode cX1_placeOf 37 = .ok (.iadd, 1) := by decide +kernel
theorem dX1_placeOf_38 : decode cX1_placeOf 38 = .ok (.iload_n 3, 1) := by decide +kernel
theorem dX1_placeOf_39 : decode cX1_placeOf 39 = .ok (.iadd, 1) := by decide +kernel
theorem dX1_placeOf_40 : decode cX1_placeOf 40 = .ok (.ireturn, 1) := by decide +kernel
set_option maxRecDepth 20000 in
theorem ggX1_at_X1_placeOf : GoodIn wsX1_at wsX1_placeOf := goodIn_r _ [6, 7, 8, 9, 5, 10, 11, 12, 13, 14, 15, 16, 17, 18, 19, 20] (by decide +kernel) (by decide +kernel)
set_option maxRecDepth 20000 in
theorem gX1_at_X1_placeOf : GoodIn wsX1_at (wsV RX1 39 RX1 yX1_placeOf wsX1_placeOf) := goodIn_app (goodIn_of _ (by decide +kernel)) ggX1_at_X1_placeOf
theorem dX1_at_0 : decode cX1_at 0 = .ok (.aload_n 0, 1) := by decide +kernel
theorem dX1_at_1 : decode cX1_at 1 = .ok (.iload_n 1, 1) := by decide +kernel
theorem dX1_at_2 : decode cX1_at 2 = .ok (.iload_n 2, 1) := by decide +kernel
theorem dX1_at_3 : decode cX1_at 3 = .ok (.iload_n 3, 1) := by decide +kernel
theorem dX1_at_4 : decode cX1_at 4 = .ok (.invokevirtual 39, 3) := by decide +kernel
theorem dX1_at_7 : decode cX1_at 7 = .ok (.istore 4, 2) := by decide +kernel
theorem dX1_at_9 : decode cX1_at 9 = .ok (.iload 4, 2) := by decide +kernel
theorem dX1_at_11 : decode cX1_at 11 = .ok (.ifCond .ge 7, 3) := by decide +kernel
theorem dX1_at_14 : decode cX1_at 14 = .ok (.iconst 0, 1) := by decide +kernel
theorem dX1_at_15 : decode cX1_at 15 = .ok (.goto 10, 3) := by decide +kernel
theorem dX1_at_18 : decode cX1_at 18 = .ok (.aload_n 0, 1) := by decide +kernel
theorem dX1_at_19 : decode cX1_at 19 = .ok (.getfield 12, 3) := by decide +kernel
theorem dX1_at_22 : decode cX1_at 22 = .ok (.iload 4, 2) := by decide +kernel
theorem dX1_at_24 : decode cX1_at 24 = .ok (.iaload, 1) := by decide +kernel
theorem dX1_at_25 : decode cX1_at 25 = .ok (.ireturn, 1) := by decide +kernel
set_option maxRecDepth 20000 in
theorem ggX1_louder_X1_placeOf : GoodIn wsX1_louder wsX1_placeOf := goodIn_r _ [6, 7, 8, 9, 5, 10, 11, 12, 13, 14, 15, 16, 17, 18, 19, 20] (by decide +kernel) (by decide +kernel)
set_option maxRecDepth 20000 in
theorem gX1_louder_X1_placeOf : GoodIn wsX1_louder (wsV RX1 39 RX1 yX1_placeOf wsX1_placeOf) := goodIn_app (goodIn_of _ (by decide +kernel)) ggX1_louder_X1_placeOf
theorem dX1_louder_0 : decode cX1_louder 0 = .ok (.aload_n 0, 1) := by decide +kernel
theorem dX1_louder_1 : decode cX1_louder 1 = .ok (.iload_n 1, 1) := by decide +kernel
theorem dX1_louder_2 : decode cX1_louder 2 = .ok (.iload_n 2, 1) := by decide +kernel
theorem dX1_louder_3 : decode cX1_louder 3 = .ok (.iload_n 3, 1) := by decide +kernel
theorem dX1_louder_4 : decode cX1_louder 4 = .ok (.invokevirtual 39, 3) := by decide +kernel
theorem dX1_louder_7 : decode cX1_louder 7 = .ok (.istore 5, 2) := by decide +kernel
theorem dX1_louder_9 : decode cX1_louder 9 = .ok (.iload 5, 2) := by decide +kernel
theorem dX1_louder_11 : decode cX1_louder 11 = .ok (.ifCond .lt 15, 3) := by decide +kernel
theorem dX1_louder_14 : decode cX1_louder 14 = .ok (.aload_n 0, 1) := by decide +kernel
theorem dX1_louder_15 : decode cX1_louder 15 = .ok (.getfield 12, 3) := by decide +kernel
theorem dX1_louder_18 : decode cX1_louder 18 = .ok (.iload 5, 2) := by decide +kernel
theorem dX1_louder_20 : decode cX1_louder 20 = .ok (.dup2, 1) := by decide +kernel
theorem dX1_louder_21 : decode cX1_louder 21 = .ok (.iaload, 1) := by decide +kernel
theorem dX1_louder_22 : decode cX1_louder 22 = .ok (.iload 4, 2) := by decide +kernel
theorem dX1_louder_24 : decode cX1_louder 24 = .ok (.iadd, 1) := by decide +kernel
theorem dX1_louder_25 : decode cX1_louder 25 = .ok (.iastore, 1) := by decide +kernel
theorem dX1_louder_26 : decode cX1_louder 26 = .ok (.return_, 1) := by decide +kernel
set_option maxRecDepth 20000 in
theorem ggX1_rowSum_X1_placeOf : GoodIn wsX1_rowSum wsX1_placeOf := goodIn_r _ [6, 7, 8, 9, 5, 10, 11, 12, 13, 14, 15, 16, 17, 18, 19, 20] (by decide +kernel) (by decide +kernel)
set_option maxRecDepth 20000 in
theorem gX1_rowSum_X1_placeOf : GoodIn wsX1_rowSum (wsV RX1 39 RX1 yX1_placeOf wsX1_placeOf) := goodIn_app (goodIn_of _ (by decide +kernel)) ggX1_rowSum_X1_placeOf
theorem dX1_rowSum_0 : decode cX1_rowSum 0 = .ok (.aload_n 0, 1) := by decide +kernel
theorem dX1_rowSum_1 : decode cX1_rowSum 1 = .ok (.iload_n 1, 1) := by decide +kernel
theorem dX1_rowSum_2 : decode cX1_rowSum 2 = .ok (.iload_n 2, 1) := by decide +kernel
theorem dX1_rowSum_3 : decode cX1_rowSum 3 = .ok (.iconst 0, 1) := by decide +kernel
theorem dX1_rowSum_4 : decode cX1_rowSum 4 = .ok (.invokevirtual 39, 3) := by decide +kernel
theorem dX1_rowSum_7 : decode cX1_rowSum 7 = .ok (.istore_n 3, 1) := by decide +kernel
theorem dX1_rowSum_8 : decode cX1_rowSum 8 = .ok (.iload_n 3, 1) := by decide +kernel
theorem dX1_rowSum_9 : decode cX1_rowSum 9 = .ok (.ifCond .lt 16, 3) := by decide +kernel
theorem dX1_rowSum_12 : decode cX1_rowSum 12 = .ok (.iload_n 3, 1) := by decide +kernel
theorem dX1_rowSum_13 : decode cX1_rowSum 13 = .ok (.sipush 400, 3) := by decide +kernel
theorem dX1_rowSum_16 : decode cX1_rowSum 16 = .ok (.iadd, 1) := by decide +kernel
theorem dX1_rowSum_17 : decode cX1_rowSum 17 = .ok (.aload_n 0, 1) := by decide +kernel
theorem dX1_rowSum_18 : decode cX1_rowSum 18 = .ok (.getfield 12, 3) := by decide +kernel
theorem dX1_rowSum_21 : decode cX1_rowSum 21 = .ok (.arraylength, 1) := by decide +kernel
theorem dX1_rowSum_22 : decode cX1_rowSum 22 = .ok (.if_icmp .le 5, 3) := by decide +kernel
theorem dX1_rowSum_25 : decode cX1_rowSum 25 = .ok (.lconst 0, 1) := by decide +kernel
theorem dX1_rowSum_26 : decode cX1_rowSum 26 = .ok (.lreturn, 1) := by decide +kernel
theorem dX1_rowSum_27 : decode cX1_rowSum 27 = .ok (.lconst 0, 1) := by decide +kernel
theorem dX1_rowSum_28 : decode cX1_rowSum 28 = .ok (.lstore 4, 2) := by decide +kernel
theorem dX1_rowSum_30 : decode cX1_rowSum 30 = .ok (.iconst 0, 1) := by decide +kernel
theorem dX1_rowSum_31 : decode cX1_rowSum 31 = .ok (.istore 6, 2) := by decide +kernel
theorem dX1_rowSum_33 : decode cX1_rowSum 33 = .ok (.iload 6, 2) := by decide +kernel
theorem dX1_rowSum_35 : decode cX1_rowSum 35 = .ok (.sipush 400, 3) := by decide +kernel
theorem dX1_rowSum_38 : decode cX1_rowSum 38 = .ok (.if_icmp .ge 30, 3) := by decide +kernel
theorem dX1_rowSum_41 : decode cX1_rowSum 41 = .ok (.lload 4, 2) := by decide +kernel
theorem dX1_rowSum_43 : decode cX1_rowSum 43 = .ok (.iload 6, 2) := by decide +kernel
theorem dX1_rowSum_45 : decode cX1_rowSum 45 = .ok (.i2l, 1) := by decide +kernel
theorem dX1_rowSum_46 : decode cX1_rowSum 46 = .ok (.lconst 1, 1) := by decide +kernel
theorem dX1_rowSum_47 : decode cX1_rowSum 47 = .ok (.ladd, 1) := by decide +kernel
theorem dX1_rowSum_48 : decode cX1_rowSum 48 = .ok (.aload_n 0, 1) := by decide +kernel
theorem dX1_rowSum_49 : decode cX1_rowSum 49 = .ok (.getfield 12, 3) := by decide +kernel
theorem dX1_rowSum_52 : decode cX1_rowSum 52 = .ok (.iload_n 3, 1) := by decide +kernel
theorem dX1_rowSum_53 : decode cX1_rowSum 53 = .ok (.iload 6, 2) := by decide +kernel
theorem dX1_rowSum_55 : decode cX1_rowSum 55 = .ok (.iadd, 1) := by decide +kernel
theorem dX1_rowSum_56 : decode cX1_rowSum 56 = .ok (.iaload, 1) := by decide +kernel
theorem dX1_rowSum_57 : decode cX1_rowSum 57 = .ok (.i2l, 1) := by decide +kernel
theorem dX1_rowSum_58 : decode cX1_rowSum 58 = .ok (.lmul, 1) := by decide +kernel
theorem dX1_rowSum_59 : decode cX1_rowSum 59 = .ok (.ladd, 1) := by decide +kernel
theorem dX1_rowSum_60 : decode cX1_rowSum 60 = .ok (.lstore 4, 2) := by decide +kernel
theorem dX1_rowSum_62 : decode cX1_rowSum 62 = .ok (.iinc 6 1, 3) := by decide +kernel
theorem dX1_rowSum_65 : decode cX1_rowSum 65 = .ok (.goto (-32), 3) := by decide +kernel
theorem dX1_rowSum_68 : decode cX1_rowSum 68 = .ok (.lload 4, 2) := by decide +kernel
theorem dX1_rowSum_70 : decode cX1_rowSum 70 = .ok (.lreturn, 1) := by decide +kernel
theorem dX2_init_0 : decode cX2_init 0 = .ok (.aload_n 0, 1) := by decide +kernel
theorem dX2_init_1 : decode cX2_init 1 = .ok (.invokespecial 1, 3) := by decide +kernel
theorem dX2_init_4 : decode cX2_init 4 = .ok (.aload_n 0, 1) := by decide +kernel
theorem dX2_init_5 : decode cX2_init 5 = .ok (.iconst 0, 1) := by decide +kernel
theorem dX2_init_6 : decode cX2_init 6 = .ok (.putfield 7, 3) := by decide +kernel
theorem dX2_init_9 : decode cX2_init 9 = .ok (.aload_n 0, 1) := by decide +kernel
theorem dX2_init_10 : decode cX2_init 10 = .ok (.ldc 13, 2) := by decide +kernel
theorem dX2_init_12 : decode cX2_init 12 = .ok (.putfield 14, 3) := by decide +kernel
theorem dX2_init_15 : decode cX2_init 15 = .ok (.return_, 1) := by decide +kernel
theorem dX2_cool_0 : decode cX2_cool 0 = .ok (.aload_n 0, 1) := by decide +kernel
theorem dX2_cool_1 : decode cX2_cool 1 = .ok (.dup, 1) := by decide +kernel
theorem dX2_cool_2 : decode cX2_cool 2 = .ok (.getfield 7, 3) := by decide +kernel
theorem dX2_cool_5 : decode cX2_cool 5 = .ok (.aload_n 0, 1) := by decide +kernel
theorem dX2_cool_6 : decode cX2_cool 6 = .ok (.getfield 7, 3) := by decide +kernel
theorem dX2_cool_9 : decode cX2_cool 9 = .ok (.bipush 31, 2) := by decide +kernel
theorem dX2_cool_11 : decode cX2_cool 11 = .ok (.iadd, 1) := by decide +kernel
theorem dX2_cool_12 : decode cX2_cool 12 = .ok (.bipush 32, 2) := by decide +kernel
theorem dX2_cool_14 : decode cX2_cool 14 = .ok (.idiv, 1) := by decide +kernel
theorem dX2_cool_15 : decode cX2_cool 15 = .ok (.isub, 1) := by decide +kernel
theorem dX2_cool_16 : decode cX2_cool 16 = .ok (.putfield 7, 3) := by decide +kernel
theorem dX2_cool_19 : decode cX2_cool 19 = .ok (.return_, 1) := by decide +kernel
set_option maxRecDepth 20000 in
theorem ggX3_init_X3_renew : GoodIn wsX3_init wsX3_renew := goodIn_r _ [18, 19, 20, 21, 22, 23, 24, 25, 26, 27, 5, 7, 28, 29, 30, 31, 32, 33, 34, 35, 36, 37, 38] (by decide +kernel) (by decide +kernel)
set_option maxRecDepth 20000 in
theorem gX3_init_X3_renew : GoodIn wsX3_init (wsV RX3 38 RX3 yX3_renew wsX3_renew) := goodIn_app (goodIn_of _ (by decide +kernel)) ggX3_init_X3_renew
theorem dX3_init_0 : decode cX3_init 0 = .ok (.aload_n 0, 1) := by decide +kernel
theorem dX3_init_1 : decode cX3_init 1 = .ok (.invokespecial 3, 3) := by decide +kernel
theorem dX3_init_4 : decode cX3_init 4 = .ok (.aload_n 0, 1) := by decide +kernel
theorem dX3_init_5 : decode cX3_init 5 = .ok (.bipush 16, 2) := by decide +kernel
theorem dX3_init_7 : decode cX3_init 7 = .ok (.newarray .int, 2) := by decide +kernel
theorem dX3_init_9 : decode cX3_init 9 = .ok (.putfield 9, 3) := by decide +kernel
theorem dX3_init_12 : decode cX3_init 12 = .ok (.aload_n 0, 1) := by decide +kernel
theorem dX3_init_13 : decode cX3_init 13 = .ok (.bipush 16, 2) := by decide +kernel
theorem dX3_init_15 : decode cX3_init 15 = .ok (.newarray .boolean, 2) := by decide +kernel
theorem dX3_init_17 : decode cX3_init 17 = .ok (.putfield 15, 3) := by decide +kernel
theorem dX3_init_20 : decode cX3_init 20 = .ok (.aload_n 0, 1) := by decide +kernel
theorem dX3_init_21 : decode cX3_init 21 = .ok (.bipush 16, 2) := by decide +kernel
theorem dX3_init_23 : decode cX3_init 23 = .ok (.newarray .int, 2) := by decide +kernel
theorem dX3_init_25 : decode cX3_init 25 = .ok (.putfield 19, 3) := by decide +kernel
theorem dX3_init_28 : decode cX3_init 28 = .ok (.aload_n 0, 1) := by decide +kernel
theorem dX3_init_29 : decode cX3_init 29 = .ok (.bipush 16, 2) := by decide +kernel
theorem dX3_init_31 : decode cX3_init 31 = .ok (.newarray .int, 2) := by decide +kernel
theorem dX3_init_33 : decode cX3_init 33 = .ok (.putfield 22, 3) := by decide +kernel
theorem dX3_init_36 : decode cX3_init 36 = .ok (.aload_n 0, 1) := by decide +kernel
theorem dX3_init_37 : decode cX3_init 37 = .ok (.iconst 1, 1) := by decide +kernel
theorem dX3_init_38 : decode cX3_init 38 = .ok (.putfield 25, 3) := by decide +kernel
theorem dX3_init_41 : decode cX3_init 41 = .ok (.aload_n 0, 1) := by decide +kernel
theorem dX3_init_42 : decode cX3_init 42 = .ok (.iconst 1, 1) := by decide +kernel
theorem dX3_init_43 : decode cX3_init 43 = .ok (.putfield 29, 3) := by decide +kernel
theorem dX3_init_46 : decode cX3_init 46 = .ok (.aload_n 0, 1) := by decide +kernel
theorem dX3_init_47 : decode cX3_init 47 = .ok (.iconst 0, 1) := by decide +kernel
theorem dX3_init_48 : decode cX3_init 48 = .ok (.putfield 32, 3) := by decide +kernel
theorem dX3_init_51 : decode cX3_init 51 = .ok (.aload_n 0, 1) := by decide +kernel
theorem dX3_init_52 : decode cX3_init 52 = .ok (.iconst 2, 1) := by decide +kernel
theorem dX3_init_53 : decode cX3_init 53 = .ok (.putfield 35, 3) := by decide +kernel
theorem dX3_init_56 : decode cX3_init 56 = .ok (.aload_n 0, 1) := by decide +kernel
theorem dX3_init_57 : decode cX3_init 57 = .ok (.iconst 2, 1) := by decide +kernel
theorem dX3_init_58 : decode cX3_init 58 = .ok (.bipush (-10), 2) := by decide +kernel
theorem dX3_init_60 : decode cX3_init 60 = .ok (.bipush 20, 2) := by decide +kernel
theorem dX3_init_62 : decode cX3_init 62 = .ok (.invokevirtual 38, 3) := by decide +kernel
theorem dX3_init_65 : decode cX3_init 65 = .ok (.return_, 1) := by decide +kernel
theorem dX3_renew_0 : decode cX3_renew 0 = .ok (.aload_n 0, 1) := by decide +kernel
theorem dX3_renew_1 : decode cX3_renew 1 = .ok (.iconst 0, 1) := by decide +kernel
theorem dX3_renew_2 : decode cX3_renew 2 = .ok (.iload_n 1, 1) := by decide +kernel
theorem dX3_renew_3 : decode cX3_renew 3 = .ok (.bipush 16, 2) := by decide +kernel
theorem dX3_renew_5 : decode cX3_renew 5 = .ok (.invokestatic 42, 3) := by decide +kernel
theorem dX3_renew_8 : decode cX3_renew 8 = .ok (.invokestatic 48, 3) := by decide +kernel
theorem dX3_renew_11 : decode cX3_renew 11 = .ok (.putfield 51, 3) := by decide +kernel
theorem dX3_renew_14 : decode cX3_renew 14 = .ok (.aload_n 0, 1) := by decide +kernel
theorem dX3_renew_15 : decode cX3_renew 15 = .ok (.aload_n 0, 1) := by decide +kernel
theorem dX3_renew_16 : decode cX3_renew 16 = .ok (.getfield 51, 3) := by decide +kernel
theorem dX3_renew_19 : decode cX3_renew 19 = .ok (.putfield 54, 3) := by decide +kernel
theorem dX3_renew_22 : decode cX3_renew 22 = .ok (.iconst 0, 1) := by decide +kernel
theorem dX3_renew_23 : decode cX3_renew 23 = .ok (.istore 4, 2) := by decide +kernel
theorem dX3_renew_25 : decode cX3_renew 25 = .ok (.iload 4, 2) := by decide +kernel
theorem dX3_renew_27 : decode cX3_renew 27 = .ok (.aload_n 0, 1) := by decide +kernel
theorem dX3_renew_28 : decode cX3_renew 28 = .ok (.getfield 51, 3) := by decide +kernel
theorem dX3_renew_31 : decode cX3_renew 31 = .ok (.if_icmp .ge 30, 3) := by decide +kernel
theorem dX3_renew_34 : decode cX3_renew 34 = .ok (.aload_n 0, 1) := by decide +kernel
theorem dX3_renew_35 : decode cX3_renew 35 = .ok (.getfield 9, 3) := by decide +kernel
theorem dX3_renew_38 : decode cX3_renew 38 = .ok (.iload 4, 2) := by decide +kernel
theorem dX3_renew_40 : decode cX3_renew 40 = .ok (.iload_n 2, 1) := by decide +kernel
theorem dX3_renew_41 : decode cX3_renew 41 = .ok (.iload 4, 2) := by decide +kernel
theorem dX3_renew_43 : decode cX3_renew 43 = .ok (.iload_n 3, 1) := by decide +kernel
theorem dX3_renew_44 : decode cX3_renew 44 = .ok (.imul, 1) := by decide +kernel
theorem dX3_renew_45 : decode cX3_renew 45 = .ok (.iadd, 1) := by decide +kernel
theorem dX3_renew_46 : decode cX3_renew 46 = .ok (.iastore, 1) := by decide +kernel
theorem dX3_renew_47 : decode cX3_renew 47 = .ok (.aload_n 0, 1) := by decide +kernel
theorem dX3_renew_48 : decode cX3_renew 48 = .ok (.getfield 15, 3) := by decide +kernel
theorem dX3_renew_51 : decode cX3_renew 51 = .ok (.iload 4, 2) := by decide +kernel
theorem dX3_renew_53 : decode cX3_renew 53 = .ok (.iconst 0, 1) := by decide +kernel
theorem dX3_renew_54 : decode cX3_renew 54 = .ok (.bastore, 1) := by decide +kernel
theorem dX3_renew_55 : decode cX3_renew 55 = .ok (.iinc 4 1, 3) := by decide +kernel
theorem dX3_renew_58 : decode cX3_renew 58 = .ok (.goto (-33), 3) := by decide +kernel
theorem dX3_renew_61 : decode cX3_renew 61 = .ok (.return_, 1) := by decide +kernel
theorem dX3_has_0 : decode cX3_has 0 = .ok (.iload_n 1, 1) := by decide +kernel
theorem dX3_has_1 : decode cX3_has 1 = .ok (.ifCond .lt 21, 3) := by decide +kernel
theorem dX3_has_4 : decode cX3_has 4 = .ok (.iload_n 1, 1) := by decide +kernel
theorem dX3_has_5 : decode cX3_has 5 = .ok (.aload_n 0, 1) := by decide +kernel
theorem dX3_has_6 : decode cX3_has 6 = .ok (.getfield 51, 3) := by decide +kernel
theorem dX3_has_9 : decode cX3_has 9 = .ok (.if_icmp .ge 13, 3) := by decide +kernel
theorem dX3_has_12 : decode cX3_has 12 = .ok (.iload_n 1, 1) := by decide +kernel
theorem dX3_has_13 : decode cX3_has 13 = .ok (.bipush 16, 2) := by decide +kernel
theorem dX3_has_15 : decode cX3_has 15 = .ok (.if_icmp .ge 7, 3) := by decide +kernel
theorem dX3_has_18 : decode cX3_has 18 = .ok (.iconst 1, 1) := by decide +kernel
theorem dX3_has_19 : decode cX3_has 19 = .ok (.goto 4, 3) := by decide +kernel
theorem dX3_has_22 : decode cX3_has 22 = .ok (.iconst 0, 1) := by decide +kernel
theorem dX3_has_23 : decode cX3_has 23 = .ok (.ireturn, 1) := by decide +kernel
set_option maxRecDepth 20000 in
theorem ggX3_isDead_X3_has : GoodIn wsX3_isDead wsX3_has := goodIn_r _ [6, 7, 8, 9, 10, 11, 12, 13, 14, 15, 16, 17, 18] (by decide +kernel) (by decide +kernel)
set_option maxRecDepth 20000 in
theorem gX3_isDead_X3_has : GoodIn wsX3_isDead (wsV RX3 57 RX3 yX3_has wsX3_has) := goodIn_app (goodIn_of _ (by decide +kernel)) ggX3_isDead_X3_has
theorem dX3_isDead_0 : decode cX3_isDead 0 = .ok (.aload_n 0, 1) := by decide +kernel
theorem dX3_isDead_1 : decode cX3_isDead 1 = .ok (.iload_n 1, 1) := by decide +kernel
theorem dX3_isDead_2 : decode cX3_isDead 2 = .ok (.invokevirtual 57, 3) := by decide +kernel
theorem dX3_isDead_5 : decode cX3_isDead 5 = .ok (.ifCond .eq 16, 3) := by decide +kernel
theorem dX3_isDead_8 : decode cX3_isDead 8 = .ok (.aload_n 0, 1) := by decide +kernel
theorem dX3_isDead_9 : decode cX3_isDead 9 = .ok (.getfield 15, 3) := by decide +kernel
theorem dX3_isDead_12 : decode cX3_isDead 12 = .ok (.iload_n 1, 1) := by decide +kernel
theorem dX3_isDead_13 : decode cX3_isDead 13 = .ok (.baload, 1) := by decide +kernel
theorem dX3_isDead_14 : decode cX3_isDead 14 = .ok (.ifCond .eq 7, 3) := by decide +kernel
theorem dX3_isDead_17 : decode cX3_isDead 17 = .ok (.iconst 1, 1) := by decide +kernel
theorem dX3_isDead_18 : decode cX3_isDead 18 = .ok (.goto 4, 3) := by decide +kernel
theorem dX3_isDead_21 : decode cX3_isDead 21 = .ok (.iconst 0, 1) := by decide +kernel
theorem dX3_isDead_22 : decode cX3_isDead 22 = .ok (.ireturn, 1) := by decide +kernel
set_option maxRecDepth 20000 in
theorem ggX3_setDead_X3_has : GoodIn wsX3_setDead wsX3_has := goodIn_r _ [7, 8, 9, 10, 11, 12, 13, 14, 15, 16, 17, 18, 19] (by decide +kernel) (by decide +kernel)
set_option maxRecDepth 20000 in
theorem gX3_setDead_X3_has : GoodIn wsX3_setDead (wsV RX3 57 RX3 yX3_has wsX3_has) := goodIn_app (goodIn_of _ (by decide +kernel)) ggX3_setDead_X3_has
theorem dX3_setDead_0 : decode cX3_setDead 0 = .ok (.aload_n 0, 1) := by decide +kernel
theorem dX3_setDead_1 : decode cX3_setDead 1 = .ok (.iload_n 1, 1) := by decide +kernel
theorem dX3_setDead_2 : decode cX3_setDead 2 = .ok (.invokevirtual 57, 3) := by decide +kernel
theorem dX3_setDead_5 : decode cX3_setDead 5 = .ok (.ifCond .eq 28, 3) := by decide +kernel
theorem dX3_setDead_8 : decode cX3_setDead 8 = .ok (.aload_n 0, 1) := by decide +kernel
theorem dX3_setDead_9 : decode cX3_setDead 9 = .ok (.getfield 15, 3) := by decide +kernel
theorem dX3_setDead_12 : decode cX3_setDead 12 = .ok (.iload_n 1, 1) := by decide +kernel
theorem dX3_setDead_13 : decode cX3_setDead 13 = .ok (.iload_n 2, 1) := by decide +kernel
theorem dX3_setDead_14 : decode cX3_setDead 14 = .ok (.bastore, 1) := by decide +kernel
theorem dX3_setDead_15 : decode cX3_setDead 15 = .ok (.aload_n 0, 1) := by decide +kernel
theorem dX3_setDead_16 : decode cX3_setDead 16 = .ok (.dup, 1) := by decide +kernel
theorem dX3_setDead_17 : decode cX3_setDead 17 = .ok (.getfield 54, 3) := by decide +kernel
theorem dX3_setDead_20 : decode cX3_setDead 20 = .ok (.iload_n 2, 1) := by decide +kernel
theorem dX3_setDead_21 : decode cX3_setDead 21 = .ok (.ifCond .eq 7, 3) := by decide +kernel
theorem dX3_setDead_24 : decode cX3_setDead 24 = .ok (.iconst (-1), 1) := by decide +kernel
theorem dX3_setDead_25 : decode cX3_setDead 25 = .ok (.goto 4, 3) := by decide +kernel
theorem dX3_setDead_28 : decode cX3_setDead 28 = .ok (.iconst 1, 1) := by decide +kernel
theorem dX3_setDead_29 : decode cX3_setDead 29 = .ok (.iadd, 1) := by decide +kernel
theorem dX3_setDead_30 : decode cX3_setDead 30 = .ok (.putfield 54, 3) := by decide +kernel
theorem dX3_setDead_33 : decode cX3_setDead 33 = .ok (.return_, 1) := by decide +kernel
set_option maxRecDepth 20000 in
theorem ggX3_gap_X3_has : GoodIn wsX3_gap wsX3_has := goodIn_r _ [10, 11, 12, 13, 14, 15, 16, 17, 18, 19, 20, 21, 22] (by decide +kernel) (by decide +kernel)
set_option maxRecDepth 20000 in
theorem gX3_gap_X3_has : GoodIn wsX3_gap (wsV RX3 57 RX3 yX3_has wsX3_has) := goodIn_app (goodIn_of _ (by decide +kernel)) ggX3_gap_X3_has
theorem dX3_gap_0 : decode cX3_gap 0 = .ok (.aload_n 0, 1) := by decide +kernel
theorem dX3_gap_1 : decode cX3_gap 1 = .ok (.iload_n 1, 1) := by decide +kernel
theorem dX3_gap_2 : decode cX3_gap 2 = .ok (.invokevirtual 57, 3) := by decide +kernel
theorem dX3_gap_5 : decode cX3_gap 5 = .ok (.ifCond .eq 17, 3) := by decide +kernel
theorem dX3_gap_8 : decode cX3_gap 8 = .ok (.aload_n 0, 1) := by decide +kernel
theorem dX3_gap_9 : decode cX3_gap 9 = .ok (.getfield 9, 3) := by decide +kernel
theorem dX3_gap_12 : decode cX3_gap 12 = .ok (.iload_n 1, 1) := by decide +kernel
theorem dX3_gap_13 : decode cX3_gap 13 = .ok (.iaload, 1) := by decide +kernel
theorem dX3_gap_14 : decode cX3_gap 14 = .ok (.iload_n 2, 1) := by decide +kernel
theorem dX3_gap_15 : decode cX3_gap 15 = .ok (.isub, 1) := by decide +kernel
theorem dX3_gap_16 : decode cX3_gap 16 = .ok (.invokestatic 61, 3) := by decide +kernel
theorem dX3_gap_19 : decode cX3_gap 19 = .ok (.goto 4, 3) := by decide +kernel
theorem dX3_gap_22 : decode cX3_gap 22 = .ok (.iconst 0, 1) := by decide +kernel
theorem dX3_gap_23 : decode cX3_gap 23 = .ok (.ireturn, 1) := by decide +kernel
set_option maxRecDepth 20000 in
theorem ggX3_delayOf_X3_gap : GoodIn wsX3_delayOf wsX3_gap := goodIn_r _ [9, 10, 11, 12, 13, 14, 15, 16, 17, 8, 18, 19, 24, 25, 26, 27, 28, 29, 30, 31, 32, 33, 34] (by decide +kernel) (by decide +kernel)
set_option maxRecDepth 20000 in
theorem gX3_delayOf_X3_gap : GoodIn wsX3_delayOf (wsV RX3 65 RX3 yX3_gap wsX3_gap) := goodIn_app (goodIn_of _ (by decide +kernel)) ggX3_delayOf_X3_gap
set_option maxRecDepth 20000 in
theorem ggX3_delayOf_X6_root : GoodIn wsX3_delayOf wsX6_root := goodIn_r _ [22, 23] (by decide +kernel) (by decide +kernel)
set_option maxRecDepth 20000 in
theorem gX3_delayOf_X6_root_n72 : GoodIn wsX3_delayOf (wsX6_root) := ggX3_delayOf_X6_root
theorem dX3_delayOf_0 : decode cX3_delayOf 0 = .ok (.aload_n 0, 1) := by decide +kernel
theorem dX3_delayOf_1 : decode cX3_delayOf 1 = .ok (.getfield 25, 3) := by decide +kernel
theorem dX3_delayOf_4 : decode cX3_delayOf 4 = .ok (.iconst 1, 1) := by decide +kernel
theorem dX3_delayOf_5 : decode cX3_delayOf 5 = .ok (.if_icmp .ge 5, 3) := by decide +kernel
theorem dX3_delayOf_8 : decode cX3_delayOf 8 = .ok (.iconst 0, 1) := by decide +kernel
theorem dX3_delayOf_9 : decode cX3_delayOf 9 = .ok (.ireturn, 1) := by decide +kernel
theorem dX3_delayOf_10 : decode cX3_delayOf 10 = .ok (.aload_n 0, 1) := by decide +kernel
theorem dX3_delayOf_11 : decode cX3_delayOf 11 = .ok (.iload_n 1, 1) := by decide +kernel
theorem dX3_delayOf_12 : decode cX3_delayOf 12 = .ok (.iload_n 2, 1) := by decide +kernel
theorem dX3_delayOf_13 : decode cX3_delayOf 13 = .ok (.invokevirtual 65, 3) := by decide +kernel
theorem dX3_delayOf_16 : decode cX3_delayOf 16 = .ok (.i2l, 1) := by decide +kernel
theorem dX3_delayOf_17 : decode cX3_delayOf 17 = .ok (.lstore 4, 2) := by decide +kernel
theorem dX3_delayOf_19 : decode cX3_delayOf 19 = .ok (.iload_n 3, 1) := by decide +kernel
theorem dX3_delayOf_20 : decode cX3_delayOf 20 = .ok (.i2l, 1) := by decide +kernel
theorem dX3_delayOf_21 : decode cX3_delayOf 21 = .ok (.lstore 6, 2) := by decide +kernel
theorem dX3_delayOf_23 : decode cX3_delayOf 23 = .ok (.ldc2_w 68, 3) := by decide +kernel
theorem dX3_delayOf_26 : decode cX3_delayOf 26 = .ok (.aload_n 0, 1) := by decide +kernel
theorem dX3_delayOf_27 : decode cX3_delayOf 27 = .ok (.getfield 29, 3) := by decide +kernel
theorem dX3_delayOf_30 : decode cX3_delayOf 30 = .ok (.i2l, 1) := by decide +kernel
theorem dX3_delayOf_31 : decode cX3_delayOf 31 = .ok (.lmul, 1) := by decide +kernel
theorem dX3_delayOf_32 : decode cX3_delayOf 32 = .ok (.aload_n 0, 1) := by decide +kernel
theorem dX3_delayOf_33 : decode cX3_delayOf 33 = .ok (.getfield 29, 3) := by decide +kernel
theorem dX3_delayOf_36 : decode cX3_delayOf 36 = .ok (.i2l, 1) := by decide +kernel
theorem dX3_delayOf_37 : decode cX3_delayOf 37 = .ok (.lmul, 1) := by decide +kernel
theorem dX3_delayOf_38 : decode cX3_delayOf 38 = .ok (.lload 4, 2) := by decide +kernel
theorem dX3_delayOf_40 : decode cX3_delayOf 40 = .ok (.lload 4, 2) := by decide +kernel
theorem dX3_delayOf_42 : decode cX3_delayOf 42 = .ok (.lmul, 1) := by decide +kernel
theorem dX3_delayOf_43 : decode cX3_delayOf 43 = .ok (.lload 6, 2) := by decide +kernel
theorem dX3_delayOf_45 : decode cX3_delayOf 45 = .ok (.lload 6, 2) := by decide +kernel
theorem dX3_delayOf_47 : decode cX3_delayOf 47 = .ok (.lmul, 1) := by decide +kernel
theorem dX3_delayOf_48 : decode cX3_delayOf 48 = .ok (.ladd, 1) := by decide +kernel
theorem dX3_delayOf_49 : decode cX3_delayOf 49 = .ok (.lmul, 1) := by decide +kernel
theorem dX3_delayOf_50 : decode cX3_delayOf 50 = .ok (.ldc2_w 70, 3) := by decide +kernel
theorem dX3_delayOf_53 : decode cX3_delayOf 53 = .ok (.aload_n 0, 1) := by decide +kernel
theorem dX3_delayOf_54 : decode cX3_delayOf 54 = .ok (.getfield 29, 3) := by decide +kernel
theorem dX3_delayOf_57 : decode cX3_delayOf 57 = .ok (.i2l, 1) := by decide +kernel
theorem dX3_delayOf_58 : decode cX3_delayOf 58 = .ok (.lmul, 1) := by decide +kernel
theorem dX3_delayOf_59 : decode cX3_delayOf 59 = .ok (.lload 4, 2) := by decide +kernel
theorem dX3_delayOf_61 : decode cX3_delayOf 61 = .ok (.lload 6, 2) := by decide +kernel
theorem dX3_delayOf_63 : decode cX3_delayOf 63 = .ok (.ladd, 1) := by decide +kernel
theorem dX3_delayOf_64 : decode cX3_delayOf 64 = .ok (.lmul, 1) := by decide +kernel
theorem dX3_delayOf_65 : decode cX3_delayOf 65 = .ok (.invokestatic 72, 3) := by decide +kernel
theorem dX3_delayOf_68 : decode cX3_delayOf 68 = .ok (.lstore 8, 2) := by decide +kernel
theorem dX3_delayOf_70 : decode cX3_delayOf 70 = .ok (.lload 8, 2) := by decide +kernel
theorem dX3_delayOf_72 : decode cX3_delayOf 72 = .ok (.aload_n 0, 1) := by decide +kernel
theorem dX3_delayOf_73 : decode cX3_delayOf 73 = .ok (.getfield 25, 3) := by decide +kernel
theorem dX3_delayOf_76 : decode cX3_delayOf 76 = .ok (.i2l, 1) := by decide +kernel
theorem dX3_delayOf_77 : decode cX3_delayOf 77 = .ok (.ladd, 1) := by decide +kernel
theorem dX3_delayOf_78 : decode cX3_delayOf 78 = .ok (.ldc2_w 70, 3) := by decide +kernel
theorem dX3_delayOf_81 : decode cX3_delayOf 81 = .ok (.aload_n 0, 1) := by decide +kernel
theorem dX3_delayOf_82 : decode cX3_delayOf 82 = .ok (.getfield 25, 3) := by decide +kernel
theorem dX3_delayOf_85 : decode cX3_delayOf 85 = .ok (.i2l, 1) := by decide +kernel
theorem dX3_delayOf_86 : decode cX3_delayOf 86 = .ok (.lmul, 1) := by decide +kernel
theorem dX3_delayOf_87 : decode cX3_delayOf 87 = .ok (.ldiv, 1) := by decide +kernel
theorem dX3_delayOf_88 : decode cX3_delayOf 88 = .ok (.l2i, 1) := by decide +kernel
theorem dX3_delayOf_89 : decode cX3_delayOf 89 = .ok (.ireturn, 1) := by decide +kernel
set_option maxRecDepth 20000 in
theorem ggX3_weightOf_X3_has : GoodIn wsX3_weightOf wsX3_has := goodIn_r _ [7, 8, 23, 24, 25, 26, 27, 28, 29, 30, 31, 32, 33] (by decide +kernel) (by decide +kernel)
set_option maxRecDepth 20000 in
theorem gX3_weightOf_X3_has : GoodIn wsX3_weightOf (wsV RX3 57 RX3 yX3_has wsX3_has) := goodIn_app (goodIn_of _ (by decide +kernel)) ggX3_weightOf_X3_has
set_option maxRecDepth 20000 in
theorem ggX3_weightOf_X3_isDead : GoodIn wsX3_weightOf wsX3_isDead := goodIn_r _ [12, 13, 3, 4, 5, 6, 7, 8, 23, 24, 25, 26, 27, 28, 29, 30, 31, 32, 33] (by decide +kernel) (by decide +kernel)
set_option maxRecDepth 20000 in
theorem gX3_weightOf_X3_isDead : GoodIn wsX3_weightOf (wsV RX3 76 RX3 yX3_isDead wsX3_isDead) := goodIn_app (goodIn_of _ (by decide +kernel)) ggX3_weightOf_X3_isDead
set_option maxRecDepth 20000 in
theorem ggX3_weightOf_X3_gap : GoodIn wsX3_weightOf wsX3_gap := goodIn_r _ [17, 18, 19, 20, 21, 22, 3, 4, 5, 6, 7, 8, 23, 24, 25, 26, 27, 28, 29, 30, 31, 32, 33] (by decide +kernel) (by decide +kernel)
set_option maxRecDepth 20000 in
theorem gX3_weightOf_X3_gap : GoodIn wsX3_weightOf (wsV RX3 65 RX3 yX3_gap wsX3_gap) := goodIn_app (goodIn_of _ (by decide +kernel)) ggX3_weightOf_X3_gap
theorem dX3_weightOf_0 : decode cX3_weightOf 0 = .ok (.aload_n 0, 1) := by decide +kernel
theorem dX3_weightOf_1 : decode cX3_weightOf 1 = .ok (.iload_n 1, 1) := by decide +kernel
theorem dX3_weightOf_2 : decode cX3_weightOf 2 = .ok (.invokevirtual 57, 3) := by decide +kernel
theorem dX3_weightOf_5 : decode cX3_weightOf 5 = .ok (.ifCond .eq 11, 3) := by decide +kernel
theorem dX3_weightOf_8 : decode cX3_weightOf 8 = .ok (.aload_n 0, 1) := by decide +kernel
theorem dX3_weightOf_9 : decode cX3_weightOf 9 = .ok (.iload_n 1, 1) := by decide +kernel
theorem dX3_weightOf_10 : decode cX3_weightOf 10 = .ok (.invokevirtual 76, 3) := by decide +kernel
theorem dX3_weightOf_13 : decode cX3_weightOf 13 = .ok (.ifCond .eq 5, 3) := by decide +kernel
theorem dX3_weightOf_16 : decode cX3_weightOf 16 = .ok (.iconst 0, 1) := by decide +kernel
theorem dX3_weightOf_17 : decode cX3_weightOf 17 = .ok (.ireturn, 1) := by decide +kernel
theorem dX3_weightOf_18 : decode cX3_weightOf 18 = .ok (.aload_n 0, 1) := by decide +kernel
theorem dX3_weightOf_19 : decode cX3_weightOf 19 = .ok (.getfield 32, 3) := by decide +kernel
theorem dX3_weightOf_22 : decode cX3_weightOf 22 = .ok (.ifCond .eq 11, 3) := by decide +kernel
theorem dX3_weightOf_25 : decode cX3_weightOf 25 = .ok (.aload_n 0, 1) := by decide +kernel
theorem dX3_weightOf_26 : decode cX3_weightOf 26 = .ok (.getfield 35, 3) := by decide +kernel
theorem dX3_weightOf_29 : decode cX3_weightOf 29 = .ok (.iconst 1, 1) := by decide +kernel
theorem dX3_weightOf_30 : decode cX3_weightOf 30 = .ok (.if_icmp .ge 5, 3) := by decide +kernel
theorem dX3_weightOf_33 : decode cX3_weightOf 33 = .ok (.iconst 1, 1) := by decide +kernel
theorem dX3_weightOf_34 : decode cX3_weightOf 34 = .ok (.ireturn, 1) := by decide +kernel
theorem dX3_weightOf_35 : decode cX3_weightOf 35 = .ok (.iload_n 3, 1) := by decide +kernel
theorem dX3_weightOf_36 : decode cX3_weightOf 36 = .ok (.aload_n 0, 1) := by decide +kernel
theorem dX3_weightOf_37 : decode cX3_weightOf 37 = .ok (.getfield 35, 3) := by decide +kernel
theorem dX3_weightOf_40 : decode cX3_weightOf 40 = .ok (.idiv, 1) := by decide +kernel
theorem dX3_weightOf_41 : decode cX3_weightOf 41 = .ok (.istore 4, 2) := by decide +kernel
theorem dX3_weightOf_43 : decode cX3_weightOf 43 = .ok (.aload_n 0, 1) := by decide +kernel
theorem dX3_weightOf_44 : decode cX3_weightOf 44 = .ok (.iload_n 1, 1) := by decide +kernel
theorem dX3_weightOf_45 : decode cX3_weightOf 45 = .ok (.iload_n 2, 1) := by decide +kernel
theorem dX3_weightOf_46 : decode cX3_weightOf 46 = .ok (.invokevirtual 65, 3) := by decide +kernel
theorem dX3_weightOf_49 : decode cX3_weightOf 49 = .ok (.istore 5, 2) := by decide +kernel
theorem dX3_weightOf_51 : decode cX3_weightOf 51 = .ok (.iload 5, 2) := by decide +kernel
theorem dX3_weightOf_53 : decode cX3_weightOf 53 = .ok (.iload 4, 2) := by decide +kernel
theorem dX3_weightOf_55 : decode cX3_weightOf 55 = .ok (.if_icmp .le 5, 3) := by decide +kernel
theorem dX3_weightOf_58 : decode cX3_weightOf 58 = .ok (.iconst 0, 1) := by decide +kernel
theorem dX3_weightOf_59 : decode cX3_weightOf 59 = .ok (.ireturn, 1) := by decide +kernel
theorem dX3_weightOf_60 : decode cX3_weightOf 60 = .ok (.aload_n 0, 1) := by decide +kernel
theorem dX3_weightOf_61 : decode cX3_weightOf 61 = .ok (.getfield 32, 3) := by decide +kernel
theorem dX3_weightOf_64 : decode cX3_weightOf 64 = .ok (.iconst 1, 1) := by decide +kernel
theorem dX3_weightOf_65 : decode cX3_weightOf 65 = .ok (.if_icmp .ne 7, 3) := by decide +kernel
theorem dX3_weightOf_68 : decode cX3_weightOf 68 = .ok (.iconst 1, 1) := by decide +kernel
theorem dX3_weightOf_69 : decode cX3_weightOf 69 = .ok (.goto 10, 3) := by decide +kernel
theorem dX3_weightOf_72 : decode cX3_weightOf 72 = .ok (.iload 4, 2) := by decide +kernel
theorem dX3_weightOf_74 : decode cX3_weightOf 74 = .ok (.iload 5, 2) := by decide +kernel
theorem dX3_weightOf_76 : decode cX3_weightOf 76 = .ok (.isub, 1) := by decide +kernel
theorem dX3_weightOf_77 : decode cX3_weightOf 77 = .ok (.iconst 1, 1) := by decide +kernel
theorem dX3_weightOf_78 : decode cX3_weightOf 78 = .ok (.iadd, 1) := by decide +kernel
theorem dX3_weightOf_79 : decode cX3_weightOf 79 = .ok (.ireturn, 1) := by decide +kernel
set_option maxRecDepth 20000 in
theorem ggX3_aim_X3_delayOf : GoodIn wsX3_aim wsX3_delayOf := goodIn_r _ [9, 10, 11, 12, 13, 14, 15, 16, 8, 17, 18, 19, 20, 21, 22, 23, 24, 25, 26, 2, 27, 28, 29, 30, 42, 43, 44, 45, 46, 47, 48, 49, 50, 51, 52] (by decide +kernel) (by decide +kernel)
set_option maxRecDepth 20000 in
theorem gX3_aim_X3_delayOf : GoodIn wsX3_aim (wsV RX3 82 RX3 yX3_delayOf wsX3_delayOf) := goodIn_app (goodIn_of _ (by decide +kernel)) ggX3_aim_X3_delayOf
set_option maxRecDepth 20000 in
theorem ggX3_aim_X3_weightOf : GoodIn wsX3_aim wsX3_weightOf := goodIn_r _ [34, 35, 36, 23, 24, 25, 8, 26, 2, 37, 38, 39, 40, 41, 14, 15, 16, 17, 18, 19, 20, 21, 22, 42, 43, 44, 45, 46, 47, 48, 49, 50, 51, 52] (by decide +kernel) (by decide +kernel)
set_option maxRecDepth 20000 in
theorem gX3_aim_X3_weightOf : GoodIn wsX3_aim (wsV RX3 86 RX3 yX3_weightOf wsX3_weightOf) := goodIn_app (goodIn_of _ (by decide +kernel)) ggX3_aim_X3_weightOf
theorem dX3_aim_0 : decode cX3_aim 0 = .ok (.aload_n 0, 1) := by decide +kernel
theorem dX3_aim_1 : decode cX3_aim 1 = .ok (.iconst 0, 1) := by decide +kernel
theorem dX3_aim_2 : decode cX3_aim 2 = .ok (.putfield 79, 3) := by decide +kernel
theorem dX3_aim_5 : decode cX3_aim 5 = .ok (.iconst 0, 1) := by decide +kernel
theorem dX3_aim_6 : decode cX3_aim 6 = .ok (.istore_n 3, 1) := by decide +kernel
theorem dX3_aim_7 : decode cX3_aim 7 = .ok (.iload_n 3, 1) := by decide +kernel
theorem dX3_aim_8 : decode cX3_aim 8 = .ok (.aload_n 0, 1) := by decide +kernel
theorem dX3_aim_9 : decode cX3_aim 9 = .ok (.getfield 51, 3) := by decide +kernel
theorem dX3_aim_12 : decode cX3_aim 12 = .ok (.if_icmp .ge 56, 3) := by decide +kernel
theorem dX3_aim_15 : decode cX3_aim 15 = .ok (.iload_n 3, 1) := by decide +kernel
theorem dX3_aim_16 : decode cX3_aim 16 = .ok (.bipush 16, 2) := by decide +kernel
theorem dX3_aim_18 : decode cX3_aim 18 = .ok (.if_icmp .ge 50, 3) := by decide +kernel
theorem dX3_aim_21 : decode cX3_aim 21 = .ok (.aload_n 0, 1) := by decide +kernel
theorem dX3_aim_22 : decode cX3_aim 22 = .ok (.getfield 19, 3) := by decide +kernel
theorem dX3_aim_25 : decode cX3_aim 25 = .ok (.iload_n 3, 1) := by decide +kernel
theorem dX3_aim_26 : decode cX3_aim 26 = .ok (.aload_n 0, 1) := by decide +kernel
theorem dX3_aim_27 : decode cX3_aim 27 = .ok (.iload_n 3, 1) := by decide +kernel
theorem dX3_aim_28 : decode cX3_aim 28 = .ok (.iload_n 1, 1) := by decide +kernel
theorem dX3_aim_29 : decode cX3_aim 29 = .ok (.iload_n 2, 1) := by decide +kernel
theorem dX3_aim_30 : decode cX3_aim 30 = .ok (.invokevirtual 82, 3) := by decide +kernel
theorem dX3_aim_33 : decode cX3_aim 33 = .ok (.iastore, 1) := by decide +kernel
theorem dX3_aim_34 : decode cX3_aim 34 = .ok (.aload_n 0, 1) := by decide +kernel
theorem dX3_aim_35 : decode cX3_aim 35 = .ok (.getfield 22, 3) := by decide +kernel
theorem dX3_aim_38 : decode cX3_aim 38 = .ok (.iload_n 3, 1) := by decide +kernel
theorem dX3_aim_39 : decode cX3_aim 39 = .ok (.aload_n 0, 1) := by decide +kernel
theorem dX3_aim_40 : decode cX3_aim 40 = .ok (.iload_n 3, 1) := by decide +kernel
theorem dX3_aim_41 : decode cX3_aim 41 = .ok (.iload_n 1, 1) := by decide +kernel
theorem dX3_aim_42 : decode cX3_aim 42 = .ok (.iload_n 2, 1) := by decide +kernel
theorem dX3_aim_43 : decode cX3_aim 43 = .ok (.invokevirtual 86, 3) := by decide +kernel
theorem dX3_aim_46 : decode cX3_aim 46 = .ok (.iastore, 1) := by decide +kernel
theorem dX3_aim_47 : decode cX3_aim 47 = .ok (.aload_n 0, 1) := by decide +kernel
theorem dX3_aim_48 : decode cX3_aim 48 = .ok (.dup, 1) := by decide +kernel
theorem dX3_aim_49 : decode cX3_aim 49 = .ok (.getfield 79, 3) := by decide +kernel
theorem dX3_aim_52 : decode cX3_aim 52 = .ok (.aload_n 0, 1) := by decide +kernel
theorem dX3_aim_53 : decode cX3_aim 53 = .ok (.getfield 22, 3) := by decide +kernel
theorem dX3_aim_56 : decode cX3_aim 56 = .ok (.iload_n 3, 1) := by decide +kernel
theorem dX3_aim_57 : decode cX3_aim 57 = .ok (.iaload, 1) := by decide +kernel
theorem dX3_aim_58 : decode cX3_aim 58 = .ok (.iadd, 1) := by decide +kernel
theorem dX3_aim_59 : decode cX3_aim 59 = .ok (.putfield 79, 3) := by decide +kernel
theorem dX3_aim_62 : decode cX3_aim 62 = .ok (.iinc 3 1, 3) := by decide +kernel
theorem dX3_aim_65 : decode cX3_aim 65 = .ok (.goto (-58), 3) := by decide +kernel
theorem dX3_aim_68 : decode cX3_aim 68 = .ok (.return_, 1) := by decide +kernel
set_option maxRecDepth 20000 in
theorem ggX3_aimedDelay_X3_has : GoodIn wsX3_aimedDelay wsX3_has := goodIn_r _ [6, 7, 8, 9, 10, 11, 12, 13, 14, 15, 16, 17, 18] (by decide +kernel) (by decide +kernel)
set_option maxRecDepth 20000 in
theorem gX3_aimedDelay_X3_has : GoodIn wsX3_aimedDelay (wsV RX3 57 RX3 yX3_has wsX3_has) := goodIn_app (goodIn_of _ (by decide +kernel)) ggX3_aimedDelay_X3_has
theorem dX3_aimedDelay_0 : decode cX3_aimedDelay 0 = .ok (.aload_n 0, 1) := by decide +kernel
theorem dX3_aimedDelay_1 : decode cX3_aimedDelay 1 = .ok (.iload_n 1, 1) := by decide +kernel
theorem dX3_aimedDelay_2 : decode cX3_aimedDelay 2 = .ok (.invokevirtual 57, 3) := by decide +kernel
theorem dX3_aimedDelay_5 : decode cX3_aimedDelay 5 = .ok (.ifCond .eq 12, 3) := by decide +kernel
theorem dX3_aimedDelay_8 : decode cX3_aimedDelay 8 = .ok (.aload_n 0, 1) := by decide +kernel
theorem dX3_aimedDelay_9 : decode cX3_aimedDelay 9 = .ok (.getfield 19, 3) := by decide +kernel
theorem dX3_aimedDelay_12 : decode cX3_aimedDelay 12 = .ok (.iload_n 1, 1) := by decide +kernel
theorem dX3_aimedDelay_13 : decode cX3_aimedDelay 13 = .ok (.iaload, 1) := by decide +kernel
theorem dX3_aimedDelay_14 : decode cX3_aimedDelay 14 = .ok (.goto 4, 3) := by decide +kernel
theorem dX3_aimedDelay_17 : decode cX3_aimedDelay 17 = .ok (.iconst 0, 1) := by decide +kernel
theorem dX3_aimedDelay_18 : decode cX3_aimedDelay 18 = .ok (.ireturn, 1) := by decide +kernel
set_option maxRecDepth 20000 in
theorem ggX3_aimedWeight_X3_has : GoodIn wsX3_aimedWeight wsX3_has := goodIn_r _ [6, 7, 8, 9, 10, 11, 12, 13, 14, 15, 16, 17, 18] (by decide +kernel) (by decide +kernel)
set_option maxRecDepth 20000 in
theorem gX3_aimedWeight_X3_has : GoodIn wsX3_aimedWeight (wsV RX3 57 RX3 yX3_has wsX3_has) := goodIn_app (goodIn_of _ (by decide +kernel)) ggX3_aimedWeight_X3_has
theorem dX3_aimedWeight_0 : decode cX3_aimedWeight 0 = .ok (.aload_n 0, 1) := by decide +kernel
theorem dX3_aimedWeight_1 : decode cX3_aimedWeight 1 = .ok (.iload_n 1, 1) := by decide +kernel
theorem dX3_aimedWeight_2 : decode cX3_aimedWeight 2 = .ok (.invokevirtual 57, 3) := by decide +kernel
theorem dX3_aimedWeight_5 : decode cX3_aimedWeight 5 = .ok (.ifCond .eq 12, 3) := by decide +kernel
theorem dX3_aimedWeight_8 : decode cX3_aimedWeight 8 = .ok (.aload_n 0, 1) := by decide +kernel
theorem dX3_aimedWeight_9 : decode cX3_aimedWeight 9 = .ok (.getfield 22, 3) := by decide +kernel
theorem dX3_aimedWeight_12 : decode cX3_aimedWeight 12 = .ok (.iload_n 1, 1) := by decide +kernel
theorem dX3_aimedWeight_13 : decode cX3_aimedWeight 13 = .ok (.iaload, 1) := by decide +kernel
theorem dX3_aimedWeight_14 : decode cX3_aimedWeight 14 = .ok (.goto 4, 3) := by decide +kernel
theorem dX3_aimedWeight_17 : decode cX3_aimedWeight 17 = .ok (.iconst 0, 1) := by decide +kernel
theorem dX3_aimedWeight_18 : decode cX3_aimedWeight 18 = .ok (.ireturn, 1) := by decide +kernel
theorem dX4_init_0 : decode cX4_init 0 = .ok (.aload_n 0, 1) := by decide +kernel
theorem dX4_init_1 : decode cX4_init 1 = .ok (.invokespecial 3, 3) := by decide +kernel
theorem dX4_init_4 : decode cX4_init 4 = .ok (.aload_n 0, 1) := by decide +kernel
theorem dX4_init_5 : decode cX4_init 5 = .ok (.sipush 1024, 3) := by decide +kernel
theorem dX4_init_8 : decode cX4_init 8 = .ok (.newarray .int, 2) := by decide +kernel
theorem dX4_init_10 : decode cX4_init 10 = .ok (.putfield 9, 3) := by decide +kernel
theorem dX4_init_13 : decode cX4_init 13 = .ok (.aload_n 0, 1) := by decide +kernel
theorem dX4_init_14 : decode cX4_init 14 = .ok (.iconst 4, 1) := by decide +kernel
theorem dX4_init_15 : decode cX4_init 15 = .ok (.newarray .int, 2) := by decide +kernel
theorem dX4_init_17 : decode cX4_init 17 = .ok (.putfield 13, 3) := by decide +kernel
theorem dX4_init_20 : decode cX4_init 20 = .ok (.aload_n 0, 1) := by decide +kernel
theorem dX4_init_21 : decode cX4_init 21 = .ok (.iconst 4, 1) := by decide +kernel
theorem dX4_init_22 : decode cX4_init 22 = .ok (.newarray .int, 2) := by decide +kernel
theorem dX4_init_24 : decode cX4_init 24 = .ok (.putfield 16, 3) := by decide +kernel
theorem dX4_init_27 : decode cX4_init 27 = .ok (.return_, 1) := by decide +kernel
theorem dX4_forget_0 : decode cX4_forget 0 = .ok (.aload_n 0, 1) := by decide +kernel
theorem dX4_forget_1 : decode cX4_forget 1 = .ok (.iconst 0, 1) := by decide +kernel
theorem dX4_forget_2 : decode cX4_forget 2 = .ok (.putfield 19, 3) := by decide +kernel
theorem dX4_forget_5 : decode cX4_forget 5 = .ok (.aload_n 0, 1) := by decide +kernel
theorem dX4_forget_6 : decode cX4_forget 6 = .ok (.iconst 0, 1) := by decide +kernel
theorem dX4_forget_7 : decode cX4_forget 7 = .ok (.putfield 23, 3) := by decide +kernel
theorem dX4_forget_10 : decode cX4_forget 10 = .ok (.return_, 1) := by decide +kernel
theorem dX4_has_0 : decode cX4_has 0 = .ok (.iload_n 1, 1) := by decide +kernel
theorem dX4_has_1 : decode cX4_has 1 = .ok (.ifCond .lt 15, 3) := by decide +kernel
theorem dX4_has_4 : decode cX4_has 4 = .ok (.iload_n 1, 1) := by decide +kernel
theorem dX4_has_5 : decode cX4_has 5 = .ok (.aload_n 0, 1) := by decide +kernel
theorem dX4_has_6 : decode cX4_has 6 = .ok (.getfield 23, 3) := by decide +kernel
theorem dX4_has_9 : decode cX4_has 9 = .ok (.if_icmp .ge 7, 3) := by decide +kernel
theorem dX4_has_12 : decode cX4_has 12 = .ok (.iconst 1, 1) := by decide +kernel
theorem dX4_has_13 : decode cX4_has 13 = .ok (.goto 4, 3) := by decide +kernel
theorem dX4_has_16 : decode cX4_has 16 = .ok (.iconst 0, 1) := by decide +kernel
theorem dX4_has_17 : decode cX4_has 17 = .ok (.ireturn, 1) := by decide +kernel
set_option maxRecDepth 20000 in
theorem ggX4_begin_X4_slotOf : GoodIn wsX4_begin wsX4_slotOf := goodIn_r _ [9, 2, 10, 11, 12, 13, 14, 15, 16, 17, 18] (by decide +kernel) (by decide +kernel)
set_option maxRecDepth 20000 in
theorem gX4_begin_X4_slotOf : GoodIn wsX4_begin (wsV RX4 26 RX4 yX4_slotOf wsX4_slotOf) := goodIn_app (goodIn_of _ (by decide +kernel)) ggX4_begin_X4_slotOf
theorem dX4_begin_0 : decode cX4_begin 0 = .ok (.aload_n 0, 1) := by decide +kernel
theorem dX4_begin_1 : decode cX4_begin 1 = .ok (.getfield 23, 3) := by decide +kernel
theorem dX4_begin_4 : decode cX4_begin 4 = .ok (.iconst 4, 1) := by decide +kernel
theorem dX4_begin_5 : decode cX4_begin 5 = .ok (.if_icmp .lt 18, 3) := by decide +kernel
theorem dX4_begin_8 : decode cX4_begin 8 = .ok (.aload_n 0, 1) := by decide +kernel
theorem dX4_begin_9 : decode cX4_begin 9 = .ok (.aload_n 0, 1) := by decide +kernel
theorem dX4_begin_10 : decode cX4_begin 10 = .ok (.getfield 19, 3) := by decide +kernel
theorem dX4_begin_13 : decode cX4_begin 13 = .ok (.iconst 1, 1) := by decide +kernel
theorem dX4_begin_14 : decode cX4_begin 14 = .ok (.iadd, 1) := by decide +kernel
theorem dX4_begin_15 : decode cX4_begin 15 = .ok (.iconst 4, 1) := by decide +kernel
theorem dX4_begin_16 : decode cX4_begin 16 = .ok (.irem, 1) := by decide +kernel
theorem dX4_begin_17 : decode cX4_begin 17 = .ok (.putfield 19, 3) := by decide +kernel
theorem dX4_begin_20 : decode cX4_begin 20 = .ok (.goto 13, 3) := by decide +kernel
theorem dX4_begin_23 : decode cX4_begin 23 = .ok (.aload_n 0, 1) := by decide +kernel
theorem dX4_begin_24 : decode cX4_begin 24 = .ok (.dup, 1) := by decide +kernel
theorem dX4_begin_25 : decode cX4_begin 25 = .ok (.getfield 23, 3) := by decide +kernel
theorem dX4_begin_28 : decode cX4_begin 28 = .ok (.iconst 1, 1) := by decide +kernel
theorem dX4_begin_29 : decode cX4_begin 29 = .ok (.iadd, 1) := by decide +kernel
theorem dX4_begin_30 : decode cX4_begin 30 = .ok (.putfield 23, 3) := by decide +kernel
theorem dX4_begin_33 : decode cX4_begin 33 = .ok (.aload_n 0, 1) := by decide +kernel
theorem dX4_begin_34 : decode cX4_begin 34 = .ok (.aload_n 0, 1) := by decide +kernel
theorem dX4_begin_35 : decode cX4_begin 35 = .ok (.getfield 23, 3) := by decide +kernel
theorem dX4_begin_38 : decode cX4_begin 38 = .ok (.iconst 1, 1) := by decide +kernel
theorem dX4_begin_39 : decode cX4_begin 39 = .ok (.isub, 1) := by decide +kernel
theorem dX4_begin_40 : decode cX4_begin 40 = .ok (.invokevirtual 26, 3) := by decide +kernel
theorem dX4_begin_43 : decode cX4_begin 43 = .ok (.istore_n 3, 1) := by decide +kernel
theorem dX4_begin_44 : decode cX4_begin 44 = .ok (.aload_n 0, 1) := by decide +kernel
theorem dX4_begin_45 : decode cX4_begin 45 = .ok (.getfield 13, 3) := by decide +kernel
theorem dX4_begin_48 : decode cX4_begin 48 = .ok (.iload_n 3, 1) := by decide +kernel
theorem dX4_begin_49 : decode cX4_begin 49 = .ok (.iload_n 1, 1) := by decide +kernel
theorem dX4_begin_50 : decode cX4_begin 50 = .ok (.iastore, 1) := by decide +kernel
theorem dX4_begin_51 : decode cX4_begin 51 = .ok (.aload_n 0, 1) := by decide +kernel
theorem dX4_begin_52 : decode cX4_begin 52 = .ok (.getfield 16, 3) := by decide +kernel
theorem dX4_begin_55 : decode cX4_begin 55 = .ok (.iload_n 3, 1) := by decide +kernel
theorem dX4_begin_56 : decode cX4_begin 56 = .ok (.iload_n 2, 1) := by decide +kernel
theorem dX4_begin_57 : decode cX4_begin 57 = .ok (.iastore, 1) := by decide +kernel
theorem dX4_begin_58 : decode cX4_begin 58 = .ok (.iload_n 3, 1) := by decide +kernel
theorem dX4_begin_59 : decode cX4_begin 59 = .ok (.ireturn, 1) := by decide +kernel
set_option maxRecDepth 20000 in
theorem ggX4_slotOf_J9_floorMod_7cf53 : GoodIn wsX4_slotOf wsJ9_floorMod_7cf53 := goodIn_r _ [5] (by decide +kernel) (by decide +kernel)
set_option maxRecDepth 20000 in
theorem gX4_slotOf_J9_floorMod_7cf53 : GoodIn wsX4_slotOf (va_wsS RX4 30 yJ9_floorMod_7cf53 wsJ9_floorMod_7cf53) := goodIn_app (goodIn_of _ (by decide +kernel)) ggX4_slotOf_J9_floorMod_7cf53
theorem dX4_slotOf_0 : decode cX4_slotOf 0 = .ok (.aload_n 0, 1) := by decide +kernel
theorem dX4_slotOf_1 : decode cX4_slotOf 1 = .ok (.getfield 19, 3) := by decide +kernel
theorem dX4_slotOf_4 : decode cX4_slotOf 4 = .ok (.iload_n 1, 1) := by decide +kernel
theorem dX4_slotOf_5 : decode cX4_slotOf 5 = .ok (.iadd, 1) := by decide +kernel
theorem dX4_slotOf_6 : decode cX4_slotOf 6 = .ok (.iconst 4, 1) := by decide +kernel
theorem dX4_slotOf_7 : decode cX4_slotOf 7 = .ok (.invokestatic 30, 3) := by decide +kernel
theorem dX4_slotOf_10 : decode cX4_slotOf 10 = .ok (.ireturn, 1) := by decide +kernel
theorem dX4_isSlot_0 : decode cX4_isSlot 0 = .ok (.iload_n 1, 1) := by decide +kernel
theorem dX4_isSlot_1 : decode cX4_isSlot 1 = .ok (.ifCond .lt 12, 3) := by decide +kernel
theorem dX4_isSlot_4 : decode cX4_isSlot 4 = .ok (.iload_n 1, 1) := by decide +kernel
theorem dX4_isSlot_5 : decode cX4_isSlot 5 = .ok (.iconst 4, 1) := by decide +kernel
theorem dX4_isSlot_6 : decode cX4_isSlot 6 = .ok (.if_icmp .ge 7, 3) := by decide +kernel
theorem dX4_isSlot_9 : decode cX4_isSlot 9 = .ok (.iconst 1, 1) := by decide +kernel
theorem dX4_isSlot_10 : decode cX4_isSlot 10 = .ok (.goto 4, 3) := by decide +kernel
theorem dX4_isSlot_13 : decode cX4_isSlot 13 = .ok (.iconst 0, 1) := by decide +kernel
theorem dX4_isSlot_14 : decode cX4_isSlot 14 = .ok (.ireturn, 1) := by decide +kernel
set_option maxRecDepth 20000 in
theorem ggX4_widthOf_X4_isSlot : GoodIn wsX4_widthOf wsX4_isSlot := goodIn_r _ [6] (by decide +kernel) (by decide +kernel)
set_option maxRecDepth 20000 in
theorem gX4_widthOf_X4_isSlot : GoodIn wsX4_widthOf (wsV RX4 36 RX4 yX4_isSlot wsX4_isSlot) := goodIn_app (goodIn_of _ (by decide +kernel)) ggX4_widthOf_X4_isSlot
theorem dX4_widthOf_0 : decode cX4_widthOf 0 = .ok (.aload_n 0, 1) := by decide +kernel
theorem dX4_widthOf_1 : decode cX4_widthOf 1 = .ok (.iload_n 1, 1) := by decide +kernel
theorem dX4_widthOf_2 : decode cX4_widthOf 2 = .ok (.invokevirtual 36, 3) := by decide +kernel
theorem dX4_widthOf_5 : decode cX4_widthOf 5 = .ok (.ifCond .eq 12, 3) := by decide +kernel
theorem dX4_widthOf_8 : decode cX4_widthOf 8 = .ok (.aload_n 0, 1) := by decide +kernel
theorem dX4_widthOf_9 : decode cX4_widthOf 9 = .ok (.getfield 13, 3) := by decide +kernel
theorem dX4_widthOf_12 : decode cX4_widthOf 12 = .ok (.iload_n 1, 1) := by decide +kernel
theorem dX4_widthOf_13 : decode cX4_widthOf 13 = .ok (.iaload, 1) := by decide +kernel
theorem dX4_widthOf_14 : decode cX4_widthOf 14 = .ok (.goto 4, 3) := by decide +kernel
theorem dX4_widthOf_17 : decode cX4_widthOf 17 = .ok (.iconst 0, 1) := by decide +kernel
theorem dX4_widthOf_18 : decode cX4_widthOf 18 = .ok (.ireturn, 1) := by decide +kernel
set_option maxRecDepth 20000 in
theorem ggX4_heightOf_X4_isSlot : GoodIn wsX4_heightOf wsX4_isSlot := goodIn_r _ [6] (by decide +kernel) (by decide +kernel)
set_option maxRecDepth 20000 in
theorem gX4_heightOf_X4_isSlot : GoodIn wsX4_heightOf (wsV RX4 36 RX4 yX4_isSlot wsX4_isSlot) := goodIn_app (goodIn_of _ (by decide +kernel)) ggX4_heightOf_X4_isSlot
theorem dX4_heightOf_0 : decode cX4_heightOf 0 = .ok (.aload_n 0, 1) := by decide +kernel
theorem dX4_heightOf_1 : decode cX4_heightOf 1 = .ok (.iload_n 1, 1) := by decide +kernel
theorem dX4_heightOf_2 : decode cX4_heightOf 2 = .ok (.invokevirtual 36, 3) := by decide +kernel
theorem dX4_heightOf_5 : decode cX4_heightOf 5 = .ok (.ifCond .eq 12, 3) := by decide +kernel
theorem dX4_heightOf_8 : decode cX4_heightOf 8 = .ok (.aload_n 0, 1) := by decide +kernel
theorem dX4_heightOf_9 : decode cX4_heightOf 9 = .ok (.getfield 16, 3) := by decide +kernel
theorem dX4_heightOf_12 : decode cX4_heightOf 12 = .ok (.iload_n 1, 1) := by decide +kernel
theorem dX4_heightOf_13 : decode cX4_heightOf 13 = .ok (.iaload, 1) := by decide +kernel
theorem dX4_heightOf_14 : decode cX4_heightOf 14 = .ok (.goto 4, 3) := by decide +kernel
theorem dX4_heightOf_17 : decode cX4_heightOf 17 = .ok (.iconst 0, 1) := by decide +kernel
theorem dX4_heightOf_18 : decode cX4_heightOf 18 = .ok (.ireturn, 1) := by decide +kernel
set_option maxRecDepth 20000 in
theorem ggX4_get_X4_isSlot : GoodIn wsX4_get wsX4_isSlot := goodIn_r _ [6] (by decide +kernel) (by decide +kernel)
set_option maxRecDepth 20000 in
theorem gX4_get_X4_isSlot : GoodIn wsX4_get (wsV RX4 36 RX4 yX4_isSlot wsX4_isSlot) := goodIn_app (goodIn_of _ (by decide +kernel)) ggX4_get_X4_isSlot
theorem dX4_get_0 : decode cX4_get 0 = .ok (.aload_n 0, 1) := by decide +kernel
theorem dX4_get_1 : decode cX4_get 1 = .ok (.iload_n 1, 1) := by decide +kernel
theorem dX4_get_2 : decode cX4_get 2 = .ok (.invokevirtual 36, 3) := by decide +kernel
theorem dX4_get_5 : decode cX4_get 5 = .ok (.ifCond .eq 29, 3) := by decide +kernel
theorem dX4_get_8 : decode cX4_get 8 = .ok (.iload_n 2, 1) := by decide +kernel
theorem dX4_get_9 : decode cX4_get 9 = .ok (.ifCond .lt 25, 3) := by decide +kernel
theorem dX4_get_12 : decode cX4_get 12 = .ok (.iload_n 2, 1) := by decide +kernel
theorem dX4_get_13 : decode cX4_get 13 = .ok (.sipush 256, 3) := by decide +kernel
theorem dX4_get_16 : decode cX4_get 16 = .ok (.if_icmp .ge 18, 3) := by decide +kernel
theorem dX4_get_19 : decode cX4_get 19 = .ok (.aload_n 0, 1) := by decide +kernel
theorem dX4_get_20 : decode cX4_get 20 = .ok (.getfield 9, 3) := by decide +kernel
theorem dX4_get_23 : decode cX4_get 23 = .ok (.iload_n 1, 1) := by decide +kernel
theorem dX4_get_24 : decode cX4_get 24 = .ok (.sipush 256, 3) := by decide +kernel
theorem dX4_get_27 : decode cX4_get 27 = .ok (.imul, 1) := by decide +kernel
theorem dX4_get_28 : decode cX4_get 28 = .ok (.iload_n 2, 1) := by decide +kernel
theorem dX4_get_29 : decode cX4_get 29 = .ok (.iadd, 1) := by decide +kernel
theorem dX4_get_30 : decode cX4_get 30 = .ok (.iaload, 1) := by decide +kernel
theorem dX4_get_31 : decode cX4_get 31 = .ok (.goto 4, 3) := by decide +kernel
theorem dX4_get_34 : decode cX4_get 34 = .ok (.iconst 0, 1) := by decide +kernel
theorem dX4_get_35 : decode cX4_get 35 = .ok (.ireturn, 1) := by decide +kernel
set_option maxRecDepth 20000 in
theorem ggX4_set_X4_isSlot : GoodIn wsX4_set wsX4_isSlot := goodIn_r _ [6] (by decide +kernel) (by decide +kernel)
set_option maxRecDepth 20000 in
theorem gX4_set_X4_isSlot : GoodIn wsX4_set (wsV RX4 36 RX4 yX4_isSlot wsX4_isSlot) := goodIn_app (goodIn_of _ (by decide +kernel)) ggX4_set_X4_isSlot
theorem dX4_set_0 : decode cX4_set 0 = .ok (.aload_n 0, 1) := by decide +kernel
theorem dX4_set_1 : decode cX4_set 1 = .ok (.iload_n 1, 1) := by decide +kernel
theorem dX4_set_2 : decode cX4_set 2 = .ok (.invokevirtual 36, 3) := by decide +kernel
theorem dX4_set_5 : decode cX4_set 5 = .ok (.ifCond .eq 27, 3) := by decide +kernel
theorem dX4_set_8 : decode cX4_set 8 = .ok (.iload_n 2, 1) := by decide +kernel
theorem dX4_set_9 : decode cX4_set 9 = .ok (.ifCond .lt 23, 3) := by decide +kernel
theorem dX4_set_12 : decode cX4_set 12 = .ok (.iload_n 2, 1) := by decide +kernel
theorem dX4_set_13 : decode cX4_set 13 = .ok (.sipush 256, 3) := by decide +kernel
theorem dX4_set_16 : decode cX4_set 16 = .ok (.if_icmp .ge 16, 3) := by decide +kernel
theorem dX4_set_19 : decode cX4_set 19 = .ok (.aload_n 0, 1) := by decide +kernel
theorem dX4_set_20 : decode cX4_set 20 = .ok (.getfield 9, 3) := by decide +kernel
theorem dX4_set_23 : decode cX4_set 23 = .ok (.iload_n 1, 1) := by decide +kernel
theorem dX4_set_24 : decode cX4_set 24 = .ok (.sipush 256, 3) := by decide +kernel
theorem dX4_set_27 : decode cX4_set 27 = .ok (.imul, 1) := by decide +kernel
theorem dX4_set_28 : decode cX4_set 28 = .ok (.iload_n 2, 1) := by decide +kernel
theorem dX4_set_29 : decode cX4_set 29 = .ok (.iadd, 1) := by decide +kernel
theorem dX4_set_30 : decode cX4_set 30 = .ok (.iload_n 3, 1) := by decide +kernel
theorem dX4_set_31 : decode cX4_set 31 = .ok (.iastore, 1) := by decide +kernel
theorem dX4_set_32 : decode cX4_set 32 = .ok (.return_, 1) := by decide +kernel
set_option maxRecDepth 20000 in
theorem ggX4_firstGreatest_X4_widthOf : GoodIn wsX4_firstGreatest wsX4_widthOf := goodIn_r _ [5, 6, 7, 8, 9, 4, 10, 21, 22, 23, 24, 25] (by decide +kernel) (by decide +kernel)
set_option maxRecDepth 20000 in
theorem gX4_firstGreatest_X4_widthOf : GoodIn wsX4_firstGreatest (wsV RX4 40 RX4 yX4_widthOf wsX4_widthOf) := goodIn_app (goodIn_of _ (by decide +kernel)) ggX4_firstGreatest_X4_widthOf
set_option maxRecDepth 20000 in
theorem ggX4_firstGreatest_X4_heightOf : GoodIn wsX4_firstGreatest wsX4_heightOf := goodIn_r _ [14, 15, 7, 8, 9, 4, 10, 21, 22, 23, 24, 25] (by decide +kernel) (by decide +kernel)
set_option maxRecDepth 20000 in
theorem gX4_firstGreatest_X4_heightOf : GoodIn wsX4_firstGreatest (wsV RX4 43 RX4 yX4_heightOf wsX4_heightOf) := goodIn_app (goodIn_of _ (by decide +kernel)) ggX4_firstGreatest_X4_heightOf
set_option maxRecDepth 20000 in
theorem ggX4_firstGreatest_X4_get : GoodIn wsX4_firstGreatest wsX4_get := goodIn_r _ [19, 20, 7, 8, 9, 4, 10, 21, 22, 23, 24, 25] (by decide +kernel) (by decide +kernel)
set_option maxRecDepth 20000 in
theorem gX4_firstGreatest_X4_get : GoodIn wsX4_firstGreatest (wsV RX4 46 RX4 yX4_get wsX4_get) := goodIn_app (goodIn_of _ (by decide +kernel)) ggX4_firstGreatest_X4_get
theorem dX4_firstGreatest_0 : decode cX4_firstGreatest 0 = .ok (.iconst 0, 1) := by decide +kernel
theorem dX4_firstGreatest_1 : decode cX4_firstGreatest 1 = .ok (.istore_n 2, 1) := by decide +kernel
theorem dX4_firstGreatest_2 : decode cX4_firstGreatest 2 = .ok (.iconst 1, 1) := by decide +kernel
theorem dX4_firstGreatest_3 : decode cX4_firstGreatest 3 = .ok (.istore_n 3, 1) := by decide +kernel
theorem dX4_firstGreatest_4 : decode cX4_firstGreatest 4 = .ok (.iload_n 3, 1) := by decide +kernel
theorem dX4_firstGreatest_5 : decode cX4_firstGreatest 5 = .ok (.aload_n 0, 1) := by decide +kernel
theorem dX4_firstGreatest_6 : decode cX4_firstGreatest 6 = .ok (.iload_n 1, 1) := by decide +kernel
theorem dX4_firstGreatest_7 : decode cX4_firstGreatest 7 = .ok (.invokevirtual 40, 3) := by decide +kernel
theorem dX4_firstGreatest_10 : decode cX4_firstGreatest 10 = .ok (.aload_n 0, 1) := by decide +kernel
theorem dX4_firstGreatest_11 : decode cX4_firstGreatest 11 = .ok (.iload_n 1, 1) := by decide +kernel
theorem dX4_firstGreatest_12 : decode cX4_firstGreatest 12 = .ok (.invokevirtual 43, 3) := by decide +kernel
theorem dX4_firstGreatest_15 : decode cX4_firstGreatest 15 = .ok (.imul, 1) := by decide +kernel
theorem dX4_firstGreatest_16 : decode cX4_firstGreatest 16 = .ok (.if_icmp .ge 26, 3) := by decide +kernel
theorem dX4_firstGreatest_19 : decode cX4_firstGreatest 19 = .ok (.aload_n 0, 1) := by decide +kernel
theorem dX4_firstGreatest_20 : decode cX4_firstGreatest 20 = .ok (.iload_n 1, 1) := by decide +kernel
theorem dX4_firstGreatest_21 : decode cX4_firstGreatest 21 = .ok (.iload_n 3, 1) := by decide +kernel
theorem dX4_firstGreatest_22 : decode cX4_firstGreatest 22 = .ok (.invokevirtual 46, 3) := by decide +kernel
theorem dX4_firstGreatest_25 : decode cX4_firstGreatest 25 = .ok (.aload_n 0, 1) := by decide +kernel
theorem dX4_firstGreatest_26 : decode cX4_firstGreatest 26 = .ok (.iload_n 1, 1) := by decide +kernel
theorem dX4_firstGreatest_27 : decode cX4_firstGreatest 27 = .ok (.iload_n 2, 1) := by decide +kernel
theorem dX4_firstGreatest_28 : decode cX4_firstGreatest 28 = .ok (.invokevirtual 46, 3) := by decide +kernel
theorem dX4_firstGreatest_31 : decode cX4_firstGreatest 31 = .ok (.if_icmp .le 5, 3) := by decide +kernel
theorem dX4_firstGreatest_34 : decode cX4_firstGreatest 34 = .ok (.iload_n 3, 1) := by decide +kernel
theorem dX4_firstGreatest_35 : decode cX4_firstGreatest 35 = .ok (.istore_n 2, 1) := by decide +kernel
theorem dX4_firstGreatest_36 : decode cX4_firstGreatest 36 = .ok (.iinc 3 1, 3) := by decide +kernel
theorem dX4_firstGreatest_39 : decode cX4_firstGreatest 39 = .ok (.goto (-35), 3) := by decide +kernel
theorem dX4_firstGreatest_42 : decode cX4_firstGreatest 42 = .ok (.iload_n 2, 1) := by decide +kernel
theorem dX4_firstGreatest_43 : decode cX4_firstGreatest 43 = .ok (.ireturn, 1) := by decide +kernel
set_option maxRecDepth 20000 in
theorem ggX4_digestOn_X4_slotOf : GoodIn wsX4_digestOn wsX4_slotOf := goodIn_r _ [7, 8, 9, 10, 11, 12, 32, 33, 34, 35, 36] (by decide +kernel) (by decide +kernel)
set_option maxRecDepth 20000 in
theorem gX4_digestOn_X4_slotOf : GoodIn wsX4_digestOn (wsV RX4 26 RX4 yX4_slotOf wsX4_slotOf) := goodIn_app (goodIn_of _ (by decide +kernel)) ggX4_digestOn_X4_slotOf
set_option maxRecDepth 20000 in
theorem ggX4_digestOn_X4_widthOf : GoodIn wsX4_digestOn wsX4_widthOf := goodIn_r _ [16, 17, 18, 19, 20, 6, 21, 32, 33, 34, 35, 36] (by decide +kernel) (by decide +kernel)
set_option maxRecDepth 20000 in
theorem gX4_digestOn_X4_widthOf : GoodIn wsX4_digestOn (wsV RX4 40 RX4 yX4_widthOf wsX4_widthOf) := goodIn_app (goodIn_of _ (by decide +kernel)) ggX4_digestOn_X4_widthOf
set_option maxRecDepth 20000 in
theorem ggX4_digestOn_X4_heightOf : GoodIn wsX4_digestOn wsX4_heightOf := goodIn_r _ [25, 26, 18, 19, 20, 6, 21, 32, 33, 34, 35, 36] (by decide +kernel) (by decide +kernel)
set_option maxRecDepth 20000 in
theorem gX4_digestOn_X4_heightOf : GoodIn wsX4_digestOn (wsV RX4 43 RX4 yX4_heightOf wsX4_heightOf) := goodIn_app (goodIn_of _ (by decide +kernel)) ggX4_digestOn_X4_heightOf
set_option maxRecDepth 20000 in
theorem ggX4_digestOn_X4_get : GoodIn wsX4_digestOn wsX4_get := goodIn_r _ [30, 31, 18, 19, 20, 6, 21, 32, 33, 34, 35, 36] (by decide +kernel) (by decide +kernel)
set_option maxRecDepth 20000 in
theorem gX4_digestOn_X4_get : GoodIn wsX4_digestOn (wsV RX4 46 RX4 yX4_get wsX4_get) := goodIn_app (goodIn_of _ (by decide +kernel)) ggX4_digestOn_X4_get
theorem dX4_digestOn_0 : decode cX4_digestOn 0 = .ok (.lload_n 1, 1) := by decide +kernel
theorem dX4_digestOn_1 : decode cX4_digestOn 1 = .ok (.lstore_n 3, 1) := by decide +kernel
theorem dX4_digestOn_2 : decode cX4_digestOn 2 = .ok (.iconst 0, 1) := by decide +kernel
theorem dX4_digestOn_3 : decode cX4_digestOn 3 = .ok (.istore 5, 2) := by decide +kernel
theorem dX4_digestOn_5 : decode cX4_digestOn 5 = .ok (.iload 5, 2) := by decide +kernel
theorem dX4_digestOn_7 : decode cX4_digestOn 7 = .ok (.aload_n 0, 1) := by decide +kernel
theorem dX4_digestOn_8 : decode cX4_digestOn 8 = .ok (.getfield 23, 3) := by decide +kernel
theorem dX4_digestOn_11 : decode cX4_digestOn 11 = .ok (.if_icmp .ge 60, 3) := by decide +kernel
theorem dX4_digestOn_14 : decode cX4_digestOn 14 = .ok (.aload_n 0, 1) := by decide +kernel
theorem dX4_digestOn_15 : decode cX4_digestOn 15 = .ok (.iload 5, 2) := by decide +kernel
theorem dX4_digestOn_17 : decode cX4_digestOn 17 = .ok (.invokevirtual 26, 3) := by decide +kernel
theorem dX4_digestOn_20 : decode cX4_digestOn 20 = .ok (.istore 6, 2) := by decide +kernel
theorem dX4_digestOn_22 : decode cX4_digestOn 22 = .ok (.iconst 0, 1) := by decide +kernel
theorem dX4_digestOn_23 : decode cX4_digestOn 23 = .ok (.istore 7, 2) := by decide +kernel
theorem dX4_digestOn_25 : decode cX4_digestOn 25 = .ok (.iload 7, 2) := by decide +kernel
theorem dX4_digestOn_27 : decode cX4_digestOn 27 = .ok (.aload_n 0, 1) := by decide +kernel
theorem dX4_digestOn_28 : decode cX4_digestOn 28 = .ok (.iload 6, 2) := by decide +kernel
theorem dX4_digestOn_30 : decode cX4_digestOn 30 = .ok (.invokevirtual 40, 3) := by decide +kernel
theorem dX4_digestOn_33 : decode cX4_digestOn 33 = .ok (.aload_n 0, 1) := by decide +kernel
theorem dX4_digestOn_34 : decode cX4_digestOn 34 = .ok (.iload 6, 2) := by decide +kernel
theorem dX4_digestOn_36 : decode cX4_digestOn 36 = .ok (.invokevirtual 43, 3) := by decide +kernel
theorem dX4_digestOn_39 : decode cX4_digestOn 39 = .ok (.imul, 1) := by decide +kernel
theorem dX4_digestOn_40 : decode cX4_digestOn 40 = .ok (.if_icmp .ge 25, 3) := by decide +kernel
theorem dX4_digestOn_43 : decode cX4_digestOn 43 = .ok (.ldc2_w 49, 3) := by decide +kernel
theorem dX4_digestOn_46 : decode cX4_digestOn 46 = .ok (.lload_n 3, 1) := by decide +kernel
theorem dX4_digestOn_47 : decode cX4_digestOn 47 = .ok (.lmul, 1) := by decide +kernel
theorem dX4_digestOn_48 : decode cX4_digestOn 48 = .ok (.aload_n 0, 1) := by decide +kernel
theorem dX4_digestOn_49 : decode cX4_digestOn 49 = .ok (.iload 6, 2) := by decide +kernel
theorem dX4_digestOn_51 : decode cX4_digestOn 51 = .ok (.iload 7, 2) := by decide +kernel
theorem dX4_digestOn_53 : decode cX4_digestOn 53 = .ok (.invokevirtual 46, 3) := by decide +kernel
theorem dX4_digestOn_56 : decode cX4_digestOn 56 = .ok (.i2l, 1) := by decide +kernel
theorem dX4_digestOn_57 : decode cX4_digestOn 57 = .ok (.ladd, 1) := by decide +kernel
theorem dX4_digestOn_58 : decode cX4_digestOn 58 = .ok (.lstore_n 3, 1) := by decide +kernel
theorem dX4_digestOn_59 : decode cX4_digestOn 59 = .ok (.iinc 7 1, 3) := by decide +kernel
theorem dX4_digestOn_62 : decode cX4_digestOn 62 = .ok (.goto (-37), 3) := by decide +kernel
theorem dX4_digestOn_65 : decode cX4_digestOn 65 = .ok (.iinc 5 1, 3) := by decide +kernel
theorem dX4_digestOn_68 : decode cX4_digestOn 68 = .ok (.goto (-63), 3) := by decide +kernel
theorem dX4_digestOn_71 : decode cX4_digestOn 71 = .ok (.lload_n 3, 1) := by decide +kernel
theorem dX4_digestOn_72 : decode cX4_digestOn 72 = .ok (.lreturn, 1) := by decide +kernel
theorem dX5_init_0 : decode cX5_init 0 = .ok (.aload_n 0, 1) := by decide +kernel
theorem dX5_init_1 : decode cX5_init 1 = .ok (.invokespecial 3, 3) := by decide +kernel
theorem dX5_init_4 : decode cX5_init 4 = .ok (.aload_n 0, 1) := by decide +kernel
theorem dX5_init_5 : decode cX5_init 5 = .ok (.bipush 8, 2) := by decide +kernel
theorem dX5_init_7 : decode cX5_init 7 = .ok (.newarray .int, 2) := by decide +kernel
theorem dX5_init_9 : decode cX5_init 9 = .ok (.putfield 11, 3) := by decide +kernel
theorem dX5_init_12 : decode cX5_init 12 = .ok (.aload_n 0, 1) := by decide +kernel
theorem dX5_init_13 : decode cX5_init 13 = .ok (.bipush 8, 2) := by decide +kernel
theorem dX5_init_15 : decode cX5_init 15 = .ok (.newarray .int, 2) := by decide +kernel
theorem dX5_init_17 : decode cX5_init 17 = .ok (.putfield 15, 3) := by decide +kernel
theorem dX5_init_20 : decode cX5_init 20 = .ok (.aload_n 0, 1) := by decide +kernel
theorem dX5_init_21 : decode cX5_init 21 = .ok (.bipush 8, 2) := by decide +kernel
theorem dX5_init_23 : decode cX5_init 23 = .ok (.newarray .int, 2) := by decide +kernel
theorem dX5_init_25 : decode cX5_init 25 = .ok (.putfield 18, 3) := by decide +kernel
theorem dX5_init_28 : decode cX5_init 28 = .ok (.aload_n 0, 1) := by decide +kernel
theorem dX5_init_29 : decode cX5_init 29 = .ok (.bipush 8, 2) := by decide +kernel
theorem dX5_init_31 : decode cX5_init 31 = .ok (.newarray .int, 2) := by decide +kernel
theorem dX5_init_33 : decode cX5_init 33 = .ok (.putfield 21, 3) := by decide +kernel
theorem dX5_init_36 : decode cX5_init 36 = .ok (.aload_n 0, 1) := by decide +kernel
theorem dX5_init_37 : decode cX5_init 37 = .ok (.bipush 8, 2) := by decide +kernel
theorem dX5_init_39 : decode cX5_init 39 = .ok (.newarray .int, 2) := by decide +kernel
theorem dX5_init_41 : decode cX5_init 41 = .ok (.putfield 24, 3) := by decide +kernel
theorem dX5_init_44 : decode cX5_init 44 = .ok (.return_, 1) := by decide +kernel
theorem dX5_has_0 : decode cX5_has 0 = .ok (.iload_n 1, 1) := by decide +kernel
theorem dX5_has_1 : decode cX5_has 1 = .ok (.ifCond .lt 21, 3) := by decide +kernel
theorem dX5_has_4 : decode cX5_has 4 = .ok (.iload_n 1, 1) := by decide +kernel
theorem dX5_has_5 : decode cX5_has 5 = .ok (.aload_n 0, 1) := by decide +kernel
theorem dX5_has_6 : decode cX5_has 6 = .ok (.getfield 27, 3) := by decide +kernel
theorem dX5_has_9 : decode cX5_has 9 = .ok (.if_icmp .ge 13, 3) := by decide +kernel
theorem dX5_has_12 : decode cX5_has 12 = .ok (.iload_n 1, 1) := by decide +kernel
theorem dX5_has_13 : decode cX5_has 13 = .ok (.bipush 8, 2) := by decide +kernel
theorem dX5_has_15 : decode cX5_has 15 = .ok (.if_icmp .ge 7, 3) := by decide +kernel
theorem dX5_has_18 : decode cX5_has 18 = .ok (.iconst 1, 1) := by decide +kernel
theorem dX5_has_19 : decode cX5_has 19 = .ok (.goto 4, 3) := by decide +kernel
theorem dX5_has_22 : decode cX5_has 22 = .ok (.iconst 0, 1) := by decide +kernel
theorem dX5_has_23 : decode cX5_has 23 = .ok (.ireturn, 1) := by decide +kernel
theorem dX5_put_0 : decode cX5_put 0 = .ok (.aload_n 0, 1) := by decide +kernel
theorem dX5_put_1 : decode cX5_put 1 = .ok (.getfield 27, 3) := by decide +kernel
theorem dX5_put_4 : decode cX5_put 4 = .ok (.ifCond .lt 12, 3) := by decide +kernel
theorem dX5_put_7 : decode cX5_put 7 = .ok (.aload_n 0, 1) := by decide +kernel
theorem dX5_put_8 : decode cX5_put 8 = .ok (.getfield 27, 3) := by decide +kernel
theorem dX5_put_11 : decode cX5_put 11 = .ok (.bipush 8, 2) := by decide +kernel
theorem dX5_put_13 : decode cX5_put 13 = .ok (.if_icmp .lt 6, 3) := by decide +kernel
theorem dX5_put_16 : decode cX5_put 16 = .ok (.bipush (-4), 2) := by decide +kernel
theorem dX5_put_18 : decode cX5_put 18 = .ok (.ireturn, 1) := by decide +kernel
theorem dX5_put_19 : decode cX5_put 19 = .ok (.aload_n 0, 1) := by decide +kernel
theorem dX5_put_20 : decode cX5_put 20 = .ok (.getfield 11, 3) := by decide +kernel
theorem dX5_put_23 : decode cX5_put 23 = .ok (.aload_n 0, 1) := by decide +kernel
theorem dX5_put_24 : decode cX5_put 24 = .ok (.getfield 27, 3) := by decide +kernel
theorem dX5_put_27 : decode cX5_put 27 = .ok (.iload_n 1, 1) := by decide +kernel
theorem dX5_put_28 : decode cX5_put 28 = .ok (.iastore, 1) := by decide +kernel
theorem dX5_put_29 : decode cX5_put 29 = .ok (.aload_n 0, 1) := by decide +kernel
theorem dX5_put_30 : decode cX5_put 30 = .ok (.getfield 15, 3) := by decide +kernel
theorem dX5_put_33 : decode cX5_put 33 = .ok (.aload_n 0, 1) := by decide +kernel
theorem dX5_put_34 : decode cX5_put 34 = .ok (.getfield 27, 3) := by decide +kernel
theorem dX5_put_37 : decode cX5_put 37 = .ok (.iload_n 2, 1) := by decide +kernel
theorem dX5_put_38 : decode cX5_put 38 = .ok (.iastore, 1) := by decide +kernel
theorem dX5_put_39 : decode cX5_put 39 = .ok (.aload_n 0, 1) := by decide +kernel
theorem dX5_put_40 : decode cX5_put 40 = .ok (.getfield 18, 3) := by decide +kernel
theorem dX5_put_43 : decode cX5_put 43 = .ok (.aload_n 0, 1) := by decide +kernel
theorem dX5_put_44 : decode cX5_put 44 = .ok (.getfield 27, 3) := by decide +kernel
theorem dX5_put_47 : decode cX5_put 47 = .ok (.iload_n 3, 1) := by decide +kernel
theorem dX5_put_48 : decode cX5_put 48 = .ok (.iastore, 1) := by decide +kernel
theorem dX5_put_49 : decode cX5_put 49 = .ok (.aload_n 0, 1) := by decide +kernel
theorem dX5_put_50 : decode cX5_put 50 = .ok (.getfield 21, 3) := by decide +kernel
theorem dX5_put_53 : decode cX5_put 53 = .ok (.aload_n 0, 1) := by decide +kernel
theorem dX5_put_54 : decode cX5_put 54 = .ok (.getfield 27, 3) := by decide +kernel
theorem dX5_put_57 : decode cX5_put 57 = .ok (.iload 4, 2) := by decide +kernel
theorem dX5_put_59 : decode cX5_put 59 = .ok (.iastore, 1) := by decide +kernel
theorem dX5_put_60 : decode cX5_put 60 = .ok (.aload_n 0, 1) := by decide +kernel
theorem dX5_put_61 : decode cX5_put 61 = .ok (.getfield 24, 3) := by decide +kernel
theorem dX5_put_64 : decode cX5_put 64 = .ok (.aload_n 0, 1) := by decide +kernel
theorem dX5_put_65 : decode cX5_put 65 = .ok (.getfield 27, 3) := by decide +kernel
theorem dX5_put_68 : decode cX5_put 68 = .ok (.iload 5, 2) := by decide +kernel
theorem dX5_put_70 : decode cX5_put 70 = .ok (.iastore, 1) := by decide +kernel
theorem dX5_put_71 : decode cX5_put 71 = .ok (.aload_n 0, 1) := by decide +kernel
theorem dX5_put_72 : decode cX5_put 72 = .ok (.dup, 1) := by decide +kernel
theorem dX5_put_73 : decode cX5_put 73 = .ok (.getfield 27, 3) := by decide +kernel
theorem dX5_put_76 : decode cX5_put 76 = .ok (.iconst 1, 1) := by decide +kernel
theorem dX5_put_77 : decode cX5_put 77 = .ok (.iadd, 1) := by decide +kernel
theorem dX5_put_78 : decode cX5_put 78 = .ok (.putfield 27, 3) := by decide +kernel
theorem dX5_put_81 : decode cX5_put 81 = .ok (.aload_n 0, 1) := by decide +kernel
theorem dX5_put_82 : decode cX5_put 82 = .ok (.getfield 27, 3) := by decide +kernel
theorem dX5_put_85 : decode cX5_put 85 = .ok (.iconst 1, 1) := by decide +kernel
theorem dX5_put_86 : decode cX5_put 86 = .ok (.isub, 1) := by decide +kernel
theorem dX5_put_87 : decode cX5_put 87 = .ok (.ireturn, 1) := by decide +kernel
theorem dX5_move_0 : decode cX5_move 0 = .ok (.iconst 0, 1) := by decide +kernel
theorem dX5_move_1 : decode cX5_move 1 = .ok (.istore_n 1, 1) := by decide +kernel
theorem dX5_move_2 : decode cX5_move 2 = .ok (.iload_n 1, 1) := by decide +kernel
theorem dX5_move_3 : decode cX5_move 3 = .ok (.aload_n 0, 1) := by decide +kernel
theorem dX5_move_4 : decode cX5_move 4 = .ok (.getfield 27, 3) := by decide +kernel
theorem dX5_move_7 : decode cX5_move 7 = .ok (.if_icmp .ge 75, 3) := by decide +kernel
theorem dX5_move_10 : decode cX5_move 10 = .ok (.iload_n 1, 1) := by decide +kernel
theorem dX5_move_11 : decode cX5_move 11 = .ok (.bipush 8, 2) := by decide +kernel
theorem dX5_move_13 : decode cX5_move 13 = .ok (.if_icmp .ge 69, 3) := by decide +kernel
theorem dX5_move_16 : decode cX5_move 16 = .ok (.aload_n 0, 1) := by decide +kernel
theorem dX5_move_17 : decode cX5_move 17 = .ok (.getfield 11, 3) := by decide +kernel
theorem dX5_move_20 : decode cX5_move 20 = .ok (.iload_n 1, 1) := by decide +kernel
theorem dX5_move_21 : decode cX5_move 21 = .ok (.sipush (-2000), 3) := by decide +kernel
theorem dX5_move_24 : decode cX5_move 24 = .ok (.aload_n 0, 1) := by decide +kernel
theorem dX5_move_25 : decode cX5_move 25 = .ok (.getfield 11, 3) := by decide +kernel
theorem dX5_move_28 : decode cX5_move 28 = .ok (.iload_n 1, 1) := by decide +kernel
theorem dX5_move_29 : decode cX5_move 29 = .ok (.iaload, 1) := by decide +kernel
theorem dX5_move_30 : decode cX5_move 30 = .ok (.aload_n 0, 1) := by decide +kernel
theorem dX5_move_31 : decode cX5_move 31 = .ok (.getfield 21, 3) := by decide +kernel
theorem dX5_move_34 : decode cX5_move 34 = .ok (.iload_n 1, 1) := by decide +kernel
theorem dX5_move_35 : decode cX5_move 35 = .ok (.iaload, 1) := by decide +kernel
theorem dX5_move_36 : decode cX5_move 36 = .ok (.iadd, 1) := by decide +kernel
theorem dX5_move_37 : decode cX5_move 37 = .ok (.sipush 2000, 3) := by decide +kernel
theorem dX5_move_40 : decode cX5_move 40 = .ok (.invokestatic 31, 3) := by decide +kernel
theorem dX5_move_43 : decode cX5_move 43 = .ok (.invokestatic 37, 3) := by decide +kernel
theorem dX5_move_46 : decode cX5_move 46 = .ok (.iastore, 1) := by decide +kernel
theorem dX5_move_47 : decode cX5_move 47 = .ok (.aload_n 0, 1) := by decide +kernel
theorem dX5_move_48 : decode cX5_move 48 = .ok (.getfield 15, 3) := by decide +kernel
theorem dX5_move_51 : decode cX5_move 51 = .ok (.iload_n 1, 1) := by decide +kernel
theorem dX5_move_52 : decode cX5_move 52 = .ok (.iconst 0, 1) := by decide +kernel
theorem dX5_move_53 : decode cX5_move 53 = .ok (.aload_n 0, 1) := by decide +kernel
theorem dX5_move_54 : decode cX5_move 54 = .ok (.getfield 15, 3) := by decide +kernel
theorem dX5_move_57 : decode cX5_move 57 = .ok (.iload_n 1, 1) := by decide +kernel
theorem dX5_move_58 : decode cX5_move 58 = .ok (.iaload, 1) := by decide +kernel
theorem dX5_move_59 : decode cX5_move 59 = .ok (.aload_n 0, 1) := by decide +kernel
theorem dX5_move_60 : decode cX5_move 60 = .ok (.getfield 24, 3) := by decide +kernel
theorem dX5_move_63 : decode cX5_move 63 = .ok (.iload_n 1, 1) := by decide +kernel
theorem dX5_move_64 : decode cX5_move 64 = .ok (.iaload, 1) := by decide +kernel
theorem dX5_move_65 : decode cX5_move 65 = .ok (.iadd, 1) := by decide +kernel
theorem dX5_move_66 : decode cX5_move 66 = .ok (.sipush 4000, 3) := by decide +kernel
theorem dX5_move_69 : decode cX5_move 69 = .ok (.invokestatic 31, 3) := by decide +kernel
theorem dX5_move_72 : decode cX5_move 72 = .ok (.invokestatic 37, 3) := by decide +kernel
theorem dX5_move_75 : decode cX5_move 75 = .ok (.iastore, 1) := by decide +kernel
theorem dX5_move_76 : decode cX5_move 76 = .ok (.iinc 1 1, 3) := by decide +kernel
theorem dX5_move_79 : decode cX5_move 79 = .ok (.goto (-77), 3) := by decide +kernel
theorem dX5_move_82 : decode cX5_move 82 = .ok (.return_, 1) := by decide +kernel
set_option maxRecDepth 20000 in
theorem ggX6_init_X3_init : GoodIn wsX6_init wsX3_init := goodIn_r _ [30, 31, 2, 3, 32, 33, 34, 35, 36, 37, 38, 39, 40, 41, 42, 43, 44, 6, 45, 46, 47, 48, 49, 50, 51, 52, 53, 54, 91, 92, 93, 94, 95, 96, 97, 98, 99, 100, 101] (by decide +kernel) (by decide +kernel)
set_option maxRecDepth 20000 in
theorem gX6_init_X3_init : GoodIn wsX6_init (wsX3_init) := ggX6_init_X3_init
set_option maxRecDepth 20000 in
theorem ggX6_init_X5_init : GoodIn wsX6_init wsX5_init := goodIn_r _ [57, 58, 2, 3, 32, 59, 60, 61, 62, 63, 108, 109, 110, 111, 112, 113] (by decide +kernel) (by decide +kernel)
set_option maxRecDepth 20000 in
theorem gX6_init_X5_init : GoodIn wsX6_init (wsX5_init) := ggX6_init_X5_init
set_option maxRecDepth 20000 in
theorem ggX6_init_X1_init : GoodIn wsX6_init wsX1_init := goodIn_r _ [66, 67, 2, 3, 68, 32, 69, 70, 114, 115, 116, 117, 118] (by decide +kernel) (by decide +kernel)
set_option maxRecDepth 20000 in
theorem gX6_init_X1_init : GoodIn wsX6_init (wsX1_init) := ggX6_init_X1_init
set_option maxRecDepth 20000 in
theorem ggX6_init_X4_init : GoodIn wsX6_init wsX4_init := goodIn_r _ [73, 74, 2, 3, 32, 75, 76, 77, 119, 120, 121, 122, 123] (by decide +kernel) (by decide +kernel)
set_option maxRecDepth 20000 in
theorem gX6_init_X4_init : GoodIn wsX6_init (wsX4_init) := ggX6_init_X4_init
set_option maxRecDepth 20000 in
theorem ggX6_init_X0_init : GoodIn wsX6_init wsX0_init := goodIn_r _ [80, 81, 2, 3, 32, 82, 83, 124, 125, 126, 127] (by decide +kernel) (by decide +kernel)
set_option maxRecDepth 20000 in
theorem gX6_init_X0_init : GoodIn wsX6_init (wsX0_init) := ggX6_init_X0_init
set_option maxRecDepth 20000 in
theorem ggX6_init_X2_init : GoodIn wsX6_init wsX2_init := goodIn_r _ [86, 87, 2, 3, 88, 89, 90, 128, 129] (by decide +kernel) (by decide +kernel)
set_option maxRecDepth 20000 in
theorem gX6_init_X2_init : GoodIn wsX6_init (wsX2_init) := ggX6_init_X2_init
