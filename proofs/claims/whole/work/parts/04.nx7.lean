theorem dX7_init_0 : decode cX7_init 0 = .ok (.aload_n 0, 1) := by decide +kernel
theorem dX7_init_1 : decode cX7_init 1 = .ok (.invokespecial 13, 3) := by decide +kernel
theorem dX7_init_4 : decode cX7_init 4 = .ok (.aload_n 0, 1) := by decide +kernel
theorem dX7_init_5 : decode cX7_init 5 = .ok (.iconst 2, 1) := by decide +kernel
theorem dX7_init_6 : decode cX7_init 6 = .ok (.putfield 19, 3) := by decide +kernel
theorem dX7_init_9 : decode cX7_init 9 = .ok (.aload_n 0, 1) := by decide +kernel
theorem dX7_init_10 : decode cX7_init 10 = .ok (.bipush 16, 2) := by decide +kernel
theorem dX7_init_12 : decode cX7_init 12 = .ok (.newarray .int, 2) := by decide +kernel
theorem dX7_init_14 : decode cX7_init 14 = .ok (.putfield 23, 3) := by decide +kernel
theorem dX7_init_17 : decode cX7_init 17 = .ok (.aload_n 0, 1) := by decide +kernel
theorem dX7_init_18 : decode cX7_init 18 = .ok (.bipush 16, 2) := by decide +kernel
theorem dX7_init_20 : decode cX7_init 20 = .ok (.newarray .boolean, 2) := by decide +kernel
theorem dX7_init_22 : decode cX7_init 22 = .ok (.putfield 27, 3) := by decide +kernel
theorem dX7_init_25 : decode cX7_init 25 = .ok (.aload_n 0, 1) := by decide +kernel
theorem dX7_init_26 : decode cX7_init 26 = .ok (.iconst 1, 1) := by decide +kernel
theorem dX7_init_27 : decode cX7_init 27 = .ok (.putfield 31, 3) := by decide +kernel
theorem dX7_init_30 : decode cX7_init 30 = .ok (.aload_n 0, 1) := by decide +kernel
theorem dX7_init_31 : decode cX7_init 31 = .ok (.iconst 1, 1) := by decide +kernel
theorem dX7_init_32 : decode cX7_init 32 = .ok (.putfield 34, 3) := by decide +kernel
theorem dX7_init_35 : decode cX7_init 35 = .ok (.aload_n 0, 1) := by decide +kernel
theorem dX7_init_36 : decode cX7_init 36 = .ok (.iconst 2, 1) := by decide +kernel
theorem dX7_init_37 : decode cX7_init 37 = .ok (.putfield 37, 3) := by decide +kernel
theorem dX7_init_40 : decode cX7_init 40 = .ok (.aload_n 0, 1) := by decide +kernel
theorem dX7_init_41 : decode cX7_init 41 = .ok (.ldc 40, 2) := by decide +kernel
theorem dX7_init_43 : decode cX7_init 43 = .ok (.putfield 41, 3) := by decide +kernel
theorem dX7_init_46 : decode cX7_init 46 = .ok (.aload_n 0, 1) := by decide +kernel
theorem dX7_init_47 : decode cX7_init 47 = .ok (.bipush 8, 2) := by decide +kernel
theorem dX7_init_49 : decode cX7_init 49 = .ok (.newarray .int, 2) := by decide +kernel
theorem dX7_init_51 : decode cX7_init 51 = .ok (.putfield 44, 3) := by decide +kernel
theorem dX7_init_54 : decode cX7_init 54 = .ok (.aload_n 0, 1) := by decide +kernel
theorem dX7_init_55 : decode cX7_init 55 = .ok (.bipush 8, 2) := by decide +kernel
theorem dX7_init_57 : decode cX7_init 57 = .ok (.newarray .int, 2) := by decide +kernel
theorem dX7_init_59 : decode cX7_init 59 = .ok (.putfield 47, 3) := by decide +kernel
theorem dX7_init_62 : decode cX7_init 62 = .ok (.aload_n 0, 1) := by decide +kernel
theorem dX7_init_63 : decode cX7_init 63 = .ok (.bipush 8, 2) := by decide +kernel
theorem dX7_init_65 : decode cX7_init 65 = .ok (.newarray .int, 2) := by decide +kernel
theorem dX7_init_67 : decode cX7_init 67 = .ok (.putfield 50, 3) := by decide +kernel
theorem dX7_init_70 : decode cX7_init 70 = .ok (.aload_n 0, 1) := by decide +kernel
theorem dX7_init_71 : decode cX7_init 71 = .ok (.bipush 8, 2) := by decide +kernel
theorem dX7_init_73 : decode cX7_init 73 = .ok (.newarray .int, 2) := by decide +kernel
theorem dX7_init_75 : decode cX7_init 75 = .ok (.putfield 53, 3) := by decide +kernel
theorem dX7_init_78 : decode cX7_init 78 = .ok (.aload_n 0, 1) := by decide +kernel
theorem dX7_init_79 : decode cX7_init 79 = .ok (.bipush 8, 2) := by decide +kernel
theorem dX7_init_81 : decode cX7_init 81 = .ok (.newarray .int, 2) := by decide +kernel
theorem dX7_init_83 : decode cX7_init 83 = .ok (.putfield 56, 3) := by decide +kernel
theorem dX7_init_86 : decode cX7_init 86 = .ok (.aload_n 0, 1) := by decide +kernel
theorem dX7_init_87 : decode cX7_init 87 = .ok (.bipush 6, 2) := by decide +kernel
theorem dX7_init_89 : decode cX7_init 89 = .ok (.newarray .int, 2) := by decide +kernel
theorem dX7_init_91 : decode cX7_init 91 = .ok (.putfield 59, 3) := by decide +kernel
theorem dX7_init_94 : decode cX7_init 94 = .ok (.aload_n 0, 1) := by decide +kernel
theorem dX7_init_95 : decode cX7_init 95 = .ok (.ldc 62, 2) := by decide +kernel
theorem dX7_init_97 : decode cX7_init 97 = .ok (.newarray .int, 2) := by decide +kernel
theorem dX7_init_99 : decode cX7_init 99 = .ok (.putfield 63, 3) := by decide +kernel
theorem dX7_init_102 : decode cX7_init 102 = .ok (.aload_n 0, 1) := by decide +kernel
theorem dX7_init_103 : decode cX7_init 103 = .ok (.iconst 4, 1) := by decide +kernel
theorem dX7_init_104 : decode cX7_init 104 = .ok (.newarray .int, 2) := by decide +kernel
theorem dX7_init_106 : decode cX7_init 106 = .ok (.putfield 66, 3) := by decide +kernel
theorem dX7_init_109 : decode cX7_init 109 = .ok (.aload_n 0, 1) := by decide +kernel
theorem dX7_init_110 : decode cX7_init 110 = .ok (.iconst 4, 1) := by decide +kernel
theorem dX7_init_111 : decode cX7_init 111 = .ok (.newarray .int, 2) := by decide +kernel
theorem dX7_init_113 : decode cX7_init 113 = .ok (.putfield 69, 3) := by decide +kernel
theorem dX7_init_116 : decode cX7_init 116 = .ok (.aload_n 0, 1) := by decide +kernel
theorem dX7_init_117 : decode cX7_init 117 = .ok (.sipush 1024, 3) := by decide +kernel
theorem dX7_init_120 : decode cX7_init 120 = .ok (.newarray .int, 2) := by decide +kernel
theorem dX7_init_122 : decode cX7_init 122 = .ok (.putfield 72, 3) := by decide +kernel
theorem dX7_init_125 : decode cX7_init 125 = .ok (.aload_n 0, 1) := by decide +kernel
theorem dX7_init_126 : decode cX7_init 126 = .ok (.sipush 256, 3) := by decide +kernel
theorem dX7_init_129 : decode cX7_init 129 = .ok (.newarray .int, 2) := by decide +kernel
theorem dX7_init_131 : decode cX7_init 131 = .ok (.putfield 75, 3) := by decide +kernel
theorem dX7_init_134 : decode cX7_init 134 = .ok (.aload_n 0, 1) := by decide +kernel
theorem dX7_init_135 : decode cX7_init 135 = .ok (.sipush 144, 3) := by decide +kernel
theorem dX7_init_138 : decode cX7_init 138 = .ok (.newarray .int, 2) := by decide +kernel
theorem dX7_init_140 : decode cX7_init 140 = .ok (.putfield 78, 3) := by decide +kernel
theorem dX7_init_143 : decode cX7_init 143 = .ok (.aload_n 0, 1) := by decide +kernel
theorem dX7_init_144 : decode cX7_init 144 = .ok (.getfield 23, 3) := by decide +kernel
theorem dX7_init_147 : decode cX7_init 147 = .ok (.iconst 0, 1) := by decide +kernel
theorem dX7_init_148 : decode cX7_init 148 = .ok (.bipush (-10), 2) := by decide +kernel
theorem dX7_init_150 : decode cX7_init 150 = .ok (.iastore, 1) := by decide +kernel
theorem dX7_init_151 : decode cX7_init 151 = .ok (.aload_n 0, 1) := by decide +kernel
theorem dX7_init_152 : decode cX7_init 152 = .ok (.getfield 23, 3) := by decide +kernel
theorem dX7_init_155 : decode cX7_init 155 = .ok (.iconst 1, 1) := by decide +kernel
theorem dX7_init_156 : decode cX7_init 156 = .ok (.bipush 10, 2) := by decide +kernel
theorem dX7_init_158 : decode cX7_init 158 = .ok (.iastore, 1) := by decide +kernel
theorem dX7_init_159 : decode cX7_init 159 = .ok (.return_, 1) := by decide +kernel
set_option maxRecDepth 20000 in
theorem ggX7_probe_X7_in : GoodIn wsX7_probe wsX7_in := goodIn_r _ [15] (by decide +kernel) (by decide +kernel)
set_option maxRecDepth 20000 in
theorem gX7_probe_X7_in : GoodIn wsX7_probe (va_wsS RX7 7 yX7_in wsX7_in) := goodIn_app (goodIn_of _ (by decide +kernel)) ggX7_probe_X7_in
theorem dX7_probe_0 : decode cX7_probe 0 = .ok (.iload_n 1, 1) := by decide +kernel
theorem dX7_probe_1 : decode cX7_probe 1 = .ok (.i2l, 1) := by decide +kernel
theorem dX7_probe_2 : decode cX7_probe 2 = .ok (.ldc2_w 81, 3) := by decide +kernel
theorem dX7_probe_5 : decode cX7_probe 5 = .ok (.ldc2_w 83, 3) := by decide +kernel
theorem dX7_probe_8 : decode cX7_probe 8 = .ok (.invokestatic 7, 3) := by decide +kernel
theorem dX7_probe_11 : decode cX7_probe 11 = .ok (.ifCond .eq 49, 3) := by decide +kernel
theorem dX7_probe_14 : decode cX7_probe 14 = .ok (.iload_n 3, 1) := by decide +kernel
theorem dX7_probe_15 : decode cX7_probe 15 = .ok (.i2l, 1) := by decide +kernel
theorem dX7_probe_16 : decode cX7_probe 16 = .ok (.lconst 1, 1) := by decide +kernel
theorem dX7_probe_17 : decode cX7_probe 17 = .ok (.ldc2_w 85, 3) := by decide +kernel
theorem dX7_probe_20 : decode cX7_probe 20 = .ok (.invokestatic 7, 3) := by decide +kernel
theorem dX7_probe_23 : decode cX7_probe 23 = .ok (.ifCond .eq 37, 3) := by decide +kernel
theorem dX7_probe_26 : decode cX7_probe 26 = .ok (.iload_n 2, 1) := by decide +kernel
theorem dX7_probe_27 : decode cX7_probe 27 = .ok (.i2l, 1) := by decide +kernel
theorem dX7_probe_28 : decode cX7_probe 28 = .ok (.ldc2_w 3, 3) := by decide +kernel
theorem dX7_probe_31 : decode cX7_probe 31 = .ok (.ldc2_w 5, 3) := by decide +kernel
theorem dX7_probe_34 : decode cX7_probe 34 = .ok (.invokestatic 7, 3) := by decide +kernel
theorem dX7_probe_37 : decode cX7_probe 37 = .ok (.ifCond .eq 23, 3) := by decide +kernel
theorem dX7_probe_40 : decode cX7_probe 40 = .ok (.iload_n 2, 1) := by decide +kernel
theorem dX7_probe_41 : decode cX7_probe 41 = .ok (.iload_n 1, 1) := by decide +kernel
theorem dX7_probe_42 : decode cX7_probe 42 = .ok (.iconst 1, 1) := by decide +kernel
theorem dX7_probe_43 : decode cX7_probe 43 = .ok (.isub, 1) := by decide +kernel
theorem dX7_probe_44 : decode cX7_probe 44 = .ok (.iload_n 3, 1) := by decide +kernel
theorem dX7_probe_45 : decode cX7_probe 45 = .ok (.imul, 1) := by decide +kernel
theorem dX7_probe_46 : decode cX7_probe 46 = .ok (.iadd, 1) := by decide +kernel
theorem dX7_probe_47 : decode cX7_probe 47 = .ok (.i2l, 1) := by decide +kernel
theorem dX7_probe_48 : decode cX7_probe 48 = .ok (.ldc2_w 3, 3) := by decide +kernel
theorem dX7_probe_51 : decode cX7_probe 51 = .ok (.ldc2_w 5, 3) := by decide +kernel
theorem dX7_probe_54 : decode cX7_probe 54 = .ok (.invokestatic 7, 3) := by decide +kernel
theorem dX7_probe_57 : decode cX7_probe 57 = .ok (.ifCond .ne 6, 3) := by decide +kernel
theorem dX7_probe_60 : decode cX7_probe 60 = .ok (.bipush (-2), 2) := by decide +kernel
theorem dX7_probe_62 : decode cX7_probe 62 = .ok (.ireturn, 1) := by decide +kernel
theorem dX7_probe_63 : decode cX7_probe 63 = .ok (.aload_n 0, 1) := by decide +kernel
theorem dX7_probe_64 : decode cX7_probe 64 = .ok (.iload_n 1, 1) := by decide +kernel
theorem dX7_probe_65 : decode cX7_probe 65 = .ok (.putfield 19, 3) := by decide +kernel
theorem dX7_probe_68 : decode cX7_probe 68 = .ok (.iconst 0, 1) := by decide +kernel
theorem dX7_probe_69 : decode cX7_probe 69 = .ok (.istore 4, 2) := by decide +kernel
theorem dX7_probe_71 : decode cX7_probe 71 = .ok (.iload 4, 2) := by decide +kernel
theorem dX7_probe_73 : decode cX7_probe 73 = .ok (.aload_n 0, 1) := by decide +kernel
theorem dX7_probe_74 : decode cX7_probe 74 = .ok (.getfield 19, 3) := by decide +kernel
theorem dX7_probe_77 : decode cX7_probe 77 = .ok (.if_icmp .ge 30, 3) := by decide +kernel
theorem dX7_probe_80 : decode cX7_probe 80 = .ok (.aload_n 0, 1) := by decide +kernel
theorem dX7_probe_81 : decode cX7_probe 81 = .ok (.getfield 23, 3) := by decide +kernel
theorem dX7_probe_84 : decode cX7_probe 84 = .ok (.iload 4, 2) := by decide +kernel
theorem dX7_probe_86 : decode cX7_probe 86 = .ok (.iload_n 2, 1) := by decide +kernel
theorem dX7_probe_87 : decode cX7_probe 87 = .ok (.iload 4, 2) := by decide +kernel
theorem dX7_probe_89 : decode cX7_probe 89 = .ok (.iload_n 3, 1) := by decide +kernel
theorem dX7_probe_90 : decode cX7_probe 90 = .ok (.imul, 1) := by decide +kernel
theorem dX7_probe_91 : decode cX7_probe 91 = .ok (.iadd, 1) := by decide +kernel
theorem dX7_probe_92 : decode cX7_probe 92 = .ok (.iastore, 1) := by decide +kernel
theorem dX7_probe_93 : decode cX7_probe 93 = .ok (.aload_n 0, 1) := by decide +kernel
theorem dX7_probe_94 : decode cX7_probe 94 = .ok (.getfield 27, 3) := by decide +kernel
theorem dX7_probe_97 : decode cX7_probe 97 = .ok (.iload 4, 2) := by decide +kernel
theorem dX7_probe_99 : decode cX7_probe 99 = .ok (.iconst 0, 1) := by decide +kernel
theorem dX7_probe_100 : decode cX7_probe 100 = .ok (.bastore, 1) := by decide +kernel
theorem dX7_probe_101 : decode cX7_probe 101 = .ok (.iinc 4 1, 3) := by decide +kernel
theorem dX7_probe_104 : decode cX7_probe 104 = .ok (.goto (-33), 3) := by decide +kernel
theorem dX7_probe_107 : decode cX7_probe 107 = .ok (.aload_n 0, 1) := by decide +kernel
theorem dX7_probe_108 : decode cX7_probe 108 = .ok (.iconst 0, 1) := by decide +kernel
theorem dX7_probe_109 : decode cX7_probe 109 = .ok (.putfield 87, 3) := by decide +kernel
theorem dX7_probe_112 : decode cX7_probe 112 = .ok (.aload_n 0, 1) := by decide +kernel
theorem dX7_probe_113 : decode cX7_probe 113 = .ok (.iconst 0, 1) := by decide +kernel
theorem dX7_probe_114 : decode cX7_probe 114 = .ok (.putfield 90, 3) := by decide +kernel
theorem dX7_probe_117 : decode cX7_probe 117 = .ok (.aload_n 0, 1) := by decide +kernel
theorem dX7_probe_118 : decode cX7_probe 118 = .ok (.iconst 0, 1) := by decide +kernel
theorem dX7_probe_119 : decode cX7_probe 119 = .ok (.putfield 93, 3) := by decide +kernel
theorem dX7_probe_122 : decode cX7_probe 122 = .ok (.iconst 1, 1) := by decide +kernel
theorem dX7_probe_123 : decode cX7_probe 123 = .ok (.ireturn, 1) := by decide +kernel
set_option maxRecDepth 20000 in
theorem ggX7_pace_X7_in : GoodIn wsX7_pace wsX7_in := goodIn_r _ [8] (by decide +kernel) (by decide +kernel)
set_option maxRecDepth 20000 in
theorem gX7_pace_X7_in : GoodIn wsX7_pace (va_wsS RX7 7 yX7_in wsX7_in) := goodIn_app (goodIn_of _ (by decide +kernel)) ggX7_pace_X7_in
theorem dX7_pace_0 : decode cX7_pace 0 = .ok (.iload_n 1, 1) := by decide +kernel
theorem dX7_pace_1 : decode cX7_pace 1 = .ok (.i2l, 1) := by decide +kernel
theorem dX7_pace_2 : decode cX7_pace 2 = .ok (.lconst 1, 1) := by decide +kernel
theorem dX7_pace_3 : decode cX7_pace 3 = .ok (.ldc2_w 96, 3) := by decide +kernel
theorem dX7_pace_6 : decode cX7_pace 6 = .ok (.invokestatic 7, 3) := by decide +kernel
theorem dX7_pace_9 : decode cX7_pace 9 = .ok (.ifCond .eq 15, 3) := by decide +kernel
theorem dX7_pace_12 : decode cX7_pace 12 = .ok (.iload_n 2, 1) := by decide +kernel
theorem dX7_pace_13 : decode cX7_pace 13 = .ok (.i2l, 1) := by decide +kernel
theorem dX7_pace_14 : decode cX7_pace 14 = .ok (.lconst 1, 1) := by decide +kernel
theorem dX7_pace_15 : decode cX7_pace 15 = .ok (.ldc2_w 96, 3) := by decide +kernel
theorem dX7_pace_18 : decode cX7_pace 18 = .ok (.invokestatic 7, 3) := by decide +kernel
theorem dX7_pace_21 : decode cX7_pace 21 = .ok (.ifCond .ne 6, 3) := by decide +kernel
theorem dX7_pace_24 : decode cX7_pace 24 = .ok (.bipush (-2), 2) := by decide +kernel
theorem dX7_pace_26 : decode cX7_pace 26 = .ok (.ireturn, 1) := by decide +kernel
theorem dX7_pace_27 : decode cX7_pace 27 = .ok (.aload_n 0, 1) := by decide +kernel
theorem dX7_pace_28 : decode cX7_pace 28 = .ok (.getfield 87, 3) := by decide +kernel
theorem dX7_pace_31 : decode cX7_pace 31 = .ok (.ifCond .le 6, 3) := by decide +kernel
theorem dX7_pace_34 : decode cX7_pace 34 = .ok (.bipush (-3), 2) := by decide +kernel
theorem dX7_pace_36 : decode cX7_pace 36 = .ok (.ireturn, 1) := by decide +kernel
theorem dX7_pace_37 : decode cX7_pace 37 = .ok (.aload_n 0, 1) := by decide +kernel
theorem dX7_pace_38 : decode cX7_pace 38 = .ok (.iload_n 1, 1) := by decide +kernel
theorem dX7_pace_39 : decode cX7_pace 39 = .ok (.putfield 31, 3) := by decide +kernel
theorem dX7_pace_42 : decode cX7_pace 42 = .ok (.aload_n 0, 1) := by decide +kernel
theorem dX7_pace_43 : decode cX7_pace 43 = .ok (.iload_n 2, 1) := by decide +kernel
theorem dX7_pace_44 : decode cX7_pace 44 = .ok (.putfield 34, 3) := by decide +kernel
theorem dX7_pace_47 : decode cX7_pace 47 = .ok (.iconst 1, 1) := by decide +kernel
theorem dX7_pace_48 : decode cX7_pace 48 = .ok (.ireturn, 1) := by decide +kernel
theorem dX7_alive_0 : decode cX7_alive 0 = .ok (.iconst 0, 1) := by decide +kernel
theorem dX7_alive_1 : decode cX7_alive 1 = .ok (.istore_n 1, 1) := by decide +kernel
theorem dX7_alive_2 : decode cX7_alive 2 = .ok (.iconst 0, 1) := by decide +kernel
theorem dX7_alive_3 : decode cX7_alive 3 = .ok (.istore_n 2, 1) := by decide +kernel
theorem dX7_alive_4 : decode cX7_alive 4 = .ok (.iload_n 2, 1) := by decide +kernel
theorem dX7_alive_5 : decode cX7_alive 5 = .ok (.aload_n 0, 1) := by decide +kernel
theorem dX7_alive_6 : decode cX7_alive 6 = .ok (.getfield 19, 3) := by decide +kernel
theorem dX7_alive_9 : decode cX7_alive 9 = .ok (.if_icmp .ge 26, 3) := by decide +kernel
theorem dX7_alive_12 : decode cX7_alive 12 = .ok (.iload_n 1, 1) := by decide +kernel
theorem dX7_alive_13 : decode cX7_alive 13 = .ok (.aload_n 0, 1) := by decide +kernel
theorem dX7_alive_14 : decode cX7_alive 14 = .ok (.getfield 27, 3) := by decide +kernel
theorem dX7_alive_17 : decode cX7_alive 17 = .ok (.iload_n 2, 1) := by decide +kernel
theorem dX7_alive_18 : decode cX7_alive 18 = .ok (.baload, 1) := by decide +kernel
theorem dX7_alive_19 : decode cX7_alive 19 = .ok (.ifCond .eq 7, 3) := by decide +kernel
theorem dX7_alive_22 : decode cX7_alive 22 = .ok (.iconst 0, 1) := by decide +kernel
theorem dX7_alive_23 : decode cX7_alive 23 = .ok (.goto 4, 3) := by decide +kernel
theorem dX7_alive_26 : decode cX7_alive 26 = .ok (.iconst 1, 1) := by decide +kernel
theorem dX7_alive_27 : decode cX7_alive 27 = .ok (.iadd, 1) := by decide +kernel
theorem dX7_alive_28 : decode cX7_alive 28 = .ok (.istore_n 1, 1) := by decide +kernel
theorem dX7_alive_29 : decode cX7_alive 29 = .ok (.iinc 2 1, 3) := by decide +kernel
theorem dX7_alive_32 : decode cX7_alive 32 = .ok (.goto (-28), 3) := by decide +kernel
theorem dX7_alive_35 : decode cX7_alive 35 = .ok (.iload_n 1, 1) := by decide +kernel
theorem dX7_alive_36 : decode cX7_alive 36 = .ok (.ireturn, 1) := by decide +kernel
set_option maxRecDepth 20000 in
theorem ggX7_dead_X7_in : GoodIn wsX7_dead wsX7_in := goodIn_r _ [6] (by decide +kernel) (by decide +kernel)
set_option maxRecDepth 20000 in
theorem gX7_dead_X7_in : GoodIn wsX7_dead (va_wsS RX7 7 yX7_in wsX7_in) := goodIn_app (goodIn_of _ (by decide +kernel)) ggX7_dead_X7_in
set_option maxRecDepth 20000 in
theorem ggX7_dead_X7_alive : GoodIn wsX7_dead wsX7_alive := goodIn_r _ [10, 1, 2, 11, 12, 13, 14, 15, 16, 17, 18, 19, 20, 21, 22, 23, 24, 25, 26, 27, 28, 29, 30, 31, 32, 33, 34, 35, 36, 37, 38] (by decide +kernel) (by decide +kernel)
set_option maxRecDepth 20000 in
theorem gX7_dead_X7_alive : GoodIn wsX7_dead (wsV RX7 98 RX7 yX7_alive wsX7_alive) := goodIn_app (goodIn_of _ (by decide +kernel)) ggX7_dead_X7_alive
theorem dX7_dead_0 : decode cX7_dead 0 = .ok (.iload_n 1, 1) := by decide +kernel
theorem dX7_dead_1 : decode cX7_dead 1 = .ok (.i2l, 1) := by decide +kernel
theorem dX7_dead_2 : decode cX7_dead 2 = .ok (.lconst 0, 1) := by decide +kernel
theorem dX7_dead_3 : decode cX7_dead 3 = .ok (.aload_n 0, 1) := by decide +kernel
theorem dX7_dead_4 : decode cX7_dead 4 = .ok (.getfield 19, 3) := by decide +kernel
theorem dX7_dead_7 : decode cX7_dead 7 = .ok (.iconst 1, 1) := by decide +kernel
theorem dX7_dead_8 : decode cX7_dead 8 = .ok (.isub, 1) := by decide +kernel
theorem dX7_dead_9 : decode cX7_dead 9 = .ok (.i2l, 1) := by decide +kernel
theorem dX7_dead_10 : decode cX7_dead 10 = .ok (.invokestatic 7, 3) := by decide +kernel
theorem dX7_dead_13 : decode cX7_dead 13 = .ok (.ifCond .ne 6, 3) := by decide +kernel
theorem dX7_dead_16 : decode cX7_dead 16 = .ok (.bipush (-2), 2) := by decide +kernel
theorem dX7_dead_18 : decode cX7_dead 18 = .ok (.ireturn, 1) := by decide +kernel
theorem dX7_dead_19 : decode cX7_dead 19 = .ok (.aload_n 0, 1) := by decide +kernel
theorem dX7_dead_20 : decode cX7_dead 20 = .ok (.getfield 27, 3) := by decide +kernel
theorem dX7_dead_23 : decode cX7_dead 23 = .ok (.iload_n 1, 1) := by decide +kernel
theorem dX7_dead_24 : decode cX7_dead 24 = .ok (.baload, 1) := by decide +kernel
theorem dX7_dead_25 : decode cX7_dead 25 = .ok (.iload_n 2, 1) := by decide +kernel
theorem dX7_dead_26 : decode cX7_dead 26 = .ok (.if_icmp .eq 15, 3) := by decide +kernel
theorem dX7_dead_29 : decode cX7_dead 29 = .ok (.iload_n 2, 1) := by decide +kernel
theorem dX7_dead_30 : decode cX7_dead 30 = .ok (.ifCond .eq 14, 3) := by decide +kernel
theorem dX7_dead_33 : decode cX7_dead 33 = .ok (.aload_n 0, 1) := by decide +kernel
theorem dX7_dead_34 : decode cX7_dead 34 = .ok (.invokevirtual 98, 3) := by decide +kernel
theorem dX7_dead_37 : decode cX7_dead 37 = .ok (.iconst 1, 1) := by decide +kernel
theorem dX7_dead_38 : decode cX7_dead 38 = .ok (.if_icmp .ne 6, 3) := by decide +kernel
theorem dX7_dead_41 : decode cX7_dead 41 = .ok (.bipush (-3), 2) := by decide +kernel
theorem dX7_dead_43 : decode cX7_dead 43 = .ok (.ireturn, 1) := by decide +kernel
theorem dX7_dead_44 : decode cX7_dead 44 = .ok (.aload_n 0, 1) := by decide +kernel
theorem dX7_dead_45 : decode cX7_dead 45 = .ok (.getfield 27, 3) := by decide +kernel
theorem dX7_dead_48 : decode cX7_dead 48 = .ok (.iload_n 1, 1) := by decide +kernel
theorem dX7_dead_49 : decode cX7_dead 49 = .ok (.iload_n 2, 1) := by decide +kernel
theorem dX7_dead_50 : decode cX7_dead 50 = .ok (.bastore, 1) := by decide +kernel
theorem dX7_dead_51 : decode cX7_dead 51 = .ok (.iconst 1, 1) := by decide +kernel
theorem dX7_dead_52 : decode cX7_dead 52 = .ok (.ireturn, 1) := by decide +kernel
theorem dX7_rootOf_0 : decode cX7_rootOf 0 = .ok (.lconst 0, 1) := by decide +kernel
theorem dX7_rootOf_1 : decode cX7_rootOf 1 = .ok (.lstore_n 2, 1) := by decide +kernel
theorem dX7_rootOf_2 : decode cX7_rootOf 2 = .ok (.ldc2_w 102, 3) := by decide +kernel
theorem dX7_rootOf_5 : decode cX7_rootOf 5 = .ok (.lstore 4, 2) := by decide +kernel
theorem dX7_rootOf_7 : decode cX7_rootOf 7 = .ok (.lload 4, 2) := by decide +kernel
theorem dX7_rootOf_9 : decode cX7_rootOf 9 = .ok (.lconst 0, 1) := by decide +kernel
theorem dX7_rootOf_10 : decode cX7_rootOf 10 = .ok (.lcmp, 1) := by decide +kernel
theorem dX7_rootOf_11 : decode cX7_rootOf 11 = .ok (.ifCond .le 33, 3) := by decide +kernel
theorem dX7_rootOf_14 : decode cX7_rootOf 14 = .ok (.lload_n 2, 1) := by decide +kernel
theorem dX7_rootOf_15 : decode cX7_rootOf 15 = .ok (.lload 4, 2) := by decide +kernel
theorem dX7_rootOf_17 : decode cX7_rootOf 17 = .ok (.ladd, 1) := by decide +kernel
theorem dX7_rootOf_18 : decode cX7_rootOf 18 = .ok (.lload_n 2, 1) := by decide +kernel
theorem dX7_rootOf_19 : decode cX7_rootOf 19 = .ok (.lload 4, 2) := by decide +kernel
theorem dX7_rootOf_21 : decode cX7_rootOf 21 = .ok (.ladd, 1) := by decide +kernel
theorem dX7_rootOf_22 : decode cX7_rootOf 22 = .ok (.lmul, 1) := by decide +kernel
theorem dX7_rootOf_23 : decode cX7_rootOf 23 = .ok (.lload_n 0, 1) := by decide +kernel
theorem dX7_rootOf_24 : decode cX7_rootOf 24 = .ok (.lcmp, 1) := by decide +kernel
theorem dX7_rootOf_25 : decode cX7_rootOf 25 = .ok (.ifCond .gt 8, 3) := by decide +kernel
theorem dX7_rootOf_28 : decode cX7_rootOf 28 = .ok (.lload_n 2, 1) := by decide +kernel
theorem dX7_rootOf_29 : decode cX7_rootOf 29 = .ok (.lload 4, 2) := by decide +kernel
theorem dX7_rootOf_31 : decode cX7_rootOf 31 = .ok (.ladd, 1) := by decide +kernel
theorem dX7_rootOf_32 : decode cX7_rootOf 32 = .ok (.lstore_n 2, 1) := by decide +kernel
theorem dX7_rootOf_33 : decode cX7_rootOf 33 = .ok (.lload 4, 2) := by decide +kernel
theorem dX7_rootOf_35 : decode cX7_rootOf 35 = .ok (.ldc2_w 81, 3) := by decide +kernel
theorem dX7_rootOf_38 : decode cX7_rootOf 38 = .ok (.ldiv, 1) := by decide +kernel
theorem dX7_rootOf_39 : decode cX7_rootOf 39 = .ok (.lstore 4, 2) := by decide +kernel
theorem dX7_rootOf_41 : decode cX7_rootOf 41 = .ok (.goto (-34), 3) := by decide +kernel
theorem dX7_rootOf_44 : decode cX7_rootOf 44 = .ok (.lload_n 2, 1) := by decide +kernel
theorem dX7_rootOf_45 : decode cX7_rootOf 45 = .ok (.lreturn, 1) := by decide +kernel
set_option maxRecDepth 20000 in
theorem ggX7_delayOf_X7_rootOf : GoodIn wsX7_delayOf wsX7_rootOf := goodIn_r _ [9, 10, 5] (by decide +kernel) (by decide +kernel)
set_option maxRecDepth 20000 in
theorem gX7_delayOf_X7_rootOf : GoodIn wsX7_delayOf (va_wsS RX7 106 yX7_rootOf wsX7_rootOf) := goodIn_app (goodIn_of _ (by decide +kernel)) ggX7_delayOf_X7_rootOf
theorem dX7_delayOf_0 : decode cX7_delayOf 0 = .ok (.iload_n 2, 1) := by decide +kernel
theorem dX7_delayOf_1 : decode cX7_delayOf 1 = .ok (.aload_n 0, 1) := by decide +kernel
theorem dX7_delayOf_2 : decode cX7_delayOf 2 = .ok (.getfield 23, 3) := by decide +kernel
theorem dX7_delayOf_5 : decode cX7_delayOf 5 = .ok (.iload_n 1, 1) := by decide +kernel
theorem dX7_delayOf_6 : decode cX7_delayOf 6 = .ok (.iaload, 1) := by decide +kernel
theorem dX7_delayOf_7 : decode cX7_delayOf 7 = .ok (.isub, 1) := by decide +kernel
theorem dX7_delayOf_8 : decode cX7_delayOf 8 = .ok (.i2l, 1) := by decide +kernel
theorem dX7_delayOf_9 : decode cX7_delayOf 9 = .ok (.lstore 4, 2) := by decide +kernel
theorem dX7_delayOf_11 : decode cX7_delayOf 11 = .ok (.lload 4, 2) := by decide +kernel
theorem dX7_delayOf_13 : decode cX7_delayOf 13 = .ok (.lload 4, 2) := by decide +kernel
theorem dX7_delayOf_15 : decode cX7_delayOf 15 = .ok (.lmul, 1) := by decide +kernel
theorem dX7_delayOf_16 : decode cX7_delayOf 16 = .ok (.iload_n 3, 1) := by decide +kernel
theorem dX7_delayOf_17 : decode cX7_delayOf 17 = .ok (.i2l, 1) := by decide +kernel
theorem dX7_delayOf_18 : decode cX7_delayOf 18 = .ok (.iload_n 3, 1) := by decide +kernel
theorem dX7_delayOf_19 : decode cX7_delayOf 19 = .ok (.i2l, 1) := by decide +kernel
theorem dX7_delayOf_20 : decode cX7_delayOf 20 = .ok (.lmul, 1) := by decide +kernel
theorem dX7_delayOf_21 : decode cX7_delayOf 21 = .ok (.ladd, 1) := by decide +kernel
theorem dX7_delayOf_22 : decode cX7_delayOf 22 = .ok (.lstore 6, 2) := by decide +kernel
theorem dX7_delayOf_24 : decode cX7_delayOf 24 = .ok (.ldc2_w 104, 3) := by decide +kernel
theorem dX7_delayOf_27 : decode cX7_delayOf 27 = .ok (.aload_n 0, 1) := by decide +kernel
theorem dX7_delayOf_28 : decode cX7_delayOf 28 = .ok (.getfield 34, 3) := by decide +kernel
theorem dX7_delayOf_31 : decode cX7_delayOf 31 = .ok (.i2l, 1) := by decide +kernel
theorem dX7_delayOf_32 : decode cX7_delayOf 32 = .ok (.lmul, 1) := by decide +kernel
theorem dX7_delayOf_33 : decode cX7_delayOf 33 = .ok (.aload_n 0, 1) := by decide +kernel
theorem dX7_delayOf_34 : decode cX7_delayOf 34 = .ok (.getfield 34, 3) := by decide +kernel
theorem dX7_delayOf_37 : decode cX7_delayOf 37 = .ok (.i2l, 1) := by decide +kernel
theorem dX7_delayOf_38 : decode cX7_delayOf 38 = .ok (.lmul, 1) := by decide +kernel
theorem dX7_delayOf_39 : decode cX7_delayOf 39 = .ok (.lload 6, 2) := by decide +kernel
theorem dX7_delayOf_41 : decode cX7_delayOf 41 = .ok (.lmul, 1) := by decide +kernel
theorem dX7_delayOf_42 : decode cX7_delayOf 42 = .ok (.invokestatic 106, 3) := by decide +kernel
theorem dX7_delayOf_45 : decode cX7_delayOf 45 = .ok (.lstore 8, 2) := by decide +kernel
theorem dX7_delayOf_47 : decode cX7_delayOf 47 = .ok (.lload 8, 2) := by decide +kernel
theorem dX7_delayOf_49 : decode cX7_delayOf 49 = .ok (.aload_n 0, 1) := by decide +kernel
theorem dX7_delayOf_50 : decode cX7_delayOf 50 = .ok (.getfield 31, 3) := by decide +kernel
theorem dX7_delayOf_53 : decode cX7_delayOf 53 = .ok (.i2l, 1) := by decide +kernel
theorem dX7_delayOf_54 : decode cX7_delayOf 54 = .ok (.ldiv, 1) := by decide +kernel
theorem dX7_delayOf_55 : decode cX7_delayOf 55 = .ok (.lconst 1, 1) := by decide +kernel
theorem dX7_delayOf_56 : decode cX7_delayOf 56 = .ok (.ladd, 1) := by decide +kernel
theorem dX7_delayOf_57 : decode cX7_delayOf 57 = .ok (.ldc2_w 81, 3) := by decide +kernel
theorem dX7_delayOf_60 : decode cX7_delayOf 60 = .ok (.ldiv, 1) := by decide +kernel
theorem dX7_delayOf_61 : decode cX7_delayOf 61 = .ok (.l2i, 1) := by decide +kernel
theorem dX7_delayOf_62 : decode cX7_delayOf 62 = .ok (.ireturn, 1) := by decide +kernel
set_option maxRecDepth 20000 in
theorem ggX7_delay_X7_in : GoodIn wsX7_delay wsX7_in := goodIn_r _ [5] (by decide +kernel) (by decide +kernel)
set_option maxRecDepth 20000 in
theorem gX7_delay_X7_in : GoodIn wsX7_delay (va_wsS RX7 7 yX7_in wsX7_in) := goodIn_app (goodIn_of _ (by decide +kernel)) ggX7_delay_X7_in
set_option maxRecDepth 20000 in
theorem ggX7_delay_X7_isPlace : GoodIn wsX7_delay wsX7_isPlace := goodIn_r _ [8, 9, 10, 11, 2, 3, 4, 5] (by decide +kernel) (by decide +kernel)
set_option maxRecDepth 20000 in
theorem gX7_delay_X7_isPlace : GoodIn wsX7_delay (va_wsS RX7 110 yX7_isPlace wsX7_isPlace) := goodIn_app (goodIn_of _ (by decide +kernel)) ggX7_delay_X7_isPlace
set_option maxRecDepth 20000 in
theorem ggX7_delay_X7_delayOf : GoodIn wsX7_delay wsX7_delayOf := goodIn_r _ [15, 16, 17, 18, 19, 20, 21, 22, 4, 23, 24, 25, 26, 27, 28, 29, 30, 31, 32, 33, 34, 35, 36, 37, 38, 39, 40, 41, 42, 43, 44, 45, 46, 47, 48, 49, 50, 51, 52] (by decide +kernel) (by decide +kernel)
set_option maxRecDepth 20000 in
theorem gX7_delay_X7_delayOf : GoodIn wsX7_delay (wsV RX7 114 RX7 yX7_delayOf wsX7_delayOf) := goodIn_app (goodIn_of _ (by decide +kernel)) ggX7_delay_X7_delayOf
theorem dX7_delay_0 : decode cX7_delay 0 = .ok (.iload_n 1, 1) := by decide +kernel
theorem dX7_delay_1 : decode cX7_delay 1 = .ok (.i2l, 1) := by decide +kernel
theorem dX7_delay_2 : decode cX7_delay 2 = .ok (.lconst 0, 1) := by decide +kernel
theorem dX7_delay_3 : decode cX7_delay 3 = .ok (.aload_n 0, 1) := by decide +kernel
theorem dX7_delay_4 : decode cX7_delay 4 = .ok (.getfield 19, 3) := by decide +kernel
theorem dX7_delay_7 : decode cX7_delay 7 = .ok (.iconst 1, 1) := by decide +kernel
theorem dX7_delay_8 : decode cX7_delay 8 = .ok (.isub, 1) := by decide +kernel
theorem dX7_delay_9 : decode cX7_delay 9 = .ok (.i2l, 1) := by decide +kernel
theorem dX7_delay_10 : decode cX7_delay 10 = .ok (.invokestatic 7, 3) := by decide +kernel
theorem dX7_delay_13 : decode cX7_delay 13 = .ok (.ifCond .eq 21, 3) := by decide +kernel
theorem dX7_delay_16 : decode cX7_delay 16 = .ok (.iload_n 2, 1) := by decide +kernel
theorem dX7_delay_17 : decode cX7_delay 17 = .ok (.iload_n 3, 1) := by decide +kernel
theorem dX7_delay_18 : decode cX7_delay 18 = .ok (.invokestatic 110, 3) := by decide +kernel
theorem dX7_delay_21 : decode cX7_delay 21 = .ok (.ifCond .eq 13, 3) := by decide +kernel
theorem dX7_delay_24 : decode cX7_delay 24 = .ok (.aload_n 0, 1) := by decide +kernel
theorem dX7_delay_25 : decode cX7_delay 25 = .ok (.iload_n 1, 1) := by decide +kernel
theorem dX7_delay_26 : decode cX7_delay 26 = .ok (.iload_n 2, 1) := by decide +kernel
theorem dX7_delay_27 : decode cX7_delay 27 = .ok (.iload_n 3, 1) := by decide +kernel
theorem dX7_delay_28 : decode cX7_delay 28 = .ok (.invokevirtual 114, 3) := by decide +kernel
theorem dX7_delay_31 : decode cX7_delay 31 = .ok (.goto 5, 3) := by decide +kernel
theorem dX7_delay_34 : decode cX7_delay 34 = .ok (.bipush (-2), 2) := by decide +kernel
theorem dX7_delay_36 : decode cX7_delay 36 = .ok (.ireturn, 1) := by decide +kernel
set_option maxRecDepth 20000 in
theorem ggX7_point_X7_isPlace : GoodIn wsX7_point wsX7_isPlace := goodIn_r _ [14, 15, 16, 17, 18, 19, 13, 20] (by decide +kernel) (by decide +kernel)
set_option maxRecDepth 20000 in
theorem gX7_point_X7_isPlace : GoodIn wsX7_point (va_wsS RX7 110 yX7_isPlace wsX7_isPlace) := goodIn_app (goodIn_of _ (by decide +kernel)) ggX7_point_X7_isPlace
set_option maxRecDepth 20000 in
theorem ggX7_point_X7_in : GoodIn wsX7_point wsX7_in := goodIn_r _ [20] (by decide +kernel) (by decide +kernel)
set_option maxRecDepth 20000 in
theorem gX7_point_X7_in : GoodIn wsX7_point (va_wsS RX7 7 yX7_in wsX7_in) := goodIn_app (goodIn_of _ (by decide +kernel)) ggX7_point_X7_in
theorem dX7_point_0 : decode cX7_point 0 = .ok (.iload_n 1, 1) := by decide +kernel
theorem dX7_point_1 : decode cX7_point 1 = .ok (.iload_n 2, 1) := by decide +kernel
theorem dX7_point_2 : decode cX7_point 2 = .ok (.invokestatic 110, 3) := by decide +kernel
theorem dX7_point_5 : decode cX7_point 5 = .ok (.ifCond .eq 47, 3) := by decide +kernel
theorem dX7_point_8 : decode cX7_point 8 = .ok (.iload_n 3, 1) := by decide +kernel
theorem dX7_point_9 : decode cX7_point 9 = .ok (.i2l, 1) := by decide +kernel
theorem dX7_point_10 : decode cX7_point 10 = .ok (.ldc2_w 118, 3) := by decide +kernel
theorem dX7_point_13 : decode cX7_point 13 = .ok (.ldc2_w 120, 3) := by decide +kernel
theorem dX7_point_16 : decode cX7_point 16 = .ok (.invokestatic 7, 3) := by decide +kernel
theorem dX7_point_19 : decode cX7_point 19 = .ok (.ifCond .eq 33, 3) := by decide +kernel
theorem dX7_point_22 : decode cX7_point 22 = .ok (.iload 4, 2) := by decide +kernel
theorem dX7_point_24 : decode cX7_point 24 = .ok (.i2l, 1) := by decide +kernel
theorem dX7_point_25 : decode cX7_point 25 = .ok (.ldc2_w 122, 3) := by decide +kernel
theorem dX7_point_28 : decode cX7_point 28 = .ok (.ldc2_w 85, 3) := by decide +kernel
theorem dX7_point_31 : decode cX7_point 31 = .ok (.invokestatic 7, 3) := by decide +kernel
theorem dX7_point_34 : decode cX7_point 34 = .ok (.ifCond .eq 18, 3) := by decide +kernel
theorem dX7_point_37 : decode cX7_point 37 = .ok (.iload 5, 2) := by decide +kernel
theorem dX7_point_39 : decode cX7_point 39 = .ok (.i2l, 1) := by decide +kernel
theorem dX7_point_40 : decode cX7_point 40 = .ok (.ldc2_w 122, 3) := by decide +kernel
theorem dX7_point_43 : decode cX7_point 43 = .ok (.ldc2_w 85, 3) := by decide +kernel
theorem dX7_point_46 : decode cX7_point 46 = .ok (.invokestatic 7, 3) := by decide +kernel
theorem dX7_point_49 : decode cX7_point 49 = .ok (.ifCond .ne 6, 3) := by decide +kernel
theorem dX7_point_52 : decode cX7_point 52 = .ok (.bipush (-2), 2) := by decide +kernel
theorem dX7_point_54 : decode cX7_point 54 = .ok (.ireturn, 1) := by decide +kernel
theorem dX7_point_55 : decode cX7_point 55 = .ok (.aload_n 0, 1) := by decide +kernel
theorem dX7_point_56 : decode cX7_point 56 = .ok (.getfield 124, 3) := by decide +kernel
theorem dX7_point_59 : decode cX7_point 59 = .ok (.bipush 8, 2) := by decide +kernel
theorem dX7_point_61 : decode cX7_point 61 = .ok (.if_icmp .ne 6, 3) := by decide +kernel
theorem dX7_point_64 : decode cX7_point 64 = .ok (.bipush (-4), 2) := by decide +kernel
theorem dX7_point_66 : decode cX7_point 66 = .ok (.ireturn, 1) := by decide +kernel
theorem dX7_point_67 : decode cX7_point 67 = .ok (.aload_n 0, 1) := by decide +kernel
theorem dX7_point_68 : decode cX7_point 68 = .ok (.getfield 44, 3) := by decide +kernel
theorem dX7_point_71 : decode cX7_point 71 = .ok (.aload_n 0, 1) := by decide +kernel
theorem dX7_point_72 : decode cX7_point 72 = .ok (.getfield 124, 3) := by decide +kernel
theorem dX7_point_75 : decode cX7_point 75 = .ok (.iload_n 1, 1) := by decide +kernel
theorem dX7_point_76 : decode cX7_point 76 = .ok (.iastore, 1) := by decide +kernel
theorem dX7_point_77 : decode cX7_point 77 = .ok (.aload_n 0, 1) := by decide +kernel
theorem dX7_point_78 : decode cX7_point 78 = .ok (.getfield 47, 3) := by decide +kernel
theorem dX7_point_81 : decode cX7_point 81 = .ok (.aload_n 0, 1) := by decide +kernel
theorem dX7_point_82 : decode cX7_point 82 = .ok (.getfield 124, 3) := by decide +kernel
theorem dX7_point_85 : decode cX7_point 85 = .ok (.iload_n 2, 1) := by decide +kernel
theorem dX7_point_86 : decode cX7_point 86 = .ok (.iastore, 1) := by decide +kernel
theorem dX7_point_87 : decode cX7_point 87 = .ok (.aload_n 0, 1) := by decide +kernel
theorem dX7_point_88 : decode cX7_point 88 = .ok (.getfield 50, 3) := by decide +kernel
theorem dX7_point_91 : decode cX7_point 91 = .ok (.aload_n 0, 1) := by decide +kernel
theorem dX7_point_92 : decode cX7_point 92 = .ok (.getfield 124, 3) := by decide +kernel
theorem dX7_point_95 : decode cX7_point 95 = .ok (.iload_n 3, 1) := by decide +kernel
theorem dX7_point_96 : decode cX7_point 96 = .ok (.iastore, 1) := by decide +kernel
theorem dX7_point_97 : decode cX7_point 97 = .ok (.aload_n 0, 1) := by decide +kernel
theorem dX7_point_98 : decode cX7_point 98 = .ok (.getfield 53, 3) := by decide +kernel
theorem dX7_point_101 : decode cX7_point 101 = .ok (.aload_n 0, 1) := by decide +kernel
theorem dX7_point_102 : decode cX7_point 102 = .ok (.getfield 124, 3) := by decide +kernel
theorem dX7_point_105 : decode cX7_point 105 = .ok (.iload 4, 2) := by decide +kernel
theorem dX7_point_107 : decode cX7_point 107 = .ok (.iastore, 1) := by decide +kernel
theorem dX7_point_108 : decode cX7_point 108 = .ok (.aload_n 0, 1) := by decide +kernel
theorem dX7_point_109 : decode cX7_point 109 = .ok (.getfield 56, 3) := by decide +kernel
theorem dX7_point_112 : decode cX7_point 112 = .ok (.aload_n 0, 1) := by decide +kernel
theorem dX7_point_113 : decode cX7_point 113 = .ok (.getfield 124, 3) := by decide +kernel
theorem dX7_point_116 : decode cX7_point 116 = .ok (.iload 5, 2) := by decide +kernel
theorem dX7_point_118 : decode cX7_point 118 = .ok (.iastore, 1) := by decide +kernel
theorem dX7_point_119 : decode cX7_point 119 = .ok (.aload_n 0, 1) := by decide +kernel
theorem dX7_point_120 : decode cX7_point 120 = .ok (.dup, 1) := by decide +kernel
theorem dX7_point_121 : decode cX7_point 121 = .ok (.getfield 124, 3) := by decide +kernel
theorem dX7_point_124 : decode cX7_point 124 = .ok (.iconst 1, 1) := by decide +kernel
theorem dX7_point_125 : decode cX7_point 125 = .ok (.iadd, 1) := by decide +kernel
theorem dX7_point_126 : decode cX7_point 126 = .ok (.putfield 124, 3) := by decide +kernel
theorem dX7_point_129 : decode cX7_point 129 = .ok (.aload_n 0, 1) := by decide +kernel
theorem dX7_point_130 : decode cX7_point 130 = .ok (.getfield 124, 3) := by decide +kernel
theorem dX7_point_133 : decode cX7_point 133 = .ok (.iconst 1, 1) := by decide +kernel
theorem dX7_point_134 : decode cX7_point 134 = .ok (.isub, 1) := by decide +kernel
theorem dX7_point_135 : decode cX7_point 135 = .ok (.ireturn, 1) := by decide +kernel
theorem dX7_clear_0 : decode cX7_clear 0 = .ok (.aload_n 0, 1) := by decide +kernel
theorem dX7_clear_1 : decode cX7_clear 1 = .ok (.getfield 124, 3) := by decide +kernel
theorem dX7_clear_4 : decode cX7_clear 4 = .ok (.istore_n 1, 1) := by decide +kernel
theorem dX7_clear_5 : decode cX7_clear 5 = .ok (.aload_n 0, 1) := by decide +kernel
theorem dX7_clear_6 : decode cX7_clear 6 = .ok (.iconst 0, 1) := by decide +kernel
theorem dX7_clear_7 : decode cX7_clear 7 = .ok (.putfield 124, 3) := by decide +kernel
theorem dX7_clear_10 : decode cX7_clear 10 = .ok (.iload_n 1, 1) := by decide +kernel
theorem dX7_clear_11 : decode cX7_clear 11 = .ok (.ireturn, 1) := by decide +kernel
set_option maxRecDepth 20000 in
theorem ggX7_pointAt_X7_in : GoodIn wsX7_pointAt wsX7_in := goodIn_r _ [9] (by decide +kernel) (by decide +kernel)
set_option maxRecDepth 20000 in
theorem gX7_pointAt_X7_in : GoodIn wsX7_pointAt (va_wsS RX7 7 yX7_in wsX7_in) := goodIn_app (goodIn_of _ (by decide +kernel)) ggX7_pointAt_X7_in
theorem dX7_pointAt_0 : decode cX7_pointAt 0 = .ok (.iload_n 1, 1) := by decide +kernel
theorem dX7_pointAt_1 : decode cX7_pointAt 1 = .ok (.i2l, 1) := by decide +kernel
theorem dX7_pointAt_2 : decode cX7_pointAt 2 = .ok (.lconst 0, 1) := by decide +kernel
theorem dX7_pointAt_3 : decode cX7_pointAt 3 = .ok (.aload_n 0, 1) := by decide +kernel
theorem dX7_pointAt_4 : decode cX7_pointAt 4 = .ok (.getfield 124, 3) := by decide +kernel
theorem dX7_pointAt_7 : decode cX7_pointAt 7 = .ok (.iconst 1, 1) := by decide +kernel
theorem dX7_pointAt_8 : decode cX7_pointAt 8 = .ok (.isub, 1) := by decide +kernel
theorem dX7_pointAt_9 : decode cX7_pointAt 9 = .ok (.i2l, 1) := by decide +kernel
theorem dX7_pointAt_10 : decode cX7_pointAt 10 = .ok (.invokestatic 7, 3) := by decide +kernel
theorem dX7_pointAt_13 : decode cX7_pointAt 13 = .ok (.ifCond .eq 15, 3) := by decide +kernel
theorem dX7_pointAt_16 : decode cX7_pointAt 16 = .ok (.iload_n 2, 1) := by decide +kernel
theorem dX7_pointAt_17 : decode cX7_pointAt 17 = .ok (.i2l, 1) := by decide +kernel
theorem dX7_pointAt_18 : decode cX7_pointAt 18 = .ok (.lconst 0, 1) := by decide +kernel
theorem dX7_pointAt_19 : decode cX7_pointAt 19 = .ok (.ldc2_w 81, 3) := by decide +kernel
theorem dX7_pointAt_22 : decode cX7_pointAt 22 = .ok (.invokestatic 7, 3) := by decide +kernel
theorem dX7_pointAt_25 : decode cX7_pointAt 25 = .ok (.ifCond .ne 7, 3) := by decide +kernel
theorem dX7_pointAt_28 : decode cX7_pointAt 28 = .ok (.sipush (-5000), 3) := by decide +kernel
theorem dX7_pointAt_31 : decode cX7_pointAt 31 = .ok (.ireturn, 1) := by decide +kernel
theorem dX7_pointAt_32 : decode cX7_pointAt 32 = .ok (.iload_n 2, 1) := by decide +kernel
theorem dX7_pointAt_33 : decode cX7_pointAt 33 = .ok (.ifCond .ne 12, 3) := by decide +kernel
theorem dX7_pointAt_36 : decode cX7_pointAt 36 = .ok (.aload_n 0, 1) := by decide +kernel
theorem dX7_pointAt_37 : decode cX7_pointAt 37 = .ok (.getfield 44, 3) := by decide +kernel
theorem dX7_pointAt_40 : decode cX7_pointAt 40 = .ok (.iload_n 1, 1) := by decide +kernel
theorem dX7_pointAt_41 : decode cX7_pointAt 41 = .ok (.iaload, 1) := by decide +kernel
theorem dX7_pointAt_42 : decode cX7_pointAt 42 = .ok (.goto 23, 3) := by decide +kernel
theorem dX7_pointAt_45 : decode cX7_pointAt 45 = .ok (.iload_n 2, 1) := by decide +kernel
theorem dX7_pointAt_46 : decode cX7_pointAt 46 = .ok (.iconst 1, 1) := by decide +kernel
theorem dX7_pointAt_47 : decode cX7_pointAt 47 = .ok (.if_icmp .ne 12, 3) := by decide +kernel
theorem dX7_pointAt_50 : decode cX7_pointAt 50 = .ok (.aload_n 0, 1) := by decide +kernel
theorem dX7_pointAt_51 : decode cX7_pointAt 51 = .ok (.getfield 47, 3) := by decide +kernel
theorem dX7_pointAt_54 : decode cX7_pointAt 54 = .ok (.iload_n 1, 1) := by decide +kernel
theorem dX7_pointAt_55 : decode cX7_pointAt 55 = .ok (.iaload, 1) := by decide +kernel
theorem dX7_pointAt_56 : decode cX7_pointAt 56 = .ok (.goto 9, 3) := by decide +kernel
theorem dX7_pointAt_59 : decode cX7_pointAt 59 = .ok (.aload_n 0, 1) := by decide +kernel
theorem dX7_pointAt_60 : decode cX7_pointAt 60 = .ok (.getfield 50, 3) := by decide +kernel
theorem dX7_pointAt_63 : decode cX7_pointAt 63 = .ok (.iload_n 1, 1) := by decide +kernel
theorem dX7_pointAt_64 : decode cX7_pointAt 64 = .ok (.iaload, 1) := by decide +kernel
theorem dX7_pointAt_65 : decode cX7_pointAt 65 = .ok (.ireturn, 1) := by decide +kernel
set_option maxRecDepth 20000 in
theorem ggX7_add_X7_in : GoodIn wsX7_add wsX7_in := goodIn_r _ [6] (by decide +kernel) (by decide +kernel)
set_option maxRecDepth 20000 in
theorem gX7_add_X7_in : GoodIn wsX7_add (va_wsS RX7 7 yX7_in wsX7_in) := goodIn_app (goodIn_of _ (by decide +kernel)) ggX7_add_X7_in
theorem dX7_add_0 : decode cX7_add 0 = .ok (.iload_n 3, 1) := by decide +kernel
theorem dX7_add_1 : decode cX7_add 1 = .ok (.i2l, 1) := by decide +kernel
theorem dX7_add_2 : decode cX7_add 2 = .ok (.lconst 0, 1) := by decide +kernel
theorem dX7_add_3 : decode cX7_add 3 = .ok (.ldc2_w 127, 3) := by decide +kernel
theorem dX7_add_6 : decode cX7_add 6 = .ok (.invokestatic 7, 3) := by decide +kernel
theorem dX7_add_9 : decode cX7_add 9 = .ok (.ifCond .eq 25, 3) := by decide +kernel
theorem dX7_add_12 : decode cX7_add 12 = .ok (.aload_n 0, 1) := by decide +kernel
theorem dX7_add_13 : decode cX7_add 13 = .ok (.getfield 63, 3) := by decide +kernel
theorem dX7_add_16 : decode cX7_add 16 = .ok (.sipush 400, 3) := by decide +kernel
theorem dX7_add_19 : decode cX7_add 19 = .ok (.bipush 16, 2) := by decide +kernel
theorem dX7_add_21 : decode cX7_add 21 = .ok (.iload_n 1, 1) := by decide +kernel
theorem dX7_add_22 : decode cX7_add 22 = .ok (.imul, 1) := by decide +kernel
theorem dX7_add_23 : decode cX7_add 23 = .ok (.iload_n 2, 1) := by decide +kernel
theorem dX7_add_24 : decode cX7_add 24 = .ok (.iadd, 1) := by decide +kernel
theorem dX7_add_25 : decode cX7_add 25 = .ok (.imul, 1) := by decide +kernel
theorem dX7_add_26 : decode cX7_add 26 = .ok (.iload_n 3, 1) := by decide +kernel
theorem dX7_add_27 : decode cX7_add 27 = .ok (.iadd, 1) := by decide +kernel
theorem dX7_add_28 : decode cX7_add 28 = .ok (.dup2, 1) := by decide +kernel
theorem dX7_add_29 : decode cX7_add 29 = .ok (.iaload, 1) := by decide +kernel
theorem dX7_add_30 : decode cX7_add 30 = .ok (.iload 4, 2) := by decide +kernel
theorem dX7_add_32 : decode cX7_add 32 = .ok (.iadd, 1) := by decide +kernel
theorem dX7_add_33 : decode cX7_add 33 = .ok (.iastore, 1) := by decide +kernel
theorem dX7_add_34 : decode cX7_add 34 = .ok (.return_, 1) := by decide +kernel
theorem dX7_held_0 : decode cX7_held 0 = .ok (.iload_n 0, 1) := by decide +kernel
theorem dX7_held_1 : decode cX7_held 1 = .ok (.iload_n 1, 1) := by decide +kernel
theorem dX7_held_2 : decode cX7_held 2 = .ok (.if_icmp .ge 7, 3) := by decide +kernel
theorem dX7_held_5 : decode cX7_held 5 = .ok (.iload_n 1, 1) := by decide +kernel
theorem dX7_held_6 : decode cX7_held 6 = .ok (.goto 13, 3) := by decide +kernel
theorem dX7_held_9 : decode cX7_held 9 = .ok (.iload_n 0, 1) := by decide +kernel
theorem dX7_held_10 : decode cX7_held 10 = .ok (.iload_n 2, 1) := by decide +kernel
theorem dX7_held_11 : decode cX7_held 11 = .ok (.if_icmp .le 7, 3) := by decide +kernel
theorem dX7_held_14 : decode cX7_held 14 = .ok (.iload_n 2, 1) := by decide +kernel
theorem dX7_held_15 : decode cX7_held 15 = .ok (.goto 4, 3) := by decide +kernel
theorem dX7_held_18 : decode cX7_held 18 = .ok (.iload_n 0, 1) := by decide +kernel
theorem dX7_held_19 : decode cX7_held 19 = .ok (.ireturn, 1) := by decide +kernel
set_option maxRecDepth 20000 in
theorem ggX7_look_X7_in : GoodIn wsX7_look wsX7_in := goodIn_r _ [18] (by decide +kernel) (by decide +kernel)
set_option maxRecDepth 20000 in
theorem gX7_look_X7_in : GoodIn wsX7_look (va_wsS RX7 7 yX7_in wsX7_in) := goodIn_app (goodIn_of _ (by decide +kernel)) ggX7_look_X7_in
set_option maxRecDepth 20000 in
theorem ggX7_look_X7_alive : GoodIn wsX7_look wsX7_alive := goodIn_r _ [22, 1, 2, 44, 45, 46, 47, 48, 49, 50, 51, 52, 53, 54, 55, 56, 57, 58, 59, 60, 61, 62, 63, 64, 65, 66, 67, 68, 69, 70, 71] (by decide +kernel) (by decide +kernel)
set_option maxRecDepth 20000 in
theorem gX7_look_X7_alive : GoodIn wsX7_look (wsV RX7 98 RX7 yX7_alive wsX7_alive) := goodIn_app (goodIn_of _ (by decide +kernel)) ggX7_look_X7_alive
set_option maxRecDepth 20000 in
theorem ggX7_look_X7_delayOf : GoodIn wsX7_look wsX7_delayOf := goodIn_r _ [26, 27, 28, 29, 30, 31, 32, 33, 17, 34, 35, 44, 45, 46, 47, 48, 49, 50, 51, 52, 53, 54, 55, 56, 57, 58, 59, 60, 61, 62, 63, 64, 65, 66, 67, 68, 69, 70, 71] (by decide +kernel) (by decide +kernel)
set_option maxRecDepth 20000 in
theorem gX7_look_X7_delayOf : GoodIn wsX7_look (wsV RX7 114 RX7 yX7_delayOf wsX7_delayOf) := goodIn_app (goodIn_of _ (by decide +kernel)) ggX7_look_X7_delayOf
set_option maxRecDepth 20000 in
theorem ggX7_look_X7_add : GoodIn wsX7_look wsX7_add := goodIn_r _ [39, 40, 6, 15, 16, 17, 18, 44, 45, 46, 47, 48, 49, 50, 51, 52, 53, 54, 55, 56, 57, 58, 59, 60, 61, 62, 63, 64, 65, 66, 67, 68, 69, 70, 71] (by decide +kernel) (by decide +kernel)
set_option maxRecDepth 20000 in
theorem gX7_look_X7_add : GoodIn wsX7_look (wsV RX7 129 RX7 yX7_add wsX7_add) := goodIn_app (goodIn_of _ (by decide +kernel)) ggX7_look_X7_add
set_option maxRecDepth 20000 in
theorem ggX7_look_X7_held : GoodIn wsX7_look wsX7_held := goodIn_r _ [43] (by decide +kernel) (by decide +kernel)
set_option maxRecDepth 20000 in
theorem gX7_look_X7_held : GoodIn wsX7_look (va_wsS RX7 133 yX7_held wsX7_held) := goodIn_app (goodIn_of _ (by decide +kernel)) ggX7_look_X7_held
theorem dX7_look_0 : decode cX7_look 0 = .ok (.iload_n 1, 1) := by decide +kernel
theorem dX7_look_1 : decode cX7_look 1 = .ok (.i2l, 1) := by decide +kernel
theorem dX7_look_2 : decode cX7_look 2 = .ok (.lconst 0, 1) := by decide +kernel
theorem dX7_look_3 : decode cX7_look 3 = .ok (.aload_n 0, 1) := by decide +kernel
theorem dX7_look_4 : decode cX7_look 4 = .ok (.getfield 19, 3) := by decide +kernel
theorem dX7_look_7 : decode cX7_look 7 = .ok (.iconst 1, 1) := by decide +kernel
theorem dX7_look_8 : decode cX7_look 8 = .ok (.isub, 1) := by decide +kernel
theorem dX7_look_9 : decode cX7_look 9 = .ok (.i2l, 1) := by decide +kernel
theorem dX7_look_10 : decode cX7_look 10 = .ok (.invokestatic 7, 3) := by decide +kernel
theorem dX7_look_13 : decode cX7_look 13 = .ok (.ifCond .ne 6, 3) := by decide +kernel
theorem dX7_look_16 : decode cX7_look 16 = .ok (.bipush (-2), 2) := by decide +kernel
theorem dX7_look_18 : decode cX7_look 18 = .ok (.ireturn, 1) := by decide +kernel
theorem dX7_look_19 : decode cX7_look 19 = .ok (.aload_n 0, 1) := by decide +kernel
theorem dX7_look_20 : decode cX7_look 20 = .ok (.getfield 27, 3) := by decide +kernel
theorem dX7_look_23 : decode cX7_look 23 = .ok (.iload_n 1, 1) := by decide +kernel
theorem dX7_look_24 : decode cX7_look 24 = .ok (.baload, 1) := by decide +kernel
theorem dX7_look_25 : decode cX7_look 25 = .ok (.ifCond .eq 6, 3) := by decide +kernel
theorem dX7_look_28 : decode cX7_look 28 = .ok (.bipush (-3), 2) := by decide +kernel
theorem dX7_look_30 : decode cX7_look 30 = .ok (.ireturn, 1) := by decide +kernel
theorem dX7_look_31 : decode cX7_look 31 = .ok (.aload_n 0, 1) := by decide +kernel
theorem dX7_look_32 : decode cX7_look 32 = .ok (.invokevirtual 98, 3) := by decide +kernel
theorem dX7_look_35 : decode cX7_look 35 = .ok (.istore_n 2, 1) := by decide +kernel
theorem dX7_look_36 : decode cX7_look 36 = .ok (.aload_n 0, 1) := by decide +kernel
theorem dX7_look_37 : decode cX7_look 37 = .ok (.getfield 93, 3) := by decide +kernel
theorem dX7_look_40 : decode cX7_look 40 = .ok (.iload_n 2, 1) := by decide +kernel
theorem dX7_look_41 : decode cX7_look 41 = .ok (.iload_n 2, 1) := by decide +kernel
theorem dX7_look_42 : decode cX7_look 42 = .ok (.imul, 1) := by decide +kernel
theorem dX7_look_43 : decode cX7_look 43 = .ok (.iload_n 2, 1) := by decide +kernel
theorem dX7_look_44 : decode cX7_look 44 = .ok (.imul, 1) := by decide +kernel
theorem dX7_look_45 : decode cX7_look 45 = .ok (.iadd, 1) := by decide +kernel
theorem dX7_look_46 : decode cX7_look 46 = .ok (.aload_n 0, 1) := by decide +kernel
theorem dX7_look_47 : decode cX7_look 47 = .ok (.getfield 41, 3) := by decide +kernel
theorem dX7_look_50 : decode cX7_look 50 = .ok (.if_icmp .le 6, 3) := by decide +kernel
theorem dX7_look_53 : decode cX7_look 53 = .ok (.bipush (-5), 2) := by decide +kernel
theorem dX7_look_55 : decode cX7_look 55 = .ok (.ireturn, 1) := by decide +kernel
theorem dX7_look_56 : decode cX7_look 56 = .ok (.sipush 6400, 3) := by decide +kernel
theorem dX7_look_59 : decode cX7_look 59 = .ok (.istore_n 3, 1) := by decide +kernel
theorem dX7_look_60 : decode cX7_look 60 = .ok (.aload_n 0, 1) := by decide +kernel
theorem dX7_look_61 : decode cX7_look 61 = .ok (.getfield 87, 3) := by decide +kernel
theorem dX7_look_64 : decode cX7_look 64 = .ok (.bipush 6, 2) := by decide +kernel
theorem dX7_look_66 : decode cX7_look 66 = .ok (.if_icmp .ne 79, 3) := by decide +kernel
theorem dX7_look_69 : decode cX7_look 69 = .ok (.iload_n 3, 1) := by decide +kernel
theorem dX7_look_70 : decode cX7_look 70 = .ok (.istore 4, 2) := by decide +kernel
theorem dX7_look_72 : decode cX7_look 72 = .ok (.iload 4, 2) := by decide +kernel
theorem dX7_look_74 : decode cX7_look 74 = .ok (.bipush 6, 2) := by decide +kernel
theorem dX7_look_76 : decode cX7_look 76 = .ok (.iload_n 3, 1) := by decide +kernel
theorem dX7_look_77 : decode cX7_look 77 = .ok (.imul, 1) := by decide +kernel
theorem dX7_look_78 : decode cX7_look 78 = .ok (.if_icmp .ge 25, 3) := by decide +kernel
theorem dX7_look_81 : decode cX7_look 81 = .ok (.aload_n 0, 1) := by decide +kernel
theorem dX7_look_82 : decode cX7_look 82 = .ok (.getfield 63, 3) := by decide +kernel
theorem dX7_look_85 : decode cX7_look 85 = .ok (.iload 4, 2) := by decide +kernel
theorem dX7_look_87 : decode cX7_look 87 = .ok (.iload_n 3, 1) := by decide +kernel
theorem dX7_look_88 : decode cX7_look 88 = .ok (.isub, 1) := by decide +kernel
theorem dX7_look_89 : decode cX7_look 89 = .ok (.aload_n 0, 1) := by decide +kernel
theorem dX7_look_90 : decode cX7_look 90 = .ok (.getfield 63, 3) := by decide +kernel
theorem dX7_look_93 : decode cX7_look 93 = .ok (.iload 4, 2) := by decide +kernel
theorem dX7_look_95 : decode cX7_look 95 = .ok (.iaload, 1) := by decide +kernel
theorem dX7_look_96 : decode cX7_look 96 = .ok (.iastore, 1) := by decide +kernel
theorem dX7_look_97 : decode cX7_look 97 = .ok (.iinc 4 1, 3) := by decide +kernel
theorem dX7_look_100 : decode cX7_look 100 = .ok (.goto (-28), 3) := by decide +kernel
theorem dX7_look_103 : decode cX7_look 103 = .ok (.iconst 1, 1) := by decide +kernel
theorem dX7_look_104 : decode cX7_look 104 = .ok (.istore 4, 2) := by decide +kernel
theorem dX7_look_106 : decode cX7_look 106 = .ok (.iload 4, 2) := by decide +kernel
theorem dX7_look_108 : decode cX7_look 108 = .ok (.bipush 6, 2) := by decide +kernel
theorem dX7_look_110 : decode cX7_look 110 = .ok (.if_icmp .ge 25, 3) := by decide +kernel
theorem dX7_look_113 : decode cX7_look 113 = .ok (.aload_n 0, 1) := by decide +kernel
theorem dX7_look_114 : decode cX7_look 114 = .ok (.getfield 59, 3) := by decide +kernel
theorem dX7_look_117 : decode cX7_look 117 = .ok (.iload 4, 2) := by decide +kernel
theorem dX7_look_119 : decode cX7_look 119 = .ok (.iconst 1, 1) := by decide +kernel
theorem dX7_look_120 : decode cX7_look 120 = .ok (.isub, 1) := by decide +kernel
theorem dX7_look_121 : decode cX7_look 121 = .ok (.aload_n 0, 1) := by decide +kernel
theorem dX7_look_122 : decode cX7_look 122 = .ok (.getfield 59, 3) := by decide +kernel
theorem dX7_look_125 : decode cX7_look 125 = .ok (.iload 4, 2) := by decide +kernel
theorem dX7_look_127 : decode cX7_look 127 = .ok (.iaload, 1) := by decide +kernel
theorem dX7_look_128 : decode cX7_look 128 = .ok (.iastore, 1) := by decide +kernel
theorem dX7_look_129 : decode cX7_look 129 = .ok (.iinc 4 1, 3) := by decide +kernel
theorem dX7_look_132 : decode cX7_look 132 = .ok (.goto (-26), 3) := by decide +kernel
theorem dX7_look_135 : decode cX7_look 135 = .ok (.aload_n 0, 1) := by decide +kernel
theorem dX7_look_136 : decode cX7_look 136 = .ok (.dup, 1) := by decide +kernel
theorem dX7_look_137 : decode cX7_look 137 = .ok (.getfield 87, 3) := by decide +kernel
theorem dX7_look_140 : decode cX7_look 140 = .ok (.iconst 1, 1) := by decide +kernel
theorem dX7_look_141 : decode cX7_look 141 = .ok (.isub, 1) := by decide +kernel
theorem dX7_look_142 : decode cX7_look 142 = .ok (.putfield 87, 3) := by decide +kernel
theorem dX7_look_145 : decode cX7_look 145 = .ok (.iconst 0, 1) := by decide +kernel
theorem dX7_look_146 : decode cX7_look 146 = .ok (.istore 4, 2) := by decide +kernel
theorem dX7_look_148 : decode cX7_look 148 = .ok (.iload 4, 2) := by decide +kernel
theorem dX7_look_150 : decode cX7_look 150 = .ok (.iload_n 3, 1) := by decide +kernel
theorem dX7_look_151 : decode cX7_look 151 = .ok (.if_icmp .ge 24, 3) := by decide +kernel
theorem dX7_look_154 : decode cX7_look 154 = .ok (.aload_n 0, 1) := by decide +kernel
theorem dX7_look_155 : decode cX7_look 155 = .ok (.getfield 63, 3) := by decide +kernel
theorem dX7_look_158 : decode cX7_look 158 = .ok (.iload_n 3, 1) := by decide +kernel
theorem dX7_look_159 : decode cX7_look 159 = .ok (.aload_n 0, 1) := by decide +kernel
theorem dX7_look_160 : decode cX7_look 160 = .ok (.getfield 87, 3) := by decide +kernel
theorem dX7_look_163 : decode cX7_look 163 = .ok (.imul, 1) := by decide +kernel
theorem dX7_look_164 : decode cX7_look 164 = .ok (.iload 4, 2) := by decide +kernel
theorem dX7_look_166 : decode cX7_look 166 = .ok (.iadd, 1) := by decide +kernel
theorem dX7_look_167 : decode cX7_look 167 = .ok (.iconst 0, 1) := by decide +kernel
theorem dX7_look_168 : decode cX7_look 168 = .ok (.iastore, 1) := by decide +kernel
theorem dX7_look_169 : decode cX7_look 169 = .ok (.iinc 4 1, 3) := by decide +kernel
theorem dX7_look_172 : decode cX7_look 172 = .ok (.goto (-24), 3) := by decide +kernel
theorem dX7_look_175 : decode cX7_look 175 = .ok (.aload_n 0, 1) := by decide +kernel
theorem dX7_look_176 : decode cX7_look 176 = .ok (.getfield 59, 3) := by decide +kernel
theorem dX7_look_179 : decode cX7_look 179 = .ok (.aload_n 0, 1) := by decide +kernel
theorem dX7_look_180 : decode cX7_look 180 = .ok (.getfield 87, 3) := by decide +kernel
theorem dX7_look_183 : decode cX7_look 183 = .ok (.iload_n 1, 1) := by decide +kernel
theorem dX7_look_184 : decode cX7_look 184 = .ok (.iastore, 1) := by decide +kernel
theorem dX7_look_185 : decode cX7_look 185 = .ok (.iconst 0, 1) := by decide +kernel
theorem dX7_look_186 : decode cX7_look 186 = .ok (.istore 4, 2) := by decide +kernel
theorem dX7_look_188 : decode cX7_look 188 = .ok (.iload 4, 2) := by decide +kernel
theorem dX7_look_190 : decode cX7_look 190 = .ok (.aload_n 0, 1) := by decide +kernel
theorem dX7_look_191 : decode cX7_look 191 = .ok (.getfield 124, 3) := by decide +kernel
theorem dX7_look_194 : decode cX7_look 194 = .ok (.if_icmp .ge 146, 3) := by decide +kernel
theorem dX7_look_197 : decode cX7_look 197 = .ok (.aload_n 0, 1) := by decide +kernel
theorem dX7_look_198 : decode cX7_look 198 = .ok (.iload_n 1, 1) := by decide +kernel
theorem dX7_look_199 : decode cX7_look 199 = .ok (.aload_n 0, 1) := by decide +kernel
theorem dX7_look_200 : decode cX7_look 200 = .ok (.getfield 44, 3) := by decide +kernel
theorem dX7_look_203 : decode cX7_look 203 = .ok (.iload 4, 2) := by decide +kernel
theorem dX7_look_205 : decode cX7_look 205 = .ok (.iaload, 1) := by decide +kernel
theorem dX7_look_206 : decode cX7_look 206 = .ok (.aload_n 0, 1) := by decide +kernel
theorem dX7_look_207 : decode cX7_look 207 = .ok (.getfield 47, 3) := by decide +kernel
theorem dX7_look_210 : decode cX7_look 210 = .ok (.iload 4, 2) := by decide +kernel
theorem dX7_look_212 : decode cX7_look 212 = .ok (.iaload, 1) := by decide +kernel
theorem dX7_look_213 : decode cX7_look 213 = .ok (.invokevirtual 114, 3) := by decide +kernel
theorem dX7_look_216 : decode cX7_look 216 = .ok (.istore 5, 2) := by decide +kernel
theorem dX7_look_218 : decode cX7_look 218 = .ok (.iconst 0, 1) := by decide +kernel
theorem dX7_look_219 : decode cX7_look 219 = .ok (.istore 6, 2) := by decide +kernel
theorem dX7_look_221 : decode cX7_look 221 = .ok (.iload 6, 2) := by decide +kernel
theorem dX7_look_223 : decode cX7_look 223 = .ok (.aload_n 0, 1) := by decide +kernel
theorem dX7_look_224 : decode cX7_look 224 = .ok (.getfield 19, 3) := by decide +kernel
theorem dX7_look_227 : decode cX7_look 227 = .ok (.if_icmp .ge 107, 3) := by decide +kernel
theorem dX7_look_230 : decode cX7_look 230 = .ok (.aload_n 0, 1) := by decide +kernel
theorem dX7_look_231 : decode cX7_look 231 = .ok (.getfield 27, 3) := by decide +kernel
theorem dX7_look_234 : decode cX7_look 234 = .ok (.iload 6, 2) := by decide +kernel
theorem dX7_look_236 : decode cX7_look 236 = .ok (.baload, 1) := by decide +kernel
theorem dX7_look_237 : decode cX7_look 237 = .ok (.ifCond .ne 91, 3) := by decide +kernel
theorem dX7_look_240 : decode cX7_look 240 = .ok (.iload 5, 2) := by decide +kernel
theorem dX7_look_242 : decode cX7_look 242 = .ok (.aload_n 0, 1) := by decide +kernel
theorem dX7_look_243 : decode cX7_look 243 = .ok (.iload 6, 2) := by decide +kernel
theorem dX7_look_245 : decode cX7_look 245 = .ok (.aload_n 0, 1) := by decide +kernel
theorem dX7_look_246 : decode cX7_look 246 = .ok (.getfield 44, 3) := by decide +kernel
theorem dX7_look_249 : decode cX7_look 249 = .ok (.iload 4, 2) := by decide +kernel
theorem dX7_look_251 : decode cX7_look 251 = .ok (.iaload, 1) := by decide +kernel
theorem dX7_look_252 : decode cX7_look 252 = .ok (.aload_n 0, 1) := by decide +kernel
theorem dX7_look_253 : decode cX7_look 253 = .ok (.getfield 47, 3) := by decide +kernel
theorem dX7_look_256 : decode cX7_look 256 = .ok (.iload 4, 2) := by decide +kernel
theorem dX7_look_258 : decode cX7_look 258 = .ok (.iaload, 1) := by decide +kernel
theorem dX7_look_259 : decode cX7_look 259 = .ok (.invokevirtual 114, 3) := by decide +kernel
theorem dX7_look_262 : decode cX7_look 262 = .ok (.iadd, 1) := by decide +kernel
theorem dX7_look_263 : decode cX7_look 263 = .ok (.istore 7, 2) := by decide +kernel
theorem dX7_look_265 : decode cX7_look 265 = .ok (.aload_n 0, 1) := by decide +kernel
theorem dX7_look_266 : decode cX7_look 266 = .ok (.aload_n 0, 1) := by decide +kernel
theorem dX7_look_267 : decode cX7_look 267 = .ok (.getfield 87, 3) := by decide +kernel
theorem dX7_look_270 : decode cX7_look 270 = .ok (.iload 6, 2) := by decide +kernel
theorem dX7_look_272 : decode cX7_look 272 = .ok (.iload 7, 2) := by decide +kernel
theorem dX7_look_274 : decode cX7_look 274 = .ok (.iconst 1, 1) := by decide +kernel
theorem dX7_look_275 : decode cX7_look 275 = .ok (.isub, 1) := by decide +kernel
theorem dX7_look_276 : decode cX7_look 276 = .ok (.aload_n 0, 1) := by decide +kernel
theorem dX7_look_277 : decode cX7_look 277 = .ok (.getfield 50, 3) := by decide +kernel
theorem dX7_look_280 : decode cX7_look 280 = .ok (.iload 4, 2) := by decide +kernel
theorem dX7_look_282 : decode cX7_look 282 = .ok (.iaload, 1) := by decide +kernel
theorem dX7_look_283 : decode cX7_look 283 = .ok (.invokevirtual 129, 3) := by decide +kernel
theorem dX7_look_286 : decode cX7_look 286 = .ok (.aload_n 0, 1) := by decide +kernel
theorem dX7_look_287 : decode cX7_look 287 = .ok (.aload_n 0, 1) := by decide +kernel
theorem dX7_look_288 : decode cX7_look 288 = .ok (.getfield 87, 3) := by decide +kernel
theorem dX7_look_291 : decode cX7_look 291 = .ok (.iload 6, 2) := by decide +kernel
theorem dX7_look_293 : decode cX7_look 293 = .ok (.iload 7, 2) := by decide +kernel
theorem dX7_look_295 : decode cX7_look 295 = .ok (.iconst 2, 1) := by decide +kernel
theorem dX7_look_296 : decode cX7_look 296 = .ok (.aload_n 0, 1) := by decide +kernel
theorem dX7_look_297 : decode cX7_look 297 = .ok (.getfield 50, 3) := by decide +kernel
theorem dX7_look_300 : decode cX7_look 300 = .ok (.iload 4, 2) := by decide +kernel
theorem dX7_look_302 : decode cX7_look 302 = .ok (.iaload, 1) := by decide +kernel
theorem dX7_look_303 : decode cX7_look 303 = .ok (.imul, 1) := by decide +kernel
theorem dX7_look_304 : decode cX7_look 304 = .ok (.invokevirtual 129, 3) := by decide +kernel
theorem dX7_look_307 : decode cX7_look 307 = .ok (.aload_n 0, 1) := by decide +kernel
theorem dX7_look_308 : decode cX7_look 308 = .ok (.aload_n 0, 1) := by decide +kernel
theorem dX7_look_309 : decode cX7_look 309 = .ok (.getfield 87, 3) := by decide +kernel
theorem dX7_look_312 : decode cX7_look 312 = .ok (.iload 6, 2) := by decide +kernel
theorem dX7_look_314 : decode cX7_look 314 = .ok (.iload 7, 2) := by decide +kernel
theorem dX7_look_316 : decode cX7_look 316 = .ok (.iconst 1, 1) := by decide +kernel
theorem dX7_look_317 : decode cX7_look 317 = .ok (.iadd, 1) := by decide +kernel
theorem dX7_look_318 : decode cX7_look 318 = .ok (.aload_n 0, 1) := by decide +kernel
theorem dX7_look_319 : decode cX7_look 319 = .ok (.getfield 50, 3) := by decide +kernel
theorem dX7_look_322 : decode cX7_look 322 = .ok (.iload 4, 2) := by decide +kernel
theorem dX7_look_324 : decode cX7_look 324 = .ok (.iaload, 1) := by decide +kernel
theorem dX7_look_325 : decode cX7_look 325 = .ok (.invokevirtual 129, 3) := by decide +kernel
theorem dX7_look_328 : decode cX7_look 328 = .ok (.iinc 6 1, 3) := by decide +kernel
theorem dX7_look_331 : decode cX7_look 331 = .ok (.goto (-110), 3) := by decide +kernel
theorem dX7_look_334 : decode cX7_look 334 = .ok (.iinc 4 1, 3) := by decide +kernel
theorem dX7_look_337 : decode cX7_look 337 = .ok (.goto (-149), 3) := by decide +kernel
theorem dX7_look_340 : decode cX7_look 340 = .ok (.iconst 0, 1) := by decide +kernel
theorem dX7_look_341 : decode cX7_look 341 = .ok (.istore 4, 2) := by decide +kernel
theorem dX7_look_343 : decode cX7_look 343 = .ok (.iload 4, 2) := by decide +kernel
theorem dX7_look_345 : decode cX7_look 345 = .ok (.aload_n 0, 1) := by decide +kernel
theorem dX7_look_346 : decode cX7_look 346 = .ok (.getfield 124, 3) := by decide +kernel
theorem dX7_look_349 : decode cX7_look 349 = .ok (.if_icmp .ge 69, 3) := by decide +kernel
theorem dX7_look_352 : decode cX7_look 352 = .ok (.aload_n 0, 1) := by decide +kernel
theorem dX7_look_353 : decode cX7_look 353 = .ok (.getfield 44, 3) := by decide +kernel
theorem dX7_look_356 : decode cX7_look 356 = .ok (.iload 4, 2) := by decide +kernel
theorem dX7_look_358 : decode cX7_look 358 = .ok (.aload_n 0, 1) := by decide +kernel
theorem dX7_look_359 : decode cX7_look 359 = .ok (.getfield 44, 3) := by decide +kernel
theorem dX7_look_362 : decode cX7_look 362 = .ok (.iload 4, 2) := by decide +kernel
theorem dX7_look_364 : decode cX7_look 364 = .ok (.iaload, 1) := by decide +kernel
theorem dX7_look_365 : decode cX7_look 365 = .ok (.aload_n 0, 1) := by decide +kernel
theorem dX7_look_366 : decode cX7_look 366 = .ok (.getfield 53, 3) := by decide +kernel
theorem dX7_look_369 : decode cX7_look 369 = .ok (.iload 4, 2) := by decide +kernel
theorem dX7_look_371 : decode cX7_look 371 = .ok (.iaload, 1) := by decide +kernel
theorem dX7_look_372 : decode cX7_look 372 = .ok (.iadd, 1) := by decide +kernel
theorem dX7_look_373 : decode cX7_look 373 = .ok (.sipush (-2000), 3) := by decide +kernel
theorem dX7_look_376 : decode cX7_look 376 = .ok (.sipush 2000, 3) := by decide +kernel
theorem dX7_look_379 : decode cX7_look 379 = .ok (.invokestatic 133, 3) := by decide +kernel
theorem dX7_look_382 : decode cX7_look 382 = .ok (.iastore, 1) := by decide +kernel
theorem dX7_look_383 : decode cX7_look 383 = .ok (.aload_n 0, 1) := by decide +kernel
theorem dX7_look_384 : decode cX7_look 384 = .ok (.getfield 47, 3) := by decide +kernel
theorem dX7_look_387 : decode cX7_look 387 = .ok (.iload 4, 2) := by decide +kernel
theorem dX7_look_389 : decode cX7_look 389 = .ok (.aload_n 0, 1) := by decide +kernel
theorem dX7_look_390 : decode cX7_look 390 = .ok (.getfield 47, 3) := by decide +kernel
theorem dX7_look_393 : decode cX7_look 393 = .ok (.iload 4, 2) := by decide +kernel
theorem dX7_look_395 : decode cX7_look 395 = .ok (.iaload, 1) := by decide +kernel
theorem dX7_look_396 : decode cX7_look 396 = .ok (.aload_n 0, 1) := by decide +kernel
theorem dX7_look_397 : decode cX7_look 397 = .ok (.getfield 56, 3) := by decide +kernel
theorem dX7_look_400 : decode cX7_look 400 = .ok (.iload 4, 2) := by decide +kernel
theorem dX7_look_402 : decode cX7_look 402 = .ok (.iaload, 1) := by decide +kernel
theorem dX7_look_403 : decode cX7_look 403 = .ok (.iadd, 1) := by decide +kernel
theorem dX7_look_404 : decode cX7_look 404 = .ok (.iconst 0, 1) := by decide +kernel
theorem dX7_look_405 : decode cX7_look 405 = .ok (.sipush 4000, 3) := by decide +kernel
theorem dX7_look_408 : decode cX7_look 408 = .ok (.invokestatic 133, 3) := by decide +kernel
theorem dX7_look_411 : decode cX7_look 411 = .ok (.iastore, 1) := by decide +kernel
theorem dX7_look_412 : decode cX7_look 412 = .ok (.iinc 4 1, 3) := by decide +kernel
theorem dX7_look_415 : decode cX7_look 415 = .ok (.goto (-72), 3) := by decide +kernel
theorem dX7_look_418 : decode cX7_look 418 = .ok (.aload_n 0, 1) := by decide +kernel
theorem dX7_look_419 : decode cX7_look 419 = .ok (.dup, 1) := by decide +kernel
theorem dX7_look_420 : decode cX7_look 420 = .ok (.getfield 93, 3) := by decide +kernel
theorem dX7_look_423 : decode cX7_look 423 = .ok (.iload_n 2, 1) := by decide +kernel
theorem dX7_look_424 : decode cX7_look 424 = .ok (.iload_n 2, 1) := by decide +kernel
theorem dX7_look_425 : decode cX7_look 425 = .ok (.imul, 1) := by decide +kernel
theorem dX7_look_426 : decode cX7_look 426 = .ok (.iload_n 2, 1) := by decide +kernel
theorem dX7_look_427 : decode cX7_look 427 = .ok (.imul, 1) := by decide +kernel
theorem dX7_look_428 : decode cX7_look 428 = .ok (.iadd, 1) := by decide +kernel
theorem dX7_look_429 : decode cX7_look 429 = .ok (.putfield 93, 3) := by decide +kernel
theorem dX7_look_432 : decode cX7_look 432 = .ok (.aload_n 0, 1) := by decide +kernel
theorem dX7_look_433 : decode cX7_look 433 = .ok (.dup, 1) := by decide +kernel
theorem dX7_look_434 : decode cX7_look 434 = .ok (.getfield 136, 3) := by decide +kernel
theorem dX7_look_437 : decode cX7_look 437 = .ok (.iconst 1, 1) := by decide +kernel
theorem dX7_look_438 : decode cX7_look 438 = .ok (.iadd, 1) := by decide +kernel
theorem dX7_look_439 : decode cX7_look 439 = .ok (.putfield 136, 3) := by decide +kernel
theorem dX7_look_442 : decode cX7_look 442 = .ok (.aload_n 0, 1) := by decide +kernel
theorem dX7_look_443 : decode cX7_look 443 = .ok (.dup, 1) := by decide +kernel
theorem dX7_look_444 : decode cX7_look 444 = .ok (.getfield 87, 3) := by decide +kernel
theorem dX7_look_447 : decode cX7_look 447 = .ok (.iconst 1, 1) := by decide +kernel
theorem dX7_look_448 : decode cX7_look 448 = .ok (.iadd, 1) := by decide +kernel
theorem dX7_look_449 : decode cX7_look 449 = .ok (.putfield 87, 3) := by decide +kernel
theorem dX7_look_452 : decode cX7_look 452 = .ok (.aload_n 0, 1) := by decide +kernel
theorem dX7_look_453 : decode cX7_look 453 = .ok (.getfield 87, 3) := by decide +kernel
theorem dX7_look_456 : decode cX7_look 456 = .ok (.ireturn, 1) := by decide +kernel
set_option maxRecDepth 20000 in
theorem ggX7_isLook_X7_in : GoodIn wsX7_isLook wsX7_in := goodIn_r _ [5] (by decide +kernel) (by decide +kernel)
set_option maxRecDepth 20000 in
theorem gX7_isLook_X7_in : GoodIn wsX7_isLook (va_wsS RX7 7 yX7_in wsX7_in) := goodIn_app (goodIn_of _ (by decide +kernel)) ggX7_isLook_X7_in
theorem dX7_isLook_0 : decode cX7_isLook 0 = .ok (.iload_n 1, 1) := by decide +kernel
theorem dX7_isLook_1 : decode cX7_isLook 1 = .ok (.i2l, 1) := by decide +kernel
theorem dX7_isLook_2 : decode cX7_isLook 2 = .ok (.lconst 0, 1) := by decide +kernel
theorem dX7_isLook_3 : decode cX7_isLook 3 = .ok (.aload_n 0, 1) := by decide +kernel
theorem dX7_isLook_4 : decode cX7_isLook 4 = .ok (.getfield 87, 3) := by decide +kernel
theorem dX7_isLook_7 : decode cX7_isLook 7 = .ok (.iconst 1, 1) := by decide +kernel
theorem dX7_isLook_8 : decode cX7_isLook 8 = .ok (.isub, 1) := by decide +kernel
theorem dX7_isLook_9 : decode cX7_isLook 9 = .ok (.i2l, 1) := by decide +kernel
theorem dX7_isLook_10 : decode cX7_isLook 10 = .ok (.invokestatic 7, 3) := by decide +kernel
theorem dX7_isLook_13 : decode cX7_isLook 13 = .ok (.ireturn, 1) := by decide +kernel
set_option maxRecDepth 20000 in
theorem ggX7_sampleAt_X7_in : GoodIn wsX7_sampleAt wsX7_in := goodIn_r _ [6] (by decide +kernel) (by decide +kernel)
set_option maxRecDepth 20000 in
theorem gX7_sampleAt_X7_in : GoodIn wsX7_sampleAt (va_wsS RX7 7 yX7_in wsX7_in) := goodIn_app (goodIn_of _ (by decide +kernel)) ggX7_sampleAt_X7_in
theorem dX7_sampleAt_0 : decode cX7_sampleAt 0 = .ok (.iload_n 3, 1) := by decide +kernel
theorem dX7_sampleAt_1 : decode cX7_sampleAt 1 = .ok (.i2l, 1) := by decide +kernel
theorem dX7_sampleAt_2 : decode cX7_sampleAt 2 = .ok (.lconst 0, 1) := by decide +kernel
theorem dX7_sampleAt_3 : decode cX7_sampleAt 3 = .ok (.ldc2_w 127, 3) := by decide +kernel
theorem dX7_sampleAt_6 : decode cX7_sampleAt 6 = .ok (.invokestatic 7, 3) := by decide +kernel
theorem dX7_sampleAt_9 : decode cX7_sampleAt 9 = .ok (.ifCond .eq 23, 3) := by decide +kernel
theorem dX7_sampleAt_12 : decode cX7_sampleAt 12 = .ok (.aload_n 0, 1) := by decide +kernel
theorem dX7_sampleAt_13 : decode cX7_sampleAt 13 = .ok (.getfield 63, 3) := by decide +kernel
theorem dX7_sampleAt_16 : decode cX7_sampleAt 16 = .ok (.sipush 400, 3) := by decide +kernel
theorem dX7_sampleAt_19 : decode cX7_sampleAt 19 = .ok (.bipush 16, 2) := by decide +kernel
theorem dX7_sampleAt_21 : decode cX7_sampleAt 21 = .ok (.iload_n 1, 1) := by decide +kernel
theorem dX7_sampleAt_22 : decode cX7_sampleAt 22 = .ok (.imul, 1) := by decide +kernel
theorem dX7_sampleAt_23 : decode cX7_sampleAt 23 = .ok (.iload_n 2, 1) := by decide +kernel
theorem dX7_sampleAt_24 : decode cX7_sampleAt 24 = .ok (.iadd, 1) := by decide +kernel
theorem dX7_sampleAt_25 : decode cX7_sampleAt 25 = .ok (.imul, 1) := by decide +kernel
theorem dX7_sampleAt_26 : decode cX7_sampleAt 26 = .ok (.iload_n 3, 1) := by decide +kernel
theorem dX7_sampleAt_27 : decode cX7_sampleAt 27 = .ok (.iadd, 1) := by decide +kernel
theorem dX7_sampleAt_28 : decode cX7_sampleAt 28 = .ok (.iaload, 1) := by decide +kernel
theorem dX7_sampleAt_29 : decode cX7_sampleAt 29 = .ok (.goto 4, 3) := by decide +kernel
theorem dX7_sampleAt_32 : decode cX7_sampleAt 32 = .ok (.iconst 0, 1) := by decide +kernel
theorem dX7_sampleAt_33 : decode cX7_sampleAt 33 = .ok (.ireturn, 1) := by decide +kernel
set_option maxRecDepth 20000 in
theorem ggX7_sample_X7_isLook : GoodIn wsX7_sample wsX7_isLook := goodIn_r _ [8, 9, 10, 11, 7, 12, 18, 19, 20, 21, 22, 23, 24, 25, 26, 27, 28, 29, 30, 31, 32, 33, 34, 35, 36, 37, 38, 39, 40, 41, 42, 43, 44, 45] (by decide +kernel) (by decide +kernel)
set_option maxRecDepth 20000 in
theorem gX7_sample_X7_isLook : GoodIn wsX7_sample (wsV RX7 139 RX7 yX7_isLook wsX7_isLook) := goodIn_app (goodIn_of _ (by decide +kernel)) ggX7_sample_X7_isLook
set_option maxRecDepth 20000 in
theorem ggX7_sample_X7_in : GoodIn wsX7_sample wsX7_in := goodIn_r _ [12] (by decide +kernel) (by decide +kernel)
set_option maxRecDepth 20000 in
theorem gX7_sample_X7_in : GoodIn wsX7_sample (va_wsS RX7 7 yX7_in wsX7_in) := goodIn_app (goodIn_of _ (by decide +kernel)) ggX7_sample_X7_in
set_option maxRecDepth 20000 in
theorem ggX7_sample_X7_sampleAt : GoodIn wsX7_sample wsX7_sampleAt := goodIn_r _ [16, 2, 17, 10, 11, 7, 12, 18, 19, 20, 21, 22, 23, 24, 25, 26, 27, 28, 29, 30, 31, 32, 33, 34, 35, 36, 37, 38, 39, 40, 41, 42, 43, 44, 45] (by decide +kernel) (by decide +kernel)
set_option maxRecDepth 20000 in
theorem gX7_sample_X7_sampleAt : GoodIn wsX7_sample (wsV RX7 143 RX7 yX7_sampleAt wsX7_sampleAt) := goodIn_app (goodIn_of _ (by decide +kernel)) ggX7_sample_X7_sampleAt
theorem dX7_sample_0 : decode cX7_sample 0 = .ok (.aload_n 0, 1) := by decide +kernel
theorem dX7_sample_1 : decode cX7_sample 1 = .ok (.iload_n 1, 1) := by decide +kernel
theorem dX7_sample_2 : decode cX7_sample 2 = .ok (.invokevirtual 139, 3) := by decide +kernel
theorem dX7_sample_5 : decode cX7_sample 5 = .ok (.ifCond .eq 41, 3) := by decide +kernel
theorem dX7_sample_8 : decode cX7_sample 8 = .ok (.iload_n 2, 1) := by decide +kernel
theorem dX7_sample_9 : decode cX7_sample 9 = .ok (.i2l, 1) := by decide +kernel
theorem dX7_sample_10 : decode cX7_sample 10 = .ok (.lconst 0, 1) := by decide +kernel
theorem dX7_sample_11 : decode cX7_sample 11 = .ok (.aload_n 0, 1) := by decide +kernel
theorem dX7_sample_12 : decode cX7_sample 12 = .ok (.getfield 19, 3) := by decide +kernel
theorem dX7_sample_15 : decode cX7_sample 15 = .ok (.iconst 1, 1) := by decide +kernel
theorem dX7_sample_16 : decode cX7_sample 16 = .ok (.isub, 1) := by decide +kernel
theorem dX7_sample_17 : decode cX7_sample 17 = .ok (.i2l, 1) := by decide +kernel
theorem dX7_sample_18 : decode cX7_sample 18 = .ok (.invokestatic 7, 3) := by decide +kernel
theorem dX7_sample_21 : decode cX7_sample 21 = .ok (.ifCond .eq 25, 3) := by decide +kernel
theorem dX7_sample_24 : decode cX7_sample 24 = .ok (.iload_n 3, 1) := by decide +kernel
theorem dX7_sample_25 : decode cX7_sample 25 = .ok (.i2l, 1) := by decide +kernel
theorem dX7_sample_26 : decode cX7_sample 26 = .ok (.lconst 0, 1) := by decide +kernel
theorem dX7_sample_27 : decode cX7_sample 27 = .ok (.ldc2_w 127, 3) := by decide +kernel
theorem dX7_sample_30 : decode cX7_sample 30 = .ok (.invokestatic 7, 3) := by decide +kernel
theorem dX7_sample_33 : decode cX7_sample 33 = .ok (.ifCond .eq 13, 3) := by decide +kernel
theorem dX7_sample_36 : decode cX7_sample 36 = .ok (.aload_n 0, 1) := by decide +kernel
theorem dX7_sample_37 : decode cX7_sample 37 = .ok (.iload_n 1, 1) := by decide +kernel
theorem dX7_sample_38 : decode cX7_sample 38 = .ok (.iload_n 2, 1) := by decide +kernel
theorem dX7_sample_39 : decode cX7_sample 39 = .ok (.iload_n 3, 1) := by decide +kernel
theorem dX7_sample_40 : decode cX7_sample 40 = .ok (.invokevirtual 143, 3) := by decide +kernel
theorem dX7_sample_43 : decode cX7_sample 43 = .ok (.goto 5, 3) := by decide +kernel
theorem dX7_sample_46 : decode cX7_sample 46 = .ok (.ldc 146, 2) := by decide +kernel
theorem dX7_sample_48 : decode cX7_sample 48 = .ok (.ireturn, 1) := by decide +kernel
set_option maxRecDepth 20000 in
theorem ggX7_window_X7_in : GoodIn wsX7_window wsX7_in := goodIn_r _ [8] (by decide +kernel) (by decide +kernel)
set_option maxRecDepth 20000 in
theorem gX7_window_X7_in : GoodIn wsX7_window (va_wsS RX7 7 yX7_in wsX7_in) := goodIn_app (goodIn_of _ (by decide +kernel)) ggX7_window_X7_in
theorem dX7_window_0 : decode cX7_window 0 = .ok (.iload_n 1, 1) := by decide +kernel
theorem dX7_window_1 : decode cX7_window 1 = .ok (.i2l, 1) := by decide +kernel
theorem dX7_window_2 : decode cX7_window 2 = .ok (.lconst 0, 1) := by decide +kernel
theorem dX7_window_3 : decode cX7_window 3 = .ok (.ldc2_w 81, 3) := by decide +kernel
theorem dX7_window_6 : decode cX7_window 6 = .ok (.invokestatic 7, 3) := by decide +kernel
theorem dX7_window_9 : decode cX7_window 9 = .ok (.ifCond .eq 15, 3) := by decide +kernel
theorem dX7_window_12 : decode cX7_window 12 = .ok (.iload_n 2, 1) := by decide +kernel
theorem dX7_window_13 : decode cX7_window 13 = .ok (.i2l, 1) := by decide +kernel
theorem dX7_window_14 : decode cX7_window 14 = .ok (.lconst 1, 1) := by decide +kernel
theorem dX7_window_15 : decode cX7_window 15 = .ok (.ldc2_w 147, 3) := by decide +kernel
theorem dX7_window_18 : decode cX7_window 18 = .ok (.invokestatic 7, 3) := by decide +kernel
theorem dX7_window_21 : decode cX7_window 21 = .ok (.ifCond .ne 6, 3) := by decide +kernel
theorem dX7_window_24 : decode cX7_window 24 = .ok (.bipush (-2), 2) := by decide +kernel
theorem dX7_window_26 : decode cX7_window 26 = .ok (.ireturn, 1) := by decide +kernel
theorem dX7_window_27 : decode cX7_window 27 = .ok (.aload_n 0, 1) := by decide +kernel
theorem dX7_window_28 : decode cX7_window 28 = .ok (.getfield 149, 3) := by decide +kernel
theorem dX7_window_31 : decode cX7_window 31 = .ok (.istore_n 3, 1) := by decide +kernel
theorem dX7_window_32 : decode cX7_window 32 = .ok (.aload_n 0, 1) := by decide +kernel
theorem dX7_window_33 : decode cX7_window 33 = .ok (.iload_n 1, 1) := by decide +kernel
theorem dX7_window_34 : decode cX7_window 34 = .ok (.putfield 149, 3) := by decide +kernel
theorem dX7_window_37 : decode cX7_window 37 = .ok (.aload_n 0, 1) := by decide +kernel
theorem dX7_window_38 : decode cX7_window 38 = .ok (.iload_n 2, 1) := by decide +kernel
theorem dX7_window_39 : decode cX7_window 39 = .ok (.putfield 37, 3) := by decide +kernel
theorem dX7_window_42 : decode cX7_window 42 = .ok (.iload_n 3, 1) := by decide +kernel
theorem dX7_window_43 : decode cX7_window 43 = .ok (.ireturn, 1) := by decide +kernel
theorem dX7_weightOf_0 : decode cX7_weightOf 0 = .ok (.aload_n 0, 1) := by decide +kernel
theorem dX7_weightOf_1 : decode cX7_weightOf 1 = .ok (.getfield 27, 3) := by decide +kernel
theorem dX7_weightOf_4 : decode cX7_weightOf 4 = .ok (.iload_n 1, 1) := by decide +kernel
theorem dX7_weightOf_5 : decode cX7_weightOf 5 = .ok (.baload, 1) := by decide +kernel
theorem dX7_weightOf_6 : decode cX7_weightOf 6 = .ok (.ifCond .eq 5, 3) := by decide +kernel
theorem dX7_weightOf_9 : decode cX7_weightOf 9 = .ok (.iconst 0, 1) := by decide +kernel
theorem dX7_weightOf_10 : decode cX7_weightOf 10 = .ok (.ireturn, 1) := by decide +kernel
theorem dX7_weightOf_11 : decode cX7_weightOf 11 = .ok (.iload_n 2, 1) := by decide +kernel
theorem dX7_weightOf_12 : decode cX7_weightOf 12 = .ok (.aload_n 0, 1) := by decide +kernel
theorem dX7_weightOf_13 : decode cX7_weightOf 13 = .ok (.getfield 23, 3) := by decide +kernel
theorem dX7_weightOf_16 : decode cX7_weightOf 16 = .ok (.iload_n 1, 1) := by decide +kernel
theorem dX7_weightOf_17 : decode cX7_weightOf 17 = .ok (.iaload, 1) := by decide +kernel
theorem dX7_weightOf_18 : decode cX7_weightOf 18 = .ok (.if_icmp .ge 14, 3) := by decide +kernel
theorem dX7_weightOf_21 : decode cX7_weightOf 21 = .ok (.aload_n 0, 1) := by decide +kernel
theorem dX7_weightOf_22 : decode cX7_weightOf 22 = .ok (.getfield 23, 3) := by decide +kernel
theorem dX7_weightOf_25 : decode cX7_weightOf 25 = .ok (.iload_n 1, 1) := by decide +kernel
theorem dX7_weightOf_26 : decode cX7_weightOf 26 = .ok (.iaload, 1) := by decide +kernel
theorem dX7_weightOf_27 : decode cX7_weightOf 27 = .ok (.iload_n 2, 1) := by decide +kernel
theorem dX7_weightOf_28 : decode cX7_weightOf 28 = .ok (.isub, 1) := by decide +kernel
theorem dX7_weightOf_29 : decode cX7_weightOf 29 = .ok (.goto 11, 3) := by decide +kernel
theorem dX7_weightOf_32 : decode cX7_weightOf 32 = .ok (.iload_n 2, 1) := by decide +kernel
theorem dX7_weightOf_33 : decode cX7_weightOf 33 = .ok (.aload_n 0, 1) := by decide +kernel
theorem dX7_weightOf_34 : decode cX7_weightOf 34 = .ok (.getfield 23, 3) := by decide +kernel
theorem dX7_weightOf_37 : decode cX7_weightOf 37 = .ok (.iload_n 1, 1) := by decide +kernel
theorem dX7_weightOf_38 : decode cX7_weightOf 38 = .ok (.iaload, 1) := by decide +kernel
theorem dX7_weightOf_39 : decode cX7_weightOf 39 = .ok (.isub, 1) := by decide +kernel
theorem dX7_weightOf_40 : decode cX7_weightOf 40 = .ok (.istore 4, 2) := by decide +kernel
theorem dX7_weightOf_42 : decode cX7_weightOf 42 = .ok (.iload_n 3, 1) := by decide +kernel
theorem dX7_weightOf_43 : decode cX7_weightOf 43 = .ok (.aload_n 0, 1) := by decide +kernel
theorem dX7_weightOf_44 : decode cX7_weightOf 44 = .ok (.getfield 37, 3) := by decide +kernel
theorem dX7_weightOf_47 : decode cX7_weightOf 47 = .ok (.idiv, 1) := by decide +kernel
theorem dX7_weightOf_48 : decode cX7_weightOf 48 = .ok (.istore 5, 2) := by decide +kernel
theorem dX7_weightOf_50 : decode cX7_weightOf 50 = .ok (.aload_n 0, 1) := by decide +kernel
theorem dX7_weightOf_51 : decode cX7_weightOf 51 = .ok (.getfield 149, 3) := by decide +kernel
theorem dX7_weightOf_54 : decode cX7_weightOf 54 = .ok (.ifCond .ne 7, 3) := by decide +kernel
theorem dX7_weightOf_57 : decode cX7_weightOf 57 = .ok (.iconst 1, 1) := by decide +kernel
theorem dX7_weightOf_58 : decode cX7_weightOf 58 = .ok (.goto 33, 3) := by decide +kernel
theorem dX7_weightOf_61 : decode cX7_weightOf 61 = .ok (.iload 4, 2) := by decide +kernel
theorem dX7_weightOf_63 : decode cX7_weightOf 63 = .ok (.iload 5, 2) := by decide +kernel
theorem dX7_weightOf_65 : decode cX7_weightOf 65 = .ok (.if_icmp .le 7, 3) := by decide +kernel
theorem dX7_weightOf_68 : decode cX7_weightOf 68 = .ok (.iconst 0, 1) := by decide +kernel
theorem dX7_weightOf_69 : decode cX7_weightOf 69 = .ok (.goto 22, 3) := by decide +kernel
theorem dX7_weightOf_72 : decode cX7_weightOf 72 = .ok (.aload_n 0, 1) := by decide +kernel
theorem dX7_weightOf_73 : decode cX7_weightOf 73 = .ok (.getfield 149, 3) := by decide +kernel
theorem dX7_weightOf_76 : decode cX7_weightOf 76 = .ok (.iconst 1, 1) := by decide +kernel
theorem dX7_weightOf_77 : decode cX7_weightOf 77 = .ok (.if_icmp .ne 7, 3) := by decide +kernel
theorem dX7_weightOf_80 : decode cX7_weightOf 80 = .ok (.iconst 1, 1) := by decide +kernel
theorem dX7_weightOf_81 : decode cX7_weightOf 81 = .ok (.goto 10, 3) := by decide +kernel
theorem dX7_weightOf_84 : decode cX7_weightOf 84 = .ok (.iload 5, 2) := by decide +kernel
theorem dX7_weightOf_86 : decode cX7_weightOf 86 = .ok (.iload 4, 2) := by decide +kernel
theorem dX7_weightOf_88 : decode cX7_weightOf 88 = .ok (.isub, 1) := by decide +kernel
theorem dX7_weightOf_89 : decode cX7_weightOf 89 = .ok (.iconst 1, 1) := by decide +kernel
theorem dX7_weightOf_90 : decode cX7_weightOf 90 = .ok (.iadd, 1) := by decide +kernel
theorem dX7_weightOf_91 : decode cX7_weightOf 91 = .ok (.ireturn, 1) := by decide +kernel
set_option maxRecDepth 20000 in
theorem ggX7_weight_X7_in : GoodIn wsX7_weight wsX7_in := goodIn_r _ [5] (by decide +kernel) (by decide +kernel)
set_option maxRecDepth 20000 in
theorem gX7_weight_X7_in : GoodIn wsX7_weight (va_wsS RX7 7 yX7_in wsX7_in) := goodIn_app (goodIn_of _ (by decide +kernel)) ggX7_weight_X7_in
set_option maxRecDepth 20000 in
theorem ggX7_weight_X7_isPlace : GoodIn wsX7_weight wsX7_isPlace := goodIn_r _ [8, 9, 10, 11, 2, 3, 4, 5] (by decide +kernel) (by decide +kernel)
set_option maxRecDepth 20000 in
theorem gX7_weight_X7_isPlace : GoodIn wsX7_weight (va_wsS RX7 110 yX7_isPlace wsX7_isPlace) := goodIn_app (goodIn_of _ (by decide +kernel)) ggX7_weight_X7_isPlace
set_option maxRecDepth 20000 in
theorem ggX7_weight_X7_weightOf : GoodIn wsX7_weight wsX7_weightOf := goodIn_r _ [15, 16, 17, 18, 19, 20, 21, 22, 23, 24, 25, 26, 27, 28, 29, 30, 31, 32, 33, 34, 35, 36, 37, 38, 39, 40, 41, 42, 43, 44, 45, 46, 47] (by decide +kernel) (by decide +kernel)
set_option maxRecDepth 20000 in
theorem gX7_weight_X7_weightOf : GoodIn wsX7_weight (wsV RX7 152 RX7 yX7_weightOf wsX7_weightOf) := goodIn_app (goodIn_of _ (by decide +kernel)) ggX7_weight_X7_weightOf
theorem dX7_weight_0 : decode cX7_weight 0 = .ok (.iload_n 1, 1) := by decide +kernel
theorem dX7_weight_1 : decode cX7_weight 1 = .ok (.i2l, 1) := by decide +kernel
theorem dX7_weight_2 : decode cX7_weight 2 = .ok (.lconst 0, 1) := by decide +kernel
theorem dX7_weight_3 : decode cX7_weight 3 = .ok (.aload_n 0, 1) := by decide +kernel
theorem dX7_weight_4 : decode cX7_weight 4 = .ok (.getfield 19, 3) := by decide +kernel
theorem dX7_weight_7 : decode cX7_weight 7 = .ok (.iconst 1, 1) := by decide +kernel
theorem dX7_weight_8 : decode cX7_weight 8 = .ok (.isub, 1) := by decide +kernel
theorem dX7_weight_9 : decode cX7_weight 9 = .ok (.i2l, 1) := by decide +kernel
theorem dX7_weight_10 : decode cX7_weight 10 = .ok (.invokestatic 7, 3) := by decide +kernel
theorem dX7_weight_13 : decode cX7_weight 13 = .ok (.ifCond .eq 21, 3) := by decide +kernel
theorem dX7_weight_16 : decode cX7_weight 16 = .ok (.iload_n 2, 1) := by decide +kernel
theorem dX7_weight_17 : decode cX7_weight 17 = .ok (.iload_n 3, 1) := by decide +kernel
theorem dX7_weight_18 : decode cX7_weight 18 = .ok (.invokestatic 110, 3) := by decide +kernel
theorem dX7_weight_21 : decode cX7_weight 21 = .ok (.ifCond .eq 13, 3) := by decide +kernel
theorem dX7_weight_24 : decode cX7_weight 24 = .ok (.aload_n 0, 1) := by decide +kernel
theorem dX7_weight_25 : decode cX7_weight 25 = .ok (.iload_n 1, 1) := by decide +kernel
theorem dX7_weight_26 : decode cX7_weight 26 = .ok (.iload_n 2, 1) := by decide +kernel
theorem dX7_weight_27 : decode cX7_weight 27 = .ok (.iload_n 3, 1) := by decide +kernel
theorem dX7_weight_28 : decode cX7_weight 28 = .ok (.invokevirtual 152, 3) := by decide +kernel
theorem dX7_weight_31 : decode cX7_weight 31 = .ok (.goto 5, 3) := by decide +kernel
theorem dX7_weight_34 : decode cX7_weight 34 = .ok (.bipush (-2), 2) := by decide +kernel
theorem dX7_weight_36 : decode cX7_weight 36 = .ok (.ireturn, 1) := by decide +kernel
set_option maxRecDepth 20000 in
theorem ggX7_sumOf_X7_delayOf : GoodIn wsX7_sumOf wsX7_delayOf := goodIn_r _ [7, 8, 9, 10, 11, 12, 13, 14, 6, 15, 16, 33, 34, 35, 36, 37, 38, 39, 40, 41, 42, 43, 44, 45, 46, 47, 48, 49, 50, 51, 52, 53, 54, 55, 56, 57, 58, 59, 60] (by decide +kernel) (by decide +kernel)
set_option maxRecDepth 20000 in
theorem gX7_sumOf_X7_delayOf : GoodIn wsX7_sumOf (wsV RX7 114 RX7 yX7_delayOf wsX7_delayOf) := goodIn_app (goodIn_of _ (by decide +kernel)) ggX7_sumOf_X7_delayOf
set_option maxRecDepth 20000 in
theorem ggX7_sumOf_X7_sampleAt : GoodIn wsX7_sumOf wsX7_sampleAt := goodIn_r _ [20, 21, 22, 23, 24, 6, 25, 33, 34, 35, 36, 37, 38, 39, 40, 41, 42, 43, 44, 45, 46, 47, 48, 49, 50, 51, 52, 53, 54, 55, 56, 57, 58, 59, 60] (by decide +kernel) (by decide +kernel)
set_option maxRecDepth 20000 in
theorem gX7_sumOf_X7_sampleAt : GoodIn wsX7_sumOf (wsV RX7 143 RX7 yX7_sampleAt wsX7_sampleAt) := goodIn_app (goodIn_of _ (by decide +kernel)) ggX7_sumOf_X7_sampleAt
set_option maxRecDepth 20000 in
theorem ggX7_sumOf_X7_weightOf : GoodIn wsX7_sumOf wsX7_weightOf := goodIn_r _ [29, 30, 8, 31, 32, 33, 34, 35, 36, 37, 38, 39, 40, 41, 42, 43, 44, 45, 46, 47, 48, 49, 50, 51, 52, 53, 54, 55, 56, 57, 58, 59, 60] (by decide +kernel) (by decide +kernel)
set_option maxRecDepth 20000 in
theorem gX7_sumOf_X7_weightOf : GoodIn wsX7_sumOf (wsV RX7 152 RX7 yX7_weightOf wsX7_weightOf) := goodIn_app (goodIn_of _ (by decide +kernel)) ggX7_sumOf_X7_weightOf
theorem dX7_sumOf_0 : decode cX7_sumOf 0 = .ok (.aload_n 0, 1) := by decide +kernel
theorem dX7_sumOf_1 : decode cX7_sumOf 1 = .ok (.aload_n 0, 1) := by decide +kernel
theorem dX7_sumOf_2 : decode cX7_sumOf 2 = .ok (.getfield 59, 3) := by decide +kernel
theorem dX7_sumOf_5 : decode cX7_sumOf 5 = .ok (.iload_n 1, 1) := by decide +kernel
theorem dX7_sumOf_6 : decode cX7_sumOf 6 = .ok (.iaload, 1) := by decide +kernel
theorem dX7_sumOf_7 : decode cX7_sumOf 7 = .ok (.iload_n 2, 1) := by decide +kernel
theorem dX7_sumOf_8 : decode cX7_sumOf 8 = .ok (.iload_n 3, 1) := by decide +kernel
theorem dX7_sumOf_9 : decode cX7_sumOf 9 = .ok (.invokevirtual 114, 3) := by decide +kernel
theorem dX7_sumOf_12 : decode cX7_sumOf 12 = .ok (.istore 4, 2) := by decide +kernel
theorem dX7_sumOf_14 : decode cX7_sumOf 14 = .ok (.lconst 0, 1) := by decide +kernel
theorem dX7_sumOf_15 : decode cX7_sumOf 15 = .ok (.lstore 5, 2) := by decide +kernel
theorem dX7_sumOf_17 : decode cX7_sumOf 17 = .ok (.iconst 0, 1) := by decide +kernel
theorem dX7_sumOf_18 : decode cX7_sumOf 18 = .ok (.istore 7, 2) := by decide +kernel
theorem dX7_sumOf_20 : decode cX7_sumOf 20 = .ok (.iload 7, 2) := by decide +kernel
theorem dX7_sumOf_22 : decode cX7_sumOf 22 = .ok (.aload_n 0, 1) := by decide +kernel
theorem dX7_sumOf_23 : decode cX7_sumOf 23 = .ok (.getfield 19, 3) := by decide +kernel
theorem dX7_sumOf_26 : decode cX7_sumOf 26 = .ok (.if_icmp .ge 43, 3) := by decide +kernel
theorem dX7_sumOf_29 : decode cX7_sumOf 29 = .ok (.lload 5, 2) := by decide +kernel
theorem dX7_sumOf_31 : decode cX7_sumOf 31 = .ok (.aload_n 0, 1) := by decide +kernel
theorem dX7_sumOf_32 : decode cX7_sumOf 32 = .ok (.iload_n 1, 1) := by decide +kernel
theorem dX7_sumOf_33 : decode cX7_sumOf 33 = .ok (.iload 7, 2) := by decide +kernel
theorem dX7_sumOf_35 : decode cX7_sumOf 35 = .ok (.iload 4, 2) := by decide +kernel
theorem dX7_sumOf_37 : decode cX7_sumOf 37 = .ok (.aload_n 0, 1) := by decide +kernel
theorem dX7_sumOf_38 : decode cX7_sumOf 38 = .ok (.iload 7, 2) := by decide +kernel
theorem dX7_sumOf_40 : decode cX7_sumOf 40 = .ok (.iload_n 2, 1) := by decide +kernel
theorem dX7_sumOf_41 : decode cX7_sumOf 41 = .ok (.iload_n 3, 1) := by decide +kernel
theorem dX7_sumOf_42 : decode cX7_sumOf 42 = .ok (.invokevirtual 114, 3) := by decide +kernel
theorem dX7_sumOf_45 : decode cX7_sumOf 45 = .ok (.iadd, 1) := by decide +kernel
theorem dX7_sumOf_46 : decode cX7_sumOf 46 = .ok (.invokevirtual 143, 3) := by decide +kernel
theorem dX7_sumOf_49 : decode cX7_sumOf 49 = .ok (.i2l, 1) := by decide +kernel
theorem dX7_sumOf_50 : decode cX7_sumOf 50 = .ok (.aload_n 0, 1) := by decide +kernel
theorem dX7_sumOf_51 : decode cX7_sumOf 51 = .ok (.iload 7, 2) := by decide +kernel
theorem dX7_sumOf_53 : decode cX7_sumOf 53 = .ok (.iload_n 2, 1) := by decide +kernel
theorem dX7_sumOf_54 : decode cX7_sumOf 54 = .ok (.iload_n 3, 1) := by decide +kernel
theorem dX7_sumOf_55 : decode cX7_sumOf 55 = .ok (.invokevirtual 152, 3) := by decide +kernel
theorem dX7_sumOf_58 : decode cX7_sumOf 58 = .ok (.i2l, 1) := by decide +kernel
theorem dX7_sumOf_59 : decode cX7_sumOf 59 = .ok (.lmul, 1) := by decide +kernel
theorem dX7_sumOf_60 : decode cX7_sumOf 60 = .ok (.ladd, 1) := by decide +kernel
theorem dX7_sumOf_61 : decode cX7_sumOf 61 = .ok (.lstore 5, 2) := by decide +kernel
theorem dX7_sumOf_63 : decode cX7_sumOf 63 = .ok (.iinc 7 1, 3) := by decide +kernel
theorem dX7_sumOf_66 : decode cX7_sumOf 66 = .ok (.goto (-46), 3) := by decide +kernel
theorem dX7_sumOf_69 : decode cX7_sumOf 69 = .ok (.lload 5, 2) := by decide +kernel
theorem dX7_sumOf_71 : decode cX7_sumOf 71 = .ok (.lreturn, 1) := by decide +kernel
set_option maxRecDepth 20000 in
theorem ggX7_sum_X7_isLook : GoodIn wsX7_sum wsX7_isLook := goodIn_r _ [6, 7, 8, 9, 5, 10, 49, 50, 51, 52, 53, 54, 55, 56, 57, 58, 59, 60, 61, 62, 63, 64, 65, 66, 67, 68, 69, 70, 71, 72, 73, 74, 75, 76] (by decide +kernel) (by decide +kernel)
set_option maxRecDepth 20000 in
theorem gX7_sum_X7_isLook : GoodIn wsX7_sum (wsV RX7 139 RX7 yX7_isLook wsX7_isLook) := goodIn_app (goodIn_of _ (by decide +kernel)) ggX7_sum_X7_isLook
set_option maxRecDepth 20000 in
theorem ggX7_sum_X7_isPlace : GoodIn wsX7_sum wsX7_isPlace := goodIn_r _ [13, 14, 15, 16, 8, 9, 5, 10] (by decide +kernel) (by decide +kernel)
set_option maxRecDepth 20000 in
theorem gX7_sum_X7_isPlace : GoodIn wsX7_sum (va_wsS RX7 110 yX7_isPlace wsX7_isPlace) := goodIn_app (goodIn_of _ (by decide +kernel)) ggX7_sum_X7_isPlace
set_option maxRecDepth 20000 in
theorem ggX7_sum_X7_sumOf : GoodIn wsX7_sum wsX7_sumOf := goodIn_r _ [20, 21, 22, 23, 24, 25, 5, 26, 27, 28, 29, 30, 31, 32, 33, 34, 35, 36, 37, 38, 39, 40, 41, 8, 9, 10, 42, 43, 44, 45, 46, 47, 48, 49, 50, 51, 52, 53, 54, 55, 56, 57, 58, 59, 60, 61, 62, 63, 64, 65, 66, 67, 68, 69, 70, 71, 72, 73, 74, 75, 76] (by decide +kernel) (by decide +kernel)
set_option maxRecDepth 20000 in
theorem gX7_sum_X7_sumOf : GoodIn wsX7_sum (wsV RX7 155 RX7 yX7_sumOf wsX7_sumOf) := goodIn_app (goodIn_of _ (by decide +kernel)) ggX7_sum_X7_sumOf
theorem dX7_sum_0 : decode cX7_sum 0 = .ok (.aload_n 0, 1) := by decide +kernel
theorem dX7_sum_1 : decode cX7_sum 1 = .ok (.iload_n 1, 1) := by decide +kernel
theorem dX7_sum_2 : decode cX7_sum 2 = .ok (.invokevirtual 139, 3) := by decide +kernel
theorem dX7_sum_5 : decode cX7_sum 5 = .ok (.ifCond .eq 22, 3) := by decide +kernel
theorem dX7_sum_8 : decode cX7_sum 8 = .ok (.iload_n 2, 1) := by decide +kernel
theorem dX7_sum_9 : decode cX7_sum 9 = .ok (.iload_n 3, 1) := by decide +kernel
theorem dX7_sum_10 : decode cX7_sum 10 = .ok (.invokestatic 110, 3) := by decide +kernel
theorem dX7_sum_13 : decode cX7_sum 13 = .ok (.ifCond .eq 14, 3) := by decide +kernel
theorem dX7_sum_16 : decode cX7_sum 16 = .ok (.aload_n 0, 1) := by decide +kernel
theorem dX7_sum_17 : decode cX7_sum 17 = .ok (.iload_n 1, 1) := by decide +kernel
theorem dX7_sum_18 : decode cX7_sum 18 = .ok (.iload_n 2, 1) := by decide +kernel
theorem dX7_sum_19 : decode cX7_sum 19 = .ok (.iload_n 3, 1) := by decide +kernel
theorem dX7_sum_20 : decode cX7_sum 20 = .ok (.invokevirtual 155, 3) := by decide +kernel
theorem dX7_sum_23 : decode cX7_sum 23 = .ok (.l2i, 1) := by decide +kernel
theorem dX7_sum_24 : decode cX7_sum 24 = .ok (.goto 5, 3) := by decide +kernel
theorem dX7_sum_27 : decode cX7_sum 27 = .ok (.ldc 159, 2) := by decide +kernel
theorem dX7_sum_29 : decode cX7_sum 29 = .ok (.ireturn, 1) := by decide +kernel
set_option maxRecDepth 20000 in
theorem ggX7_meanOf_X7_sumOf : GoodIn wsX7_meanOf wsX7_sumOf := goodIn_r _ [7, 8, 2, 9, 10, 11, 6, 12, 13, 14, 15, 16, 17, 18, 19, 20, 21, 22, 23, 24, 25, 26, 27, 28, 29, 30, 31, 32, 33, 34, 35, 36, 37, 38, 39, 40, 41, 42, 43, 44, 45, 46, 47, 48, 49, 50, 51, 52, 53, 54, 55, 56, 57, 58, 59, 60, 61, 62, 63, 64, 65] (by decide +kernel) (by decide +kernel)
set_option maxRecDepth 20000 in
theorem gX7_meanOf_X7_sumOf : GoodIn wsX7_meanOf (wsV RX7 155 RX7 yX7_sumOf wsX7_sumOf) := goodIn_app (goodIn_of _ (by decide +kernel)) ggX7_meanOf_X7_sumOf
set_option maxRecDepth 20000 in
theorem ggX7_meanOf_X7_weightOf : GoodIn wsX7_meanOf wsX7_weightOf := goodIn_r _ [34, 35, 13, 36, 37, 38, 39, 40, 41, 42, 43, 44, 45, 46, 47, 48, 49, 50, 51, 52, 53, 54, 55, 56, 57, 58, 59, 60, 61, 62, 63, 64, 65] (by decide +kernel) (by decide +kernel)
set_option maxRecDepth 20000 in
theorem gX7_meanOf_X7_weightOf : GoodIn wsX7_meanOf (wsV RX7 152 RX7 yX7_weightOf wsX7_weightOf) := goodIn_app (goodIn_of _ (by decide +kernel)) ggX7_meanOf_X7_weightOf
theorem dX7_meanOf_0 : decode cX7_meanOf 0 = .ok (.lconst 0, 1) := by decide +kernel
theorem dX7_meanOf_1 : decode cX7_meanOf 1 = .ok (.lstore 4, 2) := by decide +kernel
theorem dX7_meanOf_3 : decode cX7_meanOf 3 = .ok (.lconst 0, 1) := by decide +kernel
theorem dX7_meanOf_4 : decode cX7_meanOf 4 = .ok (.lstore 6, 2) := by decide +kernel
theorem dX7_meanOf_6 : decode cX7_meanOf 6 = .ok (.iconst 0, 1) := by decide +kernel
theorem dX7_meanOf_7 : decode cX7_meanOf 7 = .ok (.istore 8, 2) := by decide +kernel
theorem dX7_meanOf_9 : decode cX7_meanOf 9 = .ok (.iload 8, 2) := by decide +kernel
theorem dX7_meanOf_11 : decode cX7_meanOf 11 = .ok (.aload_n 0, 1) := by decide +kernel
theorem dX7_meanOf_12 : decode cX7_meanOf 12 = .ok (.getfield 87, 3) := by decide +kernel
theorem dX7_meanOf_15 : decode cX7_meanOf 15 = .ok (.if_icmp .ge 64, 3) := by decide +kernel
theorem dX7_meanOf_18 : decode cX7_meanOf 18 = .ok (.iload_n 1, 1) := by decide +kernel
theorem dX7_meanOf_19 : decode cX7_meanOf 19 = .ok (.iload 8, 2) := by decide +kernel
theorem dX7_meanOf_21 : decode cX7_meanOf 21 = .ok (.ishr, 1) := by decide +kernel
theorem dX7_meanOf_22 : decode cX7_meanOf 22 = .ok (.iconst 1, 1) := by decide +kernel
theorem dX7_meanOf_23 : decode cX7_meanOf 23 = .ok (.iand, 1) := by decide +kernel
theorem dX7_meanOf_24 : decode cX7_meanOf 24 = .ok (.iconst 1, 1) := by decide +kernel
theorem dX7_meanOf_25 : decode cX7_meanOf 25 = .ok (.if_icmp .ne 48, 3) := by decide +kernel
theorem dX7_meanOf_28 : decode cX7_meanOf 28 = .ok (.lload 4, 2) := by decide +kernel
theorem dX7_meanOf_30 : decode cX7_meanOf 30 = .ok (.aload_n 0, 1) := by decide +kernel
theorem dX7_meanOf_31 : decode cX7_meanOf 31 = .ok (.iload 8, 2) := by decide +kernel
theorem dX7_meanOf_33 : decode cX7_meanOf 33 = .ok (.iload_n 2, 1) := by decide +kernel
theorem dX7_meanOf_34 : decode cX7_meanOf 34 = .ok (.iload_n 3, 1) := by decide +kernel
theorem dX7_meanOf_35 : decode cX7_meanOf 35 = .ok (.invokevirtual 155, 3) := by decide +kernel
theorem dX7_meanOf_38 : decode cX7_meanOf 38 = .ok (.ladd, 1) := by decide +kernel
theorem dX7_meanOf_39 : decode cX7_meanOf 39 = .ok (.lstore 4, 2) := by decide +kernel
theorem dX7_meanOf_41 : decode cX7_meanOf 41 = .ok (.iconst 0, 1) := by decide +kernel
theorem dX7_meanOf_42 : decode cX7_meanOf 42 = .ok (.istore 9, 2) := by decide +kernel
theorem dX7_meanOf_44 : decode cX7_meanOf 44 = .ok (.iload 9, 2) := by decide +kernel
theorem dX7_meanOf_46 : decode cX7_meanOf 46 = .ok (.aload_n 0, 1) := by decide +kernel
theorem dX7_meanOf_47 : decode cX7_meanOf 47 = .ok (.getfield 19, 3) := by decide +kernel
theorem dX7_meanOf_50 : decode cX7_meanOf 50 = .ok (.if_icmp .ge 23, 3) := by decide +kernel
theorem dX7_meanOf_53 : decode cX7_meanOf 53 = .ok (.lload 6, 2) := by decide +kernel
theorem dX7_meanOf_55 : decode cX7_meanOf 55 = .ok (.aload_n 0, 1) := by decide +kernel
theorem dX7_meanOf_56 : decode cX7_meanOf 56 = .ok (.iload 9, 2) := by decide +kernel
theorem dX7_meanOf_58 : decode cX7_meanOf 58 = .ok (.iload_n 2, 1) := by decide +kernel
theorem dX7_meanOf_59 : decode cX7_meanOf 59 = .ok (.iload_n 3, 1) := by decide +kernel
theorem dX7_meanOf_60 : decode cX7_meanOf 60 = .ok (.invokevirtual 152, 3) := by decide +kernel
theorem dX7_meanOf_63 : decode cX7_meanOf 63 = .ok (.i2l, 1) := by decide +kernel
theorem dX7_meanOf_64 : decode cX7_meanOf 64 = .ok (.ladd, 1) := by decide +kernel
theorem dX7_meanOf_65 : decode cX7_meanOf 65 = .ok (.lstore 6, 2) := by decide +kernel
theorem dX7_meanOf_67 : decode cX7_meanOf 67 = .ok (.iinc 9 1, 3) := by decide +kernel
theorem dX7_meanOf_70 : decode cX7_meanOf 70 = .ok (.goto (-26), 3) := by decide +kernel
theorem dX7_meanOf_73 : decode cX7_meanOf 73 = .ok (.iinc 8 1, 3) := by decide +kernel
theorem dX7_meanOf_76 : decode cX7_meanOf 76 = .ok (.goto (-67), 3) := by decide +kernel
theorem dX7_meanOf_79 : decode cX7_meanOf 79 = .ok (.lload 6, 2) := by decide +kernel
theorem dX7_meanOf_81 : decode cX7_meanOf 81 = .ok (.lconst 0, 1) := by decide +kernel
theorem dX7_meanOf_82 : decode cX7_meanOf 82 = .ok (.lcmp, 1) := by decide +kernel
theorem dX7_meanOf_83 : decode cX7_meanOf 83 = .ok (.ifCond .ne 7, 3) := by decide +kernel
theorem dX7_meanOf_86 : decode cX7_meanOf 86 = .ok (.iconst 0, 1) := by decide +kernel
theorem dX7_meanOf_87 : decode cX7_meanOf 87 = .ok (.goto 9, 3) := by decide +kernel
theorem dX7_meanOf_90 : decode cX7_meanOf 90 = .ok (.lload 4, 2) := by decide +kernel
theorem dX7_meanOf_92 : decode cX7_meanOf 92 = .ok (.lload 6, 2) := by decide +kernel
theorem dX7_meanOf_94 : decode cX7_meanOf 94 = .ok (.ldiv, 1) := by decide +kernel
theorem dX7_meanOf_95 : decode cX7_meanOf 95 = .ok (.l2i, 1) := by decide +kernel
theorem dX7_meanOf_96 : decode cX7_meanOf 96 = .ok (.ireturn, 1) := by decide +kernel
theorem dX7_areLooks_0 : decode cX7_areLooks 0 = .ok (.iload_n 1, 1) := by decide +kernel
theorem dX7_areLooks_1 : decode cX7_areLooks 1 = .ok (.ifCond .le 17, 3) := by decide +kernel
theorem dX7_areLooks_4 : decode cX7_areLooks 4 = .ok (.iload_n 1, 1) := by decide +kernel
theorem dX7_areLooks_5 : decode cX7_areLooks 5 = .ok (.iconst 1, 1) := by decide +kernel
theorem dX7_areLooks_6 : decode cX7_areLooks 6 = .ok (.aload_n 0, 1) := by decide +kernel
theorem dX7_areLooks_7 : decode cX7_areLooks 7 = .ok (.getfield 87, 3) := by decide +kernel
theorem dX7_areLooks_10 : decode cX7_areLooks 10 = .ok (.ishl, 1) := by decide +kernel
theorem dX7_areLooks_11 : decode cX7_areLooks 11 = .ok (.if_icmp .ge 7, 3) := by decide +kernel
theorem dX7_areLooks_14 : decode cX7_areLooks 14 = .ok (.iconst 1, 1) := by decide +kernel
theorem dX7_areLooks_15 : decode cX7_areLooks 15 = .ok (.goto 4, 3) := by decide +kernel
theorem dX7_areLooks_18 : decode cX7_areLooks 18 = .ok (.iconst 0, 1) := by decide +kernel
theorem dX7_areLooks_19 : decode cX7_areLooks 19 = .ok (.ireturn, 1) := by decide +kernel
set_option maxRecDepth 20000 in
theorem ggX7_mean_X7_areLooks : GoodIn wsX7_mean wsX7_areLooks := goodIn_r _ [6, 7, 53, 54, 55, 56, 57, 58, 59, 60, 61, 62, 63, 64, 65, 66, 67, 68, 69, 70, 71, 72, 73, 74, 75, 76, 77, 78, 79, 80] (by decide +kernel) (by decide +kernel)
set_option maxRecDepth 20000 in
theorem gX7_mean_X7_areLooks : GoodIn wsX7_mean (wsV RX7 160 RX7 yX7_areLooks wsX7_areLooks) := goodIn_app (goodIn_of _ (by decide +kernel)) ggX7_mean_X7_areLooks
set_option maxRecDepth 20000 in
theorem ggX7_mean_X7_isPlace : GoodIn wsX7_mean wsX7_isPlace := goodIn_r _ [10, 11, 12, 13, 14, 15, 5, 16] (by decide +kernel) (by decide +kernel)
set_option maxRecDepth 20000 in
theorem gX7_mean_X7_isPlace : GoodIn wsX7_mean (va_wsS RX7 110 yX7_isPlace wsX7_isPlace) := goodIn_app (goodIn_of _ (by decide +kernel)) ggX7_mean_X7_isPlace
set_option maxRecDepth 20000 in
theorem ggX7_mean_X7_meanOf : GoodIn wsX7_mean wsX7_meanOf := goodIn_r _ [20, 7, 21, 22, 23, 24, 5, 25, 26, 27, 28, 29, 30, 31, 32, 33, 34, 35, 36, 37, 38, 39, 40, 41, 42, 43, 44, 45, 14, 15, 16, 46, 47, 48, 49, 50, 51, 52, 53, 54, 55, 56, 57, 58, 59, 60, 61, 62, 63, 64, 65, 66, 67, 68, 69, 70, 71, 72, 73, 74, 75, 76, 77, 78, 79, 80] (by decide +kernel) (by decide +kernel)
set_option maxRecDepth 20000 in
theorem gX7_mean_X7_meanOf : GoodIn wsX7_mean (wsV RX7 163 RX7 yX7_meanOf wsX7_meanOf) := goodIn_app (goodIn_of _ (by decide +kernel)) ggX7_mean_X7_meanOf
theorem dX7_mean_0 : decode cX7_mean 0 = .ok (.aload_n 0, 1) := by decide +kernel
theorem dX7_mean_1 : decode cX7_mean 1 = .ok (.iload_n 1, 1) := by decide +kernel
theorem dX7_mean_2 : decode cX7_mean 2 = .ok (.invokevirtual 160, 3) := by decide +kernel
theorem dX7_mean_5 : decode cX7_mean 5 = .ok (.ifCond .eq 21, 3) := by decide +kernel
theorem dX7_mean_8 : decode cX7_mean 8 = .ok (.iload_n 2, 1) := by decide +kernel
theorem dX7_mean_9 : decode cX7_mean 9 = .ok (.iload_n 3, 1) := by decide +kernel
theorem dX7_mean_10 : decode cX7_mean 10 = .ok (.invokestatic 110, 3) := by decide +kernel
theorem dX7_mean_13 : decode cX7_mean 13 = .ok (.ifCond .eq 13, 3) := by decide +kernel
theorem dX7_mean_16 : decode cX7_mean 16 = .ok (.aload_n 0, 1) := by decide +kernel
theorem dX7_mean_17 : decode cX7_mean 17 = .ok (.iload_n 1, 1) := by decide +kernel
theorem dX7_mean_18 : decode cX7_mean 18 = .ok (.iload_n 2, 1) := by decide +kernel
theorem dX7_mean_19 : decode cX7_mean 19 = .ok (.iload_n 3, 1) := by decide +kernel
theorem dX7_mean_20 : decode cX7_mean 20 = .ok (.invokevirtual 163, 3) := by decide +kernel
theorem dX7_mean_23 : decode cX7_mean 23 = .ok (.goto 5, 3) := by decide +kernel
theorem dX7_mean_26 : decode cX7_mean 26 = .ok (.ldc 159, 2) := by decide +kernel
theorem dX7_mean_28 : decode cX7_mean 28 = .ok (.ireturn, 1) := by decide +kernel
theorem dX7_next_0 : decode cX7_next 0 = .ok (.aload_n 0, 1) := by decide +kernel
theorem dX7_next_1 : decode cX7_next 1 = .ok (.getfield 90, 3) := by decide +kernel
theorem dX7_next_4 : decode cX7_next 4 = .ok (.iconst 4, 1) := by decide +kernel
theorem dX7_next_5 : decode cX7_next 5 = .ok (.if_icmp .ne 87, 3) := by decide +kernel
theorem dX7_next_8 : decode cX7_next 8 = .ok (.sipush 256, 3) := by decide +kernel
theorem dX7_next_11 : decode cX7_next 11 = .ok (.istore_n 1, 1) := by decide +kernel
theorem dX7_next_12 : decode cX7_next 12 = .ok (.iload_n 1, 1) := by decide +kernel
theorem dX7_next_13 : decode cX7_next 13 = .ok (.sipush 1024, 3) := by decide +kernel
theorem dX7_next_16 : decode cX7_next 16 = .ok (.if_icmp .ge 25, 3) := by decide +kernel
theorem dX7_next_19 : decode cX7_next 19 = .ok (.aload_n 0, 1) := by decide +kernel
theorem dX7_next_20 : decode cX7_next 20 = .ok (.getfield 72, 3) := by decide +kernel
theorem dX7_next_23 : decode cX7_next 23 = .ok (.iload_n 1, 1) := by decide +kernel
theorem dX7_next_24 : decode cX7_next 24 = .ok (.sipush 256, 3) := by decide +kernel
theorem dX7_next_27 : decode cX7_next 27 = .ok (.isub, 1) := by decide +kernel
theorem dX7_next_28 : decode cX7_next 28 = .ok (.aload_n 0, 1) := by decide +kernel
theorem dX7_next_29 : decode cX7_next 29 = .ok (.getfield 72, 3) := by decide +kernel
theorem dX7_next_32 : decode cX7_next 32 = .ok (.iload_n 1, 1) := by decide +kernel
theorem dX7_next_33 : decode cX7_next 33 = .ok (.iaload, 1) := by decide +kernel
theorem dX7_next_34 : decode cX7_next 34 = .ok (.iastore, 1) := by decide +kernel
theorem dX7_next_35 : decode cX7_next 35 = .ok (.iinc 1 1, 3) := by decide +kernel
theorem dX7_next_38 : decode cX7_next 38 = .ok (.goto (-26), 3) := by decide +kernel
theorem dX7_next_41 : decode cX7_next 41 = .ok (.iconst 1, 1) := by decide +kernel
theorem dX7_next_42 : decode cX7_next 42 = .ok (.istore_n 1, 1) := by decide +kernel
theorem dX7_next_43 : decode cX7_next 43 = .ok (.iload_n 1, 1) := by decide +kernel
theorem dX7_next_44 : decode cX7_next 44 = .ok (.iconst 4, 1) := by decide +kernel
theorem dX7_next_45 : decode cX7_next 45 = .ok (.if_icmp .ge 37, 3) := by decide +kernel
theorem dX7_next_48 : decode cX7_next 48 = .ok (.aload_n 0, 1) := by decide +kernel
theorem dX7_next_49 : decode cX7_next 49 = .ok (.getfield 66, 3) := by decide +kernel
theorem dX7_next_52 : decode cX7_next 52 = .ok (.iload_n 1, 1) := by decide +kernel
theorem dX7_next_53 : decode cX7_next 53 = .ok (.iconst 1, 1) := by decide +kernel
theorem dX7_next_54 : decode cX7_next 54 = .ok (.isub, 1) := by decide +kernel
theorem dX7_next_55 : decode cX7_next 55 = .ok (.aload_n 0, 1) := by decide +kernel
theorem dX7_next_56 : decode cX7_next 56 = .ok (.getfield 66, 3) := by decide +kernel
theorem dX7_next_59 : decode cX7_next 59 = .ok (.iload_n 1, 1) := by decide +kernel
theorem dX7_next_60 : decode cX7_next 60 = .ok (.iaload, 1) := by decide +kernel
theorem dX7_next_61 : decode cX7_next 61 = .ok (.iastore, 1) := by decide +kernel
theorem dX7_next_62 : decode cX7_next 62 = .ok (.aload_n 0, 1) := by decide +kernel
theorem dX7_next_63 : decode cX7_next 63 = .ok (.getfield 69, 3) := by decide +kernel
theorem dX7_next_66 : decode cX7_next 66 = .ok (.iload_n 1, 1) := by decide +kernel
theorem dX7_next_67 : decode cX7_next 67 = .ok (.iconst 1, 1) := by decide +kernel
theorem dX7_next_68 : decode cX7_next 68 = .ok (.isub, 1) := by decide +kernel
theorem dX7_next_69 : decode cX7_next 69 = .ok (.aload_n 0, 1) := by decide +kernel
theorem dX7_next_70 : decode cX7_next 70 = .ok (.getfield 69, 3) := by decide +kernel
theorem dX7_next_73 : decode cX7_next 73 = .ok (.iload_n 1, 1) := by decide +kernel
theorem dX7_next_74 : decode cX7_next 74 = .ok (.iaload, 1) := by decide +kernel
theorem dX7_next_75 : decode cX7_next 75 = .ok (.iastore, 1) := by decide +kernel
theorem dX7_next_76 : decode cX7_next 76 = .ok (.iinc 1 1, 3) := by decide +kernel
theorem dX7_next_79 : decode cX7_next 79 = .ok (.goto (-36), 3) := by decide +kernel
theorem dX7_next_82 : decode cX7_next 82 = .ok (.aload_n 0, 1) := by decide +kernel
theorem dX7_next_83 : decode cX7_next 83 = .ok (.dup, 1) := by decide +kernel
theorem dX7_next_84 : decode cX7_next 84 = .ok (.getfield 90, 3) := by decide +kernel
theorem dX7_next_87 : decode cX7_next 87 = .ok (.iconst 1, 1) := by decide +kernel
theorem dX7_next_88 : decode cX7_next 88 = .ok (.isub, 1) := by decide +kernel
theorem dX7_next_89 : decode cX7_next 89 = .ok (.putfield 90, 3) := by decide +kernel
theorem dX7_next_92 : decode cX7_next 92 = .ok (.aload_n 0, 1) := by decide +kernel
theorem dX7_next_93 : decode cX7_next 93 = .ok (.dup, 1) := by decide +kernel
theorem dX7_next_94 : decode cX7_next 94 = .ok (.getfield 90, 3) := by decide +kernel
theorem dX7_next_97 : decode cX7_next 97 = .ok (.iconst 1, 1) := by decide +kernel
theorem dX7_next_98 : decode cX7_next 98 = .ok (.iadd, 1) := by decide +kernel
theorem dX7_next_99 : decode cX7_next 99 = .ok (.putfield 90, 3) := by decide +kernel
theorem dX7_next_102 : decode cX7_next 102 = .ok (.aload_n 0, 1) := by decide +kernel
theorem dX7_next_103 : decode cX7_next 103 = .ok (.getfield 90, 3) := by decide +kernel
theorem dX7_next_106 : decode cX7_next 106 = .ok (.iconst 1, 1) := by decide +kernel
theorem dX7_next_107 : decode cX7_next 107 = .ok (.isub, 1) := by decide +kernel
theorem dX7_next_108 : decode cX7_next 108 = .ok (.ireturn, 1) := by decide +kernel
set_option maxRecDepth 20000 in
theorem ggX7_picture_X7_areLooks : GoodIn wsX7_picture wsX7_areLooks := goodIn_r _ [11, 12, 62, 63, 64, 65, 66, 67, 68, 69, 70, 71, 72, 73, 74, 75, 76, 77, 78, 79, 80, 81, 82, 83, 84, 85, 86, 87, 88, 89] (by decide +kernel) (by decide +kernel)
set_option maxRecDepth 20000 in
theorem gX7_picture_X7_areLooks : GoodIn wsX7_picture (wsV RX7 160 RX7 yX7_areLooks wsX7_areLooks) := goodIn_app (goodIn_of _ (by decide +kernel)) ggX7_picture_X7_areLooks
set_option maxRecDepth 20000 in
theorem ggX7_picture_X7_isPlace : GoodIn wsX7_picture wsX7_isPlace := goodIn_r _ [15, 16, 17, 18, 19, 20, 10, 21] (by decide +kernel) (by decide +kernel)
set_option maxRecDepth 20000 in
theorem gX7_picture_X7_isPlace : GoodIn wsX7_picture (va_wsS RX7 110 yX7_isPlace wsX7_isPlace) := goodIn_app (goodIn_of _ (by decide +kernel)) ggX7_picture_X7_isPlace
set_option maxRecDepth 20000 in
theorem ggX7_picture_X7_in : GoodIn wsX7_picture wsX7_in := goodIn_r _ [21] (by decide +kernel) (by decide +kernel)
set_option maxRecDepth 20000 in
theorem gX7_picture_X7_in : GoodIn wsX7_picture (va_wsS RX7 7 yX7_in wsX7_in) := goodIn_app (goodIn_of _ (by decide +kernel)) ggX7_picture_X7_in
set_option maxRecDepth 20000 in
theorem ggX7_picture_X7_next : GoodIn wsX7_picture wsX7_next := goodIn_r _ [25, 6, 5, 3, 4, 62, 63, 64, 65, 66, 67, 68, 69, 70, 71, 72, 73, 74, 75, 76, 77, 78, 79, 80, 81, 82, 83, 84, 85, 86, 87, 88, 89] (by decide +kernel) (by decide +kernel)
set_option maxRecDepth 20000 in
theorem gX7_picture_X7_next : GoodIn wsX7_picture (wsV RX7 168 RX7 yX7_next wsX7_next) := goodIn_app (goodIn_of _ (by decide +kernel)) ggX7_picture_X7_next
set_option maxRecDepth 20000 in
theorem ggX7_picture_X7_meanOf : GoodIn wsX7_picture wsX7_meanOf := goodIn_r _ [29, 12, 30, 31, 32, 33, 10, 34, 35, 36, 37, 38, 39, 40, 41, 42, 43, 44, 45, 46, 47, 48, 49, 50, 51, 52, 53, 54, 19, 20, 21, 55, 56, 57, 58, 59, 60, 61, 62, 63, 64, 65, 66, 67, 68, 69, 70, 71, 72, 73, 74, 75, 76, 77, 78, 79, 80, 81, 82, 83, 84, 85, 86, 87, 88, 89] (by decide +kernel) (by decide +kernel)
set_option maxRecDepth 20000 in
theorem gX7_picture_X7_meanOf : GoodIn wsX7_picture (wsV RX7 163 RX7 yX7_meanOf wsX7_meanOf) := goodIn_app (goodIn_of _ (by decide +kernel)) ggX7_picture_X7_meanOf
theorem dX7_picture_0 : decode cX7_picture 0 = .ok (.aload_n 0, 1) := by decide +kernel
theorem dX7_picture_1 : decode cX7_picture 1 = .ok (.iload_n 1, 1) := by decide +kernel
theorem dX7_picture_2 : decode cX7_picture 2 = .ok (.invokevirtual 160, 3) := by decide +kernel
theorem dX7_picture_5 : decode cX7_picture 5 = .ok (.ifCond .eq 63, 3) := by decide +kernel
theorem dX7_picture_8 : decode cX7_picture 8 = .ok (.iload_n 2, 1) := by decide +kernel
theorem dX7_picture_9 : decode cX7_picture 9 = .ok (.iload_n 3, 1) := by decide +kernel
theorem dX7_picture_10 : decode cX7_picture 10 = .ok (.invokestatic 110, 3) := by decide +kernel
theorem dX7_picture_13 : decode cX7_picture 13 = .ok (.ifCond .eq 55, 3) := by decide +kernel
theorem dX7_picture_16 : decode cX7_picture 16 = .ok (.iload 4, 2) := by decide +kernel
theorem dX7_picture_18 : decode cX7_picture 18 = .ok (.i2l, 1) := by decide +kernel
theorem dX7_picture_19 : decode cX7_picture 19 = .ok (.lconst 1, 1) := by decide +kernel
theorem dX7_picture_20 : decode cX7_picture 20 = .ok (.ldc2_w 166, 3) := by decide +kernel
theorem dX7_picture_23 : decode cX7_picture 23 = .ok (.invokestatic 7, 3) := by decide +kernel
theorem dX7_picture_26 : decode cX7_picture 26 = .ok (.ifCond .eq 42, 3) := by decide +kernel
theorem dX7_picture_29 : decode cX7_picture 29 = .ok (.iload 5, 2) := by decide +kernel
theorem dX7_picture_31 : decode cX7_picture 31 = .ok (.i2l, 1) := by decide +kernel
theorem dX7_picture_32 : decode cX7_picture 32 = .ok (.lconst 1, 1) := by decide +kernel
theorem dX7_picture_33 : decode cX7_picture 33 = .ok (.ldc2_w 166, 3) := by decide +kernel
theorem dX7_picture_36 : decode cX7_picture 36 = .ok (.invokestatic 7, 3) := by decide +kernel
theorem dX7_picture_39 : decode cX7_picture 39 = .ok (.ifCond .eq 29, 3) := by decide +kernel
theorem dX7_picture_42 : decode cX7_picture 42 = .ok (.iload 6, 2) := by decide +kernel
theorem dX7_picture_44 : decode cX7_picture 44 = .ok (.i2l, 1) := by decide +kernel
theorem dX7_picture_45 : decode cX7_picture 45 = .ok (.lconst 1, 1) := by decide +kernel
theorem dX7_picture_46 : decode cX7_picture 46 = .ok (.ldc2_w 83, 3) := by decide +kernel
theorem dX7_picture_49 : decode cX7_picture 49 = .ok (.invokestatic 7, 3) := by decide +kernel
theorem dX7_picture_52 : decode cX7_picture 52 = .ok (.ifCond .eq 16, 3) := by decide +kernel
theorem dX7_picture_55 : decode cX7_picture 55 = .ok (.iload 7, 2) := by decide +kernel
theorem dX7_picture_57 : decode cX7_picture 57 = .ok (.i2l, 1) := by decide +kernel
theorem dX7_picture_58 : decode cX7_picture 58 = .ok (.lconst 1, 1) := by decide +kernel
theorem dX7_picture_59 : decode cX7_picture 59 = .ok (.ldc2_w 83, 3) := by decide +kernel
theorem dX7_picture_62 : decode cX7_picture 62 = .ok (.invokestatic 7, 3) := by decide +kernel
theorem dX7_picture_65 : decode cX7_picture 65 = .ok (.ifCond .ne 6, 3) := by decide +kernel
theorem dX7_picture_68 : decode cX7_picture 68 = .ok (.bipush (-2), 2) := by decide +kernel
theorem dX7_picture_70 : decode cX7_picture 70 = .ok (.ireturn, 1) := by decide +kernel
theorem dX7_picture_71 : decode cX7_picture 71 = .ok (.aload_n 0, 1) := by decide +kernel
theorem dX7_picture_72 : decode cX7_picture 72 = .ok (.invokevirtual 168, 3) := by decide +kernel
theorem dX7_picture_75 : decode cX7_picture 75 = .ok (.istore 8, 2) := by decide +kernel
theorem dX7_picture_77 : decode cX7_picture 77 = .ok (.aload_n 0, 1) := by decide +kernel
theorem dX7_picture_78 : decode cX7_picture 78 = .ok (.getfield 66, 3) := by decide +kernel
theorem dX7_picture_81 : decode cX7_picture 81 = .ok (.iload 8, 2) := by decide +kernel
theorem dX7_picture_83 : decode cX7_picture 83 = .ok (.iload 6, 2) := by decide +kernel
theorem dX7_picture_85 : decode cX7_picture 85 = .ok (.iastore, 1) := by decide +kernel
theorem dX7_picture_86 : decode cX7_picture 86 = .ok (.aload_n 0, 1) := by decide +kernel
theorem dX7_picture_87 : decode cX7_picture 87 = .ok (.getfield 69, 3) := by decide +kernel
theorem dX7_picture_90 : decode cX7_picture 90 = .ok (.iload 8, 2) := by decide +kernel
theorem dX7_picture_92 : decode cX7_picture 92 = .ok (.iload 7, 2) := by decide +kernel
theorem dX7_picture_94 : decode cX7_picture 94 = .ok (.iastore, 1) := by decide +kernel
theorem dX7_picture_95 : decode cX7_picture 95 = .ok (.iconst 0, 1) := by decide +kernel
theorem dX7_picture_96 : decode cX7_picture 96 = .ok (.istore 9, 2) := by decide +kernel
theorem dX7_picture_98 : decode cX7_picture 98 = .ok (.iload 9, 2) := by decide +kernel
theorem dX7_picture_100 : decode cX7_picture 100 = .ok (.iload 7, 2) := by decide +kernel
theorem dX7_picture_102 : decode cX7_picture 102 = .ok (.if_icmp .ge 86, 3) := by decide +kernel
theorem dX7_picture_105 : decode cX7_picture 105 = .ok (.iconst 0, 1) := by decide +kernel
theorem dX7_picture_106 : decode cX7_picture 106 = .ok (.istore 10, 2) := by decide +kernel
theorem dX7_picture_108 : decode cX7_picture 108 = .ok (.iload 10, 2) := by decide +kernel
theorem dX7_picture_110 : decode cX7_picture 110 = .ok (.iload 6, 2) := by decide +kernel
theorem dX7_picture_112 : decode cX7_picture 112 = .ok (.if_icmp .ge 70, 3) := by decide +kernel
theorem dX7_picture_115 : decode cX7_picture 115 = .ok (.iload_n 2, 1) := by decide +kernel
theorem dX7_picture_116 : decode cX7_picture 116 = .ok (.iload 10, 2) := by decide +kernel
theorem dX7_picture_118 : decode cX7_picture 118 = .ok (.iload 4, 2) := by decide +kernel
theorem dX7_picture_120 : decode cX7_picture 120 = .ok (.imul, 1) := by decide +kernel
theorem dX7_picture_121 : decode cX7_picture 121 = .ok (.iadd, 1) := by decide +kernel
theorem dX7_picture_122 : decode cX7_picture 122 = .ok (.istore 11, 2) := by decide +kernel
theorem dX7_picture_124 : decode cX7_picture 124 = .ok (.iload_n 3, 1) := by decide +kernel
theorem dX7_picture_125 : decode cX7_picture 125 = .ok (.iload 9, 2) := by decide +kernel
theorem dX7_picture_127 : decode cX7_picture 127 = .ok (.iload 5, 2) := by decide +kernel
theorem dX7_picture_129 : decode cX7_picture 129 = .ok (.imul, 1) := by decide +kernel
theorem dX7_picture_130 : decode cX7_picture 130 = .ok (.iadd, 1) := by decide +kernel
theorem dX7_picture_131 : decode cX7_picture 131 = .ok (.istore 12, 2) := by decide +kernel
theorem dX7_picture_133 : decode cX7_picture 133 = .ok (.aload_n 0, 1) := by decide +kernel
theorem dX7_picture_134 : decode cX7_picture 134 = .ok (.getfield 72, 3) := by decide +kernel
theorem dX7_picture_137 : decode cX7_picture 137 = .ok (.sipush 256, 3) := by decide +kernel
theorem dX7_picture_140 : decode cX7_picture 140 = .ok (.iload 8, 2) := by decide +kernel
theorem dX7_picture_142 : decode cX7_picture 142 = .ok (.imul, 1) := by decide +kernel
theorem dX7_picture_143 : decode cX7_picture 143 = .ok (.iload 10, 2) := by decide +kernel
theorem dX7_picture_145 : decode cX7_picture 145 = .ok (.iadd, 1) := by decide +kernel
theorem dX7_picture_146 : decode cX7_picture 146 = .ok (.iload 6, 2) := by decide +kernel
theorem dX7_picture_148 : decode cX7_picture 148 = .ok (.iload 9, 2) := by decide +kernel
theorem dX7_picture_150 : decode cX7_picture 150 = .ok (.imul, 1) := by decide +kernel
theorem dX7_picture_151 : decode cX7_picture 151 = .ok (.iadd, 1) := by decide +kernel
theorem dX7_picture_152 : decode cX7_picture 152 = .ok (.iload 11, 2) := by decide +kernel
theorem dX7_picture_154 : decode cX7_picture 154 = .ok (.iload 12, 2) := by decide +kernel
theorem dX7_picture_156 : decode cX7_picture 156 = .ok (.invokestatic 110, 3) := by decide +kernel
theorem dX7_picture_159 : decode cX7_picture 159 = .ok (.ifCond .eq 15, 3) := by decide +kernel
theorem dX7_picture_162 : decode cX7_picture 162 = .ok (.aload_n 0, 1) := by decide +kernel
theorem dX7_picture_163 : decode cX7_picture 163 = .ok (.iload_n 1, 1) := by decide +kernel
theorem dX7_picture_164 : decode cX7_picture 164 = .ok (.iload 11, 2) := by decide +kernel
theorem dX7_picture_166 : decode cX7_picture 166 = .ok (.iload 12, 2) := by decide +kernel
theorem dX7_picture_168 : decode cX7_picture 168 = .ok (.invokevirtual 163, 3) := by decide +kernel
theorem dX7_picture_171 : decode cX7_picture 171 = .ok (.goto 4, 3) := by decide +kernel
theorem dX7_picture_174 : decode cX7_picture 174 = .ok (.iconst 0, 1) := by decide +kernel
theorem dX7_picture_175 : decode cX7_picture 175 = .ok (.iastore, 1) := by decide +kernel
theorem dX7_picture_176 : decode cX7_picture 176 = .ok (.iinc 10 1, 3) := by decide +kernel
theorem dX7_picture_179 : decode cX7_picture 179 = .ok (.goto (-71), 3) := by decide +kernel
theorem dX7_picture_182 : decode cX7_picture 182 = .ok (.iinc 9 1, 3) := by decide +kernel
theorem dX7_picture_185 : decode cX7_picture 185 = .ok (.goto (-87), 3) := by decide +kernel
theorem dX7_picture_188 : decode cX7_picture 188 = .ok (.aload_n 0, 1) := by decide +kernel
theorem dX7_picture_189 : decode cX7_picture 189 = .ok (.getfield 90, 3) := by decide +kernel
theorem dX7_picture_192 : decode cX7_picture 192 = .ok (.ireturn, 1) := by decide +kernel
set_option maxRecDepth 20000 in
theorem ggX7_isPicture_X7_in : GoodIn wsX7_isPicture wsX7_in := goodIn_r _ [5] (by decide +kernel) (by decide +kernel)
set_option maxRecDepth 20000 in
theorem gX7_isPicture_X7_in : GoodIn wsX7_isPicture (va_wsS RX7 7 yX7_in wsX7_in) := goodIn_app (goodIn_of _ (by decide +kernel)) ggX7_isPicture_X7_in
theorem dX7_isPicture_0 : decode cX7_isPicture 0 = .ok (.iload_n 1, 1) := by decide +kernel
theorem dX7_isPicture_1 : decode cX7_isPicture 1 = .ok (.i2l, 1) := by decide +kernel
theorem dX7_isPicture_2 : decode cX7_isPicture 2 = .ok (.lconst 0, 1) := by decide +kernel
theorem dX7_isPicture_3 : decode cX7_isPicture 3 = .ok (.aload_n 0, 1) := by decide +kernel
theorem dX7_isPicture_4 : decode cX7_isPicture 4 = .ok (.getfield 90, 3) := by decide +kernel
theorem dX7_isPicture_7 : decode cX7_isPicture 7 = .ok (.iconst 1, 1) := by decide +kernel
theorem dX7_isPicture_8 : decode cX7_isPicture 8 = .ok (.isub, 1) := by decide +kernel
theorem dX7_isPicture_9 : decode cX7_isPicture 9 = .ok (.i2l, 1) := by decide +kernel
theorem dX7_isPicture_10 : decode cX7_isPicture 10 = .ok (.invokestatic 7, 3) := by decide +kernel
theorem dX7_isPicture_13 : decode cX7_isPicture 13 = .ok (.ireturn, 1) := by decide +kernel
set_option maxRecDepth 20000 in
theorem ggX7_pixel_X7_isPicture : GoodIn wsX7_pixel wsX7_isPicture := goodIn_r _ [9, 10, 11, 12, 8, 13, 14, 15, 16, 17, 18, 19, 20, 21, 22, 23, 24, 25, 26, 27, 28, 29, 30, 31, 32, 33, 34, 35, 36, 37, 38, 39, 40, 41] (by decide +kernel) (by decide +kernel)
set_option maxRecDepth 20000 in
theorem gX7_pixel_X7_isPicture : GoodIn wsX7_pixel (wsV RX7 171 RX7 yX7_isPicture wsX7_isPicture) := goodIn_app (goodIn_of _ (by decide +kernel)) ggX7_pixel_X7_isPicture
set_option maxRecDepth 20000 in
theorem ggX7_pixel_X7_in : GoodIn wsX7_pixel wsX7_in := goodIn_r _ [13] (by decide +kernel) (by decide +kernel)
set_option maxRecDepth 20000 in
theorem gX7_pixel_X7_in : GoodIn wsX7_pixel (va_wsS RX7 7 yX7_in wsX7_in) := goodIn_app (goodIn_of _ (by decide +kernel)) ggX7_pixel_X7_in
theorem dX7_pixel_0 : decode cX7_pixel 0 = .ok (.aload_n 0, 1) := by decide +kernel
theorem dX7_pixel_1 : decode cX7_pixel 1 = .ok (.iload_n 1, 1) := by decide +kernel
theorem dX7_pixel_2 : decode cX7_pixel 2 = .ok (.invokevirtual 171, 3) := by decide +kernel
theorem dX7_pixel_5 : decode cX7_pixel 5 = .ok (.ifCond .eq 63, 3) := by decide +kernel
theorem dX7_pixel_8 : decode cX7_pixel 8 = .ok (.iload_n 2, 1) := by decide +kernel
theorem dX7_pixel_9 : decode cX7_pixel 9 = .ok (.i2l, 1) := by decide +kernel
theorem dX7_pixel_10 : decode cX7_pixel 10 = .ok (.lconst 0, 1) := by decide +kernel
theorem dX7_pixel_11 : decode cX7_pixel 11 = .ok (.aload_n 0, 1) := by decide +kernel
theorem dX7_pixel_12 : decode cX7_pixel 12 = .ok (.getfield 66, 3) := by decide +kernel
theorem dX7_pixel_15 : decode cX7_pixel 15 = .ok (.iload_n 1, 1) := by decide +kernel
theorem dX7_pixel_16 : decode cX7_pixel 16 = .ok (.iaload, 1) := by decide +kernel
theorem dX7_pixel_17 : decode cX7_pixel 17 = .ok (.iconst 1, 1) := by decide +kernel
theorem dX7_pixel_18 : decode cX7_pixel 18 = .ok (.isub, 1) := by decide +kernel
theorem dX7_pixel_19 : decode cX7_pixel 19 = .ok (.i2l, 1) := by decide +kernel
theorem dX7_pixel_20 : decode cX7_pixel 20 = .ok (.invokestatic 7, 3) := by decide +kernel
theorem dX7_pixel_23 : decode cX7_pixel 23 = .ok (.ifCond .eq 45, 3) := by decide +kernel
theorem dX7_pixel_26 : decode cX7_pixel 26 = .ok (.iload_n 3, 1) := by decide +kernel
theorem dX7_pixel_27 : decode cX7_pixel 27 = .ok (.i2l, 1) := by decide +kernel
theorem dX7_pixel_28 : decode cX7_pixel 28 = .ok (.lconst 0, 1) := by decide +kernel
theorem dX7_pixel_29 : decode cX7_pixel 29 = .ok (.aload_n 0, 1) := by decide +kernel
theorem dX7_pixel_30 : decode cX7_pixel 30 = .ok (.getfield 69, 3) := by decide +kernel
theorem dX7_pixel_33 : decode cX7_pixel 33 = .ok (.iload_n 1, 1) := by decide +kernel
theorem dX7_pixel_34 : decode cX7_pixel 34 = .ok (.iaload, 1) := by decide +kernel
theorem dX7_pixel_35 : decode cX7_pixel 35 = .ok (.iconst 1, 1) := by decide +kernel
theorem dX7_pixel_36 : decode cX7_pixel 36 = .ok (.isub, 1) := by decide +kernel
theorem dX7_pixel_37 : decode cX7_pixel 37 = .ok (.i2l, 1) := by decide +kernel
theorem dX7_pixel_38 : decode cX7_pixel 38 = .ok (.invokestatic 7, 3) := by decide +kernel
theorem dX7_pixel_41 : decode cX7_pixel 41 = .ok (.ifCond .eq 27, 3) := by decide +kernel
theorem dX7_pixel_44 : decode cX7_pixel 44 = .ok (.aload_n 0, 1) := by decide +kernel
theorem dX7_pixel_45 : decode cX7_pixel 45 = .ok (.getfield 72, 3) := by decide +kernel
theorem dX7_pixel_48 : decode cX7_pixel 48 = .ok (.sipush 256, 3) := by decide +kernel
theorem dX7_pixel_51 : decode cX7_pixel 51 = .ok (.iload_n 1, 1) := by decide +kernel
theorem dX7_pixel_52 : decode cX7_pixel 52 = .ok (.imul, 1) := by decide +kernel
theorem dX7_pixel_53 : decode cX7_pixel 53 = .ok (.iload_n 2, 1) := by decide +kernel
theorem dX7_pixel_54 : decode cX7_pixel 54 = .ok (.iadd, 1) := by decide +kernel
theorem dX7_pixel_55 : decode cX7_pixel 55 = .ok (.aload_n 0, 1) := by decide +kernel
theorem dX7_pixel_56 : decode cX7_pixel 56 = .ok (.getfield 66, 3) := by decide +kernel
theorem dX7_pixel_59 : decode cX7_pixel 59 = .ok (.iload_n 1, 1) := by decide +kernel
theorem dX7_pixel_60 : decode cX7_pixel 60 = .ok (.iaload, 1) := by decide +kernel
theorem dX7_pixel_61 : decode cX7_pixel 61 = .ok (.iload_n 3, 1) := by decide +kernel
theorem dX7_pixel_62 : decode cX7_pixel 62 = .ok (.imul, 1) := by decide +kernel
theorem dX7_pixel_63 : decode cX7_pixel 63 = .ok (.iadd, 1) := by decide +kernel
theorem dX7_pixel_64 : decode cX7_pixel 64 = .ok (.iaload, 1) := by decide +kernel
theorem dX7_pixel_65 : decode cX7_pixel 65 = .ok (.goto 5, 3) := by decide +kernel
theorem dX7_pixel_68 : decode cX7_pixel 68 = .ok (.ldc 159, 2) := by decide +kernel
theorem dX7_pixel_70 : decode cX7_pixel 70 = .ok (.ireturn, 1) := by decide +kernel
set_option maxRecDepth 20000 in
theorem ggX7_about_X7_isPicture : GoodIn wsX7_about wsX7_isPicture := goodIn_r _ [9, 10, 11, 12, 8, 13, 14, 15, 16, 17, 18, 19, 20, 21, 22, 23, 24, 25, 26, 27, 28, 29, 30, 31, 32, 33, 34, 35, 36, 37, 38, 39, 40, 41] (by decide +kernel) (by decide +kernel)
set_option maxRecDepth 20000 in
theorem gX7_about_X7_isPicture : GoodIn wsX7_about (wsV RX7 171 RX7 yX7_isPicture wsX7_isPicture) := goodIn_app (goodIn_of _ (by decide +kernel)) ggX7_about_X7_isPicture
set_option maxRecDepth 20000 in
theorem ggX7_about_X7_in : GoodIn wsX7_about wsX7_in := goodIn_r _ [13] (by decide +kernel) (by decide +kernel)
set_option maxRecDepth 20000 in
theorem gX7_about_X7_in : GoodIn wsX7_about (va_wsS RX7 7 yX7_in wsX7_in) := goodIn_app (goodIn_of _ (by decide +kernel)) ggX7_about_X7_in
theorem dX7_about_0 : decode cX7_about 0 = .ok (.aload_n 0, 1) := by decide +kernel
theorem dX7_about_1 : decode cX7_about 1 = .ok (.iload_n 1, 1) := by decide +kernel
theorem dX7_about_2 : decode cX7_about 2 = .ok (.invokevirtual 171, 3) := by decide +kernel
theorem dX7_about_5 : decode cX7_about 5 = .ok (.ifCond .eq 15, 3) := by decide +kernel
theorem dX7_about_8 : decode cX7_about 8 = .ok (.iload_n 2, 1) := by decide +kernel
theorem dX7_about_9 : decode cX7_about 9 = .ok (.i2l, 1) := by decide +kernel
theorem dX7_about_10 : decode cX7_about 10 = .ok (.lconst 0, 1) := by decide +kernel
theorem dX7_about_11 : decode cX7_about 11 = .ok (.ldc2_w 174, 3) := by decide +kernel
theorem dX7_about_14 : decode cX7_about 14 = .ok (.invokestatic 7, 3) := by decide +kernel
theorem dX7_about_17 : decode cX7_about 17 = .ok (.ifCond .ne 6, 3) := by decide +kernel
theorem dX7_about_20 : decode cX7_about 20 = .ok (.bipush (-2), 2) := by decide +kernel
theorem dX7_about_22 : decode cX7_about 22 = .ok (.ireturn, 1) := by decide +kernel
theorem dX7_about_23 : decode cX7_about 23 = .ok (.iconst 0, 1) := by decide +kernel
theorem dX7_about_24 : decode cX7_about 24 = .ok (.istore_n 3, 1) := by decide +kernel
theorem dX7_about_25 : decode cX7_about 25 = .ok (.iconst 1, 1) := by decide +kernel
theorem dX7_about_26 : decode cX7_about 26 = .ok (.istore 4, 2) := by decide +kernel
theorem dX7_about_28 : decode cX7_about 28 = .ok (.iload 4, 2) := by decide +kernel
theorem dX7_about_30 : decode cX7_about 30 = .ok (.aload_n 0, 1) := by decide +kernel
theorem dX7_about_31 : decode cX7_about 31 = .ok (.getfield 66, 3) := by decide +kernel
theorem dX7_about_34 : decode cX7_about 34 = .ok (.iload_n 1, 1) := by decide +kernel
theorem dX7_about_35 : decode cX7_about 35 = .ok (.iaload, 1) := by decide +kernel
theorem dX7_about_36 : decode cX7_about 36 = .ok (.aload_n 0, 1) := by decide +kernel
theorem dX7_about_37 : decode cX7_about 37 = .ok (.getfield 69, 3) := by decide +kernel
theorem dX7_about_40 : decode cX7_about 40 = .ok (.iload_n 1, 1) := by decide +kernel
theorem dX7_about_41 : decode cX7_about 41 = .ok (.iaload, 1) := by decide +kernel
theorem dX7_about_42 : decode cX7_about 42 = .ok (.imul, 1) := by decide +kernel
theorem dX7_about_43 : decode cX7_about 43 = .ok (.if_icmp .ge 44, 3) := by decide +kernel
theorem dX7_about_46 : decode cX7_about 46 = .ok (.aload_n 0, 1) := by decide +kernel
theorem dX7_about_47 : decode cX7_about 47 = .ok (.getfield 72, 3) := by decide +kernel
theorem dX7_about_50 : decode cX7_about 50 = .ok (.sipush 256, 3) := by decide +kernel
theorem dX7_about_53 : decode cX7_about 53 = .ok (.iload_n 1, 1) := by decide +kernel
theorem dX7_about_54 : decode cX7_about 54 = .ok (.imul, 1) := by decide +kernel
theorem dX7_about_55 : decode cX7_about 55 = .ok (.iload 4, 2) := by decide +kernel
theorem dX7_about_57 : decode cX7_about 57 = .ok (.iadd, 1) := by decide +kernel
theorem dX7_about_58 : decode cX7_about 58 = .ok (.iaload, 1) := by decide +kernel
theorem dX7_about_59 : decode cX7_about 59 = .ok (.aload_n 0, 1) := by decide +kernel
theorem dX7_about_60 : decode cX7_about 60 = .ok (.getfield 72, 3) := by decide +kernel
theorem dX7_about_63 : decode cX7_about 63 = .ok (.sipush 256, 3) := by decide +kernel
theorem dX7_about_66 : decode cX7_about 66 = .ok (.iload_n 1, 1) := by decide +kernel
theorem dX7_about_67 : decode cX7_about 67 = .ok (.imul, 1) := by decide +kernel
theorem dX7_about_68 : decode cX7_about 68 = .ok (.iload_n 3, 1) := by decide +kernel
theorem dX7_about_69 : decode cX7_about 69 = .ok (.iadd, 1) := by decide +kernel
theorem dX7_about_70 : decode cX7_about 70 = .ok (.iaload, 1) := by decide +kernel
theorem dX7_about_71 : decode cX7_about 71 = .ok (.if_icmp .le 8, 3) := by decide +kernel
theorem dX7_about_74 : decode cX7_about 74 = .ok (.iload 4, 2) := by decide +kernel
theorem dX7_about_76 : decode cX7_about 76 = .ok (.goto 4, 3) := by decide +kernel
theorem dX7_about_79 : decode cX7_about 79 = .ok (.iload_n 3, 1) := by decide +kernel
theorem dX7_about_80 : decode cX7_about 80 = .ok (.istore_n 3, 1) := by decide +kernel
theorem dX7_about_81 : decode cX7_about 81 = .ok (.iinc 4 1, 3) := by decide +kernel
theorem dX7_about_84 : decode cX7_about 84 = .ok (.goto (-56), 3) := by decide +kernel
theorem dX7_about_87 : decode cX7_about 87 = .ok (.iload_n 2, 1) := by decide +kernel
theorem dX7_about_88 : decode cX7_about 88 = .ok (.ifCond .ne 12, 3) := by decide +kernel
theorem dX7_about_91 : decode cX7_about 91 = .ok (.aload_n 0, 1) := by decide +kernel
theorem dX7_about_92 : decode cX7_about 92 = .ok (.getfield 66, 3) := by decide +kernel
theorem dX7_about_95 : decode cX7_about 95 = .ok (.iload_n 1, 1) := by decide +kernel
theorem dX7_about_96 : decode cX7_about 96 = .ok (.iaload, 1) := by decide +kernel
theorem dX7_about_97 : decode cX7_about 97 = .ok (.goto 38, 3) := by decide +kernel
theorem dX7_about_100 : decode cX7_about 100 = .ok (.iload_n 2, 1) := by decide +kernel
theorem dX7_about_101 : decode cX7_about 101 = .ok (.iconst 1, 1) := by decide +kernel
theorem dX7_about_102 : decode cX7_about 102 = .ok (.if_icmp .ne 12, 3) := by decide +kernel
theorem dX7_about_105 : decode cX7_about 105 = .ok (.aload_n 0, 1) := by decide +kernel
theorem dX7_about_106 : decode cX7_about 106 = .ok (.getfield 69, 3) := by decide +kernel
theorem dX7_about_109 : decode cX7_about 109 = .ok (.iload_n 1, 1) := by decide +kernel
theorem dX7_about_110 : decode cX7_about 110 = .ok (.iaload, 1) := by decide +kernel
theorem dX7_about_111 : decode cX7_about 111 = .ok (.goto 24, 3) := by decide +kernel
theorem dX7_about_114 : decode cX7_about 114 = .ok (.iload_n 2, 1) := by decide +kernel
theorem dX7_about_115 : decode cX7_about 115 = .ok (.iconst 2, 1) := by decide +kernel
theorem dX7_about_116 : decode cX7_about 116 = .ok (.if_icmp .ne 18, 3) := by decide +kernel
theorem dX7_about_119 : decode cX7_about 119 = .ok (.aload_n 0, 1) := by decide +kernel
theorem dX7_about_120 : decode cX7_about 120 = .ok (.getfield 72, 3) := by decide +kernel
theorem dX7_about_123 : decode cX7_about 123 = .ok (.sipush 256, 3) := by decide +kernel
theorem dX7_about_126 : decode cX7_about 126 = .ok (.iload_n 1, 1) := by decide +kernel
theorem dX7_about_127 : decode cX7_about 127 = .ok (.imul, 1) := by decide +kernel
theorem dX7_about_128 : decode cX7_about 128 = .ok (.iload_n 3, 1) := by decide +kernel
theorem dX7_about_129 : decode cX7_about 129 = .ok (.iadd, 1) := by decide +kernel
theorem dX7_about_130 : decode cX7_about 130 = .ok (.iaload, 1) := by decide +kernel
theorem dX7_about_131 : decode cX7_about 131 = .ok (.goto 4, 3) := by decide +kernel
theorem dX7_about_134 : decode cX7_about 134 = .ok (.iload_n 3, 1) := by decide +kernel
theorem dX7_about_135 : decode cX7_about 135 = .ok (.ireturn, 1) := by decide +kernel
set_option maxRecDepth 20000 in
theorem ggX7_differ_X7_isPicture : GoodIn wsX7_differ wsX7_isPicture := goodIn_r _ [10, 5, 11, 12, 9, 13, 18, 19, 20, 21, 22, 23, 24, 25, 26, 27, 28, 29, 30, 31, 32, 33, 34, 35, 36, 37, 38, 39, 40, 41, 42, 43, 44, 45] (by decide +kernel) (by decide +kernel)
set_option maxRecDepth 20000 in
theorem gX7_differ_X7_isPicture : GoodIn wsX7_differ (wsV RX7 171 RX7 yX7_isPicture wsX7_isPicture) := goodIn_app (goodIn_of _ (by decide +kernel)) ggX7_differ_X7_isPicture
set_option maxRecDepth 20000 in
theorem ggX7_differ_X7_next : GoodIn wsX7_differ wsX7_next := goodIn_r _ [17, 5, 4, 1, 2, 18, 19, 20, 21, 22, 23, 24, 25, 26, 27, 28, 29, 30, 31, 32, 33, 34, 35, 36, 37, 38, 39, 40, 41, 42, 43, 44, 45] (by decide +kernel) (by decide +kernel)
set_option maxRecDepth 20000 in
theorem gX7_differ_X7_next : GoodIn wsX7_differ (wsV RX7 168 RX7 yX7_next wsX7_next) := goodIn_app (goodIn_of _ (by decide +kernel)) ggX7_differ_X7_next
theorem dX7_differ_0 : decode cX7_differ 0 = .ok (.aload_n 0, 1) := by decide +kernel
theorem dX7_differ_1 : decode cX7_differ 1 = .ok (.iload_n 1, 1) := by decide +kernel
theorem dX7_differ_2 : decode cX7_differ 2 = .ok (.invokevirtual 171, 3) := by decide +kernel
theorem dX7_differ_5 : decode cX7_differ 5 = .ok (.ifCond .eq 11, 3) := by decide +kernel
theorem dX7_differ_8 : decode cX7_differ 8 = .ok (.aload_n 0, 1) := by decide +kernel
theorem dX7_differ_9 : decode cX7_differ 9 = .ok (.iload_n 2, 1) := by decide +kernel
theorem dX7_differ_10 : decode cX7_differ 10 = .ok (.invokevirtual 171, 3) := by decide +kernel
theorem dX7_differ_13 : decode cX7_differ 13 = .ok (.ifCond .ne 6, 3) := by decide +kernel
theorem dX7_differ_16 : decode cX7_differ 16 = .ok (.bipush (-2), 2) := by decide +kernel
theorem dX7_differ_18 : decode cX7_differ 18 = .ok (.ireturn, 1) := by decide +kernel
theorem dX7_differ_19 : decode cX7_differ 19 = .ok (.aload_n 0, 1) := by decide +kernel
theorem dX7_differ_20 : decode cX7_differ 20 = .ok (.getfield 66, 3) := by decide +kernel
theorem dX7_differ_23 : decode cX7_differ 23 = .ok (.iload_n 1, 1) := by decide +kernel
theorem dX7_differ_24 : decode cX7_differ 24 = .ok (.iaload, 1) := by decide +kernel
theorem dX7_differ_25 : decode cX7_differ 25 = .ok (.aload_n 0, 1) := by decide +kernel
theorem dX7_differ_26 : decode cX7_differ 26 = .ok (.getfield 66, 3) := by decide +kernel
theorem dX7_differ_29 : decode cX7_differ 29 = .ok (.iload_n 2, 1) := by decide +kernel
theorem dX7_differ_30 : decode cX7_differ 30 = .ok (.iaload, 1) := by decide +kernel
theorem dX7_differ_31 : decode cX7_differ 31 = .ok (.if_icmp .ne 18, 3) := by decide +kernel
theorem dX7_differ_34 : decode cX7_differ 34 = .ok (.aload_n 0, 1) := by decide +kernel
theorem dX7_differ_35 : decode cX7_differ 35 = .ok (.getfield 69, 3) := by decide +kernel
theorem dX7_differ_38 : decode cX7_differ 38 = .ok (.iload_n 1, 1) := by decide +kernel
theorem dX7_differ_39 : decode cX7_differ 39 = .ok (.iaload, 1) := by decide +kernel
theorem dX7_differ_40 : decode cX7_differ 40 = .ok (.aload_n 0, 1) := by decide +kernel
theorem dX7_differ_41 : decode cX7_differ 41 = .ok (.getfield 69, 3) := by decide +kernel
theorem dX7_differ_44 : decode cX7_differ 44 = .ok (.iload_n 2, 1) := by decide +kernel
theorem dX7_differ_45 : decode cX7_differ 45 = .ok (.iaload, 1) := by decide +kernel
theorem dX7_differ_46 : decode cX7_differ 46 = .ok (.if_icmp .eq 6, 3) := by decide +kernel
theorem dX7_differ_49 : decode cX7_differ 49 = .ok (.bipush (-3), 2) := by decide +kernel
theorem dX7_differ_51 : decode cX7_differ 51 = .ok (.ireturn, 1) := by decide +kernel
theorem dX7_differ_52 : decode cX7_differ 52 = .ok (.aload_n 0, 1) := by decide +kernel
theorem dX7_differ_53 : decode cX7_differ 53 = .ok (.getfield 66, 3) := by decide +kernel
theorem dX7_differ_56 : decode cX7_differ 56 = .ok (.iload_n 1, 1) := by decide +kernel
theorem dX7_differ_57 : decode cX7_differ 57 = .ok (.iaload, 1) := by decide +kernel
theorem dX7_differ_58 : decode cX7_differ 58 = .ok (.istore_n 3, 1) := by decide +kernel
theorem dX7_differ_59 : decode cX7_differ 59 = .ok (.aload_n 0, 1) := by decide +kernel
theorem dX7_differ_60 : decode cX7_differ 60 = .ok (.getfield 69, 3) := by decide +kernel
theorem dX7_differ_63 : decode cX7_differ 63 = .ok (.iload_n 1, 1) := by decide +kernel
theorem dX7_differ_64 : decode cX7_differ 64 = .ok (.iaload, 1) := by decide +kernel
theorem dX7_differ_65 : decode cX7_differ 65 = .ok (.istore 4, 2) := by decide +kernel
theorem dX7_differ_67 : decode cX7_differ 67 = .ok (.iconst 0, 1) := by decide +kernel
theorem dX7_differ_68 : decode cX7_differ 68 = .ok (.istore 5, 2) := by decide +kernel
theorem dX7_differ_70 : decode cX7_differ 70 = .ok (.iload 5, 2) := by decide +kernel
theorem dX7_differ_72 : decode cX7_differ 72 = .ok (.iload_n 3, 1) := by decide +kernel
theorem dX7_differ_73 : decode cX7_differ 73 = .ok (.iload 4, 2) := by decide +kernel
theorem dX7_differ_75 : decode cX7_differ 75 = .ok (.imul, 1) := by decide +kernel
theorem dX7_differ_76 : decode cX7_differ 76 = .ok (.if_icmp .ge 43, 3) := by decide +kernel
theorem dX7_differ_79 : decode cX7_differ 79 = .ok (.aload_n 0, 1) := by decide +kernel
theorem dX7_differ_80 : decode cX7_differ 80 = .ok (.getfield 75, 3) := by decide +kernel
theorem dX7_differ_83 : decode cX7_differ 83 = .ok (.iload 5, 2) := by decide +kernel
theorem dX7_differ_85 : decode cX7_differ 85 = .ok (.aload_n 0, 1) := by decide +kernel
theorem dX7_differ_86 : decode cX7_differ 86 = .ok (.getfield 72, 3) := by decide +kernel
theorem dX7_differ_89 : decode cX7_differ 89 = .ok (.sipush 256, 3) := by decide +kernel
theorem dX7_differ_92 : decode cX7_differ 92 = .ok (.iload_n 1, 1) := by decide +kernel
theorem dX7_differ_93 : decode cX7_differ 93 = .ok (.imul, 1) := by decide +kernel
theorem dX7_differ_94 : decode cX7_differ 94 = .ok (.iload 5, 2) := by decide +kernel
theorem dX7_differ_96 : decode cX7_differ 96 = .ok (.iadd, 1) := by decide +kernel
theorem dX7_differ_97 : decode cX7_differ 97 = .ok (.iaload, 1) := by decide +kernel
theorem dX7_differ_98 : decode cX7_differ 98 = .ok (.aload_n 0, 1) := by decide +kernel
theorem dX7_differ_99 : decode cX7_differ 99 = .ok (.getfield 72, 3) := by decide +kernel
theorem dX7_differ_102 : decode cX7_differ 102 = .ok (.sipush 256, 3) := by decide +kernel
theorem dX7_differ_105 : decode cX7_differ 105 = .ok (.iload_n 2, 1) := by decide +kernel
theorem dX7_differ_106 : decode cX7_differ 106 = .ok (.imul, 1) := by decide +kernel
theorem dX7_differ_107 : decode cX7_differ 107 = .ok (.iload 5, 2) := by decide +kernel
theorem dX7_differ_109 : decode cX7_differ 109 = .ok (.iadd, 1) := by decide +kernel
theorem dX7_differ_110 : decode cX7_differ 110 = .ok (.iaload, 1) := by decide +kernel
theorem dX7_differ_111 : decode cX7_differ 111 = .ok (.isub, 1) := by decide +kernel
theorem dX7_differ_112 : decode cX7_differ 112 = .ok (.iastore, 1) := by decide +kernel
theorem dX7_differ_113 : decode cX7_differ 113 = .ok (.iinc 5 1, 3) := by decide +kernel
theorem dX7_differ_116 : decode cX7_differ 116 = .ok (.goto (-46), 3) := by decide +kernel
theorem dX7_differ_119 : decode cX7_differ 119 = .ok (.aload_n 0, 1) := by decide +kernel
theorem dX7_differ_120 : decode cX7_differ 120 = .ok (.invokevirtual 168, 3) := by decide +kernel
theorem dX7_differ_123 : decode cX7_differ 123 = .ok (.istore 5, 2) := by decide +kernel
theorem dX7_differ_125 : decode cX7_differ 125 = .ok (.aload_n 0, 1) := by decide +kernel
theorem dX7_differ_126 : decode cX7_differ 126 = .ok (.getfield 66, 3) := by decide +kernel
theorem dX7_differ_129 : decode cX7_differ 129 = .ok (.iload 5, 2) := by decide +kernel
theorem dX7_differ_131 : decode cX7_differ 131 = .ok (.iload_n 3, 1) := by decide +kernel
theorem dX7_differ_132 : decode cX7_differ 132 = .ok (.iastore, 1) := by decide +kernel
theorem dX7_differ_133 : decode cX7_differ 133 = .ok (.aload_n 0, 1) := by decide +kernel
theorem dX7_differ_134 : decode cX7_differ 134 = .ok (.getfield 69, 3) := by decide +kernel
theorem dX7_differ_137 : decode cX7_differ 137 = .ok (.iload 5, 2) := by decide +kernel
theorem dX7_differ_139 : decode cX7_differ 139 = .ok (.iload 4, 2) := by decide +kernel
theorem dX7_differ_141 : decode cX7_differ 141 = .ok (.iastore, 1) := by decide +kernel
theorem dX7_differ_142 : decode cX7_differ 142 = .ok (.iconst 0, 1) := by decide +kernel
theorem dX7_differ_143 : decode cX7_differ 143 = .ok (.istore 6, 2) := by decide +kernel
theorem dX7_differ_145 : decode cX7_differ 145 = .ok (.iload 6, 2) := by decide +kernel
theorem dX7_differ_147 : decode cX7_differ 147 = .ok (.iload_n 3, 1) := by decide +kernel
theorem dX7_differ_148 : decode cX7_differ 148 = .ok (.iload 4, 2) := by decide +kernel
theorem dX7_differ_150 : decode cX7_differ 150 = .ok (.imul, 1) := by decide +kernel
theorem dX7_differ_151 : decode cX7_differ 151 = .ok (.if_icmp .ge 30, 3) := by decide +kernel
theorem dX7_differ_154 : decode cX7_differ 154 = .ok (.aload_n 0, 1) := by decide +kernel
theorem dX7_differ_155 : decode cX7_differ 155 = .ok (.getfield 72, 3) := by decide +kernel
theorem dX7_differ_158 : decode cX7_differ 158 = .ok (.sipush 256, 3) := by decide +kernel
theorem dX7_differ_161 : decode cX7_differ 161 = .ok (.iload 5, 2) := by decide +kernel
theorem dX7_differ_163 : decode cX7_differ 163 = .ok (.imul, 1) := by decide +kernel
theorem dX7_differ_164 : decode cX7_differ 164 = .ok (.iload 6, 2) := by decide +kernel
theorem dX7_differ_166 : decode cX7_differ 166 = .ok (.iadd, 1) := by decide +kernel
theorem dX7_differ_167 : decode cX7_differ 167 = .ok (.aload_n 0, 1) := by decide +kernel
theorem dX7_differ_168 : decode cX7_differ 168 = .ok (.getfield 75, 3) := by decide +kernel
theorem dX7_differ_171 : decode cX7_differ 171 = .ok (.iload 6, 2) := by decide +kernel
theorem dX7_differ_173 : decode cX7_differ 173 = .ok (.iaload, 1) := by decide +kernel
theorem dX7_differ_174 : decode cX7_differ 174 = .ok (.iastore, 1) := by decide +kernel
theorem dX7_differ_175 : decode cX7_differ 175 = .ok (.iinc 6 1, 3) := by decide +kernel
theorem dX7_differ_178 : decode cX7_differ 178 = .ok (.goto (-33), 3) := by decide +kernel
theorem dX7_differ_181 : decode cX7_differ 181 = .ok (.aload_n 0, 1) := by decide +kernel
theorem dX7_differ_182 : decode cX7_differ 182 = .ok (.getfield 90, 3) := by decide +kernel
theorem dX7_differ_185 : decode cX7_differ 185 = .ok (.ireturn, 1) := by decide +kernel
set_option maxRecDepth 20000 in
theorem ggX7_turned_X7_delayOf : GoodIn wsX7_turned wsX7_delayOf := goodIn_r _ [7, 8, 9, 10, 11, 12, 13, 14, 6, 15, 16, 26, 27, 28, 29, 30, 31, 32, 33, 34, 35, 36, 37, 38, 39, 40, 41, 42, 43, 44, 45, 46, 47, 48, 49, 50, 51, 52, 53] (by decide +kernel) (by decide +kernel)
set_option maxRecDepth 20000 in
theorem gX7_turned_X7_delayOf : GoodIn wsX7_turned (wsV RX7 114 RX7 yX7_delayOf wsX7_delayOf) := goodIn_app (goodIn_of _ (by decide +kernel)) ggX7_turned_X7_delayOf
set_option maxRecDepth 20000 in
theorem ggX7_turned_X7_sampleAt : GoodIn wsX7_turned wsX7_sampleAt := goodIn_r _ [20, 21, 22, 23, 24, 6, 25, 26, 27, 28, 29, 30, 31, 32, 33, 34, 35, 36, 37, 38, 39, 40, 41, 42, 43, 44, 45, 46, 47, 48, 49, 50, 51, 52, 53] (by decide +kernel) (by decide +kernel)
set_option maxRecDepth 20000 in
theorem gX7_turned_X7_sampleAt : GoodIn wsX7_turned (wsV RX7 143 RX7 yX7_sampleAt wsX7_sampleAt) := goodIn_app (goodIn_of _ (by decide +kernel)) ggX7_turned_X7_sampleAt
theorem dX7_turned_0 : decode cX7_turned 0 = .ok (.aload_n 0, 1) := by decide +kernel
theorem dX7_turned_1 : decode cX7_turned 1 = .ok (.aload_n 0, 1) := by decide +kernel
theorem dX7_turned_2 : decode cX7_turned 2 = .ok (.getfield 59, 3) := by decide +kernel
theorem dX7_turned_5 : decode cX7_turned 5 = .ok (.iload_n 1, 1) := by decide +kernel
theorem dX7_turned_6 : decode cX7_turned 6 = .ok (.iaload, 1) := by decide +kernel
theorem dX7_turned_7 : decode cX7_turned 7 = .ok (.iload_n 3, 1) := by decide +kernel
theorem dX7_turned_8 : decode cX7_turned 8 = .ok (.iload 4, 2) := by decide +kernel
theorem dX7_turned_10 : decode cX7_turned 10 = .ok (.invokevirtual 114, 3) := by decide +kernel
theorem dX7_turned_13 : decode cX7_turned 13 = .ok (.istore 6, 2) := by decide +kernel
theorem dX7_turned_15 : decode cX7_turned 15 = .ok (.lconst 0, 1) := by decide +kernel
theorem dX7_turned_16 : decode cX7_turned 16 = .ok (.lstore 7, 2) := by decide +kernel
theorem dX7_turned_18 : decode cX7_turned 18 = .ok (.iconst 0, 1) := by decide +kernel
theorem dX7_turned_19 : decode cX7_turned 19 = .ok (.istore 9, 2) := by decide +kernel
theorem dX7_turned_21 : decode cX7_turned 21 = .ok (.iload 9, 2) := by decide +kernel
theorem dX7_turned_23 : decode cX7_turned 23 = .ok (.aload_n 0, 1) := by decide +kernel
theorem dX7_turned_24 : decode cX7_turned 24 = .ok (.getfield 19, 3) := by decide +kernel
theorem dX7_turned_27 : decode cX7_turned 27 = .ok (.if_icmp .ge 75, 3) := by decide +kernel
theorem dX7_turned_30 : decode cX7_turned 30 = .ok (.iload 6, 2) := by decide +kernel
theorem dX7_turned_32 : decode cX7_turned 32 = .ok (.aload_n 0, 1) := by decide +kernel
theorem dX7_turned_33 : decode cX7_turned 33 = .ok (.iload 9, 2) := by decide +kernel
theorem dX7_turned_35 : decode cX7_turned 35 = .ok (.iload_n 3, 1) := by decide +kernel
theorem dX7_turned_36 : decode cX7_turned 36 = .ok (.iload 4, 2) := by decide +kernel
theorem dX7_turned_38 : decode cX7_turned 38 = .ok (.invokevirtual 114, 3) := by decide +kernel
theorem dX7_turned_41 : decode cX7_turned 41 = .ok (.iadd, 1) := by decide +kernel
theorem dX7_turned_42 : decode cX7_turned 42 = .ok (.istore 10, 2) := by decide +kernel
theorem dX7_turned_44 : decode cX7_turned 44 = .ok (.bipush (-6), 2) := by decide +kernel
theorem dX7_turned_46 : decode cX7_turned 46 = .ok (.istore 11, 2) := by decide +kernel
theorem dX7_turned_48 : decode cX7_turned 48 = .ok (.iload 11, 2) := by decide +kernel
theorem dX7_turned_50 : decode cX7_turned 50 = .ok (.bipush 6, 2) := by decide +kernel
theorem dX7_turned_52 : decode cX7_turned 52 = .ok (.if_icmp .gt 44, 3) := by decide +kernel
theorem dX7_turned_55 : decode cX7_turned 55 = .ok (.lload 7, 2) := by decide +kernel
theorem dX7_turned_57 : decode cX7_turned 57 = .ok (.aload_n 0, 1) := by decide +kernel
theorem dX7_turned_58 : decode cX7_turned 58 = .ok (.iload_n 1, 1) := by decide +kernel
theorem dX7_turned_59 : decode cX7_turned 59 = .ok (.iload 9, 2) := by decide +kernel
theorem dX7_turned_61 : decode cX7_turned 61 = .ok (.iload 10, 2) := by decide +kernel
theorem dX7_turned_63 : decode cX7_turned 63 = .ok (.iload 11, 2) := by decide +kernel
theorem dX7_turned_65 : decode cX7_turned 65 = .ok (.iadd, 1) := by decide +kernel
theorem dX7_turned_66 : decode cX7_turned 66 = .ok (.invokevirtual 143, 3) := by decide +kernel
theorem dX7_turned_69 : decode cX7_turned 69 = .ok (.i2l, 1) := by decide +kernel
theorem dX7_turned_70 : decode cX7_turned 70 = .ok (.aload_n 0, 1) := by decide +kernel
theorem dX7_turned_71 : decode cX7_turned 71 = .ok (.iload_n 2, 1) := by decide +kernel
theorem dX7_turned_72 : decode cX7_turned 72 = .ok (.iload 9, 2) := by decide +kernel
theorem dX7_turned_74 : decode cX7_turned 74 = .ok (.iload 10, 2) := by decide +kernel
theorem dX7_turned_76 : decode cX7_turned 76 = .ok (.iload 11, 2) := by decide +kernel
theorem dX7_turned_78 : decode cX7_turned 78 = .ok (.iadd, 1) := by decide +kernel
theorem dX7_turned_79 : decode cX7_turned 79 = .ok (.iload 5, 2) := by decide +kernel
theorem dX7_turned_81 : decode cX7_turned 81 = .ok (.iadd, 1) := by decide +kernel
theorem dX7_turned_82 : decode cX7_turned 82 = .ok (.invokevirtual 143, 3) := by decide +kernel
theorem dX7_turned_85 : decode cX7_turned 85 = .ok (.i2l, 1) := by decide +kernel
theorem dX7_turned_86 : decode cX7_turned 86 = .ok (.lmul, 1) := by decide +kernel
theorem dX7_turned_87 : decode cX7_turned 87 = .ok (.ladd, 1) := by decide +kernel
theorem dX7_turned_88 : decode cX7_turned 88 = .ok (.lstore 7, 2) := by decide +kernel
theorem dX7_turned_90 : decode cX7_turned 90 = .ok (.iinc 11 1, 3) := by decide +kernel
theorem dX7_turned_93 : decode cX7_turned 93 = .ok (.goto (-45), 3) := by decide +kernel
theorem dX7_turned_96 : decode cX7_turned 96 = .ok (.iinc 9 1, 3) := by decide +kernel
theorem dX7_turned_99 : decode cX7_turned 99 = .ok (.goto (-78), 3) := by decide +kernel
theorem dX7_turned_102 : decode cX7_turned 102 = .ok (.lload 7, 2) := by decide +kernel
theorem dX7_turned_104 : decode cX7_turned 104 = .ok (.lreturn, 1) := by decide +kernel
set_option maxRecDepth 20000 in
theorem ggX7_turn_X7_isLook : GoodIn wsX7_turn wsX7_isLook := goodIn_r _ [6, 7, 8, 9, 5, 10, 41, 42, 43, 44, 45, 46, 47, 48, 49, 50, 51, 52, 53, 54, 55, 56, 57, 58, 59, 60, 61, 62, 63, 64, 65, 66, 67, 68] (by decide +kernel) (by decide +kernel)
set_option maxRecDepth 20000 in
theorem gX7_turn_X7_isLook : GoodIn wsX7_turn (wsV RX7 139 RX7 yX7_isLook wsX7_isLook) := goodIn_app (goodIn_of _ (by decide +kernel)) ggX7_turn_X7_isLook
set_option maxRecDepth 20000 in
theorem ggX7_turn_X7_isPlace : GoodIn wsX7_turn wsX7_isPlace := goodIn_r _ [13, 14, 15, 16, 8, 9, 5, 10] (by decide +kernel) (by decide +kernel)
set_option maxRecDepth 20000 in
theorem gX7_turn_X7_isPlace : GoodIn wsX7_turn (va_wsS RX7 110 yX7_isPlace wsX7_isPlace) := goodIn_app (goodIn_of _ (by decide +kernel)) ggX7_turn_X7_isPlace
set_option maxRecDepth 20000 in
theorem ggX7_turn_X7_turned : GoodIn wsX7_turn wsX7_turned := goodIn_r _ [20, 1, 21, 22, 23, 24, 5, 25, 26, 27, 28, 29, 30, 31, 32, 33, 34, 35, 36, 37, 38, 39, 40, 8, 9, 10, 41, 42, 43, 44, 45, 46, 47, 48, 49, 50, 51, 52, 53, 54, 55, 56, 57, 58, 59, 60, 61, 62, 63, 64, 65, 66, 67, 68] (by decide +kernel) (by decide +kernel)
set_option maxRecDepth 20000 in
theorem gX7_turn_X7_turned : GoodIn wsX7_turn (wsV RX7 176 RX7 yX7_turned wsX7_turned) := goodIn_app (goodIn_of _ (by decide +kernel)) ggX7_turn_X7_turned
theorem dX7_turn_0 : decode cX7_turn 0 = .ok (.aload_n 0, 1) := by decide +kernel
theorem dX7_turn_1 : decode cX7_turn 1 = .ok (.iload_n 1, 1) := by decide +kernel
theorem dX7_turn_2 : decode cX7_turn 2 = .ok (.invokevirtual 139, 3) := by decide +kernel
theorem dX7_turn_5 : decode cX7_turn 5 = .ok (.ifCond .eq 20, 3) := by decide +kernel
theorem dX7_turn_8 : decode cX7_turn 8 = .ok (.aload_n 0, 1) := by decide +kernel
theorem dX7_turn_9 : decode cX7_turn 9 = .ok (.iload_n 2, 1) := by decide +kernel
theorem dX7_turn_10 : decode cX7_turn 10 = .ok (.invokevirtual 139, 3) := by decide +kernel
theorem dX7_turn_13 : decode cX7_turn 13 = .ok (.ifCond .eq 12, 3) := by decide +kernel
theorem dX7_turn_16 : decode cX7_turn 16 = .ok (.iload_n 3, 1) := by decide +kernel
theorem dX7_turn_17 : decode cX7_turn 17 = .ok (.iload 4, 2) := by decide +kernel
theorem dX7_turn_19 : decode cX7_turn 19 = .ok (.invokestatic 110, 3) := by decide +kernel
theorem dX7_turn_22 : decode cX7_turn 22 = .ok (.ifCond .ne 6, 3) := by decide +kernel
theorem dX7_turn_25 : decode cX7_turn 25 = .ok (.bipush (-100), 2) := by decide +kernel
theorem dX7_turn_27 : decode cX7_turn 27 = .ok (.ireturn, 1) := by decide +kernel
theorem dX7_turn_28 : decode cX7_turn 28 = .ok (.aload_n 0, 1) := by decide +kernel
theorem dX7_turn_29 : decode cX7_turn 29 = .ok (.getfield 59, 3) := by decide +kernel
theorem dX7_turn_32 : decode cX7_turn 32 = .ok (.iload_n 1, 1) := by decide +kernel
theorem dX7_turn_33 : decode cX7_turn 33 = .ok (.iaload, 1) := by decide +kernel
theorem dX7_turn_34 : decode cX7_turn 34 = .ok (.aload_n 0, 1) := by decide +kernel
theorem dX7_turn_35 : decode cX7_turn 35 = .ok (.getfield 59, 3) := by decide +kernel
theorem dX7_turn_38 : decode cX7_turn 38 = .ok (.iload_n 2, 1) := by decide +kernel
theorem dX7_turn_39 : decode cX7_turn 39 = .ok (.iaload, 1) := by decide +kernel
theorem dX7_turn_40 : decode cX7_turn 40 = .ok (.if_icmp .eq 6, 3) := by decide +kernel
theorem dX7_turn_43 : decode cX7_turn 43 = .ok (.bipush (-101), 2) := by decide +kernel
theorem dX7_turn_45 : decode cX7_turn 45 = .ok (.ireturn, 1) := by decide +kernel
theorem dX7_turn_46 : decode cX7_turn 46 = .ok (.iconst 0, 1) := by decide +kernel
theorem dX7_turn_47 : decode cX7_turn 47 = .ok (.istore 5, 2) := by decide +kernel
theorem dX7_turn_49 : decode cX7_turn 49 = .ok (.aload_n 0, 1) := by decide +kernel
theorem dX7_turn_50 : decode cX7_turn 50 = .ok (.iload_n 1, 1) := by decide +kernel
theorem dX7_turn_51 : decode cX7_turn 51 = .ok (.iload_n 2, 1) := by decide +kernel
theorem dX7_turn_52 : decode cX7_turn 52 = .ok (.iload_n 3, 1) := by decide +kernel
theorem dX7_turn_53 : decode cX7_turn 53 = .ok (.iload 4, 2) := by decide +kernel
theorem dX7_turn_55 : decode cX7_turn 55 = .ok (.iconst 0, 1) := by decide +kernel
theorem dX7_turn_56 : decode cX7_turn 56 = .ok (.invokevirtual 176, 3) := by decide +kernel
theorem dX7_turn_59 : decode cX7_turn 59 = .ok (.lstore 6, 2) := by decide +kernel
theorem dX7_turn_61 : decode cX7_turn 61 = .ok (.iconst 1, 1) := by decide +kernel
theorem dX7_turn_62 : decode cX7_turn 62 = .ok (.istore 8, 2) := by decide +kernel
theorem dX7_turn_64 : decode cX7_turn 64 = .ok (.iload 8, 2) := by decide +kernel
theorem dX7_turn_66 : decode cX7_turn 66 = .ok (.bipush 16, 2) := by decide +kernel
theorem dX7_turn_68 : decode cX7_turn 68 = .ok (.if_icmp .gt 62, 3) := by decide +kernel
theorem dX7_turn_71 : decode cX7_turn 71 = .ok (.iload 8, 2) := by decide +kernel
theorem dX7_turn_73 : decode cX7_turn 73 = .ok (.iconst 2, 1) := by decide +kernel
theorem dX7_turn_74 : decode cX7_turn 74 = .ok (.irem, 1) := by decide +kernel
theorem dX7_turn_75 : decode cX7_turn 75 = .ok (.iconst 1, 1) := by decide +kernel
theorem dX7_turn_76 : decode cX7_turn 76 = .ok (.if_icmp .ne 13, 3) := by decide +kernel
theorem dX7_turn_79 : decode cX7_turn 79 = .ok (.iload 8, 2) := by decide +kernel
theorem dX7_turn_81 : decode cX7_turn 81 = .ok (.iconst 1, 1) := by decide +kernel
theorem dX7_turn_82 : decode cX7_turn 82 = .ok (.iadd, 1) := by decide +kernel
theorem dX7_turn_83 : decode cX7_turn 83 = .ok (.ineg, 1) := by decide +kernel
theorem dX7_turn_84 : decode cX7_turn 84 = .ok (.iconst 2, 1) := by decide +kernel
theorem dX7_turn_85 : decode cX7_turn 85 = .ok (.idiv, 1) := by decide +kernel
theorem dX7_turn_86 : decode cX7_turn 86 = .ok (.goto 7, 3) := by decide +kernel
theorem dX7_turn_89 : decode cX7_turn 89 = .ok (.iload 8, 2) := by decide +kernel
theorem dX7_turn_91 : decode cX7_turn 91 = .ok (.iconst 2, 1) := by decide +kernel
theorem dX7_turn_92 : decode cX7_turn 92 = .ok (.idiv, 1) := by decide +kernel
theorem dX7_turn_93 : decode cX7_turn 93 = .ok (.istore 9, 2) := by decide +kernel
theorem dX7_turn_95 : decode cX7_turn 95 = .ok (.aload_n 0, 1) := by decide +kernel
theorem dX7_turn_96 : decode cX7_turn 96 = .ok (.iload_n 1, 1) := by decide +kernel
theorem dX7_turn_97 : decode cX7_turn 97 = .ok (.iload_n 2, 1) := by decide +kernel
theorem dX7_turn_98 : decode cX7_turn 98 = .ok (.iload_n 3, 1) := by decide +kernel
theorem dX7_turn_99 : decode cX7_turn 99 = .ok (.iload 4, 2) := by decide +kernel
theorem dX7_turn_101 : decode cX7_turn 101 = .ok (.iload 9, 2) := by decide +kernel
theorem dX7_turn_103 : decode cX7_turn 103 = .ok (.invokevirtual 176, 3) := by decide +kernel
theorem dX7_turn_106 : decode cX7_turn 106 = .ok (.lstore 10, 2) := by decide +kernel
theorem dX7_turn_108 : decode cX7_turn 108 = .ok (.lload 10, 2) := by decide +kernel
theorem dX7_turn_110 : decode cX7_turn 110 = .ok (.lload 6, 2) := by decide +kernel
theorem dX7_turn_112 : decode cX7_turn 112 = .ok (.lcmp, 1) := by decide +kernel
theorem dX7_turn_113 : decode cX7_turn 113 = .ok (.ifCond .le 11, 3) := by decide +kernel
theorem dX7_turn_116 : decode cX7_turn 116 = .ok (.lload 10, 2) := by decide +kernel
theorem dX7_turn_118 : decode cX7_turn 118 = .ok (.lstore 6, 2) := by decide +kernel
theorem dX7_turn_120 : decode cX7_turn 120 = .ok (.iload 9, 2) := by decide +kernel
theorem dX7_turn_122 : decode cX7_turn 122 = .ok (.istore 5, 2) := by decide +kernel
theorem dX7_turn_124 : decode cX7_turn 124 = .ok (.iinc 8 1, 3) := by decide +kernel
theorem dX7_turn_127 : decode cX7_turn 127 = .ok (.goto (-63), 3) := by decide +kernel
theorem dX7_turn_130 : decode cX7_turn 130 = .ok (.iload 5, 2) := by decide +kernel
theorem dX7_turn_132 : decode cX7_turn 132 = .ok (.ireturn, 1) := by decide +kernel
set_option maxRecDepth 20000 in
theorem ggX7_fan_X7_isLook : GoodIn wsX7_fan wsX7_isLook := goodIn_r _ [13, 14, 15, 16, 12, 17, 59, 60, 61, 62, 63, 64, 65, 66, 67, 68, 69, 70, 71, 72, 73, 74, 75, 76, 77, 78, 79, 80, 81, 82, 83, 84, 85, 86] (by decide +kernel) (by decide +kernel)
set_option maxRecDepth 20000 in
theorem gX7_fan_X7_isLook : GoodIn wsX7_fan (wsV RX7 139 RX7 yX7_isLook wsX7_isLook) := goodIn_app (goodIn_of _ (by decide +kernel)) ggX7_fan_X7_isLook
set_option maxRecDepth 20000 in
theorem ggX7_fan_X7_in : GoodIn wsX7_fan wsX7_in := goodIn_r _ [17] (by decide +kernel) (by decide +kernel)
set_option maxRecDepth 20000 in
theorem gX7_fan_X7_in : GoodIn wsX7_fan (va_wsS RX7 7 yX7_in wsX7_in) := goodIn_app (goodIn_of _ (by decide +kernel)) ggX7_fan_X7_in
set_option maxRecDepth 20000 in
theorem ggX7_fan_X7_isPlace : GoodIn wsX7_fan wsX7_isPlace := goodIn_r _ [20, 21, 22, 23, 15, 16, 12, 17] (by decide +kernel) (by decide +kernel)
set_option maxRecDepth 20000 in
theorem gX7_fan_X7_isPlace : GoodIn wsX7_fan (va_wsS RX7 110 yX7_isPlace wsX7_isPlace) := goodIn_app (goodIn_of _ (by decide +kernel)) ggX7_fan_X7_isPlace
set_option maxRecDepth 20000 in
theorem ggX7_fan_X7_meanOf : GoodIn wsX7_fan wsX7_meanOf := goodIn_r _ [27, 14, 28, 29, 30, 31, 12, 32, 33, 34, 35, 36, 37, 38, 39, 40, 41, 1, 42, 43, 44, 45, 46, 47, 48, 49, 50, 51, 15, 16, 17, 52, 53, 54, 55, 56, 57, 58, 59, 60, 61, 62, 63, 64, 65, 66, 67, 68, 69, 70, 71, 72, 73, 74, 75, 76, 77, 78, 79, 80, 81, 82, 83, 84, 85, 86] (by decide +kernel) (by decide +kernel)
set_option maxRecDepth 20000 in
theorem gX7_fan_X7_meanOf : GoodIn wsX7_fan (wsV RX7 163 RX7 yX7_meanOf wsX7_meanOf) := goodIn_app (goodIn_of _ (by decide +kernel)) ggX7_fan_X7_meanOf
theorem dX7_fan_0 : decode cX7_fan 0 = .ok (.aload_n 0, 1) := by decide +kernel
theorem dX7_fan_1 : decode cX7_fan 1 = .ok (.iload_n 1, 1) := by decide +kernel
theorem dX7_fan_2 : decode cX7_fan 2 = .ok (.invokevirtual 139, 3) := by decide +kernel
theorem dX7_fan_5 : decode cX7_fan 5 = .ok (.ifCond .eq 44, 3) := by decide +kernel
theorem dX7_fan_8 : decode cX7_fan 8 = .ok (.iload_n 2, 1) := by decide +kernel
theorem dX7_fan_9 : decode cX7_fan 9 = .ok (.i2l, 1) := by decide +kernel
theorem dX7_fan_10 : decode cX7_fan 10 = .ok (.ldc2_w 81, 3) := by decide +kernel
theorem dX7_fan_13 : decode cX7_fan 13 = .ok (.ldc2_w 147, 3) := by decide +kernel
theorem dX7_fan_16 : decode cX7_fan 16 = .ok (.invokestatic 7, 3) := by decide +kernel
theorem dX7_fan_19 : decode cX7_fan 19 = .ok (.ifCond .eq 30, 3) := by decide +kernel
theorem dX7_fan_22 : decode cX7_fan 22 = .ok (.iload_n 3, 1) := by decide +kernel
theorem dX7_fan_23 : decode cX7_fan 23 = .ok (.i2l, 1) := by decide +kernel
theorem dX7_fan_24 : decode cX7_fan 24 = .ok (.ldc2_w 81, 3) := by decide +kernel
theorem dX7_fan_27 : decode cX7_fan 27 = .ok (.ldc2_w 83, 3) := by decide +kernel
theorem dX7_fan_30 : decode cX7_fan 30 = .ok (.invokestatic 7, 3) := by decide +kernel
theorem dX7_fan_33 : decode cX7_fan 33 = .ok (.ifCond .eq 16, 3) := by decide +kernel
theorem dX7_fan_36 : decode cX7_fan 36 = .ok (.iload 4, 2) := by decide +kernel
theorem dX7_fan_38 : decode cX7_fan 38 = .ok (.i2l, 1) := by decide +kernel
theorem dX7_fan_39 : decode cX7_fan 39 = .ok (.lconst 1, 1) := by decide +kernel
theorem dX7_fan_40 : decode cX7_fan 40 = .ok (.ldc2_w 180, 3) := by decide +kernel
theorem dX7_fan_43 : decode cX7_fan 43 = .ok (.invokestatic 7, 3) := by decide +kernel
theorem dX7_fan_46 : decode cX7_fan 46 = .ok (.ifCond .ne 6, 3) := by decide +kernel
theorem dX7_fan_49 : decode cX7_fan 49 = .ok (.bipush (-2), 2) := by decide +kernel
theorem dX7_fan_51 : decode cX7_fan 51 = .ok (.ireturn, 1) := by decide +kernel
theorem dX7_fan_52 : decode cX7_fan 52 = .ok (.aload_n 0, 1) := by decide +kernel
theorem dX7_fan_53 : decode cX7_fan 53 = .ok (.iload_n 2, 1) := by decide +kernel
theorem dX7_fan_54 : decode cX7_fan 54 = .ok (.putfield 182, 3) := by decide +kernel
theorem dX7_fan_57 : decode cX7_fan 57 = .ok (.aload_n 0, 1) := by decide +kernel
theorem dX7_fan_58 : decode cX7_fan 58 = .ok (.iload_n 3, 1) := by decide +kernel
theorem dX7_fan_59 : decode cX7_fan 59 = .ok (.putfield 185, 3) := by decide +kernel
theorem dX7_fan_62 : decode cX7_fan 62 = .ok (.aload_n 0, 1) := by decide +kernel
theorem dX7_fan_63 : decode cX7_fan 63 = .ok (.iload 4, 2) := by decide +kernel
theorem dX7_fan_65 : decode cX7_fan 65 = .ok (.putfield 188, 3) := by decide +kernel
theorem dX7_fan_68 : decode cX7_fan 68 = .ok (.iload_n 2, 1) := by decide +kernel
theorem dX7_fan_69 : decode cX7_fan 69 = .ok (.iconst 1, 1) := by decide +kernel
theorem dX7_fan_70 : decode cX7_fan 70 = .ok (.isub, 1) := by decide +kernel
theorem dX7_fan_71 : decode cX7_fan 71 = .ok (.iconst 2, 1) := by decide +kernel
theorem dX7_fan_72 : decode cX7_fan 72 = .ok (.idiv, 1) := by decide +kernel
theorem dX7_fan_73 : decode cX7_fan 73 = .ok (.istore 5, 2) := by decide +kernel
theorem dX7_fan_75 : decode cX7_fan 75 = .ok (.iconst 0, 1) := by decide +kernel
theorem dX7_fan_76 : decode cX7_fan 76 = .ok (.istore 6, 2) := by decide +kernel
theorem dX7_fan_78 : decode cX7_fan 78 = .ok (.iload 6, 2) := by decide +kernel
theorem dX7_fan_80 : decode cX7_fan 80 = .ok (.iload_n 2, 1) := by decide +kernel
theorem dX7_fan_81 : decode cX7_fan 81 = .ok (.if_icmp .ge 84, 3) := by decide +kernel
theorem dX7_fan_84 : decode cX7_fan 84 = .ok (.iconst 0, 1) := by decide +kernel
theorem dX7_fan_85 : decode cX7_fan 85 = .ok (.istore 7, 2) := by decide +kernel
theorem dX7_fan_87 : decode cX7_fan 87 = .ok (.iload 7, 2) := by decide +kernel
theorem dX7_fan_89 : decode cX7_fan 89 = .ok (.iload_n 3, 1) := by decide +kernel
theorem dX7_fan_90 : decode cX7_fan 90 = .ok (.if_icmp .ge 69, 3) := by decide +kernel
theorem dX7_fan_93 : decode cX7_fan 93 = .ok (.iload 7, 2) := by decide +kernel
theorem dX7_fan_95 : decode cX7_fan 95 = .ok (.iload 4, 2) := by decide +kernel
theorem dX7_fan_97 : decode cX7_fan 97 = .ok (.imul, 1) := by decide +kernel
theorem dX7_fan_98 : decode cX7_fan 98 = .ok (.iload 6, 2) := by decide +kernel
theorem dX7_fan_100 : decode cX7_fan 100 = .ok (.iload 5, 2) := by decide +kernel
theorem dX7_fan_102 : decode cX7_fan 102 = .ok (.isub, 1) := by decide +kernel
theorem dX7_fan_103 : decode cX7_fan 103 = .ok (.imul, 1) := by decide +kernel
theorem dX7_fan_104 : decode cX7_fan 104 = .ok (.bipush 8, 2) := by decide +kernel
theorem dX7_fan_106 : decode cX7_fan 106 = .ok (.idiv, 1) := by decide +kernel
theorem dX7_fan_107 : decode cX7_fan 107 = .ok (.istore 8, 2) := by decide +kernel
theorem dX7_fan_109 : decode cX7_fan 109 = .ok (.aload_n 0, 1) := by decide +kernel
theorem dX7_fan_110 : decode cX7_fan 110 = .ok (.getfield 78, 3) := by decide +kernel
theorem dX7_fan_113 : decode cX7_fan 113 = .ok (.bipush 16, 2) := by decide +kernel
theorem dX7_fan_115 : decode cX7_fan 115 = .ok (.iload 6, 2) := by decide +kernel
theorem dX7_fan_117 : decode cX7_fan 117 = .ok (.imul, 1) := by decide +kernel
theorem dX7_fan_118 : decode cX7_fan 118 = .ok (.iload 7, 2) := by decide +kernel
theorem dX7_fan_120 : decode cX7_fan 120 = .ok (.iadd, 1) := by decide +kernel
theorem dX7_fan_121 : decode cX7_fan 121 = .ok (.iload 8, 2) := by decide +kernel
theorem dX7_fan_123 : decode cX7_fan 123 = .ok (.iload 7, 2) := by decide +kernel
theorem dX7_fan_125 : decode cX7_fan 125 = .ok (.iload 4, 2) := by decide +kernel
theorem dX7_fan_127 : decode cX7_fan 127 = .ok (.imul, 1) := by decide +kernel
theorem dX7_fan_128 : decode cX7_fan 128 = .ok (.invokestatic 110, 3) := by decide +kernel
theorem dX7_fan_131 : decode cX7_fan 131 = .ok (.ifCond .eq 20, 3) := by decide +kernel
theorem dX7_fan_134 : decode cX7_fan 134 = .ok (.aload_n 0, 1) := by decide +kernel
theorem dX7_fan_135 : decode cX7_fan 135 = .ok (.iconst 1, 1) := by decide +kernel
theorem dX7_fan_136 : decode cX7_fan 136 = .ok (.iload_n 1, 1) := by decide +kernel
theorem dX7_fan_137 : decode cX7_fan 137 = .ok (.ishl, 1) := by decide +kernel
theorem dX7_fan_138 : decode cX7_fan 138 = .ok (.iload 8, 2) := by decide +kernel
theorem dX7_fan_140 : decode cX7_fan 140 = .ok (.iload 7, 2) := by decide +kernel
theorem dX7_fan_142 : decode cX7_fan 142 = .ok (.iload 4, 2) := by decide +kernel
theorem dX7_fan_144 : decode cX7_fan 144 = .ok (.imul, 1) := by decide +kernel
theorem dX7_fan_145 : decode cX7_fan 145 = .ok (.invokevirtual 163, 3) := by decide +kernel
theorem dX7_fan_148 : decode cX7_fan 148 = .ok (.goto 4, 3) := by decide +kernel
theorem dX7_fan_151 : decode cX7_fan 151 = .ok (.iconst 0, 1) := by decide +kernel
theorem dX7_fan_152 : decode cX7_fan 152 = .ok (.iastore, 1) := by decide +kernel
theorem dX7_fan_153 : decode cX7_fan 153 = .ok (.iinc 7 1, 3) := by decide +kernel
theorem dX7_fan_156 : decode cX7_fan 156 = .ok (.goto (-69), 3) := by decide +kernel
theorem dX7_fan_159 : decode cX7_fan 159 = .ok (.iinc 6 1, 3) := by decide +kernel
theorem dX7_fan_162 : decode cX7_fan 162 = .ok (.goto (-84), 3) := by decide +kernel
theorem dX7_fan_165 : decode cX7_fan 165 = .ok (.iconst 1, 1) := by decide +kernel
theorem dX7_fan_166 : decode cX7_fan 166 = .ok (.ireturn, 1) := by decide +kernel
set_option maxRecDepth 20000 in
theorem ggX7_fanAt_X7_in : GoodIn wsX7_fanAt wsX7_in := goodIn_r _ [8] (by decide +kernel) (by decide +kernel)
set_option maxRecDepth 20000 in
theorem gX7_fanAt_X7_in : GoodIn wsX7_fanAt (va_wsS RX7 7 yX7_in wsX7_in) := goodIn_app (goodIn_of _ (by decide +kernel)) ggX7_fanAt_X7_in
theorem dX7_fanAt_0 : decode cX7_fanAt 0 = .ok (.iload_n 1, 1) := by decide +kernel
theorem dX7_fanAt_1 : decode cX7_fanAt 1 = .ok (.i2l, 1) := by decide +kernel
theorem dX7_fanAt_2 : decode cX7_fanAt 2 = .ok (.lconst 0, 1) := by decide +kernel
theorem dX7_fanAt_3 : decode cX7_fanAt 3 = .ok (.aload_n 0, 1) := by decide +kernel
theorem dX7_fanAt_4 : decode cX7_fanAt 4 = .ok (.getfield 182, 3) := by decide +kernel
theorem dX7_fanAt_7 : decode cX7_fanAt 7 = .ok (.iconst 1, 1) := by decide +kernel
theorem dX7_fanAt_8 : decode cX7_fanAt 8 = .ok (.isub, 1) := by decide +kernel
theorem dX7_fanAt_9 : decode cX7_fanAt 9 = .ok (.i2l, 1) := by decide +kernel
theorem dX7_fanAt_10 : decode cX7_fanAt 10 = .ok (.invokestatic 7, 3) := by decide +kernel
theorem dX7_fanAt_13 : decode cX7_fanAt 13 = .ok (.ifCond .eq 33, 3) := by decide +kernel
theorem dX7_fanAt_16 : decode cX7_fanAt 16 = .ok (.iload_n 2, 1) := by decide +kernel
theorem dX7_fanAt_17 : decode cX7_fanAt 17 = .ok (.i2l, 1) := by decide +kernel
theorem dX7_fanAt_18 : decode cX7_fanAt 18 = .ok (.lconst 0, 1) := by decide +kernel
theorem dX7_fanAt_19 : decode cX7_fanAt 19 = .ok (.aload_n 0, 1) := by decide +kernel
theorem dX7_fanAt_20 : decode cX7_fanAt 20 = .ok (.getfield 185, 3) := by decide +kernel
theorem dX7_fanAt_23 : decode cX7_fanAt 23 = .ok (.iconst 1, 1) := by decide +kernel
theorem dX7_fanAt_24 : decode cX7_fanAt 24 = .ok (.isub, 1) := by decide +kernel
theorem dX7_fanAt_25 : decode cX7_fanAt 25 = .ok (.i2l, 1) := by decide +kernel
theorem dX7_fanAt_26 : decode cX7_fanAt 26 = .ok (.invokestatic 7, 3) := by decide +kernel
theorem dX7_fanAt_29 : decode cX7_fanAt 29 = .ok (.ifCond .eq 17, 3) := by decide +kernel
theorem dX7_fanAt_32 : decode cX7_fanAt 32 = .ok (.aload_n 0, 1) := by decide +kernel
theorem dX7_fanAt_33 : decode cX7_fanAt 33 = .ok (.getfield 78, 3) := by decide +kernel
theorem dX7_fanAt_36 : decode cX7_fanAt 36 = .ok (.bipush 16, 2) := by decide +kernel
theorem dX7_fanAt_38 : decode cX7_fanAt 38 = .ok (.iload_n 1, 1) := by decide +kernel
theorem dX7_fanAt_39 : decode cX7_fanAt 39 = .ok (.imul, 1) := by decide +kernel
theorem dX7_fanAt_40 : decode cX7_fanAt 40 = .ok (.iload_n 2, 1) := by decide +kernel
theorem dX7_fanAt_41 : decode cX7_fanAt 41 = .ok (.iadd, 1) := by decide +kernel
theorem dX7_fanAt_42 : decode cX7_fanAt 42 = .ok (.iaload, 1) := by decide +kernel
theorem dX7_fanAt_43 : decode cX7_fanAt 43 = .ok (.goto 5, 3) := by decide +kernel
theorem dX7_fanAt_46 : decode cX7_fanAt 46 = .ok (.ldc 159, 2) := by decide +kernel
theorem dX7_fanAt_48 : decode cX7_fanAt 48 = .ok (.ireturn, 1) := by decide +kernel
theorem dX7_shared_0 : decode cX7_shared 0 = .ok (.iload_n 1, 1) := by decide +kernel
theorem dX7_shared_1 : decode cX7_shared 1 = .ok (.ifCond .ne 7, 3) := by decide +kernel
theorem dX7_shared_4 : decode cX7_shared 4 = .ok (.lconst 0, 1) := by decide +kernel
theorem dX7_shared_5 : decode cX7_shared 5 = .ok (.goto 18, 3) := by decide +kernel
theorem dX7_shared_8 : decode cX7_shared 8 = .ok (.iload_n 1, 1) := by decide +kernel
theorem dX7_shared_9 : decode cX7_shared 9 = .ok (.i2l, 1) := by decide +kernel
theorem dX7_shared_10 : decode cX7_shared 10 = .ok (.aload_n 0, 1) := by decide +kernel
theorem dX7_shared_11 : decode cX7_shared 11 = .ok (.getfield 78, 3) := by decide +kernel
theorem dX7_shared_14 : decode cX7_shared 14 = .ok (.bipush 16, 2) := by decide +kernel
theorem dX7_shared_16 : decode cX7_shared 16 = .ok (.iload_n 2, 1) := by decide +kernel
theorem dX7_shared_17 : decode cX7_shared 17 = .ok (.imul, 1) := by decide +kernel
theorem dX7_shared_18 : decode cX7_shared 18 = .ok (.iload_n 3, 1) := by decide +kernel
theorem dX7_shared_19 : decode cX7_shared 19 = .ok (.iadd, 1) := by decide +kernel
theorem dX7_shared_20 : decode cX7_shared 20 = .ok (.iaload, 1) := by decide +kernel
theorem dX7_shared_21 : decode cX7_shared 21 = .ok (.i2l, 1) := by decide +kernel
theorem dX7_shared_22 : decode cX7_shared 22 = .ok (.lmul, 1) := by decide +kernel
theorem dX7_shared_23 : decode cX7_shared 23 = .ok (.lreturn, 1) := by decide +kernel
set_option maxRecDepth 20000 in
theorem ggX7_board_X7_in : GoodIn wsX7_board wsX7_in := goodIn_r _ [12] (by decide +kernel) (by decide +kernel)
set_option maxRecDepth 20000 in
theorem gX7_board_X7_in : GoodIn wsX7_board (va_wsS RX7 7 yX7_in wsX7_in) := goodIn_app (goodIn_of _ (by decide +kernel)) ggX7_board_X7_in
set_option maxRecDepth 20000 in
theorem ggX7_board_X7_shared : GoodIn wsX7_board wsX7_shared := goodIn_r _ [16, 17, 18, 19, 20, 21, 22, 23, 24, 25, 26, 27, 28, 29, 30, 31, 32, 33, 34, 35, 36, 37, 38, 39, 40, 41, 42, 43, 44, 45] (by decide +kernel) (by decide +kernel)
set_option maxRecDepth 20000 in
theorem gX7_board_X7_shared : GoodIn wsX7_board (wsV RX7 193 RX7 yX7_shared wsX7_shared) := goodIn_app (goodIn_of _ (by decide +kernel)) ggX7_board_X7_shared
theorem dX7_board_0 : decode cX7_board 0 = .ok (.iload_n 1, 1) := by decide +kernel
theorem dX7_board_1 : decode cX7_board 1 = .ok (.i2l, 1) := by decide +kernel
theorem dX7_board_2 : decode cX7_board 2 = .ok (.ldc2_w 81, 3) := by decide +kernel
theorem dX7_board_5 : decode cX7_board 5 = .ok (.ldc2_w 191, 3) := by decide +kernel
theorem dX7_board_8 : decode cX7_board 8 = .ok (.invokestatic 7, 3) := by decide +kernel
theorem dX7_board_11 : decode cX7_board 11 = .ok (.ifCond .eq 64, 3) := by decide +kernel
theorem dX7_board_14 : decode cX7_board 14 = .ok (.iload_n 2, 1) := by decide +kernel
theorem dX7_board_15 : decode cX7_board 15 = .ok (.i2l, 1) := by decide +kernel
theorem dX7_board_16 : decode cX7_board 16 = .ok (.ldc2_w 81, 3) := by decide +kernel
theorem dX7_board_19 : decode cX7_board 19 = .ok (.ldc2_w 191, 3) := by decide +kernel
theorem dX7_board_22 : decode cX7_board 22 = .ok (.invokestatic 7, 3) := by decide +kernel
theorem dX7_board_25 : decode cX7_board 25 = .ok (.ifCond .eq 50, 3) := by decide +kernel
theorem dX7_board_28 : decode cX7_board 28 = .ok (.iload_n 3, 1) := by decide +kernel
theorem dX7_board_29 : decode cX7_board 29 = .ok (.i2l, 1) := by decide +kernel
theorem dX7_board_30 : decode cX7_board 30 = .ok (.lconst 1, 1) := by decide +kernel
theorem dX7_board_31 : decode cX7_board 31 = .ok (.ldc2_w 166, 3) := by decide +kernel
theorem dX7_board_34 : decode cX7_board 34 = .ok (.invokestatic 7, 3) := by decide +kernel
theorem dX7_board_37 : decode cX7_board 37 = .ok (.ifCond .eq 38, 3) := by decide +kernel
theorem dX7_board_40 : decode cX7_board 40 = .ok (.iload 4, 2) := by decide +kernel
theorem dX7_board_42 : decode cX7_board 42 = .ok (.i2l, 1) := by decide +kernel
theorem dX7_board_43 : decode cX7_board 43 = .ok (.lconst 0, 1) := by decide +kernel
theorem dX7_board_44 : decode cX7_board 44 = .ok (.iload_n 1, 1) := by decide +kernel
theorem dX7_board_45 : decode cX7_board 45 = .ok (.iconst 1, 1) := by decide +kernel
theorem dX7_board_46 : decode cX7_board 46 = .ok (.isub, 1) := by decide +kernel
theorem dX7_board_47 : decode cX7_board 47 = .ok (.i2l, 1) := by decide +kernel
theorem dX7_board_48 : decode cX7_board 48 = .ok (.invokestatic 7, 3) := by decide +kernel
theorem dX7_board_51 : decode cX7_board 51 = .ok (.ifCond .eq 24, 3) := by decide +kernel
theorem dX7_board_54 : decode cX7_board 54 = .ok (.iload 5, 2) := by decide +kernel
theorem dX7_board_56 : decode cX7_board 56 = .ok (.i2l, 1) := by decide +kernel
theorem dX7_board_57 : decode cX7_board 57 = .ok (.lconst 0, 1) := by decide +kernel
theorem dX7_board_58 : decode cX7_board 58 = .ok (.iload_n 2, 1) := by decide +kernel
theorem dX7_board_59 : decode cX7_board 59 = .ok (.iconst 1, 1) := by decide +kernel
theorem dX7_board_60 : decode cX7_board 60 = .ok (.isub, 1) := by decide +kernel
theorem dX7_board_61 : decode cX7_board 61 = .ok (.i2l, 1) := by decide +kernel
theorem dX7_board_62 : decode cX7_board 62 = .ok (.invokestatic 7, 3) := by decide +kernel
theorem dX7_board_65 : decode cX7_board 65 = .ok (.ifCond .eq 10, 3) := by decide +kernel
theorem dX7_board_68 : decode cX7_board 68 = .ok (.aload_n 0, 1) := by decide +kernel
theorem dX7_board_69 : decode cX7_board 69 = .ok (.getfield 182, 3) := by decide +kernel
theorem dX7_board_72 : decode cX7_board 72 = .ok (.ifCond .ne 6, 3) := by decide +kernel
theorem dX7_board_75 : decode cX7_board 75 = .ok (.ldc 159, 2) := by decide +kernel
theorem dX7_board_77 : decode cX7_board 77 = .ok (.ireturn, 1) := by decide +kernel
theorem dX7_board_78 : decode cX7_board 78 = .ok (.iload_n 3, 1) := by decide +kernel
theorem dX7_board_79 : decode cX7_board 79 = .ok (.iconst 2, 1) := by decide +kernel
theorem dX7_board_80 : decode cX7_board 80 = .ok (.iload 4, 2) := by decide +kernel
theorem dX7_board_82 : decode cX7_board 82 = .ok (.imul, 1) := by decide +kernel
theorem dX7_board_83 : decode cX7_board 83 = .ok (.iload_n 1, 1) := by decide +kernel
theorem dX7_board_84 : decode cX7_board 84 = .ok (.isub, 1) := by decide +kernel
theorem dX7_board_85 : decode cX7_board 85 = .ok (.iconst 1, 1) := by decide +kernel
theorem dX7_board_86 : decode cX7_board 86 = .ok (.iadd, 1) := by decide +kernel
theorem dX7_board_87 : decode cX7_board 87 = .ok (.imul, 1) := by decide +kernel
theorem dX7_board_88 : decode cX7_board 88 = .ok (.iconst 2, 1) := by decide +kernel
theorem dX7_board_89 : decode cX7_board 89 = .ok (.idiv, 1) := by decide +kernel
theorem dX7_board_90 : decode cX7_board 90 = .ok (.istore 6, 2) := by decide +kernel
theorem dX7_board_92 : decode cX7_board 92 = .ok (.iload_n 3, 1) := by decide +kernel
theorem dX7_board_93 : decode cX7_board 93 = .ok (.iload 5, 2) := by decide +kernel
theorem dX7_board_95 : decode cX7_board 95 = .ok (.imul, 1) := by decide +kernel
theorem dX7_board_96 : decode cX7_board 96 = .ok (.istore 7, 2) := by decide +kernel
theorem dX7_board_98 : decode cX7_board 98 = .ok (.bipush 16, 2) := by decide +kernel
theorem dX7_board_100 : decode cX7_board 100 = .ok (.iload 7, 2) := by decide +kernel
theorem dX7_board_102 : decode cX7_board 102 = .ok (.imul, 1) := by decide +kernel
theorem dX7_board_103 : decode cX7_board 103 = .ok (.aload_n 0, 1) := by decide +kernel
theorem dX7_board_104 : decode cX7_board 104 = .ok (.getfield 188, 3) := by decide +kernel
theorem dX7_board_107 : decode cX7_board 107 = .ok (.idiv, 1) := by decide +kernel
theorem dX7_board_108 : decode cX7_board 108 = .ok (.istore 8, 2) := by decide +kernel
theorem dX7_board_110 : decode cX7_board 110 = .ok (.bipush 16, 2) := by decide +kernel
theorem dX7_board_112 : decode cX7_board 112 = .ok (.aload_n 0, 1) := by decide +kernel
theorem dX7_board_113 : decode cX7_board 113 = .ok (.getfield 182, 3) := by decide +kernel
theorem dX7_board_116 : decode cX7_board 116 = .ok (.iconst 1, 1) := by decide +kernel
theorem dX7_board_117 : decode cX7_board 117 = .ok (.isub, 1) := by decide +kernel
theorem dX7_board_118 : decode cX7_board 118 = .ok (.iconst 2, 1) := by decide +kernel
theorem dX7_board_119 : decode cX7_board 119 = .ok (.idiv, 1) := by decide +kernel
theorem dX7_board_120 : decode cX7_board 120 = .ok (.imul, 1) := by decide +kernel
theorem dX7_board_121 : decode cX7_board 121 = .ok (.iload 7, 2) := by decide +kernel
theorem dX7_board_123 : decode cX7_board 123 = .ok (.ifCond .ne 7, 3) := by decide +kernel
theorem dX7_board_126 : decode cX7_board 126 = .ok (.iconst 0, 1) := by decide +kernel
theorem dX7_board_127 : decode cX7_board 127 = .ok (.goto 12, 3) := by decide +kernel
theorem dX7_board_130 : decode cX7_board 130 = .ok (.sipush 128, 3) := by decide +kernel
theorem dX7_board_133 : decode cX7_board 133 = .ok (.iload 6, 2) := by decide +kernel
theorem dX7_board_135 : decode cX7_board 135 = .ok (.imul, 1) := by decide +kernel
theorem dX7_board_136 : decode cX7_board 136 = .ok (.iload 7, 2) := by decide +kernel
theorem dX7_board_138 : decode cX7_board 138 = .ok (.idiv, 1) := by decide +kernel
theorem dX7_board_139 : decode cX7_board 139 = .ok (.iadd, 1) := by decide +kernel
theorem dX7_board_140 : decode cX7_board 140 = .ok (.istore 9, 2) := by decide +kernel
theorem dX7_board_142 : decode cX7_board 142 = .ok (.iload 9, 2) := by decide +kernel
theorem dX7_board_144 : decode cX7_board 144 = .ok (.ifCond .lt 31, 3) := by decide +kernel
theorem dX7_board_147 : decode cX7_board 147 = .ok (.iload 9, 2) := by decide +kernel
theorem dX7_board_149 : decode cX7_board 149 = .ok (.bipush 16, 2) := by decide +kernel
theorem dX7_board_151 : decode cX7_board 151 = .ok (.aload_n 0, 1) := by decide +kernel
theorem dX7_board_152 : decode cX7_board 152 = .ok (.getfield 182, 3) := by decide +kernel
theorem dX7_board_155 : decode cX7_board 155 = .ok (.iconst 1, 1) := by decide +kernel
theorem dX7_board_156 : decode cX7_board 156 = .ok (.isub, 1) := by decide +kernel
theorem dX7_board_157 : decode cX7_board 157 = .ok (.imul, 1) := by decide +kernel
theorem dX7_board_158 : decode cX7_board 158 = .ok (.if_icmp .gt 17, 3) := by decide +kernel
theorem dX7_board_161 : decode cX7_board 161 = .ok (.iload 8, 2) := by decide +kernel
theorem dX7_board_163 : decode cX7_board 163 = .ok (.bipush 16, 2) := by decide +kernel
theorem dX7_board_165 : decode cX7_board 165 = .ok (.aload_n 0, 1) := by decide +kernel
theorem dX7_board_166 : decode cX7_board 166 = .ok (.getfield 185, 3) := by decide +kernel
theorem dX7_board_169 : decode cX7_board 169 = .ok (.iconst 1, 1) := by decide +kernel
theorem dX7_board_170 : decode cX7_board 170 = .ok (.isub, 1) := by decide +kernel
theorem dX7_board_171 : decode cX7_board 171 = .ok (.imul, 1) := by decide +kernel
theorem dX7_board_172 : decode cX7_board 172 = .ok (.if_icmp .le 5, 3) := by decide +kernel
theorem dX7_board_175 : decode cX7_board 175 = .ok (.iconst 0, 1) := by decide +kernel
theorem dX7_board_176 : decode cX7_board 176 = .ok (.ireturn, 1) := by decide +kernel
theorem dX7_board_177 : decode cX7_board 177 = .ok (.iload 8, 2) := by decide +kernel
theorem dX7_board_179 : decode cX7_board 179 = .ok (.bipush 16, 2) := by decide +kernel
theorem dX7_board_181 : decode cX7_board 181 = .ok (.idiv, 1) := by decide +kernel
theorem dX7_board_182 : decode cX7_board 182 = .ok (.istore 10, 2) := by decide +kernel
theorem dX7_board_184 : decode cX7_board 184 = .ok (.iload 8, 2) := by decide +kernel
theorem dX7_board_186 : decode cX7_board 186 = .ok (.bipush 16, 2) := by decide +kernel
theorem dX7_board_188 : decode cX7_board 188 = .ok (.irem, 1) := by decide +kernel
theorem dX7_board_189 : decode cX7_board 189 = .ok (.istore 11, 2) := by decide +kernel
theorem dX7_board_191 : decode cX7_board 191 = .ok (.iload 9, 2) := by decide +kernel
theorem dX7_board_193 : decode cX7_board 193 = .ok (.bipush 16, 2) := by decide +kernel
theorem dX7_board_195 : decode cX7_board 195 = .ok (.idiv, 1) := by decide +kernel
theorem dX7_board_196 : decode cX7_board 196 = .ok (.istore 12, 2) := by decide +kernel
theorem dX7_board_198 : decode cX7_board 198 = .ok (.iload 9, 2) := by decide +kernel
theorem dX7_board_200 : decode cX7_board 200 = .ok (.bipush 16, 2) := by decide +kernel
theorem dX7_board_202 : decode cX7_board 202 = .ok (.irem, 1) := by decide +kernel
theorem dX7_board_203 : decode cX7_board 203 = .ok (.istore 13, 2) := by decide +kernel
theorem dX7_board_205 : decode cX7_board 205 = .ok (.aload_n 0, 1) := by decide +kernel
theorem dX7_board_206 : decode cX7_board 206 = .ok (.bipush 16, 2) := by decide +kernel
theorem dX7_board_208 : decode cX7_board 208 = .ok (.iload 13, 2) := by decide +kernel
theorem dX7_board_210 : decode cX7_board 210 = .ok (.isub, 1) := by decide +kernel
theorem dX7_board_211 : decode cX7_board 211 = .ok (.bipush 16, 2) := by decide +kernel
theorem dX7_board_213 : decode cX7_board 213 = .ok (.iload 11, 2) := by decide +kernel
theorem dX7_board_215 : decode cX7_board 215 = .ok (.isub, 1) := by decide +kernel
theorem dX7_board_216 : decode cX7_board 216 = .ok (.imul, 1) := by decide +kernel
theorem dX7_board_217 : decode cX7_board 217 = .ok (.iload 12, 2) := by decide +kernel
theorem dX7_board_219 : decode cX7_board 219 = .ok (.iload 10, 2) := by decide +kernel
theorem dX7_board_221 : decode cX7_board 221 = .ok (.invokevirtual 193, 3) := by decide +kernel
theorem dX7_board_224 : decode cX7_board 224 = .ok (.aload_n 0, 1) := by decide +kernel
theorem dX7_board_225 : decode cX7_board 225 = .ok (.iload 13, 2) := by decide +kernel
theorem dX7_board_227 : decode cX7_board 227 = .ok (.bipush 16, 2) := by decide +kernel
theorem dX7_board_229 : decode cX7_board 229 = .ok (.iload 11, 2) := by decide +kernel
theorem dX7_board_231 : decode cX7_board 231 = .ok (.isub, 1) := by decide +kernel
theorem dX7_board_232 : decode cX7_board 232 = .ok (.imul, 1) := by decide +kernel
theorem dX7_board_233 : decode cX7_board 233 = .ok (.iload 12, 2) := by decide +kernel
theorem dX7_board_235 : decode cX7_board 235 = .ok (.iconst 1, 1) := by decide +kernel
theorem dX7_board_236 : decode cX7_board 236 = .ok (.iadd, 1) := by decide +kernel
theorem dX7_board_237 : decode cX7_board 237 = .ok (.iload 10, 2) := by decide +kernel
theorem dX7_board_239 : decode cX7_board 239 = .ok (.invokevirtual 193, 3) := by decide +kernel
theorem dX7_board_242 : decode cX7_board 242 = .ok (.ladd, 1) := by decide +kernel
theorem dX7_board_243 : decode cX7_board 243 = .ok (.aload_n 0, 1) := by decide +kernel
theorem dX7_board_244 : decode cX7_board 244 = .ok (.bipush 16, 2) := by decide +kernel
theorem dX7_board_246 : decode cX7_board 246 = .ok (.iload 13, 2) := by decide +kernel
theorem dX7_board_248 : decode cX7_board 248 = .ok (.isub, 1) := by decide +kernel
theorem dX7_board_249 : decode cX7_board 249 = .ok (.iload 11, 2) := by decide +kernel
theorem dX7_board_251 : decode cX7_board 251 = .ok (.imul, 1) := by decide +kernel
theorem dX7_board_252 : decode cX7_board 252 = .ok (.iload 12, 2) := by decide +kernel
theorem dX7_board_254 : decode cX7_board 254 = .ok (.iload 10, 2) := by decide +kernel
theorem dX7_board_256 : decode cX7_board 256 = .ok (.iconst 1, 1) := by decide +kernel
theorem dX7_board_257 : decode cX7_board 257 = .ok (.iadd, 1) := by decide +kernel
theorem dX7_board_258 : decode cX7_board 258 = .ok (.invokevirtual 193, 3) := by decide +kernel
theorem dX7_board_261 : decode cX7_board 261 = .ok (.ladd, 1) := by decide +kernel
theorem dX7_board_262 : decode cX7_board 262 = .ok (.aload_n 0, 1) := by decide +kernel
theorem dX7_board_263 : decode cX7_board 263 = .ok (.iload 13, 2) := by decide +kernel
theorem dX7_board_265 : decode cX7_board 265 = .ok (.iload 11, 2) := by decide +kernel
theorem dX7_board_267 : decode cX7_board 267 = .ok (.imul, 1) := by decide +kernel
theorem dX7_board_268 : decode cX7_board 268 = .ok (.iload 12, 2) := by decide +kernel
theorem dX7_board_270 : decode cX7_board 270 = .ok (.iconst 1, 1) := by decide +kernel
theorem dX7_board_271 : decode cX7_board 271 = .ok (.iadd, 1) := by decide +kernel
theorem dX7_board_272 : decode cX7_board 272 = .ok (.iload 10, 2) := by decide +kernel
theorem dX7_board_274 : decode cX7_board 274 = .ok (.iconst 1, 1) := by decide +kernel
theorem dX7_board_275 : decode cX7_board 275 = .ok (.iadd, 1) := by decide +kernel
theorem dX7_board_276 : decode cX7_board 276 = .ok (.invokevirtual 193, 3) := by decide +kernel
theorem dX7_board_279 : decode cX7_board 279 = .ok (.ladd, 1) := by decide +kernel
theorem dX7_board_280 : decode cX7_board 280 = .ok (.lstore 14, 2) := by decide +kernel
theorem dX7_board_282 : decode cX7_board 282 = .ok (.lload 14, 2) := by decide +kernel
theorem dX7_board_284 : decode cX7_board 284 = .ok (.ldc2_w 196, 3) := by decide +kernel
theorem dX7_board_287 : decode cX7_board 287 = .ok (.ldiv, 1) := by decide +kernel
theorem dX7_board_288 : decode cX7_board 288 = .ok (.l2i, 1) := by decide +kernel
theorem dX7_board_289 : decode cX7_board 289 = .ok (.ireturn, 1) := by decide +kernel
set_option maxRecDepth 20000 in
theorem ggX7_caliper_X7_isPlace : GoodIn wsX7_caliper wsX7_isPlace := goodIn_r _ [4, 5, 6, 7, 8, 9, 3, 10] (by decide +kernel) (by decide +kernel)
set_option maxRecDepth 20000 in
theorem gX7_caliper_X7_isPlace : GoodIn wsX7_caliper (va_wsS RX7 110 yX7_isPlace wsX7_isPlace) := goodIn_app (goodIn_of _ (by decide +kernel)) ggX7_caliper_X7_isPlace
set_option maxRecDepth 20000 in
theorem ggX7_caliper_X7_rootOf : GoodIn wsX7_caliper wsX7_rootOf := goodIn_r _ [13, 14, 15] (by decide +kernel) (by decide +kernel)
set_option maxRecDepth 20000 in
theorem gX7_caliper_X7_rootOf : GoodIn wsX7_caliper (va_wsS RX7 106 yX7_rootOf wsX7_rootOf) := goodIn_app (goodIn_of _ (by decide +kernel)) ggX7_caliper_X7_rootOf
theorem dX7_caliper_0 : decode cX7_caliper 0 = .ok (.iload_n 1, 1) := by decide +kernel
theorem dX7_caliper_1 : decode cX7_caliper 1 = .ok (.iload_n 2, 1) := by decide +kernel
theorem dX7_caliper_2 : decode cX7_caliper 2 = .ok (.invokestatic 110, 3) := by decide +kernel
theorem dX7_caliper_5 : decode cX7_caliper 5 = .ok (.ifCond .eq 12, 3) := by decide +kernel
theorem dX7_caliper_8 : decode cX7_caliper 8 = .ok (.iload_n 3, 1) := by decide +kernel
theorem dX7_caliper_9 : decode cX7_caliper 9 = .ok (.iload 4, 2) := by decide +kernel
theorem dX7_caliper_11 : decode cX7_caliper 11 = .ok (.invokestatic 110, 3) := by decide +kernel
theorem dX7_caliper_14 : decode cX7_caliper 14 = .ok (.ifCond .ne 6, 3) := by decide +kernel
theorem dX7_caliper_17 : decode cX7_caliper 17 = .ok (.bipush (-2), 2) := by decide +kernel
theorem dX7_caliper_19 : decode cX7_caliper 19 = .ok (.ireturn, 1) := by decide +kernel
theorem dX7_caliper_20 : decode cX7_caliper 20 = .ok (.iload_n 1, 1) := by decide +kernel
theorem dX7_caliper_21 : decode cX7_caliper 21 = .ok (.iload_n 3, 1) := by decide +kernel
theorem dX7_caliper_22 : decode cX7_caliper 22 = .ok (.isub, 1) := by decide +kernel
theorem dX7_caliper_23 : decode cX7_caliper 23 = .ok (.i2l, 1) := by decide +kernel
theorem dX7_caliper_24 : decode cX7_caliper 24 = .ok (.lstore 5, 2) := by decide +kernel
theorem dX7_caliper_26 : decode cX7_caliper 26 = .ok (.iload_n 2, 1) := by decide +kernel
theorem dX7_caliper_27 : decode cX7_caliper 27 = .ok (.iload 4, 2) := by decide +kernel
theorem dX7_caliper_29 : decode cX7_caliper 29 = .ok (.isub, 1) := by decide +kernel
theorem dX7_caliper_30 : decode cX7_caliper 30 = .ok (.i2l, 1) := by decide +kernel
theorem dX7_caliper_31 : decode cX7_caliper 31 = .ok (.lstore 7, 2) := by decide +kernel
theorem dX7_caliper_33 : decode cX7_caliper 33 = .ok (.lload 5, 2) := by decide +kernel
theorem dX7_caliper_35 : decode cX7_caliper 35 = .ok (.lload 5, 2) := by decide +kernel
theorem dX7_caliper_37 : decode cX7_caliper 37 = .ok (.lmul, 1) := by decide +kernel
theorem dX7_caliper_38 : decode cX7_caliper 38 = .ok (.lload 7, 2) := by decide +kernel
theorem dX7_caliper_40 : decode cX7_caliper 40 = .ok (.lload 7, 2) := by decide +kernel
theorem dX7_caliper_42 : decode cX7_caliper 42 = .ok (.lmul, 1) := by decide +kernel
theorem dX7_caliper_43 : decode cX7_caliper 43 = .ok (.ladd, 1) := by decide +kernel
theorem dX7_caliper_44 : decode cX7_caliper 44 = .ok (.invokestatic 106, 3) := by decide +kernel
theorem dX7_caliper_47 : decode cX7_caliper 47 = .ok (.l2i, 1) := by decide +kernel
theorem dX7_caliper_48 : decode cX7_caliper 48 = .ok (.ireturn, 1) := by decide +kernel
set_option maxRecDepth 20000 in
theorem ggX7_cap_X7_in : GoodIn wsX7_cap wsX7_in := goodIn_r _ [6] (by decide +kernel) (by decide +kernel)
set_option maxRecDepth 20000 in
theorem gX7_cap_X7_in : GoodIn wsX7_cap (va_wsS RX7 7 yX7_in wsX7_in) := goodIn_app (goodIn_of _ (by decide +kernel)) ggX7_cap_X7_in
theorem dX7_cap_0 : decode cX7_cap 0 = .ok (.iload_n 1, 1) := by decide +kernel
theorem dX7_cap_1 : decode cX7_cap 1 = .ok (.i2l, 1) := by decide +kernel
theorem dX7_cap_2 : decode cX7_cap 2 = .ok (.lconst 0, 1) := by decide +kernel
theorem dX7_cap_3 : decode cX7_cap 3 = .ok (.ldc2_w 198, 3) := by decide +kernel
theorem dX7_cap_6 : decode cX7_cap 6 = .ok (.invokestatic 7, 3) := by decide +kernel
theorem dX7_cap_9 : decode cX7_cap 9 = .ok (.ifCond .ne 6, 3) := by decide +kernel
theorem dX7_cap_12 : decode cX7_cap 12 = .ok (.bipush (-2), 2) := by decide +kernel
theorem dX7_cap_14 : decode cX7_cap 14 = .ok (.ireturn, 1) := by decide +kernel
theorem dX7_cap_15 : decode cX7_cap 15 = .ok (.aload_n 0, 1) := by decide +kernel
theorem dX7_cap_16 : decode cX7_cap 16 = .ok (.getfield 41, 3) := by decide +kernel
theorem dX7_cap_19 : decode cX7_cap 19 = .ok (.istore_n 2, 1) := by decide +kernel
theorem dX7_cap_20 : decode cX7_cap 20 = .ok (.aload_n 0, 1) := by decide +kernel
theorem dX7_cap_21 : decode cX7_cap 21 = .ok (.iload_n 1, 1) := by decide +kernel
theorem dX7_cap_22 : decode cX7_cap 22 = .ok (.putfield 41, 3) := by decide +kernel
theorem dX7_cap_25 : decode cX7_cap 25 = .ok (.iload_n 2, 1) := by decide +kernel
theorem dX7_cap_26 : decode cX7_cap 26 = .ok (.ireturn, 1) := by decide +kernel
set_option maxRecDepth 20000 in
theorem ggX7_tick_X7_in : GoodIn wsX7_tick wsX7_in := goodIn_r _ [6] (by decide +kernel) (by decide +kernel)
set_option maxRecDepth 20000 in
theorem gX7_tick_X7_in : GoodIn wsX7_tick (va_wsS RX7 7 yX7_in wsX7_in) := goodIn_app (goodIn_of _ (by decide +kernel)) ggX7_tick_X7_in
theorem dX7_tick_0 : decode cX7_tick 0 = .ok (.iload_n 1, 1) := by decide +kernel
theorem dX7_tick_1 : decode cX7_tick 1 = .ok (.i2l, 1) := by decide +kernel
theorem dX7_tick_2 : decode cX7_tick 2 = .ok (.lconst 1, 1) := by decide +kernel
theorem dX7_tick_3 : decode cX7_tick 3 = .ok (.ldc2_w 96, 3) := by decide +kernel
theorem dX7_tick_6 : decode cX7_tick 6 = .ok (.invokestatic 7, 3) := by decide +kernel
theorem dX7_tick_9 : decode cX7_tick 9 = .ok (.ifCond .ne 6, 3) := by decide +kernel
theorem dX7_tick_12 : decode cX7_tick 12 = .ok (.bipush (-2), 2) := by decide +kernel
theorem dX7_tick_14 : decode cX7_tick 14 = .ok (.ireturn, 1) := by decide +kernel
theorem dX7_tick_15 : decode cX7_tick 15 = .ok (.iconst 0, 1) := by decide +kernel
theorem dX7_tick_16 : decode cX7_tick 16 = .ok (.istore_n 2, 1) := by decide +kernel
theorem dX7_tick_17 : decode cX7_tick 17 = .ok (.iload_n 2, 1) := by decide +kernel
theorem dX7_tick_18 : decode cX7_tick 18 = .ok (.iload_n 1, 1) := by decide +kernel
theorem dX7_tick_19 : decode cX7_tick 19 = .ok (.if_icmp .ge 28, 3) := by decide +kernel
theorem dX7_tick_22 : decode cX7_tick 22 = .ok (.aload_n 0, 1) := by decide +kernel
theorem dX7_tick_23 : decode cX7_tick 23 = .ok (.dup, 1) := by decide +kernel
theorem dX7_tick_24 : decode cX7_tick 24 = .ok (.getfield 93, 3) := by decide +kernel
theorem dX7_tick_27 : decode cX7_tick 27 = .ok (.aload_n 0, 1) := by decide +kernel
theorem dX7_tick_28 : decode cX7_tick 28 = .ok (.getfield 93, 3) := by decide +kernel
theorem dX7_tick_31 : decode cX7_tick 31 = .ok (.bipush 31, 2) := by decide +kernel
theorem dX7_tick_33 : decode cX7_tick 33 = .ok (.iadd, 1) := by decide +kernel
theorem dX7_tick_34 : decode cX7_tick 34 = .ok (.bipush 32, 2) := by decide +kernel
theorem dX7_tick_36 : decode cX7_tick 36 = .ok (.idiv, 1) := by decide +kernel
theorem dX7_tick_37 : decode cX7_tick 37 = .ok (.isub, 1) := by decide +kernel
theorem dX7_tick_38 : decode cX7_tick 38 = .ok (.putfield 93, 3) := by decide +kernel
theorem dX7_tick_41 : decode cX7_tick 41 = .ok (.iinc 2 1, 3) := by decide +kernel
theorem dX7_tick_44 : decode cX7_tick 44 = .ok (.goto (-27), 3) := by decide +kernel
theorem dX7_tick_47 : decode cX7_tick 47 = .ok (.aload_n 0, 1) := by decide +kernel
theorem dX7_tick_48 : decode cX7_tick 48 = .ok (.getfield 93, 3) := by decide +kernel
theorem dX7_tick_51 : decode cX7_tick 51 = .ok (.ireturn, 1) := by decide +kernel
set_option maxRecDepth 20000 in
theorem ggX7_count_X7_alive : GoodIn wsX7_count wsX7_alive := goodIn_r _ [11, 1, 12, 13, 14, 15, 16, 17, 18, 19, 20, 21, 22, 23, 24, 25, 26, 27, 28, 29, 30, 31, 32, 33, 34, 35, 36, 37, 38, 39, 40] (by decide +kernel) (by decide +kernel)
set_option maxRecDepth 20000 in
theorem gX7_count_X7_alive : GoodIn wsX7_count (wsV RX7 98 RX7 yX7_alive wsX7_alive) := goodIn_app (goodIn_of _ (by decide +kernel)) ggX7_count_X7_alive
theorem dX7_count_0 : decode cX7_count 0 = .ok (.iload_n 1, 1) := by decide +kernel
theorem dX7_count_1 : decode cX7_count 1 = .ok (.tableswitch 78 0 6 #[43, 48, 53, 58, 63, 68, 73], 43) := by decide +kernel
theorem dX7_count_44 : decode cX7_count 44 = .ok (.aload_n 0, 1) := by decide +kernel
theorem dX7_count_45 : decode cX7_count 45 = .ok (.getfield 19, 3) := by decide +kernel
theorem dX7_count_48 : decode cX7_count 48 = .ok (.ireturn, 1) := by decide +kernel
theorem dX7_count_49 : decode cX7_count 49 = .ok (.aload_n 0, 1) := by decide +kernel
theorem dX7_count_50 : decode cX7_count 50 = .ok (.invokevirtual 98, 3) := by decide +kernel
theorem dX7_count_53 : decode cX7_count 53 = .ok (.ireturn, 1) := by decide +kernel
theorem dX7_count_54 : decode cX7_count 54 = .ok (.aload_n 0, 1) := by decide +kernel
theorem dX7_count_55 : decode cX7_count 55 = .ok (.getfield 124, 3) := by decide +kernel
theorem dX7_count_58 : decode cX7_count 58 = .ok (.ireturn, 1) := by decide +kernel
theorem dX7_count_59 : decode cX7_count 59 = .ok (.aload_n 0, 1) := by decide +kernel
theorem dX7_count_60 : decode cX7_count 60 = .ok (.getfield 87, 3) := by decide +kernel
theorem dX7_count_63 : decode cX7_count 63 = .ok (.ireturn, 1) := by decide +kernel
theorem dX7_count_64 : decode cX7_count 64 = .ok (.aload_n 0, 1) := by decide +kernel
theorem dX7_count_65 : decode cX7_count 65 = .ok (.getfield 90, 3) := by decide +kernel
theorem dX7_count_68 : decode cX7_count 68 = .ok (.ireturn, 1) := by decide +kernel
theorem dX7_count_69 : decode cX7_count 69 = .ok (.aload_n 0, 1) := by decide +kernel
theorem dX7_count_70 : decode cX7_count 70 = .ok (.getfield 93, 3) := by decide +kernel
theorem dX7_count_73 : decode cX7_count 73 = .ok (.ireturn, 1) := by decide +kernel
theorem dX7_count_74 : decode cX7_count 74 = .ok (.aload_n 0, 1) := by decide +kernel
theorem dX7_count_75 : decode cX7_count 75 = .ok (.getfield 136, 3) := by decide +kernel
theorem dX7_count_78 : decode cX7_count 78 = .ok (.ireturn, 1) := by decide +kernel
theorem dX7_count_79 : decode cX7_count 79 = .ok (.bipush (-2), 2) := by decide +kernel
theorem dX7_count_81 : decode cX7_count 81 = .ok (.ireturn, 1) := by decide +kernel
set_option maxRecDepth 20000 in
theorem ggX7_digest_X7_count : GoodIn wsX7_digest wsX7_count := goodIn_r _ [17, 8, 3, 6, 9, 18, 19, 20, 21, 22, 16, 23, 24, 34, 35, 36, 37, 38, 39, 40, 41, 42, 43, 44, 45, 46, 47, 48, 49, 50, 51, 52, 53, 54, 55, 56, 57, 58, 59, 60, 61] (by decide +kernel) (by decide +kernel)
set_option maxRecDepth 20000 in
theorem gX7_digest_X7_count : GoodIn wsX7_digest (wsV RX7 204 RX7 yX7_count wsX7_count) := goodIn_app (goodIn_of _ (by decide +kernel)) ggX7_digest_X7_count
set_option maxRecDepth 20000 in
theorem ggX7_digest_X7_sampleAt : GoodIn wsX7_digest wsX7_sampleAt := goodIn_r _ [28, 29, 30, 31, 32, 16, 33, 34, 35, 36, 37, 38, 39, 40, 41, 42, 43, 44, 45, 46, 47, 48, 49, 50, 51, 52, 53, 54, 55, 56, 57, 58, 59, 60, 61] (by decide +kernel) (by decide +kernel)
set_option maxRecDepth 20000 in
theorem gX7_digest_X7_sampleAt : GoodIn wsX7_digest (wsV RX7 143 RX7 yX7_sampleAt wsX7_sampleAt) := goodIn_app (goodIn_of _ (by decide +kernel)) ggX7_digest_X7_sampleAt
theorem dX7_digest_0 : decode cX7_digest 0 = .ok (.ldc2_w 200, 3) := by decide +kernel
theorem dX7_digest_3 : decode cX7_digest 3 = .ok (.lstore_n 1, 1) := by decide +kernel
theorem dX7_digest_4 : decode cX7_digest 4 = .ok (.iconst 0, 1) := by decide +kernel
theorem dX7_digest_5 : decode cX7_digest 5 = .ok (.istore_n 3, 1) := by decide +kernel
theorem dX7_digest_6 : decode cX7_digest 6 = .ok (.iload_n 3, 1) := by decide +kernel
theorem dX7_digest_7 : decode cX7_digest 7 = .ok (.bipush 7, 2) := by decide +kernel
theorem dX7_digest_9 : decode cX7_digest 9 = .ok (.if_icmp .ge 22, 3) := by decide +kernel
theorem dX7_digest_12 : decode cX7_digest 12 = .ok (.ldc2_w 202, 3) := by decide +kernel
theorem dX7_digest_15 : decode cX7_digest 15 = .ok (.lload_n 1, 1) := by decide +kernel
theorem dX7_digest_16 : decode cX7_digest 16 = .ok (.lmul, 1) := by decide +kernel
theorem dX7_digest_17 : decode cX7_digest 17 = .ok (.aload_n 0, 1) := by decide +kernel
theorem dX7_digest_18 : decode cX7_digest 18 = .ok (.iload_n 3, 1) := by decide +kernel
theorem dX7_digest_19 : decode cX7_digest 19 = .ok (.invokevirtual 204, 3) := by decide +kernel
theorem dX7_digest_22 : decode cX7_digest 22 = .ok (.i2l, 1) := by decide +kernel
theorem dX7_digest_23 : decode cX7_digest 23 = .ok (.ladd, 1) := by decide +kernel
theorem dX7_digest_24 : decode cX7_digest 24 = .ok (.lstore_n 1, 1) := by decide +kernel
theorem dX7_digest_25 : decode cX7_digest 25 = .ok (.iinc 3 1, 3) := by decide +kernel
theorem dX7_digest_28 : decode cX7_digest 28 = .ok (.goto (-22), 3) := by decide +kernel
theorem dX7_digest_31 : decode cX7_digest 31 = .ok (.iconst 0, 1) := by decide +kernel
theorem dX7_digest_32 : decode cX7_digest 32 = .ok (.istore_n 3, 1) := by decide +kernel
theorem dX7_digest_33 : decode cX7_digest 33 = .ok (.iload_n 3, 1) := by decide +kernel
theorem dX7_digest_34 : decode cX7_digest 34 = .ok (.aload_n 0, 1) := by decide +kernel
theorem dX7_digest_35 : decode cX7_digest 35 = .ok (.getfield 124, 3) := by decide +kernel
theorem dX7_digest_38 : decode cX7_digest 38 = .ok (.if_icmp .ge 37, 3) := by decide +kernel
theorem dX7_digest_41 : decode cX7_digest 41 = .ok (.ldc2_w 202, 3) := by decide +kernel
theorem dX7_digest_44 : decode cX7_digest 44 = .ok (.lload_n 1, 1) := by decide +kernel
theorem dX7_digest_45 : decode cX7_digest 45 = .ok (.lmul, 1) := by decide +kernel
theorem dX7_digest_46 : decode cX7_digest 46 = .ok (.aload_n 0, 1) := by decide +kernel
theorem dX7_digest_47 : decode cX7_digest 47 = .ok (.getfield 44, 3) := by decide +kernel
theorem dX7_digest_50 : decode cX7_digest 50 = .ok (.iload_n 3, 1) := by decide +kernel
theorem dX7_digest_51 : decode cX7_digest 51 = .ok (.iaload, 1) := by decide +kernel
theorem dX7_digest_52 : decode cX7_digest 52 = .ok (.i2l, 1) := by decide +kernel
theorem dX7_digest_53 : decode cX7_digest 53 = .ok (.ladd, 1) := by decide +kernel
theorem dX7_digest_54 : decode cX7_digest 54 = .ok (.lstore_n 1, 1) := by decide +kernel
theorem dX7_digest_55 : decode cX7_digest 55 = .ok (.ldc2_w 202, 3) := by decide +kernel
theorem dX7_digest_58 : decode cX7_digest 58 = .ok (.lload_n 1, 1) := by decide +kernel
theorem dX7_digest_59 : decode cX7_digest 59 = .ok (.lmul, 1) := by decide +kernel
theorem dX7_digest_60 : decode cX7_digest 60 = .ok (.aload_n 0, 1) := by decide +kernel
theorem dX7_digest_61 : decode cX7_digest 61 = .ok (.getfield 47, 3) := by decide +kernel
theorem dX7_digest_64 : decode cX7_digest 64 = .ok (.iload_n 3, 1) := by decide +kernel
theorem dX7_digest_65 : decode cX7_digest 65 = .ok (.iaload, 1) := by decide +kernel
theorem dX7_digest_66 : decode cX7_digest 66 = .ok (.i2l, 1) := by decide +kernel
theorem dX7_digest_67 : decode cX7_digest 67 = .ok (.ladd, 1) := by decide +kernel
theorem dX7_digest_68 : decode cX7_digest 68 = .ok (.lstore_n 1, 1) := by decide +kernel
theorem dX7_digest_69 : decode cX7_digest 69 = .ok (.iinc 3 1, 3) := by decide +kernel
theorem dX7_digest_72 : decode cX7_digest 72 = .ok (.goto (-39), 3) := by decide +kernel
theorem dX7_digest_75 : decode cX7_digest 75 = .ok (.iconst 0, 1) := by decide +kernel
theorem dX7_digest_76 : decode cX7_digest 76 = .ok (.istore_n 3, 1) := by decide +kernel
theorem dX7_digest_77 : decode cX7_digest 77 = .ok (.iload_n 3, 1) := by decide +kernel
theorem dX7_digest_78 : decode cX7_digest 78 = .ok (.aload_n 0, 1) := by decide +kernel
theorem dX7_digest_79 : decode cX7_digest 79 = .ok (.getfield 87, 3) := by decide +kernel
theorem dX7_digest_82 : decode cX7_digest 82 = .ok (.if_icmp .ge 91, 3) := by decide +kernel
theorem dX7_digest_85 : decode cX7_digest 85 = .ok (.ldc2_w 202, 3) := by decide +kernel
theorem dX7_digest_88 : decode cX7_digest 88 = .ok (.lload_n 1, 1) := by decide +kernel
theorem dX7_digest_89 : decode cX7_digest 89 = .ok (.lmul, 1) := by decide +kernel
theorem dX7_digest_90 : decode cX7_digest 90 = .ok (.aload_n 0, 1) := by decide +kernel
theorem dX7_digest_91 : decode cX7_digest 91 = .ok (.getfield 59, 3) := by decide +kernel
theorem dX7_digest_94 : decode cX7_digest 94 = .ok (.iload_n 3, 1) := by decide +kernel
theorem dX7_digest_95 : decode cX7_digest 95 = .ok (.iaload, 1) := by decide +kernel
theorem dX7_digest_96 : decode cX7_digest 96 = .ok (.i2l, 1) := by decide +kernel
theorem dX7_digest_97 : decode cX7_digest 97 = .ok (.ladd, 1) := by decide +kernel
theorem dX7_digest_98 : decode cX7_digest 98 = .ok (.lstore_n 1, 1) := by decide +kernel
theorem dX7_digest_99 : decode cX7_digest 99 = .ok (.iconst 0, 1) := by decide +kernel
theorem dX7_digest_100 : decode cX7_digest 100 = .ok (.istore 4, 2) := by decide +kernel
theorem dX7_digest_102 : decode cX7_digest 102 = .ok (.iload 4, 2) := by decide +kernel
theorem dX7_digest_104 : decode cX7_digest 104 = .ok (.aload_n 0, 1) := by decide +kernel
theorem dX7_digest_105 : decode cX7_digest 105 = .ok (.getfield 19, 3) := by decide +kernel
theorem dX7_digest_108 : decode cX7_digest 108 = .ok (.if_icmp .ge 59, 3) := by decide +kernel
theorem dX7_digest_111 : decode cX7_digest 111 = .ok (.lconst 0, 1) := by decide +kernel
theorem dX7_digest_112 : decode cX7_digest 112 = .ok (.lstore 5, 2) := by decide +kernel
theorem dX7_digest_114 : decode cX7_digest 114 = .ok (.iconst 0, 1) := by decide +kernel
theorem dX7_digest_115 : decode cX7_digest 115 = .ok (.istore 7, 2) := by decide +kernel
theorem dX7_digest_117 : decode cX7_digest 117 = .ok (.iload 7, 2) := by decide +kernel
theorem dX7_digest_119 : decode cX7_digest 119 = .ok (.sipush 400, 3) := by decide +kernel
theorem dX7_digest_122 : decode cX7_digest 122 = .ok (.if_icmp .ge 30, 3) := by decide +kernel
theorem dX7_digest_125 : decode cX7_digest 125 = .ok (.lload 5, 2) := by decide +kernel
theorem dX7_digest_127 : decode cX7_digest 127 = .ok (.iload 7, 2) := by decide +kernel
theorem dX7_digest_129 : decode cX7_digest 129 = .ok (.i2l, 1) := by decide +kernel
theorem dX7_digest_130 : decode cX7_digest 130 = .ok (.lconst 1, 1) := by decide +kernel
theorem dX7_digest_131 : decode cX7_digest 131 = .ok (.ladd, 1) := by decide +kernel
theorem dX7_digest_132 : decode cX7_digest 132 = .ok (.aload_n 0, 1) := by decide +kernel
theorem dX7_digest_133 : decode cX7_digest 133 = .ok (.iload_n 3, 1) := by decide +kernel
theorem dX7_digest_134 : decode cX7_digest 134 = .ok (.iload 4, 2) := by decide +kernel
theorem dX7_digest_136 : decode cX7_digest 136 = .ok (.iload 7, 2) := by decide +kernel
theorem dX7_digest_138 : decode cX7_digest 138 = .ok (.invokevirtual 143, 3) := by decide +kernel
theorem dX7_digest_141 : decode cX7_digest 141 = .ok (.i2l, 1) := by decide +kernel
theorem dX7_digest_142 : decode cX7_digest 142 = .ok (.lmul, 1) := by decide +kernel
theorem dX7_digest_143 : decode cX7_digest 143 = .ok (.ladd, 1) := by decide +kernel
theorem dX7_digest_144 : decode cX7_digest 144 = .ok (.lstore 5, 2) := by decide +kernel
theorem dX7_digest_146 : decode cX7_digest 146 = .ok (.iinc 7 1, 3) := by decide +kernel
theorem dX7_digest_149 : decode cX7_digest 149 = .ok (.goto (-32), 3) := by decide +kernel
theorem dX7_digest_152 : decode cX7_digest 152 = .ok (.ldc2_w 202, 3) := by decide +kernel
theorem dX7_digest_155 : decode cX7_digest 155 = .ok (.lload_n 1, 1) := by decide +kernel
theorem dX7_digest_156 : decode cX7_digest 156 = .ok (.lmul, 1) := by decide +kernel
theorem dX7_digest_157 : decode cX7_digest 157 = .ok (.lload 5, 2) := by decide +kernel
theorem dX7_digest_159 : decode cX7_digest 159 = .ok (.ladd, 1) := by decide +kernel
theorem dX7_digest_160 : decode cX7_digest 160 = .ok (.lstore_n 1, 1) := by decide +kernel
theorem dX7_digest_161 : decode cX7_digest 161 = .ok (.iinc 4 1, 3) := by decide +kernel
theorem dX7_digest_164 : decode cX7_digest 164 = .ok (.goto (-62), 3) := by decide +kernel
theorem dX7_digest_167 : decode cX7_digest 167 = .ok (.iinc 3 1, 3) := by decide +kernel
theorem dX7_digest_170 : decode cX7_digest 170 = .ok (.goto (-93), 3) := by decide +kernel
theorem dX7_digest_173 : decode cX7_digest 173 = .ok (.iconst 0, 1) := by decide +kernel
theorem dX7_digest_174 : decode cX7_digest 174 = .ok (.istore_n 3, 1) := by decide +kernel
theorem dX7_digest_175 : decode cX7_digest 175 = .ok (.iload_n 3, 1) := by decide +kernel
theorem dX7_digest_176 : decode cX7_digest 176 = .ok (.aload_n 0, 1) := by decide +kernel
theorem dX7_digest_177 : decode cX7_digest 177 = .ok (.getfield 90, 3) := by decide +kernel
theorem dX7_digest_180 : decode cX7_digest 180 = .ok (.if_icmp .ge 57, 3) := by decide +kernel
theorem dX7_digest_183 : decode cX7_digest 183 = .ok (.iconst 0, 1) := by decide +kernel
theorem dX7_digest_184 : decode cX7_digest 184 = .ok (.istore 4, 2) := by decide +kernel
theorem dX7_digest_186 : decode cX7_digest 186 = .ok (.iload 4, 2) := by decide +kernel
theorem dX7_digest_188 : decode cX7_digest 188 = .ok (.aload_n 0, 1) := by decide +kernel
theorem dX7_digest_189 : decode cX7_digest 189 = .ok (.getfield 66, 3) := by decide +kernel
theorem dX7_digest_192 : decode cX7_digest 192 = .ok (.iload_n 3, 1) := by decide +kernel
theorem dX7_digest_193 : decode cX7_digest 193 = .ok (.iaload, 1) := by decide +kernel
theorem dX7_digest_194 : decode cX7_digest 194 = .ok (.aload_n 0, 1) := by decide +kernel
theorem dX7_digest_195 : decode cX7_digest 195 = .ok (.getfield 69, 3) := by decide +kernel
theorem dX7_digest_198 : decode cX7_digest 198 = .ok (.iload_n 3, 1) := by decide +kernel
theorem dX7_digest_199 : decode cX7_digest 199 = .ok (.iaload, 1) := by decide +kernel
theorem dX7_digest_200 : decode cX7_digest 200 = .ok (.imul, 1) := by decide +kernel
theorem dX7_digest_201 : decode cX7_digest 201 = .ok (.if_icmp .ge 30, 3) := by decide +kernel
theorem dX7_digest_204 : decode cX7_digest 204 = .ok (.ldc2_w 202, 3) := by decide +kernel
theorem dX7_digest_207 : decode cX7_digest 207 = .ok (.lload_n 1, 1) := by decide +kernel
theorem dX7_digest_208 : decode cX7_digest 208 = .ok (.lmul, 1) := by decide +kernel
theorem dX7_digest_209 : decode cX7_digest 209 = .ok (.aload_n 0, 1) := by decide +kernel
theorem dX7_digest_210 : decode cX7_digest 210 = .ok (.getfield 72, 3) := by decide +kernel
theorem dX7_digest_213 : decode cX7_digest 213 = .ok (.sipush 256, 3) := by decide +kernel
theorem dX7_digest_216 : decode cX7_digest 216 = .ok (.iload_n 3, 1) := by decide +kernel
theorem dX7_digest_217 : decode cX7_digest 217 = .ok (.imul, 1) := by decide +kernel
theorem dX7_digest_218 : decode cX7_digest 218 = .ok (.iload 4, 2) := by decide +kernel
theorem dX7_digest_220 : decode cX7_digest 220 = .ok (.iadd, 1) := by decide +kernel
theorem dX7_digest_221 : decode cX7_digest 221 = .ok (.iaload, 1) := by decide +kernel
theorem dX7_digest_222 : decode cX7_digest 222 = .ok (.i2l, 1) := by decide +kernel
theorem dX7_digest_223 : decode cX7_digest 223 = .ok (.ladd, 1) := by decide +kernel
theorem dX7_digest_224 : decode cX7_digest 224 = .ok (.lstore_n 1, 1) := by decide +kernel
theorem dX7_digest_225 : decode cX7_digest 225 = .ok (.iinc 4 1, 3) := by decide +kernel
theorem dX7_digest_228 : decode cX7_digest 228 = .ok (.goto (-42), 3) := by decide +kernel
theorem dX7_digest_231 : decode cX7_digest 231 = .ok (.iinc 3 1, 3) := by decide +kernel
theorem dX7_digest_234 : decode cX7_digest 234 = .ok (.goto (-59), 3) := by decide +kernel
theorem dX7_digest_237 : decode cX7_digest 237 = .ok (.lload_n 1, 1) := by decide +kernel
theorem dX7_digest_238 : decode cX7_digest 238 = .ok (.lreturn, 1) := by decide +kernel
