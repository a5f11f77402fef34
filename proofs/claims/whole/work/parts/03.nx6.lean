theorem dX6_init_0 : decode cX6_init 0 = .ok (.aload_n 0, 1) := by decide +kernel
theorem dX6_init_1 : decode cX6_init 1 = .ok (.invokespecial 1, 3) := by decide +kernel
theorem dX6_init_4 : decode cX6_init 4 = .ok (.aload_n 0, 1) := by decide +kernel
theorem dX6_init_5 : decode cX6_init 5 = .ok (.new 7, 3) := by decide +kernel
theorem dX6_init_8 : decode cX6_init 8 = .ok (.dup, 1) := by decide +kernel
theorem dX6_init_9 : decode cX6_init 9 = .ok (.invokespecial 9, 3) := by decide +kernel
theorem dX6_init_12 : decode cX6_init 12 = .ok (.putfield 10, 3) := by decide +kernel
theorem dX6_init_15 : decode cX6_init 15 = .ok (.aload_n 0, 1) := by decide +kernel
theorem dX6_init_16 : decode cX6_init 16 = .ok (.new 16, 3) := by decide +kernel
theorem dX6_init_19 : decode cX6_init 19 = .ok (.dup, 1) := by decide +kernel
theorem dX6_init_20 : decode cX6_init 20 = .ok (.invokespecial 18, 3) := by decide +kernel
theorem dX6_init_23 : decode cX6_init 23 = .ok (.putfield 19, 3) := by decide +kernel
theorem dX6_init_26 : decode cX6_init 26 = .ok (.aload_n 0, 1) := by decide +kernel
theorem dX6_init_27 : decode cX6_init 27 = .ok (.new 23, 3) := by decide +kernel
theorem dX6_init_30 : decode cX6_init 30 = .ok (.dup, 1) := by decide +kernel
theorem dX6_init_31 : decode cX6_init 31 = .ok (.invokespecial 25, 3) := by decide +kernel
theorem dX6_init_34 : decode cX6_init 34 = .ok (.putfield 26, 3) := by decide +kernel
theorem dX6_init_37 : decode cX6_init 37 = .ok (.aload_n 0, 1) := by decide +kernel
theorem dX6_init_38 : decode cX6_init 38 = .ok (.new 30, 3) := by decide +kernel
theorem dX6_init_41 : decode cX6_init 41 = .ok (.dup, 1) := by decide +kernel
theorem dX6_init_42 : decode cX6_init 42 = .ok (.invokespecial 32, 3) := by decide +kernel
theorem dX6_init_45 : decode cX6_init 45 = .ok (.putfield 33, 3) := by decide +kernel
theorem dX6_init_48 : decode cX6_init 48 = .ok (.aload_n 0, 1) := by decide +kernel
theorem dX6_init_49 : decode cX6_init 49 = .ok (.new 37, 3) := by decide +kernel
theorem dX6_init_52 : decode cX6_init 52 = .ok (.dup, 1) := by decide +kernel
theorem dX6_init_53 : decode cX6_init 53 = .ok (.invokespecial 39, 3) := by decide +kernel
theorem dX6_init_56 : decode cX6_init 56 = .ok (.putfield 40, 3) := by decide +kernel
theorem dX6_init_59 : decode cX6_init 59 = .ok (.aload_n 0, 1) := by decide +kernel
theorem dX6_init_60 : decode cX6_init 60 = .ok (.new 44, 3) := by decide +kernel
theorem dX6_init_63 : decode cX6_init 63 = .ok (.dup, 1) := by decide +kernel
theorem dX6_init_64 : decode cX6_init 64 = .ok (.invokespecial 46, 3) := by decide +kernel
theorem dX6_init_67 : decode cX6_init 67 = .ok (.putfield 47, 3) := by decide +kernel
theorem dX6_init_70 : decode cX6_init 70 = .ok (.return_, 1) := by decide +kernel
set_option maxRecDepth 20000 in
theorem ggX6_probe_X6_within : GoodIn wsX6_probe wsX6_within := goodIn_r _ [9] (by decide +kernel) (by decide +kernel)
set_option maxRecDepth 20000 in
theorem gX6_probe_X6_within : GoodIn wsX6_probe (va_wsS RX6 51 yX6_within wsX6_within) := goodIn_app (goodIn_of _ (by decide +kernel)) ggX6_probe_X6_within
set_option maxRecDepth 20000 in
theorem ggX6_probe_X3_renew : GoodIn wsX6_probe wsX3_renew := goodIn_r _ [14, 15, 16, 17, 18, 19, 20, 21, 22, 23, 24, 25, 48, 49, 50, 51, 52, 53, 54, 55, 56, 57, 58] (by decide +kernel) (by decide +kernel)
set_option maxRecDepth 20000 in
theorem gX6_probe_X3_renew : GoodIn wsX6_probe (wsV RX6 55 RX3 yX3_renew wsX3_renew) := goodIn_app (goodIn_of _ (by decide +kernel)) ggX6_probe_X3_renew
set_option maxRecDepth 20000 in
theorem ggX6_probe_X1_forget : GoodIn wsX6_probe wsX1_forget := goodIn_r _ [30, 31, 32, 59, 60, 61, 62, 63] (by decide +kernel) (by decide +kernel)
set_option maxRecDepth 20000 in
theorem gX6_probe_X1_forget : GoodIn wsX6_probe (wsV RX6 59 RX1 yX1_forget wsX1_forget) := goodIn_app (goodIn_of _ (by decide +kernel)) ggX6_probe_X1_forget
set_option maxRecDepth 20000 in
theorem ggX6_probe_X4_forget : GoodIn wsX6_probe wsX4_forget := goodIn_r _ [37, 38, 39, 64, 65, 66, 67, 68] (by decide +kernel) (by decide +kernel)
set_option maxRecDepth 20000 in
theorem gX6_probe_X4_forget : GoodIn wsX6_probe (wsV RX6 62 RX4 yX4_forget wsX4_forget) := goodIn_app (goodIn_of _ (by decide +kernel)) ggX6_probe_X4_forget
theorem dX6_probe_0 : decode cX6_probe 0 = .ok (.iload_n 1, 1) := by decide +kernel
theorem dX6_probe_1 : decode cX6_probe 1 = .ok (.iconst 2, 1) := by decide +kernel
theorem dX6_probe_2 : decode cX6_probe 2 = .ok (.bipush 16, 2) := by decide +kernel
theorem dX6_probe_4 : decode cX6_probe 4 = .ok (.invokestatic 51, 3) := by decide +kernel
theorem dX6_probe_7 : decode cX6_probe 7 = .ok (.ifCond .eq 27, 3) := by decide +kernel
theorem dX6_probe_10 : decode cX6_probe 10 = .ok (.iload_n 2, 1) := by decide +kernel
theorem dX6_probe_11 : decode cX6_probe 11 = .ok (.sipush (-2000), 3) := by decide +kernel
theorem dX6_probe_14 : decode cX6_probe 14 = .ok (.sipush 2000, 3) := by decide +kernel
theorem dX6_probe_17 : decode cX6_probe 17 = .ok (.invokestatic 51, 3) := by decide +kernel
theorem dX6_probe_20 : decode cX6_probe 20 = .ok (.ifCond .eq 14, 3) := by decide +kernel
theorem dX6_probe_23 : decode cX6_probe 23 = .ok (.iload_n 3, 1) := by decide +kernel
theorem dX6_probe_24 : decode cX6_probe 24 = .ok (.iconst 1, 1) := by decide +kernel
theorem dX6_probe_25 : decode cX6_probe 25 = .ok (.sipush 200, 3) := by decide +kernel
theorem dX6_probe_28 : decode cX6_probe 28 = .ok (.invokestatic 51, 3) := by decide +kernel
theorem dX6_probe_31 : decode cX6_probe 31 = .ok (.ifCond .ne 6, 3) := by decide +kernel
theorem dX6_probe_34 : decode cX6_probe 34 = .ok (.bipush (-2), 2) := by decide +kernel
theorem dX6_probe_36 : decode cX6_probe 36 = .ok (.ireturn, 1) := by decide +kernel
theorem dX6_probe_37 : decode cX6_probe 37 = .ok (.iload_n 2, 1) := by decide +kernel
theorem dX6_probe_38 : decode cX6_probe 38 = .ok (.iload_n 1, 1) := by decide +kernel
theorem dX6_probe_39 : decode cX6_probe 39 = .ok (.iconst 1, 1) := by decide +kernel
theorem dX6_probe_40 : decode cX6_probe 40 = .ok (.isub, 1) := by decide +kernel
theorem dX6_probe_41 : decode cX6_probe 41 = .ok (.iload_n 3, 1) := by decide +kernel
theorem dX6_probe_42 : decode cX6_probe 42 = .ok (.imul, 1) := by decide +kernel
theorem dX6_probe_43 : decode cX6_probe 43 = .ok (.iadd, 1) := by decide +kernel
theorem dX6_probe_44 : decode cX6_probe 44 = .ok (.sipush 2000, 3) := by decide +kernel
theorem dX6_probe_47 : decode cX6_probe 47 = .ok (.if_icmp .le 6, 3) := by decide +kernel
theorem dX6_probe_50 : decode cX6_probe 50 = .ok (.bipush (-2), 2) := by decide +kernel
theorem dX6_probe_52 : decode cX6_probe 52 = .ok (.ireturn, 1) := by decide +kernel
theorem dX6_probe_53 : decode cX6_probe 53 = .ok (.aload_n 0, 1) := by decide +kernel
theorem dX6_probe_54 : decode cX6_probe 54 = .ok (.getfield 10, 3) := by decide +kernel
theorem dX6_probe_57 : decode cX6_probe 57 = .ok (.iload_n 1, 1) := by decide +kernel
theorem dX6_probe_58 : decode cX6_probe 58 = .ok (.iload_n 2, 1) := by decide +kernel
theorem dX6_probe_59 : decode cX6_probe 59 = .ok (.iload_n 3, 1) := by decide +kernel
theorem dX6_probe_60 : decode cX6_probe 60 = .ok (.invokevirtual 55, 3) := by decide +kernel
theorem dX6_probe_63 : decode cX6_probe 63 = .ok (.aload_n 0, 1) := by decide +kernel
theorem dX6_probe_64 : decode cX6_probe 64 = .ok (.getfield 26, 3) := by decide +kernel
theorem dX6_probe_67 : decode cX6_probe 67 = .ok (.invokevirtual 59, 3) := by decide +kernel
theorem dX6_probe_70 : decode cX6_probe 70 = .ok (.aload_n 0, 1) := by decide +kernel
theorem dX6_probe_71 : decode cX6_probe 71 = .ok (.getfield 33, 3) := by decide +kernel
theorem dX6_probe_74 : decode cX6_probe 74 = .ok (.invokevirtual 62, 3) := by decide +kernel
theorem dX6_probe_77 : decode cX6_probe 77 = .ok (.aload_n 0, 1) := by decide +kernel
theorem dX6_probe_78 : decode cX6_probe 78 = .ok (.getfield 47, 3) := by decide +kernel
theorem dX6_probe_81 : decode cX6_probe 81 = .ok (.iconst 0, 1) := by decide +kernel
theorem dX6_probe_82 : decode cX6_probe 82 = .ok (.putfield 63, 3) := by decide +kernel
theorem dX6_probe_85 : decode cX6_probe 85 = .ok (.iconst 1, 1) := by decide +kernel
theorem dX6_probe_86 : decode cX6_probe 86 = .ok (.ireturn, 1) := by decide +kernel
set_option maxRecDepth 20000 in
theorem ggX6_pace_X6_within : GoodIn wsX6_pace wsX6_within := goodIn_r _ [9] (by decide +kernel) (by decide +kernel)
set_option maxRecDepth 20000 in
theorem gX6_pace_X6_within : GoodIn wsX6_pace (va_wsS RX6 51 yX6_within wsX6_within) := goodIn_app (goodIn_of _ (by decide +kernel)) ggX6_pace_X6_within
theorem dX6_pace_0 : decode cX6_pace 0 = .ok (.iload_n 1, 1) := by decide +kernel
theorem dX6_pace_1 : decode cX6_pace 1 = .ok (.iconst 1, 1) := by decide +kernel
theorem dX6_pace_2 : decode cX6_pace 2 = .ok (.sipush 1000, 3) := by decide +kernel
theorem dX6_pace_5 : decode cX6_pace 5 = .ok (.invokestatic 51, 3) := by decide +kernel
theorem dX6_pace_8 : decode cX6_pace 8 = .ok (.ifCond .eq 14, 3) := by decide +kernel
theorem dX6_pace_11 : decode cX6_pace 11 = .ok (.iload_n 2, 1) := by decide +kernel
theorem dX6_pace_12 : decode cX6_pace 12 = .ok (.iconst 1, 1) := by decide +kernel
theorem dX6_pace_13 : decode cX6_pace 13 = .ok (.sipush 1000, 3) := by decide +kernel
theorem dX6_pace_16 : decode cX6_pace 16 = .ok (.invokestatic 51, 3) := by decide +kernel
theorem dX6_pace_19 : decode cX6_pace 19 = .ok (.ifCond .ne 6, 3) := by decide +kernel
theorem dX6_pace_22 : decode cX6_pace 22 = .ok (.bipush (-2), 2) := by decide +kernel
theorem dX6_pace_24 : decode cX6_pace 24 = .ok (.ireturn, 1) := by decide +kernel
theorem dX6_pace_25 : decode cX6_pace 25 = .ok (.aload_n 0, 1) := by decide +kernel
theorem dX6_pace_26 : decode cX6_pace 26 = .ok (.getfield 26, 3) := by decide +kernel
theorem dX6_pace_29 : decode cX6_pace 29 = .ok (.getfield 67, 3) := by decide +kernel
theorem dX6_pace_32 : decode cX6_pace 32 = .ok (.ifCond .le 6, 3) := by decide +kernel
theorem dX6_pace_35 : decode cX6_pace 35 = .ok (.bipush (-3), 2) := by decide +kernel
theorem dX6_pace_37 : decode cX6_pace 37 = .ok (.ireturn, 1) := by decide +kernel
theorem dX6_pace_38 : decode cX6_pace 38 = .ok (.aload_n 0, 1) := by decide +kernel
theorem dX6_pace_39 : decode cX6_pace 39 = .ok (.getfield 10, 3) := by decide +kernel
theorem dX6_pace_42 : decode cX6_pace 42 = .ok (.iload_n 1, 1) := by decide +kernel
theorem dX6_pace_43 : decode cX6_pace 43 = .ok (.putfield 70, 3) := by decide +kernel
theorem dX6_pace_46 : decode cX6_pace 46 = .ok (.aload_n 0, 1) := by decide +kernel
theorem dX6_pace_47 : decode cX6_pace 47 = .ok (.getfield 10, 3) := by decide +kernel
theorem dX6_pace_50 : decode cX6_pace 50 = .ok (.iload_n 2, 1) := by decide +kernel
theorem dX6_pace_51 : decode cX6_pace 51 = .ok (.putfield 73, 3) := by decide +kernel
theorem dX6_pace_54 : decode cX6_pace 54 = .ok (.iconst 1, 1) := by decide +kernel
theorem dX6_pace_55 : decode cX6_pace 55 = .ok (.ireturn, 1) := by decide +kernel
set_option maxRecDepth 20000 in
theorem ggX6_dead_X3_has : GoodIn wsX6_dead wsX3_has := goodIn_r _ [7, 8, 26, 27, 28, 29, 30, 31, 32, 33, 34, 35, 36] (by decide +kernel) (by decide +kernel)
set_option maxRecDepth 20000 in
theorem gX6_dead_X3_has : GoodIn wsX6_dead (wsV RX6 76 RX3 yX3_has wsX3_has) := goodIn_app (goodIn_of _ (by decide +kernel)) ggX6_dead_X3_has
set_option maxRecDepth 20000 in
theorem ggX6_dead_X3_isDead : GoodIn wsX6_dead wsX3_isDead := goodIn_r _ [12, 13, 14, 4, 5, 6, 7, 8, 26, 27, 28, 29, 30, 31, 32, 33, 34, 35, 36] (by decide +kernel) (by decide +kernel)
set_option maxRecDepth 20000 in
theorem gX6_dead_X3_isDead : GoodIn wsX6_dead (wsV RX6 80 RX3 yX3_isDead wsX3_isDead) := goodIn_app (goodIn_of _ (by decide +kernel)) ggX6_dead_X3_isDead
set_option maxRecDepth 20000 in
theorem ggX6_dead_X3_setDead : GoodIn wsX6_dead wsX3_setDead := goodIn_r _ [18, 13, 19, 14, 4, 5, 6, 7, 8, 26, 27, 28, 29, 30, 31, 32, 33, 34, 35, 36] (by decide +kernel) (by decide +kernel)
set_option maxRecDepth 20000 in
theorem gX6_dead_X3_setDead : GoodIn wsX6_dead (wsV RX6 86 RX3 yX3_setDead wsX3_setDead) := goodIn_app (goodIn_of _ (by decide +kernel)) ggX6_dead_X3_setDead
theorem dX6_dead_0 : decode cX6_dead 0 = .ok (.aload_n 0, 1) := by decide +kernel
theorem dX6_dead_1 : decode cX6_dead 1 = .ok (.getfield 10, 3) := by decide +kernel
theorem dX6_dead_4 : decode cX6_dead 4 = .ok (.iload_n 1, 1) := by decide +kernel
theorem dX6_dead_5 : decode cX6_dead 5 = .ok (.invokevirtual 76, 3) := by decide +kernel
theorem dX6_dead_8 : decode cX6_dead 8 = .ok (.ifCond .ne 6, 3) := by decide +kernel
theorem dX6_dead_11 : decode cX6_dead 11 = .ok (.bipush (-2), 2) := by decide +kernel
theorem dX6_dead_13 : decode cX6_dead 13 = .ok (.ireturn, 1) := by decide +kernel
theorem dX6_dead_14 : decode cX6_dead 14 = .ok (.aload_n 0, 1) := by decide +kernel
theorem dX6_dead_15 : decode cX6_dead 15 = .ok (.getfield 10, 3) := by decide +kernel
theorem dX6_dead_18 : decode cX6_dead 18 = .ok (.iload_n 1, 1) := by decide +kernel
theorem dX6_dead_19 : decode cX6_dead 19 = .ok (.invokevirtual 80, 3) := by decide +kernel
theorem dX6_dead_22 : decode cX6_dead 22 = .ok (.iload_n 2, 1) := by decide +kernel
theorem dX6_dead_23 : decode cX6_dead 23 = .ok (.if_icmp .eq 18, 3) := by decide +kernel
theorem dX6_dead_26 : decode cX6_dead 26 = .ok (.iload_n 2, 1) := by decide +kernel
theorem dX6_dead_27 : decode cX6_dead 27 = .ok (.ifCond .eq 17, 3) := by decide +kernel
theorem dX6_dead_30 : decode cX6_dead 30 = .ok (.aload_n 0, 1) := by decide +kernel
theorem dX6_dead_31 : decode cX6_dead 31 = .ok (.getfield 10, 3) := by decide +kernel
theorem dX6_dead_34 : decode cX6_dead 34 = .ok (.getfield 83, 3) := by decide +kernel
theorem dX6_dead_37 : decode cX6_dead 37 = .ok (.iconst 1, 1) := by decide +kernel
theorem dX6_dead_38 : decode cX6_dead 38 = .ok (.if_icmp .ne 6, 3) := by decide +kernel
theorem dX6_dead_41 : decode cX6_dead 41 = .ok (.bipush (-3), 2) := by decide +kernel
theorem dX6_dead_43 : decode cX6_dead 43 = .ok (.ireturn, 1) := by decide +kernel
theorem dX6_dead_44 : decode cX6_dead 44 = .ok (.aload_n 0, 1) := by decide +kernel
theorem dX6_dead_45 : decode cX6_dead 45 = .ok (.getfield 10, 3) := by decide +kernel
theorem dX6_dead_48 : decode cX6_dead 48 = .ok (.iload_n 1, 1) := by decide +kernel
theorem dX6_dead_49 : decode cX6_dead 49 = .ok (.iload_n 2, 1) := by decide +kernel
theorem dX6_dead_50 : decode cX6_dead 50 = .ok (.invokevirtual 86, 3) := by decide +kernel
theorem dX6_dead_53 : decode cX6_dead 53 = .ok (.iconst 1, 1) := by decide +kernel
theorem dX6_dead_54 : decode cX6_dead 54 = .ok (.ireturn, 1) := by decide +kernel
set_option maxRecDepth 20000 in
theorem ggX6_delay_X3_has : GoodIn wsX6_delay wsX3_has := goodIn_r _ [6, 7, 42, 43, 44, 45, 46, 47, 48, 49, 50, 51, 52] (by decide +kernel) (by decide +kernel)
set_option maxRecDepth 20000 in
theorem gX6_delay_X3_has : GoodIn wsX6_delay (wsV RX6 76 RX3 yX3_has wsX3_has) := goodIn_app (goodIn_of _ (by decide +kernel)) ggX6_delay_X3_has
set_option maxRecDepth 20000 in
theorem ggX6_delay_X6_isPlace : GoodIn wsX6_delay wsX6_isPlace := goodIn_r _ [11, 12, 13, 10, 14] (by decide +kernel) (by decide +kernel)
set_option maxRecDepth 20000 in
theorem gX6_delay_X6_isPlace : GoodIn wsX6_delay (va_wsS RX6 90 yX6_isPlace wsX6_isPlace) := goodIn_app (goodIn_of _ (by decide +kernel)) ggX6_delay_X6_isPlace
set_option maxRecDepth 20000 in
theorem ggX6_delay_X3_delayOf : GoodIn wsX6_delay wsX3_delayOf := goodIn_r _ [18, 19, 20, 21, 22, 23, 24, 25, 5, 26, 27, 28, 29, 30, 31, 32, 3, 4, 6, 7, 33, 10, 34, 35, 42, 43, 44, 45, 46, 47, 48, 49, 50, 51, 52] (by decide +kernel) (by decide +kernel)
set_option maxRecDepth 20000 in
theorem gX6_delay_X3_delayOf : GoodIn wsX6_delay (wsV RX6 94 RX3 yX3_delayOf wsX3_delayOf) := goodIn_app (goodIn_of _ (by decide +kernel)) ggX6_delay_X3_delayOf
theorem dX6_delay_0 : decode cX6_delay 0 = .ok (.aload_n 0, 1) := by decide +kernel
theorem dX6_delay_1 : decode cX6_delay 1 = .ok (.getfield 10, 3) := by decide +kernel
theorem dX6_delay_4 : decode cX6_delay 4 = .ok (.iload_n 1, 1) := by decide +kernel
theorem dX6_delay_5 : decode cX6_delay 5 = .ok (.invokevirtual 76, 3) := by decide +kernel
theorem dX6_delay_8 : decode cX6_delay 8 = .ok (.ifCond .eq 11, 3) := by decide +kernel
theorem dX6_delay_11 : decode cX6_delay 11 = .ok (.iload_n 2, 1) := by decide +kernel
theorem dX6_delay_12 : decode cX6_delay 12 = .ok (.iload_n 3, 1) := by decide +kernel
theorem dX6_delay_13 : decode cX6_delay 13 = .ok (.invokestatic 90, 3) := by decide +kernel
theorem dX6_delay_16 : decode cX6_delay 16 = .ok (.ifCond .ne 6, 3) := by decide +kernel
theorem dX6_delay_19 : decode cX6_delay 19 = .ok (.bipush (-2), 2) := by decide +kernel
theorem dX6_delay_21 : decode cX6_delay 21 = .ok (.ireturn, 1) := by decide +kernel
theorem dX6_delay_22 : decode cX6_delay 22 = .ok (.aload_n 0, 1) := by decide +kernel
theorem dX6_delay_23 : decode cX6_delay 23 = .ok (.getfield 10, 3) := by decide +kernel
theorem dX6_delay_26 : decode cX6_delay 26 = .ok (.iload_n 1, 1) := by decide +kernel
theorem dX6_delay_27 : decode cX6_delay 27 = .ok (.iload_n 2, 1) := by decide +kernel
theorem dX6_delay_28 : decode cX6_delay 28 = .ok (.iload_n 3, 1) := by decide +kernel
theorem dX6_delay_29 : decode cX6_delay 29 = .ok (.invokevirtual 94, 3) := by decide +kernel
theorem dX6_delay_32 : decode cX6_delay 32 = .ok (.ireturn, 1) := by decide +kernel
set_option maxRecDepth 20000 in
theorem ggX6_point_X6_isPlace : GoodIn wsX6_point wsX6_isPlace := goodIn_r _ [6, 7, 8, 5, 9] (by decide +kernel) (by decide +kernel)
set_option maxRecDepth 20000 in
theorem gX6_point_X6_isPlace : GoodIn wsX6_point (va_wsS RX6 90 yX6_isPlace wsX6_isPlace) := goodIn_app (goodIn_of _ (by decide +kernel)) ggX6_point_X6_isPlace
set_option maxRecDepth 20000 in
theorem ggX6_point_X6_within : GoodIn wsX6_point wsX6_within := goodIn_r _ [9] (by decide +kernel) (by decide +kernel)
set_option maxRecDepth 20000 in
theorem gX6_point_X6_within : GoodIn wsX6_point (va_wsS RX6 51 yX6_within wsX6_within) := goodIn_app (goodIn_of _ (by decide +kernel)) ggX6_point_X6_within
set_option maxRecDepth 20000 in
theorem ggX6_point_X5_put : GoodIn wsX6_point wsX5_put := goodIn_r _ [14, 15, 16, 17, 18, 19, 20, 27, 28, 29, 30, 31, 32] (by decide +kernel) (by decide +kernel)
set_option maxRecDepth 20000 in
theorem gX6_point_X5_put : GoodIn wsX6_point (wsV RX6 99 RX5 yX5_put wsX5_put) := goodIn_app (goodIn_of _ (by decide +kernel)) ggX6_point_X5_put
theorem dX6_point_0 : decode cX6_point 0 = .ok (.iload_n 1, 1) := by decide +kernel
theorem dX6_point_1 : decode cX6_point 1 = .ok (.iload_n 2, 1) := by decide +kernel
theorem dX6_point_2 : decode cX6_point 2 = .ok (.invokestatic 90, 3) := by decide +kernel
theorem dX6_point_5 : decode cX6_point 5 = .ok (.ifCond .eq 42, 3) := by decide +kernel
theorem dX6_point_8 : decode cX6_point 8 = .ok (.iload_n 3, 1) := by decide +kernel
theorem dX6_point_9 : decode cX6_point 9 = .ok (.bipush (-100), 2) := by decide +kernel
theorem dX6_point_11 : decode cX6_point 11 = .ok (.bipush 100, 2) := by decide +kernel
theorem dX6_point_13 : decode cX6_point 13 = .ok (.invokestatic 51, 3) := by decide +kernel
theorem dX6_point_16 : decode cX6_point 16 = .ok (.ifCond .eq 31, 3) := by decide +kernel
theorem dX6_point_19 : decode cX6_point 19 = .ok (.iload 4, 2) := by decide +kernel
theorem dX6_point_21 : decode cX6_point 21 = .ok (.sipush (-200), 3) := by decide +kernel
theorem dX6_point_24 : decode cX6_point 24 = .ok (.sipush 200, 3) := by decide +kernel
theorem dX6_point_27 : decode cX6_point 27 = .ok (.invokestatic 51, 3) := by decide +kernel
theorem dX6_point_30 : decode cX6_point 30 = .ok (.ifCond .eq 17, 3) := by decide +kernel
theorem dX6_point_33 : decode cX6_point 33 = .ok (.iload 5, 2) := by decide +kernel
theorem dX6_point_35 : decode cX6_point 35 = .ok (.sipush (-200), 3) := by decide +kernel
theorem dX6_point_38 : decode cX6_point 38 = .ok (.sipush 200, 3) := by decide +kernel
theorem dX6_point_41 : decode cX6_point 41 = .ok (.invokestatic 51, 3) := by decide +kernel
theorem dX6_point_44 : decode cX6_point 44 = .ok (.ifCond .ne 6, 3) := by decide +kernel
theorem dX6_point_47 : decode cX6_point 47 = .ok (.bipush (-2), 2) := by decide +kernel
theorem dX6_point_49 : decode cX6_point 49 = .ok (.ireturn, 1) := by decide +kernel
theorem dX6_point_50 : decode cX6_point 50 = .ok (.aload_n 0, 1) := by decide +kernel
theorem dX6_point_51 : decode cX6_point 51 = .ok (.getfield 19, 3) := by decide +kernel
theorem dX6_point_54 : decode cX6_point 54 = .ok (.getfield 98, 3) := by decide +kernel
theorem dX6_point_57 : decode cX6_point 57 = .ok (.bipush 8, 2) := by decide +kernel
theorem dX6_point_59 : decode cX6_point 59 = .ok (.if_icmp .lt 6, 3) := by decide +kernel
theorem dX6_point_62 : decode cX6_point 62 = .ok (.bipush (-4), 2) := by decide +kernel
theorem dX6_point_64 : decode cX6_point 64 = .ok (.ireturn, 1) := by decide +kernel
theorem dX6_point_65 : decode cX6_point 65 = .ok (.aload_n 0, 1) := by decide +kernel
theorem dX6_point_66 : decode cX6_point 66 = .ok (.getfield 19, 3) := by decide +kernel
theorem dX6_point_69 : decode cX6_point 69 = .ok (.iload_n 1, 1) := by decide +kernel
theorem dX6_point_70 : decode cX6_point 70 = .ok (.iload_n 2, 1) := by decide +kernel
theorem dX6_point_71 : decode cX6_point 71 = .ok (.iload_n 3, 1) := by decide +kernel
theorem dX6_point_72 : decode cX6_point 72 = .ok (.iload 4, 2) := by decide +kernel
theorem dX6_point_74 : decode cX6_point 74 = .ok (.iload 5, 2) := by decide +kernel
theorem dX6_point_76 : decode cX6_point 76 = .ok (.invokevirtual 99, 3) := by decide +kernel
theorem dX6_point_79 : decode cX6_point 79 = .ok (.ireturn, 1) := by decide +kernel
theorem dX6_clear_0 : decode cX6_clear 0 = .ok (.aload_n 0, 1) := by decide +kernel
theorem dX6_clear_1 : decode cX6_clear 1 = .ok (.getfield 19, 3) := by decide +kernel
theorem dX6_clear_4 : decode cX6_clear 4 = .ok (.getfield 98, 3) := by decide +kernel
theorem dX6_clear_7 : decode cX6_clear 7 = .ok (.istore_n 1, 1) := by decide +kernel
theorem dX6_clear_8 : decode cX6_clear 8 = .ok (.aload_n 0, 1) := by decide +kernel
theorem dX6_clear_9 : decode cX6_clear 9 = .ok (.getfield 19, 3) := by decide +kernel
theorem dX6_clear_12 : decode cX6_clear 12 = .ok (.iconst 0, 1) := by decide +kernel
theorem dX6_clear_13 : decode cX6_clear 13 = .ok (.putfield 98, 3) := by decide +kernel
theorem dX6_clear_16 : decode cX6_clear 16 = .ok (.iload_n 1, 1) := by decide +kernel
theorem dX6_clear_17 : decode cX6_clear 17 = .ok (.ireturn, 1) := by decide +kernel
set_option maxRecDepth 20000 in
theorem ggX6_pointAt_X5_has : GoodIn wsX6_pointAt wsX5_has := goodIn_r _ [9, 10, 17, 18, 19, 20, 21, 22] (by decide +kernel) (by decide +kernel)
set_option maxRecDepth 20000 in
theorem gX6_pointAt_X5_has : GoodIn wsX6_pointAt (wsV RX6 103 RX5 yX5_has wsX5_has) := goodIn_app (goodIn_of _ (by decide +kernel)) ggX6_pointAt_X5_has
theorem dX6_pointAt_0 : decode cX6_pointAt 0 = .ok (.aload_n 0, 1) := by decide +kernel
theorem dX6_pointAt_1 : decode cX6_pointAt 1 = .ok (.getfield 19, 3) := by decide +kernel
theorem dX6_pointAt_4 : decode cX6_pointAt 4 = .ok (.iload_n 1, 1) := by decide +kernel
theorem dX6_pointAt_5 : decode cX6_pointAt 5 = .ok (.invokevirtual 103, 3) := by decide +kernel
theorem dX6_pointAt_8 : decode cX6_pointAt 8 = .ok (.ifCond .ne 7, 3) := by decide +kernel
theorem dX6_pointAt_11 : decode cX6_pointAt 11 = .ok (.sipush (-5000), 3) := by decide +kernel
theorem dX6_pointAt_14 : decode cX6_pointAt 14 = .ok (.ireturn, 1) := by decide +kernel
theorem dX6_pointAt_15 : decode cX6_pointAt 15 = .ok (.iload_n 2, 1) := by decide +kernel
theorem dX6_pointAt_16 : decode cX6_pointAt 16 = .ok (.tableswitch 58 0 2 #[28, 38, 48], 28) := by decide +kernel
theorem dX6_pointAt_44 : decode cX6_pointAt 44 = .ok (.aload_n 0, 1) := by decide +kernel
theorem dX6_pointAt_45 : decode cX6_pointAt 45 = .ok (.getfield 19, 3) := by decide +kernel
theorem dX6_pointAt_48 : decode cX6_pointAt 48 = .ok (.getfield 104, 3) := by decide +kernel
theorem dX6_pointAt_51 : decode cX6_pointAt 51 = .ok (.iload_n 1, 1) := by decide +kernel
theorem dX6_pointAt_52 : decode cX6_pointAt 52 = .ok (.iaload, 1) := by decide +kernel
theorem dX6_pointAt_53 : decode cX6_pointAt 53 = .ok (.ireturn, 1) := by decide +kernel
theorem dX6_pointAt_54 : decode cX6_pointAt 54 = .ok (.aload_n 0, 1) := by decide +kernel
theorem dX6_pointAt_55 : decode cX6_pointAt 55 = .ok (.getfield 19, 3) := by decide +kernel
theorem dX6_pointAt_58 : decode cX6_pointAt 58 = .ok (.getfield 108, 3) := by decide +kernel
theorem dX6_pointAt_61 : decode cX6_pointAt 61 = .ok (.iload_n 1, 1) := by decide +kernel
theorem dX6_pointAt_62 : decode cX6_pointAt 62 = .ok (.iaload, 1) := by decide +kernel
theorem dX6_pointAt_63 : decode cX6_pointAt 63 = .ok (.ireturn, 1) := by decide +kernel
theorem dX6_pointAt_64 : decode cX6_pointAt 64 = .ok (.aload_n 0, 1) := by decide +kernel
theorem dX6_pointAt_65 : decode cX6_pointAt 65 = .ok (.getfield 19, 3) := by decide +kernel
theorem dX6_pointAt_68 : decode cX6_pointAt 68 = .ok (.getfield 111, 3) := by decide +kernel
theorem dX6_pointAt_71 : decode cX6_pointAt 71 = .ok (.iload_n 1, 1) := by decide +kernel
theorem dX6_pointAt_72 : decode cX6_pointAt 72 = .ok (.iaload, 1) := by decide +kernel
theorem dX6_pointAt_73 : decode cX6_pointAt 73 = .ok (.ireturn, 1) := by decide +kernel
theorem dX6_pointAt_74 : decode cX6_pointAt 74 = .ok (.sipush (-5000), 3) := by decide +kernel
theorem dX6_pointAt_77 : decode cX6_pointAt 77 = .ok (.ireturn, 1) := by decide +kernel
set_option maxRecDepth 20000 in
theorem ggX6_look_X3_has : GoodIn wsX6_look wsX3_has := goodIn_r _ [14, 15, 125, 126, 127, 128, 129, 130, 131, 132, 133, 134, 135] (by decide +kernel) (by decide +kernel)
set_option maxRecDepth 20000 in
theorem gX6_look_X3_has : GoodIn wsX6_look (wsV RX6 76 RX3 yX3_has wsX3_has) := goodIn_app (goodIn_of _ (by decide +kernel)) ggX6_look_X3_has
set_option maxRecDepth 20000 in
theorem ggX6_look_X3_isDead : GoodIn wsX6_look wsX3_isDead := goodIn_r _ [19, 20, 21, 11, 12, 13, 14, 15, 125, 126, 127, 128, 129, 130, 131, 132, 133, 134, 135] (by decide +kernel) (by decide +kernel)
set_option maxRecDepth 20000 in
theorem gX6_look_X3_isDead : GoodIn wsX6_look (wsV RX6 80 RX3 yX3_isDead wsX3_isDead) := goodIn_app (goodIn_of _ (by decide +kernel)) ggX6_look_X3_isDead
set_option maxRecDepth 20000 in
theorem ggX6_look_X1_begin : GoodIn wsX6_look wsX1_begin := goodIn_r _ [26, 27, 28, 29, 30, 31, 32, 33, 34, 25, 35, 36, 37, 38, 39, 144, 145, 146, 147, 148] (by decide +kernel) (by decide +kernel)
set_option maxRecDepth 20000 in
theorem gX6_look_X1_begin : GoodIn wsX6_look (wsV RX6 117 RX1 yX1_begin wsX1_begin) := goodIn_app (goodIn_of _ (by decide +kernel)) ggX6_look_X1_begin
set_option maxRecDepth 20000 in
theorem ggX6_look_X6_hear : GoodIn wsX6_look wsX6_hear := goodIn_r _ [44, 7, 45, 1, 46, 47, 6, 48, 49, 50, 51, 52, 53, 54, 55, 56, 57, 13, 58, 59, 15, 60, 61, 62, 63, 64, 65, 66, 67, 68, 69, 70, 71, 72, 73, 74, 75, 76, 77, 78, 21, 11, 12, 14, 79, 43, 80, 81, 82, 83, 84, 85, 86, 87, 88, 17, 18, 19, 20, 89, 90, 91, 25, 92, 30, 32, 33, 34, 35, 28, 36, 37, 38, 39, 93, 94, 95, 96, 16, 97, 98, 99, 100, 31, 101, 102, 103, 104, 119, 120, 121, 122, 123, 124, 138, 139, 140, 141, 142, 143, 125, 126, 127, 128, 129, 130, 131, 132, 133, 134, 135, 144, 145, 146, 147, 148] (by decide +kernel) (by decide +kernel)
set_option maxRecDepth 20000 in
theorem gX6_look_X6_hear : GoodIn wsX6_look (wsV RX6 121 RX6 yX6_hear wsX6_hear) := goodIn_app (goodIn_of _ (by decide +kernel)) ggX6_look_X6_hear
set_option maxRecDepth 20000 in
theorem ggX6_look_X5_move : GoodIn wsX6_look wsX5_move := goodIn_r _ [108, 54, 109, 110, 111, 112, 77, 113, 114, 115, 116, 117, 118, 138, 139, 140, 141, 142, 143] (by decide +kernel) (by decide +kernel)
set_option maxRecDepth 20000 in
theorem gX6_look_X5_move : GoodIn wsX6_look (wsV RX6 125 RX5 yX5_move wsX5_move) := goodIn_app (goodIn_of _ (by decide +kernel)) ggX6_look_X5_move
theorem dX6_look_0 : decode cX6_look 0 = .ok (.aload_n 0, 1) := by decide +kernel
theorem dX6_look_1 : decode cX6_look 1 = .ok (.getfield 10, 3) := by decide +kernel
theorem dX6_look_4 : decode cX6_look 4 = .ok (.iload_n 1, 1) := by decide +kernel
theorem dX6_look_5 : decode cX6_look 5 = .ok (.invokevirtual 76, 3) := by decide +kernel
theorem dX6_look_8 : decode cX6_look 8 = .ok (.ifCond .ne 6, 3) := by decide +kernel
theorem dX6_look_11 : decode cX6_look 11 = .ok (.bipush (-2), 2) := by decide +kernel
theorem dX6_look_13 : decode cX6_look 13 = .ok (.ireturn, 1) := by decide +kernel
theorem dX6_look_14 : decode cX6_look 14 = .ok (.aload_n 0, 1) := by decide +kernel
theorem dX6_look_15 : decode cX6_look 15 = .ok (.getfield 10, 3) := by decide +kernel
theorem dX6_look_18 : decode cX6_look 18 = .ok (.iload_n 1, 1) := by decide +kernel
theorem dX6_look_19 : decode cX6_look 19 = .ok (.invokevirtual 80, 3) := by decide +kernel
theorem dX6_look_22 : decode cX6_look 22 = .ok (.ifCond .eq 6, 3) := by decide +kernel
theorem dX6_look_25 : decode cX6_look 25 = .ok (.bipush (-3), 2) := by decide +kernel
theorem dX6_look_27 : decode cX6_look 27 = .ok (.ireturn, 1) := by decide +kernel
theorem dX6_look_28 : decode cX6_look 28 = .ok (.aload_n 0, 1) := by decide +kernel
theorem dX6_look_29 : decode cX6_look 29 = .ok (.getfield 10, 3) := by decide +kernel
theorem dX6_look_32 : decode cX6_look 32 = .ok (.getfield 83, 3) := by decide +kernel
theorem dX6_look_35 : decode cX6_look 35 = .ok (.aload_n 0, 1) := by decide +kernel
theorem dX6_look_36 : decode cX6_look 36 = .ok (.getfield 10, 3) := by decide +kernel
theorem dX6_look_39 : decode cX6_look 39 = .ok (.getfield 83, 3) := by decide +kernel
theorem dX6_look_42 : decode cX6_look 42 = .ok (.imul, 1) := by decide +kernel
theorem dX6_look_43 : decode cX6_look 43 = .ok (.aload_n 0, 1) := by decide +kernel
theorem dX6_look_44 : decode cX6_look 44 = .ok (.getfield 10, 3) := by decide +kernel
theorem dX6_look_47 : decode cX6_look 47 = .ok (.getfield 83, 3) := by decide +kernel
theorem dX6_look_50 : decode cX6_look 50 = .ok (.imul, 1) := by decide +kernel
theorem dX6_look_51 : decode cX6_look 51 = .ok (.istore_n 2, 1) := by decide +kernel
theorem dX6_look_52 : decode cX6_look 52 = .ok (.aload_n 0, 1) := by decide +kernel
theorem dX6_look_53 : decode cX6_look 53 = .ok (.getfield 47, 3) := by decide +kernel
theorem dX6_look_56 : decode cX6_look 56 = .ok (.getfield 63, 3) := by decide +kernel
theorem dX6_look_59 : decode cX6_look 59 = .ok (.iload_n 2, 1) := by decide +kernel
theorem dX6_look_60 : decode cX6_look 60 = .ok (.iadd, 1) := by decide +kernel
theorem dX6_look_61 : decode cX6_look 61 = .ok (.aload_n 0, 1) := by decide +kernel
theorem dX6_look_62 : decode cX6_look 62 = .ok (.getfield 47, 3) := by decide +kernel
theorem dX6_look_65 : decode cX6_look 65 = .ok (.getfield 114, 3) := by decide +kernel
theorem dX6_look_68 : decode cX6_look 68 = .ok (.if_icmp .le 6, 3) := by decide +kernel
theorem dX6_look_71 : decode cX6_look 71 = .ok (.bipush (-5), 2) := by decide +kernel
theorem dX6_look_73 : decode cX6_look 73 = .ok (.ireturn, 1) := by decide +kernel
theorem dX6_look_74 : decode cX6_look 74 = .ok (.aload_n 0, 1) := by decide +kernel
theorem dX6_look_75 : decode cX6_look 75 = .ok (.getfield 47, 3) := by decide +kernel
theorem dX6_look_78 : decode cX6_look 78 = .ok (.dup, 1) := by decide +kernel
theorem dX6_look_79 : decode cX6_look 79 = .ok (.getfield 63, 3) := by decide +kernel
theorem dX6_look_82 : decode cX6_look 82 = .ok (.iload_n 2, 1) := by decide +kernel
theorem dX6_look_83 : decode cX6_look 83 = .ok (.iadd, 1) := by decide +kernel
theorem dX6_look_84 : decode cX6_look 84 = .ok (.putfield 63, 3) := by decide +kernel
theorem dX6_look_87 : decode cX6_look 87 = .ok (.aload_n 0, 1) := by decide +kernel
theorem dX6_look_88 : decode cX6_look 88 = .ok (.getfield 26, 3) := by decide +kernel
theorem dX6_look_91 : decode cX6_look 91 = .ok (.iload_n 1, 1) := by decide +kernel
theorem dX6_look_92 : decode cX6_look 92 = .ok (.invokevirtual 117, 3) := by decide +kernel
theorem dX6_look_95 : decode cX6_look 95 = .ok (.istore_n 3, 1) := by decide +kernel
theorem dX6_look_96 : decode cX6_look 96 = .ok (.iconst 0, 1) := by decide +kernel
theorem dX6_look_97 : decode cX6_look 97 = .ok (.istore 4, 2) := by decide +kernel
theorem dX6_look_99 : decode cX6_look 99 = .ok (.iload 4, 2) := by decide +kernel
theorem dX6_look_101 : decode cX6_look 101 = .ok (.aload_n 0, 1) := by decide +kernel
theorem dX6_look_102 : decode cX6_look 102 = .ok (.getfield 19, 3) := by decide +kernel
theorem dX6_look_105 : decode cX6_look 105 = .ok (.getfield 98, 3) := by decide +kernel
theorem dX6_look_108 : decode cX6_look 108 = .ok (.if_icmp .ge 16, 3) := by decide +kernel
theorem dX6_look_111 : decode cX6_look 111 = .ok (.aload_n 0, 1) := by decide +kernel
theorem dX6_look_112 : decode cX6_look 112 = .ok (.iload_n 3, 1) := by decide +kernel
theorem dX6_look_113 : decode cX6_look 113 = .ok (.iload 4, 2) := by decide +kernel
theorem dX6_look_115 : decode cX6_look 115 = .ok (.invokevirtual 121, 3) := by decide +kernel
theorem dX6_look_118 : decode cX6_look 118 = .ok (.iinc 4 1, 3) := by decide +kernel
theorem dX6_look_121 : decode cX6_look 121 = .ok (.goto (-22), 3) := by decide +kernel
theorem dX6_look_124 : decode cX6_look 124 = .ok (.aload_n 0, 1) := by decide +kernel
theorem dX6_look_125 : decode cX6_look 125 = .ok (.getfield 19, 3) := by decide +kernel
theorem dX6_look_128 : decode cX6_look 128 = .ok (.invokevirtual 125, 3) := by decide +kernel
theorem dX6_look_131 : decode cX6_look 131 = .ok (.aload_n 0, 1) := by decide +kernel
theorem dX6_look_132 : decode cX6_look 132 = .ok (.getfield 26, 3) := by decide +kernel
theorem dX6_look_135 : decode cX6_look 135 = .ok (.getfield 67, 3) := by decide +kernel
theorem dX6_look_138 : decode cX6_look 138 = .ok (.ireturn, 1) := by decide +kernel
set_option maxRecDepth 20000 in
theorem ggX6_hear_X5_has : GoodIn wsX6_hear wsX5_has := goodIn_r _ [12, 13, 94, 95, 96, 97, 98, 99] (by decide +kernel) (by decide +kernel)
set_option maxRecDepth 20000 in
theorem gX6_hear_X5_has : GoodIn wsX6_hear (wsV RX6 103 RX5 yX5_has wsX5_has) := goodIn_app (goodIn_of _ (by decide +kernel)) ggX6_hear_X5_has
set_option maxRecDepth 20000 in
theorem ggX6_hear_X3_aim : GoodIn wsX6_hear wsX3_aim := goodIn_r _ [18, 19, 20, 21, 22, 23, 24, 25, 17, 26, 27, 28, 29, 30, 31, 32, 33, 34, 35, 36, 37, 38, 39, 40, 41, 42, 43, 44, 45, 46, 47, 48, 49, 50, 51, 52, 53, 54, 55, 56, 57, 58, 100, 101, 102, 103, 104, 105, 106, 107, 108, 109, 110] (by decide +kernel) (by decide +kernel)
set_option maxRecDepth 20000 in
theorem gX6_hear_X3_aim : GoodIn wsX6_hear (wsV RX6 128 RX3 yX3_aim wsX3_aim) := goodIn_app (goodIn_of _ (by decide +kernel)) ggX6_hear_X3_aim
set_option maxRecDepth 20000 in
theorem ggX6_hear_X1_senderOf : GoodIn wsX6_hear wsX1_senderOf := goodIn_r _ [63, 64, 65, 66, 67, 62, 68, 69, 70, 71, 72, 73, 111, 112, 113, 114, 115] (by decide +kernel) (by decide +kernel)
set_option maxRecDepth 20000 in
theorem gX6_hear_X1_senderOf : GoodIn wsX6_hear (wsV RX6 131 RX1 yX1_senderOf wsX1_senderOf) := goodIn_app (goodIn_of _ (by decide +kernel)) ggX6_hear_X1_senderOf
set_option maxRecDepth 20000 in
theorem ggX6_hear_X3_aimedDelay : GoodIn wsX6_hear wsX3_aimedDelay := goodIn_r _ [77, 21, 40, 41, 42, 17, 43, 20, 100, 101, 102, 103, 104, 105, 106, 107, 108, 109, 110] (by decide +kernel) (by decide +kernel)
set_option maxRecDepth 20000 in
theorem gX6_hear_X3_aimedDelay : GoodIn wsX6_hear (wsV RX6 134 RX3 yX3_aimedDelay wsX3_aimedDelay) := goodIn_app (goodIn_of _ (by decide +kernel)) ggX6_hear_X3_aimedDelay
set_option maxRecDepth 20000 in
theorem ggX6_hear_X3_isDead : GoodIn wsX6_hear wsX3_isDead := goodIn_r _ [57, 58, 40, 41, 42, 17, 43, 20, 100, 101, 102, 103, 104, 105, 106, 107, 108, 109, 110] (by decide +kernel) (by decide +kernel)
set_option maxRecDepth 20000 in
theorem gX6_hear_X3_isDead : GoodIn wsX6_hear (wsV RX6 80 RX3 yX3_isDead wsX3_isDead) := goodIn_app (goodIn_of _ (by decide +kernel)) ggX6_hear_X3_isDead
set_option maxRecDepth 20000 in
theorem ggX6_hear_X1_louder : GoodIn wsX6_hear wsX1_louder := goodIn_r _ [82, 83, 84, 85, 86, 62, 87, 65, 66, 67, 68, 69, 70, 71, 72, 73, 111, 112, 113, 114, 115] (by decide +kernel) (by decide +kernel)
set_option maxRecDepth 20000 in
theorem gX6_hear_X1_louder : GoodIn wsX6_hear (wsV RX6 138 RX1 yX1_louder wsX1_louder) := goodIn_app (goodIn_of _ (by decide +kernel)) ggX6_hear_X1_louder
theorem dX6_hear_0 : decode cX6_hear 0 = .ok (.aload_n 0, 1) := by decide +kernel
theorem dX6_hear_1 : decode cX6_hear 1 = .ok (.getfield 19, 3) := by decide +kernel
theorem dX6_hear_4 : decode cX6_hear 4 = .ok (.iload_n 2, 1) := by decide +kernel
theorem dX6_hear_5 : decode cX6_hear 5 = .ok (.invokevirtual 103, 3) := by decide +kernel
theorem dX6_hear_8 : decode cX6_hear 8 = .ok (.ifCond .ne 4, 3) := by decide +kernel
theorem dX6_hear_11 : decode cX6_hear 11 = .ok (.return_, 1) := by decide +kernel
theorem dX6_hear_12 : decode cX6_hear 12 = .ok (.aload_n 0, 1) := by decide +kernel
theorem dX6_hear_13 : decode cX6_hear 13 = .ok (.getfield 19, 3) := by decide +kernel
theorem dX6_hear_16 : decode cX6_hear 16 = .ok (.getfield 111, 3) := by decide +kernel
theorem dX6_hear_19 : decode cX6_hear 19 = .ok (.iload_n 2, 1) := by decide +kernel
theorem dX6_hear_20 : decode cX6_hear 20 = .ok (.iaload, 1) := by decide +kernel
theorem dX6_hear_21 : decode cX6_hear 21 = .ok (.istore_n 3, 1) := by decide +kernel
theorem dX6_hear_22 : decode cX6_hear 22 = .ok (.aload_n 0, 1) := by decide +kernel
theorem dX6_hear_23 : decode cX6_hear 23 = .ok (.getfield 10, 3) := by decide +kernel
theorem dX6_hear_26 : decode cX6_hear 26 = .ok (.aload_n 0, 1) := by decide +kernel
theorem dX6_hear_27 : decode cX6_hear 27 = .ok (.getfield 19, 3) := by decide +kernel
theorem dX6_hear_30 : decode cX6_hear 30 = .ok (.getfield 104, 3) := by decide +kernel
theorem dX6_hear_33 : decode cX6_hear 33 = .ok (.iload_n 2, 1) := by decide +kernel
theorem dX6_hear_34 : decode cX6_hear 34 = .ok (.iaload, 1) := by decide +kernel
theorem dX6_hear_35 : decode cX6_hear 35 = .ok (.aload_n 0, 1) := by decide +kernel
theorem dX6_hear_36 : decode cX6_hear 36 = .ok (.getfield 19, 3) := by decide +kernel
theorem dX6_hear_39 : decode cX6_hear 39 = .ok (.getfield 108, 3) := by decide +kernel
theorem dX6_hear_42 : decode cX6_hear 42 = .ok (.iload_n 2, 1) := by decide +kernel
theorem dX6_hear_43 : decode cX6_hear 43 = .ok (.iaload, 1) := by decide +kernel
theorem dX6_hear_44 : decode cX6_hear 44 = .ok (.invokevirtual 128, 3) := by decide +kernel
theorem dX6_hear_47 : decode cX6_hear 47 = .ok (.aload_n 0, 1) := by decide +kernel
theorem dX6_hear_48 : decode cX6_hear 48 = .ok (.getfield 10, 3) := by decide +kernel
theorem dX6_hear_51 : decode cX6_hear 51 = .ok (.aload_n 0, 1) := by decide +kernel
theorem dX6_hear_52 : decode cX6_hear 52 = .ok (.getfield 26, 3) := by decide +kernel
theorem dX6_hear_55 : decode cX6_hear 55 = .ok (.iload_n 1, 1) := by decide +kernel
theorem dX6_hear_56 : decode cX6_hear 56 = .ok (.invokevirtual 131, 3) := by decide +kernel
theorem dX6_hear_59 : decode cX6_hear 59 = .ok (.invokevirtual 134, 3) := by decide +kernel
theorem dX6_hear_62 : decode cX6_hear 62 = .ok (.istore 4, 2) := by decide +kernel
theorem dX6_hear_64 : decode cX6_hear 64 = .ok (.iconst 0, 1) := by decide +kernel
theorem dX6_hear_65 : decode cX6_hear 65 = .ok (.istore 5, 2) := by decide +kernel
theorem dX6_hear_67 : decode cX6_hear 67 = .ok (.iload 5, 2) := by decide +kernel
theorem dX6_hear_69 : decode cX6_hear 69 = .ok (.aload_n 0, 1) := by decide +kernel
theorem dX6_hear_70 : decode cX6_hear 70 = .ok (.getfield 10, 3) := by decide +kernel
theorem dX6_hear_73 : decode cX6_hear 73 = .ok (.getfield 137, 3) := by decide +kernel
theorem dX6_hear_76 : decode cX6_hear 76 = .ok (.if_icmp .ge 80, 3) := by decide +kernel
theorem dX6_hear_79 : decode cX6_hear 79 = .ok (.aload_n 0, 1) := by decide +kernel
theorem dX6_hear_80 : decode cX6_hear 80 = .ok (.getfield 10, 3) := by decide +kernel
theorem dX6_hear_83 : decode cX6_hear 83 = .ok (.iload 5, 2) := by decide +kernel
theorem dX6_hear_85 : decode cX6_hear 85 = .ok (.invokevirtual 80, 3) := by decide +kernel
theorem dX6_hear_88 : decode cX6_hear 88 = .ok (.ifCond .ne 62, 3) := by decide +kernel
theorem dX6_hear_91 : decode cX6_hear 91 = .ok (.iload 4, 2) := by decide +kernel
theorem dX6_hear_93 : decode cX6_hear 93 = .ok (.aload_n 0, 1) := by decide +kernel
theorem dX6_hear_94 : decode cX6_hear 94 = .ok (.getfield 10, 3) := by decide +kernel
theorem dX6_hear_97 : decode cX6_hear 97 = .ok (.iload 5, 2) := by decide +kernel
theorem dX6_hear_99 : decode cX6_hear 99 = .ok (.invokevirtual 134, 3) := by decide +kernel
theorem dX6_hear_102 : decode cX6_hear 102 = .ok (.iadd, 1) := by decide +kernel
theorem dX6_hear_103 : decode cX6_hear 103 = .ok (.istore 6, 2) := by decide +kernel
theorem dX6_hear_105 : decode cX6_hear 105 = .ok (.aload_n 0, 1) := by decide +kernel
theorem dX6_hear_106 : decode cX6_hear 106 = .ok (.getfield 26, 3) := by decide +kernel
theorem dX6_hear_109 : decode cX6_hear 109 = .ok (.iload_n 1, 1) := by decide +kernel
theorem dX6_hear_110 : decode cX6_hear 110 = .ok (.iload 5, 2) := by decide +kernel
theorem dX6_hear_112 : decode cX6_hear 112 = .ok (.iload 6, 2) := by decide +kernel
theorem dX6_hear_114 : decode cX6_hear 114 = .ok (.iconst 1, 1) := by decide +kernel
theorem dX6_hear_115 : decode cX6_hear 115 = .ok (.isub, 1) := by decide +kernel
theorem dX6_hear_116 : decode cX6_hear 116 = .ok (.iload_n 3, 1) := by decide +kernel
theorem dX6_hear_117 : decode cX6_hear 117 = .ok (.invokevirtual 138, 3) := by decide +kernel
theorem dX6_hear_120 : decode cX6_hear 120 = .ok (.aload_n 0, 1) := by decide +kernel
theorem dX6_hear_121 : decode cX6_hear 121 = .ok (.getfield 26, 3) := by decide +kernel
theorem dX6_hear_124 : decode cX6_hear 124 = .ok (.iload_n 1, 1) := by decide +kernel
theorem dX6_hear_125 : decode cX6_hear 125 = .ok (.iload 5, 2) := by decide +kernel
theorem dX6_hear_127 : decode cX6_hear 127 = .ok (.iload 6, 2) := by decide +kernel
theorem dX6_hear_129 : decode cX6_hear 129 = .ok (.iconst 2, 1) := by decide +kernel
theorem dX6_hear_130 : decode cX6_hear 130 = .ok (.iload_n 3, 1) := by decide +kernel
theorem dX6_hear_131 : decode cX6_hear 131 = .ok (.imul, 1) := by decide +kernel
theorem dX6_hear_132 : decode cX6_hear 132 = .ok (.invokevirtual 138, 3) := by decide +kernel
theorem dX6_hear_135 : decode cX6_hear 135 = .ok (.aload_n 0, 1) := by decide +kernel
theorem dX6_hear_136 : decode cX6_hear 136 = .ok (.getfield 26, 3) := by decide +kernel
theorem dX6_hear_139 : decode cX6_hear 139 = .ok (.iload_n 1, 1) := by decide +kernel
theorem dX6_hear_140 : decode cX6_hear 140 = .ok (.iload 5, 2) := by decide +kernel
theorem dX6_hear_142 : decode cX6_hear 142 = .ok (.iload 6, 2) := by decide +kernel
theorem dX6_hear_144 : decode cX6_hear 144 = .ok (.iconst 1, 1) := by decide +kernel
theorem dX6_hear_145 : decode cX6_hear 145 = .ok (.iadd, 1) := by decide +kernel
theorem dX6_hear_146 : decode cX6_hear 146 = .ok (.iload_n 3, 1) := by decide +kernel
theorem dX6_hear_147 : decode cX6_hear 147 = .ok (.invokevirtual 138, 3) := by decide +kernel
theorem dX6_hear_150 : decode cX6_hear 150 = .ok (.iinc 5 1, 3) := by decide +kernel
theorem dX6_hear_153 : decode cX6_hear 153 = .ok (.goto (-86), 3) := by decide +kernel
theorem dX6_hear_156 : decode cX6_hear 156 = .ok (.return_, 1) := by decide +kernel
set_option maxRecDepth 20000 in
theorem ggX6_sample_X1_has : GoodIn wsX6_sample wsX1_has := goodIn_r _ [8, 9, 44, 45, 46, 47, 48] (by decide +kernel) (by decide +kernel)
set_option maxRecDepth 20000 in
theorem gX6_sample_X1_has : GoodIn wsX6_sample (wsV RX6 142 RX1 yX1_has wsX1_has) := goodIn_app (goodIn_of _ (by decide +kernel)) ggX6_sample_X1_has
set_option maxRecDepth 20000 in
theorem ggX6_sample_X3_has : GoodIn wsX6_sample wsX3_has := goodIn_r _ [14, 15, 49, 50, 51, 52, 53, 54, 55, 56, 57, 58, 59] (by decide +kernel) (by decide +kernel)
set_option maxRecDepth 20000 in
theorem gX6_sample_X3_has : GoodIn wsX6_sample (wsV RX6 76 RX3 yX3_has wsX3_has) := goodIn_app (goodIn_of _ (by decide +kernel)) ggX6_sample_X3_has
set_option maxRecDepth 20000 in
theorem ggX6_sample_X6_within : GoodIn wsX6_sample wsX6_within := goodIn_r _ [19] (by decide +kernel) (by decide +kernel)
set_option maxRecDepth 20000 in
theorem gX6_sample_X6_within : GoodIn wsX6_sample (va_wsS RX6 51 yX6_within wsX6_within) := goodIn_app (goodIn_of _ (by decide +kernel)) ggX6_sample_X6_within
set_option maxRecDepth 20000 in
theorem ggX6_sample_X1_at : GoodIn wsX6_sample wsX1_at := goodIn_r _ [23, 24, 25, 26, 27, 7, 28, 29, 30, 31, 32, 33, 34, 35, 36, 37, 44, 45, 46, 47, 48] (by decide +kernel) (by decide +kernel)
set_option maxRecDepth 20000 in
theorem gX6_sample_X1_at : GoodIn wsX6_sample (wsV RX6 144 RX1 yX1_at wsX1_at) := goodIn_app (goodIn_of _ (by decide +kernel)) ggX6_sample_X1_at
theorem dX6_sample_0 : decode cX6_sample 0 = .ok (.aload_n 0, 1) := by decide +kernel
theorem dX6_sample_1 : decode cX6_sample 1 = .ok (.getfield 26, 3) := by decide +kernel
theorem dX6_sample_4 : decode cX6_sample 4 = .ok (.iload_n 1, 1) := by decide +kernel
theorem dX6_sample_5 : decode cX6_sample 5 = .ok (.invokevirtual 142, 3) := by decide +kernel
theorem dX6_sample_8 : decode cX6_sample 8 = .ok (.ifCond .eq 25, 3) := by decide +kernel
theorem dX6_sample_11 : decode cX6_sample 11 = .ok (.aload_n 0, 1) := by decide +kernel
theorem dX6_sample_12 : decode cX6_sample 12 = .ok (.getfield 10, 3) := by decide +kernel
theorem dX6_sample_15 : decode cX6_sample 15 = .ok (.iload_n 2, 1) := by decide +kernel
theorem dX6_sample_16 : decode cX6_sample 16 = .ok (.invokevirtual 76, 3) := by decide +kernel
theorem dX6_sample_19 : decode cX6_sample 19 = .ok (.ifCond .eq 14, 3) := by decide +kernel
theorem dX6_sample_22 : decode cX6_sample 22 = .ok (.iload_n 3, 1) := by decide +kernel
theorem dX6_sample_23 : decode cX6_sample 23 = .ok (.iconst 0, 1) := by decide +kernel
theorem dX6_sample_24 : decode cX6_sample 24 = .ok (.sipush 399, 3) := by decide +kernel
theorem dX6_sample_27 : decode cX6_sample 27 = .ok (.invokestatic 51, 3) := by decide +kernel
theorem dX6_sample_30 : decode cX6_sample 30 = .ok (.ifCond .ne 6, 3) := by decide +kernel
theorem dX6_sample_33 : decode cX6_sample 33 = .ok (.ldc 143, 2) := by decide +kernel
theorem dX6_sample_35 : decode cX6_sample 35 = .ok (.ireturn, 1) := by decide +kernel
theorem dX6_sample_36 : decode cX6_sample 36 = .ok (.aload_n 0, 1) := by decide +kernel
theorem dX6_sample_37 : decode cX6_sample 37 = .ok (.getfield 26, 3) := by decide +kernel
theorem dX6_sample_40 : decode cX6_sample 40 = .ok (.iload_n 1, 1) := by decide +kernel
theorem dX6_sample_41 : decode cX6_sample 41 = .ok (.iload_n 2, 1) := by decide +kernel
theorem dX6_sample_42 : decode cX6_sample 42 = .ok (.iload_n 3, 1) := by decide +kernel
theorem dX6_sample_43 : decode cX6_sample 43 = .ok (.invokevirtual 144, 3) := by decide +kernel
theorem dX6_sample_46 : decode cX6_sample 46 = .ok (.ireturn, 1) := by decide +kernel
set_option maxRecDepth 20000 in
theorem ggX6_window_X6_within : GoodIn wsX6_window wsX6_within := goodIn_r _ [7] (by decide +kernel) (by decide +kernel)
set_option maxRecDepth 20000 in
theorem gX6_window_X6_within : GoodIn wsX6_window (va_wsS RX6 51 yX6_within wsX6_within) := goodIn_app (goodIn_of _ (by decide +kernel)) ggX6_window_X6_within
theorem dX6_window_0 : decode cX6_window 0 = .ok (.iload_n 1, 1) := by decide +kernel
theorem dX6_window_1 : decode cX6_window 1 = .ok (.iconst 0, 1) := by decide +kernel
theorem dX6_window_2 : decode cX6_window 2 = .ok (.iconst 2, 1) := by decide +kernel
theorem dX6_window_3 : decode cX6_window 3 = .ok (.invokestatic 51, 3) := by decide +kernel
theorem dX6_window_6 : decode cX6_window 6 = .ok (.ifCond .eq 13, 3) := by decide +kernel
theorem dX6_window_9 : decode cX6_window 9 = .ok (.iload_n 2, 1) := by decide +kernel
theorem dX6_window_10 : decode cX6_window 10 = .ok (.iconst 1, 1) := by decide +kernel
theorem dX6_window_11 : decode cX6_window 11 = .ok (.bipush 9, 2) := by decide +kernel
theorem dX6_window_13 : decode cX6_window 13 = .ok (.invokestatic 51, 3) := by decide +kernel
theorem dX6_window_16 : decode cX6_window 16 = .ok (.ifCond .ne 6, 3) := by decide +kernel
theorem dX6_window_19 : decode cX6_window 19 = .ok (.bipush (-2), 2) := by decide +kernel
theorem dX6_window_21 : decode cX6_window 21 = .ok (.ireturn, 1) := by decide +kernel
theorem dX6_window_22 : decode cX6_window 22 = .ok (.aload_n 0, 1) := by decide +kernel
theorem dX6_window_23 : decode cX6_window 23 = .ok (.getfield 10, 3) := by decide +kernel
theorem dX6_window_26 : decode cX6_window 26 = .ok (.getfield 147, 3) := by decide +kernel
theorem dX6_window_29 : decode cX6_window 29 = .ok (.istore_n 3, 1) := by decide +kernel
theorem dX6_window_30 : decode cX6_window 30 = .ok (.aload_n 0, 1) := by decide +kernel
theorem dX6_window_31 : decode cX6_window 31 = .ok (.getfield 10, 3) := by decide +kernel
theorem dX6_window_34 : decode cX6_window 34 = .ok (.iload_n 1, 1) := by decide +kernel
theorem dX6_window_35 : decode cX6_window 35 = .ok (.putfield 147, 3) := by decide +kernel
theorem dX6_window_38 : decode cX6_window 38 = .ok (.aload_n 0, 1) := by decide +kernel
theorem dX6_window_39 : decode cX6_window 39 = .ok (.getfield 10, 3) := by decide +kernel
theorem dX6_window_42 : decode cX6_window 42 = .ok (.iload_n 2, 1) := by decide +kernel
theorem dX6_window_43 : decode cX6_window 43 = .ok (.putfield 150, 3) := by decide +kernel
theorem dX6_window_46 : decode cX6_window 46 = .ok (.iload_n 3, 1) := by decide +kernel
theorem dX6_window_47 : decode cX6_window 47 = .ok (.ireturn, 1) := by decide +kernel
set_option maxRecDepth 20000 in
theorem ggX6_weight_X3_has : GoodIn wsX6_weight wsX3_has := goodIn_r _ [6, 7, 42, 43, 44, 45, 46, 47, 48, 49, 50, 51, 52] (by decide +kernel) (by decide +kernel)
set_option maxRecDepth 20000 in
theorem gX6_weight_X3_has : GoodIn wsX6_weight (wsV RX6 76 RX3 yX3_has wsX3_has) := goodIn_app (goodIn_of _ (by decide +kernel)) ggX6_weight_X3_has
set_option maxRecDepth 20000 in
theorem ggX6_weight_X6_isPlace : GoodIn wsX6_weight wsX6_isPlace := goodIn_r _ [11, 12, 13, 10, 14] (by decide +kernel) (by decide +kernel)
set_option maxRecDepth 20000 in
theorem gX6_weight_X6_isPlace : GoodIn wsX6_weight (va_wsS RX6 90 yX6_isPlace wsX6_isPlace) := goodIn_app (goodIn_of _ (by decide +kernel)) ggX6_weight_X6_isPlace
set_option maxRecDepth 20000 in
theorem ggX6_weight_X3_weightOf : GoodIn wsX6_weight wsX3_weightOf := goodIn_r _ [18, 19, 20, 21, 3, 4, 5, 6, 7, 22, 23, 24, 25, 26, 27, 28, 29, 30, 31, 32, 33, 34, 35, 42, 43, 44, 45, 46, 47, 48, 49, 50, 51, 52] (by decide +kernel) (by decide +kernel)
set_option maxRecDepth 20000 in
theorem gX6_weight_X3_weightOf : GoodIn wsX6_weight (wsV RX6 153 RX3 yX3_weightOf wsX3_weightOf) := goodIn_app (goodIn_of _ (by decide +kernel)) ggX6_weight_X3_weightOf
theorem dX6_weight_0 : decode cX6_weight 0 = .ok (.aload_n 0, 1) := by decide +kernel
theorem dX6_weight_1 : decode cX6_weight 1 = .ok (.getfield 10, 3) := by decide +kernel
theorem dX6_weight_4 : decode cX6_weight 4 = .ok (.iload_n 1, 1) := by decide +kernel
theorem dX6_weight_5 : decode cX6_weight 5 = .ok (.invokevirtual 76, 3) := by decide +kernel
theorem dX6_weight_8 : decode cX6_weight 8 = .ok (.ifCond .eq 11, 3) := by decide +kernel
theorem dX6_weight_11 : decode cX6_weight 11 = .ok (.iload_n 2, 1) := by decide +kernel
theorem dX6_weight_12 : decode cX6_weight 12 = .ok (.iload_n 3, 1) := by decide +kernel
theorem dX6_weight_13 : decode cX6_weight 13 = .ok (.invokestatic 90, 3) := by decide +kernel
theorem dX6_weight_16 : decode cX6_weight 16 = .ok (.ifCond .ne 6, 3) := by decide +kernel
theorem dX6_weight_19 : decode cX6_weight 19 = .ok (.bipush (-2), 2) := by decide +kernel
theorem dX6_weight_21 : decode cX6_weight 21 = .ok (.ireturn, 1) := by decide +kernel
theorem dX6_weight_22 : decode cX6_weight 22 = .ok (.aload_n 0, 1) := by decide +kernel
theorem dX6_weight_23 : decode cX6_weight 23 = .ok (.getfield 10, 3) := by decide +kernel
theorem dX6_weight_26 : decode cX6_weight 26 = .ok (.iload_n 1, 1) := by decide +kernel
theorem dX6_weight_27 : decode cX6_weight 27 = .ok (.iload_n 2, 1) := by decide +kernel
theorem dX6_weight_28 : decode cX6_weight 28 = .ok (.iload_n 3, 1) := by decide +kernel
theorem dX6_weight_29 : decode cX6_weight 29 = .ok (.invokevirtual 153, 3) := by decide +kernel
theorem dX6_weight_32 : decode cX6_weight 32 = .ok (.ireturn, 1) := by decide +kernel
set_option maxRecDepth 20000 in
theorem ggX6_sum_X1_has : GoodIn wsX6_sum wsX1_has := goodIn_r _ [8, 9, 103, 104, 105, 106, 107] (by decide +kernel) (by decide +kernel)
set_option maxRecDepth 20000 in
theorem gX6_sum_X1_has : GoodIn wsX6_sum (wsV RX6 142 RX1 yX1_has wsX1_has) := goodIn_app (goodIn_of _ (by decide +kernel)) ggX6_sum_X1_has
set_option maxRecDepth 20000 in
theorem ggX6_sum_X6_isPlace : GoodIn wsX6_sum wsX6_isPlace := goodIn_r _ [13, 14, 15, 12, 16] (by decide +kernel) (by decide +kernel)
set_option maxRecDepth 20000 in
theorem gX6_sum_X6_isPlace : GoodIn wsX6_sum (va_wsS RX6 90 yX6_isPlace wsX6_isPlace) := goodIn_app (goodIn_of _ (by decide +kernel)) ggX6_sum_X6_isPlace
set_option maxRecDepth 20000 in
theorem ggX6_sum_X3_aim : GoodIn wsX6_sum wsX3_aim := goodIn_r _ [21, 22, 23, 24, 25, 26, 27, 28, 20, 29, 30, 31, 32, 33, 34, 35, 36, 37, 38, 39, 40, 41, 42, 43, 44, 45, 46, 47, 12, 48, 49, 50, 51, 52, 53, 54, 55, 56, 57, 58, 59, 60, 108, 109, 110, 111, 112, 113, 114, 115, 116, 117, 118] (by decide +kernel) (by decide +kernel)
set_option maxRecDepth 20000 in
theorem gX6_sum_X3_aim : GoodIn wsX6_sum (wsV RX6 128 RX3 yX3_aim wsX3_aim) := goodIn_app (goodIn_of _ (by decide +kernel)) ggX6_sum_X3_aim
set_option maxRecDepth 20000 in
theorem ggX6_sum_X6_aimedSum : GoodIn wsX6_sum wsX6_aimedSum := goodIn_r _ [64, 3, 1, 65, 66, 67, 68, 7, 69, 70, 71, 72, 73, 74, 75, 76, 77, 78, 79, 80, 81, 82, 20, 83, 24, 43, 44, 45, 46, 23, 84, 85, 86, 87, 25, 88, 89, 90, 91, 92, 93, 94, 95, 96, 97, 98, 99, 100, 101, 102, 108, 109, 110, 111, 112, 113, 114, 115, 116, 117, 118, 103, 104, 105, 106, 107] (by decide +kernel) (by decide +kernel)
set_option maxRecDepth 20000 in
theorem gX6_sum_X6_aimedSum : GoodIn wsX6_sum (wsV RX6 157 RX6 yX6_aimedSum wsX6_aimedSum) := goodIn_app (goodIn_of _ (by decide +kernel)) ggX6_sum_X6_aimedSum
theorem dX6_sum_0 : decode cX6_sum 0 = .ok (.aload_n 0, 1) := by decide +kernel
theorem dX6_sum_1 : decode cX6_sum 1 = .ok (.getfield 26, 3) := by decide +kernel
theorem dX6_sum_4 : decode cX6_sum 4 = .ok (.iload_n 1, 1) := by decide +kernel
theorem dX6_sum_5 : decode cX6_sum 5 = .ok (.invokevirtual 142, 3) := by decide +kernel
theorem dX6_sum_8 : decode cX6_sum 8 = .ok (.ifCond .eq 11, 3) := by decide +kernel
theorem dX6_sum_11 : decode cX6_sum 11 = .ok (.iload_n 2, 1) := by decide +kernel
theorem dX6_sum_12 : decode cX6_sum 12 = .ok (.iload_n 3, 1) := by decide +kernel
theorem dX6_sum_13 : decode cX6_sum 13 = .ok (.invokestatic 90, 3) := by decide +kernel
theorem dX6_sum_16 : decode cX6_sum 16 = .ok (.ifCond .ne 6, 3) := by decide +kernel
theorem dX6_sum_19 : decode cX6_sum 19 = .ok (.ldc 156, 2) := by decide +kernel
theorem dX6_sum_21 : decode cX6_sum 21 = .ok (.ireturn, 1) := by decide +kernel
theorem dX6_sum_22 : decode cX6_sum 22 = .ok (.aload_n 0, 1) := by decide +kernel
theorem dX6_sum_23 : decode cX6_sum 23 = .ok (.getfield 10, 3) := by decide +kernel
theorem dX6_sum_26 : decode cX6_sum 26 = .ok (.iload_n 2, 1) := by decide +kernel
theorem dX6_sum_27 : decode cX6_sum 27 = .ok (.iload_n 3, 1) := by decide +kernel
theorem dX6_sum_28 : decode cX6_sum 28 = .ok (.invokevirtual 128, 3) := by decide +kernel
theorem dX6_sum_31 : decode cX6_sum 31 = .ok (.aload_n 0, 1) := by decide +kernel
theorem dX6_sum_32 : decode cX6_sum 32 = .ok (.iload_n 1, 1) := by decide +kernel
theorem dX6_sum_33 : decode cX6_sum 33 = .ok (.invokevirtual 157, 3) := by decide +kernel
theorem dX6_sum_36 : decode cX6_sum 36 = .ok (.ireturn, 1) := by decide +kernel
set_option maxRecDepth 20000 in
theorem ggX6_mean_X6_areLooks : GoodIn wsX6_mean wsX6_areLooks := goodIn_r _ [6, 7, 8, 102, 103, 104, 105, 106, 107, 108, 109, 110, 111, 112] (by decide +kernel) (by decide +kernel)
set_option maxRecDepth 20000 in
theorem gX6_mean_X6_areLooks : GoodIn wsX6_mean (wsV RX6 160 RX6 yX6_areLooks wsX6_areLooks) := goodIn_app (goodIn_of _ (by decide +kernel)) ggX6_mean_X6_areLooks
set_option maxRecDepth 20000 in
theorem ggX6_mean_X6_isPlace : GoodIn wsX6_mean wsX6_isPlace := goodIn_r _ [11, 12, 13, 5, 14] (by decide +kernel) (by decide +kernel)
set_option maxRecDepth 20000 in
theorem gX6_mean_X6_isPlace : GoodIn wsX6_mean (va_wsS RX6 90 yX6_isPlace wsX6_isPlace) := goodIn_app (goodIn_of _ (by decide +kernel)) ggX6_mean_X6_isPlace
set_option maxRecDepth 20000 in
theorem ggX6_mean_X6_joinedMean : GoodIn wsX6_mean wsX6_joinedMean := goodIn_r _ [18, 19, 7, 8, 20, 9, 10, 5, 11, 12, 13, 14, 21, 22, 23, 24, 25, 26, 27, 28, 29, 30, 31, 32, 33, 34, 35, 36, 37, 38, 39, 40, 41, 42, 43, 44, 45, 46, 47, 48, 49, 50, 51, 52, 53, 54, 55, 56, 57, 58, 59, 60, 61, 62, 63, 64, 65, 66, 67, 68, 69, 70, 71, 72, 73, 74, 75, 76, 77, 78, 79, 80, 81, 82, 83, 84, 85, 86, 87, 88, 89, 90, 91, 92, 93, 94, 95, 96, 97, 98, 99, 100, 101, 102, 103, 104, 105, 106, 107, 108, 109, 110, 111, 112, 113, 114, 115, 116, 117, 118, 119, 120, 121, 122, 123] (by decide +kernel) (by decide +kernel)
set_option maxRecDepth 20000 in
theorem gX6_mean_X6_joinedMean : GoodIn wsX6_mean (wsV RX6 163 RX6 yX6_joinedMean wsX6_joinedMean) := goodIn_app (goodIn_of _ (by decide +kernel)) ggX6_mean_X6_joinedMean
theorem dX6_mean_0 : decode cX6_mean 0 = .ok (.aload_n 0, 1) := by decide +kernel
theorem dX6_mean_1 : decode cX6_mean 1 = .ok (.iload_n 1, 1) := by decide +kernel
theorem dX6_mean_2 : decode cX6_mean 2 = .ok (.invokevirtual 160, 3) := by decide +kernel
theorem dX6_mean_5 : decode cX6_mean 5 = .ok (.ifCond .eq 11, 3) := by decide +kernel
theorem dX6_mean_8 : decode cX6_mean 8 = .ok (.iload_n 2, 1) := by decide +kernel
theorem dX6_mean_9 : decode cX6_mean 9 = .ok (.iload_n 3, 1) := by decide +kernel
theorem dX6_mean_10 : decode cX6_mean 10 = .ok (.invokestatic 90, 3) := by decide +kernel
theorem dX6_mean_13 : decode cX6_mean 13 = .ok (.ifCond .ne 6, 3) := by decide +kernel
theorem dX6_mean_16 : decode cX6_mean 16 = .ok (.ldc 156, 2) := by decide +kernel
theorem dX6_mean_18 : decode cX6_mean 18 = .ok (.ireturn, 1) := by decide +kernel
theorem dX6_mean_19 : decode cX6_mean 19 = .ok (.aload_n 0, 1) := by decide +kernel
theorem dX6_mean_20 : decode cX6_mean 20 = .ok (.iload_n 1, 1) := by decide +kernel
theorem dX6_mean_21 : decode cX6_mean 21 = .ok (.iload_n 2, 1) := by decide +kernel
theorem dX6_mean_22 : decode cX6_mean 22 = .ok (.iload_n 3, 1) := by decide +kernel
theorem dX6_mean_23 : decode cX6_mean 23 = .ok (.invokevirtual 163, 3) := by decide +kernel
theorem dX6_mean_26 : decode cX6_mean 26 = .ok (.ireturn, 1) := by decide +kernel
set_option maxRecDepth 20000 in
theorem ggX6_aimedSum_X1_senderOf : GoodIn wsX6_aimedSum wsX1_senderOf := goodIn_r _ [8, 9, 10, 11, 12, 7, 13, 14, 15, 16, 17, 18, 61, 62, 63, 64, 65] (by decide +kernel) (by decide +kernel)
set_option maxRecDepth 20000 in
theorem gX6_aimedSum_X1_senderOf : GoodIn wsX6_aimedSum (wsV RX6 131 RX1 yX1_senderOf wsX1_senderOf) := goodIn_app (goodIn_of _ (by decide +kernel)) ggX6_aimedSum_X1_senderOf
set_option maxRecDepth 20000 in
theorem ggX6_aimedSum_X3_aimedDelay : GoodIn wsX6_aimedSum wsX3_aimedDelay := goodIn_r _ [23, 24, 25, 26, 27, 22, 28, 29, 50, 51, 52, 53, 54, 55, 56, 57, 58, 59, 60] (by decide +kernel) (by decide +kernel)
set_option maxRecDepth 20000 in
theorem gX6_aimedSum_X3_aimedDelay : GoodIn wsX6_aimedSum (wsV RX6 134 RX3 yX3_aimedDelay wsX3_aimedDelay) := goodIn_app (goodIn_of _ (by decide +kernel)) ggX6_aimedSum_X3_aimedDelay
set_option maxRecDepth 20000 in
theorem ggX6_aimedSum_X3_aimedWeight : GoodIn wsX6_aimedSum wsX3_aimedWeight := goodIn_r _ [33, 34, 25, 26, 27, 22, 28, 29, 50, 51, 52, 53, 54, 55, 56, 57, 58, 59, 60] (by decide +kernel) (by decide +kernel)
set_option maxRecDepth 20000 in
theorem gX6_aimedSum_X3_aimedWeight : GoodIn wsX6_aimedSum (wsV RX6 166 RX3 yX3_aimedWeight wsX3_aimedWeight) := goodIn_app (goodIn_of _ (by decide +kernel)) ggX6_aimedSum_X3_aimedWeight
set_option maxRecDepth 20000 in
theorem ggX6_aimedSum_X1_at : GoodIn wsX6_aimedSum wsX1_at := goodIn_r _ [38, 39, 40, 41, 42, 7, 43, 10, 11, 12, 13, 14, 15, 16, 17, 18, 61, 62, 63, 64, 65] (by decide +kernel) (by decide +kernel)
set_option maxRecDepth 20000 in
theorem gX6_aimedSum_X1_at : GoodIn wsX6_aimedSum (wsV RX6 144 RX1 yX1_at wsX1_at) := goodIn_app (goodIn_of _ (by decide +kernel)) ggX6_aimedSum_X1_at
theorem dX6_aimedSum_0 : decode cX6_aimedSum 0 = .ok (.aload_n 0, 1) := by decide +kernel
theorem dX6_aimedSum_1 : decode cX6_aimedSum 1 = .ok (.getfield 10, 3) := by decide +kernel
theorem dX6_aimedSum_4 : decode cX6_aimedSum 4 = .ok (.aload_n 0, 1) := by decide +kernel
theorem dX6_aimedSum_5 : decode cX6_aimedSum 5 = .ok (.getfield 26, 3) := by decide +kernel
theorem dX6_aimedSum_8 : decode cX6_aimedSum 8 = .ok (.iload_n 1, 1) := by decide +kernel
theorem dX6_aimedSum_9 : decode cX6_aimedSum 9 = .ok (.invokevirtual 131, 3) := by decide +kernel
theorem dX6_aimedSum_12 : decode cX6_aimedSum 12 = .ok (.invokevirtual 134, 3) := by decide +kernel
theorem dX6_aimedSum_15 : decode cX6_aimedSum 15 = .ok (.istore_n 2, 1) := by decide +kernel
theorem dX6_aimedSum_16 : decode cX6_aimedSum 16 = .ok (.iconst 0, 1) := by decide +kernel
theorem dX6_aimedSum_17 : decode cX6_aimedSum 17 = .ok (.istore_n 3, 1) := by decide +kernel
theorem dX6_aimedSum_18 : decode cX6_aimedSum 18 = .ok (.iconst 0, 1) := by decide +kernel
theorem dX6_aimedSum_19 : decode cX6_aimedSum 19 = .ok (.istore 4, 2) := by decide +kernel
theorem dX6_aimedSum_21 : decode cX6_aimedSum 21 = .ok (.iload 4, 2) := by decide +kernel
theorem dX6_aimedSum_23 : decode cX6_aimedSum 23 = .ok (.aload_n 0, 1) := by decide +kernel
theorem dX6_aimedSum_24 : decode cX6_aimedSum 24 = .ok (.getfield 10, 3) := by decide +kernel
theorem dX6_aimedSum_27 : decode cX6_aimedSum 27 = .ok (.getfield 137, 3) := by decide +kernel
theorem dX6_aimedSum_30 : decode cX6_aimedSum 30 = .ok (.if_icmp .ge 52, 3) := by decide +kernel
theorem dX6_aimedSum_33 : decode cX6_aimedSum 33 = .ok (.aload_n 0, 1) := by decide +kernel
theorem dX6_aimedSum_34 : decode cX6_aimedSum 34 = .ok (.getfield 10, 3) := by decide +kernel
theorem dX6_aimedSum_37 : decode cX6_aimedSum 37 = .ok (.iload 4, 2) := by decide +kernel
theorem dX6_aimedSum_39 : decode cX6_aimedSum 39 = .ok (.invokevirtual 166, 3) := by decide +kernel
theorem dX6_aimedSum_42 : decode cX6_aimedSum 42 = .ok (.istore 5, 2) := by decide +kernel
theorem dX6_aimedSum_44 : decode cX6_aimedSum 44 = .ok (.iload 5, 2) := by decide +kernel
theorem dX6_aimedSum_46 : decode cX6_aimedSum 46 = .ok (.ifCond .eq 30, 3) := by decide +kernel
theorem dX6_aimedSum_49 : decode cX6_aimedSum 49 = .ok (.iload_n 3, 1) := by decide +kernel
theorem dX6_aimedSum_50 : decode cX6_aimedSum 50 = .ok (.iload 5, 2) := by decide +kernel
theorem dX6_aimedSum_52 : decode cX6_aimedSum 52 = .ok (.aload_n 0, 1) := by decide +kernel
theorem dX6_aimedSum_53 : decode cX6_aimedSum 53 = .ok (.getfield 26, 3) := by decide +kernel
theorem dX6_aimedSum_56 : decode cX6_aimedSum 56 = .ok (.iload_n 1, 1) := by decide +kernel
theorem dX6_aimedSum_57 : decode cX6_aimedSum 57 = .ok (.iload 4, 2) := by decide +kernel
theorem dX6_aimedSum_59 : decode cX6_aimedSum 59 = .ok (.iload_n 2, 1) := by decide +kernel
theorem dX6_aimedSum_60 : decode cX6_aimedSum 60 = .ok (.aload_n 0, 1) := by decide +kernel
theorem dX6_aimedSum_61 : decode cX6_aimedSum 61 = .ok (.getfield 10, 3) := by decide +kernel
theorem dX6_aimedSum_64 : decode cX6_aimedSum 64 = .ok (.iload 4, 2) := by decide +kernel
theorem dX6_aimedSum_66 : decode cX6_aimedSum 66 = .ok (.invokevirtual 134, 3) := by decide +kernel
theorem dX6_aimedSum_69 : decode cX6_aimedSum 69 = .ok (.iadd, 1) := by decide +kernel
theorem dX6_aimedSum_70 : decode cX6_aimedSum 70 = .ok (.invokevirtual 144, 3) := by decide +kernel
theorem dX6_aimedSum_73 : decode cX6_aimedSum 73 = .ok (.imul, 1) := by decide +kernel
theorem dX6_aimedSum_74 : decode cX6_aimedSum 74 = .ok (.iadd, 1) := by decide +kernel
theorem dX6_aimedSum_75 : decode cX6_aimedSum 75 = .ok (.istore_n 3, 1) := by decide +kernel
theorem dX6_aimedSum_76 : decode cX6_aimedSum 76 = .ok (.iinc 4 1, 3) := by decide +kernel
theorem dX6_aimedSum_79 : decode cX6_aimedSum 79 = .ok (.goto (-58), 3) := by decide +kernel
theorem dX6_aimedSum_82 : decode cX6_aimedSum 82 = .ok (.iload_n 3, 1) := by decide +kernel
theorem dX6_aimedSum_83 : decode cX6_aimedSum 83 = .ok (.ireturn, 1) := by decide +kernel
set_option maxRecDepth 20000 in
theorem ggX6_joinedMean_X6_isPlace : GoodIn wsX6_joinedMean wsX6_isPlace := goodIn_r _ [8, 9, 10, 7, 11] (by decide +kernel) (by decide +kernel)
set_option maxRecDepth 20000 in
theorem gX6_joinedMean_X6_isPlace : GoodIn wsX6_joinedMean (va_wsS RX6 90 yX6_isPlace wsX6_isPlace) := goodIn_app (goodIn_of _ (by decide +kernel)) ggX6_joinedMean_X6_isPlace
set_option maxRecDepth 20000 in
theorem ggX6_joinedMean_X3_aim : GoodIn wsX6_joinedMean wsX3_aim := goodIn_r _ [16, 17, 18, 19, 20, 21, 22, 23, 15, 24, 25, 26, 27, 28, 29, 30, 31, 32, 33, 34, 35, 36, 37, 38, 39, 40, 41, 42, 7, 43, 44, 45, 46, 47, 48, 49, 50, 51, 52, 53, 54, 55, 104, 105, 106, 107, 108, 109, 110, 111, 112, 113, 114] (by decide +kernel) (by decide +kernel)
set_option maxRecDepth 20000 in
theorem gX6_joinedMean_X3_aim : GoodIn wsX6_joinedMean (wsV RX6 128 RX3 yX3_aim wsX3_aim) := goodIn_app (goodIn_of _ (by decide +kernel)) ggX6_joinedMean_X3_aim
set_option maxRecDepth 20000 in
theorem ggX6_joinedMean_X6_aimedSum : GoodIn wsX6_joinedMean wsX6_aimedSum := goodIn_r _ [59, 1, 2, 60, 61, 62, 63, 64, 65, 66, 67, 68, 69, 70, 71, 72, 73, 74, 75, 76, 77, 78, 15, 79, 19, 38, 39, 40, 41, 18, 80, 81, 82, 83, 20, 84, 85, 86, 87, 88, 89, 90, 91, 92, 93, 94, 95, 96, 97, 98, 104, 105, 106, 107, 108, 109, 110, 111, 112, 113, 114, 99, 100, 101, 102, 103] (by decide +kernel) (by decide +kernel)
set_option maxRecDepth 20000 in
theorem gX6_joinedMean_X6_aimedSum : GoodIn wsX6_joinedMean (wsV RX6 157 RX6 yX6_aimedSum wsX6_aimedSum) := goodIn_app (goodIn_of _ (by decide +kernel)) ggX6_joinedMean_X6_aimedSum
theorem dX6_joinedMean_0 : decode cX6_joinedMean 0 = .ok (.iload_n 2, 1) := by decide +kernel
theorem dX6_joinedMean_1 : decode cX6_joinedMean 1 = .ok (.iload_n 3, 1) := by decide +kernel
theorem dX6_joinedMean_2 : decode cX6_joinedMean 2 = .ok (.invokestatic 90, 3) := by decide +kernel
theorem dX6_joinedMean_5 : decode cX6_joinedMean 5 = .ok (.ifCond .ne 5, 3) := by decide +kernel
theorem dX6_joinedMean_8 : decode cX6_joinedMean 8 = .ok (.iconst 0, 1) := by decide +kernel
theorem dX6_joinedMean_9 : decode cX6_joinedMean 9 = .ok (.ireturn, 1) := by decide +kernel
theorem dX6_joinedMean_10 : decode cX6_joinedMean 10 = .ok (.aload_n 0, 1) := by decide +kernel
theorem dX6_joinedMean_11 : decode cX6_joinedMean 11 = .ok (.getfield 10, 3) := by decide +kernel
theorem dX6_joinedMean_14 : decode cX6_joinedMean 14 = .ok (.iload_n 2, 1) := by decide +kernel
theorem dX6_joinedMean_15 : decode cX6_joinedMean 15 = .ok (.iload_n 3, 1) := by decide +kernel
theorem dX6_joinedMean_16 : decode cX6_joinedMean 16 = .ok (.invokevirtual 128, 3) := by decide +kernel
theorem dX6_joinedMean_19 : decode cX6_joinedMean 19 = .ok (.iconst 0, 1) := by decide +kernel
theorem dX6_joinedMean_20 : decode cX6_joinedMean 20 = .ok (.istore 4, 2) := by decide +kernel
theorem dX6_joinedMean_22 : decode cX6_joinedMean 22 = .ok (.iconst 0, 1) := by decide +kernel
theorem dX6_joinedMean_23 : decode cX6_joinedMean 23 = .ok (.istore 5, 2) := by decide +kernel
theorem dX6_joinedMean_25 : decode cX6_joinedMean 25 = .ok (.iconst 0, 1) := by decide +kernel
theorem dX6_joinedMean_26 : decode cX6_joinedMean 26 = .ok (.istore 6, 2) := by decide +kernel
theorem dX6_joinedMean_28 : decode cX6_joinedMean 28 = .ok (.iload 6, 2) := by decide +kernel
theorem dX6_joinedMean_30 : decode cX6_joinedMean 30 = .ok (.aload_n 0, 1) := by decide +kernel
theorem dX6_joinedMean_31 : decode cX6_joinedMean 31 = .ok (.getfield 26, 3) := by decide +kernel
theorem dX6_joinedMean_34 : decode cX6_joinedMean 34 = .ok (.getfield 67, 3) := by decide +kernel
theorem dX6_joinedMean_37 : decode cX6_joinedMean 37 = .ok (.if_icmp .ge 41, 3) := by decide +kernel
theorem dX6_joinedMean_40 : decode cX6_joinedMean 40 = .ok (.iload_n 1, 1) := by decide +kernel
theorem dX6_joinedMean_41 : decode cX6_joinedMean 41 = .ok (.iload 6, 2) := by decide +kernel
theorem dX6_joinedMean_43 : decode cX6_joinedMean 43 = .ok (.ishr, 1) := by decide +kernel
theorem dX6_joinedMean_44 : decode cX6_joinedMean 44 = .ok (.iconst 1, 1) := by decide +kernel
theorem dX6_joinedMean_45 : decode cX6_joinedMean 45 = .ok (.iand, 1) := by decide +kernel
theorem dX6_joinedMean_46 : decode cX6_joinedMean 46 = .ok (.ifCond .eq 26, 3) := by decide +kernel
theorem dX6_joinedMean_49 : decode cX6_joinedMean 49 = .ok (.iload 4, 2) := by decide +kernel
theorem dX6_joinedMean_51 : decode cX6_joinedMean 51 = .ok (.aload_n 0, 1) := by decide +kernel
theorem dX6_joinedMean_52 : decode cX6_joinedMean 52 = .ok (.iload 6, 2) := by decide +kernel
theorem dX6_joinedMean_54 : decode cX6_joinedMean 54 = .ok (.invokevirtual 157, 3) := by decide +kernel
theorem dX6_joinedMean_57 : decode cX6_joinedMean 57 = .ok (.iadd, 1) := by decide +kernel
theorem dX6_joinedMean_58 : decode cX6_joinedMean 58 = .ok (.istore 4, 2) := by decide +kernel
theorem dX6_joinedMean_60 : decode cX6_joinedMean 60 = .ok (.iload 5, 2) := by decide +kernel
theorem dX6_joinedMean_62 : decode cX6_joinedMean 62 = .ok (.aload_n 0, 1) := by decide +kernel
theorem dX6_joinedMean_63 : decode cX6_joinedMean 63 = .ok (.getfield 10, 3) := by decide +kernel
theorem dX6_joinedMean_66 : decode cX6_joinedMean 66 = .ok (.getfield 169, 3) := by decide +kernel
theorem dX6_joinedMean_69 : decode cX6_joinedMean 69 = .ok (.iadd, 1) := by decide +kernel
theorem dX6_joinedMean_70 : decode cX6_joinedMean 70 = .ok (.istore 5, 2) := by decide +kernel
theorem dX6_joinedMean_72 : decode cX6_joinedMean 72 = .ok (.iinc 6 1, 3) := by decide +kernel
theorem dX6_joinedMean_75 : decode cX6_joinedMean 75 = .ok (.goto (-47), 3) := by decide +kernel
theorem dX6_joinedMean_78 : decode cX6_joinedMean 78 = .ok (.iload 5, 2) := by decide +kernel
theorem dX6_joinedMean_80 : decode cX6_joinedMean 80 = .ok (.ifCond .ne 7, 3) := by decide +kernel
theorem dX6_joinedMean_83 : decode cX6_joinedMean 83 = .ok (.iconst 0, 1) := by decide +kernel
theorem dX6_joinedMean_84 : decode cX6_joinedMean 84 = .ok (.goto 8, 3) := by decide +kernel
theorem dX6_joinedMean_87 : decode cX6_joinedMean 87 = .ok (.iload 4, 2) := by decide +kernel
theorem dX6_joinedMean_89 : decode cX6_joinedMean 89 = .ok (.iload 5, 2) := by decide +kernel
theorem dX6_joinedMean_91 : decode cX6_joinedMean 91 = .ok (.idiv, 1) := by decide +kernel
theorem dX6_joinedMean_92 : decode cX6_joinedMean 92 = .ok (.ireturn, 1) := by decide +kernel
set_option maxRecDepth 20000 in
theorem ggX6_picture_X6_areLooks : GoodIn wsX6_picture wsX6_areLooks := goodIn_r _ [7, 8, 9, 126, 127, 128, 129, 130, 131, 137, 138, 139, 140, 141] (by decide +kernel) (by decide +kernel)
set_option maxRecDepth 20000 in
theorem gX6_picture_X6_areLooks : GoodIn wsX6_picture (wsV RX6 160 RX6 yX6_areLooks wsX6_areLooks) := goodIn_app (goodIn_of _ (by decide +kernel)) ggX6_picture_X6_areLooks
set_option maxRecDepth 20000 in
theorem ggX6_picture_X6_isPlace : GoodIn wsX6_picture wsX6_isPlace := goodIn_r _ [12, 13, 14, 6, 15] (by decide +kernel) (by decide +kernel)
set_option maxRecDepth 20000 in
theorem gX6_picture_X6_isPlace : GoodIn wsX6_picture (va_wsS RX6 90 yX6_isPlace wsX6_isPlace) := goodIn_app (goodIn_of _ (by decide +kernel)) ggX6_picture_X6_isPlace
set_option maxRecDepth 20000 in
theorem ggX6_picture_X6_within : GoodIn wsX6_picture wsX6_within := goodIn_r _ [15] (by decide +kernel) (by decide +kernel)
set_option maxRecDepth 20000 in
theorem gX6_picture_X6_within : GoodIn wsX6_picture (va_wsS RX6 51 yX6_within wsX6_within) := goodIn_app (goodIn_of _ (by decide +kernel)) ggX6_picture_X6_within
set_option maxRecDepth 20000 in
theorem ggX6_picture_X4_begin : GoodIn wsX6_picture wsX4_begin := goodIn_r _ [20, 21, 22, 23, 24, 25, 26, 27, 19, 28, 29, 30, 31, 32, 132, 133, 134, 135, 136] (by decide +kernel) (by decide +kernel)
set_option maxRecDepth 20000 in
theorem gX6_picture_X4_begin : GoodIn wsX6_picture (wsV RX6 172 RX4 yX4_begin wsX4_begin) := goodIn_app (goodIn_of _ (by decide +kernel)) ggX6_picture_X4_begin
set_option maxRecDepth 20000 in
theorem ggX6_picture_X6_joinedMean : GoodIn wsX6_picture wsX6_joinedMean := goodIn_r _ [36, 37, 8, 9, 38, 10, 11, 6, 12, 13, 14, 15, 39, 40, 41, 42, 43, 44, 45, 46, 47, 48, 49, 50, 51, 52, 53, 54, 55, 56, 57, 58, 59, 60, 61, 62, 63, 64, 65, 66, 67, 68, 69, 70, 71, 72, 73, 74, 75, 76, 77, 78, 79, 80, 81, 82, 83, 84, 85, 86, 87, 88, 89, 90, 91, 92, 93, 94, 95, 96, 97, 98, 99, 30, 31, 32, 100, 101, 102, 103, 104, 105, 106, 107, 108, 109, 110, 111, 112, 113, 114, 115, 116, 126, 127, 128, 129, 130, 131, 137, 138, 139, 140, 141, 142, 143, 144, 145, 146, 147, 148, 149, 150, 151, 152] (by decide +kernel) (by decide +kernel)
set_option maxRecDepth 20000 in
theorem gX6_picture_X6_joinedMean : GoodIn wsX6_picture (wsV RX6 163 RX6 yX6_joinedMean wsX6_joinedMean) := goodIn_app (goodIn_of _ (by decide +kernel)) ggX6_picture_X6_joinedMean
set_option maxRecDepth 20000 in
theorem ggX6_picture_X4_set : GoodIn wsX6_picture wsX4_set := goodIn_r _ [120, 121, 122, 123, 124, 19, 125, 132, 133, 134, 135, 136] (by decide +kernel) (by decide +kernel)
set_option maxRecDepth 20000 in
theorem gX6_picture_X4_set : GoodIn wsX6_picture (wsV RX6 175 RX4 yX4_set wsX4_set) := goodIn_app (goodIn_of _ (by decide +kernel)) ggX6_picture_X4_set
theorem dX6_picture_0 : decode cX6_picture 0 = .ok (.aload_n 0, 1) := by decide +kernel
theorem dX6_picture_1 : decode cX6_picture 1 = .ok (.iload_n 1, 1) := by decide +kernel
theorem dX6_picture_2 : decode cX6_picture 2 = .ok (.invokevirtual 160, 3) := by decide +kernel
theorem dX6_picture_5 : decode cX6_picture 5 = .ok (.ifCond .eq 35, 3) := by decide +kernel
theorem dX6_picture_8 : decode cX6_picture 8 = .ok (.iload_n 2, 1) := by decide +kernel
theorem dX6_picture_9 : decode cX6_picture 9 = .ok (.iload_n 3, 1) := by decide +kernel
theorem dX6_picture_10 : decode cX6_picture 10 = .ok (.invokestatic 90, 3) := by decide +kernel
theorem dX6_picture_13 : decode cX6_picture 13 = .ok (.ifCond .eq 27, 3) := by decide +kernel
theorem dX6_picture_16 : decode cX6_picture 16 = .ok (.iload 4, 2) := by decide +kernel
theorem dX6_picture_18 : decode cX6_picture 18 = .ok (.iconst 1, 1) := by decide +kernel
theorem dX6_picture_19 : decode cX6_picture 19 = .ok (.sipush 500, 3) := by decide +kernel
theorem dX6_picture_22 : decode cX6_picture 22 = .ok (.invokestatic 51, 3) := by decide +kernel
theorem dX6_picture_25 : decode cX6_picture 25 = .ok (.ifCond .eq 15, 3) := by decide +kernel
theorem dX6_picture_28 : decode cX6_picture 28 = .ok (.iload 5, 2) := by decide +kernel
theorem dX6_picture_30 : decode cX6_picture 30 = .ok (.iconst 1, 1) := by decide +kernel
theorem dX6_picture_31 : decode cX6_picture 31 = .ok (.sipush 500, 3) := by decide +kernel
theorem dX6_picture_34 : decode cX6_picture 34 = .ok (.invokestatic 51, 3) := by decide +kernel
theorem dX6_picture_37 : decode cX6_picture 37 = .ok (.ifCond .ne 6, 3) := by decide +kernel
theorem dX6_picture_40 : decode cX6_picture 40 = .ok (.bipush (-2), 2) := by decide +kernel
theorem dX6_picture_42 : decode cX6_picture 42 = .ok (.ireturn, 1) := by decide +kernel
theorem dX6_picture_43 : decode cX6_picture 43 = .ok (.iload 6, 2) := by decide +kernel
theorem dX6_picture_45 : decode cX6_picture 45 = .ok (.iconst 1, 1) := by decide +kernel
theorem dX6_picture_46 : decode cX6_picture 46 = .ok (.bipush 16, 2) := by decide +kernel
theorem dX6_picture_48 : decode cX6_picture 48 = .ok (.invokestatic 51, 3) := by decide +kernel
theorem dX6_picture_51 : decode cX6_picture 51 = .ok (.ifCond .eq 14, 3) := by decide +kernel
theorem dX6_picture_54 : decode cX6_picture 54 = .ok (.iload 7, 2) := by decide +kernel
theorem dX6_picture_56 : decode cX6_picture 56 = .ok (.iconst 1, 1) := by decide +kernel
theorem dX6_picture_57 : decode cX6_picture 57 = .ok (.bipush 16, 2) := by decide +kernel
theorem dX6_picture_59 : decode cX6_picture 59 = .ok (.invokestatic 51, 3) := by decide +kernel
theorem dX6_picture_62 : decode cX6_picture 62 = .ok (.ifCond .ne 6, 3) := by decide +kernel
theorem dX6_picture_65 : decode cX6_picture 65 = .ok (.bipush (-2), 2) := by decide +kernel
theorem dX6_picture_67 : decode cX6_picture 67 = .ok (.ireturn, 1) := by decide +kernel
theorem dX6_picture_68 : decode cX6_picture 68 = .ok (.aload_n 0, 1) := by decide +kernel
theorem dX6_picture_69 : decode cX6_picture 69 = .ok (.getfield 33, 3) := by decide +kernel
theorem dX6_picture_72 : decode cX6_picture 72 = .ok (.iload 6, 2) := by decide +kernel
theorem dX6_picture_74 : decode cX6_picture 74 = .ok (.iload 7, 2) := by decide +kernel
theorem dX6_picture_76 : decode cX6_picture 76 = .ok (.invokevirtual 172, 3) := by decide +kernel
theorem dX6_picture_79 : decode cX6_picture 79 = .ok (.istore 8, 2) := by decide +kernel
theorem dX6_picture_81 : decode cX6_picture 81 = .ok (.iconst 0, 1) := by decide +kernel
theorem dX6_picture_82 : decode cX6_picture 82 = .ok (.istore 9, 2) := by decide +kernel
theorem dX6_picture_84 : decode cX6_picture 84 = .ok (.iload 9, 2) := by decide +kernel
theorem dX6_picture_86 : decode cX6_picture 86 = .ok (.iload 7, 2) := by decide +kernel
theorem dX6_picture_88 : decode cX6_picture 88 = .ok (.if_icmp .ge 61, 3) := by decide +kernel
theorem dX6_picture_91 : decode cX6_picture 91 = .ok (.iconst 0, 1) := by decide +kernel
theorem dX6_picture_92 : decode cX6_picture 92 = .ok (.istore 10, 2) := by decide +kernel
theorem dX6_picture_94 : decode cX6_picture 94 = .ok (.iload 10, 2) := by decide +kernel
theorem dX6_picture_96 : decode cX6_picture 96 = .ok (.iload 6, 2) := by decide +kernel
theorem dX6_picture_98 : decode cX6_picture 98 = .ok (.if_icmp .ge 45, 3) := by decide +kernel
theorem dX6_picture_101 : decode cX6_picture 101 = .ok (.aload_n 0, 1) := by decide +kernel
theorem dX6_picture_102 : decode cX6_picture 102 = .ok (.getfield 33, 3) := by decide +kernel
theorem dX6_picture_105 : decode cX6_picture 105 = .ok (.iload 8, 2) := by decide +kernel
theorem dX6_picture_107 : decode cX6_picture 107 = .ok (.iload 10, 2) := by decide +kernel
theorem dX6_picture_109 : decode cX6_picture 109 = .ok (.iload 6, 2) := by decide +kernel
theorem dX6_picture_111 : decode cX6_picture 111 = .ok (.iload 9, 2) := by decide +kernel
theorem dX6_picture_113 : decode cX6_picture 113 = .ok (.imul, 1) := by decide +kernel
theorem dX6_picture_114 : decode cX6_picture 114 = .ok (.iadd, 1) := by decide +kernel
theorem dX6_picture_115 : decode cX6_picture 115 = .ok (.aload_n 0, 1) := by decide +kernel
theorem dX6_picture_116 : decode cX6_picture 116 = .ok (.iload_n 1, 1) := by decide +kernel
theorem dX6_picture_117 : decode cX6_picture 117 = .ok (.iload_n 2, 1) := by decide +kernel
theorem dX6_picture_118 : decode cX6_picture 118 = .ok (.iload 10, 2) := by decide +kernel
theorem dX6_picture_120 : decode cX6_picture 120 = .ok (.iload 4, 2) := by decide +kernel
theorem dX6_picture_122 : decode cX6_picture 122 = .ok (.imul, 1) := by decide +kernel
theorem dX6_picture_123 : decode cX6_picture 123 = .ok (.iadd, 1) := by decide +kernel
theorem dX6_picture_124 : decode cX6_picture 124 = .ok (.iload_n 3, 1) := by decide +kernel
theorem dX6_picture_125 : decode cX6_picture 125 = .ok (.iload 9, 2) := by decide +kernel
theorem dX6_picture_127 : decode cX6_picture 127 = .ok (.iload 5, 2) := by decide +kernel
theorem dX6_picture_129 : decode cX6_picture 129 = .ok (.imul, 1) := by decide +kernel
theorem dX6_picture_130 : decode cX6_picture 130 = .ok (.iadd, 1) := by decide +kernel
theorem dX6_picture_131 : decode cX6_picture 131 = .ok (.invokevirtual 163, 3) := by decide +kernel
theorem dX6_picture_134 : decode cX6_picture 134 = .ok (.invokevirtual 175, 3) := by decide +kernel
theorem dX6_picture_137 : decode cX6_picture 137 = .ok (.iinc 10 1, 3) := by decide +kernel
theorem dX6_picture_140 : decode cX6_picture 140 = .ok (.goto (-46), 3) := by decide +kernel
theorem dX6_picture_143 : decode cX6_picture 143 = .ok (.iinc 9 1, 3) := by decide +kernel
theorem dX6_picture_146 : decode cX6_picture 146 = .ok (.goto (-62), 3) := by decide +kernel
theorem dX6_picture_149 : decode cX6_picture 149 = .ok (.aload_n 0, 1) := by decide +kernel
theorem dX6_picture_150 : decode cX6_picture 150 = .ok (.getfield 33, 3) := by decide +kernel
theorem dX6_picture_153 : decode cX6_picture 153 = .ok (.getfield 178, 3) := by decide +kernel
theorem dX6_picture_156 : decode cX6_picture 156 = .ok (.ireturn, 1) := by decide +kernel
set_option maxRecDepth 20000 in
theorem ggX6_pixel_X4_has : GoodIn wsX6_pixel wsX4_has := goodIn_r _ [7, 8, 47, 48, 49, 50, 51] (by decide +kernel) (by decide +kernel)
set_option maxRecDepth 20000 in
theorem gX6_pixel_X4_has : GoodIn wsX6_pixel (wsV RX6 179 RX4 yX4_has wsX4_has) := goodIn_app (goodIn_of _ (by decide +kernel)) ggX6_pixel_X4_has
set_option maxRecDepth 20000 in
theorem ggX6_pixel_X4_slotOf : GoodIn wsX6_pixel wsX4_slotOf := goodIn_r _ [12, 13, 14, 15, 16, 17, 47, 48, 49, 50, 51] (by decide +kernel) (by decide +kernel)
set_option maxRecDepth 20000 in
theorem gX6_pixel_X4_slotOf : GoodIn wsX6_pixel (wsV RX6 180 RX4 yX4_slotOf wsX4_slotOf) := goodIn_app (goodIn_of _ (by decide +kernel)) ggX6_pixel_X4_slotOf
set_option maxRecDepth 20000 in
theorem ggX6_pixel_X4_widthOf : GoodIn wsX6_pixel wsX4_widthOf := goodIn_r _ [21, 22, 23, 24, 25, 6, 26, 47, 48, 49, 50, 51] (by decide +kernel) (by decide +kernel)
set_option maxRecDepth 20000 in
theorem gX6_pixel_X4_widthOf : GoodIn wsX6_pixel (wsV RX6 183 RX4 yX4_widthOf wsX4_widthOf) := goodIn_app (goodIn_of _ (by decide +kernel)) ggX6_pixel_X4_widthOf
set_option maxRecDepth 20000 in
theorem ggX6_pixel_X6_within : GoodIn wsX6_pixel wsX6_within := goodIn_r _ [30] (by decide +kernel) (by decide +kernel)
set_option maxRecDepth 20000 in
theorem gX6_pixel_X6_within : GoodIn wsX6_pixel (va_wsS RX6 51 yX6_within wsX6_within) := goodIn_app (goodIn_of _ (by decide +kernel)) ggX6_pixel_X6_within
set_option maxRecDepth 20000 in
theorem ggX6_pixel_X4_heightOf : GoodIn wsX6_pixel wsX4_heightOf := goodIn_r _ [34, 35, 23, 24, 25, 6, 26, 47, 48, 49, 50, 51] (by decide +kernel) (by decide +kernel)
set_option maxRecDepth 20000 in
theorem gX6_pixel_X4_heightOf : GoodIn wsX6_pixel (wsV RX6 186 RX4 yX4_heightOf wsX4_heightOf) := goodIn_app (goodIn_of _ (by decide +kernel)) ggX6_pixel_X4_heightOf
set_option maxRecDepth 20000 in
theorem ggX6_pixel_X4_get : GoodIn wsX6_pixel wsX4_get := goodIn_r _ [39, 40, 23, 24, 25, 6, 26, 47, 48, 49, 50, 51] (by decide +kernel) (by decide +kernel)
set_option maxRecDepth 20000 in
theorem gX6_pixel_X4_get : GoodIn wsX6_pixel (wsV RX6 189 RX4 yX4_get wsX4_get) := goodIn_app (goodIn_of _ (by decide +kernel)) ggX6_pixel_X4_get
theorem dX6_pixel_0 : decode cX6_pixel 0 = .ok (.aload_n 0, 1) := by decide +kernel
theorem dX6_pixel_1 : decode cX6_pixel 1 = .ok (.getfield 33, 3) := by decide +kernel
theorem dX6_pixel_4 : decode cX6_pixel 4 = .ok (.iload_n 1, 1) := by decide +kernel
theorem dX6_pixel_5 : decode cX6_pixel 5 = .ok (.invokevirtual 179, 3) := by decide +kernel
theorem dX6_pixel_8 : decode cX6_pixel 8 = .ok (.ifCond .ne 6, 3) := by decide +kernel
theorem dX6_pixel_11 : decode cX6_pixel 11 = .ok (.ldc 156, 2) := by decide +kernel
theorem dX6_pixel_13 : decode cX6_pixel 13 = .ok (.ireturn, 1) := by decide +kernel
theorem dX6_pixel_14 : decode cX6_pixel 14 = .ok (.aload_n 0, 1) := by decide +kernel
theorem dX6_pixel_15 : decode cX6_pixel 15 = .ok (.getfield 33, 3) := by decide +kernel
theorem dX6_pixel_18 : decode cX6_pixel 18 = .ok (.iload_n 1, 1) := by decide +kernel
theorem dX6_pixel_19 : decode cX6_pixel 19 = .ok (.invokevirtual 180, 3) := by decide +kernel
theorem dX6_pixel_22 : decode cX6_pixel 22 = .ok (.istore 4, 2) := by decide +kernel
theorem dX6_pixel_24 : decode cX6_pixel 24 = .ok (.aload_n 0, 1) := by decide +kernel
theorem dX6_pixel_25 : decode cX6_pixel 25 = .ok (.getfield 33, 3) := by decide +kernel
theorem dX6_pixel_28 : decode cX6_pixel 28 = .ok (.iload 4, 2) := by decide +kernel
theorem dX6_pixel_30 : decode cX6_pixel 30 = .ok (.invokevirtual 183, 3) := by decide +kernel
theorem dX6_pixel_33 : decode cX6_pixel 33 = .ok (.istore 5, 2) := by decide +kernel
theorem dX6_pixel_35 : decode cX6_pixel 35 = .ok (.iload_n 2, 1) := by decide +kernel
theorem dX6_pixel_36 : decode cX6_pixel 36 = .ok (.iconst 0, 1) := by decide +kernel
theorem dX6_pixel_37 : decode cX6_pixel 37 = .ok (.iload 5, 2) := by decide +kernel
theorem dX6_pixel_39 : decode cX6_pixel 39 = .ok (.iconst 1, 1) := by decide +kernel
theorem dX6_pixel_40 : decode cX6_pixel 40 = .ok (.isub, 1) := by decide +kernel
theorem dX6_pixel_41 : decode cX6_pixel 41 = .ok (.invokestatic 51, 3) := by decide +kernel
theorem dX6_pixel_44 : decode cX6_pixel 44 = .ok (.ifCond .eq 22, 3) := by decide +kernel
theorem dX6_pixel_47 : decode cX6_pixel 47 = .ok (.iload_n 3, 1) := by decide +kernel
theorem dX6_pixel_48 : decode cX6_pixel 48 = .ok (.iconst 0, 1) := by decide +kernel
theorem dX6_pixel_49 : decode cX6_pixel 49 = .ok (.aload_n 0, 1) := by decide +kernel
theorem dX6_pixel_50 : decode cX6_pixel 50 = .ok (.getfield 33, 3) := by decide +kernel
theorem dX6_pixel_53 : decode cX6_pixel 53 = .ok (.iload 4, 2) := by decide +kernel
theorem dX6_pixel_55 : decode cX6_pixel 55 = .ok (.invokevirtual 186, 3) := by decide +kernel
theorem dX6_pixel_58 : decode cX6_pixel 58 = .ok (.iconst 1, 1) := by decide +kernel
theorem dX6_pixel_59 : decode cX6_pixel 59 = .ok (.isub, 1) := by decide +kernel
theorem dX6_pixel_60 : decode cX6_pixel 60 = .ok (.invokestatic 51, 3) := by decide +kernel
theorem dX6_pixel_63 : decode cX6_pixel 63 = .ok (.ifCond .ne 6, 3) := by decide +kernel
theorem dX6_pixel_66 : decode cX6_pixel 66 = .ok (.ldc 156, 2) := by decide +kernel
theorem dX6_pixel_68 : decode cX6_pixel 68 = .ok (.ireturn, 1) := by decide +kernel
theorem dX6_pixel_69 : decode cX6_pixel 69 = .ok (.aload_n 0, 1) := by decide +kernel
theorem dX6_pixel_70 : decode cX6_pixel 70 = .ok (.getfield 33, 3) := by decide +kernel
theorem dX6_pixel_73 : decode cX6_pixel 73 = .ok (.iload 4, 2) := by decide +kernel
theorem dX6_pixel_75 : decode cX6_pixel 75 = .ok (.iload_n 2, 1) := by decide +kernel
theorem dX6_pixel_76 : decode cX6_pixel 76 = .ok (.iload 5, 2) := by decide +kernel
theorem dX6_pixel_78 : decode cX6_pixel 78 = .ok (.iload_n 3, 1) := by decide +kernel
theorem dX6_pixel_79 : decode cX6_pixel 79 = .ok (.imul, 1) := by decide +kernel
theorem dX6_pixel_80 : decode cX6_pixel 80 = .ok (.iadd, 1) := by decide +kernel
theorem dX6_pixel_81 : decode cX6_pixel 81 = .ok (.invokevirtual 189, 3) := by decide +kernel
theorem dX6_pixel_84 : decode cX6_pixel 84 = .ok (.ireturn, 1) := by decide +kernel
set_option maxRecDepth 20000 in
theorem ggX6_about_X4_has : GoodIn wsX6_about wsX4_has := goodIn_r _ [6, 7, 49, 50, 51, 52, 53] (by decide +kernel) (by decide +kernel)
set_option maxRecDepth 20000 in
theorem gX6_about_X4_has : GoodIn wsX6_about (wsV RX6 179 RX4 yX4_has wsX4_has) := goodIn_app (goodIn_of _ (by decide +kernel)) ggX6_about_X4_has
set_option maxRecDepth 20000 in
theorem ggX6_about_X4_slotOf : GoodIn wsX6_about wsX4_slotOf := goodIn_r _ [11, 12, 13, 14, 15, 16, 49, 50, 51, 52, 53] (by decide +kernel) (by decide +kernel)
set_option maxRecDepth 20000 in
theorem gX6_about_X4_slotOf : GoodIn wsX6_about (wsV RX6 180 RX4 yX4_slotOf wsX4_slotOf) := goodIn_app (goodIn_of _ (by decide +kernel)) ggX6_about_X4_slotOf
set_option maxRecDepth 20000 in
theorem ggX6_about_X4_widthOf : GoodIn wsX6_about wsX4_widthOf := goodIn_r _ [20, 21, 22, 23, 24, 5, 25, 49, 50, 51, 52, 53] (by decide +kernel) (by decide +kernel)
set_option maxRecDepth 20000 in
theorem gX6_about_X4_widthOf : GoodIn wsX6_about (wsV RX6 183 RX4 yX4_widthOf wsX4_widthOf) := goodIn_app (goodIn_of _ (by decide +kernel)) ggX6_about_X4_widthOf
set_option maxRecDepth 20000 in
theorem ggX6_about_X4_heightOf : GoodIn wsX6_about wsX4_heightOf := goodIn_r _ [29, 30, 22, 23, 24, 5, 25, 49, 50, 51, 52, 53] (by decide +kernel) (by decide +kernel)
set_option maxRecDepth 20000 in
theorem gX6_about_X4_heightOf : GoodIn wsX6_about (wsV RX6 186 RX4 yX4_heightOf wsX4_heightOf) := goodIn_app (goodIn_of _ (by decide +kernel)) ggX6_about_X4_heightOf
set_option maxRecDepth 20000 in
theorem ggX6_about_X4_firstGreatest : GoodIn wsX6_about wsX4_firstGreatest := goodIn_r _ [34, 35, 18, 19, 5, 20, 21, 22, 23, 24, 25, 36, 27, 28, 29, 30, 37, 38, 39, 40, 41, 49, 50, 51, 52, 53] (by decide +kernel) (by decide +kernel)
set_option maxRecDepth 20000 in
theorem gX6_about_X4_firstGreatest : GoodIn wsX6_about (wsV RX6 192 RX4 yX4_firstGreatest wsX4_firstGreatest) := goodIn_app (goodIn_of _ (by decide +kernel)) ggX6_about_X4_firstGreatest
set_option maxRecDepth 20000 in
theorem ggX6_about_X4_get : GoodIn wsX6_about wsX4_get := goodIn_r _ [40, 41, 22, 23, 24, 5, 25, 49, 50, 51, 52, 53] (by decide +kernel) (by decide +kernel)
set_option maxRecDepth 20000 in
theorem gX6_about_X4_get : GoodIn wsX6_about (wsV RX6 189 RX4 yX4_get wsX4_get) := goodIn_app (goodIn_of _ (by decide +kernel)) ggX6_about_X4_get
theorem dX6_about_0 : decode cX6_about 0 = .ok (.aload_n 0, 1) := by decide +kernel
theorem dX6_about_1 : decode cX6_about 1 = .ok (.getfield 33, 3) := by decide +kernel
theorem dX6_about_4 : decode cX6_about 4 = .ok (.iload_n 1, 1) := by decide +kernel
theorem dX6_about_5 : decode cX6_about 5 = .ok (.invokevirtual 179, 3) := by decide +kernel
theorem dX6_about_8 : decode cX6_about 8 = .ok (.ifCond .ne 6, 3) := by decide +kernel
theorem dX6_about_11 : decode cX6_about 11 = .ok (.bipush (-2), 2) := by decide +kernel
theorem dX6_about_13 : decode cX6_about 13 = .ok (.ireturn, 1) := by decide +kernel
theorem dX6_about_14 : decode cX6_about 14 = .ok (.aload_n 0, 1) := by decide +kernel
theorem dX6_about_15 : decode cX6_about 15 = .ok (.getfield 33, 3) := by decide +kernel
theorem dX6_about_18 : decode cX6_about 18 = .ok (.iload_n 1, 1) := by decide +kernel
theorem dX6_about_19 : decode cX6_about 19 = .ok (.invokevirtual 180, 3) := by decide +kernel
theorem dX6_about_22 : decode cX6_about 22 = .ok (.istore_n 3, 1) := by decide +kernel
theorem dX6_about_23 : decode cX6_about 23 = .ok (.iload_n 2, 1) := by decide +kernel
theorem dX6_about_24 : decode cX6_about 24 = .ok (.tableswitch 76 0 3 #[32, 41, 50, 67], 32) := by decide +kernel
theorem dX6_about_56 : decode cX6_about 56 = .ok (.aload_n 0, 1) := by decide +kernel
theorem dX6_about_57 : decode cX6_about 57 = .ok (.getfield 33, 3) := by decide +kernel
theorem dX6_about_60 : decode cX6_about 60 = .ok (.iload_n 3, 1) := by decide +kernel
theorem dX6_about_61 : decode cX6_about 61 = .ok (.invokevirtual 183, 3) := by decide +kernel
theorem dX6_about_64 : decode cX6_about 64 = .ok (.ireturn, 1) := by decide +kernel
theorem dX6_about_65 : decode cX6_about 65 = .ok (.aload_n 0, 1) := by decide +kernel
theorem dX6_about_66 : decode cX6_about 66 = .ok (.getfield 33, 3) := by decide +kernel
theorem dX6_about_69 : decode cX6_about 69 = .ok (.iload_n 3, 1) := by decide +kernel
theorem dX6_about_70 : decode cX6_about 70 = .ok (.invokevirtual 186, 3) := by decide +kernel
theorem dX6_about_73 : decode cX6_about 73 = .ok (.ireturn, 1) := by decide +kernel
theorem dX6_about_74 : decode cX6_about 74 = .ok (.aload_n 0, 1) := by decide +kernel
theorem dX6_about_75 : decode cX6_about 75 = .ok (.getfield 33, 3) := by decide +kernel
theorem dX6_about_78 : decode cX6_about 78 = .ok (.iload_n 3, 1) := by decide +kernel
theorem dX6_about_79 : decode cX6_about 79 = .ok (.aload_n 0, 1) := by decide +kernel
theorem dX6_about_80 : decode cX6_about 80 = .ok (.getfield 33, 3) := by decide +kernel
theorem dX6_about_83 : decode cX6_about 83 = .ok (.iload_n 3, 1) := by decide +kernel
theorem dX6_about_84 : decode cX6_about 84 = .ok (.invokevirtual 192, 3) := by decide +kernel
theorem dX6_about_87 : decode cX6_about 87 = .ok (.invokevirtual 189, 3) := by decide +kernel
theorem dX6_about_90 : decode cX6_about 90 = .ok (.ireturn, 1) := by decide +kernel
theorem dX6_about_91 : decode cX6_about 91 = .ok (.aload_n 0, 1) := by decide +kernel
theorem dX6_about_92 : decode cX6_about 92 = .ok (.getfield 33, 3) := by decide +kernel
theorem dX6_about_95 : decode cX6_about 95 = .ok (.iload_n 3, 1) := by decide +kernel
theorem dX6_about_96 : decode cX6_about 96 = .ok (.invokevirtual 192, 3) := by decide +kernel
theorem dX6_about_99 : decode cX6_about 99 = .ok (.ireturn, 1) := by decide +kernel
theorem dX6_about_100 : decode cX6_about 100 = .ok (.bipush (-2), 2) := by decide +kernel
theorem dX6_about_102 : decode cX6_about 102 = .ok (.ireturn, 1) := by decide +kernel
set_option maxRecDepth 20000 in
theorem ggX6_differ_X4_has : GoodIn wsX6_differ wsX4_has := goodIn_r _ [7, 8, 52, 53, 54, 55, 56] (by decide +kernel) (by decide +kernel)
set_option maxRecDepth 20000 in
theorem gX6_differ_X4_has : GoodIn wsX6_differ (wsV RX6 179 RX4 yX4_has wsX4_has) := goodIn_app (goodIn_of _ (by decide +kernel)) ggX6_differ_X4_has
set_option maxRecDepth 20000 in
theorem ggX6_differ_X4_slotOf : GoodIn wsX6_differ wsX4_slotOf := goodIn_r _ [12, 13, 14, 15, 16, 17, 52, 53, 54, 55, 56] (by decide +kernel) (by decide +kernel)
set_option maxRecDepth 20000 in
theorem gX6_differ_X4_slotOf : GoodIn wsX6_differ (wsV RX6 180 RX4 yX4_slotOf wsX4_slotOf) := goodIn_app (goodIn_of _ (by decide +kernel)) ggX6_differ_X4_slotOf
set_option maxRecDepth 20000 in
theorem ggX6_differ_X4_widthOf : GoodIn wsX6_differ wsX4_widthOf := goodIn_r _ [21, 22, 23, 24, 25, 6, 26, 52, 53, 54, 55, 56] (by decide +kernel) (by decide +kernel)
set_option maxRecDepth 20000 in
theorem gX6_differ_X4_widthOf : GoodIn wsX6_differ (wsV RX6 183 RX4 yX4_widthOf wsX4_widthOf) := goodIn_app (goodIn_of _ (by decide +kernel)) ggX6_differ_X4_widthOf
set_option maxRecDepth 20000 in
theorem ggX6_differ_X4_heightOf : GoodIn wsX6_differ wsX4_heightOf := goodIn_r _ [30, 31, 23, 24, 25, 6, 26, 52, 53, 54, 55, 56] (by decide +kernel) (by decide +kernel)
set_option maxRecDepth 20000 in
theorem gX6_differ_X4_heightOf : GoodIn wsX6_differ (wsV RX6 186 RX4 yX4_heightOf wsX4_heightOf) := goodIn_app (goodIn_of _ (by decide +kernel)) ggX6_differ_X4_heightOf
set_option maxRecDepth 20000 in
theorem ggX6_differ_X4_begin : GoodIn wsX6_differ wsX4_begin := goodIn_r _ [35, 8, 13, 22, 31, 36, 10, 11, 6, 12, 14, 15, 16, 17, 52, 53, 54, 55, 56] (by decide +kernel) (by decide +kernel)
set_option maxRecDepth 20000 in
theorem gX6_differ_X4_begin : GoodIn wsX6_differ (wsV RX6 172 RX4 yX4_begin wsX4_begin) := goodIn_app (goodIn_of _ (by decide +kernel)) ggX6_differ_X4_begin
set_option maxRecDepth 20000 in
theorem ggX6_differ_X4_get : GoodIn wsX6_differ wsX4_get := goodIn_r _ [40, 41, 23, 24, 25, 6, 26, 52, 53, 54, 55, 56] (by decide +kernel) (by decide +kernel)
set_option maxRecDepth 20000 in
theorem gX6_differ_X4_get : GoodIn wsX6_differ (wsV RX6 189 RX4 yX4_get wsX4_get) := goodIn_app (goodIn_of _ (by decide +kernel)) ggX6_differ_X4_get
set_option maxRecDepth 20000 in
theorem ggX6_differ_X4_set : GoodIn wsX6_differ wsX4_set := goodIn_r _ [45, 41, 23, 24, 25, 6, 26, 52, 53, 54, 55, 56] (by decide +kernel) (by decide +kernel)
set_option maxRecDepth 20000 in
theorem gX6_differ_X4_set : GoodIn wsX6_differ (wsV RX6 175 RX4 yX4_set wsX4_set) := goodIn_app (goodIn_of _ (by decide +kernel)) ggX6_differ_X4_set
theorem dX6_differ_0 : decode cX6_differ 0 = .ok (.aload_n 0, 1) := by decide +kernel
theorem dX6_differ_1 : decode cX6_differ 1 = .ok (.getfield 33, 3) := by decide +kernel
theorem dX6_differ_4 : decode cX6_differ 4 = .ok (.iload_n 1, 1) := by decide +kernel
theorem dX6_differ_5 : decode cX6_differ 5 = .ok (.invokevirtual 179, 3) := by decide +kernel
theorem dX6_differ_8 : decode cX6_differ 8 = .ok (.ifCond .eq 14, 3) := by decide +kernel
theorem dX6_differ_11 : decode cX6_differ 11 = .ok (.aload_n 0, 1) := by decide +kernel
theorem dX6_differ_12 : decode cX6_differ 12 = .ok (.getfield 33, 3) := by decide +kernel
theorem dX6_differ_15 : decode cX6_differ 15 = .ok (.iload_n 2, 1) := by decide +kernel
theorem dX6_differ_16 : decode cX6_differ 16 = .ok (.invokevirtual 179, 3) := by decide +kernel
theorem dX6_differ_19 : decode cX6_differ 19 = .ok (.ifCond .ne 6, 3) := by decide +kernel
theorem dX6_differ_22 : decode cX6_differ 22 = .ok (.bipush (-2), 2) := by decide +kernel
theorem dX6_differ_24 : decode cX6_differ 24 = .ok (.ireturn, 1) := by decide +kernel
theorem dX6_differ_25 : decode cX6_differ 25 = .ok (.aload_n 0, 1) := by decide +kernel
theorem dX6_differ_26 : decode cX6_differ 26 = .ok (.getfield 33, 3) := by decide +kernel
theorem dX6_differ_29 : decode cX6_differ 29 = .ok (.iload_n 1, 1) := by decide +kernel
theorem dX6_differ_30 : decode cX6_differ 30 = .ok (.invokevirtual 180, 3) := by decide +kernel
theorem dX6_differ_33 : decode cX6_differ 33 = .ok (.istore_n 3, 1) := by decide +kernel
theorem dX6_differ_34 : decode cX6_differ 34 = .ok (.aload_n 0, 1) := by decide +kernel
theorem dX6_differ_35 : decode cX6_differ 35 = .ok (.getfield 33, 3) := by decide +kernel
theorem dX6_differ_38 : decode cX6_differ 38 = .ok (.iload_n 2, 1) := by decide +kernel
theorem dX6_differ_39 : decode cX6_differ 39 = .ok (.invokevirtual 180, 3) := by decide +kernel
theorem dX6_differ_42 : decode cX6_differ 42 = .ok (.istore 4, 2) := by decide +kernel
theorem dX6_differ_44 : decode cX6_differ 44 = .ok (.aload_n 0, 1) := by decide +kernel
theorem dX6_differ_45 : decode cX6_differ 45 = .ok (.getfield 33, 3) := by decide +kernel
theorem dX6_differ_48 : decode cX6_differ 48 = .ok (.iload_n 3, 1) := by decide +kernel
theorem dX6_differ_49 : decode cX6_differ 49 = .ok (.invokevirtual 183, 3) := by decide +kernel
theorem dX6_differ_52 : decode cX6_differ 52 = .ok (.istore 5, 2) := by decide +kernel
theorem dX6_differ_54 : decode cX6_differ 54 = .ok (.aload_n 0, 1) := by decide +kernel
theorem dX6_differ_55 : decode cX6_differ 55 = .ok (.getfield 33, 3) := by decide +kernel
theorem dX6_differ_58 : decode cX6_differ 58 = .ok (.iload_n 3, 1) := by decide +kernel
theorem dX6_differ_59 : decode cX6_differ 59 = .ok (.invokevirtual 186, 3) := by decide +kernel
theorem dX6_differ_62 : decode cX6_differ 62 = .ok (.istore 6, 2) := by decide +kernel
theorem dX6_differ_64 : decode cX6_differ 64 = .ok (.iload 5, 2) := by decide +kernel
theorem dX6_differ_66 : decode cX6_differ 66 = .ok (.aload_n 0, 1) := by decide +kernel
theorem dX6_differ_67 : decode cX6_differ 67 = .ok (.getfield 33, 3) := by decide +kernel
theorem dX6_differ_70 : decode cX6_differ 70 = .ok (.iload 4, 2) := by decide +kernel
theorem dX6_differ_72 : decode cX6_differ 72 = .ok (.invokevirtual 183, 3) := by decide +kernel
theorem dX6_differ_75 : decode cX6_differ 75 = .ok (.if_icmp .ne 17, 3) := by decide +kernel
theorem dX6_differ_78 : decode cX6_differ 78 = .ok (.iload 6, 2) := by decide +kernel
theorem dX6_differ_80 : decode cX6_differ 80 = .ok (.aload_n 0, 1) := by decide +kernel
theorem dX6_differ_81 : decode cX6_differ 81 = .ok (.getfield 33, 3) := by decide +kernel
theorem dX6_differ_84 : decode cX6_differ 84 = .ok (.iload 4, 2) := by decide +kernel
theorem dX6_differ_86 : decode cX6_differ 86 = .ok (.invokevirtual 186, 3) := by decide +kernel
theorem dX6_differ_89 : decode cX6_differ 89 = .ok (.if_icmp .eq 6, 3) := by decide +kernel
theorem dX6_differ_92 : decode cX6_differ 92 = .ok (.bipush (-3), 2) := by decide +kernel
theorem dX6_differ_94 : decode cX6_differ 94 = .ok (.ireturn, 1) := by decide +kernel
theorem dX6_differ_95 : decode cX6_differ 95 = .ok (.aload_n 0, 1) := by decide +kernel
theorem dX6_differ_96 : decode cX6_differ 96 = .ok (.getfield 33, 3) := by decide +kernel
theorem dX6_differ_99 : decode cX6_differ 99 = .ok (.iload 5, 2) := by decide +kernel
theorem dX6_differ_101 : decode cX6_differ 101 = .ok (.iload 6, 2) := by decide +kernel
theorem dX6_differ_103 : decode cX6_differ 103 = .ok (.invokevirtual 172, 3) := by decide +kernel
theorem dX6_differ_106 : decode cX6_differ 106 = .ok (.istore 7, 2) := by decide +kernel
theorem dX6_differ_108 : decode cX6_differ 108 = .ok (.iconst 0, 1) := by decide +kernel
theorem dX6_differ_109 : decode cX6_differ 109 = .ok (.istore 8, 2) := by decide +kernel
theorem dX6_differ_111 : decode cX6_differ 111 = .ok (.iload 8, 2) := by decide +kernel
theorem dX6_differ_113 : decode cX6_differ 113 = .ok (.iload 5, 2) := by decide +kernel
theorem dX6_differ_115 : decode cX6_differ 115 = .ok (.iload 6, 2) := by decide +kernel
theorem dX6_differ_117 : decode cX6_differ 117 = .ok (.imul, 1) := by decide +kernel
theorem dX6_differ_118 : decode cX6_differ 118 = .ok (.if_icmp .ge 42, 3) := by decide +kernel
theorem dX6_differ_121 : decode cX6_differ 121 = .ok (.aload_n 0, 1) := by decide +kernel
theorem dX6_differ_122 : decode cX6_differ 122 = .ok (.getfield 33, 3) := by decide +kernel
theorem dX6_differ_125 : decode cX6_differ 125 = .ok (.iload 7, 2) := by decide +kernel
theorem dX6_differ_127 : decode cX6_differ 127 = .ok (.iload 8, 2) := by decide +kernel
theorem dX6_differ_129 : decode cX6_differ 129 = .ok (.aload_n 0, 1) := by decide +kernel
theorem dX6_differ_130 : decode cX6_differ 130 = .ok (.getfield 33, 3) := by decide +kernel
theorem dX6_differ_133 : decode cX6_differ 133 = .ok (.iload_n 3, 1) := by decide +kernel
theorem dX6_differ_134 : decode cX6_differ 134 = .ok (.iload 8, 2) := by decide +kernel
theorem dX6_differ_136 : decode cX6_differ 136 = .ok (.invokevirtual 189, 3) := by decide +kernel
theorem dX6_differ_139 : decode cX6_differ 139 = .ok (.aload_n 0, 1) := by decide +kernel
theorem dX6_differ_140 : decode cX6_differ 140 = .ok (.getfield 33, 3) := by decide +kernel
theorem dX6_differ_143 : decode cX6_differ 143 = .ok (.iload 4, 2) := by decide +kernel
theorem dX6_differ_145 : decode cX6_differ 145 = .ok (.iload 8, 2) := by decide +kernel
theorem dX6_differ_147 : decode cX6_differ 147 = .ok (.invokevirtual 189, 3) := by decide +kernel
theorem dX6_differ_150 : decode cX6_differ 150 = .ok (.isub, 1) := by decide +kernel
theorem dX6_differ_151 : decode cX6_differ 151 = .ok (.invokevirtual 175, 3) := by decide +kernel
theorem dX6_differ_154 : decode cX6_differ 154 = .ok (.iinc 8 1, 3) := by decide +kernel
theorem dX6_differ_157 : decode cX6_differ 157 = .ok (.goto (-46), 3) := by decide +kernel
theorem dX6_differ_160 : decode cX6_differ 160 = .ok (.aload_n 0, 1) := by decide +kernel
theorem dX6_differ_161 : decode cX6_differ 161 = .ok (.getfield 33, 3) := by decide +kernel
theorem dX6_differ_164 : decode cX6_differ 164 = .ok (.getfield 178, 3) := by decide +kernel
theorem dX6_differ_167 : decode cX6_differ 167 = .ok (.ireturn, 1) := by decide +kernel
set_option maxRecDepth 20000 in
theorem ggX6_turn_X1_has : GoodIn wsX6_turn wsX1_has := goodIn_r _ [7, 8, 98, 99, 100, 101, 102] (by decide +kernel) (by decide +kernel)
set_option maxRecDepth 20000 in
theorem gX6_turn_X1_has : GoodIn wsX6_turn (wsV RX6 142 RX1 yX1_has wsX1_has) := goodIn_app (goodIn_of _ (by decide +kernel)) ggX6_turn_X1_has
set_option maxRecDepth 20000 in
theorem ggX6_turn_X6_isPlace : GoodIn wsX6_turn wsX6_isPlace := goodIn_r _ [12, 13, 14, 11, 15] (by decide +kernel) (by decide +kernel)
set_option maxRecDepth 20000 in
theorem gX6_turn_X6_isPlace : GoodIn wsX6_turn (va_wsS RX6 90 yX6_isPlace wsX6_isPlace) := goodIn_app (goodIn_of _ (by decide +kernel)) ggX6_turn_X6_isPlace
set_option maxRecDepth 20000 in
theorem ggX6_turn_X1_senderOf : GoodIn wsX6_turn wsX1_senderOf := goodIn_r _ [19, 20, 21, 22, 23, 6, 24, 25, 26, 27, 28, 29, 98, 99, 100, 101, 102] (by decide +kernel) (by decide +kernel)
set_option maxRecDepth 20000 in
theorem gX6_turn_X1_senderOf : GoodIn wsX6_turn (wsV RX6 131 RX1 yX1_senderOf wsX1_senderOf) := goodIn_app (goodIn_of _ (by decide +kernel)) ggX6_turn_X1_senderOf
set_option maxRecDepth 20000 in
theorem ggX6_turn_X3_aim : GoodIn wsX6_turn wsX3_aim := goodIn_r _ [34, 35, 36, 37, 38, 39, 40, 41, 33, 42, 43, 44, 45, 46, 47, 48, 49, 50, 51, 52, 53, 54, 55, 56, 57, 58, 59, 60, 11, 61, 62, 63, 64, 65, 66, 67, 68, 69, 70, 71, 72, 73, 103, 104, 105, 106, 107, 108, 109, 110, 111, 112, 113] (by decide +kernel) (by decide +kernel)
set_option maxRecDepth 20000 in
theorem gX6_turn_X3_aim : GoodIn wsX6_turn (wsV RX6 128 RX3 yX3_aim wsX3_aim) := goodIn_app (goodIn_of _ (by decide +kernel)) ggX6_turn_X3_aim
set_option maxRecDepth 20000 in
theorem ggX6_turn_X6_likeness : GoodIn wsX6_turn wsX6_likeness := goodIn_r _ [77, 2, 1, 78, 16, 17, 18, 6, 19, 20, 21, 22, 23, 24, 25, 26, 27, 28, 29, 79, 80, 81, 33, 82, 37, 56, 57, 58, 59, 36, 83, 84, 85, 86, 87, 88, 89, 90, 91, 92, 93, 94, 95, 96, 97, 103, 104, 105, 106, 107, 108, 109, 110, 111, 112, 113, 98, 99, 100, 101, 102] (by decide +kernel) (by decide +kernel)
set_option maxRecDepth 20000 in
theorem gX6_turn_X6_likeness : GoodIn wsX6_turn (wsV RX6 195 RX6 yX6_likeness wsX6_likeness) := goodIn_app (goodIn_of _ (by decide +kernel)) ggX6_turn_X6_likeness
theorem dX6_turn_0 : decode cX6_turn 0 = .ok (.aload_n 0, 1) := by decide +kernel
theorem dX6_turn_1 : decode cX6_turn 1 = .ok (.getfield 26, 3) := by decide +kernel
theorem dX6_turn_4 : decode cX6_turn 4 = .ok (.iload_n 1, 1) := by decide +kernel
theorem dX6_turn_5 : decode cX6_turn 5 = .ok (.invokevirtual 142, 3) := by decide +kernel
theorem dX6_turn_8 : decode cX6_turn 8 = .ok (.ifCond .eq 23, 3) := by decide +kernel
theorem dX6_turn_11 : decode cX6_turn 11 = .ok (.aload_n 0, 1) := by decide +kernel
theorem dX6_turn_12 : decode cX6_turn 12 = .ok (.getfield 26, 3) := by decide +kernel
theorem dX6_turn_15 : decode cX6_turn 15 = .ok (.iload_n 2, 1) := by decide +kernel
theorem dX6_turn_16 : decode cX6_turn 16 = .ok (.invokevirtual 142, 3) := by decide +kernel
theorem dX6_turn_19 : decode cX6_turn 19 = .ok (.ifCond .eq 12, 3) := by decide +kernel
theorem dX6_turn_22 : decode cX6_turn 22 = .ok (.iload_n 3, 1) := by decide +kernel
theorem dX6_turn_23 : decode cX6_turn 23 = .ok (.iload 4, 2) := by decide +kernel
theorem dX6_turn_25 : decode cX6_turn 25 = .ok (.invokestatic 90, 3) := by decide +kernel
theorem dX6_turn_28 : decode cX6_turn 28 = .ok (.ifCond .ne 6, 3) := by decide +kernel
theorem dX6_turn_31 : decode cX6_turn 31 = .ok (.bipush (-100), 2) := by decide +kernel
theorem dX6_turn_33 : decode cX6_turn 33 = .ok (.ireturn, 1) := by decide +kernel
theorem dX6_turn_34 : decode cX6_turn 34 = .ok (.aload_n 0, 1) := by decide +kernel
theorem dX6_turn_35 : decode cX6_turn 35 = .ok (.getfield 26, 3) := by decide +kernel
theorem dX6_turn_38 : decode cX6_turn 38 = .ok (.iload_n 1, 1) := by decide +kernel
theorem dX6_turn_39 : decode cX6_turn 39 = .ok (.invokevirtual 131, 3) := by decide +kernel
theorem dX6_turn_42 : decode cX6_turn 42 = .ok (.aload_n 0, 1) := by decide +kernel
theorem dX6_turn_43 : decode cX6_turn 43 = .ok (.getfield 26, 3) := by decide +kernel
theorem dX6_turn_46 : decode cX6_turn 46 = .ok (.iload_n 2, 1) := by decide +kernel
theorem dX6_turn_47 : decode cX6_turn 47 = .ok (.invokevirtual 131, 3) := by decide +kernel
theorem dX6_turn_50 : decode cX6_turn 50 = .ok (.if_icmp .eq 6, 3) := by decide +kernel
theorem dX6_turn_53 : decode cX6_turn 53 = .ok (.bipush (-101), 2) := by decide +kernel
theorem dX6_turn_55 : decode cX6_turn 55 = .ok (.ireturn, 1) := by decide +kernel
theorem dX6_turn_56 : decode cX6_turn 56 = .ok (.aload_n 0, 1) := by decide +kernel
theorem dX6_turn_57 : decode cX6_turn 57 = .ok (.getfield 10, 3) := by decide +kernel
theorem dX6_turn_60 : decode cX6_turn 60 = .ok (.iload_n 3, 1) := by decide +kernel
theorem dX6_turn_61 : decode cX6_turn 61 = .ok (.iload 4, 2) := by decide +kernel
theorem dX6_turn_63 : decode cX6_turn 63 = .ok (.invokevirtual 128, 3) := by decide +kernel
theorem dX6_turn_66 : decode cX6_turn 66 = .ok (.iconst 0, 1) := by decide +kernel
theorem dX6_turn_67 : decode cX6_turn 67 = .ok (.istore 5, 2) := by decide +kernel
theorem dX6_turn_69 : decode cX6_turn 69 = .ok (.aload_n 0, 1) := by decide +kernel
theorem dX6_turn_70 : decode cX6_turn 70 = .ok (.iload_n 1, 1) := by decide +kernel
theorem dX6_turn_71 : decode cX6_turn 71 = .ok (.iload_n 2, 1) := by decide +kernel
theorem dX6_turn_72 : decode cX6_turn 72 = .ok (.iconst 0, 1) := by decide +kernel
theorem dX6_turn_73 : decode cX6_turn 73 = .ok (.invokevirtual 195, 3) := by decide +kernel
theorem dX6_turn_76 : decode cX6_turn 76 = .ok (.istore 6, 2) := by decide +kernel
theorem dX6_turn_78 : decode cX6_turn 78 = .ok (.iconst 1, 1) := by decide +kernel
theorem dX6_turn_79 : decode cX6_turn 79 = .ok (.istore 7, 2) := by decide +kernel
theorem dX6_turn_81 : decode cX6_turn 81 = .ok (.iload 7, 2) := by decide +kernel
theorem dX6_turn_83 : decode cX6_turn 83 = .ok (.bipush 8, 2) := by decide +kernel
theorem dX6_turn_85 : decode cX6_turn 85 = .ok (.if_icmp .gt 55, 3) := by decide +kernel
theorem dX6_turn_88 : decode cX6_turn 88 = .ok (.iconst (-1), 1) := by decide +kernel
theorem dX6_turn_89 : decode cX6_turn 89 = .ok (.istore 8, 2) := by decide +kernel
theorem dX6_turn_91 : decode cX6_turn 91 = .ok (.iload 8, 2) := by decide +kernel
theorem dX6_turn_93 : decode cX6_turn 93 = .ok (.iconst 1, 1) := by decide +kernel
theorem dX6_turn_94 : decode cX6_turn 94 = .ok (.if_icmp .gt 40, 3) := by decide +kernel
theorem dX6_turn_97 : decode cX6_turn 97 = .ok (.aload_n 0, 1) := by decide +kernel
theorem dX6_turn_98 : decode cX6_turn 98 = .ok (.iload_n 1, 1) := by decide +kernel
theorem dX6_turn_99 : decode cX6_turn 99 = .ok (.iload_n 2, 1) := by decide +kernel
theorem dX6_turn_100 : decode cX6_turn 100 = .ok (.iload 8, 2) := by decide +kernel
theorem dX6_turn_102 : decode cX6_turn 102 = .ok (.iload 7, 2) := by decide +kernel
theorem dX6_turn_104 : decode cX6_turn 104 = .ok (.imul, 1) := by decide +kernel
theorem dX6_turn_105 : decode cX6_turn 105 = .ok (.invokevirtual 195, 3) := by decide +kernel
theorem dX6_turn_108 : decode cX6_turn 108 = .ok (.istore 9, 2) := by decide +kernel
theorem dX6_turn_110 : decode cX6_turn 110 = .ok (.iload 9, 2) := by decide +kernel
theorem dX6_turn_112 : decode cX6_turn 112 = .ok (.iload 6, 2) := by decide +kernel
theorem dX6_turn_114 : decode cX6_turn 114 = .ok (.if_icmp .le 14, 3) := by decide +kernel
theorem dX6_turn_117 : decode cX6_turn 117 = .ok (.iload 9, 2) := by decide +kernel
theorem dX6_turn_119 : decode cX6_turn 119 = .ok (.istore 6, 2) := by decide +kernel
theorem dX6_turn_121 : decode cX6_turn 121 = .ok (.iload 8, 2) := by decide +kernel
theorem dX6_turn_123 : decode cX6_turn 123 = .ok (.iload 7, 2) := by decide +kernel
theorem dX6_turn_125 : decode cX6_turn 125 = .ok (.imul, 1) := by decide +kernel
theorem dX6_turn_126 : decode cX6_turn 126 = .ok (.istore 5, 2) := by decide +kernel
theorem dX6_turn_128 : decode cX6_turn 128 = .ok (.iinc 8 2, 3) := by decide +kernel
theorem dX6_turn_131 : decode cX6_turn 131 = .ok (.goto (-40), 3) := by decide +kernel
theorem dX6_turn_134 : decode cX6_turn 134 = .ok (.iinc 7 1, 3) := by decide +kernel
theorem dX6_turn_137 : decode cX6_turn 137 = .ok (.goto (-56), 3) := by decide +kernel
theorem dX6_turn_140 : decode cX6_turn 140 = .ok (.iload 5, 2) := by decide +kernel
theorem dX6_turn_142 : decode cX6_turn 142 = .ok (.ireturn, 1) := by decide +kernel
set_option maxRecDepth 20000 in
theorem ggX6_likeness_X1_senderOf : GoodIn wsX6_likeness wsX1_senderOf := goodIn_r _ [8, 9, 10, 11, 12, 7, 13, 14, 15, 16, 17, 18, 56, 57, 58, 59, 60] (by decide +kernel) (by decide +kernel)
set_option maxRecDepth 20000 in
theorem gX6_likeness_X1_senderOf : GoodIn wsX6_likeness (wsV RX6 131 RX1 yX1_senderOf wsX1_senderOf) := goodIn_app (goodIn_of _ (by decide +kernel)) ggX6_likeness_X1_senderOf
set_option maxRecDepth 20000 in
theorem ggX6_likeness_X3_aimedDelay : GoodIn wsX6_likeness wsX3_aimedDelay := goodIn_r _ [23, 24, 25, 26, 27, 22, 28, 29, 45, 46, 47, 48, 49, 50, 51, 52, 53, 54, 55] (by decide +kernel) (by decide +kernel)
set_option maxRecDepth 20000 in
theorem gX6_likeness_X3_aimedDelay : GoodIn wsX6_likeness (wsV RX6 134 RX3 yX3_aimedDelay wsX3_aimedDelay) := goodIn_app (goodIn_of _ (by decide +kernel)) ggX6_likeness_X3_aimedDelay
set_option maxRecDepth 20000 in
theorem ggX6_likeness_X1_at : GoodIn wsX6_likeness wsX1_at := goodIn_r _ [33, 34, 35, 36, 37, 7, 38, 10, 11, 12, 13, 14, 15, 16, 17, 18, 56, 57, 58, 59, 60] (by decide +kernel) (by decide +kernel)
set_option maxRecDepth 20000 in
theorem gX6_likeness_X1_at : GoodIn wsX6_likeness (wsV RX6 144 RX1 yX1_at wsX1_at) := goodIn_app (goodIn_of _ (by decide +kernel)) ggX6_likeness_X1_at
theorem dX6_likeness_0 : decode cX6_likeness 0 = .ok (.aload_n 0, 1) := by decide +kernel
theorem dX6_likeness_1 : decode cX6_likeness 1 = .ok (.getfield 10, 3) := by decide +kernel
theorem dX6_likeness_4 : decode cX6_likeness 4 = .ok (.aload_n 0, 1) := by decide +kernel
theorem dX6_likeness_5 : decode cX6_likeness 5 = .ok (.getfield 26, 3) := by decide +kernel
theorem dX6_likeness_8 : decode cX6_likeness 8 = .ok (.iload_n 1, 1) := by decide +kernel
theorem dX6_likeness_9 : decode cX6_likeness 9 = .ok (.invokevirtual 131, 3) := by decide +kernel
theorem dX6_likeness_12 : decode cX6_likeness 12 = .ok (.invokevirtual 134, 3) := by decide +kernel
theorem dX6_likeness_15 : decode cX6_likeness 15 = .ok (.istore 4, 2) := by decide +kernel
theorem dX6_likeness_17 : decode cX6_likeness 17 = .ok (.iconst 0, 1) := by decide +kernel
theorem dX6_likeness_18 : decode cX6_likeness 18 = .ok (.istore 5, 2) := by decide +kernel
theorem dX6_likeness_20 : decode cX6_likeness 20 = .ok (.iconst 0, 1) := by decide +kernel
theorem dX6_likeness_21 : decode cX6_likeness 21 = .ok (.istore 6, 2) := by decide +kernel
theorem dX6_likeness_23 : decode cX6_likeness 23 = .ok (.iload 6, 2) := by decide +kernel
theorem dX6_likeness_25 : decode cX6_likeness 25 = .ok (.aload_n 0, 1) := by decide +kernel
theorem dX6_likeness_26 : decode cX6_likeness 26 = .ok (.getfield 10, 3) := by decide +kernel
theorem dX6_likeness_29 : decode cX6_likeness 29 = .ok (.getfield 137, 3) := by decide +kernel
theorem dX6_likeness_32 : decode cX6_likeness 32 = .ok (.if_icmp .ge 87, 3) := by decide +kernel
theorem dX6_likeness_35 : decode cX6_likeness 35 = .ok (.iload 4, 2) := by decide +kernel
theorem dX6_likeness_37 : decode cX6_likeness 37 = .ok (.aload_n 0, 1) := by decide +kernel
theorem dX6_likeness_38 : decode cX6_likeness 38 = .ok (.getfield 10, 3) := by decide +kernel
theorem dX6_likeness_41 : decode cX6_likeness 41 = .ok (.iload 6, 2) := by decide +kernel
theorem dX6_likeness_43 : decode cX6_likeness 43 = .ok (.invokevirtual 134, 3) := by decide +kernel
theorem dX6_likeness_46 : decode cX6_likeness 46 = .ok (.iadd, 1) := by decide +kernel
theorem dX6_likeness_47 : decode cX6_likeness 47 = .ok (.istore 7, 2) := by decide +kernel
theorem dX6_likeness_49 : decode cX6_likeness 49 = .ok (.bipush (-6), 2) := by decide +kernel
theorem dX6_likeness_51 : decode cX6_likeness 51 = .ok (.istore 8, 2) := by decide +kernel
theorem dX6_likeness_53 : decode cX6_likeness 53 = .ok (.iload 8, 2) := by decide +kernel
theorem dX6_likeness_55 : decode cX6_likeness 55 = .ok (.bipush 6, 2) := by decide +kernel
theorem dX6_likeness_57 : decode cX6_likeness 57 = .ok (.if_icmp .gt 56, 3) := by decide +kernel
theorem dX6_likeness_60 : decode cX6_likeness 60 = .ok (.aload_n 0, 1) := by decide +kernel
theorem dX6_likeness_61 : decode cX6_likeness 61 = .ok (.getfield 26, 3) := by decide +kernel
theorem dX6_likeness_64 : decode cX6_likeness 64 = .ok (.iload_n 1, 1) := by decide +kernel
theorem dX6_likeness_65 : decode cX6_likeness 65 = .ok (.iload 6, 2) := by decide +kernel
theorem dX6_likeness_67 : decode cX6_likeness 67 = .ok (.iload 7, 2) := by decide +kernel
theorem dX6_likeness_69 : decode cX6_likeness 69 = .ok (.iload 8, 2) := by decide +kernel
theorem dX6_likeness_71 : decode cX6_likeness 71 = .ok (.iadd, 1) := by decide +kernel
theorem dX6_likeness_72 : decode cX6_likeness 72 = .ok (.invokevirtual 144, 3) := by decide +kernel
theorem dX6_likeness_75 : decode cX6_likeness 75 = .ok (.istore 9, 2) := by decide +kernel
theorem dX6_likeness_77 : decode cX6_likeness 77 = .ok (.iload 9, 2) := by decide +kernel
theorem dX6_likeness_79 : decode cX6_likeness 79 = .ok (.ifCond .eq 28, 3) := by decide +kernel
theorem dX6_likeness_82 : decode cX6_likeness 82 = .ok (.iload 5, 2) := by decide +kernel
theorem dX6_likeness_84 : decode cX6_likeness 84 = .ok (.iload 9, 2) := by decide +kernel
theorem dX6_likeness_86 : decode cX6_likeness 86 = .ok (.aload_n 0, 1) := by decide +kernel
theorem dX6_likeness_87 : decode cX6_likeness 87 = .ok (.getfield 26, 3) := by decide +kernel
theorem dX6_likeness_90 : decode cX6_likeness 90 = .ok (.iload_n 2, 1) := by decide +kernel
theorem dX6_likeness_91 : decode cX6_likeness 91 = .ok (.iload 6, 2) := by decide +kernel
theorem dX6_likeness_93 : decode cX6_likeness 93 = .ok (.iload 7, 2) := by decide +kernel
theorem dX6_likeness_95 : decode cX6_likeness 95 = .ok (.iload 8, 2) := by decide +kernel
theorem dX6_likeness_97 : decode cX6_likeness 97 = .ok (.iadd, 1) := by decide +kernel
theorem dX6_likeness_98 : decode cX6_likeness 98 = .ok (.iload_n 3, 1) := by decide +kernel
theorem dX6_likeness_99 : decode cX6_likeness 99 = .ok (.iadd, 1) := by decide +kernel
theorem dX6_likeness_100 : decode cX6_likeness 100 = .ok (.invokevirtual 144, 3) := by decide +kernel
theorem dX6_likeness_103 : decode cX6_likeness 103 = .ok (.imul, 1) := by decide +kernel
theorem dX6_likeness_104 : decode cX6_likeness 104 = .ok (.iadd, 1) := by decide +kernel
theorem dX6_likeness_105 : decode cX6_likeness 105 = .ok (.istore 5, 2) := by decide +kernel
theorem dX6_likeness_107 : decode cX6_likeness 107 = .ok (.iinc 8 1, 3) := by decide +kernel
theorem dX6_likeness_110 : decode cX6_likeness 110 = .ok (.goto (-57), 3) := by decide +kernel
theorem dX6_likeness_113 : decode cX6_likeness 113 = .ok (.iinc 6 1, 3) := by decide +kernel
theorem dX6_likeness_116 : decode cX6_likeness 116 = .ok (.goto (-93), 3) := by decide +kernel
theorem dX6_likeness_119 : decode cX6_likeness 119 = .ok (.iload 5, 2) := by decide +kernel
theorem dX6_likeness_121 : decode cX6_likeness 121 = .ok (.ireturn, 1) := by decide +kernel
set_option maxRecDepth 20000 in
theorem ggX6_fan_X1_has : GoodIn wsX6_fan wsX1_has := goodIn_r _ [7, 8, 134, 135, 136, 137, 138] (by decide +kernel) (by decide +kernel)
set_option maxRecDepth 20000 in
theorem gX6_fan_X1_has : GoodIn wsX6_fan (wsV RX6 142 RX1 yX1_has wsX1_has) := goodIn_app (goodIn_of _ (by decide +kernel)) ggX6_fan_X1_has
set_option maxRecDepth 20000 in
theorem ggX6_fan_X6_within : GoodIn wsX6_fan wsX6_within := goodIn_r _ [12] (by decide +kernel) (by decide +kernel)
set_option maxRecDepth 20000 in
theorem gX6_fan_X6_within : GoodIn wsX6_fan (va_wsS RX6 51 yX6_within wsX6_within) := goodIn_app (goodIn_of _ (by decide +kernel)) ggX6_fan_X6_within
set_option maxRecDepth 20000 in
theorem ggX6_fan_X0_begin : GoodIn wsX6_fan wsX0_begin := goodIn_r _ [17, 18, 19, 20, 139, 140, 141, 142] (by decide +kernel) (by decide +kernel)
set_option maxRecDepth 20000 in
theorem gX6_fan_X0_begin : GoodIn wsX6_fan (wsV RX6 198 RX0 yX0_begin wsX0_begin) := goodIn_app (goodIn_of _ (by decide +kernel)) ggX6_fan_X0_begin
set_option maxRecDepth 20000 in
theorem ggX6_fan_X0_xOf : GoodIn wsX6_fan wsX0_xOf := goodIn_r _ [24, 20, 25, 26, 27, 16, 28, 18, 139, 140, 141, 142] (by decide +kernel) (by decide +kernel)
set_option maxRecDepth 20000 in
theorem gX6_fan_X0_xOf : GoodIn wsX6_fan (wsV RX6 200 RX0 yX0_xOf wsX0_xOf) := goodIn_app (goodIn_of _ (by decide +kernel)) ggX6_fan_X0_xOf
set_option maxRecDepth 20000 in
theorem ggX6_fan_X6_joinedMean : GoodIn wsX6_fan wsX6_joinedMean := goodIn_r _ [32, 33, 1, 34, 35, 36, 37, 11, 38, 9, 10, 12, 39, 40, 41, 42, 43, 44, 45, 46, 47, 48, 49, 50, 51, 52, 53, 54, 55, 56, 57, 58, 59, 60, 61, 62, 63, 64, 65, 66, 67, 68, 69, 70, 71, 72, 73, 74, 75, 76, 77, 78, 79, 80, 81, 82, 83, 84, 85, 86, 87, 88, 89, 90, 6, 91, 92, 93, 94, 95, 96, 97, 98, 99, 100, 101, 102, 103, 104, 105, 106, 107, 108, 109, 110, 111, 112, 113, 114, 115, 116, 117, 118, 128, 129, 130, 131, 132, 133, 134, 135, 136, 137, 138, 143, 144, 145, 146, 147, 148, 149, 150, 151, 152, 153] (by decide +kernel) (by decide +kernel)
set_option maxRecDepth 20000 in
theorem gX6_fan_X6_joinedMean : GoodIn wsX6_fan (wsV RX6 163 RX6 yX6_joinedMean wsX6_joinedMean) := goodIn_app (goodIn_of _ (by decide +kernel)) ggX6_fan_X6_joinedMean
set_option maxRecDepth 20000 in
theorem ggX6_fan_X0_set : GoodIn wsX6_fan wsX0_set := goodIn_r _ [122, 123, 124, 125, 126, 16, 127, 18, 19, 139, 140, 141, 142] (by decide +kernel) (by decide +kernel)
set_option maxRecDepth 20000 in
theorem gX6_fan_X0_set : GoodIn wsX6_fan (wsV RX6 203 RX0 yX0_set wsX0_set) := goodIn_app (goodIn_of _ (by decide +kernel)) ggX6_fan_X0_set
theorem dX6_fan_0 : decode cX6_fan 0 = .ok (.aload_n 0, 1) := by decide +kernel
theorem dX6_fan_1 : decode cX6_fan 1 = .ok (.getfield 26, 3) := by decide +kernel
theorem dX6_fan_4 : decode cX6_fan 4 = .ok (.iload_n 1, 1) := by decide +kernel
theorem dX6_fan_5 : decode cX6_fan 5 = .ok (.invokevirtual 142, 3) := by decide +kernel
theorem dX6_fan_8 : decode cX6_fan 8 = .ok (.ifCond .eq 35, 3) := by decide +kernel
theorem dX6_fan_11 : decode cX6_fan 11 = .ok (.iload_n 2, 1) := by decide +kernel
theorem dX6_fan_12 : decode cX6_fan 12 = .ok (.iconst 2, 1) := by decide +kernel
theorem dX6_fan_13 : decode cX6_fan 13 = .ok (.bipush 9, 2) := by decide +kernel
theorem dX6_fan_15 : decode cX6_fan 15 = .ok (.invokestatic 51, 3) := by decide +kernel
theorem dX6_fan_18 : decode cX6_fan 18 = .ok (.ifCond .eq 25, 3) := by decide +kernel
theorem dX6_fan_21 : decode cX6_fan 21 = .ok (.iload_n 3, 1) := by decide +kernel
theorem dX6_fan_22 : decode cX6_fan 22 = .ok (.iconst 2, 1) := by decide +kernel
theorem dX6_fan_23 : decode cX6_fan 23 = .ok (.bipush 16, 2) := by decide +kernel
theorem dX6_fan_25 : decode cX6_fan 25 = .ok (.invokestatic 51, 3) := by decide +kernel
theorem dX6_fan_28 : decode cX6_fan 28 = .ok (.ifCond .eq 15, 3) := by decide +kernel
theorem dX6_fan_31 : decode cX6_fan 31 = .ok (.iload 4, 2) := by decide +kernel
theorem dX6_fan_33 : decode cX6_fan 33 = .ok (.iconst 1, 1) := by decide +kernel
theorem dX6_fan_34 : decode cX6_fan 34 = .ok (.sipush 250, 3) := by decide +kernel
theorem dX6_fan_37 : decode cX6_fan 37 = .ok (.invokestatic 51, 3) := by decide +kernel
theorem dX6_fan_40 : decode cX6_fan 40 = .ok (.ifCond .ne 6, 3) := by decide +kernel
theorem dX6_fan_43 : decode cX6_fan 43 = .ok (.bipush (-2), 2) := by decide +kernel
theorem dX6_fan_45 : decode cX6_fan 45 = .ok (.ireturn, 1) := by decide +kernel
theorem dX6_fan_46 : decode cX6_fan 46 = .ok (.aload_n 0, 1) := by decide +kernel
theorem dX6_fan_47 : decode cX6_fan 47 = .ok (.getfield 40, 3) := by decide +kernel
theorem dX6_fan_50 : decode cX6_fan 50 = .ok (.iload_n 2, 1) := by decide +kernel
theorem dX6_fan_51 : decode cX6_fan 51 = .ok (.iload_n 3, 1) := by decide +kernel
theorem dX6_fan_52 : decode cX6_fan 52 = .ok (.iload 4, 2) := by decide +kernel
theorem dX6_fan_54 : decode cX6_fan 54 = .ok (.invokevirtual 198, 3) := by decide +kernel
theorem dX6_fan_57 : decode cX6_fan 57 = .ok (.iconst 0, 1) := by decide +kernel
theorem dX6_fan_58 : decode cX6_fan 58 = .ok (.istore 5, 2) := by decide +kernel
theorem dX6_fan_60 : decode cX6_fan 60 = .ok (.iload 5, 2) := by decide +kernel
theorem dX6_fan_62 : decode cX6_fan 62 = .ok (.iload_n 2, 1) := by decide +kernel
theorem dX6_fan_63 : decode cX6_fan 63 = .ok (.if_icmp .ge 58, 3) := by decide +kernel
theorem dX6_fan_66 : decode cX6_fan 66 = .ok (.iconst 0, 1) := by decide +kernel
theorem dX6_fan_67 : decode cX6_fan 67 = .ok (.istore 6, 2) := by decide +kernel
theorem dX6_fan_69 : decode cX6_fan 69 = .ok (.iload 6, 2) := by decide +kernel
theorem dX6_fan_71 : decode cX6_fan 71 = .ok (.iload_n 3, 1) := by decide +kernel
theorem dX6_fan_72 : decode cX6_fan 72 = .ok (.if_icmp .ge 43, 3) := by decide +kernel
theorem dX6_fan_75 : decode cX6_fan 75 = .ok (.aload_n 0, 1) := by decide +kernel
theorem dX6_fan_76 : decode cX6_fan 76 = .ok (.getfield 40, 3) := by decide +kernel
theorem dX6_fan_79 : decode cX6_fan 79 = .ok (.iload 5, 2) := by decide +kernel
theorem dX6_fan_81 : decode cX6_fan 81 = .ok (.iload 6, 2) := by decide +kernel
theorem dX6_fan_83 : decode cX6_fan 83 = .ok (.aload_n 0, 1) := by decide +kernel
theorem dX6_fan_84 : decode cX6_fan 84 = .ok (.iconst 1, 1) := by decide +kernel
theorem dX6_fan_85 : decode cX6_fan 85 = .ok (.iload_n 1, 1) := by decide +kernel
theorem dX6_fan_86 : decode cX6_fan 86 = .ok (.ishl, 1) := by decide +kernel
theorem dX6_fan_87 : decode cX6_fan 87 = .ok (.aload_n 0, 1) := by decide +kernel
theorem dX6_fan_88 : decode cX6_fan 88 = .ok (.getfield 40, 3) := by decide +kernel
theorem dX6_fan_91 : decode cX6_fan 91 = .ok (.iload 5, 2) := by decide +kernel
theorem dX6_fan_93 : decode cX6_fan 93 = .ok (.iload 6, 2) := by decide +kernel
theorem dX6_fan_95 : decode cX6_fan 95 = .ok (.invokevirtual 200, 3) := by decide +kernel
theorem dX6_fan_98 : decode cX6_fan 98 = .ok (.iload 6, 2) := by decide +kernel
theorem dX6_fan_100 : decode cX6_fan 100 = .ok (.iload 4, 2) := by decide +kernel
theorem dX6_fan_102 : decode cX6_fan 102 = .ok (.imul, 1) := by decide +kernel
theorem dX6_fan_103 : decode cX6_fan 103 = .ok (.invokevirtual 163, 3) := by decide +kernel
theorem dX6_fan_106 : decode cX6_fan 106 = .ok (.invokevirtual 203, 3) := by decide +kernel
theorem dX6_fan_109 : decode cX6_fan 109 = .ok (.iinc 6 1, 3) := by decide +kernel
theorem dX6_fan_112 : decode cX6_fan 112 = .ok (.goto (-43), 3) := by decide +kernel
theorem dX6_fan_115 : decode cX6_fan 115 = .ok (.iinc 5 1, 3) := by decide +kernel
theorem dX6_fan_118 : decode cX6_fan 118 = .ok (.goto (-58), 3) := by decide +kernel
theorem dX6_fan_121 : decode cX6_fan 121 = .ok (.iconst 1, 1) := by decide +kernel
theorem dX6_fan_122 : decode cX6_fan 122 = .ok (.ireturn, 1) := by decide +kernel
set_option maxRecDepth 20000 in
theorem ggX6_fanAt_X0_has : GoodIn wsX6_fanAt wsX0_has := goodIn_r _ [7, 8, 9, 22, 23, 24, 25] (by decide +kernel) (by decide +kernel)
set_option maxRecDepth 20000 in
theorem gX6_fanAt_X0_has : GoodIn wsX6_fanAt (wsV RX6 204 RX0 yX0_has wsX0_has) := goodIn_app (goodIn_of _ (by decide +kernel)) ggX6_fanAt_X0_has
set_option maxRecDepth 20000 in
theorem ggX6_fanAt_X0_get : GoodIn wsX6_fanAt wsX0_get := goodIn_r _ [13, 14, 15, 4, 5, 6, 7, 8, 9, 22, 23, 24, 25] (by decide +kernel) (by decide +kernel)
set_option maxRecDepth 20000 in
theorem gX6_fanAt_X0_get : GoodIn wsX6_fanAt (wsV RX6 206 RX0 yX0_get wsX0_get) := goodIn_app (goodIn_of _ (by decide +kernel)) ggX6_fanAt_X0_get
theorem dX6_fanAt_0 : decode cX6_fanAt 0 = .ok (.aload_n 0, 1) := by decide +kernel
theorem dX6_fanAt_1 : decode cX6_fanAt 1 = .ok (.getfield 40, 3) := by decide +kernel
theorem dX6_fanAt_4 : decode cX6_fanAt 4 = .ok (.iload_n 1, 1) := by decide +kernel
theorem dX6_fanAt_5 : decode cX6_fanAt 5 = .ok (.iload_n 2, 1) := by decide +kernel
theorem dX6_fanAt_6 : decode cX6_fanAt 6 = .ok (.invokevirtual 204, 3) := by decide +kernel
theorem dX6_fanAt_9 : decode cX6_fanAt 9 = .ok (.ifCond .ne 6, 3) := by decide +kernel
theorem dX6_fanAt_12 : decode cX6_fanAt 12 = .ok (.ldc 156, 2) := by decide +kernel
theorem dX6_fanAt_14 : decode cX6_fanAt 14 = .ok (.ireturn, 1) := by decide +kernel
theorem dX6_fanAt_15 : decode cX6_fanAt 15 = .ok (.aload_n 0, 1) := by decide +kernel
theorem dX6_fanAt_16 : decode cX6_fanAt 16 = .ok (.getfield 40, 3) := by decide +kernel
theorem dX6_fanAt_19 : decode cX6_fanAt 19 = .ok (.iload_n 1, 1) := by decide +kernel
theorem dX6_fanAt_20 : decode cX6_fanAt 20 = .ok (.iload_n 2, 1) := by decide +kernel
theorem dX6_fanAt_21 : decode cX6_fanAt 21 = .ok (.invokevirtual 206, 3) := by decide +kernel
theorem dX6_fanAt_24 : decode cX6_fanAt 24 = .ok (.ireturn, 1) := by decide +kernel
set_option maxRecDepth 20000 in
theorem ggX6_board_X6_within : GoodIn wsX6_board wsX6_within := goodIn_r _ [7] (by decide +kernel) (by decide +kernel)
set_option maxRecDepth 20000 in
theorem gX6_board_X6_within : GoodIn wsX6_board (va_wsS RX6 51 yX6_within wsX6_within) := goodIn_app (goodIn_of _ (by decide +kernel)) ggX6_board_X6_within
set_option maxRecDepth 20000 in
theorem ggX6_board_X0_laidAt : GoodIn wsX6_board wsX0_laidAt := goodIn_r _ [12, 13, 14, 15, 16, 17, 18, 11, 19, 20, 21, 22, 23, 24, 25, 26, 27, 28, 35, 36, 37, 38] (by decide +kernel) (by decide +kernel)
set_option maxRecDepth 20000 in
theorem gX6_board_X0_laidAt : GoodIn wsX6_board (wsV RX6 210 RX0 yX0_laidAt wsX0_laidAt) := goodIn_app (goodIn_of _ (by decide +kernel)) ggX6_board_X0_laidAt
theorem dX6_board_0 : decode cX6_board 0 = .ok (.iload_n 1, 1) := by decide +kernel
theorem dX6_board_1 : decode cX6_board 1 = .ok (.iconst 2, 1) := by decide +kernel
theorem dX6_board_2 : decode cX6_board 2 = .ok (.bipush 12, 2) := by decide +kernel
theorem dX6_board_4 : decode cX6_board 4 = .ok (.invokestatic 51, 3) := by decide +kernel
theorem dX6_board_7 : decode cX6_board 7 = .ok (.ifCond .eq 24, 3) := by decide +kernel
theorem dX6_board_10 : decode cX6_board 10 = .ok (.iload_n 2, 1) := by decide +kernel
theorem dX6_board_11 : decode cX6_board 11 = .ok (.iconst 2, 1) := by decide +kernel
theorem dX6_board_12 : decode cX6_board 12 = .ok (.bipush 12, 2) := by decide +kernel
theorem dX6_board_14 : decode cX6_board 14 = .ok (.invokestatic 51, 3) := by decide +kernel
theorem dX6_board_17 : decode cX6_board 17 = .ok (.ifCond .eq 14, 3) := by decide +kernel
theorem dX6_board_20 : decode cX6_board 20 = .ok (.iload_n 3, 1) := by decide +kernel
theorem dX6_board_21 : decode cX6_board 21 = .ok (.iconst 1, 1) := by decide +kernel
theorem dX6_board_22 : decode cX6_board 22 = .ok (.sipush 500, 3) := by decide +kernel
theorem dX6_board_25 : decode cX6_board 25 = .ok (.invokestatic 51, 3) := by decide +kernel
theorem dX6_board_28 : decode cX6_board 28 = .ok (.ifCond .ne 6, 3) := by decide +kernel
theorem dX6_board_31 : decode cX6_board 31 = .ok (.ldc 156, 2) := by decide +kernel
theorem dX6_board_33 : decode cX6_board 33 = .ok (.ireturn, 1) := by decide +kernel
theorem dX6_board_34 : decode cX6_board 34 = .ok (.iload 4, 2) := by decide +kernel
theorem dX6_board_36 : decode cX6_board 36 = .ok (.iconst 0, 1) := by decide +kernel
theorem dX6_board_37 : decode cX6_board 37 = .ok (.iload_n 1, 1) := by decide +kernel
theorem dX6_board_38 : decode cX6_board 38 = .ok (.iconst 1, 1) := by decide +kernel
theorem dX6_board_39 : decode cX6_board 39 = .ok (.isub, 1) := by decide +kernel
theorem dX6_board_40 : decode cX6_board 40 = .ok (.invokestatic 51, 3) := by decide +kernel
theorem dX6_board_43 : decode cX6_board 43 = .ok (.ifCond .eq 25, 3) := by decide +kernel
theorem dX6_board_46 : decode cX6_board 46 = .ok (.iload 5, 2) := by decide +kernel
theorem dX6_board_48 : decode cX6_board 48 = .ok (.iconst 0, 1) := by decide +kernel
theorem dX6_board_49 : decode cX6_board 49 = .ok (.iload_n 2, 1) := by decide +kernel
theorem dX6_board_50 : decode cX6_board 50 = .ok (.iconst 1, 1) := by decide +kernel
theorem dX6_board_51 : decode cX6_board 51 = .ok (.isub, 1) := by decide +kernel
theorem dX6_board_52 : decode cX6_board 52 = .ok (.invokestatic 51, 3) := by decide +kernel
theorem dX6_board_55 : decode cX6_board 55 = .ok (.ifCond .eq 13, 3) := by decide +kernel
theorem dX6_board_58 : decode cX6_board 58 = .ok (.aload_n 0, 1) := by decide +kernel
theorem dX6_board_59 : decode cX6_board 59 = .ok (.getfield 40, 3) := by decide +kernel
theorem dX6_board_62 : decode cX6_board 62 = .ok (.getfield 207, 3) := by decide +kernel
theorem dX6_board_65 : decode cX6_board 65 = .ok (.ifCond .ne 6, 3) := by decide +kernel
theorem dX6_board_68 : decode cX6_board 68 = .ok (.ldc 156, 2) := by decide +kernel
theorem dX6_board_70 : decode cX6_board 70 = .ok (.ireturn, 1) := by decide +kernel
theorem dX6_board_71 : decode cX6_board 71 = .ok (.aload_n 0, 1) := by decide +kernel
theorem dX6_board_72 : decode cX6_board 72 = .ok (.getfield 40, 3) := by decide +kernel
theorem dX6_board_75 : decode cX6_board 75 = .ok (.iload_n 3, 1) := by decide +kernel
theorem dX6_board_76 : decode cX6_board 76 = .ok (.iconst 2, 1) := by decide +kernel
theorem dX6_board_77 : decode cX6_board 77 = .ok (.iload 4, 2) := by decide +kernel
theorem dX6_board_79 : decode cX6_board 79 = .ok (.imul, 1) := by decide +kernel
theorem dX6_board_80 : decode cX6_board 80 = .ok (.iload_n 1, 1) := by decide +kernel
theorem dX6_board_81 : decode cX6_board 81 = .ok (.isub, 1) := by decide +kernel
theorem dX6_board_82 : decode cX6_board 82 = .ok (.iconst 1, 1) := by decide +kernel
theorem dX6_board_83 : decode cX6_board 83 = .ok (.iadd, 1) := by decide +kernel
theorem dX6_board_84 : decode cX6_board 84 = .ok (.imul, 1) := by decide +kernel
theorem dX6_board_85 : decode cX6_board 85 = .ok (.iconst 2, 1) := by decide +kernel
theorem dX6_board_86 : decode cX6_board 86 = .ok (.idiv, 1) := by decide +kernel
theorem dX6_board_87 : decode cX6_board 87 = .ok (.iload_n 3, 1) := by decide +kernel
theorem dX6_board_88 : decode cX6_board 88 = .ok (.iload 5, 2) := by decide +kernel
theorem dX6_board_90 : decode cX6_board 90 = .ok (.imul, 1) := by decide +kernel
theorem dX6_board_91 : decode cX6_board 91 = .ok (.invokevirtual 210, 3) := by decide +kernel
theorem dX6_board_94 : decode cX6_board 94 = .ok (.ireturn, 1) := by decide +kernel
set_option maxRecDepth 20000 in
theorem ggX6_caliper_X6_isPlace : GoodIn wsX6_caliper wsX6_isPlace := goodIn_r _ [8, 9, 10, 7, 11] (by decide +kernel) (by decide +kernel)
set_option maxRecDepth 20000 in
theorem gX6_caliper_X6_isPlace : GoodIn wsX6_caliper (va_wsS RX6 90 yX6_isPlace wsX6_isPlace) := goodIn_app (goodIn_of _ (by decide +kernel)) ggX6_caliper_X6_isPlace
set_option maxRecDepth 20000 in
theorem ggX6_caliper_X6_root : GoodIn wsX6_caliper wsX6_root := goodIn_r _ [14, 15] (by decide +kernel) (by decide +kernel)
set_option maxRecDepth 20000 in
theorem gX6_caliper_X6_root : GoodIn wsX6_caliper (va_wsS RX6 218 yX6_root wsX6_root) := goodIn_app (goodIn_of _ (by decide +kernel)) ggX6_caliper_X6_root
theorem dX6_caliper_0 : decode cX6_caliper 0 = .ok (.iload_n 1, 1) := by decide +kernel
theorem dX6_caliper_1 : decode cX6_caliper 1 = .ok (.iload_n 2, 1) := by decide +kernel
theorem dX6_caliper_2 : decode cX6_caliper 2 = .ok (.invokestatic 90, 3) := by decide +kernel
theorem dX6_caliper_5 : decode cX6_caliper 5 = .ok (.ifCond .eq 12, 3) := by decide +kernel
theorem dX6_caliper_8 : decode cX6_caliper 8 = .ok (.iload_n 3, 1) := by decide +kernel
theorem dX6_caliper_9 : decode cX6_caliper 9 = .ok (.iload 4, 2) := by decide +kernel
theorem dX6_caliper_11 : decode cX6_caliper 11 = .ok (.invokestatic 90, 3) := by decide +kernel
theorem dX6_caliper_14 : decode cX6_caliper 14 = .ok (.ifCond .ne 6, 3) := by decide +kernel
theorem dX6_caliper_17 : decode cX6_caliper 17 = .ok (.bipush (-2), 2) := by decide +kernel
theorem dX6_caliper_19 : decode cX6_caliper 19 = .ok (.ireturn, 1) := by decide +kernel
theorem dX6_caliper_20 : decode cX6_caliper 20 = .ok (.iload_n 1, 1) := by decide +kernel
theorem dX6_caliper_21 : decode cX6_caliper 21 = .ok (.iload_n 3, 1) := by decide +kernel
theorem dX6_caliper_22 : decode cX6_caliper 22 = .ok (.isub, 1) := by decide +kernel
theorem dX6_caliper_23 : decode cX6_caliper 23 = .ok (.invokestatic 213, 3) := by decide +kernel
theorem dX6_caliper_26 : decode cX6_caliper 26 = .ok (.i2l, 1) := by decide +kernel
theorem dX6_caliper_27 : decode cX6_caliper 27 = .ok (.lstore 5, 2) := by decide +kernel
theorem dX6_caliper_29 : decode cX6_caliper 29 = .ok (.iload_n 2, 1) := by decide +kernel
theorem dX6_caliper_30 : decode cX6_caliper 30 = .ok (.iload 4, 2) := by decide +kernel
theorem dX6_caliper_32 : decode cX6_caliper 32 = .ok (.isub, 1) := by decide +kernel
theorem dX6_caliper_33 : decode cX6_caliper 33 = .ok (.invokestatic 213, 3) := by decide +kernel
theorem dX6_caliper_36 : decode cX6_caliper 36 = .ok (.i2l, 1) := by decide +kernel
theorem dX6_caliper_37 : decode cX6_caliper 37 = .ok (.lstore 7, 2) := by decide +kernel
theorem dX6_caliper_39 : decode cX6_caliper 39 = .ok (.lload 5, 2) := by decide +kernel
theorem dX6_caliper_41 : decode cX6_caliper 41 = .ok (.lload 5, 2) := by decide +kernel
theorem dX6_caliper_43 : decode cX6_caliper 43 = .ok (.lmul, 1) := by decide +kernel
theorem dX6_caliper_44 : decode cX6_caliper 44 = .ok (.lload 7, 2) := by decide +kernel
theorem dX6_caliper_46 : decode cX6_caliper 46 = .ok (.lload 7, 2) := by decide +kernel
theorem dX6_caliper_48 : decode cX6_caliper 48 = .ok (.lmul, 1) := by decide +kernel
theorem dX6_caliper_49 : decode cX6_caliper 49 = .ok (.ladd, 1) := by decide +kernel
theorem dX6_caliper_50 : decode cX6_caliper 50 = .ok (.lload 5, 2) := by decide +kernel
theorem dX6_caliper_52 : decode cX6_caliper 52 = .ok (.lload 7, 2) := by decide +kernel
theorem dX6_caliper_54 : decode cX6_caliper 54 = .ok (.ladd, 1) := by decide +kernel
theorem dX6_caliper_55 : decode cX6_caliper 55 = .ok (.invokestatic 218, 3) := by decide +kernel
theorem dX6_caliper_58 : decode cX6_caliper 58 = .ok (.l2i, 1) := by decide +kernel
theorem dX6_caliper_59 : decode cX6_caliper 59 = .ok (.ireturn, 1) := by decide +kernel
set_option maxRecDepth 20000 in
theorem ggX6_cap_X6_within : GoodIn wsX6_cap wsX6_within := goodIn_r _ [7] (by decide +kernel) (by decide +kernel)
set_option maxRecDepth 20000 in
theorem gX6_cap_X6_within : GoodIn wsX6_cap (va_wsS RX6 51 yX6_within wsX6_within) := goodIn_app (goodIn_of _ (by decide +kernel)) ggX6_cap_X6_within
theorem dX6_cap_0 : decode cX6_cap 0 = .ok (.iload_n 1, 1) := by decide +kernel
theorem dX6_cap_1 : decode cX6_cap 1 = .ok (.iconst 0, 1) := by decide +kernel
theorem dX6_cap_2 : decode cX6_cap 2 = .ok (.ldc 222, 2) := by decide +kernel
theorem dX6_cap_4 : decode cX6_cap 4 = .ok (.invokestatic 51, 3) := by decide +kernel
theorem dX6_cap_7 : decode cX6_cap 7 = .ok (.ifCond .ne 6, 3) := by decide +kernel
theorem dX6_cap_10 : decode cX6_cap 10 = .ok (.bipush (-2), 2) := by decide +kernel
theorem dX6_cap_12 : decode cX6_cap 12 = .ok (.ireturn, 1) := by decide +kernel
theorem dX6_cap_13 : decode cX6_cap 13 = .ok (.aload_n 0, 1) := by decide +kernel
theorem dX6_cap_14 : decode cX6_cap 14 = .ok (.getfield 47, 3) := by decide +kernel
theorem dX6_cap_17 : decode cX6_cap 17 = .ok (.getfield 114, 3) := by decide +kernel
theorem dX6_cap_20 : decode cX6_cap 20 = .ok (.istore_n 2, 1) := by decide +kernel
theorem dX6_cap_21 : decode cX6_cap 21 = .ok (.aload_n 0, 1) := by decide +kernel
theorem dX6_cap_22 : decode cX6_cap 22 = .ok (.getfield 47, 3) := by decide +kernel
theorem dX6_cap_25 : decode cX6_cap 25 = .ok (.iload_n 1, 1) := by decide +kernel
theorem dX6_cap_26 : decode cX6_cap 26 = .ok (.putfield 114, 3) := by decide +kernel
theorem dX6_cap_29 : decode cX6_cap 29 = .ok (.iload_n 2, 1) := by decide +kernel
theorem dX6_cap_30 : decode cX6_cap 30 = .ok (.ireturn, 1) := by decide +kernel
set_option maxRecDepth 20000 in
theorem ggX6_tick_X6_within : GoodIn wsX6_tick wsX6_within := goodIn_r _ [6] (by decide +kernel) (by decide +kernel)
set_option maxRecDepth 20000 in
theorem gX6_tick_X6_within : GoodIn wsX6_tick (va_wsS RX6 51 yX6_within wsX6_within) := goodIn_app (goodIn_of _ (by decide +kernel)) ggX6_tick_X6_within
set_option maxRecDepth 20000 in
theorem ggX6_tick_X2_cool : GoodIn wsX6_tick wsX2_cool := goodIn_r _ [11, 12, 19, 20] (by decide +kernel) (by decide +kernel)
set_option maxRecDepth 20000 in
theorem gX6_tick_X2_cool : GoodIn wsX6_tick (wsV RX6 223 RX2 yX2_cool wsX2_cool) := goodIn_app (goodIn_of _ (by decide +kernel)) ggX6_tick_X2_cool
theorem dX6_tick_0 : decode cX6_tick 0 = .ok (.iload_n 1, 1) := by decide +kernel
theorem dX6_tick_1 : decode cX6_tick 1 = .ok (.iconst 1, 1) := by decide +kernel
theorem dX6_tick_2 : decode cX6_tick 2 = .ok (.sipush 1000, 3) := by decide +kernel
theorem dX6_tick_5 : decode cX6_tick 5 = .ok (.invokestatic 51, 3) := by decide +kernel
theorem dX6_tick_8 : decode cX6_tick 8 = .ok (.ifCond .ne 6, 3) := by decide +kernel
theorem dX6_tick_11 : decode cX6_tick 11 = .ok (.bipush (-2), 2) := by decide +kernel
theorem dX6_tick_13 : decode cX6_tick 13 = .ok (.ireturn, 1) := by decide +kernel
theorem dX6_tick_14 : decode cX6_tick 14 = .ok (.iconst 0, 1) := by decide +kernel
theorem dX6_tick_15 : decode cX6_tick 15 = .ok (.istore_n 2, 1) := by decide +kernel
theorem dX6_tick_16 : decode cX6_tick 16 = .ok (.iload_n 2, 1) := by decide +kernel
theorem dX6_tick_17 : decode cX6_tick 17 = .ok (.iload_n 1, 1) := by decide +kernel
theorem dX6_tick_18 : decode cX6_tick 18 = .ok (.if_icmp .ge 16, 3) := by decide +kernel
theorem dX6_tick_21 : decode cX6_tick 21 = .ok (.aload_n 0, 1) := by decide +kernel
theorem dX6_tick_22 : decode cX6_tick 22 = .ok (.getfield 47, 3) := by decide +kernel
theorem dX6_tick_25 : decode cX6_tick 25 = .ok (.invokevirtual 223, 3) := by decide +kernel
theorem dX6_tick_28 : decode cX6_tick 28 = .ok (.iinc 2 1, 3) := by decide +kernel
theorem dX6_tick_31 : decode cX6_tick 31 = .ok (.goto (-15), 3) := by decide +kernel
theorem dX6_tick_34 : decode cX6_tick 34 = .ok (.aload_n 0, 1) := by decide +kernel
theorem dX6_tick_35 : decode cX6_tick 35 = .ok (.getfield 47, 3) := by decide +kernel
theorem dX6_tick_38 : decode cX6_tick 38 = .ok (.getfield 63, 3) := by decide +kernel
theorem dX6_tick_41 : decode cX6_tick 41 = .ok (.ireturn, 1) := by decide +kernel
theorem dX6_count_0 : decode cX6_count 0 = .ok (.iload_n 1, 1) := by decide +kernel
theorem dX6_count_1 : decode cX6_count 1 = .ok (.tableswitch 99 0 6 #[43, 51, 59, 67, 75, 83, 91], 43) := by decide +kernel
theorem dX6_count_44 : decode cX6_count 44 = .ok (.aload_n 0, 1) := by decide +kernel
theorem dX6_count_45 : decode cX6_count 45 = .ok (.getfield 10, 3) := by decide +kernel
theorem dX6_count_48 : decode cX6_count 48 = .ok (.getfield 137, 3) := by decide +kernel
theorem dX6_count_51 : decode cX6_count 51 = .ok (.ireturn, 1) := by decide +kernel
theorem dX6_count_52 : decode cX6_count 52 = .ok (.aload_n 0, 1) := by decide +kernel
theorem dX6_count_53 : decode cX6_count 53 = .ok (.getfield 10, 3) := by decide +kernel
theorem dX6_count_56 : decode cX6_count 56 = .ok (.getfield 83, 3) := by decide +kernel
theorem dX6_count_59 : decode cX6_count 59 = .ok (.ireturn, 1) := by decide +kernel
theorem dX6_count_60 : decode cX6_count 60 = .ok (.aload_n 0, 1) := by decide +kernel
theorem dX6_count_61 : decode cX6_count 61 = .ok (.getfield 19, 3) := by decide +kernel
theorem dX6_count_64 : decode cX6_count 64 = .ok (.getfield 98, 3) := by decide +kernel
theorem dX6_count_67 : decode cX6_count 67 = .ok (.ireturn, 1) := by decide +kernel
theorem dX6_count_68 : decode cX6_count 68 = .ok (.aload_n 0, 1) := by decide +kernel
theorem dX6_count_69 : decode cX6_count 69 = .ok (.getfield 26, 3) := by decide +kernel
theorem dX6_count_72 : decode cX6_count 72 = .ok (.getfield 67, 3) := by decide +kernel
theorem dX6_count_75 : decode cX6_count 75 = .ok (.ireturn, 1) := by decide +kernel
theorem dX6_count_76 : decode cX6_count 76 = .ok (.aload_n 0, 1) := by decide +kernel
theorem dX6_count_77 : decode cX6_count 77 = .ok (.getfield 33, 3) := by decide +kernel
theorem dX6_count_80 : decode cX6_count 80 = .ok (.getfield 178, 3) := by decide +kernel
theorem dX6_count_83 : decode cX6_count 83 = .ok (.ireturn, 1) := by decide +kernel
theorem dX6_count_84 : decode cX6_count 84 = .ok (.aload_n 0, 1) := by decide +kernel
theorem dX6_count_85 : decode cX6_count 85 = .ok (.getfield 47, 3) := by decide +kernel
theorem dX6_count_88 : decode cX6_count 88 = .ok (.getfield 63, 3) := by decide +kernel
theorem dX6_count_91 : decode cX6_count 91 = .ok (.ireturn, 1) := by decide +kernel
theorem dX6_count_92 : decode cX6_count 92 = .ok (.aload_n 0, 1) := by decide +kernel
theorem dX6_count_93 : decode cX6_count 93 = .ok (.getfield 26, 3) := by decide +kernel
theorem dX6_count_96 : decode cX6_count 96 = .ok (.getfield 226, 3) := by decide +kernel
theorem dX6_count_99 : decode cX6_count 99 = .ok (.ireturn, 1) := by decide +kernel
theorem dX6_count_100 : decode cX6_count 100 = .ok (.bipush (-2), 2) := by decide +kernel
theorem dX6_count_102 : decode cX6_count 102 = .ok (.ireturn, 1) := by decide +kernel
set_option maxRecDepth 20000 in
theorem ggX6_digest_X6_count : GoodIn wsX6_digest wsX6_count := goodIn_r _ [14, 7, 8, 15, 3, 4, 5, 6, 9, 16, 17, 18, 19, 89, 90, 91, 92, 93, 94, 106, 107, 108, 109, 110, 111, 112, 113, 114, 115, 116, 95, 96, 97, 98, 99, 100, 101, 102, 103, 104, 105, 117, 118, 119, 120, 121, 122, 123] (by decide +kernel) (by decide +kernel)
set_option maxRecDepth 20000 in
theorem gX6_digest_X6_count : GoodIn wsX6_digest (wsV RX6 233 RX6 yX6_count wsX6_count) := goodIn_app (goodIn_of _ (by decide +kernel)) ggX6_digest_X6_count
set_option maxRecDepth 20000 in
theorem ggX6_digest_X6_pointAt : GoodIn wsX6_digest wsX6_pointAt := goodIn_r _ [23, 3, 24, 25, 26, 27, 28, 29, 30, 31, 32, 89, 90, 91, 92, 93, 94, 95, 96, 97, 98, 99, 100] (by decide +kernel) (by decide +kernel)
set_option maxRecDepth 20000 in
theorem gX6_digest_X6_pointAt : GoodIn wsX6_digest (wsV RX6 236 RX6 yX6_pointAt wsX6_pointAt) := goodIn_app (goodIn_of _ (by decide +kernel)) ggX6_digest_X6_pointAt
set_option maxRecDepth 20000 in
theorem ggX6_digest_X1_senderOf : GoodIn wsX6_digest wsX1_senderOf := goodIn_r _ [37, 38, 39, 40, 41, 36, 42, 43, 44, 45, 46, 47, 101, 102, 103, 104, 105] (by decide +kernel) (by decide +kernel)
set_option maxRecDepth 20000 in
theorem gX6_digest_X1_senderOf : GoodIn wsX6_digest (wsV RX6 131 RX1 yX1_senderOf wsX1_senderOf) := goodIn_app (goodIn_of _ (by decide +kernel)) ggX6_digest_X1_senderOf
set_option maxRecDepth 20000 in
theorem ggX6_digest_X1_rowSum : GoodIn wsX6_digest wsX1_rowSum := goodIn_r _ [51, 52, 53, 54, 55, 36, 56, 39, 40, 41, 42, 43, 44, 45, 46, 47, 101, 102, 103, 104, 105] (by decide +kernel) (by decide +kernel)
set_option maxRecDepth 20000 in
theorem gX6_digest_X1_rowSum : GoodIn wsX6_digest (wsV RX6 239 RX1 yX1_rowSum wsX1_rowSum) := goodIn_app (goodIn_of _ (by decide +kernel)) ggX6_digest_X1_rowSum
set_option maxRecDepth 20000 in
theorem ggX6_digest_X4_digestOn : GoodIn wsX6_digest wsX4_digestOn := goodIn_r _ [61, 62, 63, 64, 65, 66, 60, 67, 68, 69, 45, 46, 47, 70, 71, 72, 73, 74, 75, 76, 77, 78, 79, 80, 81, 82, 83, 84, 85, 86, 87, 88, 117, 118, 119, 120, 121] (by decide +kernel) (by decide +kernel)
set_option maxRecDepth 20000 in
theorem gX6_digest_X4_digestOn : GoodIn wsX6_digest (wsV RX6 243 RX4 yX4_digestOn wsX4_digestOn) := goodIn_app (goodIn_of _ (by decide +kernel)) ggX6_digest_X4_digestOn
theorem dX6_digest_0 : decode cX6_digest 0 = .ok (.ldc2_w 229, 3) := by decide +kernel
theorem dX6_digest_3 : decode cX6_digest 3 = .ok (.lstore_n 1, 1) := by decide +kernel
theorem dX6_digest_4 : decode cX6_digest 4 = .ok (.iconst 0, 1) := by decide +kernel
theorem dX6_digest_5 : decode cX6_digest 5 = .ok (.istore_n 3, 1) := by decide +kernel
theorem dX6_digest_6 : decode cX6_digest 6 = .ok (.iload_n 3, 1) := by decide +kernel
theorem dX6_digest_7 : decode cX6_digest 7 = .ok (.bipush 6, 2) := by decide +kernel
theorem dX6_digest_9 : decode cX6_digest 9 = .ok (.if_icmp .gt 22, 3) := by decide +kernel
theorem dX6_digest_12 : decode cX6_digest 12 = .ok (.ldc2_w 231, 3) := by decide +kernel
theorem dX6_digest_15 : decode cX6_digest 15 = .ok (.lload_n 1, 1) := by decide +kernel
theorem dX6_digest_16 : decode cX6_digest 16 = .ok (.lmul, 1) := by decide +kernel
theorem dX6_digest_17 : decode cX6_digest 17 = .ok (.aload_n 0, 1) := by decide +kernel
theorem dX6_digest_18 : decode cX6_digest 18 = .ok (.iload_n 3, 1) := by decide +kernel
theorem dX6_digest_19 : decode cX6_digest 19 = .ok (.invokevirtual 233, 3) := by decide +kernel
theorem dX6_digest_22 : decode cX6_digest 22 = .ok (.i2l, 1) := by decide +kernel
theorem dX6_digest_23 : decode cX6_digest 23 = .ok (.ladd, 1) := by decide +kernel
theorem dX6_digest_24 : decode cX6_digest 24 = .ok (.lstore_n 1, 1) := by decide +kernel
theorem dX6_digest_25 : decode cX6_digest 25 = .ok (.iinc 3 1, 3) := by decide +kernel
theorem dX6_digest_28 : decode cX6_digest 28 = .ok (.goto (-22), 3) := by decide +kernel
theorem dX6_digest_31 : decode cX6_digest 31 = .ok (.iconst 0, 1) := by decide +kernel
theorem dX6_digest_32 : decode cX6_digest 32 = .ok (.istore_n 3, 1) := by decide +kernel
theorem dX6_digest_33 : decode cX6_digest 33 = .ok (.iload_n 3, 1) := by decide +kernel
theorem dX6_digest_34 : decode cX6_digest 34 = .ok (.aload_n 0, 1) := by decide +kernel
theorem dX6_digest_35 : decode cX6_digest 35 = .ok (.getfield 19, 3) := by decide +kernel
theorem dX6_digest_38 : decode cX6_digest 38 = .ok (.getfield 98, 3) := by decide +kernel
theorem dX6_digest_41 : decode cX6_digest 41 = .ok (.if_icmp .ge 37, 3) := by decide +kernel
theorem dX6_digest_44 : decode cX6_digest 44 = .ok (.ldc2_w 231, 3) := by decide +kernel
theorem dX6_digest_47 : decode cX6_digest 47 = .ok (.lload_n 1, 1) := by decide +kernel
theorem dX6_digest_48 : decode cX6_digest 48 = .ok (.lmul, 1) := by decide +kernel
theorem dX6_digest_49 : decode cX6_digest 49 = .ok (.aload_n 0, 1) := by decide +kernel
theorem dX6_digest_50 : decode cX6_digest 50 = .ok (.iload_n 3, 1) := by decide +kernel
theorem dX6_digest_51 : decode cX6_digest 51 = .ok (.iconst 0, 1) := by decide +kernel
theorem dX6_digest_52 : decode cX6_digest 52 = .ok (.invokevirtual 236, 3) := by decide +kernel
theorem dX6_digest_55 : decode cX6_digest 55 = .ok (.i2l, 1) := by decide +kernel
theorem dX6_digest_56 : decode cX6_digest 56 = .ok (.ladd, 1) := by decide +kernel
theorem dX6_digest_57 : decode cX6_digest 57 = .ok (.lstore_n 1, 1) := by decide +kernel
theorem dX6_digest_58 : decode cX6_digest 58 = .ok (.ldc2_w 231, 3) := by decide +kernel
theorem dX6_digest_61 : decode cX6_digest 61 = .ok (.lload_n 1, 1) := by decide +kernel
theorem dX6_digest_62 : decode cX6_digest 62 = .ok (.lmul, 1) := by decide +kernel
theorem dX6_digest_63 : decode cX6_digest 63 = .ok (.aload_n 0, 1) := by decide +kernel
theorem dX6_digest_64 : decode cX6_digest 64 = .ok (.iload_n 3, 1) := by decide +kernel
theorem dX6_digest_65 : decode cX6_digest 65 = .ok (.iconst 1, 1) := by decide +kernel
theorem dX6_digest_66 : decode cX6_digest 66 = .ok (.invokevirtual 236, 3) := by decide +kernel
theorem dX6_digest_69 : decode cX6_digest 69 = .ok (.i2l, 1) := by decide +kernel
theorem dX6_digest_70 : decode cX6_digest 70 = .ok (.ladd, 1) := by decide +kernel
theorem dX6_digest_71 : decode cX6_digest 71 = .ok (.lstore_n 1, 1) := by decide +kernel
theorem dX6_digest_72 : decode cX6_digest 72 = .ok (.iinc 3 1, 3) := by decide +kernel
theorem dX6_digest_75 : decode cX6_digest 75 = .ok (.goto (-42), 3) := by decide +kernel
theorem dX6_digest_78 : decode cX6_digest 78 = .ok (.iconst 0, 1) := by decide +kernel
theorem dX6_digest_79 : decode cX6_digest 79 = .ok (.istore_n 3, 1) := by decide +kernel
theorem dX6_digest_80 : decode cX6_digest 80 = .ok (.iload_n 3, 1) := by decide +kernel
theorem dX6_digest_81 : decode cX6_digest 81 = .ok (.aload_n 0, 1) := by decide +kernel
theorem dX6_digest_82 : decode cX6_digest 82 = .ok (.getfield 26, 3) := by decide +kernel
theorem dX6_digest_85 : decode cX6_digest 85 = .ok (.getfield 67, 3) := by decide +kernel
theorem dX6_digest_88 : decode cX6_digest 88 = .ok (.if_icmp .ge 63, 3) := by decide +kernel
theorem dX6_digest_91 : decode cX6_digest 91 = .ok (.ldc2_w 231, 3) := by decide +kernel
theorem dX6_digest_94 : decode cX6_digest 94 = .ok (.lload_n 1, 1) := by decide +kernel
theorem dX6_digest_95 : decode cX6_digest 95 = .ok (.lmul, 1) := by decide +kernel
theorem dX6_digest_96 : decode cX6_digest 96 = .ok (.aload_n 0, 1) := by decide +kernel
theorem dX6_digest_97 : decode cX6_digest 97 = .ok (.getfield 26, 3) := by decide +kernel
theorem dX6_digest_100 : decode cX6_digest 100 = .ok (.iload_n 3, 1) := by decide +kernel
theorem dX6_digest_101 : decode cX6_digest 101 = .ok (.invokevirtual 131, 3) := by decide +kernel
theorem dX6_digest_104 : decode cX6_digest 104 = .ok (.i2l, 1) := by decide +kernel
theorem dX6_digest_105 : decode cX6_digest 105 = .ok (.ladd, 1) := by decide +kernel
theorem dX6_digest_106 : decode cX6_digest 106 = .ok (.lstore_n 1, 1) := by decide +kernel
theorem dX6_digest_107 : decode cX6_digest 107 = .ok (.iconst 0, 1) := by decide +kernel
theorem dX6_digest_108 : decode cX6_digest 108 = .ok (.istore 4, 2) := by decide +kernel
theorem dX6_digest_110 : decode cX6_digest 110 = .ok (.iload 4, 2) := by decide +kernel
theorem dX6_digest_112 : decode cX6_digest 112 = .ok (.aload_n 0, 1) := by decide +kernel
theorem dX6_digest_113 : decode cX6_digest 113 = .ok (.getfield 10, 3) := by decide +kernel
theorem dX6_digest_116 : decode cX6_digest 116 = .ok (.getfield 137, 3) := by decide +kernel
theorem dX6_digest_119 : decode cX6_digest 119 = .ok (.if_icmp .ge 26, 3) := by decide +kernel
theorem dX6_digest_122 : decode cX6_digest 122 = .ok (.ldc2_w 231, 3) := by decide +kernel
theorem dX6_digest_125 : decode cX6_digest 125 = .ok (.lload_n 1, 1) := by decide +kernel
theorem dX6_digest_126 : decode cX6_digest 126 = .ok (.lmul, 1) := by decide +kernel
theorem dX6_digest_127 : decode cX6_digest 127 = .ok (.aload_n 0, 1) := by decide +kernel
theorem dX6_digest_128 : decode cX6_digest 128 = .ok (.getfield 26, 3) := by decide +kernel
theorem dX6_digest_131 : decode cX6_digest 131 = .ok (.iload_n 3, 1) := by decide +kernel
theorem dX6_digest_132 : decode cX6_digest 132 = .ok (.iload 4, 2) := by decide +kernel
theorem dX6_digest_134 : decode cX6_digest 134 = .ok (.invokevirtual 239, 3) := by decide +kernel
theorem dX6_digest_137 : decode cX6_digest 137 = .ok (.ladd, 1) := by decide +kernel
theorem dX6_digest_138 : decode cX6_digest 138 = .ok (.lstore_n 1, 1) := by decide +kernel
theorem dX6_digest_139 : decode cX6_digest 139 = .ok (.iinc 4 1, 3) := by decide +kernel
theorem dX6_digest_142 : decode cX6_digest 142 = .ok (.goto (-32), 3) := by decide +kernel
theorem dX6_digest_145 : decode cX6_digest 145 = .ok (.iinc 3 1, 3) := by decide +kernel
theorem dX6_digest_148 : decode cX6_digest 148 = .ok (.goto (-68), 3) := by decide +kernel
theorem dX6_digest_151 : decode cX6_digest 151 = .ok (.aload_n 0, 1) := by decide +kernel
theorem dX6_digest_152 : decode cX6_digest 152 = .ok (.getfield 33, 3) := by decide +kernel
theorem dX6_digest_155 : decode cX6_digest 155 = .ok (.lload_n 1, 1) := by decide +kernel
theorem dX6_digest_156 : decode cX6_digest 156 = .ok (.invokevirtual 243, 3) := by decide +kernel
theorem dX6_digest_159 : decode cX6_digest 159 = .ok (.lreturn, 1) := by decide +kernel
theorem dX6_within_0 : decode cX6_within 0 = .ok (.iload_n 0, 1) := by decide +kernel
theorem dX6_within_1 : decode cX6_within 1 = .ok (.iload_n 1, 1) := by decide +kernel
theorem dX6_within_2 : decode cX6_within 2 = .ok (.if_icmp .lt 12, 3) := by decide +kernel
theorem dX6_within_5 : decode cX6_within 5 = .ok (.iload_n 0, 1) := by decide +kernel
theorem dX6_within_6 : decode cX6_within 6 = .ok (.iload_n 2, 1) := by decide +kernel
theorem dX6_within_7 : decode cX6_within 7 = .ok (.if_icmp .gt 7, 3) := by decide +kernel
theorem dX6_within_10 : decode cX6_within 10 = .ok (.iconst 1, 1) := by decide +kernel
theorem dX6_within_11 : decode cX6_within 11 = .ok (.goto 4, 3) := by decide +kernel
theorem dX6_within_14 : decode cX6_within 14 = .ok (.iconst 0, 1) := by decide +kernel
theorem dX6_within_15 : decode cX6_within 15 = .ok (.ireturn, 1) := by decide +kernel
set_option maxRecDepth 20000 in
theorem ggX6_isPlace_X6_within : GoodIn wsX6_isPlace wsX6_within := goodIn_r _ [4] (by decide +kernel) (by decide +kernel)
set_option maxRecDepth 20000 in
theorem gX6_isPlace_X6_within : GoodIn wsX6_isPlace (va_wsS RX6 51 yX6_within wsX6_within) := goodIn_app (goodIn_of _ (by decide +kernel)) ggX6_isPlace_X6_within
theorem dX6_isPlace_0 : decode cX6_isPlace 0 = .ok (.iload_n 0, 1) := by decide +kernel
theorem dX6_isPlace_1 : decode cX6_isPlace 1 = .ok (.sipush (-2000), 3) := by decide +kernel
theorem dX6_isPlace_4 : decode cX6_isPlace 4 = .ok (.sipush 2000, 3) := by decide +kernel
theorem dX6_isPlace_7 : decode cX6_isPlace 7 = .ok (.invokestatic 51, 3) := by decide +kernel
theorem dX6_isPlace_10 : decode cX6_isPlace 10 = .ok (.ifCond .eq 18, 3) := by decide +kernel
theorem dX6_isPlace_13 : decode cX6_isPlace 13 = .ok (.iload_n 1, 1) := by decide +kernel
theorem dX6_isPlace_14 : decode cX6_isPlace 14 = .ok (.iconst 0, 1) := by decide +kernel
theorem dX6_isPlace_15 : decode cX6_isPlace 15 = .ok (.sipush 4000, 3) := by decide +kernel
theorem dX6_isPlace_18 : decode cX6_isPlace 18 = .ok (.invokestatic 51, 3) := by decide +kernel
theorem dX6_isPlace_21 : decode cX6_isPlace 21 = .ok (.ifCond .eq 7, 3) := by decide +kernel
theorem dX6_isPlace_24 : decode cX6_isPlace 24 = .ok (.iconst 1, 1) := by decide +kernel
theorem dX6_isPlace_25 : decode cX6_isPlace 25 = .ok (.goto 4, 3) := by decide +kernel
theorem dX6_isPlace_28 : decode cX6_isPlace 28 = .ok (.iconst 0, 1) := by decide +kernel
theorem dX6_isPlace_29 : decode cX6_isPlace 29 = .ok (.ireturn, 1) := by decide +kernel
theorem dX6_areLooks_0 : decode cX6_areLooks 0 = .ok (.iload_n 1, 1) := by decide +kernel
theorem dX6_areLooks_1 : decode cX6_areLooks 1 = .ok (.ifCond .le 19, 3) := by decide +kernel
theorem dX6_areLooks_4 : decode cX6_areLooks 4 = .ok (.iload_n 1, 1) := by decide +kernel
theorem dX6_areLooks_5 : decode cX6_areLooks 5 = .ok (.aload_n 0, 1) := by decide +kernel
theorem dX6_areLooks_6 : decode cX6_areLooks 6 = .ok (.getfield 26, 3) := by decide +kernel
theorem dX6_areLooks_9 : decode cX6_areLooks 9 = .ok (.getfield 67, 3) := by decide +kernel
theorem dX6_areLooks_12 : decode cX6_areLooks 12 = .ok (.ishr, 1) := by decide +kernel
theorem dX6_areLooks_13 : decode cX6_areLooks 13 = .ok (.ifCond .ne 7, 3) := by decide +kernel
theorem dX6_areLooks_16 : decode cX6_areLooks 16 = .ok (.iconst 1, 1) := by decide +kernel
theorem dX6_areLooks_17 : decode cX6_areLooks 17 = .ok (.goto 4, 3) := by decide +kernel
theorem dX6_areLooks_20 : decode cX6_areLooks 20 = .ok (.iconst 0, 1) := by decide +kernel
theorem dX6_areLooks_21 : decode cX6_areLooks 21 = .ok (.ireturn, 1) := by decide +kernel
theorem dX6_root_0 : decode cX6_root 0 = .ok (.lload_n 2, 1) := by decide +kernel
theorem dX6_root_1 : decode cX6_root 1 = .ok (.lstore 4, 2) := by decide +kernel
theorem dX6_root_3 : decode cX6_root 3 = .ok (.iconst 0, 1) := by decide +kernel
theorem dX6_root_4 : decode cX6_root 4 = .ok (.istore 6, 2) := by decide +kernel
theorem dX6_root_6 : decode cX6_root 6 = .ok (.iload 6, 2) := by decide +kernel
theorem dX6_root_8 : decode cX6_root 8 = .ok (.bipush 100, 2) := by decide +kernel
theorem dX6_root_10 : decode cX6_root 10 = .ok (.if_icmp .ge 44, 3) := by decide +kernel
theorem dX6_root_13 : decode cX6_root 13 = .ok (.lload 4, 2) := by decide +kernel
theorem dX6_root_15 : decode cX6_root 15 = .ok (.lconst 0, 1) := by decide +kernel
theorem dX6_root_16 : decode cX6_root 16 = .ok (.lcmp, 1) := by decide +kernel
theorem dX6_root_17 : decode cX6_root 17 = .ok (.ifCond .le 37, 3) := by decide +kernel
theorem dX6_root_20 : decode cX6_root 20 = .ok (.lload 4, 2) := by decide +kernel
theorem dX6_root_22 : decode cX6_root 22 = .ok (.lload_n 0, 1) := by decide +kernel
theorem dX6_root_23 : decode cX6_root 23 = .ok (.lload 4, 2) := by decide +kernel
theorem dX6_root_25 : decode cX6_root 25 = .ok (.ldiv, 1) := by decide +kernel
theorem dX6_root_26 : decode cX6_root 26 = .ok (.ladd, 1) := by decide +kernel
theorem dX6_root_27 : decode cX6_root 27 = .ok (.ldc2_w 247, 3) := by decide +kernel
theorem dX6_root_30 : decode cX6_root 30 = .ok (.ldiv, 1) := by decide +kernel
theorem dX6_root_31 : decode cX6_root 31 = .ok (.lstore 7, 2) := by decide +kernel
theorem dX6_root_33 : decode cX6_root 33 = .ok (.lload 7, 2) := by decide +kernel
theorem dX6_root_35 : decode cX6_root 35 = .ok (.lload 4, 2) := by decide +kernel
theorem dX6_root_37 : decode cX6_root 37 = .ok (.lcmp, 1) := by decide +kernel
theorem dX6_root_38 : decode cX6_root 38 = .ok (.ifCond .lt 6, 3) := by decide +kernel
theorem dX6_root_41 : decode cX6_root 41 = .ok (.lload 4, 2) := by decide +kernel
theorem dX6_root_43 : decode cX6_root 43 = .ok (.lreturn, 1) := by decide +kernel
theorem dX6_root_44 : decode cX6_root 44 = .ok (.lload 7, 2) := by decide +kernel
theorem dX6_root_46 : decode cX6_root 46 = .ok (.lstore 4, 2) := by decide +kernel
theorem dX6_root_48 : decode cX6_root 48 = .ok (.iinc 6 1, 3) := by decide +kernel
theorem dX6_root_51 : decode cX6_root 51 = .ok (.goto (-45), 3) := by decide +kernel
theorem dX6_root_54 : decode cX6_root 54 = .ok (.lload 4, 2) := by decide +kernel
theorem dX6_root_56 : decode cX6_root 56 = .ok (.lreturn, 1) := by decide +kernel
theorem dX7_in_0 : decode cX7_in 0 = .ok (.lload_n 0, 1) := by decide +kernel
theorem dX7_in_1 : decode cX7_in 1 = .ok (.lload_n 2, 1) := by decide +kernel
theorem dX7_in_2 : decode cX7_in 2 = .ok (.lcmp, 1) := by decide +kernel
theorem dX7_in_3 : decode cX7_in 3 = .ok (.ifCond .lt 14, 3) := by decide +kernel
theorem dX7_in_6 : decode cX7_in 6 = .ok (.lload_n 0, 1) := by decide +kernel
theorem dX7_in_7 : decode cX7_in 7 = .ok (.lload 4, 2) := by decide +kernel
theorem dX7_in_9 : decode cX7_in 9 = .ok (.lcmp, 1) := by decide +kernel
theorem dX7_in_10 : decode cX7_in 10 = .ok (.ifCond .gt 7, 3) := by decide +kernel
theorem dX7_in_13 : decode cX7_in 13 = .ok (.iconst 1, 1) := by decide +kernel
theorem dX7_in_14 : decode cX7_in 14 = .ok (.goto 4, 3) := by decide +kernel
theorem dX7_in_17 : decode cX7_in 17 = .ok (.iconst 0, 1) := by decide +kernel
theorem dX7_in_18 : decode cX7_in 18 = .ok (.ireturn, 1) := by decide +kernel
set_option maxRecDepth 20000 in
theorem ggX7_isPlace_X7_in : GoodIn wsX7_isPlace wsX7_in := goodIn_r _ [7] (by decide +kernel) (by decide +kernel)
set_option maxRecDepth 20000 in
theorem gX7_isPlace_X7_in : GoodIn wsX7_isPlace (va_wsS RX7 7 yX7_in wsX7_in) := goodIn_app (goodIn_of _ (by decide +kernel)) ggX7_isPlace_X7_in
theorem dX7_isPlace_0 : decode cX7_isPlace 0 = .ok (.iload_n 0, 1) := by decide +kernel
theorem dX7_isPlace_1 : decode cX7_isPlace 1 = .ok (.i2l, 1) := by decide +kernel
theorem dX7_isPlace_2 : decode cX7_isPlace 2 = .ok (.ldc2_w 3, 3) := by decide +kernel
theorem dX7_isPlace_5 : decode cX7_isPlace 5 = .ok (.ldc2_w 5, 3) := by decide +kernel
theorem dX7_isPlace_8 : decode cX7_isPlace 8 = .ok (.invokestatic 7, 3) := by decide +kernel
theorem dX7_isPlace_11 : decode cX7_isPlace 11 = .ok (.ifCond .eq 19, 3) := by decide +kernel
theorem dX7_isPlace_14 : decode cX7_isPlace 14 = .ok (.iload_n 1, 1) := by decide +kernel
theorem dX7_isPlace_15 : decode cX7_isPlace 15 = .ok (.i2l, 1) := by decide +kernel
theorem dX7_isPlace_16 : decode cX7_isPlace 16 = .ok (.lconst 0, 1) := by decide +kernel
theorem dX7_isPlace_17 : decode cX7_isPlace 17 = .ok (.ldc2_w 11, 3) := by decide +kernel
theorem dX7_isPlace_20 : decode cX7_isPlace 20 = .ok (.invokestatic 7, 3) := by decide +kernel
theorem dX7_isPlace_23 : decode cX7_isPlace 23 = .ok (.ifCond .eq 7, 3) := by decide +kernel
theorem dX7_isPlace_26 : decode cX7_isPlace 26 = .ok (.iconst 1, 1) := by decide +kernel
theorem dX7_isPlace_27 : decode cX7_isPlace 27 = .ok (.goto 4, 3) := by decide +kernel
theorem dX7_isPlace_30 : decode cX7_isPlace 30 = .ok (.iconst 0, 1) := by decide +kernel
theorem dX7_isPlace_31 : decode cX7_isPlace 31 = .ok (.ireturn, 1) := by decide +kernel
