set_option maxRecDepth 20000 in
theorem ggX0_init_X0_makeNew : GoodIn wsX0_init wsX0_makeNew := goodIn_r _ [13, 5, 6, 7, 8, 14, 15, 16, 17, 18, 19, 20, 21, 22, 23, 24, 25, 26, 27, 28, 29, 30, 31, 32, 33, 34, 35] (by decide +kernel) (by decide +kernel)
set_option maxRecDepth 20000 in
theorem gX0_init_X0_makeNew : GoodIn wsX0_init (wsV RX0 24 RX0 yX0_makeNew wsX0_makeNew) := goodIn_app (goodIn_of _ (by decide +kernel)) ggX0_init_X0_makeNew
theorem dX0_init_0 : decode cX0_init 0 = .ok (.aload_n 0, 1) := by decide +kernel
theorem dX0_init_1 : decode cX0_init 1 = .ok (.invokespecial 3, 3) := by decide +kernel
theorem dX0_init_4 : decode cX0_init 4 = .ok (.aload_n 0, 1) := by decide +kernel
theorem dX0_init_5 : decode cX0_init 5 = .ok (.sipush 256, 3) := by decide +kernel
theorem dX0_init_8 : decode cX0_init 8 = .ok (.newarray .int, 2) := by decide +kernel
theorem dX0_init_10 : decode cX0_init 10 = .ok (.putfield 9, 3) := by decide +kernel
theorem dX0_init_13 : decode cX0_init 13 = .ok (.aload_n 0, 1) := by decide +kernel
theorem dX0_init_14 : decode cX0_init 14 = .ok (.iconst 3, 1) := by decide +kernel
theorem dX0_init_15 : decode cX0_init 15 = .ok (.newarray .int, 2) := by decide +kernel
theorem dX0_init_17 : decode cX0_init 17 = .ok (.putfield 15, 3) := by decide +kernel
theorem dX0_init_20 : decode cX0_init 20 = .ok (.aload_n 0, 1) := by decide +kernel
theorem dX0_init_21 : decode cX0_init 21 = .ok (.iconst 3, 1) := by decide +kernel
theorem dX0_init_22 : decode cX0_init 22 = .ok (.newarray .int, 2) := by decide +kernel
theorem dX0_init_24 : decode cX0_init 24 = .ok (.putfield 18, 3) := by decide +kernel
theorem dX0_init_27 : decode cX0_init 27 = .ok (.aload_n 0, 1) := by decide +kernel
theorem dX0_init_28 : decode cX0_init 28 = .ok (.bipush 6, 2) := by decide +kernel
theorem dX0_init_30 : decode cX0_init 30 = .ok (.newarray .int, 2) := by decide +kernel
theorem dX0_init_32 : decode cX0_init 32 = .ok (.putfield 21, 3) := by decide +kernel
theorem dX0_init_35 : decode cX0_init 35 = .ok (.aload_n 0, 1) := by decide +kernel
theorem dX0_init_36 : decode cX0_init 36 = .ok (.invokevirtual 24, 3) := by decide +kernel
theorem dX0_init_39 : decode cX0_init 39 = .ok (.return_, 1) := by decide +kernel
set_option maxRecDepth 20000 in
theorem ggX0_makeNew_J7_fill_53178 : GoodIn wsX0_makeNew wsJ7_fill_53178 := goodIn_r _ [17] (by decide +kernel) (by decide +kernel)
set_option maxRecDepth 20000 in
theorem gX0_makeNew_J7_fill_53178 : GoodIn wsX0_makeNew (va_wsS RX0 27 yJ7_fill_53178 wsJ7_fill_53178) := goodIn_app (goodIn_of _ (by decide +kernel)) ggX0_makeNew_J7_fill_53178
theorem dX0_makeNew_0 : decode cX0_makeNew 0 = .ok (.aload_n 0, 1) := by decide +kernel
theorem dX0_makeNew_1 : decode cX0_makeNew 1 = .ok (.getfield 9, 3) := by decide +kernel
theorem dX0_makeNew_4 : decode cX0_makeNew 4 = .ok (.iconst (-1), 1) := by decide +kernel
theorem dX0_makeNew_5 : decode cX0_makeNew 5 = .ok (.invokestatic 27, 3) := by decide +kernel
theorem dX0_makeNew_8 : decode cX0_makeNew 8 = .ok (.aload_n 0, 1) := by decide +kernel
theorem dX0_makeNew_9 : decode cX0_makeNew 9 = .ok (.getfield 15, 3) := by decide +kernel
theorem dX0_makeNew_12 : decode cX0_makeNew 12 = .ok (.iconst 0, 1) := by decide +kernel
theorem dX0_makeNew_13 : decode cX0_makeNew 13 = .ok (.invokestatic 27, 3) := by decide +kernel
theorem dX0_makeNew_16 : decode cX0_makeNew 16 = .ok (.aload_n 0, 1) := by decide +kernel
theorem dX0_makeNew_17 : decode cX0_makeNew 17 = .ok (.getfield 18, 3) := by decide +kernel
theorem dX0_makeNew_20 : decode cX0_makeNew 20 = .ok (.iconst 0, 1) := by decide +kernel
theorem dX0_makeNew_21 : decode cX0_makeNew 21 = .ok (.invokestatic 27, 3) := by decide +kernel
theorem dX0_makeNew_24 : decode cX0_makeNew 24 = .ok (.getstatic 33, 3) := by decide +kernel
theorem dX0_makeNew_27 : decode cX0_makeNew 27 = .ok (.iconst 0, 1) := by decide +kernel
theorem dX0_makeNew_28 : decode cX0_makeNew 28 = .ok (.aload_n 0, 1) := by decide +kernel
theorem dX0_makeNew_29 : decode cX0_makeNew 29 = .ok (.getfield 21, 3) := by decide +kernel
theorem dX0_makeNew_32 : decode cX0_makeNew 32 = .ok (.iconst 0, 1) := by decide +kernel
theorem dX0_makeNew_33 : decode cX0_makeNew 33 = .ok (.bipush 6, 2) := by decide +kernel
theorem dX0_makeNew_35 : decode cX0_makeNew 35 = .ok (.invokestatic 36, 3) := by decide +kernel
theorem dX0_makeNew_38 : decode cX0_makeNew 38 = .ok (.aload_n 0, 1) := by decide +kernel
theorem dX0_makeNew_39 : decode cX0_makeNew 39 = .ok (.iconst 0, 1) := by decide +kernel
theorem dX0_makeNew_40 : decode cX0_makeNew 40 = .ok (.putfield 42, 3) := by decide +kernel
theorem dX0_makeNew_43 : decode cX0_makeNew 43 = .ok (.aload_n 0, 1) := by decide +kernel
theorem dX0_makeNew_44 : decode cX0_makeNew 44 = .ok (.iconst 0, 1) := by decide +kernel
theorem dX0_makeNew_45 : decode cX0_makeNew 45 = .ok (.putfield 46, 3) := by decide +kernel
theorem dX0_makeNew_48 : decode cX0_makeNew 48 = .ok (.aload_n 0, 1) := by decide +kernel
theorem dX0_makeNew_49 : decode cX0_makeNew 49 = .ok (.iconst 0, 1) := by decide +kernel
theorem dX0_makeNew_50 : decode cX0_makeNew 50 = .ok (.putfield 49, 3) := by decide +kernel
theorem dX0_makeNew_53 : decode cX0_makeNew 53 = .ok (.aload_n 0, 1) := by decide +kernel
theorem dX0_makeNew_54 : decode cX0_makeNew 54 = .ok (.iconst 0, 1) := by decide +kernel
theorem dX0_makeNew_55 : decode cX0_makeNew 55 = .ok (.putfield 52, 3) := by decide +kernel
theorem dX0_makeNew_58 : decode cX0_makeNew 58 = .ok (.aload_n 0, 1) := by decide +kernel
theorem dX0_makeNew_59 : decode cX0_makeNew 59 = .ok (.iconst 0, 1) := by decide +kernel
theorem dX0_makeNew_60 : decode cX0_makeNew 60 = .ok (.putfield 55, 3) := by decide +kernel
theorem dX0_makeNew_63 : decode cX0_makeNew 63 = .ok (.return_, 1) := by decide +kernel
theorem dX0_copyFrom_0 : decode cX0_copyFrom 0 = .ok (.aload_n 1, 1) := by decide +kernel
theorem dX0_copyFrom_1 : decode cX0_copyFrom 1 = .ok (.getfield 9, 3) := by decide +kernel
theorem dX0_copyFrom_4 : decode cX0_copyFrom 4 = .ok (.iconst 0, 1) := by decide +kernel
theorem dX0_copyFrom_5 : decode cX0_copyFrom 5 = .ok (.aload_n 0, 1) := by decide +kernel
theorem dX0_copyFrom_6 : decode cX0_copyFrom 6 = .ok (.getfield 9, 3) := by decide +kernel
theorem dX0_copyFrom_9 : decode cX0_copyFrom 9 = .ok (.iconst 0, 1) := by decide +kernel
theorem dX0_copyFrom_10 : decode cX0_copyFrom 10 = .ok (.sipush 256, 3) := by decide +kernel
theorem dX0_copyFrom_13 : decode cX0_copyFrom 13 = .ok (.invokestatic 36, 3) := by decide +kernel
theorem dX0_copyFrom_16 : decode cX0_copyFrom 16 = .ok (.aload_n 1, 1) := by decide +kernel
theorem dX0_copyFrom_17 : decode cX0_copyFrom 17 = .ok (.getfield 15, 3) := by decide +kernel
theorem dX0_copyFrom_20 : decode cX0_copyFrom 20 = .ok (.iconst 0, 1) := by decide +kernel
theorem dX0_copyFrom_21 : decode cX0_copyFrom 21 = .ok (.aload_n 0, 1) := by decide +kernel
theorem dX0_copyFrom_22 : decode cX0_copyFrom 22 = .ok (.getfield 15, 3) := by decide +kernel
theorem dX0_copyFrom_25 : decode cX0_copyFrom 25 = .ok (.iconst 0, 1) := by decide +kernel
theorem dX0_copyFrom_26 : decode cX0_copyFrom 26 = .ok (.iconst 3, 1) := by decide +kernel
theorem dX0_copyFrom_27 : decode cX0_copyFrom 27 = .ok (.invokestatic 36, 3) := by decide +kernel
theorem dX0_copyFrom_30 : decode cX0_copyFrom 30 = .ok (.aload_n 1, 1) := by decide +kernel
theorem dX0_copyFrom_31 : decode cX0_copyFrom 31 = .ok (.getfield 18, 3) := by decide +kernel
theorem dX0_copyFrom_34 : decode cX0_copyFrom 34 = .ok (.iconst 0, 1) := by decide +kernel
theorem dX0_copyFrom_35 : decode cX0_copyFrom 35 = .ok (.aload_n 0, 1) := by decide +kernel
theorem dX0_copyFrom_36 : decode cX0_copyFrom 36 = .ok (.getfield 18, 3) := by decide +kernel
theorem dX0_copyFrom_39 : decode cX0_copyFrom 39 = .ok (.iconst 0, 1) := by decide +kernel
theorem dX0_copyFrom_40 : decode cX0_copyFrom 40 = .ok (.iconst 3, 1) := by decide +kernel
theorem dX0_copyFrom_41 : decode cX0_copyFrom 41 = .ok (.invokestatic 36, 3) := by decide +kernel
theorem dX0_copyFrom_44 : decode cX0_copyFrom 44 = .ok (.aload_n 1, 1) := by decide +kernel
theorem dX0_copyFrom_45 : decode cX0_copyFrom 45 = .ok (.getfield 21, 3) := by decide +kernel
theorem dX0_copyFrom_48 : decode cX0_copyFrom 48 = .ok (.iconst 0, 1) := by decide +kernel
theorem dX0_copyFrom_49 : decode cX0_copyFrom 49 = .ok (.aload_n 0, 1) := by decide +kernel
theorem dX0_copyFrom_50 : decode cX0_copyFrom 50 = .ok (.getfield 21, 3) := by decide +kernel
theorem dX0_copyFrom_53 : decode cX0_copyFrom 53 = .ok (.iconst 0, 1) := by decide +kernel
theorem dX0_copyFrom_54 : decode cX0_copyFrom 54 = .ok (.bipush 6, 2) := by decide +kernel
theorem dX0_copyFrom_56 : decode cX0_copyFrom 56 = .ok (.invokestatic 36, 3) := by decide +kernel
theorem dX0_copyFrom_59 : decode cX0_copyFrom 59 = .ok (.aload_n 0, 1) := by decide +kernel
theorem dX0_copyFrom_60 : decode cX0_copyFrom 60 = .ok (.aload_n 1, 1) := by decide +kernel
theorem dX0_copyFrom_61 : decode cX0_copyFrom 61 = .ok (.getfield 42, 3) := by decide +kernel
theorem dX0_copyFrom_64 : decode cX0_copyFrom 64 = .ok (.putfield 42, 3) := by decide +kernel
theorem dX0_copyFrom_67 : decode cX0_copyFrom 67 = .ok (.aload_n 0, 1) := by decide +kernel
theorem dX0_copyFrom_68 : decode cX0_copyFrom 68 = .ok (.aload_n 1, 1) := by decide +kernel
theorem dX0_copyFrom_69 : decode cX0_copyFrom 69 = .ok (.getfield 46, 3) := by decide +kernel
theorem dX0_copyFrom_72 : decode cX0_copyFrom 72 = .ok (.putfield 46, 3) := by decide +kernel
theorem dX0_copyFrom_75 : decode cX0_copyFrom 75 = .ok (.aload_n 0, 1) := by decide +kernel
theorem dX0_copyFrom_76 : decode cX0_copyFrom 76 = .ok (.aload_n 1, 1) := by decide +kernel
theorem dX0_copyFrom_77 : decode cX0_copyFrom 77 = .ok (.getfield 49, 3) := by decide +kernel
theorem dX0_copyFrom_80 : decode cX0_copyFrom 80 = .ok (.putfield 49, 3) := by decide +kernel
theorem dX0_copyFrom_83 : decode cX0_copyFrom 83 = .ok (.aload_n 0, 1) := by decide +kernel
theorem dX0_copyFrom_84 : decode cX0_copyFrom 84 = .ok (.aload_n 1, 1) := by decide +kernel
theorem dX0_copyFrom_85 : decode cX0_copyFrom 85 = .ok (.getfield 52, 3) := by decide +kernel
theorem dX0_copyFrom_88 : decode cX0_copyFrom 88 = .ok (.putfield 52, 3) := by decide +kernel
theorem dX0_copyFrom_91 : decode cX0_copyFrom 91 = .ok (.aload_n 0, 1) := by decide +kernel
theorem dX0_copyFrom_92 : decode cX0_copyFrom 92 = .ok (.aload_n 1, 1) := by decide +kernel
theorem dX0_copyFrom_93 : decode cX0_copyFrom 93 = .ok (.getfield 55, 3) := by decide +kernel
theorem dX0_copyFrom_96 : decode cX0_copyFrom 96 = .ok (.putfield 55, 3) := by decide +kernel
theorem dX0_copyFrom_99 : decode cX0_copyFrom 99 = .ok (.return_, 1) := by decide +kernel
theorem dX0_time_0 : decode cX0_time 0 = .ok (.aload_n 0, 1) := by decide +kernel
theorem dX0_time_1 : decode cX0_time 1 = .ok (.getfield 42, 3) := by decide +kernel
theorem dX0_time_4 : decode cX0_time 4 = .ok (.ireturn, 1) := by decide +kernel
theorem dX0_quietTicks_0 : decode cX0_quietTicks 0 = .ok (.aload_n 0, 1) := by decide +kernel
theorem dX0_quietTicks_1 : decode cX0_quietTicks 1 = .ok (.getfield 46, 3) := by decide +kernel
theorem dX0_quietTicks_4 : decode cX0_quietTicks 4 = .ok (.ireturn, 1) := by decide +kernel
theorem dX0_commands_0 : decode cX0_commands 0 = .ok (.aload_n 0, 1) := by decide +kernel
theorem dX0_commands_1 : decode cX0_commands 1 = .ok (.getfield 49, 3) := by decide +kernel
theorem dX0_commands_4 : decode cX0_commands 4 = .ok (.ireturn, 1) := by decide +kernel
theorem dX0_discarded_0 : decode cX0_discarded 0 = .ok (.aload_n 0, 1) := by decide +kernel
theorem dX0_discarded_1 : decode cX0_discarded 1 = .ok (.getfield 52, 3) := by decide +kernel
theorem dX0_discarded_4 : decode cX0_discarded 4 = .ok (.ireturn, 1) := by decide +kernel
theorem dX0_dropped_0 : decode cX0_dropped 0 = .ok (.aload_n 0, 1) := by decide +kernel
theorem dX0_dropped_1 : decode cX0_dropped 1 = .ok (.getfield 55, 3) := by decide +kernel
theorem dX0_dropped_4 : decode cX0_dropped 4 = .ok (.ireturn, 1) := by decide +kernel
theorem dX0_settingAt_0 : decode cX0_settingAt 0 = .ok (.aload_n 0, 1) := by decide +kernel
theorem dX0_settingAt_1 : decode cX0_settingAt 1 = .ok (.getfield 21, 3) := by decide +kernel
theorem dX0_settingAt_4 : decode cX0_settingAt 4 = .ok (.iload_n 1, 1) := by decide +kernel
theorem dX0_settingAt_5 : decode cX0_settingAt 5 = .ok (.iaload, 1) := by decide +kernel
theorem dX0_settingAt_6 : decode cX0_settingAt 6 = .ok (.ireturn, 1) := by decide +kernel
theorem dX0_changeSetting_0 : decode cX0_changeSetting 0 = .ok (.aload_n 0, 1) := by decide +kernel
theorem dX0_changeSetting_1 : decode cX0_changeSetting 1 = .ok (.getfield 21, 3) := by decide +kernel
theorem dX0_changeSetting_4 : decode cX0_changeSetting 4 = .ok (.iload_n 1, 1) := by decide +kernel
theorem dX0_changeSetting_5 : decode cX0_changeSetting 5 = .ok (.iload_n 2, 1) := by decide +kernel
theorem dX0_changeSetting_6 : decode cX0_changeSetting 6 = .ok (.iastore, 1) := by decide +kernel
theorem dX0_changeSetting_7 : decode cX0_changeSetting 7 = .ok (.return_, 1) := by decide +kernel
theorem dX0_isAlive_0 : decode cX0_isAlive 0 = .ok (.aload_n 0, 1) := by decide +kernel
theorem dX0_isAlive_1 : decode cX0_isAlive 1 = .ok (.getfield 9, 3) := by decide +kernel
theorem dX0_isAlive_4 : decode cX0_isAlive 4 = .ok (.iload_n 1, 1) := by decide +kernel
theorem dX0_isAlive_5 : decode cX0_isAlive 5 = .ok (.iaload, 1) := by decide +kernel
theorem dX0_isAlive_6 : decode cX0_isAlive 6 = .ok (.bipush (-2), 2) := by decide +kernel
theorem dX0_isAlive_8 : decode cX0_isAlive 8 = .ok (.if_icmp .ne 7, 3) := by decide +kernel
theorem dX0_isAlive_11 : decode cX0_isAlive 11 = .ok (.iconst 1, 1) := by decide +kernel
theorem dX0_isAlive_12 : decode cX0_isAlive 12 = .ok (.goto 4, 3) := by decide +kernel
theorem dX0_isAlive_15 : decode cX0_isAlive 15 = .ok (.iconst 0, 1) := by decide +kernel
theorem dX0_isAlive_16 : decode cX0_isAlive 16 = .ok (.ireturn, 1) := by decide +kernel
theorem dX0_isHeld_0 : decode cX0_isHeld 0 = .ok (.aload_n 0, 1) := by decide +kernel
theorem dX0_isHeld_1 : decode cX0_isHeld 1 = .ok (.getfield 9, 3) := by decide +kernel
theorem dX0_isHeld_4 : decode cX0_isHeld 4 = .ok (.iload_n 1, 1) := by decide +kernel
theorem dX0_isHeld_5 : decode cX0_isHeld 5 = .ok (.iaload, 1) := by decide +kernel
theorem dX0_isHeld_6 : decode cX0_isHeld 6 = .ok (.iconst (-1), 1) := by decide +kernel
theorem dX0_isHeld_7 : decode cX0_isHeld 7 = .ok (.if_icmp .eq 7, 3) := by decide +kernel
theorem dX0_isHeld_10 : decode cX0_isHeld 10 = .ok (.iconst 1, 1) := by decide +kernel
theorem dX0_isHeld_11 : decode cX0_isHeld 11 = .ok (.goto 4, 3) := by decide +kernel
theorem dX0_isHeld_14 : decode cX0_isHeld 14 = .ok (.iconst 0, 1) := by decide +kernel
theorem dX0_isHeld_15 : decode cX0_isHeld 15 = .ok (.ireturn, 1) := by decide +kernel
theorem dX0_isQueued_0 : decode cX0_isQueued 0 = .ok (.aload_n 0, 1) := by decide +kernel
theorem dX0_isQueued_1 : decode cX0_isQueued 1 = .ok (.getfield 9, 3) := by decide +kernel
theorem dX0_isQueued_4 : decode cX0_isQueued 4 = .ok (.iload_n 1, 1) := by decide +kernel
theorem dX0_isQueued_5 : decode cX0_isQueued 5 = .ok (.iaload, 1) := by decide +kernel
theorem dX0_isQueued_6 : decode cX0_isQueued 6 = .ok (.ifCond .lt 7, 3) := by decide +kernel
theorem dX0_isQueued_9 : decode cX0_isQueued 9 = .ok (.iconst 1, 1) := by decide +kernel
theorem dX0_isQueued_10 : decode cX0_isQueued 10 = .ok (.goto 4, 3) := by decide +kernel
theorem dX0_isQueued_13 : decode cX0_isQueued 13 = .ok (.iconst 0, 1) := by decide +kernel
theorem dX0_isQueued_14 : decode cX0_isQueued 14 = .ok (.ireturn, 1) := by decide +kernel
theorem dX0_count_0 : decode cX0_count 0 = .ok (.iconst 0, 1) := by decide +kernel
theorem dX0_count_1 : decode cX0_count 1 = .ok (.istore_n 2, 1) := by decide +kernel
theorem dX0_count_2 : decode cX0_count 2 = .ok (.iconst 0, 1) := by decide +kernel
theorem dX0_count_3 : decode cX0_count 3 = .ok (.istore_n 3, 1) := by decide +kernel
theorem dX0_count_4 : decode cX0_count 4 = .ok (.iload_n 3, 1) := by decide +kernel
theorem dX0_count_5 : decode cX0_count 5 = .ok (.sipush 256, 3) := by decide +kernel
theorem dX0_count_8 : decode cX0_count 8 = .ok (.if_icmp .ge 22, 3) := by decide +kernel
theorem dX0_count_11 : decode cX0_count 11 = .ok (.aload_n 0, 1) := by decide +kernel
theorem dX0_count_12 : decode cX0_count 12 = .ok (.getfield 9, 3) := by decide +kernel
theorem dX0_count_15 : decode cX0_count 15 = .ok (.iload_n 3, 1) := by decide +kernel
theorem dX0_count_16 : decode cX0_count 16 = .ok (.iaload, 1) := by decide +kernel
theorem dX0_count_17 : decode cX0_count 17 = .ok (.iload_n 1, 1) := by decide +kernel
theorem dX0_count_18 : decode cX0_count 18 = .ok (.if_icmp .ne 6, 3) := by decide +kernel
theorem dX0_count_21 : decode cX0_count 21 = .ok (.iinc 2 1, 3) := by decide +kernel
theorem dX0_count_24 : decode cX0_count 24 = .ok (.iinc 3 1, 3) := by decide +kernel
theorem dX0_count_27 : decode cX0_count 27 = .ok (.goto (-23), 3) := by decide +kernel
theorem dX0_count_30 : decode cX0_count 30 = .ok (.iload_n 2, 1) := by decide +kernel
theorem dX0_count_31 : decode cX0_count 31 = .ok (.ireturn, 1) := by decide +kernel
theorem dX0_countQueued_0 : decode cX0_countQueued 0 = .ok (.iconst 0, 1) := by decide +kernel
theorem dX0_countQueued_1 : decode cX0_countQueued 1 = .ok (.istore_n 1, 1) := by decide +kernel
theorem dX0_countQueued_2 : decode cX0_countQueued 2 = .ok (.iconst 0, 1) := by decide +kernel
theorem dX0_countQueued_3 : decode cX0_countQueued 3 = .ok (.istore_n 2, 1) := by decide +kernel
theorem dX0_countQueued_4 : decode cX0_countQueued 4 = .ok (.iload_n 2, 1) := by decide +kernel
theorem dX0_countQueued_5 : decode cX0_countQueued 5 = .ok (.sipush 256, 3) := by decide +kernel
theorem dX0_countQueued_8 : decode cX0_countQueued 8 = .ok (.if_icmp .ge 21, 3) := by decide +kernel
theorem dX0_countQueued_11 : decode cX0_countQueued 11 = .ok (.aload_n 0, 1) := by decide +kernel
theorem dX0_countQueued_12 : decode cX0_countQueued 12 = .ok (.getfield 9, 3) := by decide +kernel
theorem dX0_countQueued_15 : decode cX0_countQueued 15 = .ok (.iload_n 2, 1) := by decide +kernel
theorem dX0_countQueued_16 : decode cX0_countQueued 16 = .ok (.iaload, 1) := by decide +kernel
theorem dX0_countQueued_17 : decode cX0_countQueued 17 = .ok (.ifCond .lt 6, 3) := by decide +kernel
theorem dX0_countQueued_20 : decode cX0_countQueued 20 = .ok (.iinc 1 1, 3) := by decide +kernel
theorem dX0_countQueued_23 : decode cX0_countQueued 23 = .ok (.iinc 2 1, 3) := by decide +kernel
theorem dX0_countQueued_26 : decode cX0_countQueued 26 = .ok (.goto (-22), 3) := by decide +kernel
theorem dX0_countQueued_29 : decode cX0_countQueued 29 = .ok (.iload_n 1, 1) := by decide +kernel
theorem dX0_countQueued_30 : decode cX0_countQueued 30 = .ok (.ireturn, 1) := by decide +kernel
set_option maxRecDepth 20000 in
theorem ggX0_writeSpan_X0_dropSurplus : GoodIn wsX0_writeSpan wsX0_dropSurplus := goodIn_r _ [7, 1, 8, 9, 10, 11, 6, 12, 13, 14, 15, 16, 17, 18, 19, 20, 21, 22, 23, 24, 25] (by decide +kernel) (by decide +kernel)
set_option maxRecDepth 20000 in
theorem gX0_writeSpan_X0_dropSurplus : GoodIn wsX0_writeSpan (wsV RX0 58 RX0 yX0_dropSurplus wsX0_dropSurplus) := goodIn_app (goodIn_of _ (by decide +kernel)) ggX0_writeSpan_X0_dropSurplus
theorem dX0_writeSpan_0 : decode cX0_writeSpan 0 = .ok (.iconst 0, 1) := by decide +kernel
theorem dX0_writeSpan_1 : decode cX0_writeSpan 1 = .ok (.istore_n 3, 1) := by decide +kernel
theorem dX0_writeSpan_2 : decode cX0_writeSpan 2 = .ok (.iload_n 1, 1) := by decide +kernel
theorem dX0_writeSpan_3 : decode cX0_writeSpan 3 = .ok (.istore 4, 2) := by decide +kernel
theorem dX0_writeSpan_5 : decode cX0_writeSpan 5 = .ok (.iload 4, 2) := by decide +kernel
theorem dX0_writeSpan_7 : decode cX0_writeSpan 7 = .ok (.iload_n 1, 1) := by decide +kernel
theorem dX0_writeSpan_8 : decode cX0_writeSpan 8 = .ok (.iload_n 2, 1) := by decide +kernel
theorem dX0_writeSpan_9 : decode cX0_writeSpan 9 = .ok (.iadd, 1) := by decide +kernel
theorem dX0_writeSpan_10 : decode cX0_writeSpan 10 = .ok (.if_icmp .ge 31, 3) := by decide +kernel
theorem dX0_writeSpan_13 : decode cX0_writeSpan 13 = .ok (.aload_n 0, 1) := by decide +kernel
theorem dX0_writeSpan_14 : decode cX0_writeSpan 14 = .ok (.getfield 9, 3) := by decide +kernel
theorem dX0_writeSpan_17 : decode cX0_writeSpan 17 = .ok (.iload 4, 2) := by decide +kernel
theorem dX0_writeSpan_19 : decode cX0_writeSpan 19 = .ok (.iaload, 1) := by decide +kernel
theorem dX0_writeSpan_20 : decode cX0_writeSpan 20 = .ok (.ifCond .lt 6, 3) := by decide +kernel
theorem dX0_writeSpan_23 : decode cX0_writeSpan 23 = .ok (.iinc 3 1, 3) := by decide +kernel
theorem dX0_writeSpan_26 : decode cX0_writeSpan 26 = .ok (.aload_n 0, 1) := by decide +kernel
theorem dX0_writeSpan_27 : decode cX0_writeSpan 27 = .ok (.getfield 9, 3) := by decide +kernel
theorem dX0_writeSpan_30 : decode cX0_writeSpan 30 = .ok (.iload 4, 2) := by decide +kernel
theorem dX0_writeSpan_32 : decode cX0_writeSpan 32 = .ok (.bipush (-2), 2) := by decide +kernel
theorem dX0_writeSpan_34 : decode cX0_writeSpan 34 = .ok (.iastore, 1) := by decide +kernel
theorem dX0_writeSpan_35 : decode cX0_writeSpan 35 = .ok (.iinc 4 1, 3) := by decide +kernel
theorem dX0_writeSpan_38 : decode cX0_writeSpan 38 = .ok (.goto (-33), 3) := by decide +kernel
theorem dX0_writeSpan_41 : decode cX0_writeSpan 41 = .ok (.aload_n 0, 1) := by decide +kernel
theorem dX0_writeSpan_42 : decode cX0_writeSpan 42 = .ok (.iconst 0, 1) := by decide +kernel
theorem dX0_writeSpan_43 : decode cX0_writeSpan 43 = .ok (.putfield 46, 3) := by decide +kernel
theorem dX0_writeSpan_46 : decode cX0_writeSpan 46 = .ok (.aload_n 0, 1) := by decide +kernel
theorem dX0_writeSpan_47 : decode cX0_writeSpan 47 = .ok (.invokevirtual 58, 3) := by decide +kernel
theorem dX0_writeSpan_50 : decode cX0_writeSpan 50 = .ok (.iload_n 3, 1) := by decide +kernel
theorem dX0_writeSpan_51 : decode cX0_writeSpan 51 = .ok (.ireturn, 1) := by decide +kernel
set_option maxRecDepth 20000 in
theorem ggX0_freeSpan_X0_queueNow : GoodIn wsX0_freeSpan wsX0_queueNow := goodIn_r _ [7, 1, 8, 22, 23, 24, 25, 26, 27, 28, 29, 30] (by decide +kernel) (by decide +kernel)
set_option maxRecDepth 20000 in
theorem gX0_freeSpan_X0_queueNow : GoodIn wsX0_freeSpan (wsV RX0 61 RX0 yX0_queueNow wsX0_queueNow) := goodIn_app (goodIn_of _ (by decide +kernel)) ggX0_freeSpan_X0_queueNow
set_option maxRecDepth 20000 in
theorem ggX0_freeSpan_X0_dropSurplus : GoodIn wsX0_freeSpan wsX0_dropSurplus := goodIn_r _ [12, 1, 13, 14, 15, 16, 6, 17, 18, 19, 20, 21, 22, 23, 24, 25, 26, 27, 28, 29, 30] (by decide +kernel) (by decide +kernel)
set_option maxRecDepth 20000 in
theorem gX0_freeSpan_X0_dropSurplus : GoodIn wsX0_freeSpan (wsV RX0 58 RX0 yX0_dropSurplus wsX0_dropSurplus) := goodIn_app (goodIn_of _ (by decide +kernel)) ggX0_freeSpan_X0_dropSurplus
theorem dX0_freeSpan_0 : decode cX0_freeSpan 0 = .ok (.iconst 0, 1) := by decide +kernel
theorem dX0_freeSpan_1 : decode cX0_freeSpan 1 = .ok (.istore_n 3, 1) := by decide +kernel
theorem dX0_freeSpan_2 : decode cX0_freeSpan 2 = .ok (.iload_n 1, 1) := by decide +kernel
theorem dX0_freeSpan_3 : decode cX0_freeSpan 3 = .ok (.istore 4, 2) := by decide +kernel
theorem dX0_freeSpan_5 : decode cX0_freeSpan 5 = .ok (.iload 4, 2) := by decide +kernel
theorem dX0_freeSpan_7 : decode cX0_freeSpan 7 = .ok (.iload_n 1, 1) := by decide +kernel
theorem dX0_freeSpan_8 : decode cX0_freeSpan 8 = .ok (.iload_n 2, 1) := by decide +kernel
theorem dX0_freeSpan_9 : decode cX0_freeSpan 9 = .ok (.iadd, 1) := by decide +kernel
theorem dX0_freeSpan_10 : decode cX0_freeSpan 10 = .ok (.if_icmp .ge 30, 3) := by decide +kernel
theorem dX0_freeSpan_13 : decode cX0_freeSpan 13 = .ok (.aload_n 0, 1) := by decide +kernel
theorem dX0_freeSpan_14 : decode cX0_freeSpan 14 = .ok (.getfield 9, 3) := by decide +kernel
theorem dX0_freeSpan_17 : decode cX0_freeSpan 17 = .ok (.iload 4, 2) := by decide +kernel
theorem dX0_freeSpan_19 : decode cX0_freeSpan 19 = .ok (.iaload, 1) := by decide +kernel
theorem dX0_freeSpan_20 : decode cX0_freeSpan 20 = .ok (.bipush (-2), 2) := by decide +kernel
theorem dX0_freeSpan_22 : decode cX0_freeSpan 22 = .ok (.if_icmp .ne 12, 3) := by decide +kernel
theorem dX0_freeSpan_25 : decode cX0_freeSpan 25 = .ok (.aload_n 0, 1) := by decide +kernel
theorem dX0_freeSpan_26 : decode cX0_freeSpan 26 = .ok (.iload 4, 2) := by decide +kernel
theorem dX0_freeSpan_28 : decode cX0_freeSpan 28 = .ok (.invokevirtual 61, 3) := by decide +kernel
theorem dX0_freeSpan_31 : decode cX0_freeSpan 31 = .ok (.iinc 3 1, 3) := by decide +kernel
theorem dX0_freeSpan_34 : decode cX0_freeSpan 34 = .ok (.iinc 4 1, 3) := by decide +kernel
theorem dX0_freeSpan_37 : decode cX0_freeSpan 37 = .ok (.goto (-32), 3) := by decide +kernel
theorem dX0_freeSpan_40 : decode cX0_freeSpan 40 = .ok (.aload_n 0, 1) := by decide +kernel
theorem dX0_freeSpan_41 : decode cX0_freeSpan 41 = .ok (.iconst 0, 1) := by decide +kernel
theorem dX0_freeSpan_42 : decode cX0_freeSpan 42 = .ok (.putfield 46, 3) := by decide +kernel
theorem dX0_freeSpan_45 : decode cX0_freeSpan 45 = .ok (.aload_n 0, 1) := by decide +kernel
theorem dX0_freeSpan_46 : decode cX0_freeSpan 46 = .ok (.invokevirtual 58, 3) := by decide +kernel
theorem dX0_freeSpan_49 : decode cX0_freeSpan 49 = .ok (.iload_n 3, 1) := by decide +kernel
theorem dX0_freeSpan_50 : decode cX0_freeSpan 50 = .ok (.ireturn, 1) := by decide +kernel
theorem dX0_queueNow_0 : decode cX0_queueNow 0 = .ok (.aload_n 0, 1) := by decide +kernel
theorem dX0_queueNow_1 : decode cX0_queueNow 1 = .ok (.getfield 9, 3) := by decide +kernel
theorem dX0_queueNow_4 : decode cX0_queueNow 4 = .ok (.iload_n 1, 1) := by decide +kernel
theorem dX0_queueNow_5 : decode cX0_queueNow 5 = .ok (.aload_n 0, 1) := by decide +kernel
theorem dX0_queueNow_6 : decode cX0_queueNow 6 = .ok (.getfield 42, 3) := by decide +kernel
theorem dX0_queueNow_9 : decode cX0_queueNow 9 = .ok (.iastore, 1) := by decide +kernel
theorem dX0_queueNow_10 : decode cX0_queueNow 10 = .ok (.iload_n 1, 1) := by decide +kernel
theorem dX0_queueNow_11 : decode cX0_queueNow 11 = .ok (.iconst 1, 1) := by decide +kernel
theorem dX0_queueNow_12 : decode cX0_queueNow 12 = .ok (.isub, 1) := by decide +kernel
theorem dX0_queueNow_13 : decode cX0_queueNow 13 = .ok (.istore_n 2, 1) := by decide +kernel
theorem dX0_queueNow_14 : decode cX0_queueNow 14 = .ok (.iload_n 2, 1) := by decide +kernel
theorem dX0_queueNow_15 : decode cX0_queueNow 15 = .ok (.ifCond .lt 41, 3) := by decide +kernel
theorem dX0_queueNow_18 : decode cX0_queueNow 18 = .ok (.aload_n 0, 1) := by decide +kernel
theorem dX0_queueNow_19 : decode cX0_queueNow 19 = .ok (.getfield 9, 3) := by decide +kernel
theorem dX0_queueNow_22 : decode cX0_queueNow 22 = .ok (.iload_n 2, 1) := by decide +kernel
theorem dX0_queueNow_23 : decode cX0_queueNow 23 = .ok (.iaload, 1) := by decide +kernel
theorem dX0_queueNow_24 : decode cX0_queueNow 24 = .ok (.ifCond .lt 32, 3) := by decide +kernel
theorem dX0_queueNow_27 : decode cX0_queueNow 27 = .ok (.aload_n 0, 1) := by decide +kernel
theorem dX0_queueNow_28 : decode cX0_queueNow 28 = .ok (.getfield 9, 3) := by decide +kernel
theorem dX0_queueNow_31 : decode cX0_queueNow 31 = .ok (.iload_n 2, 1) := by decide +kernel
theorem dX0_queueNow_32 : decode cX0_queueNow 32 = .ok (.iaload, 1) := by decide +kernel
theorem dX0_queueNow_33 : decode cX0_queueNow 33 = .ok (.aload_n 0, 1) := by decide +kernel
theorem dX0_queueNow_34 : decode cX0_queueNow 34 = .ok (.getfield 42, 3) := by decide +kernel
theorem dX0_queueNow_37 : decode cX0_queueNow 37 = .ok (.if_icmp .eq 19, 3) := by decide +kernel
theorem dX0_queueNow_40 : decode cX0_queueNow 40 = .ok (.aload_n 0, 1) := by decide +kernel
theorem dX0_queueNow_41 : decode cX0_queueNow 41 = .ok (.getfield 9, 3) := by decide +kernel
theorem dX0_queueNow_44 : decode cX0_queueNow 44 = .ok (.iload_n 2, 1) := by decide +kernel
theorem dX0_queueNow_45 : decode cX0_queueNow 45 = .ok (.aload_n 0, 1) := by decide +kernel
theorem dX0_queueNow_46 : decode cX0_queueNow 46 = .ok (.getfield 42, 3) := by decide +kernel
theorem dX0_queueNow_49 : decode cX0_queueNow 49 = .ok (.iastore, 1) := by decide +kernel
theorem dX0_queueNow_50 : decode cX0_queueNow 50 = .ok (.iinc 2 (-1), 3) := by decide +kernel
theorem dX0_queueNow_53 : decode cX0_queueNow 53 = .ok (.goto (-39), 3) := by decide +kernel
theorem dX0_queueNow_56 : decode cX0_queueNow 56 = .ok (.iload_n 1, 1) := by decide +kernel
theorem dX0_queueNow_57 : decode cX0_queueNow 57 = .ok (.iconst 1, 1) := by decide +kernel
theorem dX0_queueNow_58 : decode cX0_queueNow 58 = .ok (.iadd, 1) := by decide +kernel
theorem dX0_queueNow_59 : decode cX0_queueNow 59 = .ok (.istore_n 2, 1) := by decide +kernel
theorem dX0_queueNow_60 : decode cX0_queueNow 60 = .ok (.iload_n 2, 1) := by decide +kernel
theorem dX0_queueNow_61 : decode cX0_queueNow 61 = .ok (.sipush 256, 3) := by decide +kernel
theorem dX0_queueNow_64 : decode cX0_queueNow 64 = .ok (.if_icmp .ge 41, 3) := by decide +kernel
theorem dX0_queueNow_67 : decode cX0_queueNow 67 = .ok (.aload_n 0, 1) := by decide +kernel
theorem dX0_queueNow_68 : decode cX0_queueNow 68 = .ok (.getfield 9, 3) := by decide +kernel
theorem dX0_queueNow_71 : decode cX0_queueNow 71 = .ok (.iload_n 2, 1) := by decide +kernel
theorem dX0_queueNow_72 : decode cX0_queueNow 72 = .ok (.iaload, 1) := by decide +kernel
theorem dX0_queueNow_73 : decode cX0_queueNow 73 = .ok (.ifCond .lt 32, 3) := by decide +kernel
theorem dX0_queueNow_76 : decode cX0_queueNow 76 = .ok (.aload_n 0, 1) := by decide +kernel
theorem dX0_queueNow_77 : decode cX0_queueNow 77 = .ok (.getfield 9, 3) := by decide +kernel
theorem dX0_queueNow_80 : decode cX0_queueNow 80 = .ok (.iload_n 2, 1) := by decide +kernel
theorem dX0_queueNow_81 : decode cX0_queueNow 81 = .ok (.iaload, 1) := by decide +kernel
theorem dX0_queueNow_82 : decode cX0_queueNow 82 = .ok (.aload_n 0, 1) := by decide +kernel
theorem dX0_queueNow_83 : decode cX0_queueNow 83 = .ok (.getfield 42, 3) := by decide +kernel
theorem dX0_queueNow_86 : decode cX0_queueNow 86 = .ok (.if_icmp .eq 19, 3) := by decide +kernel
theorem dX0_queueNow_89 : decode cX0_queueNow 89 = .ok (.aload_n 0, 1) := by decide +kernel
theorem dX0_queueNow_90 : decode cX0_queueNow 90 = .ok (.getfield 9, 3) := by decide +kernel
theorem dX0_queueNow_93 : decode cX0_queueNow 93 = .ok (.iload_n 2, 1) := by decide +kernel
theorem dX0_queueNow_94 : decode cX0_queueNow 94 = .ok (.aload_n 0, 1) := by decide +kernel
theorem dX0_queueNow_95 : decode cX0_queueNow 95 = .ok (.getfield 42, 3) := by decide +kernel
theorem dX0_queueNow_98 : decode cX0_queueNow 98 = .ok (.iastore, 1) := by decide +kernel
theorem dX0_queueNow_99 : decode cX0_queueNow 99 = .ok (.iinc 2 1, 3) := by decide +kernel
theorem dX0_queueNow_102 : decode cX0_queueNow 102 = .ok (.goto (-42), 3) := by decide +kernel
theorem dX0_queueNow_105 : decode cX0_queueNow 105 = .ok (.return_, 1) := by decide +kernel
theorem dX0_pinSpan_0 : decode cX0_pinSpan 0 = .ok (.aload_n 0, 1) := by decide +kernel
theorem dX0_pinSpan_1 : decode cX0_pinSpan 1 = .ok (.getfield 15, 3) := by decide +kernel
theorem dX0_pinSpan_4 : decode cX0_pinSpan 4 = .ok (.iload_n 1, 1) := by decide +kernel
theorem dX0_pinSpan_5 : decode cX0_pinSpan 5 = .ok (.iload_n 2, 1) := by decide +kernel
theorem dX0_pinSpan_6 : decode cX0_pinSpan 6 = .ok (.iastore, 1) := by decide +kernel
theorem dX0_pinSpan_7 : decode cX0_pinSpan 7 = .ok (.aload_n 0, 1) := by decide +kernel
theorem dX0_pinSpan_8 : decode cX0_pinSpan 8 = .ok (.getfield 18, 3) := by decide +kernel
theorem dX0_pinSpan_11 : decode cX0_pinSpan 11 = .ok (.iload_n 1, 1) := by decide +kernel
theorem dX0_pinSpan_12 : decode cX0_pinSpan 12 = .ok (.iload_n 3, 1) := by decide +kernel
theorem dX0_pinSpan_13 : decode cX0_pinSpan 13 = .ok (.iastore, 1) := by decide +kernel
theorem dX0_pinSpan_14 : decode cX0_pinSpan 14 = .ok (.return_, 1) := by decide +kernel
theorem dX0_hasPin_0 : decode cX0_hasPin 0 = .ok (.aload_n 0, 1) := by decide +kernel
theorem dX0_hasPin_1 : decode cX0_hasPin 1 = .ok (.getfield 18, 3) := by decide +kernel
theorem dX0_hasPin_4 : decode cX0_hasPin 4 = .ok (.iload_n 1, 1) := by decide +kernel
theorem dX0_hasPin_5 : decode cX0_hasPin 5 = .ok (.iaload, 1) := by decide +kernel
theorem dX0_hasPin_6 : decode cX0_hasPin 6 = .ok (.ifCond .le 7, 3) := by decide +kernel
theorem dX0_hasPin_9 : decode cX0_hasPin 9 = .ok (.iconst 1, 1) := by decide +kernel
theorem dX0_hasPin_10 : decode cX0_hasPin 10 = .ok (.goto 4, 3) := by decide +kernel
theorem dX0_hasPin_13 : decode cX0_hasPin 13 = .ok (.iconst 0, 1) := by decide +kernel
theorem dX0_hasPin_14 : decode cX0_hasPin 14 = .ok (.ireturn, 1) := by decide +kernel
theorem dX0_firstPinned_0 : decode cX0_firstPinned 0 = .ok (.aload_n 0, 1) := by decide +kernel
theorem dX0_firstPinned_1 : decode cX0_firstPinned 1 = .ok (.getfield 15, 3) := by decide +kernel
theorem dX0_firstPinned_4 : decode cX0_firstPinned 4 = .ok (.iload_n 1, 1) := by decide +kernel
theorem dX0_firstPinned_5 : decode cX0_firstPinned 5 = .ok (.iaload, 1) := by decide +kernel
theorem dX0_firstPinned_6 : decode cX0_firstPinned 6 = .ok (.ireturn, 1) := by decide +kernel
theorem dX0_lengthPinned_0 : decode cX0_lengthPinned 0 = .ok (.aload_n 0, 1) := by decide +kernel
theorem dX0_lengthPinned_1 : decode cX0_lengthPinned 1 = .ok (.getfield 18, 3) := by decide +kernel
theorem dX0_lengthPinned_4 : decode cX0_lengthPinned 4 = .ok (.iload_n 1, 1) := by decide +kernel
theorem dX0_lengthPinned_5 : decode cX0_lengthPinned 5 = .ok (.iaload, 1) := by decide +kernel
theorem dX0_lengthPinned_6 : decode cX0_lengthPinned 6 = .ok (.ireturn, 1) := by decide +kernel
theorem dX0_isAnyPinned_0 : decode cX0_isAnyPinned 0 = .ok (.iconst 0, 1) := by decide +kernel
theorem dX0_isAnyPinned_1 : decode cX0_isAnyPinned 1 = .ok (.istore_n 3, 1) := by decide +kernel
theorem dX0_isAnyPinned_2 : decode cX0_isAnyPinned 2 = .ok (.iload_n 3, 1) := by decide +kernel
theorem dX0_isAnyPinned_3 : decode cX0_isAnyPinned 3 = .ok (.iconst 3, 1) := by decide +kernel
theorem dX0_isAnyPinned_4 : decode cX0_isAnyPinned 4 = .ok (.if_icmp .ge 47, 3) := by decide +kernel
theorem dX0_isAnyPinned_7 : decode cX0_isAnyPinned 7 = .ok (.aload_n 0, 1) := by decide +kernel
theorem dX0_isAnyPinned_8 : decode cX0_isAnyPinned 8 = .ok (.getfield 18, 3) := by decide +kernel
theorem dX0_isAnyPinned_11 : decode cX0_isAnyPinned 11 = .ok (.iload_n 3, 1) := by decide +kernel
theorem dX0_isAnyPinned_12 : decode cX0_isAnyPinned 12 = .ok (.iaload, 1) := by decide +kernel
theorem dX0_isAnyPinned_13 : decode cX0_isAnyPinned 13 = .ok (.ifCond .le 32, 3) := by decide +kernel
theorem dX0_isAnyPinned_16 : decode cX0_isAnyPinned 16 = .ok (.aload_n 0, 1) := by decide +kernel
theorem dX0_isAnyPinned_17 : decode cX0_isAnyPinned 17 = .ok (.getfield 15, 3) := by decide +kernel
theorem dX0_isAnyPinned_20 : decode cX0_isAnyPinned 20 = .ok (.iload_n 3, 1) := by decide +kernel
theorem dX0_isAnyPinned_21 : decode cX0_isAnyPinned 21 = .ok (.iaload, 1) := by decide +kernel
theorem dX0_isAnyPinned_22 : decode cX0_isAnyPinned 22 = .ok (.iload_n 2, 1) := by decide +kernel
theorem dX0_isAnyPinned_23 : decode cX0_isAnyPinned 23 = .ok (.if_icmp .ge 22, 3) := by decide +kernel
theorem dX0_isAnyPinned_26 : decode cX0_isAnyPinned 26 = .ok (.aload_n 0, 1) := by decide +kernel
theorem dX0_isAnyPinned_27 : decode cX0_isAnyPinned 27 = .ok (.getfield 15, 3) := by decide +kernel
theorem dX0_isAnyPinned_30 : decode cX0_isAnyPinned 30 = .ok (.iload_n 3, 1) := by decide +kernel
theorem dX0_isAnyPinned_31 : decode cX0_isAnyPinned 31 = .ok (.iaload, 1) := by decide +kernel
theorem dX0_isAnyPinned_32 : decode cX0_isAnyPinned 32 = .ok (.aload_n 0, 1) := by decide +kernel
theorem dX0_isAnyPinned_33 : decode cX0_isAnyPinned 33 = .ok (.getfield 18, 3) := by decide +kernel
theorem dX0_isAnyPinned_36 : decode cX0_isAnyPinned 36 = .ok (.iload_n 3, 1) := by decide +kernel
theorem dX0_isAnyPinned_37 : decode cX0_isAnyPinned 37 = .ok (.iaload, 1) := by decide +kernel
theorem dX0_isAnyPinned_38 : decode cX0_isAnyPinned 38 = .ok (.iadd, 1) := by decide +kernel
theorem dX0_isAnyPinned_39 : decode cX0_isAnyPinned 39 = .ok (.iload_n 1, 1) := by decide +kernel
theorem dX0_isAnyPinned_40 : decode cX0_isAnyPinned 40 = .ok (.if_icmp .le 5, 3) := by decide +kernel
theorem dX0_isAnyPinned_43 : decode cX0_isAnyPinned 43 = .ok (.iconst 1, 1) := by decide +kernel
theorem dX0_isAnyPinned_44 : decode cX0_isAnyPinned 44 = .ok (.ireturn, 1) := by decide +kernel
theorem dX0_isAnyPinned_45 : decode cX0_isAnyPinned 45 = .ok (.iinc 3 1, 3) := by decide +kernel
theorem dX0_isAnyPinned_48 : decode cX0_isAnyPinned 48 = .ok (.goto (-46), 3) := by decide +kernel
theorem dX0_isAnyPinned_51 : decode cX0_isAnyPinned 51 = .ok (.iconst 0, 1) := by decide +kernel
theorem dX0_isAnyPinned_52 : decode cX0_isAnyPinned 52 = .ok (.ireturn, 1) := by decide +kernel
set_option maxRecDepth 20000 in
theorem ggX0_countPinned_X0_isAnyPinned : GoodIn wsX0_countPinned wsX0_isAnyPinned := goodIn_r _ [5, 6, 7, 8, 9, 10, 11, 12, 13, 14, 15, 16] (by decide +kernel) (by decide +kernel)
set_option maxRecDepth 20000 in
theorem gX0_countPinned_X0_isAnyPinned : GoodIn wsX0_countPinned (wsV RX0 65 RX0 yX0_isAnyPinned wsX0_isAnyPinned) := goodIn_app (goodIn_of _ (by decide +kernel)) ggX0_countPinned_X0_isAnyPinned
theorem dX0_countPinned_0 : decode cX0_countPinned 0 = .ok (.iconst 0, 1) := by decide +kernel
theorem dX0_countPinned_1 : decode cX0_countPinned 1 = .ok (.istore_n 1, 1) := by decide +kernel
theorem dX0_countPinned_2 : decode cX0_countPinned 2 = .ok (.iconst 0, 1) := by decide +kernel
theorem dX0_countPinned_3 : decode cX0_countPinned 3 = .ok (.istore_n 2, 1) := by decide +kernel
theorem dX0_countPinned_4 : decode cX0_countPinned 4 = .ok (.iload_n 2, 1) := by decide +kernel
theorem dX0_countPinned_5 : decode cX0_countPinned 5 = .ok (.sipush 256, 3) := by decide +kernel
theorem dX0_countPinned_8 : decode cX0_countPinned 8 = .ok (.if_icmp .ge 23, 3) := by decide +kernel
theorem dX0_countPinned_11 : decode cX0_countPinned 11 = .ok (.aload_n 0, 1) := by decide +kernel
theorem dX0_countPinned_12 : decode cX0_countPinned 12 = .ok (.iload_n 2, 1) := by decide +kernel
theorem dX0_countPinned_13 : decode cX0_countPinned 13 = .ok (.iload_n 2, 1) := by decide +kernel
theorem dX0_countPinned_14 : decode cX0_countPinned 14 = .ok (.iconst 1, 1) := by decide +kernel
theorem dX0_countPinned_15 : decode cX0_countPinned 15 = .ok (.iadd, 1) := by decide +kernel
theorem dX0_countPinned_16 : decode cX0_countPinned 16 = .ok (.invokevirtual 65, 3) := by decide +kernel
theorem dX0_countPinned_19 : decode cX0_countPinned 19 = .ok (.ifCond .eq 6, 3) := by decide +kernel
theorem dX0_countPinned_22 : decode cX0_countPinned 22 = .ok (.iinc 1 1, 3) := by decide +kernel
theorem dX0_countPinned_25 : decode cX0_countPinned 25 = .ok (.iinc 2 1, 3) := by decide +kernel
theorem dX0_countPinned_28 : decode cX0_countPinned 28 = .ok (.goto (-24), 3) := by decide +kernel
theorem dX0_countPinned_31 : decode cX0_countPinned 31 = .ok (.iload_n 1, 1) := by decide +kernel
theorem dX0_countPinned_32 : decode cX0_countPinned 32 = .ok (.ireturn, 1) := by decide +kernel
set_option maxRecDepth 20000 in
theorem ggX0_countRanges_X0_countRangesAhead : GoodIn wsX0_countRanges wsX0_countRangesAhead := goodIn_r _ [5, 6, 7, 8, 9, 10, 11, 12, 13, 14, 15] (by decide +kernel) (by decide +kernel)
set_option maxRecDepth 20000 in
theorem gX0_countRanges_X0_countRangesAhead : GoodIn wsX0_countRanges (wsV RX0 69 RX0 yX0_countRangesAhead wsX0_countRangesAhead) := goodIn_app (goodIn_of _ (by decide +kernel)) ggX0_countRanges_X0_countRangesAhead
theorem dX0_countRanges_0 : decode cX0_countRanges 0 = .ok (.aload_n 0, 1) := by decide +kernel
theorem dX0_countRanges_1 : decode cX0_countRanges 1 = .ok (.sipush 256, 3) := by decide +kernel
theorem dX0_countRanges_4 : decode cX0_countRanges 4 = .ok (.invokevirtual 69, 3) := by decide +kernel
theorem dX0_countRanges_7 : decode cX0_countRanges 7 = .ok (.ireturn, 1) := by decide +kernel
theorem dX0_countRangesAhead_0 : decode cX0_countRangesAhead 0 = .ok (.iconst 0, 1) := by decide +kernel
theorem dX0_countRangesAhead_1 : decode cX0_countRangesAhead 1 = .ok (.istore_n 2, 1) := by decide +kernel
theorem dX0_countRangesAhead_2 : decode cX0_countRangesAhead 2 = .ok (.iconst 0, 1) := by decide +kernel
theorem dX0_countRangesAhead_3 : decode cX0_countRangesAhead 3 = .ok (.istore_n 3, 1) := by decide +kernel
theorem dX0_countRangesAhead_4 : decode cX0_countRangesAhead 4 = .ok (.iconst 0, 1) := by decide +kernel
theorem dX0_countRangesAhead_5 : decode cX0_countRangesAhead 5 = .ok (.istore 4, 2) := by decide +kernel
theorem dX0_countRangesAhead_7 : decode cX0_countRangesAhead 7 = .ok (.iload 4, 2) := by decide +kernel
theorem dX0_countRangesAhead_9 : decode cX0_countRangesAhead 9 = .ok (.iload_n 1, 1) := by decide +kernel
theorem dX0_countRangesAhead_10 : decode cX0_countRangesAhead 10 = .ok (.if_icmp .ge 41, 3) := by decide +kernel
theorem dX0_countRangesAhead_13 : decode cX0_countRangesAhead 13 = .ok (.aload_n 0, 1) := by decide +kernel
theorem dX0_countRangesAhead_14 : decode cX0_countRangesAhead 14 = .ok (.getfield 9, 3) := by decide +kernel
theorem dX0_countRangesAhead_17 : decode cX0_countRangesAhead 17 = .ok (.iload 4, 2) := by decide +kernel
theorem dX0_countRangesAhead_19 : decode cX0_countRangesAhead 19 = .ok (.iaload, 1) := by decide +kernel
theorem dX0_countRangesAhead_20 : decode cX0_countRangesAhead 20 = .ok (.ifCond .lt 7, 3) := by decide +kernel
theorem dX0_countRangesAhead_23 : decode cX0_countRangesAhead 23 = .ok (.iconst 1, 1) := by decide +kernel
theorem dX0_countRangesAhead_24 : decode cX0_countRangesAhead 24 = .ok (.goto 4, 3) := by decide +kernel
theorem dX0_countRangesAhead_27 : decode cX0_countRangesAhead 27 = .ok (.iconst 0, 1) := by decide +kernel
theorem dX0_countRangesAhead_28 : decode cX0_countRangesAhead 28 = .ok (.istore 5, 2) := by decide +kernel
theorem dX0_countRangesAhead_30 : decode cX0_countRangesAhead 30 = .ok (.iload 5, 2) := by decide +kernel
theorem dX0_countRangesAhead_32 : decode cX0_countRangesAhead 32 = .ok (.ifCond .eq 10, 3) := by decide +kernel
theorem dX0_countRangesAhead_35 : decode cX0_countRangesAhead 35 = .ok (.iload_n 3, 1) := by decide +kernel
theorem dX0_countRangesAhead_36 : decode cX0_countRangesAhead 36 = .ok (.ifCond .ne 6, 3) := by decide +kernel
theorem dX0_countRangesAhead_39 : decode cX0_countRangesAhead 39 = .ok (.iinc 2 1, 3) := by decide +kernel
theorem dX0_countRangesAhead_42 : decode cX0_countRangesAhead 42 = .ok (.iload 5, 2) := by decide +kernel
theorem dX0_countRangesAhead_44 : decode cX0_countRangesAhead 44 = .ok (.istore_n 3, 1) := by decide +kernel
theorem dX0_countRangesAhead_45 : decode cX0_countRangesAhead 45 = .ok (.iinc 4 1, 3) := by decide +kernel
theorem dX0_countRangesAhead_48 : decode cX0_countRangesAhead 48 = .ok (.goto (-41), 3) := by decide +kernel
theorem dX0_countRangesAhead_51 : decode cX0_countRangesAhead 51 = .ok (.iload_n 2, 1) := by decide +kernel
theorem dX0_countRangesAhead_52 : decode cX0_countRangesAhead 52 = .ok (.ireturn, 1) := by decide +kernel
set_option maxRecDepth 20000 in
theorem ggX0_rangeOf_X0_countRangesAhead : GoodIn wsX0_rangeOf wsX0_countRangesAhead := goodIn_r _ [6, 1, 7, 8, 9, 10, 11, 12, 13, 14, 15] (by decide +kernel) (by decide +kernel)
set_option maxRecDepth 20000 in
theorem gX0_rangeOf_X0_countRangesAhead : GoodIn wsX0_rangeOf (wsV RX0 69 RX0 yX0_countRangesAhead wsX0_countRangesAhead) := goodIn_app (goodIn_of _ (by decide +kernel)) ggX0_rangeOf_X0_countRangesAhead
theorem dX0_rangeOf_0 : decode cX0_rangeOf 0 = .ok (.aload_n 0, 1) := by decide +kernel
theorem dX0_rangeOf_1 : decode cX0_rangeOf 1 = .ok (.getfield 9, 3) := by decide +kernel
theorem dX0_rangeOf_4 : decode cX0_rangeOf 4 = .ok (.iload_n 1, 1) := by decide +kernel
theorem dX0_rangeOf_5 : decode cX0_rangeOf 5 = .ok (.iaload, 1) := by decide +kernel
theorem dX0_rangeOf_6 : decode cX0_rangeOf 6 = .ok (.ifCond .lt 15, 3) := by decide +kernel
theorem dX0_rangeOf_9 : decode cX0_rangeOf 9 = .ok (.aload_n 0, 1) := by decide +kernel
theorem dX0_rangeOf_10 : decode cX0_rangeOf 10 = .ok (.iload_n 1, 1) := by decide +kernel
theorem dX0_rangeOf_11 : decode cX0_rangeOf 11 = .ok (.iconst 1, 1) := by decide +kernel
theorem dX0_rangeOf_12 : decode cX0_rangeOf 12 = .ok (.iadd, 1) := by decide +kernel
theorem dX0_rangeOf_13 : decode cX0_rangeOf 13 = .ok (.invokevirtual 69, 3) := by decide +kernel
theorem dX0_rangeOf_16 : decode cX0_rangeOf 16 = .ok (.iconst 1, 1) := by decide +kernel
theorem dX0_rangeOf_17 : decode cX0_rangeOf 17 = .ok (.isub, 1) := by decide +kernel
theorem dX0_rangeOf_18 : decode cX0_rangeOf 18 = .ok (.goto 4, 3) := by decide +kernel
theorem dX0_rangeOf_21 : decode cX0_rangeOf 21 = .ok (.iconst (-1), 1) := by decide +kernel
theorem dX0_rangeOf_22 : decode cX0_rangeOf 22 = .ok (.ireturn, 1) := by decide +kernel
theorem dX0_firstOfRange_0 : decode cX0_firstOfRange 0 = .ok (.iload_n 1, 1) := by decide +kernel
theorem dX0_firstOfRange_1 : decode cX0_firstOfRange 1 = .ok (.istore_n 2, 1) := by decide +kernel
theorem dX0_firstOfRange_2 : decode cX0_firstOfRange 2 = .ok (.iconst 0, 1) := by decide +kernel
theorem dX0_firstOfRange_3 : decode cX0_firstOfRange 3 = .ok (.istore_n 3, 1) := by decide +kernel
theorem dX0_firstOfRange_4 : decode cX0_firstOfRange 4 = .ok (.iconst 0, 1) := by decide +kernel
theorem dX0_firstOfRange_5 : decode cX0_firstOfRange 5 = .ok (.istore 4, 2) := by decide +kernel
theorem dX0_firstOfRange_7 : decode cX0_firstOfRange 7 = .ok (.iload 4, 2) := by decide +kernel
theorem dX0_firstOfRange_9 : decode cX0_firstOfRange 9 = .ok (.sipush 256, 3) := by decide +kernel
theorem dX0_firstOfRange_12 : decode cX0_firstOfRange 12 = .ok (.if_icmp .ge 48, 3) := by decide +kernel
theorem dX0_firstOfRange_15 : decode cX0_firstOfRange 15 = .ok (.aload_n 0, 1) := by decide +kernel
theorem dX0_firstOfRange_16 : decode cX0_firstOfRange 16 = .ok (.getfield 9, 3) := by decide +kernel
theorem dX0_firstOfRange_19 : decode cX0_firstOfRange 19 = .ok (.iload 4, 2) := by decide +kernel
theorem dX0_firstOfRange_21 : decode cX0_firstOfRange 21 = .ok (.iaload, 1) := by decide +kernel
theorem dX0_firstOfRange_22 : decode cX0_firstOfRange 22 = .ok (.ifCond .lt 7, 3) := by decide +kernel
theorem dX0_firstOfRange_25 : decode cX0_firstOfRange 25 = .ok (.iconst 1, 1) := by decide +kernel
theorem dX0_firstOfRange_26 : decode cX0_firstOfRange 26 = .ok (.goto 4, 3) := by decide +kernel
theorem dX0_firstOfRange_29 : decode cX0_firstOfRange 29 = .ok (.iconst 0, 1) := by decide +kernel
theorem dX0_firstOfRange_30 : decode cX0_firstOfRange 30 = .ok (.istore 5, 2) := by decide +kernel
theorem dX0_firstOfRange_32 : decode cX0_firstOfRange 32 = .ok (.iload 5, 2) := by decide +kernel
theorem dX0_firstOfRange_34 : decode cX0_firstOfRange 34 = .ok (.ifCond .eq 17, 3) := by decide +kernel
theorem dX0_firstOfRange_37 : decode cX0_firstOfRange 37 = .ok (.iload_n 3, 1) := by decide +kernel
theorem dX0_firstOfRange_38 : decode cX0_firstOfRange 38 = .ok (.ifCond .ne 13, 3) := by decide +kernel
theorem dX0_firstOfRange_41 : decode cX0_firstOfRange 41 = .ok (.iload_n 2, 1) := by decide +kernel
theorem dX0_firstOfRange_42 : decode cX0_firstOfRange 42 = .ok (.ifCond .ne 6, 3) := by decide +kernel
theorem dX0_firstOfRange_45 : decode cX0_firstOfRange 45 = .ok (.iload 4, 2) := by decide +kernel
theorem dX0_firstOfRange_47 : decode cX0_firstOfRange 47 = .ok (.ireturn, 1) := by decide +kernel
theorem dX0_firstOfRange_48 : decode cX0_firstOfRange 48 = .ok (.iinc 2 (-1), 3) := by decide +kernel
theorem dX0_firstOfRange_51 : decode cX0_firstOfRange 51 = .ok (.iload 5, 2) := by decide +kernel
theorem dX0_firstOfRange_53 : decode cX0_firstOfRange 53 = .ok (.istore_n 3, 1) := by decide +kernel
theorem dX0_firstOfRange_54 : decode cX0_firstOfRange 54 = .ok (.iinc 4 1, 3) := by decide +kernel
theorem dX0_firstOfRange_57 : decode cX0_firstOfRange 57 = .ok (.goto (-50), 3) := by decide +kernel
theorem dX0_firstOfRange_60 : decode cX0_firstOfRange 60 = .ok (.iconst 0, 1) := by decide +kernel
theorem dX0_firstOfRange_61 : decode cX0_firstOfRange 61 = .ok (.ireturn, 1) := by decide +kernel
theorem dX0_endOfRange_0 : decode cX0_endOfRange 0 = .ok (.iload_n 1, 1) := by decide +kernel
theorem dX0_endOfRange_1 : decode cX0_endOfRange 1 = .ok (.istore_n 2, 1) := by decide +kernel
theorem dX0_endOfRange_2 : decode cX0_endOfRange 2 = .ok (.iload_n 2, 1) := by decide +kernel
theorem dX0_endOfRange_3 : decode cX0_endOfRange 3 = .ok (.sipush 256, 3) := by decide +kernel
theorem dX0_endOfRange_6 : decode cX0_endOfRange 6 = .ok (.if_icmp .ge 18, 3) := by decide +kernel
theorem dX0_endOfRange_9 : decode cX0_endOfRange 9 = .ok (.aload_n 0, 1) := by decide +kernel
theorem dX0_endOfRange_10 : decode cX0_endOfRange 10 = .ok (.getfield 9, 3) := by decide +kernel
theorem dX0_endOfRange_13 : decode cX0_endOfRange 13 = .ok (.iload_n 2, 1) := by decide +kernel
theorem dX0_endOfRange_14 : decode cX0_endOfRange 14 = .ok (.iaload, 1) := by decide +kernel
theorem dX0_endOfRange_15 : decode cX0_endOfRange 15 = .ok (.ifCond .lt 9, 3) := by decide +kernel
theorem dX0_endOfRange_18 : decode cX0_endOfRange 18 = .ok (.iinc 2 1, 3) := by decide +kernel
theorem dX0_endOfRange_21 : decode cX0_endOfRange 21 = .ok (.goto (-19), 3) := by decide +kernel
theorem dX0_endOfRange_24 : decode cX0_endOfRange 24 = .ok (.iload_n 2, 1) := by decide +kernel
theorem dX0_endOfRange_25 : decode cX0_endOfRange 25 = .ok (.ireturn, 1) := by decide +kernel
theorem dX0_timeOf_0 : decode cX0_timeOf 0 = .ok (.aload_n 0, 1) := by decide +kernel
theorem dX0_timeOf_1 : decode cX0_timeOf 1 = .ok (.getfield 9, 3) := by decide +kernel
theorem dX0_timeOf_4 : decode cX0_timeOf 4 = .ok (.iload_n 1, 1) := by decide +kernel
theorem dX0_timeOf_5 : decode cX0_timeOf 5 = .ok (.iaload, 1) := by decide +kernel
theorem dX0_timeOf_6 : decode cX0_timeOf 6 = .ok (.ireturn, 1) := by decide +kernel
theorem dX0_isDue_0 : decode cX0_isDue 0 = .ok (.aload_n 0, 1) := by decide +kernel
theorem dX0_isDue_1 : decode cX0_isDue 1 = .ok (.getfield 42, 3) := by decide +kernel
theorem dX0_isDue_4 : decode cX0_isDue 4 = .ok (.aload_n 0, 1) := by decide +kernel
theorem dX0_isDue_5 : decode cX0_isDue 5 = .ok (.getfield 9, 3) := by decide +kernel
theorem dX0_isDue_8 : decode cX0_isDue 8 = .ok (.iload_n 1, 1) := by decide +kernel
theorem dX0_isDue_9 : decode cX0_isDue 9 = .ok (.iaload, 1) := by decide +kernel
theorem dX0_isDue_10 : decode cX0_isDue 10 = .ok (.isub, 1) := by decide +kernel
theorem dX0_isDue_11 : decode cX0_isDue 11 = .ok (.aload_n 0, 1) := by decide +kernel
theorem dX0_isDue_12 : decode cX0_isDue 12 = .ok (.getfield 21, 3) := by decide +kernel
theorem dX0_isDue_15 : decode cX0_isDue 15 = .ok (.iconst 3, 1) := by decide +kernel
theorem dX0_isDue_16 : decode cX0_isDue 16 = .ok (.iaload, 1) := by decide +kernel
theorem dX0_isDue_17 : decode cX0_isDue 17 = .ok (.if_icmp .lt 7, 3) := by decide +kernel
theorem dX0_isDue_20 : decode cX0_isDue 20 = .ok (.iconst 1, 1) := by decide +kernel
theorem dX0_isDue_21 : decode cX0_isDue 21 = .ok (.goto 4, 3) := by decide +kernel
theorem dX0_isDue_24 : decode cX0_isDue 24 = .ok (.iconst 0, 1) := by decide +kernel
theorem dX0_isDue_25 : decode cX0_isDue 25 = .ok (.ireturn, 1) := by decide +kernel
set_option maxRecDepth 20000 in
theorem ggX0_dropSurplus_X0_countRangesAhead : GoodIn wsX0_dropSurplus wsX0_countRangesAhead := goodIn_r _ [7, 1, 12, 13, 14, 15, 16, 17, 18, 19, 20] (by decide +kernel) (by decide +kernel)
set_option maxRecDepth 20000 in
theorem gX0_dropSurplus_X0_countRangesAhead : GoodIn wsX0_dropSurplus (wsV RX0 69 RX0 yX0_countRangesAhead wsX0_countRangesAhead) := goodIn_app (goodIn_of _ (by decide +kernel)) ggX0_dropSurplus_X0_countRangesAhead
set_option maxRecDepth 20000 in
theorem ggX0_dropSurplus_X0_shortestRange : GoodIn wsX0_dropSurplus wsX0_shortestRange := goodIn_r _ [11, 1, 12, 13, 14, 15, 16, 17, 18, 19, 20] (by decide +kernel) (by decide +kernel)
set_option maxRecDepth 20000 in
theorem gX0_dropSurplus_X0_shortestRange : GoodIn wsX0_dropSurplus (wsV RX0 73 RX0 yX0_shortestRange wsX0_shortestRange) := goodIn_app (goodIn_of _ (by decide +kernel)) ggX0_dropSurplus_X0_shortestRange
theorem dX0_dropSurplus_0 : decode cX0_dropSurplus 0 = .ok (.aload_n 0, 1) := by decide +kernel
theorem dX0_dropSurplus_1 : decode cX0_dropSurplus 1 = .ok (.sipush 256, 3) := by decide +kernel
theorem dX0_dropSurplus_4 : decode cX0_dropSurplus 4 = .ok (.invokevirtual 69, 3) := by decide +kernel
theorem dX0_dropSurplus_7 : decode cX0_dropSurplus 7 = .ok (.bipush 16, 2) := by decide +kernel
theorem dX0_dropSurplus_9 : decode cX0_dropSurplus 9 = .ok (.isub, 1) := by decide +kernel
theorem dX0_dropSurplus_10 : decode cX0_dropSurplus 10 = .ok (.istore_n 1, 1) := by decide +kernel
theorem dX0_dropSurplus_11 : decode cX0_dropSurplus 11 = .ok (.iload_n 1, 1) := by decide +kernel
theorem dX0_dropSurplus_12 : decode cX0_dropSurplus 12 = .ok (.ifCond .le 56, 3) := by decide +kernel
theorem dX0_dropSurplus_15 : decode cX0_dropSurplus 15 = .ok (.aload_n 0, 1) := by decide +kernel
theorem dX0_dropSurplus_16 : decode cX0_dropSurplus 16 = .ok (.invokevirtual 73, 3) := by decide +kernel
theorem dX0_dropSurplus_19 : decode cX0_dropSurplus 19 = .ok (.istore_n 2, 1) := by decide +kernel
theorem dX0_dropSurplus_20 : decode cX0_dropSurplus 20 = .ok (.iload_n 2, 1) := by decide +kernel
theorem dX0_dropSurplus_21 : decode cX0_dropSurplus 21 = .ok (.istore_n 3, 1) := by decide +kernel
theorem dX0_dropSurplus_22 : decode cX0_dropSurplus 22 = .ok (.iload_n 3, 1) := by decide +kernel
theorem dX0_dropSurplus_23 : decode cX0_dropSurplus 23 = .ok (.sipush 256, 3) := by decide +kernel
theorem dX0_dropSurplus_26 : decode cX0_dropSurplus 26 = .ok (.if_icmp .ge 26, 3) := by decide +kernel
theorem dX0_dropSurplus_29 : decode cX0_dropSurplus 29 = .ok (.aload_n 0, 1) := by decide +kernel
theorem dX0_dropSurplus_30 : decode cX0_dropSurplus 30 = .ok (.getfield 9, 3) := by decide +kernel
theorem dX0_dropSurplus_33 : decode cX0_dropSurplus 33 = .ok (.iload_n 3, 1) := by decide +kernel
theorem dX0_dropSurplus_34 : decode cX0_dropSurplus 34 = .ok (.iaload, 1) := by decide +kernel
theorem dX0_dropSurplus_35 : decode cX0_dropSurplus 35 = .ok (.ifCond .lt 17, 3) := by decide +kernel
theorem dX0_dropSurplus_38 : decode cX0_dropSurplus 38 = .ok (.aload_n 0, 1) := by decide +kernel
theorem dX0_dropSurplus_39 : decode cX0_dropSurplus 39 = .ok (.getfield 9, 3) := by decide +kernel
theorem dX0_dropSurplus_42 : decode cX0_dropSurplus 42 = .ok (.iload_n 3, 1) := by decide +kernel
theorem dX0_dropSurplus_43 : decode cX0_dropSurplus 43 = .ok (.bipush (-3), 2) := by decide +kernel
theorem dX0_dropSurplus_45 : decode cX0_dropSurplus 45 = .ok (.iastore, 1) := by decide +kernel
theorem dX0_dropSurplus_46 : decode cX0_dropSurplus 46 = .ok (.iinc 3 1, 3) := by decide +kernel
theorem dX0_dropSurplus_49 : decode cX0_dropSurplus 49 = .ok (.goto (-27), 3) := by decide +kernel
theorem dX0_dropSurplus_52 : decode cX0_dropSurplus 52 = .ok (.aload_n 0, 1) := by decide +kernel
theorem dX0_dropSurplus_53 : decode cX0_dropSurplus 53 = .ok (.dup, 1) := by decide +kernel
theorem dX0_dropSurplus_54 : decode cX0_dropSurplus 54 = .ok (.getfield 55, 3) := by decide +kernel
theorem dX0_dropSurplus_57 : decode cX0_dropSurplus 57 = .ok (.iconst 1, 1) := by decide +kernel
theorem dX0_dropSurplus_58 : decode cX0_dropSurplus 58 = .ok (.iadd, 1) := by decide +kernel
theorem dX0_dropSurplus_59 : decode cX0_dropSurplus 59 = .ok (.putfield 55, 3) := by decide +kernel
theorem dX0_dropSurplus_62 : decode cX0_dropSurplus 62 = .ok (.iinc 1 (-1), 3) := by decide +kernel
theorem dX0_dropSurplus_65 : decode cX0_dropSurplus 65 = .ok (.goto (-54), 3) := by decide +kernel
theorem dX0_dropSurplus_68 : decode cX0_dropSurplus 68 = .ok (.return_, 1) := by decide +kernel
theorem dX0_shortestRange_0 : decode cX0_shortestRange 0 = .ok (.iconst 0, 1) := by decide +kernel
theorem dX0_shortestRange_1 : decode cX0_shortestRange 1 = .ok (.istore_n 1, 1) := by decide +kernel
theorem dX0_shortestRange_2 : decode cX0_shortestRange 2 = .ok (.sipush 257, 3) := by decide +kernel
theorem dX0_shortestRange_5 : decode cX0_shortestRange 5 = .ok (.istore_n 2, 1) := by decide +kernel
theorem dX0_shortestRange_6 : decode cX0_shortestRange 6 = .ok (.iconst 0, 1) := by decide +kernel
theorem dX0_shortestRange_7 : decode cX0_shortestRange 7 = .ok (.istore_n 3, 1) := by decide +kernel
theorem dX0_shortestRange_8 : decode cX0_shortestRange 8 = .ok (.iconst 0, 1) := by decide +kernel
theorem dX0_shortestRange_9 : decode cX0_shortestRange 9 = .ok (.istore 4, 2) := by decide +kernel
theorem dX0_shortestRange_11 : decode cX0_shortestRange 11 = .ok (.iload 4, 2) := by decide +kernel
theorem dX0_shortestRange_13 : decode cX0_shortestRange 13 = .ok (.sipush 256, 3) := by decide +kernel
theorem dX0_shortestRange_16 : decode cX0_shortestRange 16 = .ok (.if_icmp .gt 51, 3) := by decide +kernel
theorem dX0_shortestRange_19 : decode cX0_shortestRange 19 = .ok (.iload 4, 2) := by decide +kernel
theorem dX0_shortestRange_21 : decode cX0_shortestRange 21 = .ok (.sipush 256, 3) := by decide +kernel
theorem dX0_shortestRange_24 : decode cX0_shortestRange 24 = .ok (.if_icmp .ge 19, 3) := by decide +kernel
theorem dX0_shortestRange_27 : decode cX0_shortestRange 27 = .ok (.aload_n 0, 1) := by decide +kernel
theorem dX0_shortestRange_28 : decode cX0_shortestRange 28 = .ok (.getfield 9, 3) := by decide +kernel
theorem dX0_shortestRange_31 : decode cX0_shortestRange 31 = .ok (.iload 4, 2) := by decide +kernel
theorem dX0_shortestRange_33 : decode cX0_shortestRange 33 = .ok (.iaload, 1) := by decide +kernel
theorem dX0_shortestRange_34 : decode cX0_shortestRange 34 = .ok (.ifCond .lt 9, 3) := by decide +kernel
theorem dX0_shortestRange_37 : decode cX0_shortestRange 37 = .ok (.iinc 3 1, 3) := by decide +kernel
theorem dX0_shortestRange_40 : decode cX0_shortestRange 40 = .ok (.goto 21, 3) := by decide +kernel
theorem dX0_shortestRange_43 : decode cX0_shortestRange 43 = .ok (.iload_n 3, 1) := by decide +kernel
theorem dX0_shortestRange_44 : decode cX0_shortestRange 44 = .ok (.ifCond .le 15, 3) := by decide +kernel
theorem dX0_shortestRange_47 : decode cX0_shortestRange 47 = .ok (.iload_n 3, 1) := by decide +kernel
theorem dX0_shortestRange_48 : decode cX0_shortestRange 48 = .ok (.iload_n 2, 1) := by decide +kernel
theorem dX0_shortestRange_49 : decode cX0_shortestRange 49 = .ok (.if_icmp .ge 10, 3) := by decide +kernel
theorem dX0_shortestRange_52 : decode cX0_shortestRange 52 = .ok (.iload 4, 2) := by decide +kernel
theorem dX0_shortestRange_54 : decode cX0_shortestRange 54 = .ok (.iload_n 3, 1) := by decide +kernel
theorem dX0_shortestRange_55 : decode cX0_shortestRange 55 = .ok (.isub, 1) := by decide +kernel
theorem dX0_shortestRange_56 : decode cX0_shortestRange 56 = .ok (.istore_n 1, 1) := by decide +kernel
theorem dX0_shortestRange_57 : decode cX0_shortestRange 57 = .ok (.iload_n 3, 1) := by decide +kernel
theorem dX0_shortestRange_58 : decode cX0_shortestRange 58 = .ok (.istore_n 2, 1) := by decide +kernel
theorem dX0_shortestRange_59 : decode cX0_shortestRange 59 = .ok (.iconst 0, 1) := by decide +kernel
theorem dX0_shortestRange_60 : decode cX0_shortestRange 60 = .ok (.istore_n 3, 1) := by decide +kernel
theorem dX0_shortestRange_61 : decode cX0_shortestRange 61 = .ok (.iinc 4 1, 3) := by decide +kernel
theorem dX0_shortestRange_64 : decode cX0_shortestRange 64 = .ok (.goto (-53), 3) := by decide +kernel
theorem dX0_shortestRange_67 : decode cX0_shortestRange 67 = .ok (.iload_n 1, 1) := by decide +kernel
theorem dX0_shortestRange_68 : decode cX0_shortestRange 68 = .ok (.ireturn, 1) := by decide +kernel
theorem dX0_granuleSize_0 : decode cX0_granuleSize 0 = .ok (.iconst 1, 1) := by decide +kernel
theorem dX0_granuleSize_1 : decode cX0_granuleSize 1 = .ok (.aload_n 0, 1) := by decide +kernel
theorem dX0_granuleSize_2 : decode cX0_granuleSize 2 = .ok (.getfield 21, 3) := by decide +kernel
theorem dX0_granuleSize_5 : decode cX0_granuleSize 5 = .ok (.iconst 0, 1) := by decide +kernel
theorem dX0_granuleSize_6 : decode cX0_granuleSize 6 = .ok (.iaload, 1) := by decide +kernel
theorem dX0_granuleSize_7 : decode cX0_granuleSize 7 = .ok (.ishl, 1) := by decide +kernel
theorem dX0_granuleSize_8 : decode cX0_granuleSize 8 = .ok (.ireturn, 1) := by decide +kernel
set_option maxRecDepth 20000 in
theorem ggX0_isFree_X0_granuleSize : GoodIn wsX0_isFree wsX0_granuleSize := goodIn_r _ [7, 1, 14, 15, 16, 17, 18, 19, 20, 21, 22] (by decide +kernel) (by decide +kernel)
set_option maxRecDepth 20000 in
theorem gX0_isFree_X0_granuleSize : GoodIn wsX0_isFree (wsV RX0 77 RX0 yX0_granuleSize wsX0_granuleSize) := goodIn_app (goodIn_of _ (by decide +kernel)) ggX0_isFree_X0_granuleSize
set_option maxRecDepth 20000 in
theorem ggX0_isFree_X0_isAnyPinned : GoodIn wsX0_isFree wsX0_isAnyPinned := goodIn_r _ [11, 12, 13, 14, 15, 16, 17, 18, 19, 20, 21, 22] (by decide +kernel) (by decide +kernel)
set_option maxRecDepth 20000 in
theorem gX0_isFree_X0_isAnyPinned : GoodIn wsX0_isFree (wsV RX0 65 RX0 yX0_isAnyPinned wsX0_isAnyPinned) := goodIn_app (goodIn_of _ (by decide +kernel)) ggX0_isFree_X0_isAnyPinned
theorem dX0_isFree_0 : decode cX0_isFree 0 = .ok (.iload_n 1, 1) := by decide +kernel
theorem dX0_isFree_1 : decode cX0_isFree 1 = .ok (.aload_n 0, 1) := by decide +kernel
theorem dX0_isFree_2 : decode cX0_isFree 2 = .ok (.getfield 21, 3) := by decide +kernel
theorem dX0_isFree_5 : decode cX0_isFree 5 = .ok (.iconst 0, 1) := by decide +kernel
theorem dX0_isFree_6 : decode cX0_isFree 6 = .ok (.iaload, 1) := by decide +kernel
theorem dX0_isFree_7 : decode cX0_isFree 7 = .ok (.ishl, 1) := by decide +kernel
theorem dX0_isFree_8 : decode cX0_isFree 8 = .ok (.istore_n 2, 1) := by decide +kernel
theorem dX0_isFree_9 : decode cX0_isFree 9 = .ok (.iload_n 2, 1) := by decide +kernel
theorem dX0_isFree_10 : decode cX0_isFree 10 = .ok (.aload_n 0, 1) := by decide +kernel
theorem dX0_isFree_11 : decode cX0_isFree 11 = .ok (.invokevirtual 77, 3) := by decide +kernel
theorem dX0_isFree_14 : decode cX0_isFree 14 = .ok (.iadd, 1) := by decide +kernel
theorem dX0_isFree_15 : decode cX0_isFree 15 = .ok (.istore_n 3, 1) := by decide +kernel
theorem dX0_isFree_16 : decode cX0_isFree 16 = .ok (.iload_n 2, 1) := by decide +kernel
theorem dX0_isFree_17 : decode cX0_isFree 17 = .ok (.ifCond .lt 10, 3) := by decide +kernel
theorem dX0_isFree_20 : decode cX0_isFree 20 = .ok (.iload_n 3, 1) := by decide +kernel
theorem dX0_isFree_21 : decode cX0_isFree 21 = .ok (.sipush 256, 3) := by decide +kernel
theorem dX0_isFree_24 : decode cX0_isFree 24 = .ok (.if_icmp .le 5, 3) := by decide +kernel
theorem dX0_isFree_27 : decode cX0_isFree 27 = .ok (.iconst 0, 1) := by decide +kernel
theorem dX0_isFree_28 : decode cX0_isFree 28 = .ok (.ireturn, 1) := by decide +kernel
theorem dX0_isFree_29 : decode cX0_isFree 29 = .ok (.iload_n 2, 1) := by decide +kernel
theorem dX0_isFree_30 : decode cX0_isFree 30 = .ok (.istore 4, 2) := by decide +kernel
theorem dX0_isFree_32 : decode cX0_isFree 32 = .ok (.iload 4, 2) := by decide +kernel
theorem dX0_isFree_34 : decode cX0_isFree 34 = .ok (.iload_n 3, 1) := by decide +kernel
theorem dX0_isFree_35 : decode cX0_isFree 35 = .ok (.if_icmp .ge 21, 3) := by decide +kernel
theorem dX0_isFree_38 : decode cX0_isFree 38 = .ok (.aload_n 0, 1) := by decide +kernel
theorem dX0_isFree_39 : decode cX0_isFree 39 = .ok (.getfield 9, 3) := by decide +kernel
theorem dX0_isFree_42 : decode cX0_isFree 42 = .ok (.iload 4, 2) := by decide +kernel
theorem dX0_isFree_44 : decode cX0_isFree 44 = .ok (.iaload, 1) := by decide +kernel
theorem dX0_isFree_45 : decode cX0_isFree 45 = .ok (.ifCond .ge 5, 3) := by decide +kernel
theorem dX0_isFree_48 : decode cX0_isFree 48 = .ok (.iconst 0, 1) := by decide +kernel
theorem dX0_isFree_49 : decode cX0_isFree 49 = .ok (.ireturn, 1) := by decide +kernel
theorem dX0_isFree_50 : decode cX0_isFree 50 = .ok (.iinc 4 1, 3) := by decide +kernel
theorem dX0_isFree_53 : decode cX0_isFree 53 = .ok (.goto (-21), 3) := by decide +kernel
theorem dX0_isFree_56 : decode cX0_isFree 56 = .ok (.aload_n 0, 1) := by decide +kernel
theorem dX0_isFree_57 : decode cX0_isFree 57 = .ok (.iload_n 2, 1) := by decide +kernel
theorem dX0_isFree_58 : decode cX0_isFree 58 = .ok (.iload_n 3, 1) := by decide +kernel
theorem dX0_isFree_59 : decode cX0_isFree 59 = .ok (.invokevirtual 65, 3) := by decide +kernel
theorem dX0_isFree_62 : decode cX0_isFree 62 = .ok (.ifCond .ne 7, 3) := by decide +kernel
theorem dX0_isFree_65 : decode cX0_isFree 65 = .ok (.iconst 1, 1) := by decide +kernel
theorem dX0_isFree_66 : decode cX0_isFree 66 = .ok (.goto 4, 3) := by decide +kernel
theorem dX0_isFree_69 : decode cX0_isFree 69 = .ok (.iconst 0, 1) := by decide +kernel
theorem dX0_isFree_70 : decode cX0_isFree 70 = .ok (.ireturn, 1) := by decide +kernel
set_option maxRecDepth 20000 in
theorem ggX0_granuleFrom_X0_granuleSize : GoodIn wsX0_granuleFrom wsX0_granuleSize := goodIn_r _ [6, 1, 7, 8, 9, 10, 11, 12, 13, 14, 15] (by decide +kernel) (by decide +kernel)
set_option maxRecDepth 20000 in
theorem gX0_granuleFrom_X0_granuleSize : GoodIn wsX0_granuleFrom (wsV RX0 77 RX0 yX0_granuleSize wsX0_granuleSize) := goodIn_app (goodIn_of _ (by decide +kernel)) ggX0_granuleFrom_X0_granuleSize
theorem dX0_granuleFrom_0 : decode cX0_granuleFrom 0 = .ok (.iload_n 1, 1) := by decide +kernel
theorem dX0_granuleFrom_1 : decode cX0_granuleFrom 1 = .ok (.aload_n 0, 1) := by decide +kernel
theorem dX0_granuleFrom_2 : decode cX0_granuleFrom 2 = .ok (.invokevirtual 77, 3) := by decide +kernel
theorem dX0_granuleFrom_5 : decode cX0_granuleFrom 5 = .ok (.iadd, 1) := by decide +kernel
theorem dX0_granuleFrom_6 : decode cX0_granuleFrom 6 = .ok (.iconst 1, 1) := by decide +kernel
theorem dX0_granuleFrom_7 : decode cX0_granuleFrom 7 = .ok (.isub, 1) := by decide +kernel
theorem dX0_granuleFrom_8 : decode cX0_granuleFrom 8 = .ok (.aload_n 0, 1) := by decide +kernel
theorem dX0_granuleFrom_9 : decode cX0_granuleFrom 9 = .ok (.getfield 21, 3) := by decide +kernel
theorem dX0_granuleFrom_12 : decode cX0_granuleFrom 12 = .ok (.iconst 0, 1) := by decide +kernel
theorem dX0_granuleFrom_13 : decode cX0_granuleFrom 13 = .ok (.iaload, 1) := by decide +kernel
theorem dX0_granuleFrom_14 : decode cX0_granuleFrom 14 = .ok (.ishr, 1) := by decide +kernel
theorem dX0_granuleFrom_15 : decode cX0_granuleFrom 15 = .ok (.ireturn, 1) := by decide +kernel
set_option maxRecDepth 20000 in
theorem ggX0_countPieces_X0_granuleFrom : GoodIn wsX0_countPieces wsX0_granuleFrom := goodIn_r _ [6, 1, 7, 8, 9, 5, 10, 22, 23, 24, 25, 26, 27, 28, 29, 30] (by decide +kernel) (by decide +kernel)
set_option maxRecDepth 20000 in
theorem gX0_countPieces_X0_granuleFrom : GoodIn wsX0_countPieces (wsV RX0 80 RX0 yX0_granuleFrom wsX0_granuleFrom) := goodIn_app (goodIn_of _ (by decide +kernel)) ggX0_countPieces_X0_granuleFrom
set_option maxRecDepth 20000 in
theorem ggX0_countPieces_X0_isFree : GoodIn wsX0_countPieces wsX0_isFree := goodIn_r _ [14, 1, 15, 7, 8, 9, 5, 10, 16, 17, 18, 19, 20, 21, 22, 23, 24, 25, 26, 27, 28, 29, 30] (by decide +kernel) (by decide +kernel)
set_option maxRecDepth 20000 in
theorem gX0_countPieces_X0_isFree : GoodIn wsX0_countPieces (wsV RX0 83 RX0 yX0_isFree wsX0_isFree) := goodIn_app (goodIn_of _ (by decide +kernel)) ggX0_countPieces_X0_isFree
theorem dX0_countPieces_0 : decode cX0_countPieces 0 = .ok (.iconst 0, 1) := by decide +kernel
theorem dX0_countPieces_1 : decode cX0_countPieces 1 = .ok (.istore_n 3, 1) := by decide +kernel
theorem dX0_countPieces_2 : decode cX0_countPieces 2 = .ok (.iconst 0, 1) := by decide +kernel
theorem dX0_countPieces_3 : decode cX0_countPieces 3 = .ok (.istore 4, 2) := by decide +kernel
theorem dX0_countPieces_5 : decode cX0_countPieces 5 = .ok (.iload_n 2, 1) := by decide +kernel
theorem dX0_countPieces_6 : decode cX0_countPieces 6 = .ok (.aload_n 0, 1) := by decide +kernel
theorem dX0_countPieces_7 : decode cX0_countPieces 7 = .ok (.getfield 21, 3) := by decide +kernel
theorem dX0_countPieces_10 : decode cX0_countPieces 10 = .ok (.iconst 0, 1) := by decide +kernel
theorem dX0_countPieces_11 : decode cX0_countPieces 11 = .ok (.iaload, 1) := by decide +kernel
theorem dX0_countPieces_12 : decode cX0_countPieces 12 = .ok (.ishr, 1) := by decide +kernel
theorem dX0_countPieces_13 : decode cX0_countPieces 13 = .ok (.istore 5, 2) := by decide +kernel
theorem dX0_countPieces_15 : decode cX0_countPieces 15 = .ok (.aload_n 0, 1) := by decide +kernel
theorem dX0_countPieces_16 : decode cX0_countPieces 16 = .ok (.iload_n 1, 1) := by decide +kernel
theorem dX0_countPieces_17 : decode cX0_countPieces 17 = .ok (.invokevirtual 80, 3) := by decide +kernel
theorem dX0_countPieces_20 : decode cX0_countPieces 20 = .ok (.istore 6, 2) := by decide +kernel
theorem dX0_countPieces_22 : decode cX0_countPieces 22 = .ok (.iload 6, 2) := by decide +kernel
theorem dX0_countPieces_24 : decode cX0_countPieces 24 = .ok (.iload 5, 2) := by decide +kernel
theorem dX0_countPieces_26 : decode cX0_countPieces 26 = .ok (.if_icmp .ge 34, 3) := by decide +kernel
theorem dX0_countPieces_29 : decode cX0_countPieces 29 = .ok (.aload_n 0, 1) := by decide +kernel
theorem dX0_countPieces_30 : decode cX0_countPieces 30 = .ok (.iload 6, 2) := by decide +kernel
theorem dX0_countPieces_32 : decode cX0_countPieces 32 = .ok (.invokevirtual 83, 3) := by decide +kernel
theorem dX0_countPieces_35 : decode cX0_countPieces 35 = .ok (.istore 7, 2) := by decide +kernel
theorem dX0_countPieces_37 : decode cX0_countPieces 37 = .ok (.iload 7, 2) := by decide +kernel
theorem dX0_countPieces_39 : decode cX0_countPieces 39 = .ok (.ifCond .eq 11, 3) := by decide +kernel
theorem dX0_countPieces_42 : decode cX0_countPieces 42 = .ok (.iload 4, 2) := by decide +kernel
theorem dX0_countPieces_44 : decode cX0_countPieces 44 = .ok (.ifCond .ne 6, 3) := by decide +kernel
theorem dX0_countPieces_47 : decode cX0_countPieces 47 = .ok (.iinc 3 1, 3) := by decide +kernel
theorem dX0_countPieces_50 : decode cX0_countPieces 50 = .ok (.iload 7, 2) := by decide +kernel
theorem dX0_countPieces_52 : decode cX0_countPieces 52 = .ok (.istore 4, 2) := by decide +kernel
theorem dX0_countPieces_54 : decode cX0_countPieces 54 = .ok (.iinc 6 1, 3) := by decide +kernel
theorem dX0_countPieces_57 : decode cX0_countPieces 57 = .ok (.goto (-35), 3) := by decide +kernel
theorem dX0_countPieces_60 : decode cX0_countPieces 60 = .ok (.iload_n 3, 1) := by decide +kernel
theorem dX0_countPieces_61 : decode cX0_countPieces 61 = .ok (.ireturn, 1) := by decide +kernel
set_option maxRecDepth 20000 in
theorem ggX0_countGranules_X0_granuleFrom : GoodIn wsX0_countGranules wsX0_granuleFrom := goodIn_r _ [6, 1, 7, 8, 9, 5, 10, 22, 23, 24, 25, 26, 27, 28, 29, 30] (by decide +kernel) (by decide +kernel)
set_option maxRecDepth 20000 in
theorem gX0_countGranules_X0_granuleFrom : GoodIn wsX0_countGranules (wsV RX0 80 RX0 yX0_granuleFrom wsX0_granuleFrom) := goodIn_app (goodIn_of _ (by decide +kernel)) ggX0_countGranules_X0_granuleFrom
set_option maxRecDepth 20000 in
theorem ggX0_countGranules_X0_isFree : GoodIn wsX0_countGranules wsX0_isFree := goodIn_r _ [14, 1, 15, 7, 8, 9, 5, 10, 16, 17, 18, 19, 20, 21, 22, 23, 24, 25, 26, 27, 28, 29, 30] (by decide +kernel) (by decide +kernel)
set_option maxRecDepth 20000 in
theorem gX0_countGranules_X0_isFree : GoodIn wsX0_countGranules (wsV RX0 83 RX0 yX0_isFree wsX0_isFree) := goodIn_app (goodIn_of _ (by decide +kernel)) ggX0_countGranules_X0_isFree
theorem dX0_countGranules_0 : decode cX0_countGranules 0 = .ok (.iconst 0, 1) := by decide +kernel
theorem dX0_countGranules_1 : decode cX0_countGranules 1 = .ok (.istore_n 3, 1) := by decide +kernel
theorem dX0_countGranules_2 : decode cX0_countGranules 2 = .ok (.iload_n 2, 1) := by decide +kernel
theorem dX0_countGranules_3 : decode cX0_countGranules 3 = .ok (.aload_n 0, 1) := by decide +kernel
theorem dX0_countGranules_4 : decode cX0_countGranules 4 = .ok (.getfield 21, 3) := by decide +kernel
theorem dX0_countGranules_7 : decode cX0_countGranules 7 = .ok (.iconst 0, 1) := by decide +kernel
theorem dX0_countGranules_8 : decode cX0_countGranules 8 = .ok (.iaload, 1) := by decide +kernel
theorem dX0_countGranules_9 : decode cX0_countGranules 9 = .ok (.ishr, 1) := by decide +kernel
theorem dX0_countGranules_10 : decode cX0_countGranules 10 = .ok (.istore 4, 2) := by decide +kernel
theorem dX0_countGranules_12 : decode cX0_countGranules 12 = .ok (.aload_n 0, 1) := by decide +kernel
theorem dX0_countGranules_13 : decode cX0_countGranules 13 = .ok (.iload_n 1, 1) := by decide +kernel
theorem dX0_countGranules_14 : decode cX0_countGranules 14 = .ok (.invokevirtual 80, 3) := by decide +kernel
theorem dX0_countGranules_17 : decode cX0_countGranules 17 = .ok (.istore 5, 2) := by decide +kernel
theorem dX0_countGranules_19 : decode cX0_countGranules 19 = .ok (.iload 5, 2) := by decide +kernel
theorem dX0_countGranules_21 : decode cX0_countGranules 21 = .ok (.iload 4, 2) := by decide +kernel
theorem dX0_countGranules_23 : decode cX0_countGranules 23 = .ok (.if_icmp .ge 21, 3) := by decide +kernel
theorem dX0_countGranules_26 : decode cX0_countGranules 26 = .ok (.aload_n 0, 1) := by decide +kernel
theorem dX0_countGranules_27 : decode cX0_countGranules 27 = .ok (.iload 5, 2) := by decide +kernel
theorem dX0_countGranules_29 : decode cX0_countGranules 29 = .ok (.invokevirtual 83, 3) := by decide +kernel
theorem dX0_countGranules_32 : decode cX0_countGranules 32 = .ok (.ifCond .eq 6, 3) := by decide +kernel
theorem dX0_countGranules_35 : decode cX0_countGranules 35 = .ok (.iinc 3 1, 3) := by decide +kernel
theorem dX0_countGranules_38 : decode cX0_countGranules 38 = .ok (.iinc 5 1, 3) := by decide +kernel
theorem dX0_countGranules_41 : decode cX0_countGranules 41 = .ok (.goto (-22), 3) := by decide +kernel
theorem dX0_countGranules_44 : decode cX0_countGranules 44 = .ok (.iload_n 3, 1) := by decide +kernel
theorem dX0_countGranules_45 : decode cX0_countGranules 45 = .ok (.ireturn, 1) := by decide +kernel
set_option maxRecDepth 20000 in
theorem ggX0_granulesFrom_X0_isFree : GoodIn wsX0_granulesFrom wsX0_isFree := goodIn_r _ [5, 6, 7, 8, 9, 10, 4, 11, 12, 13, 14, 15, 16, 17, 18, 19, 20, 21, 22, 23, 24, 25, 26] (by decide +kernel) (by decide +kernel)
set_option maxRecDepth 20000 in
theorem gX0_granulesFrom_X0_isFree : GoodIn wsX0_granulesFrom (wsV RX0 83 RX0 yX0_isFree wsX0_isFree) := goodIn_app (goodIn_of _ (by decide +kernel)) ggX0_granulesFrom_X0_isFree
theorem dX0_granulesFrom_0 : decode cX0_granulesFrom 0 = .ok (.iconst 0, 1) := by decide +kernel
theorem dX0_granulesFrom_1 : decode cX0_granulesFrom 1 = .ok (.istore_n 3, 1) := by decide +kernel
theorem dX0_granulesFrom_2 : decode cX0_granulesFrom 2 = .ok (.iload_n 3, 1) := by decide +kernel
theorem dX0_granulesFrom_3 : decode cX0_granulesFrom 3 = .ok (.iload_n 2, 1) := by decide +kernel
theorem dX0_granulesFrom_4 : decode cX0_granulesFrom 4 = .ok (.if_icmp .ge 19, 3) := by decide +kernel
theorem dX0_granulesFrom_7 : decode cX0_granulesFrom 7 = .ok (.aload_n 0, 1) := by decide +kernel
theorem dX0_granulesFrom_8 : decode cX0_granulesFrom 8 = .ok (.iload_n 1, 1) := by decide +kernel
theorem dX0_granulesFrom_9 : decode cX0_granulesFrom 9 = .ok (.iload_n 3, 1) := by decide +kernel
theorem dX0_granulesFrom_10 : decode cX0_granulesFrom 10 = .ok (.iadd, 1) := by decide +kernel
theorem dX0_granulesFrom_11 : decode cX0_granulesFrom 11 = .ok (.invokevirtual 83, 3) := by decide +kernel
theorem dX0_granulesFrom_14 : decode cX0_granulesFrom 14 = .ok (.ifCond .eq 9, 3) := by decide +kernel
theorem dX0_granulesFrom_17 : decode cX0_granulesFrom 17 = .ok (.iinc 3 1, 3) := by decide +kernel
theorem dX0_granulesFrom_20 : decode cX0_granulesFrom 20 = .ok (.goto (-18), 3) := by decide +kernel
theorem dX0_granulesFrom_23 : decode cX0_granulesFrom 23 = .ok (.iload_n 3, 1) := by decide +kernel
theorem dX0_granulesFrom_24 : decode cX0_granulesFrom 24 = .ok (.ireturn, 1) := by decide +kernel
set_option maxRecDepth 20000 in
theorem ggX0_choosePiece_X0_isDue : GoodIn wsX0_choosePiece wsX0_isDue := goodIn_r _ [7, 8, 2, 1, 23, 24, 25, 26, 27, 28, 29, 30, 31] (by decide +kernel) (by decide +kernel)
set_option maxRecDepth 20000 in
theorem gX0_choosePiece_X0_isDue : GoodIn wsX0_choosePiece (wsV RX0 87 RX0 yX0_isDue wsX0_isDue) := goodIn_app (goodIn_of _ (by decide +kernel)) ggX0_choosePiece_X0_isDue
set_option maxRecDepth 20000 in
theorem ggX0_choosePiece_X0_isFree : GoodIn wsX0_choosePiece wsX0_isFree := goodIn_r _ [12, 1, 2, 13, 14, 15, 6, 16, 17, 18, 19, 20, 21, 22, 23, 24, 25, 26, 27, 28, 29, 30, 31] (by decide +kernel) (by decide +kernel)
set_option maxRecDepth 20000 in
theorem gX0_choosePiece_X0_isFree : GoodIn wsX0_choosePiece (wsV RX0 83 RX0 yX0_isFree wsX0_isFree) := goodIn_app (goodIn_of _ (by decide +kernel)) ggX0_choosePiece_X0_isFree
theorem dX0_choosePiece_0 : decode cX0_choosePiece 0 = .ok (.iconst (-1), 1) := by decide +kernel
theorem dX0_choosePiece_1 : decode cX0_choosePiece 1 = .ok (.istore_n 3, 1) := by decide +kernel
theorem dX0_choosePiece_2 : decode cX0_choosePiece 2 = .ok (.iconst 0, 1) := by decide +kernel
theorem dX0_choosePiece_3 : decode cX0_choosePiece 3 = .ok (.istore 4, 2) := by decide +kernel
theorem dX0_choosePiece_5 : decode cX0_choosePiece 5 = .ok (.iconst 0, 1) := by decide +kernel
theorem dX0_choosePiece_6 : decode cX0_choosePiece 6 = .ok (.istore 5, 2) := by decide +kernel
theorem dX0_choosePiece_8 : decode cX0_choosePiece 8 = .ok (.iconst 0, 1) := by decide +kernel
theorem dX0_choosePiece_9 : decode cX0_choosePiece 9 = .ok (.istore 6, 2) := by decide +kernel
theorem dX0_choosePiece_11 : decode cX0_choosePiece 11 = .ok (.sipush 256, 3) := by decide +kernel
theorem dX0_choosePiece_14 : decode cX0_choosePiece 14 = .ok (.aload_n 0, 1) := by decide +kernel
theorem dX0_choosePiece_15 : decode cX0_choosePiece 15 = .ok (.getfield 21, 3) := by decide +kernel
theorem dX0_choosePiece_18 : decode cX0_choosePiece 18 = .ok (.iconst 0, 1) := by decide +kernel
theorem dX0_choosePiece_19 : decode cX0_choosePiece 19 = .ok (.iaload, 1) := by decide +kernel
theorem dX0_choosePiece_20 : decode cX0_choosePiece 20 = .ok (.ishr, 1) := by decide +kernel
theorem dX0_choosePiece_21 : decode cX0_choosePiece 21 = .ok (.istore 7, 2) := by decide +kernel
theorem dX0_choosePiece_23 : decode cX0_choosePiece 23 = .ok (.iconst 0, 1) := by decide +kernel
theorem dX0_choosePiece_24 : decode cX0_choosePiece 24 = .ok (.istore 8, 2) := by decide +kernel
theorem dX0_choosePiece_26 : decode cX0_choosePiece 26 = .ok (.iload 8, 2) := by decide +kernel
theorem dX0_choosePiece_28 : decode cX0_choosePiece 28 = .ok (.iload 7, 2) := by decide +kernel
theorem dX0_choosePiece_30 : decode cX0_choosePiece 30 = .ok (.if_icmp .ge 125, 3) := by decide +kernel
theorem dX0_choosePiece_33 : decode cX0_choosePiece 33 = .ok (.iload 8, 2) := by decide +kernel
theorem dX0_choosePiece_35 : decode cX0_choosePiece 35 = .ok (.aload_n 0, 1) := by decide +kernel
theorem dX0_choosePiece_36 : decode cX0_choosePiece 36 = .ok (.getfield 21, 3) := by decide +kernel
theorem dX0_choosePiece_39 : decode cX0_choosePiece 39 = .ok (.iconst 0, 1) := by decide +kernel
theorem dX0_choosePiece_40 : decode cX0_choosePiece 40 = .ok (.iaload, 1) := by decide +kernel
theorem dX0_choosePiece_41 : decode cX0_choosePiece 41 = .ok (.ishl, 1) := by decide +kernel
theorem dX0_choosePiece_42 : decode cX0_choosePiece 42 = .ok (.istore 9, 2) := by decide +kernel
theorem dX0_choosePiece_44 : decode cX0_choosePiece 44 = .ok (.aload_n 0, 1) := by decide +kernel
theorem dX0_choosePiece_45 : decode cX0_choosePiece 45 = .ok (.getfield 9, 3) := by decide +kernel
theorem dX0_choosePiece_48 : decode cX0_choosePiece 48 = .ok (.iload 9, 2) := by decide +kernel
theorem dX0_choosePiece_50 : decode cX0_choosePiece 50 = .ok (.iaload, 1) := by decide +kernel
theorem dX0_choosePiece_51 : decode cX0_choosePiece 51 = .ok (.ifCond .lt 25, 3) := by decide +kernel
theorem dX0_choosePiece_54 : decode cX0_choosePiece 54 = .ok (.iload_n 1, 1) := by decide +kernel
theorem dX0_choosePiece_55 : decode cX0_choosePiece 55 = .ok (.ifCond .eq 12, 3) := by decide +kernel
theorem dX0_choosePiece_58 : decode cX0_choosePiece 58 = .ok (.aload_n 0, 1) := by decide +kernel
theorem dX0_choosePiece_59 : decode cX0_choosePiece 59 = .ok (.iload 9, 2) := by decide +kernel
theorem dX0_choosePiece_61 : decode cX0_choosePiece 61 = .ok (.invokevirtual 87, 3) := by decide +kernel
theorem dX0_choosePiece_64 : decode cX0_choosePiece 64 = .ok (.ifCond .eq 12, 3) := by decide +kernel
theorem dX0_choosePiece_67 : decode cX0_choosePiece 67 = .ok (.aload_n 0, 1) := by decide +kernel
theorem dX0_choosePiece_68 : decode cX0_choosePiece 68 = .ok (.iload 8, 2) := by decide +kernel
theorem dX0_choosePiece_70 : decode cX0_choosePiece 70 = .ok (.invokevirtual 83, 3) := by decide +kernel
theorem dX0_choosePiece_73 : decode cX0_choosePiece 73 = .ok (.ifCond .ne 9, 3) := by decide +kernel
theorem dX0_choosePiece_76 : decode cX0_choosePiece 76 = .ok (.iconst 0, 1) := by decide +kernel
theorem dX0_choosePiece_77 : decode cX0_choosePiece 77 = .ok (.istore 6, 2) := by decide +kernel
theorem dX0_choosePiece_79 : decode cX0_choosePiece 79 = .ok (.goto 70, 3) := by decide +kernel
theorem dX0_choosePiece_82 : decode cX0_choosePiece 82 = .ok (.iinc 6 1, 3) := by decide +kernel
theorem dX0_choosePiece_85 : decode cX0_choosePiece 85 = .ok (.iload_n 2, 1) := by decide +kernel
theorem dX0_choosePiece_86 : decode cX0_choosePiece 86 = .ok (.iconst 2, 1) := by decide +kernel
theorem dX0_choosePiece_87 : decode cX0_choosePiece 87 = .ok (.if_icmp .ne 6, 3) := by decide +kernel
theorem dX0_choosePiece_90 : decode cX0_choosePiece 90 = .ok (.iload 8, 2) := by decide +kernel
theorem dX0_choosePiece_92 : decode cX0_choosePiece 92 = .ok (.ireturn, 1) := by decide +kernel
theorem dX0_choosePiece_93 : decode cX0_choosePiece 93 = .ok (.iload_n 2, 1) := by decide +kernel
theorem dX0_choosePiece_94 : decode cX0_choosePiece 94 = .ok (.iconst 1, 1) := by decide +kernel
theorem dX0_choosePiece_95 : decode cX0_choosePiece 95 = .ok (.if_icmp .ne 25, 3) := by decide +kernel
theorem dX0_choosePiece_98 : decode cX0_choosePiece 98 = .ok (.iload 6, 2) := by decide +kernel
theorem dX0_choosePiece_100 : decode cX0_choosePiece 100 = .ok (.iload 5, 2) := by decide +kernel
theorem dX0_choosePiece_102 : decode cX0_choosePiece 102 = .ok (.if_icmp .le 47, 3) := by decide +kernel
theorem dX0_choosePiece_105 : decode cX0_choosePiece 105 = .ok (.iload 6, 2) := by decide +kernel
theorem dX0_choosePiece_107 : decode cX0_choosePiece 107 = .ok (.istore 5, 2) := by decide +kernel
theorem dX0_choosePiece_109 : decode cX0_choosePiece 109 = .ok (.iload 8, 2) := by decide +kernel
theorem dX0_choosePiece_111 : decode cX0_choosePiece 111 = .ok (.iload 6, 2) := by decide +kernel
theorem dX0_choosePiece_113 : decode cX0_choosePiece 113 = .ok (.isub, 1) := by decide +kernel
theorem dX0_choosePiece_114 : decode cX0_choosePiece 114 = .ok (.iconst 1, 1) := by decide +kernel
theorem dX0_choosePiece_115 : decode cX0_choosePiece 115 = .ok (.iadd, 1) := by decide +kernel
theorem dX0_choosePiece_116 : decode cX0_choosePiece 116 = .ok (.istore_n 3, 1) := by decide +kernel
theorem dX0_choosePiece_117 : decode cX0_choosePiece 117 = .ok (.goto 32, 3) := by decide +kernel
theorem dX0_choosePiece_120 : decode cX0_choosePiece 120 = .ok (.iload_n 3, 1) := by decide +kernel
theorem dX0_choosePiece_121 : decode cX0_choosePiece 121 = .ok (.iconst (-1), 1) := by decide +kernel
theorem dX0_choosePiece_122 : decode cX0_choosePiece 122 = .ok (.if_icmp .eq 15, 3) := by decide +kernel
theorem dX0_choosePiece_125 : decode cX0_choosePiece 125 = .ok (.aload_n 0, 1) := by decide +kernel
theorem dX0_choosePiece_126 : decode cX0_choosePiece 126 = .ok (.getfield 9, 3) := by decide +kernel
theorem dX0_choosePiece_129 : decode cX0_choosePiece 129 = .ok (.iload 9, 2) := by decide +kernel
theorem dX0_choosePiece_131 : decode cX0_choosePiece 131 = .ok (.iaload, 1) := by decide +kernel
theorem dX0_choosePiece_132 : decode cX0_choosePiece 132 = .ok (.iload 4, 2) := by decide +kernel
theorem dX0_choosePiece_134 : decode cX0_choosePiece 134 = .ok (.if_icmp .ge 15, 3) := by decide +kernel
theorem dX0_choosePiece_137 : decode cX0_choosePiece 137 = .ok (.aload_n 0, 1) := by decide +kernel
theorem dX0_choosePiece_138 : decode cX0_choosePiece 138 = .ok (.getfield 9, 3) := by decide +kernel
theorem dX0_choosePiece_141 : decode cX0_choosePiece 141 = .ok (.iload 9, 2) := by decide +kernel
theorem dX0_choosePiece_143 : decode cX0_choosePiece 143 = .ok (.iaload, 1) := by decide +kernel
theorem dX0_choosePiece_144 : decode cX0_choosePiece 144 = .ok (.istore 4, 2) := by decide +kernel
theorem dX0_choosePiece_146 : decode cX0_choosePiece 146 = .ok (.iload 8, 2) := by decide +kernel
theorem dX0_choosePiece_148 : decode cX0_choosePiece 148 = .ok (.istore_n 3, 1) := by decide +kernel
theorem dX0_choosePiece_149 : decode cX0_choosePiece 149 = .ok (.iinc 8 1, 3) := by decide +kernel
theorem dX0_choosePiece_152 : decode cX0_choosePiece 152 = .ok (.goto (-126), 3) := by decide +kernel
theorem dX0_choosePiece_155 : decode cX0_choosePiece 155 = .ok (.iload_n 3, 1) := by decide +kernel
theorem dX0_choosePiece_156 : decode cX0_choosePiece 156 = .ok (.ireturn, 1) := by decide +kernel
set_option maxRecDepth 20000 in
theorem ggX0_passTicks_X0_tick : GoodIn wsX0_passTicks wsX0_tick := goodIn_r _ [6, 7, 8, 9, 10, 11, 12, 5, 13, 14, 15, 16, 17, 18, 19, 20, 21, 22, 23, 24, 25, 26, 27, 28, 29, 30, 31, 32, 33, 34, 35, 36, 37, 38, 39, 40, 41, 42, 43, 44, 45, 46, 47, 48, 49, 50, 51, 52, 53, 1, 54, 55, 56, 57, 58, 59, 60, 61, 62, 63, 64, 65, 66, 67, 68, 69, 70, 71, 72, 73, 74, 75] (by decide +kernel) (by decide +kernel)
set_option maxRecDepth 20000 in
theorem gX0_passTicks_X0_tick : GoodIn wsX0_passTicks (wsV RX0 90 RX0 yX0_tick wsX0_tick) := goodIn_app (goodIn_of _ (by decide +kernel)) ggX0_passTicks_X0_tick
theorem dX0_passTicks_0 : decode cX0_passTicks 0 = .ok (.aload_n 0, 1) := by decide +kernel
theorem dX0_passTicks_1 : decode cX0_passTicks 1 = .ok (.getfield 52, 3) := by decide +kernel
theorem dX0_passTicks_4 : decode cX0_passTicks 4 = .ok (.istore_n 2, 1) := by decide +kernel
theorem dX0_passTicks_5 : decode cX0_passTicks 5 = .ok (.iconst 0, 1) := by decide +kernel
theorem dX0_passTicks_6 : decode cX0_passTicks 6 = .ok (.istore_n 3, 1) := by decide +kernel
theorem dX0_passTicks_7 : decode cX0_passTicks 7 = .ok (.iload_n 3, 1) := by decide +kernel
theorem dX0_passTicks_8 : decode cX0_passTicks 8 = .ok (.iload_n 1, 1) := by decide +kernel
theorem dX0_passTicks_9 : decode cX0_passTicks 9 = .ok (.if_icmp .ge 13, 3) := by decide +kernel
theorem dX0_passTicks_12 : decode cX0_passTicks 12 = .ok (.aload_n 0, 1) := by decide +kernel
theorem dX0_passTicks_13 : decode cX0_passTicks 13 = .ok (.invokevirtual 90, 3) := by decide +kernel
theorem dX0_passTicks_16 : decode cX0_passTicks 16 = .ok (.iinc 3 1, 3) := by decide +kernel
theorem dX0_passTicks_19 : decode cX0_passTicks 19 = .ok (.goto (-12), 3) := by decide +kernel
theorem dX0_passTicks_22 : decode cX0_passTicks 22 = .ok (.aload_n 0, 1) := by decide +kernel
theorem dX0_passTicks_23 : decode cX0_passTicks 23 = .ok (.getfield 52, 3) := by decide +kernel
theorem dX0_passTicks_26 : decode cX0_passTicks 26 = .ok (.iload_n 2, 1) := by decide +kernel
theorem dX0_passTicks_27 : decode cX0_passTicks 27 = .ok (.isub, 1) := by decide +kernel
theorem dX0_passTicks_28 : decode cX0_passTicks 28 = .ok (.ireturn, 1) := by decide +kernel
set_option maxRecDepth 20000 in
theorem ggX0_tick_X0_budgetOfTick : GoodIn wsX0_tick wsX0_budgetOfTick := goodIn_r _ [8, 3, 1, 63, 64, 65, 66, 67, 68, 69, 70, 71] (by decide +kernel) (by decide +kernel)
set_option maxRecDepth 20000 in
theorem gX0_tick_X0_budgetOfTick : GoodIn wsX0_tick (wsV RX0 93 RX0 yX0_budgetOfTick wsX0_budgetOfTick) := goodIn_app (goodIn_of _ (by decide +kernel)) ggX0_tick_X0_budgetOfTick
set_option maxRecDepth 20000 in
theorem ggX0_tick_X0_choosePiece : GoodIn wsX0_tick wsX0_choosePiece := goodIn_r _ [12, 1, 13, 14, 15, 16, 7, 17, 2, 18, 19, 20, 21, 22, 23, 24, 25, 26, 27, 28, 29, 30, 31, 63, 64, 65, 66, 67, 68, 69, 70, 71] (by decide +kernel) (by decide +kernel)
set_option maxRecDepth 20000 in
theorem gX0_tick_X0_choosePiece : GoodIn wsX0_tick (wsV RX0 96 RX0 yX0_choosePiece wsX0_choosePiece) := goodIn_app (goodIn_of _ (by decide +kernel)) ggX0_tick_X0_choosePiece
set_option maxRecDepth 20000 in
theorem ggX0_tick_X0_mostGranules : GoodIn wsX0_tick wsX0_mostGranules := goodIn_r _ [35, 1, 36, 37, 38, 39, 63, 64, 65, 66, 67, 68, 69, 70, 71] (by decide +kernel) (by decide +kernel)
set_option maxRecDepth 20000 in
theorem gX0_tick_X0_mostGranules : GoodIn wsX0_tick (wsV RX0 100 RX0 yX0_mostGranules wsX0_mostGranules) := goodIn_app (goodIn_of _ (by decide +kernel)) ggX0_tick_X0_mostGranules
set_option maxRecDepth 20000 in
theorem ggX0_tick_X0_granulesFrom : GoodIn wsX0_tick wsX0_granulesFrom := goodIn_r _ [43, 18, 19, 20, 7, 21, 1, 13, 22, 23, 24, 25, 26, 27, 28, 29, 30, 31, 63, 64, 65, 66, 67, 68, 69, 70, 71] (by decide +kernel) (by decide +kernel)
set_option maxRecDepth 20000 in
theorem gX0_tick_X0_granulesFrom : GoodIn wsX0_tick (wsV RX0 103 RX0 yX0_granulesFrom wsX0_granulesFrom) := goodIn_app (goodIn_of _ (by decide +kernel)) ggX0_tick_X0_granulesFrom
set_option maxRecDepth 20000 in
theorem ggX0_tick_X0_discard : GoodIn wsX0_tick wsX0_discard := goodIn_r _ [47, 1, 13, 48, 49, 50, 51, 52, 7, 53, 54, 55, 56, 57, 58, 59, 60, 61, 62, 63, 64, 65, 66, 67, 68, 69, 70, 71] (by decide +kernel) (by decide +kernel)
set_option maxRecDepth 20000 in
theorem gX0_tick_X0_discard : GoodIn wsX0_tick (wsV RX0 107 RX0 yX0_discard wsX0_discard) := goodIn_app (goodIn_of _ (by decide +kernel)) ggX0_tick_X0_discard
theorem dX0_tick_0 : decode cX0_tick 0 = .ok (.aload_n 0, 1) := by decide +kernel
theorem dX0_tick_1 : decode cX0_tick 1 = .ok (.invokevirtual 93, 3) := by decide +kernel
theorem dX0_tick_4 : decode cX0_tick 4 = .ok (.istore_n 1, 1) := by decide +kernel
theorem dX0_tick_5 : decode cX0_tick 5 = .ok (.iconst 0, 1) := by decide +kernel
theorem dX0_tick_6 : decode cX0_tick 6 = .ok (.istore_n 2, 1) := by decide +kernel
theorem dX0_tick_7 : decode cX0_tick 7 = .ok (.iload_n 2, 1) := by decide +kernel
theorem dX0_tick_8 : decode cX0_tick 8 = .ok (.sipush 256, 3) := by decide +kernel
theorem dX0_tick_11 : decode cX0_tick 11 = .ok (.if_icmp .ge 70, 3) := by decide +kernel
theorem dX0_tick_14 : decode cX0_tick 14 = .ok (.iload_n 1, 1) := by decide +kernel
theorem dX0_tick_15 : decode cX0_tick 15 = .ok (.aload_n 0, 1) := by decide +kernel
theorem dX0_tick_16 : decode cX0_tick 16 = .ok (.getfield 21, 3) := by decide +kernel
theorem dX0_tick_19 : decode cX0_tick 19 = .ok (.iconst 4, 1) := by decide +kernel
theorem dX0_tick_20 : decode cX0_tick 20 = .ok (.iaload, 1) := by decide +kernel
theorem dX0_tick_21 : decode cX0_tick 21 = .ok (.if_icmp .le 60, 3) := by decide +kernel
theorem dX0_tick_24 : decode cX0_tick 24 = .ok (.aload_n 0, 1) := by decide +kernel
theorem dX0_tick_25 : decode cX0_tick 25 = .ok (.iconst 1, 1) := by decide +kernel
theorem dX0_tick_26 : decode cX0_tick 26 = .ok (.aload_n 0, 1) := by decide +kernel
theorem dX0_tick_27 : decode cX0_tick 27 = .ok (.getfield 21, 3) := by decide +kernel
theorem dX0_tick_30 : decode cX0_tick 30 = .ok (.iconst 5, 1) := by decide +kernel
theorem dX0_tick_31 : decode cX0_tick 31 = .ok (.iaload, 1) := by decide +kernel
theorem dX0_tick_32 : decode cX0_tick 32 = .ok (.invokevirtual 96, 3) := by decide +kernel
theorem dX0_tick_35 : decode cX0_tick 35 = .ok (.istore_n 3, 1) := by decide +kernel
theorem dX0_tick_36 : decode cX0_tick 36 = .ok (.iload_n 3, 1) := by decide +kernel
theorem dX0_tick_37 : decode cX0_tick 37 = .ok (.iconst (-1), 1) := by decide +kernel
theorem dX0_tick_38 : decode cX0_tick 38 = .ok (.if_icmp .ne 6, 3) := by decide +kernel
theorem dX0_tick_41 : decode cX0_tick 41 = .ok (.goto 40, 3) := by decide +kernel
theorem dX0_tick_44 : decode cX0_tick 44 = .ok (.aload_n 0, 1) := by decide +kernel
theorem dX0_tick_45 : decode cX0_tick 45 = .ok (.iload_n 3, 1) := by decide +kernel
theorem dX0_tick_46 : decode cX0_tick 46 = .ok (.aload_n 0, 1) := by decide +kernel
theorem dX0_tick_47 : decode cX0_tick 47 = .ok (.iload_n 1, 1) := by decide +kernel
theorem dX0_tick_48 : decode cX0_tick 48 = .ok (.invokevirtual 100, 3) := by decide +kernel
theorem dX0_tick_51 : decode cX0_tick 51 = .ok (.invokevirtual 103, 3) := by decide +kernel
theorem dX0_tick_54 : decode cX0_tick 54 = .ok (.istore 4, 2) := by decide +kernel
theorem dX0_tick_56 : decode cX0_tick 56 = .ok (.aload_n 0, 1) := by decide +kernel
theorem dX0_tick_57 : decode cX0_tick 57 = .ok (.iload_n 3, 1) := by decide +kernel
theorem dX0_tick_58 : decode cX0_tick 58 = .ok (.iload 4, 2) := by decide +kernel
theorem dX0_tick_60 : decode cX0_tick 60 = .ok (.invokevirtual 107, 3) := by decide +kernel
theorem dX0_tick_63 : decode cX0_tick 63 = .ok (.iload_n 1, 1) := by decide +kernel
theorem dX0_tick_64 : decode cX0_tick 64 = .ok (.aload_n 0, 1) := by decide +kernel
theorem dX0_tick_65 : decode cX0_tick 65 = .ok (.getfield 21, 3) := by decide +kernel
theorem dX0_tick_68 : decode cX0_tick 68 = .ok (.iconst 4, 1) := by decide +kernel
theorem dX0_tick_69 : decode cX0_tick 69 = .ok (.iaload, 1) := by decide +kernel
theorem dX0_tick_70 : decode cX0_tick 70 = .ok (.iload 4, 2) := by decide +kernel
theorem dX0_tick_72 : decode cX0_tick 72 = .ok (.iadd, 1) := by decide +kernel
theorem dX0_tick_73 : decode cX0_tick 73 = .ok (.isub, 1) := by decide +kernel
theorem dX0_tick_74 : decode cX0_tick 74 = .ok (.istore_n 1, 1) := by decide +kernel
theorem dX0_tick_75 : decode cX0_tick 75 = .ok (.iinc 2 1, 3) := by decide +kernel
theorem dX0_tick_78 : decode cX0_tick 78 = .ok (.goto (-71), 3) := by decide +kernel
theorem dX0_tick_81 : decode cX0_tick 81 = .ok (.aload_n 0, 1) := by decide +kernel
theorem dX0_tick_82 : decode cX0_tick 82 = .ok (.dup, 1) := by decide +kernel
theorem dX0_tick_83 : decode cX0_tick 83 = .ok (.getfield 42, 3) := by decide +kernel
theorem dX0_tick_86 : decode cX0_tick 86 = .ok (.iconst 1, 1) := by decide +kernel
theorem dX0_tick_87 : decode cX0_tick 87 = .ok (.iadd, 1) := by decide +kernel
theorem dX0_tick_88 : decode cX0_tick 88 = .ok (.putfield 42, 3) := by decide +kernel
theorem dX0_tick_91 : decode cX0_tick 91 = .ok (.aload_n 0, 1) := by decide +kernel
theorem dX0_tick_92 : decode cX0_tick 92 = .ok (.dup, 1) := by decide +kernel
theorem dX0_tick_93 : decode cX0_tick 93 = .ok (.getfield 46, 3) := by decide +kernel
theorem dX0_tick_96 : decode cX0_tick 96 = .ok (.iconst 1, 1) := by decide +kernel
theorem dX0_tick_97 : decode cX0_tick 97 = .ok (.iadd, 1) := by decide +kernel
theorem dX0_tick_98 : decode cX0_tick 98 = .ok (.putfield 46, 3) := by decide +kernel
theorem dX0_tick_101 : decode cX0_tick 101 = .ok (.return_, 1) := by decide +kernel
theorem dX0_budgetOfTick_0 : decode cX0_budgetOfTick 0 = .ok (.aload_n 0, 1) := by decide +kernel
theorem dX0_budgetOfTick_1 : decode cX0_budgetOfTick 1 = .ok (.getfield 46, 3) := by decide +kernel
theorem dX0_budgetOfTick_4 : decode cX0_budgetOfTick 4 = .ok (.aload_n 0, 1) := by decide +kernel
theorem dX0_budgetOfTick_5 : decode cX0_budgetOfTick 5 = .ok (.getfield 21, 3) := by decide +kernel
theorem dX0_budgetOfTick_8 : decode cX0_budgetOfTick 8 = .ok (.iconst 1, 1) := by decide +kernel
theorem dX0_budgetOfTick_9 : decode cX0_budgetOfTick 9 = .ok (.iaload, 1) := by decide +kernel
theorem dX0_budgetOfTick_10 : decode cX0_budgetOfTick 10 = .ok (.if_icmp .lt 12, 3) := by decide +kernel
theorem dX0_budgetOfTick_13 : decode cX0_budgetOfTick 13 = .ok (.aload_n 0, 1) := by decide +kernel
theorem dX0_budgetOfTick_14 : decode cX0_budgetOfTick 14 = .ok (.getfield 21, 3) := by decide +kernel
theorem dX0_budgetOfTick_17 : decode cX0_budgetOfTick 17 = .ok (.iconst 2, 1) := by decide +kernel
theorem dX0_budgetOfTick_18 : decode cX0_budgetOfTick 18 = .ok (.iaload, 1) := by decide +kernel
theorem dX0_budgetOfTick_19 : decode cX0_budgetOfTick 19 = .ok (.goto 4, 3) := by decide +kernel
theorem dX0_budgetOfTick_22 : decode cX0_budgetOfTick 22 = .ok (.iconst 0, 1) := by decide +kernel
theorem dX0_budgetOfTick_23 : decode cX0_budgetOfTick 23 = .ok (.ireturn, 1) := by decide +kernel
theorem dX0_mostGranules_0 : decode cX0_mostGranules 0 = .ok (.bipush 16, 2) := by decide +kernel
theorem dX0_mostGranules_2 : decode cX0_mostGranules 2 = .ok (.iload_n 1, 1) := by decide +kernel
theorem dX0_mostGranules_3 : decode cX0_mostGranules 3 = .ok (.aload_n 0, 1) := by decide +kernel
theorem dX0_mostGranules_4 : decode cX0_mostGranules 4 = .ok (.getfield 21, 3) := by decide +kernel
theorem dX0_mostGranules_7 : decode cX0_mostGranules 7 = .ok (.iconst 4, 1) := by decide +kernel
theorem dX0_mostGranules_8 : decode cX0_mostGranules 8 = .ok (.iaload, 1) := by decide +kernel
theorem dX0_mostGranules_9 : decode cX0_mostGranules 9 = .ok (.isub, 1) := by decide +kernel
theorem dX0_mostGranules_10 : decode cX0_mostGranules 10 = .ok (.invokestatic 111, 3) := by decide +kernel
theorem dX0_mostGranules_13 : decode cX0_mostGranules 13 = .ok (.ireturn, 1) := by decide +kernel
set_option maxRecDepth 20000 in
theorem ggX0_pieceOfTick_X0_budgetOfTick : GoodIn wsX0_pieceOfTick wsX0_budgetOfTick := goodIn_r _ [6, 7, 1, 32, 33, 34, 35, 36, 37, 38, 39, 40] (by decide +kernel) (by decide +kernel)
set_option maxRecDepth 20000 in
theorem gX0_pieceOfTick_X0_budgetOfTick : GoodIn wsX0_pieceOfTick (wsV RX0 93 RX0 yX0_budgetOfTick wsX0_budgetOfTick) := goodIn_app (goodIn_of _ (by decide +kernel)) ggX0_pieceOfTick_X0_budgetOfTick
set_option maxRecDepth 20000 in
theorem ggX0_pieceOfTick_X0_choosePiece : GoodIn wsX0_pieceOfTick wsX0_choosePiece := goodIn_r _ [11, 1, 12, 13, 14, 15, 5, 16, 17, 18, 19, 20, 21, 22, 23, 24, 25, 26, 27, 28, 29, 30, 31, 32, 33, 34, 35, 36, 37, 38, 39, 40] (by decide +kernel) (by decide +kernel)
set_option maxRecDepth 20000 in
theorem gX0_pieceOfTick_X0_choosePiece : GoodIn wsX0_pieceOfTick (wsV RX0 96 RX0 yX0_choosePiece wsX0_choosePiece) := goodIn_app (goodIn_of _ (by decide +kernel)) ggX0_pieceOfTick_X0_choosePiece
theorem dX0_pieceOfTick_0 : decode cX0_pieceOfTick 0 = .ok (.aload_n 0, 1) := by decide +kernel
theorem dX0_pieceOfTick_1 : decode cX0_pieceOfTick 1 = .ok (.invokevirtual 93, 3) := by decide +kernel
theorem dX0_pieceOfTick_4 : decode cX0_pieceOfTick 4 = .ok (.aload_n 0, 1) := by decide +kernel
theorem dX0_pieceOfTick_5 : decode cX0_pieceOfTick 5 = .ok (.getfield 21, 3) := by decide +kernel
theorem dX0_pieceOfTick_8 : decode cX0_pieceOfTick 8 = .ok (.iconst 4, 1) := by decide +kernel
theorem dX0_pieceOfTick_9 : decode cX0_pieceOfTick 9 = .ok (.iaload, 1) := by decide +kernel
theorem dX0_pieceOfTick_10 : decode cX0_pieceOfTick 10 = .ok (.if_icmp .le 17, 3) := by decide +kernel
theorem dX0_pieceOfTick_13 : decode cX0_pieceOfTick 13 = .ok (.aload_n 0, 1) := by decide +kernel
theorem dX0_pieceOfTick_14 : decode cX0_pieceOfTick 14 = .ok (.iconst 1, 1) := by decide +kernel
theorem dX0_pieceOfTick_15 : decode cX0_pieceOfTick 15 = .ok (.aload_n 0, 1) := by decide +kernel
theorem dX0_pieceOfTick_16 : decode cX0_pieceOfTick 16 = .ok (.getfield 21, 3) := by decide +kernel
theorem dX0_pieceOfTick_19 : decode cX0_pieceOfTick 19 = .ok (.iconst 5, 1) := by decide +kernel
theorem dX0_pieceOfTick_20 : decode cX0_pieceOfTick 20 = .ok (.iaload, 1) := by decide +kernel
theorem dX0_pieceOfTick_21 : decode cX0_pieceOfTick 21 = .ok (.invokevirtual 96, 3) := by decide +kernel
theorem dX0_pieceOfTick_24 : decode cX0_pieceOfTick 24 = .ok (.goto 4, 3) := by decide +kernel
theorem dX0_pieceOfTick_27 : decode cX0_pieceOfTick 27 = .ok (.iconst (-1), 1) := by decide +kernel
theorem dX0_pieceOfTick_28 : decode cX0_pieceOfTick 28 = .ok (.ireturn, 1) := by decide +kernel
set_option maxRecDepth 20000 in
theorem ggX0_granulesOfTick_X0_budgetOfTick : GoodIn wsX0_granulesOfTick wsX0_budgetOfTick := goodIn_r _ [5, 6, 7, 35, 36, 37, 38, 39, 40, 41, 42, 43] (by decide +kernel) (by decide +kernel)
set_option maxRecDepth 20000 in
theorem gX0_granulesOfTick_X0_budgetOfTick : GoodIn wsX0_granulesOfTick (wsV RX0 93 RX0 yX0_budgetOfTick wsX0_budgetOfTick) := goodIn_app (goodIn_of _ (by decide +kernel)) ggX0_granulesOfTick_X0_budgetOfTick
set_option maxRecDepth 20000 in
theorem ggX0_granulesOfTick_X0_mostGranules : GoodIn wsX0_granulesOfTick wsX0_mostGranules := goodIn_r _ [11, 7, 12, 13, 14, 15, 35, 36, 37, 38, 39, 40, 41, 42, 43] (by decide +kernel) (by decide +kernel)
set_option maxRecDepth 20000 in
theorem gX0_granulesOfTick_X0_mostGranules : GoodIn wsX0_granulesOfTick (wsV RX0 100 RX0 yX0_mostGranules wsX0_mostGranules) := goodIn_app (goodIn_of _ (by decide +kernel)) ggX0_granulesOfTick_X0_mostGranules
set_option maxRecDepth 20000 in
theorem ggX0_granulesOfTick_X0_granulesFrom : GoodIn wsX0_granulesOfTick wsX0_granulesFrom := goodIn_r _ [19, 20, 21, 22, 4, 23, 7, 24, 25, 26, 27, 28, 29, 30, 31, 32, 33, 34, 35, 36, 37, 38, 39, 40, 41, 42, 43] (by decide +kernel) (by decide +kernel)
set_option maxRecDepth 20000 in
theorem gX0_granulesOfTick_X0_granulesFrom : GoodIn wsX0_granulesOfTick (wsV RX0 103 RX0 yX0_granulesFrom wsX0_granulesFrom) := goodIn_app (goodIn_of _ (by decide +kernel)) ggX0_granulesOfTick_X0_granulesFrom
theorem dX0_granulesOfTick_0 : decode cX0_granulesOfTick 0 = .ok (.aload_n 0, 1) := by decide +kernel
theorem dX0_granulesOfTick_1 : decode cX0_granulesOfTick 1 = .ok (.iload_n 1, 1) := by decide +kernel
theorem dX0_granulesOfTick_2 : decode cX0_granulesOfTick 2 = .ok (.aload_n 0, 1) := by decide +kernel
theorem dX0_granulesOfTick_3 : decode cX0_granulesOfTick 3 = .ok (.aload_n 0, 1) := by decide +kernel
theorem dX0_granulesOfTick_4 : decode cX0_granulesOfTick 4 = .ok (.invokevirtual 93, 3) := by decide +kernel
theorem dX0_granulesOfTick_7 : decode cX0_granulesOfTick 7 = .ok (.invokevirtual 100, 3) := by decide +kernel
theorem dX0_granulesOfTick_10 : decode cX0_granulesOfTick 10 = .ok (.invokevirtual 103, 3) := by decide +kernel
theorem dX0_granulesOfTick_13 : decode cX0_granulesOfTick 13 = .ok (.ireturn, 1) := by decide +kernel
set_option maxRecDepth 20000 in
theorem ggX0_sendAll_X0_choosePiece : GoodIn wsX0_sendAll wsX0_choosePiece := goodIn_r _ [6, 7, 8, 9, 10, 11, 5, 12, 13, 14, 15, 16, 17, 18, 19, 20, 21, 22, 23, 24, 25, 26, 27, 50, 51, 52, 53, 54, 55, 56, 57, 58] (by decide +kernel) (by decide +kernel)
set_option maxRecDepth 20000 in
theorem gX0_sendAll_X0_choosePiece : GoodIn wsX0_sendAll (wsV RX0 96 RX0 yX0_choosePiece wsX0_choosePiece) := goodIn_app (goodIn_of _ (by decide +kernel)) ggX0_sendAll_X0_choosePiece
set_option maxRecDepth 20000 in
theorem ggX0_sendAll_X0_granulesFrom : GoodIn wsX0_sendAll wsX0_granulesFrom := goodIn_r _ [31, 14, 15, 16, 5, 17, 7, 8, 18, 19, 20, 21, 22, 23, 24, 25, 26, 27, 50, 51, 52, 53, 54, 55, 56, 57, 58] (by decide +kernel) (by decide +kernel)
set_option maxRecDepth 20000 in
theorem gX0_sendAll_X0_granulesFrom : GoodIn wsX0_sendAll (wsV RX0 103 RX0 yX0_granulesFrom wsX0_granulesFrom) := goodIn_app (goodIn_of _ (by decide +kernel)) ggX0_sendAll_X0_granulesFrom
set_option maxRecDepth 20000 in
theorem ggX0_sendAll_X0_discard : GoodIn wsX0_sendAll wsX0_discard := goodIn_r _ [35, 7, 8, 1, 36, 37, 38, 39, 5, 40, 41, 42, 43, 44, 45, 46, 47, 48, 49, 50, 51, 52, 53, 54, 55, 56, 57, 58] (by decide +kernel) (by decide +kernel)
set_option maxRecDepth 20000 in
theorem gX0_sendAll_X0_discard : GoodIn wsX0_sendAll (wsV RX0 107 RX0 yX0_discard wsX0_discard) := goodIn_app (goodIn_of _ (by decide +kernel)) ggX0_sendAll_X0_discard
theorem dX0_sendAll_0 : decode cX0_sendAll 0 = .ok (.aload_n 0, 1) := by decide +kernel
theorem dX0_sendAll_1 : decode cX0_sendAll 1 = .ok (.getfield 49, 3) := by decide +kernel
theorem dX0_sendAll_4 : decode cX0_sendAll 4 = .ok (.istore_n 1, 1) := by decide +kernel
theorem dX0_sendAll_5 : decode cX0_sendAll 5 = .ok (.iconst 0, 1) := by decide +kernel
theorem dX0_sendAll_6 : decode cX0_sendAll 6 = .ok (.istore_n 2, 1) := by decide +kernel
theorem dX0_sendAll_7 : decode cX0_sendAll 7 = .ok (.iload_n 2, 1) := by decide +kernel
theorem dX0_sendAll_8 : decode cX0_sendAll 8 = .ok (.sipush 256, 3) := by decide +kernel
theorem dX0_sendAll_11 : decode cX0_sendAll 11 = .ok (.if_icmp .ge 36, 3) := by decide +kernel
theorem dX0_sendAll_14 : decode cX0_sendAll 14 = .ok (.aload_n 0, 1) := by decide +kernel
theorem dX0_sendAll_15 : decode cX0_sendAll 15 = .ok (.iconst 0, 1) := by decide +kernel
theorem dX0_sendAll_16 : decode cX0_sendAll 16 = .ok (.iconst 2, 1) := by decide +kernel
theorem dX0_sendAll_17 : decode cX0_sendAll 17 = .ok (.invokevirtual 96, 3) := by decide +kernel
theorem dX0_sendAll_20 : decode cX0_sendAll 20 = .ok (.istore_n 3, 1) := by decide +kernel
theorem dX0_sendAll_21 : decode cX0_sendAll 21 = .ok (.iload_n 3, 1) := by decide +kernel
theorem dX0_sendAll_22 : decode cX0_sendAll 22 = .ok (.iconst (-1), 1) := by decide +kernel
theorem dX0_sendAll_23 : decode cX0_sendAll 23 = .ok (.if_icmp .ne 6, 3) := by decide +kernel
theorem dX0_sendAll_26 : decode cX0_sendAll 26 = .ok (.goto 21, 3) := by decide +kernel
theorem dX0_sendAll_29 : decode cX0_sendAll 29 = .ok (.aload_n 0, 1) := by decide +kernel
theorem dX0_sendAll_30 : decode cX0_sendAll 30 = .ok (.iload_n 3, 1) := by decide +kernel
theorem dX0_sendAll_31 : decode cX0_sendAll 31 = .ok (.aload_n 0, 1) := by decide +kernel
theorem dX0_sendAll_32 : decode cX0_sendAll 32 = .ok (.iload_n 3, 1) := by decide +kernel
theorem dX0_sendAll_33 : decode cX0_sendAll 33 = .ok (.bipush 16, 2) := by decide +kernel
theorem dX0_sendAll_35 : decode cX0_sendAll 35 = .ok (.invokevirtual 103, 3) := by decide +kernel
theorem dX0_sendAll_38 : decode cX0_sendAll 38 = .ok (.invokevirtual 107, 3) := by decide +kernel
theorem dX0_sendAll_41 : decode cX0_sendAll 41 = .ok (.iinc 2 1, 3) := by decide +kernel
theorem dX0_sendAll_44 : decode cX0_sendAll 44 = .ok (.goto (-37), 3) := by decide +kernel
theorem dX0_sendAll_47 : decode cX0_sendAll 47 = .ok (.aload_n 0, 1) := by decide +kernel
theorem dX0_sendAll_48 : decode cX0_sendAll 48 = .ok (.getfield 49, 3) := by decide +kernel
theorem dX0_sendAll_51 : decode cX0_sendAll 51 = .ok (.iload_n 1, 1) := by decide +kernel
theorem dX0_sendAll_52 : decode cX0_sendAll 52 = .ok (.isub, 1) := by decide +kernel
theorem dX0_sendAll_53 : decode cX0_sendAll 53 = .ok (.ireturn, 1) := by decide +kernel
set_option maxRecDepth 20000 in
theorem ggX0_discard_X0_dropSurplus : GoodIn wsX0_discard wsX0_dropSurplus := goodIn_r _ [9, 2, 10, 11, 12, 13, 8, 14, 15, 16, 17, 18, 19, 20, 21, 22, 23, 24, 25, 26, 27] (by decide +kernel) (by decide +kernel)
set_option maxRecDepth 20000 in
theorem gX0_discard_X0_dropSurplus : GoodIn wsX0_discard (wsV RX0 58 RX0 yX0_dropSurplus wsX0_dropSurplus) := goodIn_app (goodIn_of _ (by decide +kernel)) ggX0_discard_X0_dropSurplus
theorem dX0_discard_0 : decode cX0_discard 0 = .ok (.iload_n 1, 1) := by decide +kernel
theorem dX0_discard_1 : decode cX0_discard 1 = .ok (.aload_n 0, 1) := by decide +kernel
theorem dX0_discard_2 : decode cX0_discard 2 = .ok (.getfield 21, 3) := by decide +kernel
theorem dX0_discard_5 : decode cX0_discard 5 = .ok (.iconst 0, 1) := by decide +kernel
theorem dX0_discard_6 : decode cX0_discard 6 = .ok (.iaload, 1) := by decide +kernel
theorem dX0_discard_7 : decode cX0_discard 7 = .ok (.ishl, 1) := by decide +kernel
theorem dX0_discard_8 : decode cX0_discard 8 = .ok (.istore_n 3, 1) := by decide +kernel
theorem dX0_discard_9 : decode cX0_discard 9 = .ok (.iload_n 2, 1) := by decide +kernel
theorem dX0_discard_10 : decode cX0_discard 10 = .ok (.aload_n 0, 1) := by decide +kernel
theorem dX0_discard_11 : decode cX0_discard 11 = .ok (.getfield 21, 3) := by decide +kernel
theorem dX0_discard_14 : decode cX0_discard 14 = .ok (.iconst 0, 1) := by decide +kernel
theorem dX0_discard_15 : decode cX0_discard 15 = .ok (.iaload, 1) := by decide +kernel
theorem dX0_discard_16 : decode cX0_discard 16 = .ok (.ishl, 1) := by decide +kernel
theorem dX0_discard_17 : decode cX0_discard 17 = .ok (.istore 4, 2) := by decide +kernel
theorem dX0_discard_19 : decode cX0_discard 19 = .ok (.iload_n 3, 1) := by decide +kernel
theorem dX0_discard_20 : decode cX0_discard 20 = .ok (.istore 5, 2) := by decide +kernel
theorem dX0_discard_22 : decode cX0_discard 22 = .ok (.iload 5, 2) := by decide +kernel
theorem dX0_discard_24 : decode cX0_discard 24 = .ok (.iload_n 3, 1) := by decide +kernel
theorem dX0_discard_25 : decode cX0_discard 25 = .ok (.iload 4, 2) := by decide +kernel
theorem dX0_discard_27 : decode cX0_discard 27 = .ok (.iadd, 1) := by decide +kernel
theorem dX0_discard_28 : decode cX0_discard 28 = .ok (.if_icmp .ge 17, 3) := by decide +kernel
theorem dX0_discard_31 : decode cX0_discard 31 = .ok (.aload_n 0, 1) := by decide +kernel
theorem dX0_discard_32 : decode cX0_discard 32 = .ok (.getfield 9, 3) := by decide +kernel
theorem dX0_discard_35 : decode cX0_discard 35 = .ok (.iload 5, 2) := by decide +kernel
theorem dX0_discard_37 : decode cX0_discard 37 = .ok (.iconst (-1), 1) := by decide +kernel
theorem dX0_discard_38 : decode cX0_discard 38 = .ok (.iastore, 1) := by decide +kernel
theorem dX0_discard_39 : decode cX0_discard 39 = .ok (.iinc 5 1, 3) := by decide +kernel
theorem dX0_discard_42 : decode cX0_discard 42 = .ok (.goto (-20), 3) := by decide +kernel
theorem dX0_discard_45 : decode cX0_discard 45 = .ok (.aload_n 0, 1) := by decide +kernel
theorem dX0_discard_46 : decode cX0_discard 46 = .ok (.dup, 1) := by decide +kernel
theorem dX0_discard_47 : decode cX0_discard 47 = .ok (.getfield 49, 3) := by decide +kernel
theorem dX0_discard_50 : decode cX0_discard 50 = .ok (.iconst 1, 1) := by decide +kernel
theorem dX0_discard_51 : decode cX0_discard 51 = .ok (.iadd, 1) := by decide +kernel
theorem dX0_discard_52 : decode cX0_discard 52 = .ok (.putfield 49, 3) := by decide +kernel
theorem dX0_discard_55 : decode cX0_discard 55 = .ok (.aload_n 0, 1) := by decide +kernel
theorem dX0_discard_56 : decode cX0_discard 56 = .ok (.dup, 1) := by decide +kernel
theorem dX0_discard_57 : decode cX0_discard 57 = .ok (.getfield 52, 3) := by decide +kernel
theorem dX0_discard_60 : decode cX0_discard 60 = .ok (.iload 4, 2) := by decide +kernel
theorem dX0_discard_62 : decode cX0_discard 62 = .ok (.iadd, 1) := by decide +kernel
theorem dX0_discard_63 : decode cX0_discard 63 = .ok (.putfield 52, 3) := by decide +kernel
theorem dX0_discard_66 : decode cX0_discard 66 = .ok (.aload_n 0, 1) := by decide +kernel
theorem dX0_discard_67 : decode cX0_discard 67 = .ok (.invokevirtual 58, 3) := by decide +kernel
theorem dX0_discard_70 : decode cX0_discard 70 = .ok (.return_, 1) := by decide +kernel
