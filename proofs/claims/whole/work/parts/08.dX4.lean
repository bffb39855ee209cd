set_option maxRecDepth 20000 in
theorem ggX4_init_X4_begin : GoodIn wsX4_init wsX4_begin := goodIn_r _ [15] (by decide +kernel) (by decide +kernel)
set_option maxRecDepth 20000 in
theorem gX4_init_X4_begin : GoodIn wsX4_init (va_wsS RX4 29 yX4_begin wsX4_begin) := goodIn_app (goodIn_of _ (by decide +kernel)) ggX4_init_X4_begin
theorem dX4_init_0 : decode cX4_init 0 = .ok (.aload_n 0, 1) := by decide +kernel
theorem dX4_init_1 : decode cX4_init 1 = .ok (.invokespecial 1, 3) := by decide +kernel
theorem dX4_init_4 : decode cX4_init 4 = .ok (.aload_n 0, 1) := by decide +kernel
theorem dX4_init_5 : decode cX4_init 5 = .ok (.bipush 120, 2) := by decide +kernel
theorem dX4_init_7 : decode cX4_init 7 = .ok (.newarray .int, 2) := by decide +kernel
theorem dX4_init_9 : decode cX4_init 9 = .ok (.putfield 7, 3) := by decide +kernel
theorem dX4_init_12 : decode cX4_init 12 = .ok (.aload_n 0, 1) := by decide +kernel
theorem dX4_init_13 : decode cX4_init 13 = .ok (.sipush 785, 3) := by decide +kernel
theorem dX4_init_16 : decode cX4_init 16 = .ok (.newarray .int, 2) := by decide +kernel
theorem dX4_init_18 : decode cX4_init 18 = .ok (.putfield 13, 3) := by decide +kernel
theorem dX4_init_21 : decode cX4_init 21 = .ok (.aload_n 0, 1) := by decide +kernel
theorem dX4_init_22 : decode cX4_init 22 = .ok (.sipush 785, 3) := by decide +kernel
theorem dX4_init_25 : decode cX4_init 25 = .ok (.newarray .int, 2) := by decide +kernel
theorem dX4_init_27 : decode cX4_init 27 = .ok (.putfield 16, 3) := by decide +kernel
theorem dX4_init_30 : decode cX4_init 30 = .ok (.aload_n 0, 1) := by decide +kernel
theorem dX4_init_31 : decode cX4_init 31 = .ok (.sipush 10990, 3) := by decide +kernel
theorem dX4_init_34 : decode cX4_init 34 = .ok (.newarray .int, 2) := by decide +kernel
theorem dX4_init_36 : decode cX4_init 36 = .ok (.putfield 19, 3) := by decide +kernel
theorem dX4_init_39 : decode cX4_init 39 = .ok (.aload_n 0, 1) := by decide +kernel
theorem dX4_init_40 : decode cX4_init 40 = .ok (.sipush 1570, 3) := by decide +kernel
theorem dX4_init_43 : decode cX4_init 43 = .ok (.newarray .int, 2) := by decide +kernel
theorem dX4_init_45 : decode cX4_init 45 = .ok (.putfield 22, 3) := by decide +kernel
theorem dX4_init_48 : decode cX4_init 48 = .ok (.aload_n 0, 1) := by decide +kernel
theorem dX4_init_49 : decode cX4_init 49 = .ok (.iconst 2, 1) := by decide +kernel
theorem dX4_init_50 : decode cX4_init 50 = .ok (.newarray .boolean, 2) := by decide +kernel
theorem dX4_init_52 : decode cX4_init 52 = .ok (.putfield 25, 3) := by decide +kernel
theorem dX4_init_55 : decode cX4_init 55 = .ok (.aload_n 0, 1) := by decide +kernel
theorem dX4_init_56 : decode cX4_init 56 = .ok (.getfield 13, 3) := by decide +kernel
theorem dX4_init_59 : decode cX4_init 59 = .ok (.invokestatic 29, 3) := by decide +kernel
theorem dX4_init_62 : decode cX4_init 62 = .ok (.return_, 1) := by decide +kernel
theorem dX4_thrown_0 : decode cX4_thrown 0 = .ok (.aload_n 0, 1) := by decide +kernel
theorem dX4_thrown_1 : decode cX4_thrown 1 = .ok (.getfield 33, 3) := by decide +kernel
theorem dX4_thrown_4 : decode cX4_thrown 4 = .ok (.ireturn, 1) := by decide +kernel
theorem dX4_refused_0 : decode cX4_refused 0 = .ok (.aload_n 0, 1) := by decide +kernel
theorem dX4_refused_1 : decode cX4_refused 1 = .ok (.iload_n 1, 1) := by decide +kernel
theorem dX4_refused_2 : decode cX4_refused 2 = .ok (.putfield 33, 3) := by decide +kernel
theorem dX4_refused_5 : decode cX4_refused 5 = .ok (.iload_n 1, 1) := by decide +kernel
theorem dX4_refused_6 : decode cX4_refused 6 = .ok (.ifCond .le 7, 3) := by decide +kernel
theorem dX4_refused_9 : decode cX4_refused 9 = .ok (.iconst 1, 1) := by decide +kernel
theorem dX4_refused_10 : decode cX4_refused 10 = .ok (.goto 4, 3) := by decide +kernel
theorem dX4_refused_13 : decode cX4_refused 13 = .ok (.iconst 0, 1) := by decide +kernel
theorem dX4_refused_14 : decode cX4_refused 14 = .ok (.ireturn, 1) := by decide +kernel
theorem dX4_in_0 : decode cX4_in 0 = .ok (.lload_n 0, 1) := by decide +kernel
theorem dX4_in_1 : decode cX4_in 1 = .ok (.lload_n 2, 1) := by decide +kernel
theorem dX4_in_2 : decode cX4_in 2 = .ok (.lcmp, 1) := by decide +kernel
theorem dX4_in_3 : decode cX4_in 3 = .ok (.ifCond .lt 14, 3) := by decide +kernel
theorem dX4_in_6 : decode cX4_in 6 = .ok (.lload_n 0, 1) := by decide +kernel
theorem dX4_in_7 : decode cX4_in 7 = .ok (.lload 4, 2) := by decide +kernel
theorem dX4_in_9 : decode cX4_in 9 = .ok (.lcmp, 1) := by decide +kernel
theorem dX4_in_10 : decode cX4_in 10 = .ok (.ifCond .gt 7, 3) := by decide +kernel
theorem dX4_in_13 : decode cX4_in 13 = .ok (.iconst 1, 1) := by decide +kernel
theorem dX4_in_14 : decode cX4_in 14 = .ok (.goto 4, 3) := by decide +kernel
theorem dX4_in_17 : decode cX4_in 17 = .ok (.iconst 0, 1) := by decide +kernel
theorem dX4_in_18 : decode cX4_in 18 = .ok (.ireturn, 1) := by decide +kernel
theorem dX4_copyState_0 : decode cX4_copyState 0 = .ok (.iconst 0, 1) := by decide +kernel
theorem dX4_copyState_1 : decode cX4_copyState 1 = .ok (.istore 4, 2) := by decide +kernel
theorem dX4_copyState_3 : decode cX4_copyState 3 = .ok (.iload 4, 2) := by decide +kernel
theorem dX4_copyState_5 : decode cX4_copyState 5 = .ok (.sipush 785, 3) := by decide +kernel
theorem dX4_copyState_8 : decode cX4_copyState 8 = .ok (.if_icmp .ge 21, 3) := by decide +kernel
theorem dX4_copyState_11 : decode cX4_copyState 11 = .ok (.aload_n 2, 1) := by decide +kernel
theorem dX4_copyState_12 : decode cX4_copyState 12 = .ok (.iload_n 3, 1) := by decide +kernel
theorem dX4_copyState_13 : decode cX4_copyState 13 = .ok (.iload 4, 2) := by decide +kernel
theorem dX4_copyState_15 : decode cX4_copyState 15 = .ok (.iadd, 1) := by decide +kernel
theorem dX4_copyState_16 : decode cX4_copyState 16 = .ok (.aload_n 0, 1) := by decide +kernel
theorem dX4_copyState_17 : decode cX4_copyState 17 = .ok (.iload_n 1, 1) := by decide +kernel
theorem dX4_copyState_18 : decode cX4_copyState 18 = .ok (.iload 4, 2) := by decide +kernel
theorem dX4_copyState_20 : decode cX4_copyState 20 = .ok (.iadd, 1) := by decide +kernel
theorem dX4_copyState_21 : decode cX4_copyState 21 = .ok (.iaload, 1) := by decide +kernel
theorem dX4_copyState_22 : decode cX4_copyState 22 = .ok (.iastore, 1) := by decide +kernel
theorem dX4_copyState_23 : decode cX4_copyState 23 = .ok (.iinc 4 1, 3) := by decide +kernel
theorem dX4_copyState_26 : decode cX4_copyState 26 = .ok (.goto (-23), 3) := by decide +kernel
theorem dX4_copyState_29 : decode cX4_copyState 29 = .ok (.return_, 1) := by decide +kernel
theorem dX4_begin_0 : decode cX4_begin 0 = .ok (.iconst 0, 1) := by decide +kernel
theorem dX4_begin_1 : decode cX4_begin 1 = .ok (.istore_n 1, 1) := by decide +kernel
theorem dX4_begin_2 : decode cX4_begin 2 = .ok (.iload_n 1, 1) := by decide +kernel
theorem dX4_begin_3 : decode cX4_begin 3 = .ok (.sipush 785, 3) := by decide +kernel
theorem dX4_begin_6 : decode cX4_begin 6 = .ok (.if_icmp .ge 31, 3) := by decide +kernel
theorem dX4_begin_9 : decode cX4_begin 9 = .ok (.aload_n 0, 1) := by decide +kernel
theorem dX4_begin_10 : decode cX4_begin 10 = .ok (.iload_n 1, 1) := by decide +kernel
theorem dX4_begin_11 : decode cX4_begin 11 = .ok (.iload_n 1, 1) := by decide +kernel
theorem dX4_begin_12 : decode cX4_begin 12 = .ok (.sipush 512, 3) := by decide +kernel
theorem dX4_begin_15 : decode cX4_begin 15 = .ok (.if_icmp .lt 14, 3) := by decide +kernel
theorem dX4_begin_18 : decode cX4_begin 18 = .ok (.iload_n 1, 1) := by decide +kernel
theorem dX4_begin_19 : decode cX4_begin 19 = .ok (.sipush 768, 3) := by decide +kernel
theorem dX4_begin_22 : decode cX4_begin 22 = .ok (.if_icmp .ge 7, 3) := by decide +kernel
theorem dX4_begin_25 : decode cX4_begin 25 = .ok (.iconst (-1), 1) := by decide +kernel
theorem dX4_begin_26 : decode cX4_begin 26 = .ok (.goto 4, 3) := by decide +kernel
theorem dX4_begin_29 : decode cX4_begin 29 = .ok (.iconst 0, 1) := by decide +kernel
theorem dX4_begin_30 : decode cX4_begin 30 = .ok (.iastore, 1) := by decide +kernel
theorem dX4_begin_31 : decode cX4_begin 31 = .ok (.iinc 1 1, 3) := by decide +kernel
theorem dX4_begin_34 : decode cX4_begin 34 = .ok (.goto (-32), 3) := by decide +kernel
theorem dX4_begin_37 : decode cX4_begin 37 = .ok (.aload_n 0, 1) := by decide +kernel
theorem dX4_begin_38 : decode cX4_begin 38 = .ok (.sipush 773, 3) := by decide +kernel
theorem dX4_begin_41 : decode cX4_begin 41 = .ok (.iconst 2, 1) := by decide +kernel
theorem dX4_begin_42 : decode cX4_begin 42 = .ok (.iastore, 1) := by decide +kernel
theorem dX4_begin_43 : decode cX4_begin 43 = .ok (.aload_n 0, 1) := by decide +kernel
theorem dX4_begin_44 : decode cX4_begin 44 = .ok (.sipush 774, 3) := by decide +kernel
theorem dX4_begin_47 : decode cX4_begin 47 = .ok (.iconst 2, 1) := by decide +kernel
theorem dX4_begin_48 : decode cX4_begin 48 = .ok (.iastore, 1) := by decide +kernel
theorem dX4_begin_49 : decode cX4_begin 49 = .ok (.aload_n 0, 1) := by decide +kernel
theorem dX4_begin_50 : decode cX4_begin 50 = .ok (.sipush 775, 3) := by decide +kernel
theorem dX4_begin_53 : decode cX4_begin 53 = .ok (.bipush 8, 2) := by decide +kernel
theorem dX4_begin_55 : decode cX4_begin 55 = .ok (.iastore, 1) := by decide +kernel
theorem dX4_begin_56 : decode cX4_begin 56 = .ok (.aload_n 0, 1) := by decide +kernel
theorem dX4_begin_57 : decode cX4_begin 57 = .ok (.sipush 776, 3) := by decide +kernel
theorem dX4_begin_60 : decode cX4_begin 60 = .ok (.iconst 3, 1) := by decide +kernel
theorem dX4_begin_61 : decode cX4_begin 61 = .ok (.iastore, 1) := by decide +kernel
theorem dX4_begin_62 : decode cX4_begin 62 = .ok (.aload_n 0, 1) := by decide +kernel
theorem dX4_begin_63 : decode cX4_begin 63 = .ok (.sipush 777, 3) := by decide +kernel
theorem dX4_begin_66 : decode cX4_begin 66 = .ok (.iconst 2, 1) := by decide +kernel
theorem dX4_begin_67 : decode cX4_begin 67 = .ok (.iastore, 1) := by decide +kernel
theorem dX4_begin_68 : decode cX4_begin 68 = .ok (.return_, 1) := by decide +kernel
set_option maxRecDepth 20000 in
theorem ggX4_isBlock_X4_in : GoodIn wsX4_isBlock wsX4_in := goodIn_r _ [5] (by decide +kernel) (by decide +kernel)
set_option maxRecDepth 20000 in
theorem gX4_isBlock_X4_in : GoodIn wsX4_isBlock (va_wsS RX4 39 yX4_in wsX4_in) := goodIn_app (goodIn_of _ (by decide +kernel)) ggX4_isBlock_X4_in
theorem dX4_isBlock_0 : decode cX4_isBlock 0 = .ok (.iload_n 0, 1) := by decide +kernel
theorem dX4_isBlock_1 : decode cX4_isBlock 1 = .ok (.i2l, 1) := by decide +kernel
theorem dX4_isBlock_2 : decode cX4_isBlock 2 = .ok (.lconst 0, 1) := by decide +kernel
theorem dX4_isBlock_3 : decode cX4_isBlock 3 = .ok (.ldc2_w 37, 3) := by decide +kernel
theorem dX4_isBlock_6 : decode cX4_isBlock 6 = .ok (.invokestatic 39, 3) := by decide +kernel
theorem dX4_isBlock_9 : decode cX4_isBlock 9 = .ok (.ireturn, 1) := by decide +kernel
set_option maxRecDepth 20000 in
theorem ggX4_whyNotSpan_X4_isBlock : GoodIn wsX4_whyNotSpan wsX4_isBlock := goodIn_r _ [5, 6, 7, 8, 4, 9] (by decide +kernel) (by decide +kernel)
set_option maxRecDepth 20000 in
theorem gX4_whyNotSpan_X4_isBlock : GoodIn wsX4_whyNotSpan (va_wsS RX4 43 yX4_isBlock wsX4_isBlock) := goodIn_app (goodIn_of _ (by decide +kernel)) ggX4_whyNotSpan_X4_isBlock
set_option maxRecDepth 20000 in
theorem ggX4_whyNotSpan_X4_in : GoodIn wsX4_whyNotSpan wsX4_in := goodIn_r _ [9] (by decide +kernel) (by decide +kernel)
set_option maxRecDepth 20000 in
theorem gX4_whyNotSpan_X4_in : GoodIn wsX4_whyNotSpan (va_wsS RX4 39 yX4_in wsX4_in) := goodIn_app (goodIn_of _ (by decide +kernel)) ggX4_whyNotSpan_X4_in
theorem dX4_whyNotSpan_0 : decode cX4_whyNotSpan 0 = .ok (.iload_n 0, 1) := by decide +kernel
theorem dX4_whyNotSpan_1 : decode cX4_whyNotSpan 1 = .ok (.invokestatic 43, 3) := by decide +kernel
theorem dX4_whyNotSpan_4 : decode cX4_whyNotSpan 4 = .ok (.ifCond .ne 7, 3) := by decide +kernel
theorem dX4_whyNotSpan_7 : decode cX4_whyNotSpan 7 = .ok (.iconst 1, 1) := by decide +kernel
theorem dX4_whyNotSpan_8 : decode cX4_whyNotSpan 8 = .ok (.goto 33, 3) := by decide +kernel
theorem dX4_whyNotSpan_11 : decode cX4_whyNotSpan 11 = .ok (.iload_n 1, 1) := by decide +kernel
theorem dX4_whyNotSpan_12 : decode cX4_whyNotSpan 12 = .ok (.i2l, 1) := by decide +kernel
theorem dX4_whyNotSpan_13 : decode cX4_whyNotSpan 13 = .ok (.lconst 1, 1) := by decide +kernel
theorem dX4_whyNotSpan_14 : decode cX4_whyNotSpan 14 = .ok (.ldc2_w 47, 3) := by decide +kernel
theorem dX4_whyNotSpan_17 : decode cX4_whyNotSpan 17 = .ok (.invokestatic 39, 3) := by decide +kernel
theorem dX4_whyNotSpan_20 : decode cX4_whyNotSpan 20 = .ok (.ifCond .ne 7, 3) := by decide +kernel
theorem dX4_whyNotSpan_23 : decode cX4_whyNotSpan 23 = .ok (.iconst 2, 1) := by decide +kernel
theorem dX4_whyNotSpan_24 : decode cX4_whyNotSpan 24 = .ok (.goto 17, 3) := by decide +kernel
theorem dX4_whyNotSpan_27 : decode cX4_whyNotSpan 27 = .ok (.iload_n 0, 1) := by decide +kernel
theorem dX4_whyNotSpan_28 : decode cX4_whyNotSpan 28 = .ok (.iload_n 1, 1) := by decide +kernel
theorem dX4_whyNotSpan_29 : decode cX4_whyNotSpan 29 = .ok (.iadd, 1) := by decide +kernel
theorem dX4_whyNotSpan_30 : decode cX4_whyNotSpan 30 = .ok (.sipush 256, 3) := by decide +kernel
theorem dX4_whyNotSpan_33 : decode cX4_whyNotSpan 33 = .ok (.if_icmp .le 7, 3) := by decide +kernel
theorem dX4_whyNotSpan_36 : decode cX4_whyNotSpan 36 = .ok (.iconst 3, 1) := by decide +kernel
theorem dX4_whyNotSpan_37 : decode cX4_whyNotSpan 37 = .ok (.goto 4, 3) := by decide +kernel
theorem dX4_whyNotSpan_40 : decode cX4_whyNotSpan 40 = .ok (.iconst 0, 1) := by decide +kernel
theorem dX4_whyNotSpan_41 : decode cX4_whyNotSpan 41 = .ok (.ireturn, 1) := by decide +kernel
set_option maxRecDepth 20000 in
theorem ggX4_isQueued_X4_isBlock : GoodIn wsX4_isQueued wsX4_isBlock := goodIn_r _ [4, 5, 6, 7, 3, 8] (by decide +kernel) (by decide +kernel)
set_option maxRecDepth 20000 in
theorem gX4_isQueued_X4_isBlock : GoodIn wsX4_isQueued (va_wsS RX4 43 yX4_isBlock wsX4_isBlock) := goodIn_app (goodIn_of _ (by decide +kernel)) ggX4_isQueued_X4_isBlock
theorem dX4_isQueued_0 : decode cX4_isQueued 0 = .ok (.iload_n 1, 1) := by decide +kernel
theorem dX4_isQueued_1 : decode cX4_isQueued 1 = .ok (.invokestatic 43, 3) := by decide +kernel
theorem dX4_isQueued_4 : decode cX4_isQueued 4 = .ok (.ifCond .eq 18, 3) := by decide +kernel
theorem dX4_isQueued_7 : decode cX4_isQueued 7 = .ok (.aload_n 0, 1) := by decide +kernel
theorem dX4_isQueued_8 : decode cX4_isQueued 8 = .ok (.sipush 512, 3) := by decide +kernel
theorem dX4_isQueued_11 : decode cX4_isQueued 11 = .ok (.iload_n 1, 1) := by decide +kernel
theorem dX4_isQueued_12 : decode cX4_isQueued 12 = .ok (.iadd, 1) := by decide +kernel
theorem dX4_isQueued_13 : decode cX4_isQueued 13 = .ok (.iaload, 1) := by decide +kernel
theorem dX4_isQueued_14 : decode cX4_isQueued 14 = .ok (.iconst (-1), 1) := by decide +kernel
theorem dX4_isQueued_15 : decode cX4_isQueued 15 = .ok (.if_icmp .eq 7, 3) := by decide +kernel
theorem dX4_isQueued_18 : decode cX4_isQueued 18 = .ok (.iconst 1, 1) := by decide +kernel
theorem dX4_isQueued_19 : decode cX4_isQueued 19 = .ok (.goto 4, 3) := by decide +kernel
theorem dX4_isQueued_22 : decode cX4_isQueued 22 = .ok (.iconst 0, 1) := by decide +kernel
theorem dX4_isQueued_23 : decode cX4_isQueued 23 = .ok (.ireturn, 1) := by decide +kernel
theorem dX4_isPinned_0 : decode cX4_isPinned 0 = .ok (.iconst 0, 1) := by decide +kernel
theorem dX4_isPinned_1 : decode cX4_isPinned 1 = .ok (.istore_n 2, 1) := by decide +kernel
theorem dX4_isPinned_2 : decode cX4_isPinned 2 = .ok (.iload_n 2, 1) := by decide +kernel
theorem dX4_isPinned_3 : decode cX4_isPinned 3 = .ok (.iconst 3, 1) := by decide +kernel
theorem dX4_isPinned_4 : decode cX4_isPinned 4 = .ok (.if_icmp .ge 41, 3) := by decide +kernel
theorem dX4_isPinned_7 : decode cX4_isPinned 7 = .ok (.iload_n 1, 1) := by decide +kernel
theorem dX4_isPinned_8 : decode cX4_isPinned 8 = .ok (.aload_n 0, 1) := by decide +kernel
theorem dX4_isPinned_9 : decode cX4_isPinned 9 = .ok (.sipush 779, 3) := by decide +kernel
theorem dX4_isPinned_12 : decode cX4_isPinned 12 = .ok (.iload_n 2, 1) := by decide +kernel
theorem dX4_isPinned_13 : decode cX4_isPinned 13 = .ok (.iadd, 1) := by decide +kernel
theorem dX4_isPinned_14 : decode cX4_isPinned 14 = .ok (.iaload, 1) := by decide +kernel
theorem dX4_isPinned_15 : decode cX4_isPinned 15 = .ok (.if_icmp .lt 24, 3) := by decide +kernel
theorem dX4_isPinned_18 : decode cX4_isPinned 18 = .ok (.iload_n 1, 1) := by decide +kernel
theorem dX4_isPinned_19 : decode cX4_isPinned 19 = .ok (.aload_n 0, 1) := by decide +kernel
theorem dX4_isPinned_20 : decode cX4_isPinned 20 = .ok (.sipush 779, 3) := by decide +kernel
theorem dX4_isPinned_23 : decode cX4_isPinned 23 = .ok (.iload_n 2, 1) := by decide +kernel
theorem dX4_isPinned_24 : decode cX4_isPinned 24 = .ok (.iadd, 1) := by decide +kernel
theorem dX4_isPinned_25 : decode cX4_isPinned 25 = .ok (.iaload, 1) := by decide +kernel
theorem dX4_isPinned_26 : decode cX4_isPinned 26 = .ok (.aload_n 0, 1) := by decide +kernel
theorem dX4_isPinned_27 : decode cX4_isPinned 27 = .ok (.sipush 782, 3) := by decide +kernel
theorem dX4_isPinned_30 : decode cX4_isPinned 30 = .ok (.iload_n 2, 1) := by decide +kernel
theorem dX4_isPinned_31 : decode cX4_isPinned 31 = .ok (.iadd, 1) := by decide +kernel
theorem dX4_isPinned_32 : decode cX4_isPinned 32 = .ok (.iaload, 1) := by decide +kernel
theorem dX4_isPinned_33 : decode cX4_isPinned 33 = .ok (.iadd, 1) := by decide +kernel
theorem dX4_isPinned_34 : decode cX4_isPinned 34 = .ok (.if_icmp .ge 5, 3) := by decide +kernel
theorem dX4_isPinned_37 : decode cX4_isPinned 37 = .ok (.iconst 1, 1) := by decide +kernel
theorem dX4_isPinned_38 : decode cX4_isPinned 38 = .ok (.ireturn, 1) := by decide +kernel
theorem dX4_isPinned_39 : decode cX4_isPinned 39 = .ok (.iinc 2 1, 3) := by decide +kernel
theorem dX4_isPinned_42 : decode cX4_isPinned 42 = .ok (.goto (-40), 3) := by decide +kernel
theorem dX4_isPinned_45 : decode cX4_isPinned 45 = .ok (.iconst 0, 1) := by decide +kernel
theorem dX4_isPinned_46 : decode cX4_isPinned 46 = .ok (.ireturn, 1) := by decide +kernel
set_option maxRecDepth 20000 in
theorem ggX4_allPinned_X4_isPinned : GoodIn wsX4_allPinned wsX4_isPinned := goodIn_r _ [4] (by decide +kernel) (by decide +kernel)
set_option maxRecDepth 20000 in
theorem gX4_allPinned_X4_isPinned : GoodIn wsX4_allPinned (va_wsS RX4 49 yX4_isPinned wsX4_isPinned) := goodIn_app (goodIn_of _ (by decide +kernel)) ggX4_allPinned_X4_isPinned
theorem dX4_allPinned_0 : decode cX4_allPinned 0 = .ok (.iconst 0, 1) := by decide +kernel
theorem dX4_allPinned_1 : decode cX4_allPinned 1 = .ok (.istore_n 1, 1) := by decide +kernel
theorem dX4_allPinned_2 : decode cX4_allPinned 2 = .ok (.iconst 0, 1) := by decide +kernel
theorem dX4_allPinned_3 : decode cX4_allPinned 3 = .ok (.istore_n 2, 1) := by decide +kernel
theorem dX4_allPinned_4 : decode cX4_allPinned 4 = .ok (.iload_n 2, 1) := by decide +kernel
theorem dX4_allPinned_5 : decode cX4_allPinned 5 = .ok (.sipush 256, 3) := by decide +kernel
theorem dX4_allPinned_8 : decode cX4_allPinned 8 = .ok (.if_icmp .ge 25, 3) := by decide +kernel
theorem dX4_allPinned_11 : decode cX4_allPinned 11 = .ok (.iload_n 1, 1) := by decide +kernel
theorem dX4_allPinned_12 : decode cX4_allPinned 12 = .ok (.aload_n 0, 1) := by decide +kernel
theorem dX4_allPinned_13 : decode cX4_allPinned 13 = .ok (.iload_n 2, 1) := by decide +kernel
theorem dX4_allPinned_14 : decode cX4_allPinned 14 = .ok (.invokestatic 49, 3) := by decide +kernel
theorem dX4_allPinned_17 : decode cX4_allPinned 17 = .ok (.ifCond .eq 7, 3) := by decide +kernel
theorem dX4_allPinned_20 : decode cX4_allPinned 20 = .ok (.iconst 1, 1) := by decide +kernel
theorem dX4_allPinned_21 : decode cX4_allPinned 21 = .ok (.goto 4, 3) := by decide +kernel
theorem dX4_allPinned_24 : decode cX4_allPinned 24 = .ok (.iconst 0, 1) := by decide +kernel
theorem dX4_allPinned_25 : decode cX4_allPinned 25 = .ok (.iadd, 1) := by decide +kernel
theorem dX4_allPinned_26 : decode cX4_allPinned 26 = .ok (.istore_n 1, 1) := by decide +kernel
theorem dX4_allPinned_27 : decode cX4_allPinned 27 = .ok (.iinc 2 1, 3) := by decide +kernel
theorem dX4_allPinned_30 : decode cX4_allPinned 30 = .ok (.goto (-26), 3) := by decide +kernel
theorem dX4_allPinned_33 : decode cX4_allPinned 33 = .ok (.iload_n 1, 1) := by decide +kernel
theorem dX4_allPinned_34 : decode cX4_allPinned 34 = .ok (.ireturn, 1) := by decide +kernel
set_option maxRecDepth 20000 in
theorem ggX4_begins_X4_isQueued : GoodIn wsX4_begins wsX4_isQueued := goodIn_r _ [4, 5, 6, 3, 7, 8, 9, 10, 11] (by decide +kernel) (by decide +kernel)
set_option maxRecDepth 20000 in
theorem gX4_begins_X4_isQueued : GoodIn wsX4_begins (va_wsS RX4 53 yX4_isQueued wsX4_isQueued) := goodIn_app (goodIn_of _ (by decide +kernel)) ggX4_begins_X4_isQueued
theorem dX4_begins_0 : decode cX4_begins 0 = .ok (.aload_n 0, 1) := by decide +kernel
theorem dX4_begins_1 : decode cX4_begins 1 = .ok (.iload_n 1, 1) := by decide +kernel
theorem dX4_begins_2 : decode cX4_begins 2 = .ok (.invokestatic 53, 3) := by decide +kernel
theorem dX4_begins_5 : decode cX4_begins 5 = .ok (.ifCond .eq 17, 3) := by decide +kernel
theorem dX4_begins_8 : decode cX4_begins 8 = .ok (.aload_n 0, 1) := by decide +kernel
theorem dX4_begins_9 : decode cX4_begins 9 = .ok (.iload_n 1, 1) := by decide +kernel
theorem dX4_begins_10 : decode cX4_begins 10 = .ok (.iconst 1, 1) := by decide +kernel
theorem dX4_begins_11 : decode cX4_begins 11 = .ok (.isub, 1) := by decide +kernel
theorem dX4_begins_12 : decode cX4_begins 12 = .ok (.invokestatic 53, 3) := by decide +kernel
theorem dX4_begins_15 : decode cX4_begins 15 = .ok (.ifCond .ne 7, 3) := by decide +kernel
theorem dX4_begins_18 : decode cX4_begins 18 = .ok (.iconst 1, 1) := by decide +kernel
theorem dX4_begins_19 : decode cX4_begins 19 = .ok (.goto 4, 3) := by decide +kernel
theorem dX4_begins_22 : decode cX4_begins 22 = .ok (.iconst 0, 1) := by decide +kernel
theorem dX4_begins_23 : decode cX4_begins 23 = .ok (.ireturn, 1) := by decide +kernel
set_option maxRecDepth 20000 in
theorem ggX4_ranges_X4_begins : GoodIn wsX4_ranges wsX4_begins := goodIn_r _ [4, 5, 6, 3, 7, 8, 9, 10, 11, 12, 13, 14] (by decide +kernel) (by decide +kernel)
set_option maxRecDepth 20000 in
theorem gX4_ranges_X4_begins : GoodIn wsX4_ranges (va_wsS RX4 56 yX4_begins wsX4_begins) := goodIn_app (goodIn_of _ (by decide +kernel)) ggX4_ranges_X4_begins
theorem dX4_ranges_0 : decode cX4_ranges 0 = .ok (.iconst 0, 1) := by decide +kernel
theorem dX4_ranges_1 : decode cX4_ranges 1 = .ok (.istore_n 1, 1) := by decide +kernel
theorem dX4_ranges_2 : decode cX4_ranges 2 = .ok (.iconst 0, 1) := by decide +kernel
theorem dX4_ranges_3 : decode cX4_ranges 3 = .ok (.istore_n 2, 1) := by decide +kernel
theorem dX4_ranges_4 : decode cX4_ranges 4 = .ok (.iload_n 2, 1) := by decide +kernel
theorem dX4_ranges_5 : decode cX4_ranges 5 = .ok (.sipush 256, 3) := by decide +kernel
theorem dX4_ranges_8 : decode cX4_ranges 8 = .ok (.if_icmp .ge 25, 3) := by decide +kernel
theorem dX4_ranges_11 : decode cX4_ranges 11 = .ok (.iload_n 1, 1) := by decide +kernel
theorem dX4_ranges_12 : decode cX4_ranges 12 = .ok (.aload_n 0, 1) := by decide +kernel
theorem dX4_ranges_13 : decode cX4_ranges 13 = .ok (.iload_n 2, 1) := by decide +kernel
theorem dX4_ranges_14 : decode cX4_ranges 14 = .ok (.invokestatic 56, 3) := by decide +kernel
theorem dX4_ranges_17 : decode cX4_ranges 17 = .ok (.ifCond .eq 7, 3) := by decide +kernel
theorem dX4_ranges_20 : decode cX4_ranges 20 = .ok (.iconst 1, 1) := by decide +kernel
theorem dX4_ranges_21 : decode cX4_ranges 21 = .ok (.goto 4, 3) := by decide +kernel
theorem dX4_ranges_24 : decode cX4_ranges 24 = .ok (.iconst 0, 1) := by decide +kernel
theorem dX4_ranges_25 : decode cX4_ranges 25 = .ok (.iadd, 1) := by decide +kernel
theorem dX4_ranges_26 : decode cX4_ranges 26 = .ok (.istore_n 1, 1) := by decide +kernel
theorem dX4_ranges_27 : decode cX4_ranges 27 = .ok (.iinc 2 1, 3) := by decide +kernel
theorem dX4_ranges_30 : decode cX4_ranges 30 = .ok (.goto (-26), 3) := by decide +kernel
theorem dX4_ranges_33 : decode cX4_ranges 33 = .ok (.iload_n 1, 1) := by decide +kernel
theorem dX4_ranges_34 : decode cX4_ranges 34 = .ok (.ireturn, 1) := by decide +kernel
set_option maxRecDepth 20000 in
theorem ggX4_queuedBlocks_X4_isQueued : GoodIn wsX4_queuedBlocks wsX4_isQueued := goodIn_r _ [4, 5, 6, 3, 7, 8, 9, 10, 11] (by decide +kernel) (by decide +kernel)
set_option maxRecDepth 20000 in
theorem gX4_queuedBlocks_X4_isQueued : GoodIn wsX4_queuedBlocks (va_wsS RX4 53 yX4_isQueued wsX4_isQueued) := goodIn_app (goodIn_of _ (by decide +kernel)) ggX4_queuedBlocks_X4_isQueued
theorem dX4_queuedBlocks_0 : decode cX4_queuedBlocks 0 = .ok (.iconst 0, 1) := by decide +kernel
theorem dX4_queuedBlocks_1 : decode cX4_queuedBlocks 1 = .ok (.istore_n 1, 1) := by decide +kernel
theorem dX4_queuedBlocks_2 : decode cX4_queuedBlocks 2 = .ok (.iconst 0, 1) := by decide +kernel
theorem dX4_queuedBlocks_3 : decode cX4_queuedBlocks 3 = .ok (.istore_n 2, 1) := by decide +kernel
theorem dX4_queuedBlocks_4 : decode cX4_queuedBlocks 4 = .ok (.iload_n 2, 1) := by decide +kernel
theorem dX4_queuedBlocks_5 : decode cX4_queuedBlocks 5 = .ok (.sipush 256, 3) := by decide +kernel
theorem dX4_queuedBlocks_8 : decode cX4_queuedBlocks 8 = .ok (.if_icmp .ge 25, 3) := by decide +kernel
theorem dX4_queuedBlocks_11 : decode cX4_queuedBlocks 11 = .ok (.iload_n 1, 1) := by decide +kernel
theorem dX4_queuedBlocks_12 : decode cX4_queuedBlocks 12 = .ok (.aload_n 0, 1) := by decide +kernel
theorem dX4_queuedBlocks_13 : decode cX4_queuedBlocks 13 = .ok (.iload_n 2, 1) := by decide +kernel
theorem dX4_queuedBlocks_14 : decode cX4_queuedBlocks 14 = .ok (.invokestatic 53, 3) := by decide +kernel
theorem dX4_queuedBlocks_17 : decode cX4_queuedBlocks 17 = .ok (.ifCond .eq 7, 3) := by decide +kernel
theorem dX4_queuedBlocks_20 : decode cX4_queuedBlocks 20 = .ok (.iconst 1, 1) := by decide +kernel
theorem dX4_queuedBlocks_21 : decode cX4_queuedBlocks 21 = .ok (.goto 4, 3) := by decide +kernel
theorem dX4_queuedBlocks_24 : decode cX4_queuedBlocks 24 = .ok (.iconst 0, 1) := by decide +kernel
theorem dX4_queuedBlocks_25 : decode cX4_queuedBlocks 25 = .ok (.iadd, 1) := by decide +kernel
theorem dX4_queuedBlocks_26 : decode cX4_queuedBlocks 26 = .ok (.istore_n 1, 1) := by decide +kernel
theorem dX4_queuedBlocks_27 : decode cX4_queuedBlocks 27 = .ok (.iinc 2 1, 3) := by decide +kernel
theorem dX4_queuedBlocks_30 : decode cX4_queuedBlocks 30 = .ok (.goto (-26), 3) := by decide +kernel
theorem dX4_queuedBlocks_33 : decode cX4_queuedBlocks 33 = .ok (.iload_n 1, 1) := by decide +kernel
theorem dX4_queuedBlocks_34 : decode cX4_queuedBlocks 34 = .ok (.ireturn, 1) := by decide +kernel
set_option maxRecDepth 20000 in
theorem ggX4_endOf_X4_isQueued : GoodIn wsX4_endOf wsX4_isQueued := goodIn_r _ [4, 5, 6, 3, 7, 8, 9, 10, 11] (by decide +kernel) (by decide +kernel)
set_option maxRecDepth 20000 in
theorem gX4_endOf_X4_isQueued : GoodIn wsX4_endOf (va_wsS RX4 53 yX4_isQueued wsX4_isQueued) := goodIn_app (goodIn_of _ (by decide +kernel)) ggX4_endOf_X4_isQueued
theorem dX4_endOf_0 : decode cX4_endOf 0 = .ok (.iload_n 1, 1) := by decide +kernel
theorem dX4_endOf_1 : decode cX4_endOf 1 = .ok (.istore_n 2, 1) := by decide +kernel
theorem dX4_endOf_2 : decode cX4_endOf 2 = .ok (.aload_n 0, 1) := by decide +kernel
theorem dX4_endOf_3 : decode cX4_endOf 3 = .ok (.iload_n 2, 1) := by decide +kernel
theorem dX4_endOf_4 : decode cX4_endOf 4 = .ok (.invokestatic 53, 3) := by decide +kernel
theorem dX4_endOf_7 : decode cX4_endOf 7 = .ok (.ifCond .eq 9, 3) := by decide +kernel
theorem dX4_endOf_10 : decode cX4_endOf 10 = .ok (.iinc 2 1, 3) := by decide +kernel
theorem dX4_endOf_13 : decode cX4_endOf 13 = .ok (.goto (-11), 3) := by decide +kernel
theorem dX4_endOf_16 : decode cX4_endOf 16 = .ok (.iload_n 2, 1) := by decide +kernel
theorem dX4_endOf_17 : decode cX4_endOf 17 = .ok (.ireturn, 1) := by decide +kernel
set_option maxRecDepth 20000 in
theorem ggX4_startOf_X4_isQueued : GoodIn wsX4_startOf wsX4_isQueued := goodIn_r _ [4, 5, 6, 3, 7, 8, 9, 10, 11] (by decide +kernel) (by decide +kernel)
set_option maxRecDepth 20000 in
theorem gX4_startOf_X4_isQueued : GoodIn wsX4_startOf (va_wsS RX4 53 yX4_isQueued wsX4_isQueued) := goodIn_app (goodIn_of _ (by decide +kernel)) ggX4_startOf_X4_isQueued
theorem dX4_startOf_0 : decode cX4_startOf 0 = .ok (.iload_n 1, 1) := by decide +kernel
theorem dX4_startOf_1 : decode cX4_startOf 1 = .ok (.istore_n 2, 1) := by decide +kernel
theorem dX4_startOf_2 : decode cX4_startOf 2 = .ok (.aload_n 0, 1) := by decide +kernel
theorem dX4_startOf_3 : decode cX4_startOf 3 = .ok (.iload_n 2, 1) := by decide +kernel
theorem dX4_startOf_4 : decode cX4_startOf 4 = .ok (.iconst 1, 1) := by decide +kernel
theorem dX4_startOf_5 : decode cX4_startOf 5 = .ok (.isub, 1) := by decide +kernel
theorem dX4_startOf_6 : decode cX4_startOf 6 = .ok (.invokestatic 53, 3) := by decide +kernel
theorem dX4_startOf_9 : decode cX4_startOf 9 = .ok (.ifCond .eq 9, 3) := by decide +kernel
theorem dX4_startOf_12 : decode cX4_startOf 12 = .ok (.iinc 2 (-1), 3) := by decide +kernel
theorem dX4_startOf_15 : decode cX4_startOf 15 = .ok (.goto (-13), 3) := by decide +kernel
theorem dX4_startOf_18 : decode cX4_startOf 18 = .ok (.iload_n 2, 1) := by decide +kernel
theorem dX4_startOf_19 : decode cX4_startOf 19 = .ok (.ireturn, 1) := by decide +kernel
set_option maxRecDepth 20000 in
theorem ggX4_limit_X4_ranges : GoodIn wsX4_limit wsX4_ranges := goodIn_r _ [4, 5, 6, 3, 7, 8, 9, 10, 11, 12, 13, 14, 15, 16, 17] (by decide +kernel) (by decide +kernel)
set_option maxRecDepth 20000 in
theorem gX4_limit_X4_ranges : GoodIn wsX4_limit (va_wsS RX4 59 yX4_ranges wsX4_ranges) := goodIn_app (goodIn_of _ (by decide +kernel)) ggX4_limit_X4_ranges
set_option maxRecDepth 20000 in
theorem ggX4_limit_X4_begins : GoodIn wsX4_limit wsX4_begins := goodIn_r _ [7, 8, 9, 3, 10, 11, 12, 13, 14, 15, 16, 17] (by decide +kernel) (by decide +kernel)
set_option maxRecDepth 20000 in
theorem gX4_limit_X4_begins : GoodIn wsX4_limit (va_wsS RX4 56 yX4_begins wsX4_begins) := goodIn_app (goodIn_of _ (by decide +kernel)) ggX4_limit_X4_begins
set_option maxRecDepth 20000 in
theorem ggX4_limit_X4_endOf : GoodIn wsX4_limit wsX4_endOf := goodIn_r _ [20, 8, 9, 3, 10, 11, 12, 13, 14, 15, 16, 17] (by decide +kernel) (by decide +kernel)
set_option maxRecDepth 20000 in
theorem gX4_limit_X4_endOf : GoodIn wsX4_limit (va_wsS RX4 63 yX4_endOf wsX4_endOf) := goodIn_app (goodIn_of _ (by decide +kernel)) ggX4_limit_X4_endOf
theorem dX4_limit_0 : decode cX4_limit 0 = .ok (.aload_n 0, 1) := by decide +kernel
theorem dX4_limit_1 : decode cX4_limit 1 = .ok (.invokestatic 59, 3) := by decide +kernel
theorem dX4_limit_4 : decode cX4_limit 4 = .ok (.bipush 16, 2) := by decide +kernel
theorem dX4_limit_6 : decode cX4_limit 6 = .ok (.if_icmp .le 91, 3) := by decide +kernel
theorem dX4_limit_9 : decode cX4_limit 9 = .ok (.iconst (-1), 1) := by decide +kernel
theorem dX4_limit_10 : decode cX4_limit 10 = .ok (.istore_n 1, 1) := by decide +kernel
theorem dX4_limit_11 : decode cX4_limit 11 = .ok (.iconst 0, 1) := by decide +kernel
theorem dX4_limit_12 : decode cX4_limit 12 = .ok (.istore_n 2, 1) := by decide +kernel
theorem dX4_limit_13 : decode cX4_limit 13 = .ok (.iload_n 2, 1) := by decide +kernel
theorem dX4_limit_14 : decode cX4_limit 14 = .ok (.sipush 256, 3) := by decide +kernel
theorem dX4_limit_17 : decode cX4_limit 17 = .ok (.if_icmp .ge 41, 3) := by decide +kernel
theorem dX4_limit_20 : decode cX4_limit 20 = .ok (.aload_n 0, 1) := by decide +kernel
theorem dX4_limit_21 : decode cX4_limit 21 = .ok (.iload_n 2, 1) := by decide +kernel
theorem dX4_limit_22 : decode cX4_limit 22 = .ok (.invokestatic 56, 3) := by decide +kernel
theorem dX4_limit_25 : decode cX4_limit 25 = .ok (.ifCond .eq 27, 3) := by decide +kernel
theorem dX4_limit_28 : decode cX4_limit 28 = .ok (.iload_n 1, 1) := by decide +kernel
theorem dX4_limit_29 : decode cX4_limit 29 = .ok (.iconst (-1), 1) := by decide +kernel
theorem dX4_limit_30 : decode cX4_limit 30 = .ok (.if_icmp .eq 20, 3) := by decide +kernel
theorem dX4_limit_33 : decode cX4_limit 33 = .ok (.aload_n 0, 1) := by decide +kernel
theorem dX4_limit_34 : decode cX4_limit 34 = .ok (.iload_n 2, 1) := by decide +kernel
theorem dX4_limit_35 : decode cX4_limit 35 = .ok (.invokestatic 63, 3) := by decide +kernel
theorem dX4_limit_38 : decode cX4_limit 38 = .ok (.iload_n 2, 1) := by decide +kernel
theorem dX4_limit_39 : decode cX4_limit 39 = .ok (.isub, 1) := by decide +kernel
theorem dX4_limit_40 : decode cX4_limit 40 = .ok (.aload_n 0, 1) := by decide +kernel
theorem dX4_limit_41 : decode cX4_limit 41 = .ok (.iload_n 1, 1) := by decide +kernel
theorem dX4_limit_42 : decode cX4_limit 42 = .ok (.invokestatic 63, 3) := by decide +kernel
theorem dX4_limit_45 : decode cX4_limit 45 = .ok (.iload_n 1, 1) := by decide +kernel
theorem dX4_limit_46 : decode cX4_limit 46 = .ok (.isub, 1) := by decide +kernel
theorem dX4_limit_47 : decode cX4_limit 47 = .ok (.if_icmp .ge 5, 3) := by decide +kernel
theorem dX4_limit_50 : decode cX4_limit 50 = .ok (.iload_n 2, 1) := by decide +kernel
theorem dX4_limit_51 : decode cX4_limit 51 = .ok (.istore_n 1, 1) := by decide +kernel
theorem dX4_limit_52 : decode cX4_limit 52 = .ok (.iinc 2 1, 3) := by decide +kernel
theorem dX4_limit_55 : decode cX4_limit 55 = .ok (.goto (-42), 3) := by decide +kernel
theorem dX4_limit_58 : decode cX4_limit 58 = .ok (.aload_n 0, 1) := by decide +kernel
theorem dX4_limit_59 : decode cX4_limit 59 = .ok (.iload_n 1, 1) := by decide +kernel
theorem dX4_limit_60 : decode cX4_limit 60 = .ok (.invokestatic 63, 3) := by decide +kernel
theorem dX4_limit_63 : decode cX4_limit 63 = .ok (.istore_n 2, 1) := by decide +kernel
theorem dX4_limit_64 : decode cX4_limit 64 = .ok (.iload_n 1, 1) := by decide +kernel
theorem dX4_limit_65 : decode cX4_limit 65 = .ok (.istore_n 3, 1) := by decide +kernel
theorem dX4_limit_66 : decode cX4_limit 66 = .ok (.iload_n 3, 1) := by decide +kernel
theorem dX4_limit_67 : decode cX4_limit 67 = .ok (.iload_n 2, 1) := by decide +kernel
theorem dX4_limit_68 : decode cX4_limit 68 = .ok (.if_icmp .ge 17, 3) := by decide +kernel
theorem dX4_limit_71 : decode cX4_limit 71 = .ok (.aload_n 0, 1) := by decide +kernel
theorem dX4_limit_72 : decode cX4_limit 72 = .ok (.sipush 512, 3) := by decide +kernel
theorem dX4_limit_75 : decode cX4_limit 75 = .ok (.iload_n 3, 1) := by decide +kernel
theorem dX4_limit_76 : decode cX4_limit 76 = .ok (.iadd, 1) := by decide +kernel
theorem dX4_limit_77 : decode cX4_limit 77 = .ok (.iconst (-1), 1) := by decide +kernel
theorem dX4_limit_78 : decode cX4_limit 78 = .ok (.iastore, 1) := by decide +kernel
theorem dX4_limit_79 : decode cX4_limit 79 = .ok (.iinc 3 1, 3) := by decide +kernel
theorem dX4_limit_82 : decode cX4_limit 82 = .ok (.goto (-16), 3) := by decide +kernel
theorem dX4_limit_85 : decode cX4_limit 85 = .ok (.aload_n 0, 1) := by decide +kernel
theorem dX4_limit_86 : decode cX4_limit 86 = .ok (.sipush 772, 3) := by decide +kernel
theorem dX4_limit_89 : decode cX4_limit 89 = .ok (.dup2, 1) := by decide +kernel
theorem dX4_limit_90 : decode cX4_limit 90 = .ok (.iaload, 1) := by decide +kernel
theorem dX4_limit_91 : decode cX4_limit 91 = .ok (.iconst 1, 1) := by decide +kernel
theorem dX4_limit_92 : decode cX4_limit 92 = .ok (.iadd, 1) := by decide +kernel
theorem dX4_limit_93 : decode cX4_limit 93 = .ok (.iastore, 1) := by decide +kernel
theorem dX4_limit_94 : decode cX4_limit 94 = .ok (.goto (-94), 3) := by decide +kernel
theorem dX4_limit_97 : decode cX4_limit 97 = .ok (.return_, 1) := by decide +kernel
set_option maxRecDepth 20000 in
theorem ggX4_writeOn_X4_isQueued : GoodIn wsX4_writeOn wsX4_isQueued := goodIn_r _ [4, 5, 6, 3, 7, 8, 9, 10, 11] (by decide +kernel) (by decide +kernel)
set_option maxRecDepth 20000 in
theorem gX4_writeOn_X4_isQueued : GoodIn wsX4_writeOn (va_wsS RX4 53 yX4_isQueued wsX4_isQueued) := goodIn_app (goodIn_of _ (by decide +kernel)) ggX4_writeOn_X4_isQueued
set_option maxRecDepth 20000 in
theorem ggX4_writeOn_X4_limit : GoodIn wsX4_writeOn wsX4_limit := goodIn_r _ [14, 15, 16, 3, 17, 18, 19, 20, 1, 2, 4, 5, 6, 7, 8, 9, 10, 11, 21, 22, 23] (by decide +kernel) (by decide +kernel)
set_option maxRecDepth 20000 in
theorem gX4_writeOn_X4_limit : GoodIn wsX4_writeOn (va_wsS RX4 67 yX4_limit wsX4_limit) := goodIn_app (goodIn_of _ (by decide +kernel)) ggX4_writeOn_X4_limit
theorem dX4_writeOn_0 : decode cX4_writeOn 0 = .ok (.iconst 0, 1) := by decide +kernel
theorem dX4_writeOn_1 : decode cX4_writeOn 1 = .ok (.istore_n 3, 1) := by decide +kernel
theorem dX4_writeOn_2 : decode cX4_writeOn 2 = .ok (.iload_n 1, 1) := by decide +kernel
theorem dX4_writeOn_3 : decode cX4_writeOn 3 = .ok (.istore 4, 2) := by decide +kernel
theorem dX4_writeOn_5 : decode cX4_writeOn 5 = .ok (.iload 4, 2) := by decide +kernel
theorem dX4_writeOn_7 : decode cX4_writeOn 7 = .ok (.iload_n 1, 1) := by decide +kernel
theorem dX4_writeOn_8 : decode cX4_writeOn 8 = .ok (.iload_n 2, 1) := by decide +kernel
theorem dX4_writeOn_9 : decode cX4_writeOn 9 = .ok (.iadd, 1) := by decide +kernel
theorem dX4_writeOn_10 : decode cX4_writeOn 10 = .ok (.if_icmp .ge 51, 3) := by decide +kernel
theorem dX4_writeOn_13 : decode cX4_writeOn 13 = .ok (.iload_n 3, 1) := by decide +kernel
theorem dX4_writeOn_14 : decode cX4_writeOn 14 = .ok (.aload_n 0, 1) := by decide +kernel
theorem dX4_writeOn_15 : decode cX4_writeOn 15 = .ok (.iload 4, 2) := by decide +kernel
theorem dX4_writeOn_17 : decode cX4_writeOn 17 = .ok (.invokestatic 53, 3) := by decide +kernel
theorem dX4_writeOn_20 : decode cX4_writeOn 20 = .ok (.ifCond .eq 7, 3) := by decide +kernel
theorem dX4_writeOn_23 : decode cX4_writeOn 23 = .ok (.iconst 1, 1) := by decide +kernel
theorem dX4_writeOn_24 : decode cX4_writeOn 24 = .ok (.goto 4, 3) := by decide +kernel
theorem dX4_writeOn_27 : decode cX4_writeOn 27 = .ok (.iconst 0, 1) := by decide +kernel
theorem dX4_writeOn_28 : decode cX4_writeOn 28 = .ok (.iadd, 1) := by decide +kernel
theorem dX4_writeOn_29 : decode cX4_writeOn 29 = .ok (.istore_n 3, 1) := by decide +kernel
theorem dX4_writeOn_30 : decode cX4_writeOn 30 = .ok (.aload_n 0, 1) := by decide +kernel
theorem dX4_writeOn_31 : decode cX4_writeOn 31 = .ok (.iconst 0, 1) := by decide +kernel
theorem dX4_writeOn_32 : decode cX4_writeOn 32 = .ok (.iload 4, 2) := by decide +kernel
theorem dX4_writeOn_34 : decode cX4_writeOn 34 = .ok (.iadd, 1) := by decide +kernel
theorem dX4_writeOn_35 : decode cX4_writeOn 35 = .ok (.iconst 1, 1) := by decide +kernel
theorem dX4_writeOn_36 : decode cX4_writeOn 36 = .ok (.iastore, 1) := by decide +kernel
theorem dX4_writeOn_37 : decode cX4_writeOn 37 = .ok (.aload_n 0, 1) := by decide +kernel
theorem dX4_writeOn_38 : decode cX4_writeOn 38 = .ok (.sipush 256, 3) := by decide +kernel
theorem dX4_writeOn_41 : decode cX4_writeOn 41 = .ok (.iload 4, 2) := by decide +kernel
theorem dX4_writeOn_43 : decode cX4_writeOn 43 = .ok (.iadd, 1) := by decide +kernel
theorem dX4_writeOn_44 : decode cX4_writeOn 44 = .ok (.iconst 1, 1) := by decide +kernel
theorem dX4_writeOn_45 : decode cX4_writeOn 45 = .ok (.iastore, 1) := by decide +kernel
theorem dX4_writeOn_46 : decode cX4_writeOn 46 = .ok (.aload_n 0, 1) := by decide +kernel
theorem dX4_writeOn_47 : decode cX4_writeOn 47 = .ok (.sipush 512, 3) := by decide +kernel
theorem dX4_writeOn_50 : decode cX4_writeOn 50 = .ok (.iload 4, 2) := by decide +kernel
theorem dX4_writeOn_52 : decode cX4_writeOn 52 = .ok (.iadd, 1) := by decide +kernel
theorem dX4_writeOn_53 : decode cX4_writeOn 53 = .ok (.iconst (-1), 1) := by decide +kernel
theorem dX4_writeOn_54 : decode cX4_writeOn 54 = .ok (.iastore, 1) := by decide +kernel
theorem dX4_writeOn_55 : decode cX4_writeOn 55 = .ok (.iinc 4 1, 3) := by decide +kernel
theorem dX4_writeOn_58 : decode cX4_writeOn 58 = .ok (.goto (-53), 3) := by decide +kernel
theorem dX4_writeOn_61 : decode cX4_writeOn 61 = .ok (.aload_n 0, 1) := by decide +kernel
theorem dX4_writeOn_62 : decode cX4_writeOn 62 = .ok (.sipush 769, 3) := by decide +kernel
theorem dX4_writeOn_65 : decode cX4_writeOn 65 = .ok (.iconst 0, 1) := by decide +kernel
theorem dX4_writeOn_66 : decode cX4_writeOn 66 = .ok (.iastore, 1) := by decide +kernel
theorem dX4_writeOn_67 : decode cX4_writeOn 67 = .ok (.aload_n 0, 1) := by decide +kernel
theorem dX4_writeOn_68 : decode cX4_writeOn 68 = .ok (.invokestatic 67, 3) := by decide +kernel
theorem dX4_writeOn_71 : decode cX4_writeOn 71 = .ok (.iload_n 3, 1) := by decide +kernel
theorem dX4_writeOn_72 : decode cX4_writeOn 72 = .ok (.ireturn, 1) := by decide +kernel
set_option maxRecDepth 20000 in
theorem ggX4_freeOn_X4_startOf : GoodIn wsX4_freeOn wsX4_startOf := goodIn_r _ [4, 5, 6, 3, 7, 8, 9, 10, 11, 12, 13, 14] (by decide +kernel) (by decide +kernel)
set_option maxRecDepth 20000 in
theorem gX4_freeOn_X4_startOf : GoodIn wsX4_freeOn (va_wsS RX4 70 yX4_startOf wsX4_startOf) := goodIn_app (goodIn_of _ (by decide +kernel)) ggX4_freeOn_X4_startOf
set_option maxRecDepth 20000 in
theorem ggX4_freeOn_X4_endOf : GoodIn wsX4_freeOn wsX4_endOf := goodIn_r _ [17, 5, 6, 3, 7, 8, 9, 10, 11, 12, 13, 14] (by decide +kernel) (by decide +kernel)
set_option maxRecDepth 20000 in
theorem gX4_freeOn_X4_endOf : GoodIn wsX4_freeOn (va_wsS RX4 63 yX4_endOf wsX4_endOf) := goodIn_app (goodIn_of _ (by decide +kernel)) ggX4_freeOn_X4_endOf
set_option maxRecDepth 20000 in
theorem ggX4_freeOn_X4_limit : GoodIn wsX4_freeOn wsX4_limit := goodIn_r _ [20, 21, 22, 3, 23, 24, 25, 26, 5, 6, 7, 8, 9, 10, 11, 12, 13, 14, 15, 16, 17] (by decide +kernel) (by decide +kernel)
set_option maxRecDepth 20000 in
theorem gX4_freeOn_X4_limit : GoodIn wsX4_freeOn (va_wsS RX4 67 yX4_limit wsX4_limit) := goodIn_app (goodIn_of _ (by decide +kernel)) ggX4_freeOn_X4_limit
theorem dX4_freeOn_0 : decode cX4_freeOn 0 = .ok (.iconst 0, 1) := by decide +kernel
theorem dX4_freeOn_1 : decode cX4_freeOn 1 = .ok (.istore_n 3, 1) := by decide +kernel
theorem dX4_freeOn_2 : decode cX4_freeOn 2 = .ok (.iload_n 1, 1) := by decide +kernel
theorem dX4_freeOn_3 : decode cX4_freeOn 3 = .ok (.istore 4, 2) := by decide +kernel
theorem dX4_freeOn_5 : decode cX4_freeOn 5 = .ok (.iload 4, 2) := by decide +kernel
theorem dX4_freeOn_7 : decode cX4_freeOn 7 = .ok (.iload_n 1, 1) := by decide +kernel
theorem dX4_freeOn_8 : decode cX4_freeOn 8 = .ok (.iload_n 2, 1) := by decide +kernel
theorem dX4_freeOn_9 : decode cX4_freeOn 9 = .ok (.iadd, 1) := by decide +kernel
theorem dX4_freeOn_10 : decode cX4_freeOn 10 = .ok (.if_icmp .ge 44, 3) := by decide +kernel
theorem dX4_freeOn_13 : decode cX4_freeOn 13 = .ok (.aload_n 0, 1) := by decide +kernel
theorem dX4_freeOn_14 : decode cX4_freeOn 14 = .ok (.iconst 0, 1) := by decide +kernel
theorem dX4_freeOn_15 : decode cX4_freeOn 15 = .ok (.iload 4, 2) := by decide +kernel
theorem dX4_freeOn_17 : decode cX4_freeOn 17 = .ok (.iadd, 1) := by decide +kernel
theorem dX4_freeOn_18 : decode cX4_freeOn 18 = .ok (.iaload, 1) := by decide +kernel
theorem dX4_freeOn_19 : decode cX4_freeOn 19 = .ok (.iconst 1, 1) := by decide +kernel
theorem dX4_freeOn_20 : decode cX4_freeOn 20 = .ok (.if_icmp .ne 28, 3) := by decide +kernel
theorem dX4_freeOn_23 : decode cX4_freeOn 23 = .ok (.iinc 3 1, 3) := by decide +kernel
theorem dX4_freeOn_26 : decode cX4_freeOn 26 = .ok (.aload_n 0, 1) := by decide +kernel
theorem dX4_freeOn_27 : decode cX4_freeOn 27 = .ok (.iconst 0, 1) := by decide +kernel
theorem dX4_freeOn_28 : decode cX4_freeOn 28 = .ok (.iload 4, 2) := by decide +kernel
theorem dX4_freeOn_30 : decode cX4_freeOn 30 = .ok (.iadd, 1) := by decide +kernel
theorem dX4_freeOn_31 : decode cX4_freeOn 31 = .ok (.iconst 0, 1) := by decide +kernel
theorem dX4_freeOn_32 : decode cX4_freeOn 32 = .ok (.iastore, 1) := by decide +kernel
theorem dX4_freeOn_33 : decode cX4_freeOn 33 = .ok (.aload_n 0, 1) := by decide +kernel
theorem dX4_freeOn_34 : decode cX4_freeOn 34 = .ok (.sipush 512, 3) := by decide +kernel
theorem dX4_freeOn_37 : decode cX4_freeOn 37 = .ok (.iload 4, 2) := by decide +kernel
theorem dX4_freeOn_39 : decode cX4_freeOn 39 = .ok (.iadd, 1) := by decide +kernel
theorem dX4_freeOn_40 : decode cX4_freeOn 40 = .ok (.aload_n 0, 1) := by decide +kernel
theorem dX4_freeOn_41 : decode cX4_freeOn 41 = .ok (.sipush 768, 3) := by decide +kernel
theorem dX4_freeOn_44 : decode cX4_freeOn 44 = .ok (.iaload, 1) := by decide +kernel
theorem dX4_freeOn_45 : decode cX4_freeOn 45 = .ok (.iconst 1, 1) := by decide +kernel
theorem dX4_freeOn_46 : decode cX4_freeOn 46 = .ok (.iadd, 1) := by decide +kernel
theorem dX4_freeOn_47 : decode cX4_freeOn 47 = .ok (.iastore, 1) := by decide +kernel
theorem dX4_freeOn_48 : decode cX4_freeOn 48 = .ok (.iinc 4 1, 3) := by decide +kernel
theorem dX4_freeOn_51 : decode cX4_freeOn 51 = .ok (.goto (-46), 3) := by decide +kernel
theorem dX4_freeOn_54 : decode cX4_freeOn 54 = .ok (.iload_n 1, 1) := by decide +kernel
theorem dX4_freeOn_55 : decode cX4_freeOn 55 = .ok (.istore 4, 2) := by decide +kernel
theorem dX4_freeOn_57 : decode cX4_freeOn 57 = .ok (.iload 4, 2) := by decide +kernel
theorem dX4_freeOn_59 : decode cX4_freeOn 59 = .ok (.iload_n 1, 1) := by decide +kernel
theorem dX4_freeOn_60 : decode cX4_freeOn 60 = .ok (.iload_n 2, 1) := by decide +kernel
theorem dX4_freeOn_61 : decode cX4_freeOn 61 = .ok (.iadd, 1) := by decide +kernel
theorem dX4_freeOn_62 : decode cX4_freeOn 62 = .ok (.if_icmp .ge 73, 3) := by decide +kernel
theorem dX4_freeOn_65 : decode cX4_freeOn 65 = .ok (.aload_n 0, 1) := by decide +kernel
theorem dX4_freeOn_66 : decode cX4_freeOn 66 = .ok (.sipush 512, 3) := by decide +kernel
theorem dX4_freeOn_69 : decode cX4_freeOn 69 = .ok (.iload 4, 2) := by decide +kernel
theorem dX4_freeOn_71 : decode cX4_freeOn 71 = .ok (.iadd, 1) := by decide +kernel
theorem dX4_freeOn_72 : decode cX4_freeOn 72 = .ok (.iaload, 1) := by decide +kernel
theorem dX4_freeOn_73 : decode cX4_freeOn 73 = .ok (.aload_n 0, 1) := by decide +kernel
theorem dX4_freeOn_74 : decode cX4_freeOn 74 = .ok (.sipush 768, 3) := by decide +kernel
theorem dX4_freeOn_77 : decode cX4_freeOn 77 = .ok (.iaload, 1) := by decide +kernel
theorem dX4_freeOn_78 : decode cX4_freeOn 78 = .ok (.iconst 1, 1) := by decide +kernel
theorem dX4_freeOn_79 : decode cX4_freeOn 79 = .ok (.iadd, 1) := by decide +kernel
theorem dX4_freeOn_80 : decode cX4_freeOn 80 = .ok (.if_icmp .ne 49, 3) := by decide +kernel
theorem dX4_freeOn_83 : decode cX4_freeOn 83 = .ok (.aload_n 0, 1) := by decide +kernel
theorem dX4_freeOn_84 : decode cX4_freeOn 84 = .ok (.iload 4, 2) := by decide +kernel
theorem dX4_freeOn_86 : decode cX4_freeOn 86 = .ok (.invokestatic 70, 3) := by decide +kernel
theorem dX4_freeOn_89 : decode cX4_freeOn 89 = .ok (.istore 5, 2) := by decide +kernel
theorem dX4_freeOn_91 : decode cX4_freeOn 91 = .ok (.aload_n 0, 1) := by decide +kernel
theorem dX4_freeOn_92 : decode cX4_freeOn 92 = .ok (.iload 4, 2) := by decide +kernel
theorem dX4_freeOn_94 : decode cX4_freeOn 94 = .ok (.invokestatic 63, 3) := by decide +kernel
theorem dX4_freeOn_97 : decode cX4_freeOn 97 = .ok (.istore 6, 2) := by decide +kernel
theorem dX4_freeOn_99 : decode cX4_freeOn 99 = .ok (.iload 5, 2) := by decide +kernel
theorem dX4_freeOn_101 : decode cX4_freeOn 101 = .ok (.istore 7, 2) := by decide +kernel
theorem dX4_freeOn_103 : decode cX4_freeOn 103 = .ok (.iload 7, 2) := by decide +kernel
theorem dX4_freeOn_105 : decode cX4_freeOn 105 = .ok (.iload 6, 2) := by decide +kernel
theorem dX4_freeOn_107 : decode cX4_freeOn 107 = .ok (.if_icmp .ge 22, 3) := by decide +kernel
theorem dX4_freeOn_110 : decode cX4_freeOn 110 = .ok (.aload_n 0, 1) := by decide +kernel
theorem dX4_freeOn_111 : decode cX4_freeOn 111 = .ok (.sipush 512, 3) := by decide +kernel
theorem dX4_freeOn_114 : decode cX4_freeOn 114 = .ok (.iload 7, 2) := by decide +kernel
theorem dX4_freeOn_116 : decode cX4_freeOn 116 = .ok (.iadd, 1) := by decide +kernel
theorem dX4_freeOn_117 : decode cX4_freeOn 117 = .ok (.aload_n 0, 1) := by decide +kernel
theorem dX4_freeOn_118 : decode cX4_freeOn 118 = .ok (.sipush 768, 3) := by decide +kernel
theorem dX4_freeOn_121 : decode cX4_freeOn 121 = .ok (.iaload, 1) := by decide +kernel
theorem dX4_freeOn_122 : decode cX4_freeOn 122 = .ok (.iastore, 1) := by decide +kernel
theorem dX4_freeOn_123 : decode cX4_freeOn 123 = .ok (.iinc 7 1, 3) := by decide +kernel
theorem dX4_freeOn_126 : decode cX4_freeOn 126 = .ok (.goto (-23), 3) := by decide +kernel
theorem dX4_freeOn_129 : decode cX4_freeOn 129 = .ok (.iinc 4 1, 3) := by decide +kernel
theorem dX4_freeOn_132 : decode cX4_freeOn 132 = .ok (.goto (-75), 3) := by decide +kernel
theorem dX4_freeOn_135 : decode cX4_freeOn 135 = .ok (.aload_n 0, 1) := by decide +kernel
theorem dX4_freeOn_136 : decode cX4_freeOn 136 = .ok (.sipush 769, 3) := by decide +kernel
theorem dX4_freeOn_139 : decode cX4_freeOn 139 = .ok (.iconst 0, 1) := by decide +kernel
theorem dX4_freeOn_140 : decode cX4_freeOn 140 = .ok (.iastore, 1) := by decide +kernel
theorem dX4_freeOn_141 : decode cX4_freeOn 141 = .ok (.aload_n 0, 1) := by decide +kernel
theorem dX4_freeOn_142 : decode cX4_freeOn 142 = .ok (.invokestatic 67, 3) := by decide +kernel
theorem dX4_freeOn_145 : decode cX4_freeOn 145 = .ok (.iload_n 3, 1) := by decide +kernel
theorem dX4_freeOn_146 : decode cX4_freeOn 146 = .ok (.ireturn, 1) := by decide +kernel
set_option maxRecDepth 20000 in
theorem ggX4_pinOn_X4_allPinned : GoodIn wsX4_pinOn wsX4_allPinned := goodIn_r _ [4, 5, 6, 3, 7] (by decide +kernel) (by decide +kernel)
set_option maxRecDepth 20000 in
theorem gX4_pinOn_X4_allPinned : GoodIn wsX4_pinOn (va_wsS RX4 73 yX4_allPinned wsX4_allPinned) := goodIn_app (goodIn_of _ (by decide +kernel)) ggX4_pinOn_X4_allPinned
theorem dX4_pinOn_0 : decode cX4_pinOn 0 = .ok (.aload_n 0, 1) := by decide +kernel
theorem dX4_pinOn_1 : decode cX4_pinOn 1 = .ok (.sipush 779, 3) := by decide +kernel
theorem dX4_pinOn_4 : decode cX4_pinOn 4 = .ok (.iload_n 1, 1) := by decide +kernel
theorem dX4_pinOn_5 : decode cX4_pinOn 5 = .ok (.iadd, 1) := by decide +kernel
theorem dX4_pinOn_6 : decode cX4_pinOn 6 = .ok (.iload_n 2, 1) := by decide +kernel
theorem dX4_pinOn_7 : decode cX4_pinOn 7 = .ok (.iastore, 1) := by decide +kernel
theorem dX4_pinOn_8 : decode cX4_pinOn 8 = .ok (.aload_n 0, 1) := by decide +kernel
theorem dX4_pinOn_9 : decode cX4_pinOn 9 = .ok (.sipush 782, 3) := by decide +kernel
theorem dX4_pinOn_12 : decode cX4_pinOn 12 = .ok (.iload_n 1, 1) := by decide +kernel
theorem dX4_pinOn_13 : decode cX4_pinOn 13 = .ok (.iadd, 1) := by decide +kernel
theorem dX4_pinOn_14 : decode cX4_pinOn 14 = .ok (.iload_n 3, 1) := by decide +kernel
theorem dX4_pinOn_15 : decode cX4_pinOn 15 = .ok (.iastore, 1) := by decide +kernel
theorem dX4_pinOn_16 : decode cX4_pinOn 16 = .ok (.aload_n 0, 1) := by decide +kernel
theorem dX4_pinOn_17 : decode cX4_pinOn 17 = .ok (.invokestatic 73, 3) := by decide +kernel
theorem dX4_pinOn_20 : decode cX4_pinOn 20 = .ok (.ireturn, 1) := by decide +kernel
theorem dX4_granule_0 : decode cX4_granule 0 = .ok (.iconst 1, 1) := by decide +kernel
theorem dX4_granule_1 : decode cX4_granule 1 = .ok (.aload_n 0, 1) := by decide +kernel
theorem dX4_granule_2 : decode cX4_granule 2 = .ok (.sipush 773, 3) := by decide +kernel
theorem dX4_granule_5 : decode cX4_granule 5 = .ok (.iaload, 1) := by decide +kernel
theorem dX4_granule_6 : decode cX4_granule 6 = .ok (.ishl, 1) := by decide +kernel
theorem dX4_granule_7 : decode cX4_granule 7 = .ok (.ireturn, 1) := by decide +kernel
set_option maxRecDepth 20000 in
theorem ggX4_isGood_X4_granule : GoodIn wsX4_isGood wsX4_granule := goodIn_r _ [4] (by decide +kernel) (by decide +kernel)
set_option maxRecDepth 20000 in
theorem gX4_isGood_X4_granule : GoodIn wsX4_isGood (va_wsS RX4 76 yX4_granule wsX4_granule) := goodIn_app (goodIn_of _ (by decide +kernel)) ggX4_isGood_X4_granule
set_option maxRecDepth 20000 in
theorem ggX4_isGood_X4_in : GoodIn wsX4_isGood wsX4_in := goodIn_r _ [7] (by decide +kernel) (by decide +kernel)
set_option maxRecDepth 20000 in
theorem gX4_isGood_X4_in : GoodIn wsX4_isGood (va_wsS RX4 39 yX4_in wsX4_in) := goodIn_app (goodIn_of _ (by decide +kernel)) ggX4_isGood_X4_in
set_option maxRecDepth 20000 in
theorem ggX4_isGood_X4_isQueued : GoodIn wsX4_isGood wsX4_isQueued := goodIn_r _ [10, 11, 12, 3, 13, 14, 5, 6, 7] (by decide +kernel) (by decide +kernel)
set_option maxRecDepth 20000 in
theorem gX4_isGood_X4_isQueued : GoodIn wsX4_isGood (va_wsS RX4 53 yX4_isQueued wsX4_isQueued) := goodIn_app (goodIn_of _ (by decide +kernel)) ggX4_isGood_X4_isQueued
set_option maxRecDepth 20000 in
theorem ggX4_isGood_X4_isPinned : GoodIn wsX4_isGood wsX4_isPinned := goodIn_r _ [17] (by decide +kernel) (by decide +kernel)
set_option maxRecDepth 20000 in
theorem gX4_isGood_X4_isPinned : GoodIn wsX4_isGood (va_wsS RX4 49 yX4_isPinned wsX4_isPinned) := goodIn_app (goodIn_of _ (by decide +kernel)) ggX4_isGood_X4_isPinned
theorem dX4_isGood_0 : decode cX4_isGood 0 = .ok (.aload_n 0, 1) := by decide +kernel
theorem dX4_isGood_1 : decode cX4_isGood 1 = .ok (.invokestatic 76, 3) := by decide +kernel
theorem dX4_isGood_4 : decode cX4_isGood 4 = .ok (.istore_n 2, 1) := by decide +kernel
theorem dX4_isGood_5 : decode cX4_isGood 5 = .ok (.iload_n 1, 1) := by decide +kernel
theorem dX4_isGood_6 : decode cX4_isGood 6 = .ok (.i2l, 1) := by decide +kernel
theorem dX4_isGood_7 : decode cX4_isGood 7 = .ok (.lconst 0, 1) := by decide +kernel
theorem dX4_isGood_8 : decode cX4_isGood 8 = .ok (.sipush 256, 3) := by decide +kernel
theorem dX4_isGood_11 : decode cX4_isGood 11 = .ok (.iload_n 2, 1) := by decide +kernel
theorem dX4_isGood_12 : decode cX4_isGood 12 = .ok (.isub, 1) := by decide +kernel
theorem dX4_isGood_13 : decode cX4_isGood 13 = .ok (.i2l, 1) := by decide +kernel
theorem dX4_isGood_14 : decode cX4_isGood 14 = .ok (.invokestatic 39, 3) := by decide +kernel
theorem dX4_isGood_17 : decode cX4_isGood 17 = .ok (.ifCond .eq 9, 3) := by decide +kernel
theorem dX4_isGood_20 : decode cX4_isGood 20 = .ok (.iload_n 1, 1) := by decide +kernel
theorem dX4_isGood_21 : decode cX4_isGood 21 = .ok (.iload_n 2, 1) := by decide +kernel
theorem dX4_isGood_22 : decode cX4_isGood 22 = .ok (.irem, 1) := by decide +kernel
theorem dX4_isGood_23 : decode cX4_isGood 23 = .ok (.ifCond .le 5, 3) := by decide +kernel
theorem dX4_isGood_26 : decode cX4_isGood 26 = .ok (.iconst 0, 1) := by decide +kernel
theorem dX4_isGood_27 : decode cX4_isGood 27 = .ok (.ireturn, 1) := by decide +kernel
theorem dX4_isGood_28 : decode cX4_isGood 28 = .ok (.iload_n 1, 1) := by decide +kernel
theorem dX4_isGood_29 : decode cX4_isGood 29 = .ok (.istore_n 3, 1) := by decide +kernel
theorem dX4_isGood_30 : decode cX4_isGood 30 = .ok (.iload_n 3, 1) := by decide +kernel
theorem dX4_isGood_31 : decode cX4_isGood 31 = .ok (.iload_n 1, 1) := by decide +kernel
theorem dX4_isGood_32 : decode cX4_isGood 32 = .ok (.iload_n 2, 1) := by decide +kernel
theorem dX4_isGood_33 : decode cX4_isGood 33 = .ok (.iadd, 1) := by decide +kernel
theorem dX4_isGood_34 : decode cX4_isGood 34 = .ok (.if_icmp .ge 27, 3) := by decide +kernel
theorem dX4_isGood_37 : decode cX4_isGood 37 = .ok (.aload_n 0, 1) := by decide +kernel
theorem dX4_isGood_38 : decode cX4_isGood 38 = .ok (.iload_n 3, 1) := by decide +kernel
theorem dX4_isGood_39 : decode cX4_isGood 39 = .ok (.invokestatic 53, 3) := by decide +kernel
theorem dX4_isGood_42 : decode cX4_isGood 42 = .ok (.ifCond .eq 11, 3) := by decide +kernel
theorem dX4_isGood_45 : decode cX4_isGood 45 = .ok (.aload_n 0, 1) := by decide +kernel
theorem dX4_isGood_46 : decode cX4_isGood 46 = .ok (.iload_n 3, 1) := by decide +kernel
theorem dX4_isGood_47 : decode cX4_isGood 47 = .ok (.invokestatic 49, 3) := by decide +kernel
theorem dX4_isGood_50 : decode cX4_isGood 50 = .ok (.ifCond .eq 5, 3) := by decide +kernel
theorem dX4_isGood_53 : decode cX4_isGood 53 = .ok (.iconst 0, 1) := by decide +kernel
theorem dX4_isGood_54 : decode cX4_isGood 54 = .ok (.ireturn, 1) := by decide +kernel
theorem dX4_isGood_55 : decode cX4_isGood 55 = .ok (.iinc 3 1, 3) := by decide +kernel
theorem dX4_isGood_58 : decode cX4_isGood 58 = .ok (.goto (-28), 3) := by decide +kernel
theorem dX4_isGood_61 : decode cX4_isGood 61 = .ok (.iconst 1, 1) := by decide +kernel
theorem dX4_isGood_62 : decode cX4_isGood 62 = .ok (.ireturn, 1) := by decide +kernel
set_option maxRecDepth 20000 in
theorem ggX4_piece_X4_granule : GoodIn wsX4_piece wsX4_granule := goodIn_r _ [4] (by decide +kernel) (by decide +kernel)
set_option maxRecDepth 20000 in
theorem gX4_piece_X4_granule : GoodIn wsX4_piece (va_wsS RX4 76 yX4_granule wsX4_granule) := goodIn_app (goodIn_of _ (by decide +kernel)) ggX4_piece_X4_granule
set_option maxRecDepth 20000 in
theorem ggX4_piece_X4_isGood : GoodIn wsX4_piece wsX4_isGood := goodIn_r _ [7, 1, 2, 3, 4, 8, 9, 10, 11, 12, 13, 14, 15, 16, 17, 18, 19, 20] (by decide +kernel) (by decide +kernel)
set_option maxRecDepth 20000 in
theorem gX4_piece_X4_isGood : GoodIn wsX4_piece (va_wsS RX4 79 yX4_isGood wsX4_isGood) := goodIn_app (goodIn_of _ (by decide +kernel)) ggX4_piece_X4_isGood
theorem dX4_piece_0 : decode cX4_piece 0 = .ok (.aload_n 0, 1) := by decide +kernel
theorem dX4_piece_1 : decode cX4_piece 1 = .ok (.invokestatic 76, 3) := by decide +kernel
theorem dX4_piece_4 : decode cX4_piece 4 = .ok (.istore_n 2, 1) := by decide +kernel
theorem dX4_piece_5 : decode cX4_piece 5 = .ok (.aload_n 0, 1) := by decide +kernel
theorem dX4_piece_6 : decode cX4_piece 6 = .ok (.iload_n 1, 1) := by decide +kernel
theorem dX4_piece_7 : decode cX4_piece 7 = .ok (.invokestatic 79, 3) := by decide +kernel
theorem dX4_piece_10 : decode cX4_piece 10 = .ok (.ifCond .eq 13, 3) := by decide +kernel
theorem dX4_piece_13 : decode cX4_piece 13 = .ok (.aload_n 0, 1) := by decide +kernel
theorem dX4_piece_14 : decode cX4_piece 14 = .ok (.iload_n 1, 1) := by decide +kernel
theorem dX4_piece_15 : decode cX4_piece 15 = .ok (.iload_n 2, 1) := by decide +kernel
theorem dX4_piece_16 : decode cX4_piece 16 = .ok (.isub, 1) := by decide +kernel
theorem dX4_piece_17 : decode cX4_piece 17 = .ok (.invokestatic 79, 3) := by decide +kernel
theorem dX4_piece_20 : decode cX4_piece 20 = .ok (.ifCond .eq 5, 3) := by decide +kernel
theorem dX4_piece_23 : decode cX4_piece 23 = .ok (.iconst 0, 1) := by decide +kernel
theorem dX4_piece_24 : decode cX4_piece 24 = .ok (.ireturn, 1) := by decide +kernel
theorem dX4_piece_25 : decode cX4_piece 25 = .ok (.iconst 0, 1) := by decide +kernel
theorem dX4_piece_26 : decode cX4_piece 26 = .ok (.istore_n 3, 1) := by decide +kernel
theorem dX4_piece_27 : decode cX4_piece 27 = .ok (.aload_n 0, 1) := by decide +kernel
theorem dX4_piece_28 : decode cX4_piece 28 = .ok (.iload_n 1, 1) := by decide +kernel
theorem dX4_piece_29 : decode cX4_piece 29 = .ok (.iload_n 3, 1) := by decide +kernel
theorem dX4_piece_30 : decode cX4_piece 30 = .ok (.iload_n 2, 1) := by decide +kernel
theorem dX4_piece_31 : decode cX4_piece 31 = .ok (.imul, 1) := by decide +kernel
theorem dX4_piece_32 : decode cX4_piece 32 = .ok (.iadd, 1) := by decide +kernel
theorem dX4_piece_33 : decode cX4_piece 33 = .ok (.invokestatic 79, 3) := by decide +kernel
theorem dX4_piece_36 : decode cX4_piece 36 = .ok (.ifCond .eq 9, 3) := by decide +kernel
theorem dX4_piece_39 : decode cX4_piece 39 = .ok (.iinc 3 1, 3) := by decide +kernel
theorem dX4_piece_42 : decode cX4_piece 42 = .ok (.goto (-15), 3) := by decide +kernel
theorem dX4_piece_45 : decode cX4_piece 45 = .ok (.iload_n 3, 1) := by decide +kernel
theorem dX4_piece_46 : decode cX4_piece 46 = .ok (.ireturn, 1) := by decide +kernel
theorem dX4_isDue_0 : decode cX4_isDue 0 = .ok (.aload_n 0, 1) := by decide +kernel
theorem dX4_isDue_1 : decode cX4_isDue 1 = .ok (.sipush 768, 3) := by decide +kernel
theorem dX4_isDue_4 : decode cX4_isDue 4 = .ok (.iaload, 1) := by decide +kernel
theorem dX4_isDue_5 : decode cX4_isDue 5 = .ok (.aload_n 0, 1) := by decide +kernel
theorem dX4_isDue_6 : decode cX4_isDue 6 = .ok (.sipush 512, 3) := by decide +kernel
theorem dX4_isDue_9 : decode cX4_isDue 9 = .ok (.iload_n 1, 1) := by decide +kernel
theorem dX4_isDue_10 : decode cX4_isDue 10 = .ok (.iadd, 1) := by decide +kernel
theorem dX4_isDue_11 : decode cX4_isDue 11 = .ok (.iaload, 1) := by decide +kernel
theorem dX4_isDue_12 : decode cX4_isDue 12 = .ok (.isub, 1) := by decide +kernel
theorem dX4_isDue_13 : decode cX4_isDue 13 = .ok (.aload_n 0, 1) := by decide +kernel
theorem dX4_isDue_14 : decode cX4_isDue 14 = .ok (.sipush 776, 3) := by decide +kernel
theorem dX4_isDue_17 : decode cX4_isDue 17 = .ok (.iaload, 1) := by decide +kernel
theorem dX4_isDue_18 : decode cX4_isDue 18 = .ok (.if_icmp .lt 7, 3) := by decide +kernel
theorem dX4_isDue_21 : decode cX4_isDue 21 = .ok (.iconst 1, 1) := by decide +kernel
theorem dX4_isDue_22 : decode cX4_isDue 22 = .ok (.goto 4, 3) := by decide +kernel
theorem dX4_isDue_25 : decode cX4_isDue 25 = .ok (.iconst 0, 1) := by decide +kernel
theorem dX4_isDue_26 : decode cX4_isDue 26 = .ok (.ireturn, 1) := by decide +kernel
set_option maxRecDepth 20000 in
theorem ggX4_chosen_X4_piece : GoodIn wsX4_chosen wsX4_piece := goodIn_r _ [4, 5, 6, 3, 7, 8, 9, 10, 11, 12, 13, 14, 15, 16, 17, 18, 19, 20, 21, 22, 23] (by decide +kernel) (by decide +kernel)
set_option maxRecDepth 20000 in
theorem gX4_chosen_X4_piece : GoodIn wsX4_chosen (va_wsS RX4 82 yX4_piece wsX4_piece) := goodIn_app (goodIn_of _ (by decide +kernel)) ggX4_chosen_X4_piece
set_option maxRecDepth 20000 in
theorem ggX4_chosen_X4_isDue : GoodIn wsX4_chosen wsX4_isDue := goodIn_r _ [26] (by decide +kernel) (by decide +kernel)
set_option maxRecDepth 20000 in
theorem gX4_chosen_X4_isDue : GoodIn wsX4_chosen (va_wsS RX4 85 yX4_isDue wsX4_isDue) := goodIn_app (goodIn_of _ (by decide +kernel)) ggX4_chosen_X4_isDue
theorem dX4_chosen_0 : decode cX4_chosen 0 = .ok (.iconst (-1), 1) := by decide +kernel
theorem dX4_chosen_1 : decode cX4_chosen 1 = .ok (.istore_n 3, 1) := by decide +kernel
theorem dX4_chosen_2 : decode cX4_chosen 2 = .ok (.iconst 0, 1) := by decide +kernel
theorem dX4_chosen_3 : decode cX4_chosen 3 = .ok (.istore 4, 2) := by decide +kernel
theorem dX4_chosen_5 : decode cX4_chosen 5 = .ok (.iload 4, 2) := by decide +kernel
theorem dX4_chosen_7 : decode cX4_chosen 7 = .ok (.sipush 256, 3) := by decide +kernel
theorem dX4_chosen_10 : decode cX4_chosen 10 = .ok (.if_icmp .ge 96, 3) := by decide +kernel
theorem dX4_chosen_13 : decode cX4_chosen 13 = .ok (.aload_n 0, 1) := by decide +kernel
theorem dX4_chosen_14 : decode cX4_chosen 14 = .ok (.iload 4, 2) := by decide +kernel
theorem dX4_chosen_16 : decode cX4_chosen 16 = .ok (.invokestatic 82, 3) := by decide +kernel
theorem dX4_chosen_19 : decode cX4_chosen 19 = .ok (.ifCond .le 81, 3) := by decide +kernel
theorem dX4_chosen_22 : decode cX4_chosen 22 = .ok (.iload_n 2, 1) := by decide +kernel
theorem dX4_chosen_23 : decode cX4_chosen 23 = .ok (.ifCond .eq 12, 3) := by decide +kernel
theorem dX4_chosen_26 : decode cX4_chosen 26 = .ok (.aload_n 0, 1) := by decide +kernel
theorem dX4_chosen_27 : decode cX4_chosen 27 = .ok (.iload 4, 2) := by decide +kernel
theorem dX4_chosen_29 : decode cX4_chosen 29 = .ok (.invokestatic 85, 3) := by decide +kernel
theorem dX4_chosen_32 : decode cX4_chosen 32 = .ok (.ifCond .eq 68, 3) := by decide +kernel
theorem dX4_chosen_35 : decode cX4_chosen 35 = .ok (.iload_n 3, 1) := by decide +kernel
theorem dX4_chosen_36 : decode cX4_chosen 36 = .ok (.iconst (-1), 1) := by decide +kernel
theorem dX4_chosen_37 : decode cX4_chosen 37 = .ok (.if_icmp .eq 44, 3) := by decide +kernel
theorem dX4_chosen_40 : decode cX4_chosen 40 = .ok (.iload_n 1, 1) := by decide +kernel
theorem dX4_chosen_41 : decode cX4_chosen 41 = .ok (.ifCond .ne 21, 3) := by decide +kernel
theorem dX4_chosen_44 : decode cX4_chosen 44 = .ok (.aload_n 0, 1) := by decide +kernel
theorem dX4_chosen_45 : decode cX4_chosen 45 = .ok (.sipush 512, 3) := by decide +kernel
theorem dX4_chosen_48 : decode cX4_chosen 48 = .ok (.iload 4, 2) := by decide +kernel
theorem dX4_chosen_50 : decode cX4_chosen 50 = .ok (.iadd, 1) := by decide +kernel
theorem dX4_chosen_51 : decode cX4_chosen 51 = .ok (.iaload, 1) := by decide +kernel
theorem dX4_chosen_52 : decode cX4_chosen 52 = .ok (.aload_n 0, 1) := by decide +kernel
theorem dX4_chosen_53 : decode cX4_chosen 53 = .ok (.sipush 512, 3) := by decide +kernel
theorem dX4_chosen_56 : decode cX4_chosen 56 = .ok (.iload_n 3, 1) := by decide +kernel
theorem dX4_chosen_57 : decode cX4_chosen 57 = .ok (.iadd, 1) := by decide +kernel
theorem dX4_chosen_58 : decode cX4_chosen 58 = .ok (.iaload, 1) := by decide +kernel
theorem dX4_chosen_59 : decode cX4_chosen 59 = .ok (.if_icmp .lt 22, 3) := by decide +kernel
theorem dX4_chosen_62 : decode cX4_chosen 62 = .ok (.iload_n 1, 1) := by decide +kernel
theorem dX4_chosen_63 : decode cX4_chosen 63 = .ok (.iconst 1, 1) := by decide +kernel
theorem dX4_chosen_64 : decode cX4_chosen 64 = .ok (.if_icmp .ne 21, 3) := by decide +kernel
theorem dX4_chosen_67 : decode cX4_chosen 67 = .ok (.aload_n 0, 1) := by decide +kernel
theorem dX4_chosen_68 : decode cX4_chosen 68 = .ok (.iload 4, 2) := by decide +kernel
theorem dX4_chosen_70 : decode cX4_chosen 70 = .ok (.invokestatic 82, 3) := by decide +kernel
theorem dX4_chosen_73 : decode cX4_chosen 73 = .ok (.aload_n 0, 1) := by decide +kernel
theorem dX4_chosen_74 : decode cX4_chosen 74 = .ok (.iload_n 3, 1) := by decide +kernel
theorem dX4_chosen_75 : decode cX4_chosen 75 = .ok (.invokestatic 82, 3) := by decide +kernel
theorem dX4_chosen_78 : decode cX4_chosen 78 = .ok (.if_icmp .le 7, 3) := by decide +kernel
theorem dX4_chosen_81 : decode cX4_chosen 81 = .ok (.iconst 1, 1) := by decide +kernel
theorem dX4_chosen_82 : decode cX4_chosen 82 = .ok (.goto 4, 3) := by decide +kernel
theorem dX4_chosen_85 : decode cX4_chosen 85 = .ok (.iconst 0, 1) := by decide +kernel
theorem dX4_chosen_86 : decode cX4_chosen 86 = .ok (.istore 5, 2) := by decide +kernel
theorem dX4_chosen_88 : decode cX4_chosen 88 = .ok (.iload 5, 2) := by decide +kernel
theorem dX4_chosen_90 : decode cX4_chosen 90 = .ok (.ifCond .eq 8, 3) := by decide +kernel
theorem dX4_chosen_93 : decode cX4_chosen 93 = .ok (.iload 4, 2) := by decide +kernel
theorem dX4_chosen_95 : decode cX4_chosen 95 = .ok (.goto 4, 3) := by decide +kernel
theorem dX4_chosen_98 : decode cX4_chosen 98 = .ok (.iload_n 3, 1) := by decide +kernel
theorem dX4_chosen_99 : decode cX4_chosen 99 = .ok (.istore_n 3, 1) := by decide +kernel
theorem dX4_chosen_100 : decode cX4_chosen 100 = .ok (.iinc 4 1, 3) := by decide +kernel
theorem dX4_chosen_103 : decode cX4_chosen 103 = .ok (.goto (-98), 3) := by decide +kernel
theorem dX4_chosen_106 : decode cX4_chosen 106 = .ok (.iload_n 3, 1) := by decide +kernel
theorem dX4_chosen_107 : decode cX4_chosen 107 = .ok (.ireturn, 1) := by decide +kernel
set_option maxRecDepth 20000 in
theorem ggX4_send_X4_granule : GoodIn wsX4_send wsX4_granule := goodIn_r _ [6] (by decide +kernel) (by decide +kernel)
set_option maxRecDepth 20000 in
theorem gX4_send_X4_granule : GoodIn wsX4_send (va_wsS RX4 76 yX4_granule wsX4_granule) := goodIn_app (goodIn_of _ (by decide +kernel)) ggX4_send_X4_granule
set_option maxRecDepth 20000 in
theorem ggX4_send_X4_limit : GoodIn wsX4_send wsX4_limit := goodIn_r _ [9, 10, 11, 5, 12, 13, 14, 15, 16, 17, 18, 19, 20, 21, 22, 23, 24, 25, 26, 27, 28] (by decide +kernel) (by decide +kernel)
set_option maxRecDepth 20000 in
theorem gX4_send_X4_limit : GoodIn wsX4_send (va_wsS RX4 67 yX4_limit wsX4_limit) := goodIn_app (goodIn_of _ (by decide +kernel)) ggX4_send_X4_limit
theorem dX4_send_0 : decode cX4_send 0 = .ok (.iload_n 3, 1) := by decide +kernel
theorem dX4_send_1 : decode cX4_send 1 = .ok (.aload_n 1, 1) := by decide +kernel
theorem dX4_send_2 : decode cX4_send 2 = .ok (.invokestatic 76, 3) := by decide +kernel
theorem dX4_send_5 : decode cX4_send 5 = .ok (.imul, 1) := by decide +kernel
theorem dX4_send_6 : decode cX4_send 6 = .ok (.istore 4, 2) := by decide +kernel
theorem dX4_send_8 : decode cX4_send 8 = .ok (.iload_n 2, 1) := by decide +kernel
theorem dX4_send_9 : decode cX4_send 9 = .ok (.istore 5, 2) := by decide +kernel
theorem dX4_send_11 : decode cX4_send 11 = .ok (.iload 5, 2) := by decide +kernel
theorem dX4_send_13 : decode cX4_send 13 = .ok (.iload_n 2, 1) := by decide +kernel
theorem dX4_send_14 : decode cX4_send 14 = .ok (.iload 4, 2) := by decide +kernel
theorem dX4_send_16 : decode cX4_send 16 = .ok (.iadd, 1) := by decide +kernel
theorem dX4_send_17 : decode cX4_send 17 = .ok (.if_icmp .ge 27, 3) := by decide +kernel
theorem dX4_send_20 : decode cX4_send 20 = .ok (.aload_n 1, 1) := by decide +kernel
theorem dX4_send_21 : decode cX4_send 21 = .ok (.sipush 256, 3) := by decide +kernel
theorem dX4_send_24 : decode cX4_send 24 = .ok (.iload 5, 2) := by decide +kernel
theorem dX4_send_26 : decode cX4_send 26 = .ok (.iadd, 1) := by decide +kernel
theorem dX4_send_27 : decode cX4_send 27 = .ok (.iconst 0, 1) := by decide +kernel
theorem dX4_send_28 : decode cX4_send 28 = .ok (.iastore, 1) := by decide +kernel
theorem dX4_send_29 : decode cX4_send 29 = .ok (.aload_n 1, 1) := by decide +kernel
theorem dX4_send_30 : decode cX4_send 30 = .ok (.sipush 512, 3) := by decide +kernel
theorem dX4_send_33 : decode cX4_send 33 = .ok (.iload 5, 2) := by decide +kernel
theorem dX4_send_35 : decode cX4_send 35 = .ok (.iadd, 1) := by decide +kernel
theorem dX4_send_36 : decode cX4_send 36 = .ok (.iconst (-1), 1) := by decide +kernel
theorem dX4_send_37 : decode cX4_send 37 = .ok (.iastore, 1) := by decide +kernel
theorem dX4_send_38 : decode cX4_send 38 = .ok (.iinc 5 1, 3) := by decide +kernel
theorem dX4_send_41 : decode cX4_send 41 = .ok (.goto (-30), 3) := by decide +kernel
theorem dX4_send_44 : decode cX4_send 44 = .ok (.aload_n 1, 1) := by decide +kernel
theorem dX4_send_45 : decode cX4_send 45 = .ok (.sipush 770, 3) := by decide +kernel
theorem dX4_send_48 : decode cX4_send 48 = .ok (.dup2, 1) := by decide +kernel
theorem dX4_send_49 : decode cX4_send 49 = .ok (.iaload, 1) := by decide +kernel
theorem dX4_send_50 : decode cX4_send 50 = .ok (.iconst 1, 1) := by decide +kernel
theorem dX4_send_51 : decode cX4_send 51 = .ok (.iadd, 1) := by decide +kernel
theorem dX4_send_52 : decode cX4_send 52 = .ok (.iastore, 1) := by decide +kernel
theorem dX4_send_53 : decode cX4_send 53 = .ok (.aload_n 1, 1) := by decide +kernel
theorem dX4_send_54 : decode cX4_send 54 = .ok (.sipush 771, 3) := by decide +kernel
theorem dX4_send_57 : decode cX4_send 57 = .ok (.dup2, 1) := by decide +kernel
theorem dX4_send_58 : decode cX4_send 58 = .ok (.iaload, 1) := by decide +kernel
theorem dX4_send_59 : decode cX4_send 59 = .ok (.iload 4, 2) := by decide +kernel
theorem dX4_send_61 : decode cX4_send 61 = .ok (.iadd, 1) := by decide +kernel
theorem dX4_send_62 : decode cX4_send 62 = .ok (.iastore, 1) := by decide +kernel
theorem dX4_send_63 : decode cX4_send 63 = .ok (.aload_n 0, 1) := by decide +kernel
theorem dX4_send_64 : decode cX4_send 64 = .ok (.iload_n 2, 1) := by decide +kernel
theorem dX4_send_65 : decode cX4_send 65 = .ok (.putfield 88, 3) := by decide +kernel
theorem dX4_send_68 : decode cX4_send 68 = .ok (.aload_n 0, 1) := by decide +kernel
theorem dX4_send_69 : decode cX4_send 69 = .ok (.iload 4, 2) := by decide +kernel
theorem dX4_send_71 : decode cX4_send 71 = .ok (.putfield 91, 3) := by decide +kernel
theorem dX4_send_74 : decode cX4_send 74 = .ok (.aload_n 1, 1) := by decide +kernel
theorem dX4_send_75 : decode cX4_send 75 = .ok (.invokestatic 67, 3) := by decide +kernel
theorem dX4_send_78 : decode cX4_send 78 = .ok (.return_, 1) := by decide +kernel
theorem dX4_least_0 : decode cX4_least 0 = .ok (.iload_n 0, 1) := by decide +kernel
theorem dX4_least_1 : decode cX4_least 1 = .ok (.iload_n 1, 1) := by decide +kernel
theorem dX4_least_2 : decode cX4_least 2 = .ok (.if_icmp .ge 7, 3) := by decide +kernel
theorem dX4_least_5 : decode cX4_least 5 = .ok (.iload_n 0, 1) := by decide +kernel
theorem dX4_least_6 : decode cX4_least 6 = .ok (.goto 4, 3) := by decide +kernel
theorem dX4_least_9 : decode cX4_least 9 = .ok (.iload_n 1, 1) := by decide +kernel
theorem dX4_least_10 : decode cX4_least 10 = .ok (.ireturn, 1) := by decide +kernel
set_option maxRecDepth 20000 in
theorem ggX4_tick_X4_chosen : GoodIn wsX4_tick wsX4_chosen := goodIn_r _ [4, 5, 6, 3, 7, 8, 9, 10, 11, 12, 13, 14, 15, 16, 17, 18, 19, 20, 21, 22, 23, 24, 25, 26, 27, 28, 29] (by decide +kernel) (by decide +kernel)
set_option maxRecDepth 20000 in
theorem gX4_tick_X4_chosen : GoodIn wsX4_tick (va_wsS RX4 94 yX4_chosen wsX4_chosen) := goodIn_app (goodIn_of _ (by decide +kernel)) ggX4_tick_X4_chosen
set_option maxRecDepth 20000 in
theorem ggX4_tick_X4_piece : GoodIn wsX4_tick wsX4_piece := goodIn_r _ [7, 8, 9, 3, 10, 11, 12, 13, 14, 15, 16, 17, 18, 19, 20, 21, 22, 23, 24, 25, 26] (by decide +kernel) (by decide +kernel)
set_option maxRecDepth 20000 in
theorem gX4_tick_X4_piece : GoodIn wsX4_tick (va_wsS RX4 82 yX4_piece wsX4_piece) := goodIn_app (goodIn_of _ (by decide +kernel)) ggX4_tick_X4_piece
set_option maxRecDepth 20000 in
theorem ggX4_tick_X4_least : GoodIn wsX4_tick wsX4_least := goodIn_r _ [32] (by decide +kernel) (by decide +kernel)
set_option maxRecDepth 20000 in
theorem gX4_tick_X4_least : GoodIn wsX4_tick (va_wsS RX4 98 yX4_least wsX4_least) := goodIn_app (goodIn_of _ (by decide +kernel)) ggX4_tick_X4_least
set_option maxRecDepth 20000 in
theorem ggX4_tick_X4_send : GoodIn wsX4_tick wsX4_send := goodIn_r _ [36, 37, 38, 8, 9, 3, 10, 39, 40, 41, 42, 43, 44, 45, 46, 47, 17, 18, 19, 20, 21, 22, 23, 14, 15, 16, 48, 49, 50, 51, 52, 53, 54, 55, 56, 57, 58, 59, 60, 61, 62, 63] (by decide +kernel) (by decide +kernel)
set_option maxRecDepth 20000 in
theorem gX4_tick_X4_send : GoodIn wsX4_tick (wsV RX4 102 RX4 yX4_send wsX4_send) := goodIn_app (goodIn_of _ (by decide +kernel)) ggX4_tick_X4_send
theorem dX4_tick_0 : decode cX4_tick 0 = .ok (.aload_n 1, 1) := by decide +kernel
theorem dX4_tick_1 : decode cX4_tick 1 = .ok (.sipush 769, 3) := by decide +kernel
theorem dX4_tick_4 : decode cX4_tick 4 = .ok (.iaload, 1) := by decide +kernel
theorem dX4_tick_5 : decode cX4_tick 5 = .ok (.aload_n 1, 1) := by decide +kernel
theorem dX4_tick_6 : decode cX4_tick 6 = .ok (.sipush 774, 3) := by decide +kernel
theorem dX4_tick_9 : decode cX4_tick 9 = .ok (.iaload, 1) := by decide +kernel
theorem dX4_tick_10 : decode cX4_tick 10 = .ok (.if_icmp .lt 11, 3) := by decide +kernel
theorem dX4_tick_13 : decode cX4_tick 13 = .ok (.aload_n 1, 1) := by decide +kernel
theorem dX4_tick_14 : decode cX4_tick 14 = .ok (.sipush 775, 3) := by decide +kernel
theorem dX4_tick_17 : decode cX4_tick 17 = .ok (.iaload, 1) := by decide +kernel
theorem dX4_tick_18 : decode cX4_tick 18 = .ok (.goto 4, 3) := by decide +kernel
theorem dX4_tick_21 : decode cX4_tick 21 = .ok (.iconst 0, 1) := by decide +kernel
theorem dX4_tick_22 : decode cX4_tick 22 = .ok (.istore_n 2, 1) := by decide +kernel
theorem dX4_tick_23 : decode cX4_tick 23 = .ok (.aload_n 1, 1) := by decide +kernel
theorem dX4_tick_24 : decode cX4_tick 24 = .ok (.sipush 777, 3) := by decide +kernel
theorem dX4_tick_27 : decode cX4_tick 27 = .ok (.iaload, 1) := by decide +kernel
theorem dX4_tick_28 : decode cX4_tick 28 = .ok (.istore_n 3, 1) := by decide +kernel
theorem dX4_tick_29 : decode cX4_tick 29 = .ok (.iload_n 2, 1) := by decide +kernel
theorem dX4_tick_30 : decode cX4_tick 30 = .ok (.iload_n 3, 1) := by decide +kernel
theorem dX4_tick_31 : decode cX4_tick 31 = .ok (.if_icmp .le 16, 3) := by decide +kernel
theorem dX4_tick_34 : decode cX4_tick 34 = .ok (.aload_n 1, 1) := by decide +kernel
theorem dX4_tick_35 : decode cX4_tick 35 = .ok (.aload_n 1, 1) := by decide +kernel
theorem dX4_tick_36 : decode cX4_tick 36 = .ok (.sipush 778, 3) := by decide +kernel
theorem dX4_tick_39 : decode cX4_tick 39 = .ok (.iaload, 1) := by decide +kernel
theorem dX4_tick_40 : decode cX4_tick 40 = .ok (.iconst 1, 1) := by decide +kernel
theorem dX4_tick_41 : decode cX4_tick 41 = .ok (.invokestatic 94, 3) := by decide +kernel
theorem dX4_tick_44 : decode cX4_tick 44 = .ok (.goto 4, 3) := by decide +kernel
theorem dX4_tick_47 : decode cX4_tick 47 = .ok (.iconst (-1), 1) := by decide +kernel
theorem dX4_tick_48 : decode cX4_tick 48 = .ok (.istore 4, 2) := by decide +kernel
theorem dX4_tick_50 : decode cX4_tick 50 = .ok (.iload 4, 2) := by decide +kernel
theorem dX4_tick_52 : decode cX4_tick 52 = .ok (.iconst (-1), 1) := by decide +kernel
theorem dX4_tick_53 : decode cX4_tick 53 = .ok (.if_icmp .eq 62, 3) := by decide +kernel
theorem dX4_tick_56 : decode cX4_tick 56 = .ok (.bipush 16, 2) := by decide +kernel
theorem dX4_tick_58 : decode cX4_tick 58 = .ok (.aload_n 1, 1) := by decide +kernel
theorem dX4_tick_59 : decode cX4_tick 59 = .ok (.iload 4, 2) := by decide +kernel
theorem dX4_tick_61 : decode cX4_tick 61 = .ok (.invokestatic 82, 3) := by decide +kernel
theorem dX4_tick_64 : decode cX4_tick 64 = .ok (.iload_n 2, 1) := by decide +kernel
theorem dX4_tick_65 : decode cX4_tick 65 = .ok (.iload_n 3, 1) := by decide +kernel
theorem dX4_tick_66 : decode cX4_tick 66 = .ok (.isub, 1) := by decide +kernel
theorem dX4_tick_67 : decode cX4_tick 67 = .ok (.invokestatic 98, 3) := by decide +kernel
theorem dX4_tick_70 : decode cX4_tick 70 = .ok (.invokestatic 98, 3) := by decide +kernel
theorem dX4_tick_73 : decode cX4_tick 73 = .ok (.istore 5, 2) := by decide +kernel
theorem dX4_tick_75 : decode cX4_tick 75 = .ok (.aload_n 0, 1) := by decide +kernel
theorem dX4_tick_76 : decode cX4_tick 76 = .ok (.aload_n 1, 1) := by decide +kernel
theorem dX4_tick_77 : decode cX4_tick 77 = .ok (.iload 4, 2) := by decide +kernel
theorem dX4_tick_79 : decode cX4_tick 79 = .ok (.iload 5, 2) := by decide +kernel
theorem dX4_tick_81 : decode cX4_tick 81 = .ok (.invokevirtual 102, 3) := by decide +kernel
theorem dX4_tick_84 : decode cX4_tick 84 = .ok (.iload_n 2, 1) := by decide +kernel
theorem dX4_tick_85 : decode cX4_tick 85 = .ok (.iload_n 3, 1) := by decide +kernel
theorem dX4_tick_86 : decode cX4_tick 86 = .ok (.iload 5, 2) := by decide +kernel
theorem dX4_tick_88 : decode cX4_tick 88 = .ok (.iadd, 1) := by decide +kernel
theorem dX4_tick_89 : decode cX4_tick 89 = .ok (.isub, 1) := by decide +kernel
theorem dX4_tick_90 : decode cX4_tick 90 = .ok (.istore_n 2, 1) := by decide +kernel
theorem dX4_tick_91 : decode cX4_tick 91 = .ok (.iload_n 2, 1) := by decide +kernel
theorem dX4_tick_92 : decode cX4_tick 92 = .ok (.iload_n 3, 1) := by decide +kernel
theorem dX4_tick_93 : decode cX4_tick 93 = .ok (.if_icmp .le 16, 3) := by decide +kernel
theorem dX4_tick_96 : decode cX4_tick 96 = .ok (.aload_n 1, 1) := by decide +kernel
theorem dX4_tick_97 : decode cX4_tick 97 = .ok (.aload_n 1, 1) := by decide +kernel
theorem dX4_tick_98 : decode cX4_tick 98 = .ok (.sipush 778, 3) := by decide +kernel
theorem dX4_tick_101 : decode cX4_tick 101 = .ok (.iaload, 1) := by decide +kernel
theorem dX4_tick_102 : decode cX4_tick 102 = .ok (.iconst 1, 1) := by decide +kernel
theorem dX4_tick_103 : decode cX4_tick 103 = .ok (.invokestatic 94, 3) := by decide +kernel
theorem dX4_tick_106 : decode cX4_tick 106 = .ok (.goto 4, 3) := by decide +kernel
theorem dX4_tick_109 : decode cX4_tick 109 = .ok (.iconst (-1), 1) := by decide +kernel
theorem dX4_tick_110 : decode cX4_tick 110 = .ok (.istore 4, 2) := by decide +kernel
theorem dX4_tick_112 : decode cX4_tick 112 = .ok (.goto (-62), 3) := by decide +kernel
theorem dX4_tick_115 : decode cX4_tick 115 = .ok (.aload_n 1, 1) := by decide +kernel
theorem dX4_tick_116 : decode cX4_tick 116 = .ok (.sipush 769, 3) := by decide +kernel
theorem dX4_tick_119 : decode cX4_tick 119 = .ok (.dup2, 1) := by decide +kernel
theorem dX4_tick_120 : decode cX4_tick 120 = .ok (.iaload, 1) := by decide +kernel
theorem dX4_tick_121 : decode cX4_tick 121 = .ok (.iconst 1, 1) := by decide +kernel
theorem dX4_tick_122 : decode cX4_tick 122 = .ok (.iadd, 1) := by decide +kernel
theorem dX4_tick_123 : decode cX4_tick 123 = .ok (.iastore, 1) := by decide +kernel
theorem dX4_tick_124 : decode cX4_tick 124 = .ok (.aload_n 1, 1) := by decide +kernel
theorem dX4_tick_125 : decode cX4_tick 125 = .ok (.sipush 768, 3) := by decide +kernel
theorem dX4_tick_128 : decode cX4_tick 128 = .ok (.dup2, 1) := by decide +kernel
theorem dX4_tick_129 : decode cX4_tick 129 = .ok (.iaload, 1) := by decide +kernel
theorem dX4_tick_130 : decode cX4_tick 130 = .ok (.iconst 1, 1) := by decide +kernel
theorem dX4_tick_131 : decode cX4_tick 131 = .ok (.iadd, 1) := by decide +kernel
theorem dX4_tick_132 : decode cX4_tick 132 = .ok (.iastore, 1) := by decide +kernel
theorem dX4_tick_133 : decode cX4_tick 133 = .ok (.return_, 1) := by decide +kernel
set_option maxRecDepth 20000 in
theorem ggX4_runOn_X4_tick : GoodIn wsX4_runOn wsX4_tick := goodIn_r _ [5, 6, 7, 4, 8, 9, 10, 11, 12, 13, 14, 15, 16, 17, 18, 19, 20, 21, 22, 23, 24, 25, 26, 27, 28, 29, 30, 31, 32, 33, 34, 35, 36, 37, 38, 39, 40, 41, 42, 43, 44, 45, 46, 47, 48, 49, 50, 51, 52, 53, 54, 55, 56, 57, 58, 59, 60, 61, 62, 63, 64, 65, 66, 67] (by decide +kernel) (by decide +kernel)
set_option maxRecDepth 20000 in
theorem gX4_runOn_X4_tick : GoodIn wsX4_runOn (wsV RX4 106 RX4 yX4_tick wsX4_tick) := goodIn_app (goodIn_of _ (by decide +kernel)) ggX4_runOn_X4_tick
theorem dX4_runOn_0 : decode cX4_runOn 0 = .ok (.aload_n 1, 1) := by decide +kernel
theorem dX4_runOn_1 : decode cX4_runOn 1 = .ok (.sipush 771, 3) := by decide +kernel
theorem dX4_runOn_4 : decode cX4_runOn 4 = .ok (.iaload, 1) := by decide +kernel
theorem dX4_runOn_5 : decode cX4_runOn 5 = .ok (.istore_n 3, 1) := by decide +kernel
theorem dX4_runOn_6 : decode cX4_runOn 6 = .ok (.iconst 0, 1) := by decide +kernel
theorem dX4_runOn_7 : decode cX4_runOn 7 = .ok (.istore 4, 2) := by decide +kernel
theorem dX4_runOn_9 : decode cX4_runOn 9 = .ok (.iload 4, 2) := by decide +kernel
theorem dX4_runOn_11 : decode cX4_runOn 11 = .ok (.iload_n 2, 1) := by decide +kernel
theorem dX4_runOn_12 : decode cX4_runOn 12 = .ok (.if_icmp .ge 14, 3) := by decide +kernel
theorem dX4_runOn_15 : decode cX4_runOn 15 = .ok (.aload_n 0, 1) := by decide +kernel
theorem dX4_runOn_16 : decode cX4_runOn 16 = .ok (.aload_n 1, 1) := by decide +kernel
theorem dX4_runOn_17 : decode cX4_runOn 17 = .ok (.invokevirtual 106, 3) := by decide +kernel
theorem dX4_runOn_20 : decode cX4_runOn 20 = .ok (.iinc 4 1, 3) := by decide +kernel
theorem dX4_runOn_23 : decode cX4_runOn 23 = .ok (.goto (-14), 3) := by decide +kernel
theorem dX4_runOn_26 : decode cX4_runOn 26 = .ok (.aload_n 1, 1) := by decide +kernel
theorem dX4_runOn_27 : decode cX4_runOn 27 = .ok (.sipush 771, 3) := by decide +kernel
theorem dX4_runOn_30 : decode cX4_runOn 30 = .ok (.iaload, 1) := by decide +kernel
theorem dX4_runOn_31 : decode cX4_runOn 31 = .ok (.iload_n 3, 1) := by decide +kernel
theorem dX4_runOn_32 : decode cX4_runOn 32 = .ok (.isub, 1) := by decide +kernel
theorem dX4_runOn_33 : decode cX4_runOn 33 = .ok (.ireturn, 1) := by decide +kernel
set_option maxRecDepth 20000 in
theorem ggX4_flushOn_X4_chosen : GoodIn wsX4_flushOn wsX4_chosen := goodIn_r _ [4, 5, 6, 3, 7, 8, 9, 10, 11, 12, 13, 14, 15, 16, 17, 18, 19, 20, 21, 22, 23, 24, 25, 26, 27, 28, 29] (by decide +kernel) (by decide +kernel)
set_option maxRecDepth 20000 in
theorem gX4_flushOn_X4_chosen : GoodIn wsX4_flushOn (va_wsS RX4 94 yX4_chosen wsX4_chosen) := goodIn_app (goodIn_of _ (by decide +kernel)) ggX4_flushOn_X4_chosen
set_option maxRecDepth 20000 in
theorem ggX4_flushOn_X4_piece : GoodIn wsX4_flushOn wsX4_piece := goodIn_r _ [7, 8, 9, 3, 10, 11, 12, 13, 14, 15, 16, 17, 18, 19, 20, 21, 22, 23, 24, 25, 26] (by decide +kernel) (by decide +kernel)
set_option maxRecDepth 20000 in
theorem gX4_flushOn_X4_piece : GoodIn wsX4_flushOn (va_wsS RX4 82 yX4_piece wsX4_piece) := goodIn_app (goodIn_of _ (by decide +kernel)) ggX4_flushOn_X4_piece
set_option maxRecDepth 20000 in
theorem ggX4_flushOn_X4_least : GoodIn wsX4_flushOn wsX4_least := goodIn_r _ [32] (by decide +kernel) (by decide +kernel)
set_option maxRecDepth 20000 in
theorem gX4_flushOn_X4_least : GoodIn wsX4_flushOn (va_wsS RX4 98 yX4_least wsX4_least) := goodIn_app (goodIn_of _ (by decide +kernel)) ggX4_flushOn_X4_least
set_option maxRecDepth 20000 in
theorem ggX4_flushOn_X4_send : GoodIn wsX4_flushOn wsX4_send := goodIn_r _ [36, 37, 38, 8, 9, 3, 10, 39, 40, 41, 42, 43, 44, 45, 46, 47, 17, 18, 19, 20, 21, 22, 23, 14, 15, 16, 48, 49, 50, 51, 52, 53, 54, 55, 56, 57, 58, 59, 60, 61, 62, 63] (by decide +kernel) (by decide +kernel)
set_option maxRecDepth 20000 in
theorem gX4_flushOn_X4_send : GoodIn wsX4_flushOn (wsV RX4 102 RX4 yX4_send wsX4_send) := goodIn_app (goodIn_of _ (by decide +kernel)) ggX4_flushOn_X4_send
theorem dX4_flushOn_0 : decode cX4_flushOn 0 = .ok (.aload_n 1, 1) := by decide +kernel
theorem dX4_flushOn_1 : decode cX4_flushOn 1 = .ok (.sipush 770, 3) := by decide +kernel
theorem dX4_flushOn_4 : decode cX4_flushOn 4 = .ok (.iaload, 1) := by decide +kernel
theorem dX4_flushOn_5 : decode cX4_flushOn 5 = .ok (.istore_n 2, 1) := by decide +kernel
theorem dX4_flushOn_6 : decode cX4_flushOn 6 = .ok (.aload_n 1, 1) := by decide +kernel
theorem dX4_flushOn_7 : decode cX4_flushOn 7 = .ok (.iconst 2, 1) := by decide +kernel
theorem dX4_flushOn_8 : decode cX4_flushOn 8 = .ok (.iconst 0, 1) := by decide +kernel
theorem dX4_flushOn_9 : decode cX4_flushOn 9 = .ok (.invokestatic 94, 3) := by decide +kernel
theorem dX4_flushOn_12 : decode cX4_flushOn 12 = .ok (.istore_n 3, 1) := by decide +kernel
theorem dX4_flushOn_13 : decode cX4_flushOn 13 = .ok (.iload_n 3, 1) := by decide +kernel
theorem dX4_flushOn_14 : decode cX4_flushOn 14 = .ok (.iconst (-1), 1) := by decide +kernel
theorem dX4_flushOn_15 : decode cX4_flushOn 15 = .ok (.if_icmp .eq 29, 3) := by decide +kernel
theorem dX4_flushOn_18 : decode cX4_flushOn 18 = .ok (.aload_n 0, 1) := by decide +kernel
theorem dX4_flushOn_19 : decode cX4_flushOn 19 = .ok (.aload_n 1, 1) := by decide +kernel
theorem dX4_flushOn_20 : decode cX4_flushOn 20 = .ok (.iload_n 3, 1) := by decide +kernel
theorem dX4_flushOn_21 : decode cX4_flushOn 21 = .ok (.bipush 16, 2) := by decide +kernel
theorem dX4_flushOn_23 : decode cX4_flushOn 23 = .ok (.aload_n 1, 1) := by decide +kernel
theorem dX4_flushOn_24 : decode cX4_flushOn 24 = .ok (.iload_n 3, 1) := by decide +kernel
theorem dX4_flushOn_25 : decode cX4_flushOn 25 = .ok (.invokestatic 82, 3) := by decide +kernel
theorem dX4_flushOn_28 : decode cX4_flushOn 28 = .ok (.invokestatic 98, 3) := by decide +kernel
theorem dX4_flushOn_31 : decode cX4_flushOn 31 = .ok (.invokevirtual 102, 3) := by decide +kernel
theorem dX4_flushOn_34 : decode cX4_flushOn 34 = .ok (.aload_n 1, 1) := by decide +kernel
theorem dX4_flushOn_35 : decode cX4_flushOn 35 = .ok (.iconst 2, 1) := by decide +kernel
theorem dX4_flushOn_36 : decode cX4_flushOn 36 = .ok (.iconst 0, 1) := by decide +kernel
theorem dX4_flushOn_37 : decode cX4_flushOn 37 = .ok (.invokestatic 94, 3) := by decide +kernel
theorem dX4_flushOn_40 : decode cX4_flushOn 40 = .ok (.istore_n 3, 1) := by decide +kernel
theorem dX4_flushOn_41 : decode cX4_flushOn 41 = .ok (.goto (-28), 3) := by decide +kernel
theorem dX4_flushOn_44 : decode cX4_flushOn 44 = .ok (.aload_n 1, 1) := by decide +kernel
theorem dX4_flushOn_45 : decode cX4_flushOn 45 = .ok (.sipush 770, 3) := by decide +kernel
theorem dX4_flushOn_48 : decode cX4_flushOn 48 = .ok (.iaload, 1) := by decide +kernel
theorem dX4_flushOn_49 : decode cX4_flushOn 49 = .ok (.iload_n 2, 1) := by decide +kernel
theorem dX4_flushOn_50 : decode cX4_flushOn 50 = .ok (.isub, 1) := by decide +kernel
theorem dX4_flushOn_51 : decode cX4_flushOn 51 = .ok (.ireturn, 1) := by decide +kernel
theorem dX4_greatest_0 : decode cX4_greatest 0 = .ok (.iload_n 0, 1) := by decide +kernel
theorem dX4_greatest_1 : decode cX4_greatest 1 = .ok (.ifCond .ne 7, 3) := by decide +kernel
theorem dX4_greatest_4 : decode cX4_greatest 4 = .ok (.iconst 4, 1) := by decide +kernel
theorem dX4_greatest_5 : decode cX4_greatest 5 = .ok (.goto 44, 3) := by decide +kernel
theorem dX4_greatest_8 : decode cX4_greatest 8 = .ok (.iload_n 0, 1) := by decide +kernel
theorem dX4_greatest_9 : decode cX4_greatest 9 = .ok (.iconst 1, 1) := by decide +kernel
theorem dX4_greatest_10 : decode cX4_greatest 10 = .ok (.if_icmp .ne 8, 3) := by decide +kernel
theorem dX4_greatest_13 : decode cX4_greatest 13 = .ok (.bipush 20, 2) := by decide +kernel
theorem dX4_greatest_15 : decode cX4_greatest 15 = .ok (.goto 34, 3) := by decide +kernel
theorem dX4_greatest_18 : decode cX4_greatest 18 = .ok (.iload_n 0, 1) := by decide +kernel
theorem dX4_greatest_19 : decode cX4_greatest 19 = .ok (.iconst 2, 1) := by decide +kernel
theorem dX4_greatest_20 : decode cX4_greatest 20 = .ok (.if_icmp .ne 8, 3) := by decide +kernel
theorem dX4_greatest_23 : decode cX4_greatest 23 = .ok (.bipush 40, 2) := by decide +kernel
theorem dX4_greatest_25 : decode cX4_greatest 25 = .ok (.goto 24, 3) := by decide +kernel
theorem dX4_greatest_28 : decode cX4_greatest 28 = .ok (.iload_n 0, 1) := by decide +kernel
theorem dX4_greatest_29 : decode cX4_greatest 29 = .ok (.iconst 3, 1) := by decide +kernel
theorem dX4_greatest_30 : decode cX4_greatest 30 = .ok (.if_icmp .ne 8, 3) := by decide +kernel
theorem dX4_greatest_33 : decode cX4_greatest 33 = .ok (.bipush 50, 2) := by decide +kernel
theorem dX4_greatest_35 : decode cX4_greatest 35 = .ok (.goto 14, 3) := by decide +kernel
theorem dX4_greatest_38 : decode cX4_greatest 38 = .ok (.iload_n 0, 1) := by decide +kernel
theorem dX4_greatest_39 : decode cX4_greatest 39 = .ok (.iconst 4, 1) := by decide +kernel
theorem dX4_greatest_40 : decode cX4_greatest 40 = .ok (.if_icmp .ne 8, 3) := by decide +kernel
theorem dX4_greatest_43 : decode cX4_greatest 43 = .ok (.bipush 9, 2) := by decide +kernel
theorem dX4_greatest_45 : decode cX4_greatest 45 = .ok (.goto 4, 3) := by decide +kernel
theorem dX4_greatest_48 : decode cX4_greatest 48 = .ok (.iconst 2, 1) := by decide +kernel
theorem dX4_greatest_49 : decode cX4_greatest 49 = .ok (.ireturn, 1) := by decide +kernel
set_option maxRecDepth 20000 in
theorem ggX4_isSetting_X4_in : GoodIn wsX4_isSetting wsX4_in := goodIn_r _ [5] (by decide +kernel) (by decide +kernel)
set_option maxRecDepth 20000 in
theorem gX4_isSetting_X4_in : GoodIn wsX4_isSetting (va_wsS RX4 39 yX4_in wsX4_in) := goodIn_app (goodIn_of _ (by decide +kernel)) ggX4_isSetting_X4_in
set_option maxRecDepth 20000 in
theorem ggX4_isSetting_X4_greatest : GoodIn wsX4_isSetting wsX4_greatest := goodIn_r _ [8] (by decide +kernel) (by decide +kernel)
set_option maxRecDepth 20000 in
theorem gX4_isSetting_X4_greatest : GoodIn wsX4_isSetting (va_wsS RX4 111 yX4_greatest wsX4_greatest) := goodIn_app (goodIn_of _ (by decide +kernel)) ggX4_isSetting_X4_greatest
theorem dX4_isSetting_0 : decode cX4_isSetting 0 = .ok (.iload_n 0, 1) := by decide +kernel
theorem dX4_isSetting_1 : decode cX4_isSetting 1 = .ok (.i2l, 1) := by decide +kernel
theorem dX4_isSetting_2 : decode cX4_isSetting 2 = .ok (.lconst 0, 1) := by decide +kernel
theorem dX4_isSetting_3 : decode cX4_isSetting 3 = .ok (.ldc2_w 109, 3) := by decide +kernel
theorem dX4_isSetting_6 : decode cX4_isSetting 6 = .ok (.invokestatic 39, 3) := by decide +kernel
theorem dX4_isSetting_9 : decode cX4_isSetting 9 = .ok (.ifCond .eq 21, 3) := by decide +kernel
theorem dX4_isSetting_12 : decode cX4_isSetting 12 = .ok (.iload_n 1, 1) := by decide +kernel
theorem dX4_isSetting_13 : decode cX4_isSetting 13 = .ok (.i2l, 1) := by decide +kernel
theorem dX4_isSetting_14 : decode cX4_isSetting 14 = .ok (.lconst 0, 1) := by decide +kernel
theorem dX4_isSetting_15 : decode cX4_isSetting 15 = .ok (.iload_n 0, 1) := by decide +kernel
theorem dX4_isSetting_16 : decode cX4_isSetting 16 = .ok (.invokestatic 111, 3) := by decide +kernel
theorem dX4_isSetting_19 : decode cX4_isSetting 19 = .ok (.i2l, 1) := by decide +kernel
theorem dX4_isSetting_20 : decode cX4_isSetting 20 = .ok (.invokestatic 39, 3) := by decide +kernel
theorem dX4_isSetting_23 : decode cX4_isSetting 23 = .ok (.ifCond .eq 7, 3) := by decide +kernel
theorem dX4_isSetting_26 : decode cX4_isSetting 26 = .ok (.iconst 1, 1) := by decide +kernel
theorem dX4_isSetting_27 : decode cX4_isSetting 27 = .ok (.goto 4, 3) := by decide +kernel
theorem dX4_isSetting_30 : decode cX4_isSetting 30 = .ok (.iconst 0, 1) := by decide +kernel
theorem dX4_isSetting_31 : decode cX4_isSetting 31 = .ok (.ireturn, 1) := by decide +kernel
theorem dX4_lay_0 : decode cX4_lay 0 = .ok (.aload_n 0, 1) := by decide +kernel
theorem dX4_lay_1 : decode cX4_lay 1 = .ok (.sipush 773, 3) := by decide +kernel
theorem dX4_lay_4 : decode cX4_lay 4 = .ok (.iload_n 1, 1) := by decide +kernel
theorem dX4_lay_5 : decode cX4_lay 5 = .ok (.iadd, 1) := by decide +kernel
theorem dX4_lay_6 : decode cX4_lay 6 = .ok (.iaload, 1) := by decide +kernel
theorem dX4_lay_7 : decode cX4_lay 7 = .ok (.istore_n 3, 1) := by decide +kernel
theorem dX4_lay_8 : decode cX4_lay 8 = .ok (.aload_n 0, 1) := by decide +kernel
theorem dX4_lay_9 : decode cX4_lay 9 = .ok (.sipush 773, 3) := by decide +kernel
theorem dX4_lay_12 : decode cX4_lay 12 = .ok (.iload_n 1, 1) := by decide +kernel
theorem dX4_lay_13 : decode cX4_lay 13 = .ok (.iadd, 1) := by decide +kernel
theorem dX4_lay_14 : decode cX4_lay 14 = .ok (.iload_n 2, 1) := by decide +kernel
theorem dX4_lay_15 : decode cX4_lay 15 = .ok (.iastore, 1) := by decide +kernel
theorem dX4_lay_16 : decode cX4_lay 16 = .ok (.iload_n 3, 1) := by decide +kernel
theorem dX4_lay_17 : decode cX4_lay 17 = .ok (.ireturn, 1) := by decide +kernel
set_option maxRecDepth 20000 in
theorem ggX4_append_X4_in : GoodIn wsX4_append wsX4_in := goodIn_r _ [7] (by decide +kernel) (by decide +kernel)
set_option maxRecDepth 20000 in
theorem gX4_append_X4_in : GoodIn wsX4_append (va_wsS RX4 39 yX4_in wsX4_in) := goodIn_app (goodIn_of _ (by decide +kernel)) ggX4_append_X4_in
set_option maxRecDepth 20000 in
theorem ggX4_append_X4_refused : GoodIn wsX4_append wsX4_refused := goodIn_r _ [11, 12, 13, 14, 15, 16, 17, 18, 19, 20, 21, 22, 23, 24, 25] (by decide +kernel) (by decide +kernel)
set_option maxRecDepth 20000 in
theorem gX4_append_X4_refused : GoodIn wsX4_append (wsV RX4 118 RX4 yX4_refused wsX4_refused) := goodIn_app (goodIn_of _ (by decide +kernel)) ggX4_append_X4_refused
theorem dX4_append_0 : decode cX4_append 0 = .ok (.aload_n 0, 1) := by decide +kernel
theorem dX4_append_1 : decode cX4_append 1 = .ok (.iload_n 1, 1) := by decide +kernel
theorem dX4_append_2 : decode cX4_append 2 = .ok (.i2l, 1) := by decide +kernel
theorem dX4_append_3 : decode cX4_append 3 = .ok (.lconst 0, 1) := by decide +kernel
theorem dX4_append_4 : decode cX4_append 4 = .ok (.ldc2_w 37, 3) := by decide +kernel
theorem dX4_append_7 : decode cX4_append 7 = .ok (.invokestatic 39, 3) := by decide +kernel
theorem dX4_append_10 : decode cX4_append 10 = .ok (.ifCond .ne 7, 3) := by decide +kernel
theorem dX4_append_13 : decode cX4_append 13 = .ok (.iconst 1, 1) := by decide +kernel
theorem dX4_append_14 : decode cX4_append 14 = .ok (.goto 17, 3) := by decide +kernel
theorem dX4_append_17 : decode cX4_append 17 = .ok (.aload_n 0, 1) := by decide +kernel
theorem dX4_append_18 : decode cX4_append 18 = .ok (.getfield 115, 3) := by decide +kernel
theorem dX4_append_21 : decode cX4_append 21 = .ok (.bipush 120, 2) := by decide +kernel
theorem dX4_append_23 : decode cX4_append 23 = .ok (.if_icmp .ne 7, 3) := by decide +kernel
theorem dX4_append_26 : decode cX4_append 26 = .ok (.iconst 2, 1) := by decide +kernel
theorem dX4_append_27 : decode cX4_append 27 = .ok (.goto 4, 3) := by decide +kernel
theorem dX4_append_30 : decode cX4_append 30 = .ok (.iconst 0, 1) := by decide +kernel
theorem dX4_append_31 : decode cX4_append 31 = .ok (.invokevirtual 118, 3) := by decide +kernel
theorem dX4_append_34 : decode cX4_append 34 = .ok (.ifCond .eq 5, 3) := by decide +kernel
theorem dX4_append_37 : decode cX4_append 37 = .ok (.iconst 0, 1) := by decide +kernel
theorem dX4_append_38 : decode cX4_append 38 = .ok (.ireturn, 1) := by decide +kernel
theorem dX4_append_39 : decode cX4_append 39 = .ok (.aload_n 0, 1) := by decide +kernel
theorem dX4_append_40 : decode cX4_append 40 = .ok (.getfield 7, 3) := by decide +kernel
theorem dX4_append_43 : decode cX4_append 43 = .ok (.aload_n 0, 1) := by decide +kernel
theorem dX4_append_44 : decode cX4_append 44 = .ok (.getfield 115, 3) := by decide +kernel
theorem dX4_append_47 : decode cX4_append 47 = .ok (.iload_n 1, 1) := by decide +kernel
theorem dX4_append_48 : decode cX4_append 48 = .ok (.iastore, 1) := by decide +kernel
theorem dX4_append_49 : decode cX4_append 49 = .ok (.aload_n 0, 1) := by decide +kernel
theorem dX4_append_50 : decode cX4_append 50 = .ok (.dup, 1) := by decide +kernel
theorem dX4_append_51 : decode cX4_append 51 = .ok (.getfield 115, 3) := by decide +kernel
theorem dX4_append_54 : decode cX4_append 54 = .ok (.iconst 1, 1) := by decide +kernel
theorem dX4_append_55 : decode cX4_append 55 = .ok (.iadd, 1) := by decide +kernel
theorem dX4_append_56 : decode cX4_append 56 = .ok (.putfield 115, 3) := by decide +kernel
theorem dX4_append_59 : decode cX4_append 59 = .ok (.aload_n 0, 1) := by decide +kernel
theorem dX4_append_60 : decode cX4_append 60 = .ok (.getfield 115, 3) := by decide +kernel
theorem dX4_append_63 : decode cX4_append 63 = .ok (.ireturn, 1) := by decide +kernel
theorem dX4_clearText_0 : decode cX4_clearText 0 = .ok (.aload_n 0, 1) := by decide +kernel
theorem dX4_clearText_1 : decode cX4_clearText 1 = .ok (.iconst 0, 1) := by decide +kernel
theorem dX4_clearText_2 : decode cX4_clearText 2 = .ok (.putfield 33, 3) := by decide +kernel
theorem dX4_clearText_5 : decode cX4_clearText 5 = .ok (.aload_n 0, 1) := by decide +kernel
theorem dX4_clearText_6 : decode cX4_clearText 6 = .ok (.getfield 115, 3) := by decide +kernel
theorem dX4_clearText_9 : decode cX4_clearText 9 = .ok (.istore_n 1, 1) := by decide +kernel
theorem dX4_clearText_10 : decode cX4_clearText 10 = .ok (.aload_n 0, 1) := by decide +kernel
theorem dX4_clearText_11 : decode cX4_clearText 11 = .ok (.iconst 0, 1) := by decide +kernel
theorem dX4_clearText_12 : decode cX4_clearText 12 = .ok (.putfield 115, 3) := by decide +kernel
theorem dX4_clearText_15 : decode cX4_clearText 15 = .ok (.iload_n 1, 1) := by decide +kernel
theorem dX4_clearText_16 : decode cX4_clearText 16 = .ok (.ireturn, 1) := by decide +kernel
set_option maxRecDepth 20000 in
theorem ggX4_figures_X4_in : GoodIn wsX4_figures wsX4_in := goodIn_r _ [8] (by decide +kernel) (by decide +kernel)
set_option maxRecDepth 20000 in
theorem gX4_figures_X4_in : GoodIn wsX4_figures (va_wsS RX4 39 yX4_in wsX4_in) := goodIn_app (goodIn_of _ (by decide +kernel)) ggX4_figures_X4_in
theorem dX4_figures_0 : decode cX4_figures 0 = .ok (.iconst 0, 1) := by decide +kernel
theorem dX4_figures_1 : decode cX4_figures 1 = .ok (.istore 5, 2) := by decide +kernel
theorem dX4_figures_3 : decode cX4_figures 3 = .ok (.iload_n 2, 1) := by decide +kernel
theorem dX4_figures_4 : decode cX4_figures 4 = .ok (.iconst 3, 1) := by decide +kernel
theorem dX4_figures_5 : decode cX4_figures 5 = .ok (.if_icmp .ne 8, 3) := by decide +kernel
theorem dX4_figures_8 : decode cX4_figures 8 = .ok (.bipush 100, 2) := by decide +kernel
theorem dX4_figures_10 : decode cX4_figures 10 = .ok (.goto 14, 3) := by decide +kernel
theorem dX4_figures_13 : decode cX4_figures 13 = .ok (.iload_n 2, 1) := by decide +kernel
theorem dX4_figures_14 : decode cX4_figures 14 = .ok (.iconst 2, 1) := by decide +kernel
theorem dX4_figures_15 : decode cX4_figures 15 = .ok (.if_icmp .ne 8, 3) := by decide +kernel
theorem dX4_figures_18 : decode cX4_figures 18 = .ok (.bipush 10, 2) := by decide +kernel
theorem dX4_figures_20 : decode cX4_figures 20 = .ok (.goto 4, 3) := by decide +kernel
theorem dX4_figures_23 : decode cX4_figures 23 = .ok (.iconst 1, 1) := by decide +kernel
theorem dX4_figures_24 : decode cX4_figures 24 = .ok (.istore 6, 2) := by decide +kernel
theorem dX4_figures_26 : decode cX4_figures 26 = .ok (.iload 6, 2) := by decide +kernel
theorem dX4_figures_28 : decode cX4_figures 28 = .ok (.ifCond .le 104, 3) := by decide +kernel
theorem dX4_figures_31 : decode cX4_figures 31 = .ok (.iload_n 1, 1) := by decide +kernel
theorem dX4_figures_32 : decode cX4_figures 32 = .ok (.iconst (-1), 1) := by decide +kernel
theorem dX4_figures_33 : decode cX4_figures 33 = .ok (.if_icmp .eq 99, 3) := by decide +kernel
theorem dX4_figures_36 : decode cX4_figures 36 = .ok (.aload_n 0, 1) := by decide +kernel
theorem dX4_figures_37 : decode cX4_figures 37 = .ok (.getfield 121, 3) := by decide +kernel
theorem dX4_figures_40 : decode cX4_figures 40 = .ok (.aload_n 0, 1) := by decide +kernel
theorem dX4_figures_41 : decode cX4_figures 41 = .ok (.getfield 115, 3) := by decide +kernel
theorem dX4_figures_44 : decode cX4_figures 44 = .ok (.if_icmp .ge 18, 3) := by decide +kernel
theorem dX4_figures_47 : decode cX4_figures 47 = .ok (.aload_n 0, 1) := by decide +kernel
theorem dX4_figures_48 : decode cX4_figures 48 = .ok (.getfield 7, 3) := by decide +kernel
theorem dX4_figures_51 : decode cX4_figures 51 = .ok (.aload_n 0, 1) := by decide +kernel
theorem dX4_figures_52 : decode cX4_figures 52 = .ok (.getfield 121, 3) := by decide +kernel
theorem dX4_figures_55 : decode cX4_figures 55 = .ok (.iaload, 1) := by decide +kernel
theorem dX4_figures_56 : decode cX4_figures 56 = .ok (.bipush 48, 2) := by decide +kernel
theorem dX4_figures_58 : decode cX4_figures 58 = .ok (.isub, 1) := by decide +kernel
theorem dX4_figures_59 : decode cX4_figures 59 = .ok (.goto 4, 3) := by decide +kernel
theorem dX4_figures_62 : decode cX4_figures 62 = .ok (.iconst (-1), 1) := by decide +kernel
theorem dX4_figures_63 : decode cX4_figures 63 = .ok (.istore 7, 2) := by decide +kernel
theorem dX4_figures_65 : decode cX4_figures 65 = .ok (.iload 5, 2) := by decide +kernel
theorem dX4_figures_67 : decode cX4_figures 67 = .ok (.iload 7, 2) := by decide +kernel
theorem dX4_figures_69 : decode cX4_figures 69 = .ok (.iload 6, 2) := by decide +kernel
theorem dX4_figures_71 : decode cX4_figures 71 = .ok (.imul, 1) := by decide +kernel
theorem dX4_figures_72 : decode cX4_figures 72 = .ok (.iadd, 1) := by decide +kernel
theorem dX4_figures_73 : decode cX4_figures 73 = .ok (.istore 8, 2) := by decide +kernel
theorem dX4_figures_75 : decode cX4_figures 75 = .ok (.iload 7, 2) := by decide +kernel
theorem dX4_figures_77 : decode cX4_figures 77 = .ok (.i2l, 1) := by decide +kernel
theorem dX4_figures_78 : decode cX4_figures 78 = .ok (.lconst 0, 1) := by decide +kernel
theorem dX4_figures_79 : decode cX4_figures 79 = .ok (.ldc2_w 124, 3) := by decide +kernel
theorem dX4_figures_82 : decode cX4_figures 82 = .ok (.invokestatic 39, 3) := by decide +kernel
theorem dX4_figures_85 : decode cX4_figures 85 = .ok (.ifCond .eq 21, 3) := by decide +kernel
theorem dX4_figures_88 : decode cX4_figures 88 = .ok (.iload 8, 2) := by decide +kernel
theorem dX4_figures_90 : decode cX4_figures 90 = .ok (.iload 4, 2) := by decide +kernel
theorem dX4_figures_92 : decode cX4_figures 92 = .ok (.if_icmp .gt 14, 3) := by decide +kernel
theorem dX4_figures_95 : decode cX4_figures 95 = .ok (.iload 8, 2) := by decide +kernel
theorem dX4_figures_97 : decode cX4_figures 97 = .ok (.iload 6, 2) := by decide +kernel
theorem dX4_figures_99 : decode cX4_figures 99 = .ok (.iadd, 1) := by decide +kernel
theorem dX4_figures_100 : decode cX4_figures 100 = .ok (.iconst 1, 1) := by decide +kernel
theorem dX4_figures_101 : decode cX4_figures 101 = .ok (.isub, 1) := by decide +kernel
theorem dX4_figures_102 : decode cX4_figures 102 = .ok (.iload_n 3, 1) := by decide +kernel
theorem dX4_figures_103 : decode cX4_figures 103 = .ok (.if_icmp .ge 5, 3) := by decide +kernel
theorem dX4_figures_106 : decode cX4_figures 106 = .ok (.iconst (-1), 1) := by decide +kernel
theorem dX4_figures_107 : decode cX4_figures 107 = .ok (.ireturn, 1) := by decide +kernel
theorem dX4_figures_108 : decode cX4_figures 108 = .ok (.iload 8, 2) := by decide +kernel
theorem dX4_figures_110 : decode cX4_figures 110 = .ok (.istore 5, 2) := by decide +kernel
theorem dX4_figures_112 : decode cX4_figures 112 = .ok (.aload_n 0, 1) := by decide +kernel
theorem dX4_figures_113 : decode cX4_figures 113 = .ok (.dup, 1) := by decide +kernel
theorem dX4_figures_114 : decode cX4_figures 114 = .ok (.getfield 121, 3) := by decide +kernel
theorem dX4_figures_117 : decode cX4_figures 117 = .ok (.iconst 1, 1) := by decide +kernel
theorem dX4_figures_118 : decode cX4_figures 118 = .ok (.iadd, 1) := by decide +kernel
theorem dX4_figures_119 : decode cX4_figures 119 = .ok (.putfield 121, 3) := by decide +kernel
theorem dX4_figures_122 : decode cX4_figures 122 = .ok (.iload 6, 2) := by decide +kernel
theorem dX4_figures_124 : decode cX4_figures 124 = .ok (.bipush 10, 2) := by decide +kernel
theorem dX4_figures_126 : decode cX4_figures 126 = .ok (.idiv, 1) := by decide +kernel
theorem dX4_figures_127 : decode cX4_figures 127 = .ok (.istore 6, 2) := by decide +kernel
theorem dX4_figures_129 : decode cX4_figures 129 = .ok (.goto (-103), 3) := by decide +kernel
theorem dX4_figures_132 : decode cX4_figures 132 = .ok (.iload_n 1, 1) := by decide +kernel
theorem dX4_figures_133 : decode cX4_figures 133 = .ok (.iconst (-1), 1) := by decide +kernel
theorem dX4_figures_134 : decode cX4_figures 134 = .ok (.if_icmp .ne 7, 3) := by decide +kernel
theorem dX4_figures_137 : decode cX4_figures 137 = .ok (.iconst (-1), 1) := by decide +kernel
theorem dX4_figures_138 : decode cX4_figures 138 = .ok (.goto 5, 3) := by decide +kernel
theorem dX4_figures_141 : decode cX4_figures 141 = .ok (.iload 5, 2) := by decide +kernel
theorem dX4_figures_143 : decode cX4_figures 143 = .ok (.ireturn, 1) := by decide +kernel
theorem dX4_done_0 : decode cX4_done 0 = .ok (.aload_n 0, 1) := by decide +kernel
theorem dX4_done_1 : decode cX4_done 1 = .ok (.dup, 1) := by decide +kernel
theorem dX4_done_2 : decode cX4_done 2 = .ok (.getfield 126, 3) := by decide +kernel
theorem dX4_done_5 : decode cX4_done 5 = .ok (.iload_n 1, 1) := by decide +kernel
theorem dX4_done_6 : decode cX4_done 6 = .ok (.ifCond .eq 7, 3) := by decide +kernel
theorem dX4_done_9 : decode cX4_done 9 = .ok (.iconst 0, 1) := by decide +kernel
theorem dX4_done_10 : decode cX4_done 10 = .ok (.goto 4, 3) := by decide +kernel
theorem dX4_done_13 : decode cX4_done 13 = .ok (.iconst 1, 1) := by decide +kernel
theorem dX4_done_14 : decode cX4_done 14 = .ok (.iadd, 1) := by decide +kernel
theorem dX4_done_15 : decode cX4_done 15 = .ok (.putfield 126, 3) := by decide +kernel
theorem dX4_done_18 : decode cX4_done 18 = .ok (.iconst 1, 1) := by decide +kernel
theorem dX4_done_19 : decode cX4_done 19 = .ok (.ireturn, 1) := by decide +kernel
set_option maxRecDepth 20000 in
theorem ggX4_readCommand_X4_figures : GoodIn wsX4_readCommand wsX4_figures := goodIn_r _ [7, 2, 8, 1, 9, 10, 11, 6, 12, 101, 102, 103, 104, 105, 106, 107, 108, 109, 110, 111, 112, 113] (by decide +kernel) (by decide +kernel)
set_option maxRecDepth 20000 in
theorem gX4_readCommand_X4_figures : GoodIn wsX4_readCommand (wsV RX4 129 RX4 yX4_figures wsX4_figures) := goodIn_app (goodIn_of _ (by decide +kernel)) ggX4_readCommand_X4_figures
set_option maxRecDepth 20000 in
theorem ggX4_readCommand_X4_whyNotSpan : GoodIn wsX4_readCommand wsX4_whyNotSpan := goodIn_r _ [15, 16, 17, 18, 6, 19, 20, 10, 11, 12] (by decide +kernel) (by decide +kernel)
set_option maxRecDepth 20000 in
theorem gX4_readCommand_X4_whyNotSpan : GoodIn wsX4_readCommand (va_wsS RX4 133 yX4_whyNotSpan wsX4_whyNotSpan) := goodIn_app (goodIn_of _ (by decide +kernel)) ggX4_readCommand_X4_whyNotSpan
set_option maxRecDepth 20000 in
theorem ggX4_readCommand_X4_writeOn : GoodIn wsX4_readCommand wsX4_writeOn := goodIn_r _ [23, 24, 25, 6, 26, 17, 18, 19, 20, 10, 11, 12, 27, 28, 29, 30, 31, 32, 33, 34, 35, 36, 37, 38] (by decide +kernel) (by decide +kernel)
set_option maxRecDepth 20000 in
theorem gX4_readCommand_X4_writeOn : GoodIn wsX4_readCommand (va_wsS RX4 136 yX4_writeOn wsX4_writeOn) := goodIn_app (goodIn_of _ (by decide +kernel)) ggX4_readCommand_X4_writeOn
set_option maxRecDepth 20000 in
theorem ggX4_readCommand_X4_freeOn : GoodIn wsX4_readCommand wsX4_freeOn := goodIn_r _ [41, 42, 43, 6, 44, 24, 25, 26, 17, 18, 19, 20, 10, 11, 12, 36, 37, 38, 27, 28, 29, 30, 31, 32, 33, 34, 35] (by decide +kernel) (by decide +kernel)
set_option maxRecDepth 20000 in
theorem gX4_readCommand_X4_freeOn : GoodIn wsX4_readCommand (va_wsS RX4 140 yX4_freeOn wsX4_freeOn) := goodIn_app (goodIn_of _ (by decide +kernel)) ggX4_readCommand_X4_freeOn
set_option maxRecDepth 20000 in
theorem ggX4_readCommand_X4_done : GoodIn wsX4_readCommand wsX4_done := goodIn_r _ [48, 49, 101, 102, 103, 104, 105, 106, 107, 108, 109, 110, 111, 112, 113] (by decide +kernel) (by decide +kernel)
set_option maxRecDepth 20000 in
theorem gX4_readCommand_X4_done : GoodIn wsX4_readCommand (wsV RX4 143 RX4 yX4_done wsX4_done) := goodIn_app (goodIn_of _ (by decide +kernel)) ggX4_readCommand_X4_done
set_option maxRecDepth 20000 in
theorem ggX4_readCommand_X4_runOn : GoodIn wsX4_readCommand wsX4_runOn := goodIn_r _ [53, 54, 55, 56, 6, 57, 58, 59, 60, 61, 62, 63, 64, 65, 66, 67, 68, 69, 10, 11, 12, 24, 25, 26, 17, 18, 19, 20, 70, 71, 72, 73, 74, 75, 76, 77, 78, 79, 80, 81, 82, 83, 84, 27, 28, 29, 30, 31, 32, 33, 34, 35, 36, 37, 38, 101, 102, 103, 104, 105, 106, 107, 108, 109, 110, 111, 112, 113] (by decide +kernel) (by decide +kernel)
set_option maxRecDepth 20000 in
theorem gX4_readCommand_X4_runOn : GoodIn wsX4_readCommand (wsV RX4 147 RX4 yX4_runOn wsX4_runOn) := goodIn_app (goodIn_of _ (by decide +kernel)) ggX4_readCommand_X4_runOn
set_option maxRecDepth 20000 in
theorem ggX4_readCommand_X4_pinOn : GoodIn wsX4_readCommand wsX4_pinOn := goodIn_r _ [87, 88, 89, 6, 90, 70, 71, 72] (by decide +kernel) (by decide +kernel)
set_option maxRecDepth 20000 in
theorem gX4_readCommand_X4_pinOn : GoodIn wsX4_readCommand (va_wsS RX4 150 yX4_pinOn wsX4_pinOn) := goodIn_app (goodIn_of _ (by decide +kernel)) ggX4_readCommand_X4_pinOn
set_option maxRecDepth 20000 in
theorem ggX4_readCommand_X4_isSetting : GoodIn wsX4_readCommand wsX4_isSetting := goodIn_r _ [93, 94, 10, 11, 6, 12, 95, 96, 97] (by decide +kernel) (by decide +kernel)
set_option maxRecDepth 20000 in
theorem gX4_readCommand_X4_isSetting : GoodIn wsX4_readCommand (va_wsS RX4 154 yX4_isSetting wsX4_isSetting) := goodIn_app (goodIn_of _ (by decide +kernel)) ggX4_readCommand_X4_isSetting
set_option maxRecDepth 20000 in
theorem ggX4_readCommand_X4_lay : GoodIn wsX4_readCommand wsX4_lay := goodIn_r _ [100] (by decide +kernel) (by decide +kernel)
set_option maxRecDepth 20000 in
theorem gX4_readCommand_X4_lay : GoodIn wsX4_readCommand (va_wsS RX4 158 yX4_lay wsX4_lay) := goodIn_app (goodIn_of _ (by decide +kernel)) ggX4_readCommand_X4_lay
theorem dX4_readCommand_0 : decode cX4_readCommand 0 = .ok (.aload_n 0, 1) := by decide +kernel
theorem dX4_readCommand_1 : decode cX4_readCommand 1 = .ok (.getfield 7, 3) := by decide +kernel
theorem dX4_readCommand_4 : decode cX4_readCommand 4 = .ok (.aload_n 0, 1) := by decide +kernel
theorem dX4_readCommand_5 : decode cX4_readCommand 5 = .ok (.getfield 121, 3) := by decide +kernel
theorem dX4_readCommand_8 : decode cX4_readCommand 8 = .ok (.iaload, 1) := by decide +kernel
theorem dX4_readCommand_9 : decode cX4_readCommand 9 = .ok (.istore_n 2, 1) := by decide +kernel
theorem dX4_readCommand_10 : decode cX4_readCommand 10 = .ok (.aload_n 0, 1) := by decide +kernel
theorem dX4_readCommand_11 : decode cX4_readCommand 11 = .ok (.dup, 1) := by decide +kernel
theorem dX4_readCommand_12 : decode cX4_readCommand 12 = .ok (.getfield 121, 3) := by decide +kernel
theorem dX4_readCommand_15 : decode cX4_readCommand 15 = .ok (.iconst 1, 1) := by decide +kernel
theorem dX4_readCommand_16 : decode cX4_readCommand 16 = .ok (.iadd, 1) := by decide +kernel
theorem dX4_readCommand_17 : decode cX4_readCommand 17 = .ok (.putfield 121, 3) := by decide +kernel
theorem dX4_readCommand_20 : decode cX4_readCommand 20 = .ok (.iload_n 2, 1) := by decide +kernel
theorem dX4_readCommand_21 : decode cX4_readCommand 21 = .ok (.lookupswitch 316 #[(102, 51), (105, 132), (112, 174), (115, 253), (119, 51)], 51) := by decide +kernel
theorem dX4_readCommand_72 : decode cX4_readCommand 72 = .ok (.aload_n 0, 1) := by decide +kernel
theorem dX4_readCommand_73 : decode cX4_readCommand 73 = .ok (.iconst 0, 1) := by decide +kernel
theorem dX4_readCommand_74 : decode cX4_readCommand 74 = .ok (.iconst 3, 1) := by decide +kernel
theorem dX4_readCommand_75 : decode cX4_readCommand 75 = .ok (.iconst 0, 1) := by decide +kernel
theorem dX4_readCommand_76 : decode cX4_readCommand 76 = .ok (.sipush 255, 3) := by decide +kernel
theorem dX4_readCommand_79 : decode cX4_readCommand 79 = .ok (.invokevirtual 129, 3) := by decide +kernel
theorem dX4_readCommand_82 : decode cX4_readCommand 82 = .ok (.istore_n 3, 1) := by decide +kernel
theorem dX4_readCommand_83 : decode cX4_readCommand 83 = .ok (.aload_n 0, 1) := by decide +kernel
theorem dX4_readCommand_84 : decode cX4_readCommand 84 = .ok (.iload_n 3, 1) := by decide +kernel
theorem dX4_readCommand_85 : decode cX4_readCommand 85 = .ok (.iconst 2, 1) := by decide +kernel
theorem dX4_readCommand_86 : decode cX4_readCommand 86 = .ok (.iconst 1, 1) := by decide +kernel
theorem dX4_readCommand_87 : decode cX4_readCommand 87 = .ok (.bipush 99, 2) := by decide +kernel
theorem dX4_readCommand_89 : decode cX4_readCommand 89 = .ok (.invokevirtual 129, 3) := by decide +kernel
theorem dX4_readCommand_92 : decode cX4_readCommand 92 = .ok (.istore 4, 2) := by decide +kernel
theorem dX4_readCommand_94 : decode cX4_readCommand 94 = .ok (.iload 4, 2) := by decide +kernel
theorem dX4_readCommand_96 : decode cX4_readCommand 96 = .ok (.iconst (-1), 1) := by decide +kernel
theorem dX4_readCommand_97 : decode cX4_readCommand 97 = .ok (.if_icmp .eq 54, 3) := by decide +kernel
theorem dX4_readCommand_100 : decode cX4_readCommand 100 = .ok (.aload_n 0, 1) := by decide +kernel
theorem dX4_readCommand_101 : decode cX4_readCommand 101 = .ok (.iload_n 3, 1) := by decide +kernel
theorem dX4_readCommand_102 : decode cX4_readCommand 102 = .ok (.iload 4, 2) := by decide +kernel
theorem dX4_readCommand_104 : decode cX4_readCommand 104 = .ok (.invokestatic 133, 3) := by decide +kernel
theorem dX4_readCommand_107 : decode cX4_readCommand 107 = .ok (.ifCond .ne 33, 3) := by decide +kernel
theorem dX4_readCommand_110 : decode cX4_readCommand 110 = .ok (.iload_n 2, 1) := by decide +kernel
theorem dX4_readCommand_111 : decode cX4_readCommand 111 = .ok (.bipush 119, 2) := by decide +kernel
theorem dX4_readCommand_113 : decode cX4_readCommand 113 = .ok (.if_icmp .ne 13, 3) := by decide +kernel
theorem dX4_readCommand_116 : decode cX4_readCommand 116 = .ok (.aload_n 1, 1) := by decide +kernel
theorem dX4_readCommand_117 : decode cX4_readCommand 117 = .ok (.iload_n 3, 1) := by decide +kernel
theorem dX4_readCommand_118 : decode cX4_readCommand 118 = .ok (.iload 4, 2) := by decide +kernel
theorem dX4_readCommand_120 : decode cX4_readCommand 120 = .ok (.invokestatic 136, 3) := by decide +kernel
theorem dX4_readCommand_123 : decode cX4_readCommand 123 = .ok (.goto 10, 3) := by decide +kernel
theorem dX4_readCommand_126 : decode cX4_readCommand 126 = .ok (.aload_n 1, 1) := by decide +kernel
theorem dX4_readCommand_127 : decode cX4_readCommand 127 = .ok (.iload_n 3, 1) := by decide +kernel
theorem dX4_readCommand_128 : decode cX4_readCommand 128 = .ok (.iload 4, 2) := by decide +kernel
theorem dX4_readCommand_130 : decode cX4_readCommand 130 = .ok (.invokestatic 140, 3) := by decide +kernel
theorem dX4_readCommand_133 : decode cX4_readCommand 133 = .ok (.ifCond .lt 7, 3) := by decide +kernel
theorem dX4_readCommand_136 : decode cX4_readCommand 136 = .ok (.iconst 1, 1) := by decide +kernel
theorem dX4_readCommand_137 : decode cX4_readCommand 137 = .ok (.goto 4, 3) := by decide +kernel
theorem dX4_readCommand_140 : decode cX4_readCommand 140 = .ok (.iconst 0, 1) := by decide +kernel
theorem dX4_readCommand_141 : decode cX4_readCommand 141 = .ok (.invokevirtual 143, 3) := by decide +kernel
theorem dX4_readCommand_144 : decode cX4_readCommand 144 = .ok (.ifCond .eq 7, 3) := by decide +kernel
theorem dX4_readCommand_147 : decode cX4_readCommand 147 = .ok (.iconst 1, 1) := by decide +kernel
theorem dX4_readCommand_148 : decode cX4_readCommand 148 = .ok (.goto 4, 3) := by decide +kernel
theorem dX4_readCommand_151 : decode cX4_readCommand 151 = .ok (.iconst 0, 1) := by decide +kernel
theorem dX4_readCommand_152 : decode cX4_readCommand 152 = .ok (.ireturn, 1) := by decide +kernel
theorem dX4_readCommand_153 : decode cX4_readCommand 153 = .ok (.aload_n 0, 1) := by decide +kernel
theorem dX4_readCommand_154 : decode cX4_readCommand 154 = .ok (.iconst 0, 1) := by decide +kernel
theorem dX4_readCommand_155 : decode cX4_readCommand 155 = .ok (.iconst 2, 1) := by decide +kernel
theorem dX4_readCommand_156 : decode cX4_readCommand 156 = .ok (.iconst 1, 1) := by decide +kernel
theorem dX4_readCommand_157 : decode cX4_readCommand 157 = .ok (.bipush 60, 2) := by decide +kernel
theorem dX4_readCommand_159 : decode cX4_readCommand 159 = .ok (.invokevirtual 129, 3) := by decide +kernel
theorem dX4_readCommand_162 : decode cX4_readCommand 162 = .ok (.istore_n 3, 1) := by decide +kernel
theorem dX4_readCommand_163 : decode cX4_readCommand 163 = .ok (.iload_n 3, 1) := by decide +kernel
theorem dX4_readCommand_164 : decode cX4_readCommand 164 = .ok (.iconst (-1), 1) := by decide +kernel
theorem dX4_readCommand_165 : decode cX4_readCommand 165 = .ok (.if_icmp .eq 28, 3) := by decide +kernel
theorem dX4_readCommand_168 : decode cX4_readCommand 168 = .ok (.aload_n 0, 1) := by decide +kernel
theorem dX4_readCommand_169 : decode cX4_readCommand 169 = .ok (.aload_n 0, 1) := by decide +kernel
theorem dX4_readCommand_170 : decode cX4_readCommand 170 = .ok (.aload_n 1, 1) := by decide +kernel
theorem dX4_readCommand_171 : decode cX4_readCommand 171 = .ok (.iload_n 3, 1) := by decide +kernel
theorem dX4_readCommand_172 : decode cX4_readCommand 172 = .ok (.invokevirtual 147, 3) := by decide +kernel
theorem dX4_readCommand_175 : decode cX4_readCommand 175 = .ok (.ifCond .lt 7, 3) := by decide +kernel
theorem dX4_readCommand_178 : decode cX4_readCommand 178 = .ok (.iconst 1, 1) := by decide +kernel
theorem dX4_readCommand_179 : decode cX4_readCommand 179 = .ok (.goto 4, 3) := by decide +kernel
theorem dX4_readCommand_182 : decode cX4_readCommand 182 = .ok (.iconst 0, 1) := by decide +kernel
theorem dX4_readCommand_183 : decode cX4_readCommand 183 = .ok (.invokevirtual 143, 3) := by decide +kernel
theorem dX4_readCommand_186 : decode cX4_readCommand 186 = .ok (.ifCond .eq 7, 3) := by decide +kernel
theorem dX4_readCommand_189 : decode cX4_readCommand 189 = .ok (.iconst 1, 1) := by decide +kernel
theorem dX4_readCommand_190 : decode cX4_readCommand 190 = .ok (.goto 4, 3) := by decide +kernel
theorem dX4_readCommand_193 : decode cX4_readCommand 193 = .ok (.iconst 0, 1) := by decide +kernel
theorem dX4_readCommand_194 : decode cX4_readCommand 194 = .ok (.ireturn, 1) := by decide +kernel
theorem dX4_readCommand_195 : decode cX4_readCommand 195 = .ok (.aload_n 0, 1) := by decide +kernel
theorem dX4_readCommand_196 : decode cX4_readCommand 196 = .ok (.iconst 0, 1) := by decide +kernel
theorem dX4_readCommand_197 : decode cX4_readCommand 197 = .ok (.iconst 1, 1) := by decide +kernel
theorem dX4_readCommand_198 : decode cX4_readCommand 198 = .ok (.iconst 0, 1) := by decide +kernel
theorem dX4_readCommand_199 : decode cX4_readCommand 199 = .ok (.iconst 2, 1) := by decide +kernel
theorem dX4_readCommand_200 : decode cX4_readCommand 200 = .ok (.invokevirtual 129, 3) := by decide +kernel
theorem dX4_readCommand_203 : decode cX4_readCommand 203 = .ok (.istore_n 3, 1) := by decide +kernel
theorem dX4_readCommand_204 : decode cX4_readCommand 204 = .ok (.aload_n 0, 1) := by decide +kernel
theorem dX4_readCommand_205 : decode cX4_readCommand 205 = .ok (.iload_n 3, 1) := by decide +kernel
theorem dX4_readCommand_206 : decode cX4_readCommand 206 = .ok (.iconst 3, 1) := by decide +kernel
theorem dX4_readCommand_207 : decode cX4_readCommand 207 = .ok (.iconst 0, 1) := by decide +kernel
theorem dX4_readCommand_208 : decode cX4_readCommand 208 = .ok (.sipush 255, 3) := by decide +kernel
theorem dX4_readCommand_211 : decode cX4_readCommand 211 = .ok (.invokevirtual 129, 3) := by decide +kernel
theorem dX4_readCommand_214 : decode cX4_readCommand 214 = .ok (.istore 4, 2) := by decide +kernel
theorem dX4_readCommand_216 : decode cX4_readCommand 216 = .ok (.aload_n 0, 1) := by decide +kernel
theorem dX4_readCommand_217 : decode cX4_readCommand 217 = .ok (.iload 4, 2) := by decide +kernel
theorem dX4_readCommand_219 : decode cX4_readCommand 219 = .ok (.iconst 2, 1) := by decide +kernel
theorem dX4_readCommand_220 : decode cX4_readCommand 220 = .ok (.iconst 1, 1) := by decide +kernel
theorem dX4_readCommand_221 : decode cX4_readCommand 221 = .ok (.bipush 99, 2) := by decide +kernel
theorem dX4_readCommand_223 : decode cX4_readCommand 223 = .ok (.invokevirtual 129, 3) := by decide +kernel
theorem dX4_readCommand_226 : decode cX4_readCommand 226 = .ok (.istore 5, 2) := by decide +kernel
theorem dX4_readCommand_228 : decode cX4_readCommand 228 = .ok (.iload 5, 2) := by decide +kernel
theorem dX4_readCommand_230 : decode cX4_readCommand 230 = .ok (.iconst (-1), 1) := by decide +kernel
theorem dX4_readCommand_231 : decode cX4_readCommand 231 = .ok (.if_icmp .eq 41, 3) := by decide +kernel
theorem dX4_readCommand_234 : decode cX4_readCommand 234 = .ok (.aload_n 0, 1) := by decide +kernel
theorem dX4_readCommand_235 : decode cX4_readCommand 235 = .ok (.iload 4, 2) := by decide +kernel
theorem dX4_readCommand_237 : decode cX4_readCommand 237 = .ok (.iload 5, 2) := by decide +kernel
theorem dX4_readCommand_239 : decode cX4_readCommand 239 = .ok (.invokestatic 133, 3) := by decide +kernel
theorem dX4_readCommand_242 : decode cX4_readCommand 242 = .ok (.ifCond .ne 19, 3) := by decide +kernel
theorem dX4_readCommand_245 : decode cX4_readCommand 245 = .ok (.aload_n 1, 1) := by decide +kernel
theorem dX4_readCommand_246 : decode cX4_readCommand 246 = .ok (.iload_n 3, 1) := by decide +kernel
theorem dX4_readCommand_247 : decode cX4_readCommand 247 = .ok (.iload 4, 2) := by decide +kernel
theorem dX4_readCommand_249 : decode cX4_readCommand 249 = .ok (.iload 5, 2) := by decide +kernel
theorem dX4_readCommand_251 : decode cX4_readCommand 251 = .ok (.invokestatic 150, 3) := by decide +kernel
theorem dX4_readCommand_254 : decode cX4_readCommand 254 = .ok (.ifCond .lt 7, 3) := by decide +kernel
theorem dX4_readCommand_257 : decode cX4_readCommand 257 = .ok (.iconst 1, 1) := by decide +kernel
theorem dX4_readCommand_258 : decode cX4_readCommand 258 = .ok (.goto 4, 3) := by decide +kernel
theorem dX4_readCommand_261 : decode cX4_readCommand 261 = .ok (.iconst 0, 1) := by decide +kernel
theorem dX4_readCommand_262 : decode cX4_readCommand 262 = .ok (.invokevirtual 143, 3) := by decide +kernel
theorem dX4_readCommand_265 : decode cX4_readCommand 265 = .ok (.ifCond .eq 7, 3) := by decide +kernel
theorem dX4_readCommand_268 : decode cX4_readCommand 268 = .ok (.iconst 1, 1) := by decide +kernel
theorem dX4_readCommand_269 : decode cX4_readCommand 269 = .ok (.goto 4, 3) := by decide +kernel
theorem dX4_readCommand_272 : decode cX4_readCommand 272 = .ok (.iconst 0, 1) := by decide +kernel
theorem dX4_readCommand_273 : decode cX4_readCommand 273 = .ok (.ireturn, 1) := by decide +kernel
theorem dX4_readCommand_274 : decode cX4_readCommand 274 = .ok (.aload_n 0, 1) := by decide +kernel
theorem dX4_readCommand_275 : decode cX4_readCommand 275 = .ok (.iconst 0, 1) := by decide +kernel
theorem dX4_readCommand_276 : decode cX4_readCommand 276 = .ok (.iconst 1, 1) := by decide +kernel
theorem dX4_readCommand_277 : decode cX4_readCommand 277 = .ok (.iconst 0, 1) := by decide +kernel
theorem dX4_readCommand_278 : decode cX4_readCommand 278 = .ok (.iconst 5, 1) := by decide +kernel
theorem dX4_readCommand_279 : decode cX4_readCommand 279 = .ok (.invokevirtual 129, 3) := by decide +kernel
theorem dX4_readCommand_282 : decode cX4_readCommand 282 = .ok (.istore_n 3, 1) := by decide +kernel
theorem dX4_readCommand_283 : decode cX4_readCommand 283 = .ok (.aload_n 0, 1) := by decide +kernel
theorem dX4_readCommand_284 : decode cX4_readCommand 284 = .ok (.iload_n 3, 1) := by decide +kernel
theorem dX4_readCommand_285 : decode cX4_readCommand 285 = .ok (.iconst 2, 1) := by decide +kernel
theorem dX4_readCommand_286 : decode cX4_readCommand 286 = .ok (.iconst 0, 1) := by decide +kernel
theorem dX4_readCommand_287 : decode cX4_readCommand 287 = .ok (.bipush 99, 2) := by decide +kernel
theorem dX4_readCommand_289 : decode cX4_readCommand 289 = .ok (.invokevirtual 129, 3) := by decide +kernel
theorem dX4_readCommand_292 : decode cX4_readCommand 292 = .ok (.istore 4, 2) := by decide +kernel
theorem dX4_readCommand_294 : decode cX4_readCommand 294 = .ok (.iload 4, 2) := by decide +kernel
theorem dX4_readCommand_296 : decode cX4_readCommand 296 = .ok (.iconst (-1), 1) := by decide +kernel
theorem dX4_readCommand_297 : decode cX4_readCommand 297 = .ok (.if_icmp .eq 38, 3) := by decide +kernel
theorem dX4_readCommand_300 : decode cX4_readCommand 300 = .ok (.aload_n 0, 1) := by decide +kernel
theorem dX4_readCommand_301 : decode cX4_readCommand 301 = .ok (.iload_n 3, 1) := by decide +kernel
theorem dX4_readCommand_302 : decode cX4_readCommand 302 = .ok (.iload 4, 2) := by decide +kernel
theorem dX4_readCommand_304 : decode cX4_readCommand 304 = .ok (.invokestatic 154, 3) := by decide +kernel
theorem dX4_readCommand_307 : decode cX4_readCommand 307 = .ok (.ifCond .eq 17, 3) := by decide +kernel
theorem dX4_readCommand_310 : decode cX4_readCommand 310 = .ok (.aload_n 1, 1) := by decide +kernel
theorem dX4_readCommand_311 : decode cX4_readCommand 311 = .ok (.iload_n 3, 1) := by decide +kernel
theorem dX4_readCommand_312 : decode cX4_readCommand 312 = .ok (.iload 4, 2) := by decide +kernel
theorem dX4_readCommand_314 : decode cX4_readCommand 314 = .ok (.invokestatic 158, 3) := by decide +kernel
theorem dX4_readCommand_317 : decode cX4_readCommand 317 = .ok (.ifCond .lt 7, 3) := by decide +kernel
theorem dX4_readCommand_320 : decode cX4_readCommand 320 = .ok (.iconst 1, 1) := by decide +kernel
theorem dX4_readCommand_321 : decode cX4_readCommand 321 = .ok (.goto 4, 3) := by decide +kernel
theorem dX4_readCommand_324 : decode cX4_readCommand 324 = .ok (.iconst 0, 1) := by decide +kernel
theorem dX4_readCommand_325 : decode cX4_readCommand 325 = .ok (.invokevirtual 143, 3) := by decide +kernel
theorem dX4_readCommand_328 : decode cX4_readCommand 328 = .ok (.ifCond .eq 7, 3) := by decide +kernel
theorem dX4_readCommand_331 : decode cX4_readCommand 331 = .ok (.iconst 1, 1) := by decide +kernel
theorem dX4_readCommand_332 : decode cX4_readCommand 332 = .ok (.goto 4, 3) := by decide +kernel
theorem dX4_readCommand_335 : decode cX4_readCommand 335 = .ok (.iconst 0, 1) := by decide +kernel
theorem dX4_readCommand_336 : decode cX4_readCommand 336 = .ok (.ireturn, 1) := by decide +kernel
theorem dX4_readCommand_337 : decode cX4_readCommand 337 = .ok (.aload_n 0, 1) := by decide +kernel
theorem dX4_readCommand_338 : decode cX4_readCommand 338 = .ok (.dup, 1) := by decide +kernel
theorem dX4_readCommand_339 : decode cX4_readCommand 339 = .ok (.getfield 121, 3) := by decide +kernel
theorem dX4_readCommand_342 : decode cX4_readCommand 342 = .ok (.iconst 1, 1) := by decide +kernel
theorem dX4_readCommand_343 : decode cX4_readCommand 343 = .ok (.isub, 1) := by decide +kernel
theorem dX4_readCommand_344 : decode cX4_readCommand 344 = .ok (.putfield 121, 3) := by decide +kernel
theorem dX4_readCommand_347 : decode cX4_readCommand 347 = .ok (.iconst 0, 1) := by decide +kernel
theorem dX4_readCommand_348 : decode cX4_readCommand 348 = .ok (.ireturn, 1) := by decide +kernel
set_option maxRecDepth 20000 in
theorem ggX4_readText_X4_begin : GoodIn wsX4_readText wsX4_begin := goodIn_r _ [8] (by decide +kernel) (by decide +kernel)
set_option maxRecDepth 20000 in
theorem gX4_readText_X4_begin : GoodIn wsX4_readText (va_wsS RX4 29 yX4_begin wsX4_begin) := goodIn_app (goodIn_of _ (by decide +kernel)) ggX4_readText_X4_begin
set_option maxRecDepth 20000 in
theorem ggX4_readText_X4_readCommand : GoodIn wsX4_readText wsX4_readCommand := goodIn_r _ [12, 4, 2, 13, 14, 15, 7, 16, 3, 17, 18, 19, 20, 21, 22, 23, 24, 25, 26, 27, 28, 29, 30, 31, 32, 33, 34, 35, 36, 37, 38, 39, 40, 41, 42, 43, 44, 45, 46, 47, 48, 49, 50, 51, 52, 53, 54, 55, 56, 1, 57, 58, 59, 60, 61, 62, 63, 64, 65, 66, 67, 68, 69, 70, 71, 72, 73, 74, 75, 76, 77, 78, 79, 80, 81, 82, 83, 84, 85, 86, 87, 88, 89, 90, 91, 92, 93, 94, 95, 96, 97, 98, 99, 100, 101, 102, 103, 104, 105, 106, 107, 108, 109, 110, 111, 112, 113, 114, 115, 116, 117, 118, 119, 120] (by decide +kernel) (by decide +kernel)
set_option maxRecDepth 20000 in
theorem gX4_readText_X4_readCommand : GoodIn wsX4_readText (wsV RX4 161 RX4 yX4_readCommand wsX4_readCommand) := goodIn_app (goodIn_of _ (by decide +kernel)) ggX4_readText_X4_readCommand
theorem dX4_readText_0 : decode cX4_readText 0 = .ok (.aload_n 1, 1) := by decide +kernel
theorem dX4_readText_1 : decode cX4_readText 1 = .ok (.invokestatic 29, 3) := by decide +kernel
theorem dX4_readText_4 : decode cX4_readText 4 = .ok (.aload_n 0, 1) := by decide +kernel
theorem dX4_readText_5 : decode cX4_readText 5 = .ok (.iconst 0, 1) := by decide +kernel
theorem dX4_readText_6 : decode cX4_readText 6 = .ok (.putfield 126, 3) := by decide +kernel
theorem dX4_readText_9 : decode cX4_readText 9 = .ok (.aload_n 0, 1) := by decide +kernel
theorem dX4_readText_10 : decode cX4_readText 10 = .ok (.iconst 0, 1) := by decide +kernel
theorem dX4_readText_11 : decode cX4_readText 11 = .ok (.putfield 121, 3) := by decide +kernel
theorem dX4_readText_14 : decode cX4_readText 14 = .ok (.aload_n 0, 1) := by decide +kernel
theorem dX4_readText_15 : decode cX4_readText 15 = .ok (.getfield 115, 3) := by decide +kernel
theorem dX4_readText_18 : decode cX4_readText 18 = .ok (.ifCond .eq 14, 3) := by decide +kernel
theorem dX4_readText_21 : decode cX4_readText 21 = .ok (.aload_n 0, 1) := by decide +kernel
theorem dX4_readText_22 : decode cX4_readText 22 = .ok (.getfield 7, 3) := by decide +kernel
theorem dX4_readText_25 : decode cX4_readText 25 = .ok (.iconst 0, 1) := by decide +kernel
theorem dX4_readText_26 : decode cX4_readText 26 = .ok (.iaload, 1) := by decide +kernel
theorem dX4_readText_27 : decode cX4_readText 27 = .ok (.bipush 68, 2) := by decide +kernel
theorem dX4_readText_29 : decode cX4_readText 29 = .ok (.if_icmp .eq 5, 3) := by decide +kernel
theorem dX4_readText_32 : decode cX4_readText 32 = .ok (.iconst 0, 1) := by decide +kernel
theorem dX4_readText_33 : decode cX4_readText 33 = .ok (.ireturn, 1) := by decide +kernel
theorem dX4_readText_34 : decode cX4_readText 34 = .ok (.aload_n 0, 1) := by decide +kernel
theorem dX4_readText_35 : decode cX4_readText 35 = .ok (.iconst 1, 1) := by decide +kernel
theorem dX4_readText_36 : decode cX4_readText 36 = .ok (.putfield 121, 3) := by decide +kernel
theorem dX4_readText_39 : decode cX4_readText 39 = .ok (.aload_n 0, 1) := by decide +kernel
theorem dX4_readText_40 : decode cX4_readText 40 = .ok (.getfield 121, 3) := by decide +kernel
theorem dX4_readText_43 : decode cX4_readText 43 = .ok (.aload_n 0, 1) := by decide +kernel
theorem dX4_readText_44 : decode cX4_readText 44 = .ok (.getfield 115, 3) := by decide +kernel
theorem dX4_readText_47 : decode cX4_readText 47 = .ok (.if_icmp .ge 16, 3) := by decide +kernel
theorem dX4_readText_50 : decode cX4_readText 50 = .ok (.aload_n 0, 1) := by decide +kernel
theorem dX4_readText_51 : decode cX4_readText 51 = .ok (.aload_n 1, 1) := by decide +kernel
theorem dX4_readText_52 : decode cX4_readText 52 = .ok (.invokevirtual 161, 3) := by decide +kernel
theorem dX4_readText_55 : decode cX4_readText 55 = .ok (.ifCond .ne (-16), 3) := by decide +kernel
theorem dX4_readText_58 : decode cX4_readText 58 = .ok (.aload_n 0, 1) := by decide +kernel
theorem dX4_readText_59 : decode cX4_readText 59 = .ok (.getfield 121, 3) := by decide +kernel
theorem dX4_readText_62 : decode cX4_readText 62 = .ok (.ireturn, 1) := by decide +kernel
theorem dX4_readText_63 : decode cX4_readText 63 = .ok (.iconst (-1), 1) := by decide +kernel
theorem dX4_readText_64 : decode cX4_readText 64 = .ok (.ireturn, 1) := by decide +kernel
set_option maxRecDepth 20000 in
theorem ggX4_errorPosition_X4_readText : GoodIn wsX4_errorPosition wsX4_readText := goodIn_r _ [7, 8, 9, 10, 11, 12, 13, 6, 14, 15, 16, 17, 18, 19, 20, 21, 22, 23, 24, 25, 26, 27, 28, 29, 30, 31, 32, 33, 34, 35, 36, 37, 38, 39, 40, 41, 42, 43, 44, 45, 46, 47, 48, 49, 50, 51, 52, 53, 54, 55, 56, 57, 58, 59, 60, 61, 62, 63, 64, 65, 66, 67, 68, 69, 70, 71, 72, 73, 74, 75, 76, 77, 78, 79, 80, 81, 82, 83, 84, 85, 86, 87, 88, 89, 90, 91, 92, 93, 94, 95, 96, 97, 98, 99, 100, 101, 102, 103, 104, 105, 106, 107, 108, 109, 110, 111, 112, 113, 114, 115, 116, 117, 118, 119, 120, 121, 122, 123, 124, 125, 126] (by decide +kernel) (by decide +kernel)
set_option maxRecDepth 20000 in
theorem gX4_errorPosition_X4_readText : GoodIn wsX4_errorPosition (wsV RX4 165 RX4 yX4_readText wsX4_readText) := goodIn_app (goodIn_of _ (by decide +kernel)) ggX4_errorPosition_X4_readText
theorem dX4_errorPosition_0 : decode cX4_errorPosition 0 = .ok (.aload_n 0, 1) := by decide +kernel
theorem dX4_errorPosition_1 : decode cX4_errorPosition 1 = .ok (.iconst 0, 1) := by decide +kernel
theorem dX4_errorPosition_2 : decode cX4_errorPosition 2 = .ok (.putfield 33, 3) := by decide +kernel
theorem dX4_errorPosition_5 : decode cX4_errorPosition 5 = .ok (.aload_n 0, 1) := by decide +kernel
theorem dX4_errorPosition_6 : decode cX4_errorPosition 6 = .ok (.aload_n 0, 1) := by decide +kernel
theorem dX4_errorPosition_7 : decode cX4_errorPosition 7 = .ok (.getfield 16, 3) := by decide +kernel
theorem dX4_errorPosition_10 : decode cX4_errorPosition 10 = .ok (.invokevirtual 165, 3) := by decide +kernel
theorem dX4_errorPosition_13 : decode cX4_errorPosition 13 = .ok (.ireturn, 1) := by decide +kernel
set_option maxRecDepth 20000 in
theorem ggX4_load_X4_readText : GoodIn wsX4_load wsX4_readText := goodIn_r _ [10, 5, 11, 12, 13, 14, 15, 9, 16, 17, 18, 19, 20, 21, 22, 23, 24, 25, 26, 27, 28, 29, 30, 31, 32, 33, 34, 35, 36, 37, 38, 39, 40, 41, 42, 43, 44, 45, 46, 47, 48, 49, 50, 51, 52, 53, 54, 55, 56, 57, 58, 59, 60, 61, 62, 63, 64, 65, 66, 67, 68, 69, 70, 71, 72, 73, 74, 75, 76, 77, 78, 79, 80, 81, 82, 83, 84, 85, 86, 87, 88, 89, 90, 91, 92, 93, 94, 95, 96, 97, 98, 99, 100, 101, 102, 103, 104, 105, 106, 107, 108, 109, 110, 111, 112, 113, 114, 115, 124, 125, 126, 127, 128, 129, 130, 131, 132, 133, 134, 135, 136] (by decide +kernel) (by decide +kernel)
set_option maxRecDepth 20000 in
theorem gX4_load_X4_readText : GoodIn wsX4_load (wsV RX4 165 RX4 yX4_readText wsX4_readText) := goodIn_app (goodIn_of _ (by decide +kernel)) ggX4_load_X4_readText
set_option maxRecDepth 20000 in
theorem ggX4_load_X4_refused : GoodIn wsX4_load wsX4_refused := goodIn_r _ [119, 120, 124, 125, 126, 127, 128, 129, 130, 131, 132, 133, 134, 135, 136] (by decide +kernel) (by decide +kernel)
set_option maxRecDepth 20000 in
theorem gX4_load_X4_refused : GoodIn wsX4_load (wsV RX4 118 RX4 yX4_refused wsX4_refused) := goodIn_app (goodIn_of _ (by decide +kernel)) ggX4_load_X4_refused
set_option maxRecDepth 20000 in
theorem ggX4_load_X4_copyState : GoodIn wsX4_load wsX4_copyState := goodIn_r _ [123] (by decide +kernel) (by decide +kernel)
set_option maxRecDepth 20000 in
theorem gX4_load_X4_copyState : GoodIn wsX4_load (va_wsS RX4 168 yX4_copyState wsX4_copyState) := goodIn_app (goodIn_of _ (by decide +kernel)) ggX4_load_X4_copyState
theorem dX4_load_0 : decode cX4_load 0 = .ok (.aload_n 0, 1) := by decide +kernel
theorem dX4_load_1 : decode cX4_load 1 = .ok (.aload_n 0, 1) := by decide +kernel
theorem dX4_load_2 : decode cX4_load 2 = .ok (.aload_n 0, 1) := by decide +kernel
theorem dX4_load_3 : decode cX4_load 3 = .ok (.getfield 16, 3) := by decide +kernel
theorem dX4_load_6 : decode cX4_load 6 = .ok (.invokevirtual 165, 3) := by decide +kernel
theorem dX4_load_9 : decode cX4_load 9 = .ok (.iconst (-1), 1) := by decide +kernel
theorem dX4_load_10 : decode cX4_load 10 = .ok (.if_icmp .ne 7, 3) := by decide +kernel
theorem dX4_load_13 : decode cX4_load 13 = .ok (.iconst 0, 1) := by decide +kernel
theorem dX4_load_14 : decode cX4_load 14 = .ok (.goto 4, 3) := by decide +kernel
theorem dX4_load_17 : decode cX4_load 17 = .ok (.iconst 1, 1) := by decide +kernel
theorem dX4_load_18 : decode cX4_load 18 = .ok (.invokevirtual 118, 3) := by decide +kernel
theorem dX4_load_21 : decode cX4_load 21 = .ok (.ifCond .eq 5, 3) := by decide +kernel
theorem dX4_load_24 : decode cX4_load 24 = .ok (.iconst 0, 1) := by decide +kernel
theorem dX4_load_25 : decode cX4_load 25 = .ok (.ireturn, 1) := by decide +kernel
theorem dX4_load_26 : decode cX4_load 26 = .ok (.aload_n 0, 1) := by decide +kernel
theorem dX4_load_27 : decode cX4_load 27 = .ok (.getfield 16, 3) := by decide +kernel
theorem dX4_load_30 : decode cX4_load 30 = .ok (.iconst 0, 1) := by decide +kernel
theorem dX4_load_31 : decode cX4_load 31 = .ok (.aload_n 0, 1) := by decide +kernel
theorem dX4_load_32 : decode cX4_load 32 = .ok (.getfield 13, 3) := by decide +kernel
theorem dX4_load_35 : decode cX4_load 35 = .ok (.iconst 0, 1) := by decide +kernel
theorem dX4_load_36 : decode cX4_load 36 = .ok (.invokestatic 168, 3) := by decide +kernel
theorem dX4_load_39 : decode cX4_load 39 = .ok (.aload_n 0, 1) := by decide +kernel
theorem dX4_load_40 : decode cX4_load 40 = .ok (.iconst 0, 1) := by decide +kernel
theorem dX4_load_41 : decode cX4_load 41 = .ok (.putfield 172, 3) := by decide +kernel
theorem dX4_load_44 : decode cX4_load 44 = .ok (.aload_n 0, 1) := by decide +kernel
theorem dX4_load_45 : decode cX4_load 45 = .ok (.getfield 25, 3) := by decide +kernel
theorem dX4_load_48 : decode cX4_load 48 = .ok (.iconst 0, 1) := by decide +kernel
theorem dX4_load_49 : decode cX4_load 49 = .ok (.iconst 0, 1) := by decide +kernel
theorem dX4_load_50 : decode cX4_load 50 = .ok (.bastore, 1) := by decide +kernel
theorem dX4_load_51 : decode cX4_load 51 = .ok (.aload_n 0, 1) := by decide +kernel
theorem dX4_load_52 : decode cX4_load 52 = .ok (.getfield 25, 3) := by decide +kernel
theorem dX4_load_55 : decode cX4_load 55 = .ok (.iconst 1, 1) := by decide +kernel
theorem dX4_load_56 : decode cX4_load 56 = .ok (.iconst 0, 1) := by decide +kernel
theorem dX4_load_57 : decode cX4_load 57 = .ok (.bastore, 1) := by decide +kernel
theorem dX4_load_58 : decode cX4_load 58 = .ok (.aload_n 0, 1) := by decide +kernel
theorem dX4_load_59 : decode cX4_load 59 = .ok (.getfield 126, 3) := by decide +kernel
theorem dX4_load_62 : decode cX4_load 62 = .ok (.ireturn, 1) := by decide +kernel
theorem dX4_sum_0 : decode cX4_sum 0 = .ok (.iconst 0, 1) := by decide +kernel
theorem dX4_sum_1 : decode cX4_sum 1 = .ok (.istore_n 2, 1) := by decide +kernel
theorem dX4_sum_2 : decode cX4_sum 2 = .ok (.iconst 0, 1) := by decide +kernel
theorem dX4_sum_3 : decode cX4_sum 3 = .ok (.istore_n 3, 1) := by decide +kernel
theorem dX4_sum_4 : decode cX4_sum 4 = .ok (.iload_n 3, 1) := by decide +kernel
theorem dX4_sum_5 : decode cX4_sum 5 = .ok (.sipush 256, 3) := by decide +kernel
theorem dX4_sum_8 : decode cX4_sum 8 = .ok (.if_icmp .ge 17, 3) := by decide +kernel
theorem dX4_sum_11 : decode cX4_sum 11 = .ok (.iload_n 2, 1) := by decide +kernel
theorem dX4_sum_12 : decode cX4_sum 12 = .ok (.aload_n 0, 1) := by decide +kernel
theorem dX4_sum_13 : decode cX4_sum 13 = .ok (.iload_n 1, 1) := by decide +kernel
theorem dX4_sum_14 : decode cX4_sum 14 = .ok (.iload_n 3, 1) := by decide +kernel
theorem dX4_sum_15 : decode cX4_sum 15 = .ok (.iadd, 1) := by decide +kernel
theorem dX4_sum_16 : decode cX4_sum 16 = .ok (.iaload, 1) := by decide +kernel
theorem dX4_sum_17 : decode cX4_sum 17 = .ok (.iadd, 1) := by decide +kernel
theorem dX4_sum_18 : decode cX4_sum 18 = .ok (.istore_n 2, 1) := by decide +kernel
theorem dX4_sum_19 : decode cX4_sum 19 = .ok (.iinc 3 1, 3) := by decide +kernel
theorem dX4_sum_22 : decode cX4_sum 22 = .ok (.goto (-18), 3) := by decide +kernel
theorem dX4_sum_25 : decode cX4_sum 25 = .ok (.iload_n 2, 1) := by decide +kernel
theorem dX4_sum_26 : decode cX4_sum 26 = .ok (.ireturn, 1) := by decide +kernel
set_option maxRecDepth 20000 in
theorem ggX4_lost_X4_isQueued : GoodIn wsX4_lost wsX4_isQueued := goodIn_r _ [4, 5, 6, 3, 7, 8, 9, 10, 11] (by decide +kernel) (by decide +kernel)
set_option maxRecDepth 20000 in
theorem gX4_lost_X4_isQueued : GoodIn wsX4_lost (va_wsS RX4 53 yX4_isQueued wsX4_isQueued) := goodIn_app (goodIn_of _ (by decide +kernel)) ggX4_lost_X4_isQueued
theorem dX4_lost_0 : decode cX4_lost 0 = .ok (.iconst 0, 1) := by decide +kernel
theorem dX4_lost_1 : decode cX4_lost 1 = .ok (.istore_n 1, 1) := by decide +kernel
theorem dX4_lost_2 : decode cX4_lost 2 = .ok (.iconst 0, 1) := by decide +kernel
theorem dX4_lost_3 : decode cX4_lost 3 = .ok (.istore_n 2, 1) := by decide +kernel
theorem dX4_lost_4 : decode cX4_lost 4 = .ok (.iload_n 2, 1) := by decide +kernel
theorem dX4_lost_5 : decode cX4_lost 5 = .ok (.sipush 256, 3) := by decide +kernel
theorem dX4_lost_8 : decode cX4_lost 8 = .ok (.if_icmp .ge 44, 3) := by decide +kernel
theorem dX4_lost_11 : decode cX4_lost 11 = .ok (.iload_n 1, 1) := by decide +kernel
theorem dX4_lost_12 : decode cX4_lost 12 = .ok (.aload_n 0, 1) := by decide +kernel
theorem dX4_lost_13 : decode cX4_lost 13 = .ok (.sipush 256, 3) := by decide +kernel
theorem dX4_lost_16 : decode cX4_lost 16 = .ok (.iload_n 2, 1) := by decide +kernel
theorem dX4_lost_17 : decode cX4_lost 17 = .ok (.iadd, 1) := by decide +kernel
theorem dX4_lost_18 : decode cX4_lost 18 = .ok (.iaload, 1) := by decide +kernel
theorem dX4_lost_19 : decode cX4_lost 19 = .ok (.iconst 1, 1) := by decide +kernel
theorem dX4_lost_20 : decode cX4_lost 20 = .ok (.if_icmp .ne 23, 3) := by decide +kernel
theorem dX4_lost_23 : decode cX4_lost 23 = .ok (.aload_n 0, 1) := by decide +kernel
theorem dX4_lost_24 : decode cX4_lost 24 = .ok (.iconst 0, 1) := by decide +kernel
theorem dX4_lost_25 : decode cX4_lost 25 = .ok (.iload_n 2, 1) := by decide +kernel
theorem dX4_lost_26 : decode cX4_lost 26 = .ok (.iadd, 1) := by decide +kernel
theorem dX4_lost_27 : decode cX4_lost 27 = .ok (.iaload, 1) := by decide +kernel
theorem dX4_lost_28 : decode cX4_lost 28 = .ok (.ifCond .ne 15, 3) := by decide +kernel
theorem dX4_lost_31 : decode cX4_lost 31 = .ok (.aload_n 0, 1) := by decide +kernel
theorem dX4_lost_32 : decode cX4_lost 32 = .ok (.iload_n 2, 1) := by decide +kernel
theorem dX4_lost_33 : decode cX4_lost 33 = .ok (.invokestatic 53, 3) := by decide +kernel
theorem dX4_lost_36 : decode cX4_lost 36 = .ok (.ifCond .ne 7, 3) := by decide +kernel
theorem dX4_lost_39 : decode cX4_lost 39 = .ok (.iconst 1, 1) := by decide +kernel
theorem dX4_lost_40 : decode cX4_lost 40 = .ok (.goto 4, 3) := by decide +kernel
theorem dX4_lost_43 : decode cX4_lost 43 = .ok (.iconst 0, 1) := by decide +kernel
theorem dX4_lost_44 : decode cX4_lost 44 = .ok (.iadd, 1) := by decide +kernel
theorem dX4_lost_45 : decode cX4_lost 45 = .ok (.istore_n 1, 1) := by decide +kernel
theorem dX4_lost_46 : decode cX4_lost 46 = .ok (.iinc 2 1, 3) := by decide +kernel
theorem dX4_lost_49 : decode cX4_lost 49 = .ok (.goto (-45), 3) := by decide +kernel
theorem dX4_lost_52 : decode cX4_lost 52 = .ok (.iload_n 1, 1) := by decide +kernel
theorem dX4_lost_53 : decode cX4_lost 53 = .ok (.ireturn, 1) := by decide +kernel
set_option maxRecDepth 20000 in
theorem ggX4_about_X4_in : GoodIn wsX4_about wsX4_in := goodIn_r _ [6] (by decide +kernel) (by decide +kernel)
set_option maxRecDepth 20000 in
theorem gX4_about_X4_in : GoodIn wsX4_about (va_wsS RX4 39 yX4_in wsX4_in) := goodIn_app (goodIn_of _ (by decide +kernel)) ggX4_about_X4_in
set_option maxRecDepth 20000 in
theorem ggX4_about_X4_refused : GoodIn wsX4_about wsX4_refused := goodIn_r _ [10, 11, 40, 41, 42, 43, 44, 45, 46, 47, 48, 49, 50, 51, 52] (by decide +kernel) (by decide +kernel)
set_option maxRecDepth 20000 in
theorem gX4_about_X4_refused : GoodIn wsX4_about (wsV RX4 118 RX4 yX4_refused wsX4_refused) := goodIn_app (goodIn_of _ (by decide +kernel)) ggX4_about_X4_refused
set_option maxRecDepth 20000 in
theorem ggX4_about_X4_sum : GoodIn wsX4_about wsX4_sum := goodIn_r _ [14] (by decide +kernel) (by decide +kernel)
set_option maxRecDepth 20000 in
theorem gX4_about_X4_sum : GoodIn wsX4_about (va_wsS RX4 177 yX4_sum wsX4_sum) := goodIn_app (goodIn_of _ (by decide +kernel)) ggX4_about_X4_sum
set_option maxRecDepth 20000 in
theorem ggX4_about_X4_ranges : GoodIn wsX4_about wsX4_ranges := goodIn_r _ [17, 18, 19, 5, 20, 21, 22, 23, 24, 25, 26, 27, 3, 4, 6] (by decide +kernel) (by decide +kernel)
set_option maxRecDepth 20000 in
theorem gX4_about_X4_ranges : GoodIn wsX4_about (va_wsS RX4 59 yX4_ranges wsX4_ranges) := goodIn_app (goodIn_of _ (by decide +kernel)) ggX4_about_X4_ranges
set_option maxRecDepth 20000 in
theorem ggX4_about_X4_queuedBlocks : GoodIn wsX4_about wsX4_queuedBlocks := goodIn_r _ [30, 21, 22, 5, 23, 24, 25, 26, 27, 3, 4, 6] (by decide +kernel) (by decide +kernel)
set_option maxRecDepth 20000 in
theorem gX4_about_X4_queuedBlocks : GoodIn wsX4_about (va_wsS RX4 180 yX4_queuedBlocks wsX4_queuedBlocks) := goodIn_app (goodIn_of _ (by decide +kernel)) ggX4_about_X4_queuedBlocks
set_option maxRecDepth 20000 in
theorem ggX4_about_X4_allPinned : GoodIn wsX4_about wsX4_allPinned := goodIn_r _ [33, 34, 35, 5, 36] (by decide +kernel) (by decide +kernel)
set_option maxRecDepth 20000 in
theorem gX4_about_X4_allPinned : GoodIn wsX4_about (va_wsS RX4 73 yX4_allPinned wsX4_allPinned) := goodIn_app (goodIn_of _ (by decide +kernel)) ggX4_about_X4_allPinned
set_option maxRecDepth 20000 in
theorem ggX4_about_X4_lost : GoodIn wsX4_about wsX4_lost := goodIn_r _ [39, 21, 22, 5, 23, 24, 25, 26, 27, 3, 4, 6] (by decide +kernel) (by decide +kernel)
set_option maxRecDepth 20000 in
theorem gX4_about_X4_lost : GoodIn wsX4_about (va_wsS RX4 183 yX4_lost wsX4_lost) := goodIn_app (goodIn_of _ (by decide +kernel)) ggX4_about_X4_lost
theorem dX4_about_0 : decode cX4_about 0 = .ok (.aload_n 0, 1) := by decide +kernel
theorem dX4_about_1 : decode cX4_about 1 = .ok (.iload_n 1, 1) := by decide +kernel
theorem dX4_about_2 : decode cX4_about 2 = .ok (.i2l, 1) := by decide +kernel
theorem dX4_about_3 : decode cX4_about 3 = .ok (.lconst 0, 1) := by decide +kernel
theorem dX4_about_4 : decode cX4_about 4 = .ok (.ldc2_w 175, 3) := by decide +kernel
theorem dX4_about_7 : decode cX4_about 7 = .ok (.invokestatic 39, 3) := by decide +kernel
theorem dX4_about_10 : decode cX4_about 10 = .ok (.ifCond .eq 7, 3) := by decide +kernel
theorem dX4_about_13 : decode cX4_about 13 = .ok (.iconst 0, 1) := by decide +kernel
theorem dX4_about_14 : decode cX4_about 14 = .ok (.goto 4, 3) := by decide +kernel
theorem dX4_about_17 : decode cX4_about 17 = .ok (.iconst 1, 1) := by decide +kernel
theorem dX4_about_18 : decode cX4_about 18 = .ok (.invokevirtual 118, 3) := by decide +kernel
theorem dX4_about_21 : decode cX4_about 21 = .ok (.ifCond .eq 5, 3) := by decide +kernel
theorem dX4_about_24 : decode cX4_about 24 = .ok (.iconst 0, 1) := by decide +kernel
theorem dX4_about_25 : decode cX4_about 25 = .ok (.ireturn, 1) := by decide +kernel
theorem dX4_about_26 : decode cX4_about 26 = .ok (.iload_n 1, 1) := by decide +kernel
theorem dX4_about_27 : decode cX4_about 27 = .ok (.tableswitch 109 0 10 #[57, 66, 77, 85, 109, 109, 109, 109, 109, 93, 101], 57) := by decide +kernel
theorem dX4_about_84 : decode cX4_about 84 = .ok (.aload_n 0, 1) := by decide +kernel
theorem dX4_about_85 : decode cX4_about 85 = .ok (.getfield 13, 3) := by decide +kernel
theorem dX4_about_88 : decode cX4_about 88 = .ok (.iconst 0, 1) := by decide +kernel
theorem dX4_about_89 : decode cX4_about 89 = .ok (.invokestatic 177, 3) := by decide +kernel
theorem dX4_about_92 : decode cX4_about 92 = .ok (.ireturn, 1) := by decide +kernel
theorem dX4_about_93 : decode cX4_about 93 = .ok (.aload_n 0, 1) := by decide +kernel
theorem dX4_about_94 : decode cX4_about 94 = .ok (.getfield 13, 3) := by decide +kernel
theorem dX4_about_97 : decode cX4_about 97 = .ok (.sipush 256, 3) := by decide +kernel
theorem dX4_about_100 : decode cX4_about 100 = .ok (.invokestatic 177, 3) := by decide +kernel
theorem dX4_about_103 : decode cX4_about 103 = .ok (.ireturn, 1) := by decide +kernel
theorem dX4_about_104 : decode cX4_about 104 = .ok (.aload_n 0, 1) := by decide +kernel
theorem dX4_about_105 : decode cX4_about 105 = .ok (.getfield 13, 3) := by decide +kernel
theorem dX4_about_108 : decode cX4_about 108 = .ok (.invokestatic 59, 3) := by decide +kernel
theorem dX4_about_111 : decode cX4_about 111 = .ok (.ireturn, 1) := by decide +kernel
theorem dX4_about_112 : decode cX4_about 112 = .ok (.aload_n 0, 1) := by decide +kernel
theorem dX4_about_113 : decode cX4_about 113 = .ok (.getfield 13, 3) := by decide +kernel
theorem dX4_about_116 : decode cX4_about 116 = .ok (.invokestatic 180, 3) := by decide +kernel
theorem dX4_about_119 : decode cX4_about 119 = .ok (.ireturn, 1) := by decide +kernel
theorem dX4_about_120 : decode cX4_about 120 = .ok (.aload_n 0, 1) := by decide +kernel
theorem dX4_about_121 : decode cX4_about 121 = .ok (.getfield 13, 3) := by decide +kernel
theorem dX4_about_124 : decode cX4_about 124 = .ok (.invokestatic 73, 3) := by decide +kernel
theorem dX4_about_127 : decode cX4_about 127 = .ok (.ireturn, 1) := by decide +kernel
theorem dX4_about_128 : decode cX4_about 128 = .ok (.aload_n 0, 1) := by decide +kernel
theorem dX4_about_129 : decode cX4_about 129 = .ok (.getfield 13, 3) := by decide +kernel
theorem dX4_about_132 : decode cX4_about 132 = .ok (.invokestatic 183, 3) := by decide +kernel
theorem dX4_about_135 : decode cX4_about 135 = .ok (.ireturn, 1) := by decide +kernel
theorem dX4_about_136 : decode cX4_about 136 = .ok (.aload_n 0, 1) := by decide +kernel
theorem dX4_about_137 : decode cX4_about 137 = .ok (.getfield 13, 3) := by decide +kernel
theorem dX4_about_140 : decode cX4_about 140 = .ok (.sipush 768, 3) := by decide +kernel
theorem dX4_about_143 : decode cX4_about 143 = .ok (.iload_n 1, 1) := by decide +kernel
theorem dX4_about_144 : decode cX4_about 144 = .ok (.iadd, 1) := by decide +kernel
theorem dX4_about_145 : decode cX4_about 145 = .ok (.iconst 4, 1) := by decide +kernel
theorem dX4_about_146 : decode cX4_about 146 = .ok (.isub, 1) := by decide +kernel
theorem dX4_about_147 : decode cX4_about 147 = .ok (.iaload, 1) := by decide +kernel
theorem dX4_about_148 : decode cX4_about 148 = .ok (.ireturn, 1) := by decide +kernel
set_option maxRecDepth 20000 in
theorem ggX4_block_X4_isBlock : GoodIn wsX4_block wsX4_isBlock := goodIn_r _ [6, 7, 8, 9, 5, 10] (by decide +kernel) (by decide +kernel)
set_option maxRecDepth 20000 in
theorem gX4_block_X4_isBlock : GoodIn wsX4_block (va_wsS RX4 43 yX4_isBlock wsX4_isBlock) := goodIn_app (goodIn_of _ (by decide +kernel)) ggX4_block_X4_isBlock
set_option maxRecDepth 20000 in
theorem ggX4_block_X4_in : GoodIn wsX4_block wsX4_in := goodIn_r _ [10] (by decide +kernel) (by decide +kernel)
set_option maxRecDepth 20000 in
theorem gX4_block_X4_in : GoodIn wsX4_block (va_wsS RX4 39 yX4_in wsX4_in) := goodIn_app (goodIn_of _ (by decide +kernel)) ggX4_block_X4_in
set_option maxRecDepth 20000 in
theorem ggX4_block_X4_refused : GoodIn wsX4_block wsX4_refused := goodIn_r _ [14, 15, 25, 26, 27, 28, 29, 30, 31, 32, 33, 34, 35, 36, 37] (by decide +kernel) (by decide +kernel)
set_option maxRecDepth 20000 in
theorem gX4_block_X4_refused : GoodIn wsX4_block (wsV RX4 118 RX4 yX4_refused wsX4_refused) := goodIn_app (goodIn_of _ (by decide +kernel)) ggX4_block_X4_refused
set_option maxRecDepth 20000 in
theorem ggX4_block_X4_isPinned : GoodIn wsX4_block wsX4_isPinned := goodIn_r _ [18] (by decide +kernel) (by decide +kernel)
set_option maxRecDepth 20000 in
theorem gX4_block_X4_isPinned : GoodIn wsX4_block (va_wsS RX4 49 yX4_isPinned wsX4_isPinned) := goodIn_app (goodIn_of _ (by decide +kernel)) ggX4_block_X4_isPinned
set_option maxRecDepth 20000 in
theorem ggX4_block_X4_begins : GoodIn wsX4_block wsX4_begins := goodIn_r _ [21, 22, 23, 5, 24, 3, 4, 6, 7, 8, 9, 10] (by decide +kernel) (by decide +kernel)
set_option maxRecDepth 20000 in
theorem gX4_block_X4_begins : GoodIn wsX4_block (va_wsS RX4 56 yX4_begins wsX4_begins) := goodIn_app (goodIn_of _ (by decide +kernel)) ggX4_block_X4_begins
set_option maxRecDepth 20000 in
theorem ggX4_block_X4_isQueued : GoodIn wsX4_block wsX4_isQueued := goodIn_r _ [24, 3, 4, 5, 6, 7, 8, 9, 10] (by decide +kernel) (by decide +kernel)
set_option maxRecDepth 20000 in
theorem gX4_block_X4_isQueued : GoodIn wsX4_block (va_wsS RX4 53 yX4_isQueued wsX4_isQueued) := goodIn_app (goodIn_of _ (by decide +kernel)) ggX4_block_X4_isQueued
theorem dX4_block_0 : decode cX4_block 0 = .ok (.aload_n 0, 1) := by decide +kernel
theorem dX4_block_1 : decode cX4_block 1 = .ok (.iload_n 1, 1) := by decide +kernel
theorem dX4_block_2 : decode cX4_block 2 = .ok (.invokestatic 43, 3) := by decide +kernel
theorem dX4_block_5 : decode cX4_block 5 = .ok (.ifCond .ne 7, 3) := by decide +kernel
theorem dX4_block_8 : decode cX4_block 8 = .ok (.iconst 1, 1) := by decide +kernel
theorem dX4_block_9 : decode cX4_block 9 = .ok (.goto 20, 3) := by decide +kernel
theorem dX4_block_12 : decode cX4_block 12 = .ok (.iload_n 2, 1) := by decide +kernel
theorem dX4_block_13 : decode cX4_block 13 = .ok (.i2l, 1) := by decide +kernel
theorem dX4_block_14 : decode cX4_block 14 = .ok (.lconst 0, 1) := by decide +kernel
theorem dX4_block_15 : decode cX4_block 15 = .ok (.ldc2_w 186, 3) := by decide +kernel
theorem dX4_block_18 : decode cX4_block 18 = .ok (.invokestatic 39, 3) := by decide +kernel
theorem dX4_block_21 : decode cX4_block 21 = .ok (.ifCond .eq 7, 3) := by decide +kernel
theorem dX4_block_24 : decode cX4_block 24 = .ok (.iconst 0, 1) := by decide +kernel
theorem dX4_block_25 : decode cX4_block 25 = .ok (.goto 4, 3) := by decide +kernel
theorem dX4_block_28 : decode cX4_block 28 = .ok (.iconst 2, 1) := by decide +kernel
theorem dX4_block_29 : decode cX4_block 29 = .ok (.invokevirtual 118, 3) := by decide +kernel
theorem dX4_block_32 : decode cX4_block 32 = .ok (.ifCond .eq 5, 3) := by decide +kernel
theorem dX4_block_35 : decode cX4_block 35 = .ok (.iconst 0, 1) := by decide +kernel
theorem dX4_block_36 : decode cX4_block 36 = .ok (.ireturn, 1) := by decide +kernel
theorem dX4_block_37 : decode cX4_block 37 = .ok (.iload_n 2, 1) := by decide +kernel
theorem dX4_block_38 : decode cX4_block 38 = .ok (.iconst 2, 1) := by decide +kernel
theorem dX4_block_39 : decode cX4_block 39 = .ok (.if_icmp .ge 22, 3) := by decide +kernel
theorem dX4_block_42 : decode cX4_block 42 = .ok (.aload_n 0, 1) := by decide +kernel
theorem dX4_block_43 : decode cX4_block 43 = .ok (.getfield 13, 3) := by decide +kernel
theorem dX4_block_46 : decode cX4_block 46 = .ok (.iload_n 2, 1) := by decide +kernel
theorem dX4_block_47 : decode cX4_block 47 = .ok (.ifCond .ne 7, 3) := by decide +kernel
theorem dX4_block_50 : decode cX4_block 50 = .ok (.iconst 0, 1) := by decide +kernel
theorem dX4_block_51 : decode cX4_block 51 = .ok (.goto 6, 3) := by decide +kernel
theorem dX4_block_54 : decode cX4_block 54 = .ok (.sipush 256, 3) := by decide +kernel
theorem dX4_block_57 : decode cX4_block 57 = .ok (.iload_n 1, 1) := by decide +kernel
theorem dX4_block_58 : decode cX4_block 58 = .ok (.iadd, 1) := by decide +kernel
theorem dX4_block_59 : decode cX4_block 59 = .ok (.iaload, 1) := by decide +kernel
theorem dX4_block_60 : decode cX4_block 60 = .ok (.ireturn, 1) := by decide +kernel
theorem dX4_block_61 : decode cX4_block 61 = .ok (.iload_n 2, 1) := by decide +kernel
theorem dX4_block_62 : decode cX4_block 62 = .ok (.iconst 3, 1) := by decide +kernel
theorem dX4_block_63 : decode cX4_block 63 = .ok (.if_icmp .ne 20, 3) := by decide +kernel
theorem dX4_block_66 : decode cX4_block 66 = .ok (.aload_n 0, 1) := by decide +kernel
theorem dX4_block_67 : decode cX4_block 67 = .ok (.getfield 13, 3) := by decide +kernel
theorem dX4_block_70 : decode cX4_block 70 = .ok (.iload_n 1, 1) := by decide +kernel
theorem dX4_block_71 : decode cX4_block 71 = .ok (.invokestatic 49, 3) := by decide +kernel
theorem dX4_block_74 : decode cX4_block 74 = .ok (.ifCond .eq 7, 3) := by decide +kernel
theorem dX4_block_77 : decode cX4_block 77 = .ok (.iconst 1, 1) := by decide +kernel
theorem dX4_block_78 : decode cX4_block 78 = .ok (.goto 4, 3) := by decide +kernel
theorem dX4_block_81 : decode cX4_block 81 = .ok (.iconst 0, 1) := by decide +kernel
theorem dX4_block_82 : decode cX4_block 82 = .ok (.ireturn, 1) := by decide +kernel
theorem dX4_block_83 : decode cX4_block 83 = .ok (.iconst (-1), 1) := by decide +kernel
theorem dX4_block_84 : decode cX4_block 84 = .ok (.istore_n 3, 1) := by decide +kernel
theorem dX4_block_85 : decode cX4_block 85 = .ok (.iconst 0, 1) := by decide +kernel
theorem dX4_block_86 : decode cX4_block 86 = .ok (.istore 4, 2) := by decide +kernel
theorem dX4_block_88 : decode cX4_block 88 = .ok (.iload 4, 2) := by decide +kernel
theorem dX4_block_90 : decode cX4_block 90 = .ok (.iload_n 1, 1) := by decide +kernel
theorem dX4_block_91 : decode cX4_block 91 = .ok (.if_icmp .gt 29, 3) := by decide +kernel
theorem dX4_block_94 : decode cX4_block 94 = .ok (.iload_n 3, 1) := by decide +kernel
theorem dX4_block_95 : decode cX4_block 95 = .ok (.aload_n 0, 1) := by decide +kernel
theorem dX4_block_96 : decode cX4_block 96 = .ok (.getfield 13, 3) := by decide +kernel
theorem dX4_block_99 : decode cX4_block 99 = .ok (.iload 4, 2) := by decide +kernel
theorem dX4_block_101 : decode cX4_block 101 = .ok (.invokestatic 56, 3) := by decide +kernel
theorem dX4_block_104 : decode cX4_block 104 = .ok (.ifCond .eq 7, 3) := by decide +kernel
theorem dX4_block_107 : decode cX4_block 107 = .ok (.iconst 1, 1) := by decide +kernel
theorem dX4_block_108 : decode cX4_block 108 = .ok (.goto 4, 3) := by decide +kernel
theorem dX4_block_111 : decode cX4_block 111 = .ok (.iconst 0, 1) := by decide +kernel
theorem dX4_block_112 : decode cX4_block 112 = .ok (.iadd, 1) := by decide +kernel
theorem dX4_block_113 : decode cX4_block 113 = .ok (.istore_n 3, 1) := by decide +kernel
theorem dX4_block_114 : decode cX4_block 114 = .ok (.iinc 4 1, 3) := by decide +kernel
theorem dX4_block_117 : decode cX4_block 117 = .ok (.goto (-29), 3) := by decide +kernel
theorem dX4_block_120 : decode cX4_block 120 = .ok (.aload_n 0, 1) := by decide +kernel
theorem dX4_block_121 : decode cX4_block 121 = .ok (.getfield 13, 3) := by decide +kernel
theorem dX4_block_124 : decode cX4_block 124 = .ok (.iload_n 1, 1) := by decide +kernel
theorem dX4_block_125 : decode cX4_block 125 = .ok (.invokestatic 53, 3) := by decide +kernel
theorem dX4_block_128 : decode cX4_block 128 = .ok (.ifCond .eq 7, 3) := by decide +kernel
theorem dX4_block_131 : decode cX4_block 131 = .ok (.iload_n 3, 1) := by decide +kernel
theorem dX4_block_132 : decode cX4_block 132 = .ok (.goto 4, 3) := by decide +kernel
theorem dX4_block_135 : decode cX4_block 135 = .ok (.iconst (-1), 1) := by decide +kernel
theorem dX4_block_136 : decode cX4_block 136 = .ok (.ireturn, 1) := by decide +kernel
set_option maxRecDepth 20000 in
theorem ggX4_rangeAt_X4_begins : GoodIn wsX4_rangeAt wsX4_begins := goodIn_r _ [4, 5, 6, 3, 7, 8, 9, 10, 11, 12, 13, 14] (by decide +kernel) (by decide +kernel)
set_option maxRecDepth 20000 in
theorem gX4_rangeAt_X4_begins : GoodIn wsX4_rangeAt (va_wsS RX4 56 yX4_begins wsX4_begins) := goodIn_app (goodIn_of _ (by decide +kernel)) ggX4_rangeAt_X4_begins
theorem dX4_rangeAt_0 : decode cX4_rangeAt 0 = .ok (.iload_n 1, 1) := by decide +kernel
theorem dX4_rangeAt_1 : decode cX4_rangeAt 1 = .ok (.istore_n 2, 1) := by decide +kernel
theorem dX4_rangeAt_2 : decode cX4_rangeAt 2 = .ok (.iconst 0, 1) := by decide +kernel
theorem dX4_rangeAt_3 : decode cX4_rangeAt 3 = .ok (.istore_n 3, 1) := by decide +kernel
theorem dX4_rangeAt_4 : decode cX4_rangeAt 4 = .ok (.iload_n 3, 1) := by decide +kernel
theorem dX4_rangeAt_5 : decode cX4_rangeAt 5 = .ok (.sipush 256, 3) := by decide +kernel
theorem dX4_rangeAt_8 : decode cX4_rangeAt 8 = .ok (.if_icmp .ge 26, 3) := by decide +kernel
theorem dX4_rangeAt_11 : decode cX4_rangeAt 11 = .ok (.aload_n 0, 1) := by decide +kernel
theorem dX4_rangeAt_12 : decode cX4_rangeAt 12 = .ok (.iload_n 3, 1) := by decide +kernel
theorem dX4_rangeAt_13 : decode cX4_rangeAt 13 = .ok (.invokestatic 56, 3) := by decide +kernel
theorem dX4_rangeAt_16 : decode cX4_rangeAt 16 = .ok (.ifCond .eq 12, 3) := by decide +kernel
theorem dX4_rangeAt_19 : decode cX4_rangeAt 19 = .ok (.iload_n 2, 1) := by decide +kernel
theorem dX4_rangeAt_20 : decode cX4_rangeAt 20 = .ok (.ifCond .ne 5, 3) := by decide +kernel
theorem dX4_rangeAt_23 : decode cX4_rangeAt 23 = .ok (.iload_n 3, 1) := by decide +kernel
theorem dX4_rangeAt_24 : decode cX4_rangeAt 24 = .ok (.ireturn, 1) := by decide +kernel
theorem dX4_rangeAt_25 : decode cX4_rangeAt 25 = .ok (.iinc 2 (-1), 3) := by decide +kernel
theorem dX4_rangeAt_28 : decode cX4_rangeAt 28 = .ok (.iinc 3 1, 3) := by decide +kernel
theorem dX4_rangeAt_31 : decode cX4_rangeAt 31 = .ok (.goto (-27), 3) := by decide +kernel
theorem dX4_rangeAt_34 : decode cX4_rangeAt 34 = .ok (.iconst (-1), 1) := by decide +kernel
theorem dX4_rangeAt_35 : decode cX4_rangeAt 35 = .ok (.ireturn, 1) := by decide +kernel
set_option maxRecDepth 20000 in
theorem ggX4_range_X4_ranges : GoodIn wsX4_range wsX4_ranges := goodIn_r _ [6, 7, 8, 5, 9, 10, 11, 12, 13, 14, 15, 16, 17, 18, 19] (by decide +kernel) (by decide +kernel)
set_option maxRecDepth 20000 in
theorem gX4_range_X4_ranges : GoodIn wsX4_range (va_wsS RX4 59 yX4_ranges wsX4_ranges) := goodIn_app (goodIn_of _ (by decide +kernel)) ggX4_range_X4_ranges
set_option maxRecDepth 20000 in
theorem ggX4_range_X4_in : GoodIn wsX4_range wsX4_in := goodIn_r _ [19] (by decide +kernel) (by decide +kernel)
set_option maxRecDepth 20000 in
theorem gX4_range_X4_in : GoodIn wsX4_range (va_wsS RX4 39 yX4_in wsX4_in) := goodIn_app (goodIn_of _ (by decide +kernel)) ggX4_range_X4_in
set_option maxRecDepth 20000 in
theorem ggX4_range_X4_refused : GoodIn wsX4_range wsX4_refused := goodIn_r _ [23, 24, 46, 47, 48, 49, 50, 51, 52, 53, 54, 55, 56, 57, 58] (by decide +kernel) (by decide +kernel)
set_option maxRecDepth 20000 in
theorem gX4_range_X4_refused : GoodIn wsX4_range (wsV RX4 118 RX4 yX4_refused wsX4_refused) := goodIn_app (goodIn_of _ (by decide +kernel)) ggX4_range_X4_refused
set_option maxRecDepth 20000 in
theorem ggX4_range_X4_rangeAt : GoodIn wsX4_range wsX4_rangeAt := goodIn_r _ [27, 7, 8, 5, 9, 10, 11, 12, 13, 14, 15, 16, 17, 18, 19] (by decide +kernel) (by decide +kernel)
set_option maxRecDepth 20000 in
theorem gX4_range_X4_rangeAt : GoodIn wsX4_range (va_wsS RX4 188 yX4_rangeAt wsX4_rangeAt) := goodIn_app (goodIn_of _ (by decide +kernel)) ggX4_range_X4_rangeAt
set_option maxRecDepth 20000 in
theorem ggX4_range_X4_endOf : GoodIn wsX4_range wsX4_endOf := goodIn_r _ [30, 10, 11, 5, 12, 13, 14, 15, 16, 17, 18, 19] (by decide +kernel) (by decide +kernel)
set_option maxRecDepth 20000 in
theorem gX4_range_X4_endOf : GoodIn wsX4_range (va_wsS RX4 63 yX4_endOf wsX4_endOf) := goodIn_app (goodIn_of _ (by decide +kernel)) ggX4_range_X4_endOf
set_option maxRecDepth 20000 in
theorem ggX4_range_X4_piece : GoodIn wsX4_range wsX4_piece := goodIn_r _ [33, 34, 35, 5, 36, 37, 38, 39, 17, 18, 19, 10, 11, 12, 13, 14, 15, 16, 40, 41, 42] (by decide +kernel) (by decide +kernel)
set_option maxRecDepth 20000 in
theorem gX4_range_X4_piece : GoodIn wsX4_range (va_wsS RX4 82 yX4_piece wsX4_piece) := goodIn_app (goodIn_of _ (by decide +kernel)) ggX4_range_X4_piece
set_option maxRecDepth 20000 in
theorem ggX4_range_X4_isDue : GoodIn wsX4_range wsX4_isDue := goodIn_r _ [45] (by decide +kernel) (by decide +kernel)
set_option maxRecDepth 20000 in
theorem gX4_range_X4_isDue : GoodIn wsX4_range (va_wsS RX4 85 yX4_isDue wsX4_isDue) := goodIn_app (goodIn_of _ (by decide +kernel)) ggX4_range_X4_isDue
theorem dX4_range_0 : decode cX4_range 0 = .ok (.aload_n 0, 1) := by decide +kernel
theorem dX4_range_1 : decode cX4_range 1 = .ok (.iload_n 1, 1) := by decide +kernel
theorem dX4_range_2 : decode cX4_range 2 = .ok (.i2l, 1) := by decide +kernel
theorem dX4_range_3 : decode cX4_range 3 = .ok (.lconst 0, 1) := by decide +kernel
theorem dX4_range_4 : decode cX4_range 4 = .ok (.aload_n 0, 1) := by decide +kernel
theorem dX4_range_5 : decode cX4_range 5 = .ok (.getfield 13, 3) := by decide +kernel
theorem dX4_range_8 : decode cX4_range 8 = .ok (.invokestatic 59, 3) := by decide +kernel
theorem dX4_range_11 : decode cX4_range 11 = .ok (.iconst 1, 1) := by decide +kernel
theorem dX4_range_12 : decode cX4_range 12 = .ok (.isub, 1) := by decide +kernel
theorem dX4_range_13 : decode cX4_range 13 = .ok (.i2l, 1) := by decide +kernel
theorem dX4_range_14 : decode cX4_range 14 = .ok (.invokestatic 39, 3) := by decide +kernel
theorem dX4_range_17 : decode cX4_range 17 = .ok (.ifCond .ne 7, 3) := by decide +kernel
theorem dX4_range_20 : decode cX4_range 20 = .ok (.iconst 1, 1) := by decide +kernel
theorem dX4_range_21 : decode cX4_range 21 = .ok (.goto 20, 3) := by decide +kernel
theorem dX4_range_24 : decode cX4_range 24 = .ok (.iload_n 2, 1) := by decide +kernel
theorem dX4_range_25 : decode cX4_range 25 = .ok (.i2l, 1) := by decide +kernel
theorem dX4_range_26 : decode cX4_range 26 = .ok (.lconst 0, 1) := by decide +kernel
theorem dX4_range_27 : decode cX4_range 27 = .ok (.ldc2_w 109, 3) := by decide +kernel
theorem dX4_range_30 : decode cX4_range 30 = .ok (.invokestatic 39, 3) := by decide +kernel
theorem dX4_range_33 : decode cX4_range 33 = .ok (.ifCond .eq 7, 3) := by decide +kernel
theorem dX4_range_36 : decode cX4_range 36 = .ok (.iconst 0, 1) := by decide +kernel
theorem dX4_range_37 : decode cX4_range 37 = .ok (.goto 4, 3) := by decide +kernel
theorem dX4_range_40 : decode cX4_range 40 = .ok (.iconst 2, 1) := by decide +kernel
theorem dX4_range_41 : decode cX4_range 41 = .ok (.invokevirtual 118, 3) := by decide +kernel
theorem dX4_range_44 : decode cX4_range 44 = .ok (.ifCond .eq 5, 3) := by decide +kernel
theorem dX4_range_47 : decode cX4_range 47 = .ok (.iconst 0, 1) := by decide +kernel
theorem dX4_range_48 : decode cX4_range 48 = .ok (.ireturn, 1) := by decide +kernel
theorem dX4_range_49 : decode cX4_range 49 = .ok (.aload_n 0, 1) := by decide +kernel
theorem dX4_range_50 : decode cX4_range 50 = .ok (.getfield 13, 3) := by decide +kernel
theorem dX4_range_53 : decode cX4_range 53 = .ok (.iload_n 1, 1) := by decide +kernel
theorem dX4_range_54 : decode cX4_range 54 = .ok (.invokestatic 188, 3) := by decide +kernel
theorem dX4_range_57 : decode cX4_range 57 = .ok (.istore_n 3, 1) := by decide +kernel
theorem dX4_range_58 : decode cX4_range 58 = .ok (.aload_n 0, 1) := by decide +kernel
theorem dX4_range_59 : decode cX4_range 59 = .ok (.getfield 13, 3) := by decide +kernel
theorem dX4_range_62 : decode cX4_range 62 = .ok (.iload_n 3, 1) := by decide +kernel
theorem dX4_range_63 : decode cX4_range 63 = .ok (.invokestatic 63, 3) := by decide +kernel
theorem dX4_range_66 : decode cX4_range 66 = .ok (.istore 4, 2) := by decide +kernel
theorem dX4_range_68 : decode cX4_range 68 = .ok (.iconst 0, 1) := by decide +kernel
theorem dX4_range_69 : decode cX4_range 69 = .ok (.istore 5, 2) := by decide +kernel
theorem dX4_range_71 : decode cX4_range 71 = .ok (.iconst 0, 1) := by decide +kernel
theorem dX4_range_72 : decode cX4_range 72 = .ok (.istore 6, 2) := by decide +kernel
theorem dX4_range_74 : decode cX4_range 74 = .ok (.iload_n 3, 1) := by decide +kernel
theorem dX4_range_75 : decode cX4_range 75 = .ok (.istore 7, 2) := by decide +kernel
theorem dX4_range_77 : decode cX4_range 77 = .ok (.iload 7, 2) := by decide +kernel
theorem dX4_range_79 : decode cX4_range 79 = .ok (.iload 4, 2) := by decide +kernel
theorem dX4_range_81 : decode cX4_range 81 = .ok (.if_icmp .ge 45, 3) := by decide +kernel
theorem dX4_range_84 : decode cX4_range 84 = .ok (.iload 5, 2) := by decide +kernel
theorem dX4_range_86 : decode cX4_range 86 = .ok (.aload_n 0, 1) := by decide +kernel
theorem dX4_range_87 : decode cX4_range 87 = .ok (.getfield 13, 3) := by decide +kernel
theorem dX4_range_90 : decode cX4_range 90 = .ok (.iload 7, 2) := by decide +kernel
theorem dX4_range_92 : decode cX4_range 92 = .ok (.invokestatic 82, 3) := by decide +kernel
theorem dX4_range_95 : decode cX4_range 95 = .ok (.ifCond .le 7, 3) := by decide +kernel
theorem dX4_range_98 : decode cX4_range 98 = .ok (.iconst 1, 1) := by decide +kernel
theorem dX4_range_99 : decode cX4_range 99 = .ok (.goto 4, 3) := by decide +kernel
theorem dX4_range_102 : decode cX4_range 102 = .ok (.iconst 0, 1) := by decide +kernel
theorem dX4_range_103 : decode cX4_range 103 = .ok (.iadd, 1) := by decide +kernel
theorem dX4_range_104 : decode cX4_range 104 = .ok (.istore 5, 2) := by decide +kernel
theorem dX4_range_106 : decode cX4_range 106 = .ok (.iload 6, 2) := by decide +kernel
theorem dX4_range_108 : decode cX4_range 108 = .ok (.aload_n 0, 1) := by decide +kernel
theorem dX4_range_109 : decode cX4_range 109 = .ok (.getfield 13, 3) := by decide +kernel
theorem dX4_range_112 : decode cX4_range 112 = .ok (.iload 7, 2) := by decide +kernel
theorem dX4_range_114 : decode cX4_range 114 = .ok (.invokestatic 82, 3) := by decide +kernel
theorem dX4_range_117 : decode cX4_range 117 = .ok (.iadd, 1) := by decide +kernel
theorem dX4_range_118 : decode cX4_range 118 = .ok (.istore 6, 2) := by decide +kernel
theorem dX4_range_120 : decode cX4_range 120 = .ok (.iinc 7 1, 3) := by decide +kernel
theorem dX4_range_123 : decode cX4_range 123 = .ok (.goto (-46), 3) := by decide +kernel
theorem dX4_range_126 : decode cX4_range 126 = .ok (.iload_n 2, 1) := by decide +kernel
theorem dX4_range_127 : decode cX4_range 127 = .ok (.ifCond .ne 7, 3) := by decide +kernel
theorem dX4_range_130 : decode cX4_range 130 = .ok (.iload_n 3, 1) := by decide +kernel
theorem dX4_range_131 : decode cX4_range 131 = .ok (.goto 69, 3) := by decide +kernel
theorem dX4_range_134 : decode cX4_range 134 = .ok (.iload_n 2, 1) := by decide +kernel
theorem dX4_range_135 : decode cX4_range 135 = .ok (.iconst 1, 1) := by decide +kernel
theorem dX4_range_136 : decode cX4_range 136 = .ok (.if_icmp .ne 10, 3) := by decide +kernel
theorem dX4_range_139 : decode cX4_range 139 = .ok (.iload 4, 2) := by decide +kernel
theorem dX4_range_141 : decode cX4_range 141 = .ok (.iload_n 3, 1) := by decide +kernel
theorem dX4_range_142 : decode cX4_range 142 = .ok (.isub, 1) := by decide +kernel
theorem dX4_range_143 : decode cX4_range 143 = .ok (.goto 57, 3) := by decide +kernel
theorem dX4_range_146 : decode cX4_range 146 = .ok (.iload_n 2, 1) := by decide +kernel
theorem dX4_range_147 : decode cX4_range 147 = .ok (.iconst 2, 1) := by decide +kernel
theorem dX4_range_148 : decode cX4_range 148 = .ok (.if_icmp .ne 16, 3) := by decide +kernel
theorem dX4_range_151 : decode cX4_range 151 = .ok (.aload_n 0, 1) := by decide +kernel
theorem dX4_range_152 : decode cX4_range 152 = .ok (.getfield 13, 3) := by decide +kernel
theorem dX4_range_155 : decode cX4_range 155 = .ok (.sipush 512, 3) := by decide +kernel
theorem dX4_range_158 : decode cX4_range 158 = .ok (.iload_n 3, 1) := by decide +kernel
theorem dX4_range_159 : decode cX4_range 159 = .ok (.iadd, 1) := by decide +kernel
theorem dX4_range_160 : decode cX4_range 160 = .ok (.iaload, 1) := by decide +kernel
theorem dX4_range_161 : decode cX4_range 161 = .ok (.goto 39, 3) := by decide +kernel
theorem dX4_range_164 : decode cX4_range 164 = .ok (.iload_n 2, 1) := by decide +kernel
theorem dX4_range_165 : decode cX4_range 165 = .ok (.iconst 3, 1) := by decide +kernel
theorem dX4_range_166 : decode cX4_range 166 = .ok (.if_icmp .ne 8, 3) := by decide +kernel
theorem dX4_range_169 : decode cX4_range 169 = .ok (.iload 5, 2) := by decide +kernel
theorem dX4_range_171 : decode cX4_range 171 = .ok (.goto 29, 3) := by decide +kernel
theorem dX4_range_174 : decode cX4_range 174 = .ok (.iload_n 2, 1) := by decide +kernel
theorem dX4_range_175 : decode cX4_range 175 = .ok (.iconst 4, 1) := by decide +kernel
theorem dX4_range_176 : decode cX4_range 176 = .ok (.if_icmp .ne 8, 3) := by decide +kernel
theorem dX4_range_179 : decode cX4_range 179 = .ok (.iload 6, 2) := by decide +kernel
theorem dX4_range_181 : decode cX4_range 181 = .ok (.goto 19, 3) := by decide +kernel
theorem dX4_range_184 : decode cX4_range 184 = .ok (.aload_n 0, 1) := by decide +kernel
theorem dX4_range_185 : decode cX4_range 185 = .ok (.getfield 13, 3) := by decide +kernel
theorem dX4_range_188 : decode cX4_range 188 = .ok (.iload_n 3, 1) := by decide +kernel
theorem dX4_range_189 : decode cX4_range 189 = .ok (.invokestatic 85, 3) := by decide +kernel
theorem dX4_range_192 : decode cX4_range 192 = .ok (.ifCond .eq 7, 3) := by decide +kernel
theorem dX4_range_195 : decode cX4_range 195 = .ok (.iconst 1, 1) := by decide +kernel
theorem dX4_range_196 : decode cX4_range 196 = .ok (.goto 4, 3) := by decide +kernel
theorem dX4_range_199 : decode cX4_range 199 = .ok (.iconst 0, 1) := by decide +kernel
theorem dX4_range_200 : decode cX4_range 200 = .ok (.ireturn, 1) := by decide +kernel
set_option maxRecDepth 20000 in
theorem ggX4_pinned_X4_in : GoodIn wsX4_pinned wsX4_in := goodIn_r _ [6] (by decide +kernel) (by decide +kernel)
set_option maxRecDepth 20000 in
theorem gX4_pinned_X4_in : GoodIn wsX4_pinned (va_wsS RX4 39 yX4_in wsX4_in) := goodIn_app (goodIn_of _ (by decide +kernel)) ggX4_pinned_X4_in
set_option maxRecDepth 20000 in
theorem ggX4_pinned_X4_refused : GoodIn wsX4_pinned wsX4_refused := goodIn_r _ [10, 11, 12, 13, 14, 15, 16, 17, 18, 19, 20, 21, 22, 23, 24] (by decide +kernel) (by decide +kernel)
set_option maxRecDepth 20000 in
theorem gX4_pinned_X4_refused : GoodIn wsX4_pinned (wsV RX4 118 RX4 yX4_refused wsX4_refused) := goodIn_app (goodIn_of _ (by decide +kernel)) ggX4_pinned_X4_refused
theorem dX4_pinned_0 : decode cX4_pinned 0 = .ok (.aload_n 0, 1) := by decide +kernel
theorem dX4_pinned_1 : decode cX4_pinned 1 = .ok (.iload_n 1, 1) := by decide +kernel
theorem dX4_pinned_2 : decode cX4_pinned 2 = .ok (.i2l, 1) := by decide +kernel
theorem dX4_pinned_3 : decode cX4_pinned 3 = .ok (.lconst 0, 1) := by decide +kernel
theorem dX4_pinned_4 : decode cX4_pinned 4 = .ok (.ldc2_w 191, 3) := by decide +kernel
theorem dX4_pinned_7 : decode cX4_pinned 7 = .ok (.invokestatic 39, 3) := by decide +kernel
theorem dX4_pinned_10 : decode cX4_pinned 10 = .ok (.ifCond .ne 7, 3) := by decide +kernel
theorem dX4_pinned_13 : decode cX4_pinned 13 = .ok (.iconst 1, 1) := by decide +kernel
theorem dX4_pinned_14 : decode cX4_pinned 14 = .ok (.goto 18, 3) := by decide +kernel
theorem dX4_pinned_17 : decode cX4_pinned 17 = .ok (.iload_n 2, 1) := by decide +kernel
theorem dX4_pinned_18 : decode cX4_pinned 18 = .ok (.i2l, 1) := by decide +kernel
theorem dX4_pinned_19 : decode cX4_pinned 19 = .ok (.lconst 0, 1) := by decide +kernel
theorem dX4_pinned_20 : decode cX4_pinned 20 = .ok (.lconst 1, 1) := by decide +kernel
theorem dX4_pinned_21 : decode cX4_pinned 21 = .ok (.invokestatic 39, 3) := by decide +kernel
theorem dX4_pinned_24 : decode cX4_pinned 24 = .ok (.ifCond .eq 7, 3) := by decide +kernel
theorem dX4_pinned_27 : decode cX4_pinned 27 = .ok (.iconst 0, 1) := by decide +kernel
theorem dX4_pinned_28 : decode cX4_pinned 28 = .ok (.goto 4, 3) := by decide +kernel
theorem dX4_pinned_31 : decode cX4_pinned 31 = .ok (.iconst 2, 1) := by decide +kernel
theorem dX4_pinned_32 : decode cX4_pinned 32 = .ok (.invokevirtual 118, 3) := by decide +kernel
theorem dX4_pinned_35 : decode cX4_pinned 35 = .ok (.ifCond .eq 5, 3) := by decide +kernel
theorem dX4_pinned_38 : decode cX4_pinned 38 = .ok (.iconst 0, 1) := by decide +kernel
theorem dX4_pinned_39 : decode cX4_pinned 39 = .ok (.ireturn, 1) := by decide +kernel
theorem dX4_pinned_40 : decode cX4_pinned 40 = .ok (.aload_n 0, 1) := by decide +kernel
theorem dX4_pinned_41 : decode cX4_pinned 41 = .ok (.getfield 13, 3) := by decide +kernel
theorem dX4_pinned_44 : decode cX4_pinned 44 = .ok (.sipush 782, 3) := by decide +kernel
theorem dX4_pinned_47 : decode cX4_pinned 47 = .ok (.iload_n 1, 1) := by decide +kernel
theorem dX4_pinned_48 : decode cX4_pinned 48 = .ok (.iadd, 1) := by decide +kernel
theorem dX4_pinned_49 : decode cX4_pinned 49 = .ok (.iaload, 1) := by decide +kernel
theorem dX4_pinned_50 : decode cX4_pinned 50 = .ok (.ifCond .ne 7, 3) := by decide +kernel
theorem dX4_pinned_53 : decode cX4_pinned 53 = .ok (.iconst (-1), 1) := by decide +kernel
theorem dX4_pinned_54 : decode cX4_pinned 54 = .ok (.goto 23, 3) := by decide +kernel
theorem dX4_pinned_57 : decode cX4_pinned 57 = .ok (.aload_n 0, 1) := by decide +kernel
theorem dX4_pinned_58 : decode cX4_pinned 58 = .ok (.getfield 13, 3) := by decide +kernel
theorem dX4_pinned_61 : decode cX4_pinned 61 = .ok (.iload_n 2, 1) := by decide +kernel
theorem dX4_pinned_62 : decode cX4_pinned 62 = .ok (.ifCond .ne 9, 3) := by decide +kernel
theorem dX4_pinned_65 : decode cX4_pinned 65 = .ok (.sipush 779, 3) := by decide +kernel
theorem dX4_pinned_68 : decode cX4_pinned 68 = .ok (.goto 6, 3) := by decide +kernel
theorem dX4_pinned_71 : decode cX4_pinned 71 = .ok (.sipush 782, 3) := by decide +kernel
theorem dX4_pinned_74 : decode cX4_pinned 74 = .ok (.iload_n 1, 1) := by decide +kernel
theorem dX4_pinned_75 : decode cX4_pinned 75 = .ok (.iadd, 1) := by decide +kernel
theorem dX4_pinned_76 : decode cX4_pinned 76 = .ok (.iaload, 1) := by decide +kernel
theorem dX4_pinned_77 : decode cX4_pinned 77 = .ok (.ireturn, 1) := by decide +kernel
set_option maxRecDepth 20000 in
theorem ggX4_setting_X4_in : GoodIn wsX4_setting wsX4_in := goodIn_r _ [6] (by decide +kernel) (by decide +kernel)
set_option maxRecDepth 20000 in
theorem gX4_setting_X4_in : GoodIn wsX4_setting (va_wsS RX4 39 yX4_in wsX4_in) := goodIn_app (goodIn_of _ (by decide +kernel)) ggX4_setting_X4_in
set_option maxRecDepth 20000 in
theorem ggX4_setting_X4_refused : GoodIn wsX4_setting wsX4_refused := goodIn_r _ [10, 11, 12, 13, 14, 15, 16, 17, 18, 19, 20, 21, 22, 23, 24] (by decide +kernel) (by decide +kernel)
set_option maxRecDepth 20000 in
theorem gX4_setting_X4_refused : GoodIn wsX4_setting (wsV RX4 118 RX4 yX4_refused wsX4_refused) := goodIn_app (goodIn_of _ (by decide +kernel)) ggX4_setting_X4_refused
theorem dX4_setting_0 : decode cX4_setting 0 = .ok (.aload_n 0, 1) := by decide +kernel
theorem dX4_setting_1 : decode cX4_setting 1 = .ok (.iload_n 1, 1) := by decide +kernel
theorem dX4_setting_2 : decode cX4_setting 2 = .ok (.i2l, 1) := by decide +kernel
theorem dX4_setting_3 : decode cX4_setting 3 = .ok (.lconst 0, 1) := by decide +kernel
theorem dX4_setting_4 : decode cX4_setting 4 = .ok (.ldc2_w 109, 3) := by decide +kernel
theorem dX4_setting_7 : decode cX4_setting 7 = .ok (.invokestatic 39, 3) := by decide +kernel
theorem dX4_setting_10 : decode cX4_setting 10 = .ok (.ifCond .eq 7, 3) := by decide +kernel
theorem dX4_setting_13 : decode cX4_setting 13 = .ok (.iconst 0, 1) := by decide +kernel
theorem dX4_setting_14 : decode cX4_setting 14 = .ok (.goto 4, 3) := by decide +kernel
theorem dX4_setting_17 : decode cX4_setting 17 = .ok (.iconst 1, 1) := by decide +kernel
theorem dX4_setting_18 : decode cX4_setting 18 = .ok (.invokevirtual 118, 3) := by decide +kernel
theorem dX4_setting_21 : decode cX4_setting 21 = .ok (.ifCond .eq 5, 3) := by decide +kernel
theorem dX4_setting_24 : decode cX4_setting 24 = .ok (.iconst 0, 1) := by decide +kernel
theorem dX4_setting_25 : decode cX4_setting 25 = .ok (.ireturn, 1) := by decide +kernel
theorem dX4_setting_26 : decode cX4_setting 26 = .ok (.aload_n 0, 1) := by decide +kernel
theorem dX4_setting_27 : decode cX4_setting 27 = .ok (.getfield 13, 3) := by decide +kernel
theorem dX4_setting_30 : decode cX4_setting 30 = .ok (.sipush 773, 3) := by decide +kernel
theorem dX4_setting_33 : decode cX4_setting 33 = .ok (.iload_n 1, 1) := by decide +kernel
theorem dX4_setting_34 : decode cX4_setting 34 = .ok (.iadd, 1) := by decide +kernel
theorem dX4_setting_35 : decode cX4_setting 35 = .ok (.iaload, 1) := by decide +kernel
theorem dX4_setting_36 : decode cX4_setting 36 = .ok (.ireturn, 1) := by decide +kernel
set_option maxRecDepth 20000 in
theorem ggX4_remember_X4_copyState : GoodIn wsX4_remember wsX4_copyState := goodIn_r _ [7] (by decide +kernel) (by decide +kernel)
set_option maxRecDepth 20000 in
theorem gX4_remember_X4_copyState : GoodIn wsX4_remember (va_wsS RX4 168 yX4_copyState wsX4_copyState) := goodIn_app (goodIn_of _ (by decide +kernel)) ggX4_remember_X4_copyState
theorem dX4_remember_0 : decode cX4_remember 0 = .ok (.aload_n 0, 1) := by decide +kernel
theorem dX4_remember_1 : decode cX4_remember 1 = .ok (.getfield 172, 3) := by decide +kernel
theorem dX4_remember_4 : decode cX4_remember 4 = .ok (.bipush 14, 2) := by decide +kernel
theorem dX4_remember_6 : decode cX4_remember 6 = .ok (.if_icmp .ne 44, 3) := by decide +kernel
theorem dX4_remember_9 : decode cX4_remember 9 = .ok (.iconst 0, 1) := by decide +kernel
theorem dX4_remember_10 : decode cX4_remember 10 = .ok (.istore_n 1, 1) := by decide +kernel
theorem dX4_remember_11 : decode cX4_remember 11 = .ok (.iload_n 1, 1) := by decide +kernel
theorem dX4_remember_12 : decode cX4_remember 12 = .ok (.sipush 10205, 3) := by decide +kernel
theorem dX4_remember_15 : decode cX4_remember 15 = .ok (.if_icmp .ge 25, 3) := by decide +kernel
theorem dX4_remember_18 : decode cX4_remember 18 = .ok (.aload_n 0, 1) := by decide +kernel
theorem dX4_remember_19 : decode cX4_remember 19 = .ok (.getfield 19, 3) := by decide +kernel
theorem dX4_remember_22 : decode cX4_remember 22 = .ok (.iload_n 1, 1) := by decide +kernel
theorem dX4_remember_23 : decode cX4_remember 23 = .ok (.aload_n 0, 1) := by decide +kernel
theorem dX4_remember_24 : decode cX4_remember 24 = .ok (.getfield 19, 3) := by decide +kernel
theorem dX4_remember_27 : decode cX4_remember 27 = .ok (.iload_n 1, 1) := by decide +kernel
theorem dX4_remember_28 : decode cX4_remember 28 = .ok (.sipush 785, 3) := by decide +kernel
theorem dX4_remember_31 : decode cX4_remember 31 = .ok (.iadd, 1) := by decide +kernel
theorem dX4_remember_32 : decode cX4_remember 32 = .ok (.iaload, 1) := by decide +kernel
theorem dX4_remember_33 : decode cX4_remember 33 = .ok (.iastore, 1) := by decide +kernel
theorem dX4_remember_34 : decode cX4_remember 34 = .ok (.iinc 1 1, 3) := by decide +kernel
theorem dX4_remember_37 : decode cX4_remember 37 = .ok (.goto (-26), 3) := by decide +kernel
theorem dX4_remember_40 : decode cX4_remember 40 = .ok (.aload_n 0, 1) := by decide +kernel
theorem dX4_remember_41 : decode cX4_remember 41 = .ok (.dup, 1) := by decide +kernel
theorem dX4_remember_42 : decode cX4_remember 42 = .ok (.getfield 172, 3) := by decide +kernel
theorem dX4_remember_45 : decode cX4_remember 45 = .ok (.iconst 1, 1) := by decide +kernel
theorem dX4_remember_46 : decode cX4_remember 46 = .ok (.isub, 1) := by decide +kernel
theorem dX4_remember_47 : decode cX4_remember 47 = .ok (.putfield 172, 3) := by decide +kernel
theorem dX4_remember_50 : decode cX4_remember 50 = .ok (.aload_n 0, 1) := by decide +kernel
theorem dX4_remember_51 : decode cX4_remember 51 = .ok (.getfield 13, 3) := by decide +kernel
theorem dX4_remember_54 : decode cX4_remember 54 = .ok (.iconst 0, 1) := by decide +kernel
theorem dX4_remember_55 : decode cX4_remember 55 = .ok (.aload_n 0, 1) := by decide +kernel
theorem dX4_remember_56 : decode cX4_remember 56 = .ok (.getfield 19, 3) := by decide +kernel
theorem dX4_remember_59 : decode cX4_remember 59 = .ok (.sipush 785, 3) := by decide +kernel
theorem dX4_remember_62 : decode cX4_remember 62 = .ok (.aload_n 0, 1) := by decide +kernel
theorem dX4_remember_63 : decode cX4_remember 63 = .ok (.getfield 172, 3) := by decide +kernel
theorem dX4_remember_66 : decode cX4_remember 66 = .ok (.imul, 1) := by decide +kernel
theorem dX4_remember_67 : decode cX4_remember 67 = .ok (.invokestatic 168, 3) := by decide +kernel
theorem dX4_remember_70 : decode cX4_remember 70 = .ok (.aload_n 0, 1) := by decide +kernel
theorem dX4_remember_71 : decode cX4_remember 71 = .ok (.dup, 1) := by decide +kernel
theorem dX4_remember_72 : decode cX4_remember 72 = .ok (.getfield 172, 3) := by decide +kernel
theorem dX4_remember_75 : decode cX4_remember 75 = .ok (.iconst 1, 1) := by decide +kernel
theorem dX4_remember_76 : decode cX4_remember 76 = .ok (.iadd, 1) := by decide +kernel
theorem dX4_remember_77 : decode cX4_remember 77 = .ok (.putfield 172, 3) := by decide +kernel
theorem dX4_remember_80 : decode cX4_remember 80 = .ok (.return_, 1) := by decide +kernel
set_option maxRecDepth 20000 in
theorem ggX4_write_X4_whyNotSpan : GoodIn wsX4_write wsX4_whyNotSpan := goodIn_r _ [5, 6, 7, 8, 4, 9, 10, 11, 12, 13] (by decide +kernel) (by decide +kernel)
set_option maxRecDepth 20000 in
theorem gX4_write_X4_whyNotSpan : GoodIn wsX4_write (va_wsS RX4 133 yX4_whyNotSpan wsX4_whyNotSpan) := goodIn_app (goodIn_of _ (by decide +kernel)) ggX4_write_X4_whyNotSpan
set_option maxRecDepth 20000 in
theorem ggX4_write_X4_refused : GoodIn wsX4_write wsX4_refused := goodIn_r _ [17, 18, 46, 47, 48, 49, 50, 51, 52, 53, 54, 55, 56, 57, 58] (by decide +kernel) (by decide +kernel)
set_option maxRecDepth 20000 in
theorem gX4_write_X4_refused : GoodIn wsX4_write (wsV RX4 118 RX4 yX4_refused wsX4_refused) := goodIn_app (goodIn_of _ (by decide +kernel)) ggX4_write_X4_refused
set_option maxRecDepth 20000 in
theorem ggX4_write_X4_remember : GoodIn wsX4_write wsX4_remember := goodIn_r _ [22, 23, 24, 1, 25, 26, 4, 27, 46, 47, 48, 49, 50, 51, 52, 53, 54, 55, 56, 57, 58] (by decide +kernel) (by decide +kernel)
set_option maxRecDepth 20000 in
theorem gX4_write_X4_remember : GoodIn wsX4_write (wsV RX4 193 RX4 yX4_remember wsX4_remember) := goodIn_app (goodIn_of _ (by decide +kernel)) ggX4_write_X4_remember
set_option maxRecDepth 20000 in
theorem ggX4_write_X4_writeOn : GoodIn wsX4_write wsX4_writeOn := goodIn_r _ [30, 31, 32, 4, 33, 7, 8, 9, 10, 11, 12, 13, 34, 35, 36, 37, 38, 39, 40, 41, 42, 43, 44, 45] (by decide +kernel) (by decide +kernel)
set_option maxRecDepth 20000 in
theorem gX4_write_X4_writeOn : GoodIn wsX4_write (va_wsS RX4 136 yX4_writeOn wsX4_writeOn) := goodIn_app (goodIn_of _ (by decide +kernel)) ggX4_write_X4_writeOn
theorem dX4_write_0 : decode cX4_write 0 = .ok (.aload_n 0, 1) := by decide +kernel
theorem dX4_write_1 : decode cX4_write 1 = .ok (.iload_n 1, 1) := by decide +kernel
theorem dX4_write_2 : decode cX4_write 2 = .ok (.iload_n 2, 1) := by decide +kernel
theorem dX4_write_3 : decode cX4_write 3 = .ok (.invokestatic 133, 3) := by decide +kernel
theorem dX4_write_6 : decode cX4_write 6 = .ok (.invokevirtual 118, 3) := by decide +kernel
theorem dX4_write_9 : decode cX4_write 9 = .ok (.ifCond .eq 5, 3) := by decide +kernel
theorem dX4_write_12 : decode cX4_write 12 = .ok (.iconst 0, 1) := by decide +kernel
theorem dX4_write_13 : decode cX4_write 13 = .ok (.ireturn, 1) := by decide +kernel
theorem dX4_write_14 : decode cX4_write 14 = .ok (.aload_n 0, 1) := by decide +kernel
theorem dX4_write_15 : decode cX4_write 15 = .ok (.invokevirtual 193, 3) := by decide +kernel
theorem dX4_write_18 : decode cX4_write 18 = .ok (.aload_n 0, 1) := by decide +kernel
theorem dX4_write_19 : decode cX4_write 19 = .ok (.getfield 13, 3) := by decide +kernel
theorem dX4_write_22 : decode cX4_write 22 = .ok (.iload_n 1, 1) := by decide +kernel
theorem dX4_write_23 : decode cX4_write 23 = .ok (.iload_n 2, 1) := by decide +kernel
theorem dX4_write_24 : decode cX4_write 24 = .ok (.invokestatic 136, 3) := by decide +kernel
theorem dX4_write_27 : decode cX4_write 27 = .ok (.ireturn, 1) := by decide +kernel
set_option maxRecDepth 20000 in
theorem ggX4_free_X4_whyNotSpan : GoodIn wsX4_free wsX4_whyNotSpan := goodIn_r _ [5, 6, 7, 8, 4, 9, 10, 11, 12, 13] (by decide +kernel) (by decide +kernel)
set_option maxRecDepth 20000 in
theorem gX4_free_X4_whyNotSpan : GoodIn wsX4_free (va_wsS RX4 133 yX4_whyNotSpan wsX4_whyNotSpan) := goodIn_app (goodIn_of _ (by decide +kernel)) ggX4_free_X4_whyNotSpan
set_option maxRecDepth 20000 in
theorem ggX4_free_X4_refused : GoodIn wsX4_free wsX4_refused := goodIn_r _ [17, 18, 49, 50, 51, 52, 53, 54, 55, 56, 57, 58, 59, 60, 61] (by decide +kernel) (by decide +kernel)
set_option maxRecDepth 20000 in
theorem gX4_free_X4_refused : GoodIn wsX4_free (wsV RX4 118 RX4 yX4_refused wsX4_refused) := goodIn_app (goodIn_of _ (by decide +kernel)) ggX4_free_X4_refused
set_option maxRecDepth 20000 in
theorem ggX4_free_X4_remember : GoodIn wsX4_free wsX4_remember := goodIn_r _ [22, 23, 24, 1, 25, 26, 4, 27, 49, 50, 51, 52, 53, 54, 55, 56, 57, 58, 59, 60, 61] (by decide +kernel) (by decide +kernel)
set_option maxRecDepth 20000 in
theorem gX4_free_X4_remember : GoodIn wsX4_free (wsV RX4 193 RX4 yX4_remember wsX4_remember) := goodIn_app (goodIn_of _ (by decide +kernel)) ggX4_free_X4_remember
set_option maxRecDepth 20000 in
theorem ggX4_free_X4_freeOn : GoodIn wsX4_free wsX4_freeOn := goodIn_r _ [30, 31, 32, 4, 33, 34, 35, 36, 7, 8, 9, 10, 11, 12, 13, 37, 38, 39, 40, 41, 42, 43, 44, 45, 46, 47, 48] (by decide +kernel) (by decide +kernel)
set_option maxRecDepth 20000 in
theorem gX4_free_X4_freeOn : GoodIn wsX4_free (va_wsS RX4 140 yX4_freeOn wsX4_freeOn) := goodIn_app (goodIn_of _ (by decide +kernel)) ggX4_free_X4_freeOn
theorem dX4_free_0 : decode cX4_free 0 = .ok (.aload_n 0, 1) := by decide +kernel
theorem dX4_free_1 : decode cX4_free 1 = .ok (.iload_n 1, 1) := by decide +kernel
theorem dX4_free_2 : decode cX4_free 2 = .ok (.iload_n 2, 1) := by decide +kernel
theorem dX4_free_3 : decode cX4_free 3 = .ok (.invokestatic 133, 3) := by decide +kernel
theorem dX4_free_6 : decode cX4_free 6 = .ok (.invokevirtual 118, 3) := by decide +kernel
theorem dX4_free_9 : decode cX4_free 9 = .ok (.ifCond .eq 5, 3) := by decide +kernel
theorem dX4_free_12 : decode cX4_free 12 = .ok (.iconst 0, 1) := by decide +kernel
theorem dX4_free_13 : decode cX4_free 13 = .ok (.ireturn, 1) := by decide +kernel
theorem dX4_free_14 : decode cX4_free 14 = .ok (.aload_n 0, 1) := by decide +kernel
theorem dX4_free_15 : decode cX4_free 15 = .ok (.invokevirtual 193, 3) := by decide +kernel
theorem dX4_free_18 : decode cX4_free 18 = .ok (.aload_n 0, 1) := by decide +kernel
theorem dX4_free_19 : decode cX4_free 19 = .ok (.getfield 13, 3) := by decide +kernel
theorem dX4_free_22 : decode cX4_free 22 = .ok (.iload_n 1, 1) := by decide +kernel
theorem dX4_free_23 : decode cX4_free 23 = .ok (.iload_n 2, 1) := by decide +kernel
theorem dX4_free_24 : decode cX4_free 24 = .ok (.invokestatic 140, 3) := by decide +kernel
theorem dX4_free_27 : decode cX4_free 27 = .ok (.ireturn, 1) := by decide +kernel
set_option maxRecDepth 20000 in
theorem ggX4_pin_X4_in : GoodIn wsX4_pin wsX4_in := goodIn_r _ [6] (by decide +kernel) (by decide +kernel)
set_option maxRecDepth 20000 in
theorem gX4_pin_X4_in : GoodIn wsX4_pin (va_wsS RX4 39 yX4_in wsX4_in) := goodIn_app (goodIn_of _ (by decide +kernel)) ggX4_pin_X4_in
set_option maxRecDepth 20000 in
theorem ggX4_pin_X4_whyNotSpan : GoodIn wsX4_pin wsX4_whyNotSpan := goodIn_r _ [9, 10, 11, 12, 5, 13, 14, 3, 4, 6] (by decide +kernel) (by decide +kernel)
set_option maxRecDepth 20000 in
theorem gX4_pin_X4_whyNotSpan : GoodIn wsX4_pin (va_wsS RX4 133 yX4_whyNotSpan wsX4_whyNotSpan) := goodIn_app (goodIn_of _ (by decide +kernel)) ggX4_pin_X4_whyNotSpan
set_option maxRecDepth 20000 in
theorem ggX4_pin_X4_refused : GoodIn wsX4_pin wsX4_refused := goodIn_r _ [18, 19, 38, 39, 40, 41, 42, 43, 44, 45, 46, 47, 48, 49, 50] (by decide +kernel) (by decide +kernel)
set_option maxRecDepth 20000 in
theorem gX4_pin_X4_refused : GoodIn wsX4_pin (wsV RX4 118 RX4 yX4_refused wsX4_refused) := goodIn_app (goodIn_of _ (by decide +kernel)) ggX4_pin_X4_refused
set_option maxRecDepth 20000 in
theorem ggX4_pin_X4_remember : GoodIn wsX4_pin wsX4_remember := goodIn_r _ [23, 24, 25, 2, 26, 27, 5, 28, 38, 39, 40, 41, 42, 43, 44, 45, 46, 47, 48, 49, 50] (by decide +kernel) (by decide +kernel)
set_option maxRecDepth 20000 in
theorem gX4_pin_X4_remember : GoodIn wsX4_pin (wsV RX4 193 RX4 yX4_remember wsX4_remember) := goodIn_app (goodIn_of _ (by decide +kernel)) ggX4_pin_X4_remember
set_option maxRecDepth 20000 in
theorem ggX4_pin_X4_pinOn : GoodIn wsX4_pin wsX4_pinOn := goodIn_r _ [31, 32, 33, 5, 34, 35, 36, 37] (by decide +kernel) (by decide +kernel)
set_option maxRecDepth 20000 in
theorem gX4_pin_X4_pinOn : GoodIn wsX4_pin (va_wsS RX4 150 yX4_pinOn wsX4_pinOn) := goodIn_app (goodIn_of _ (by decide +kernel)) ggX4_pin_X4_pinOn
theorem dX4_pin_0 : decode cX4_pin 0 = .ok (.aload_n 0, 1) := by decide +kernel
theorem dX4_pin_1 : decode cX4_pin 1 = .ok (.iload_n 1, 1) := by decide +kernel
theorem dX4_pin_2 : decode cX4_pin 2 = .ok (.i2l, 1) := by decide +kernel
theorem dX4_pin_3 : decode cX4_pin 3 = .ok (.lconst 0, 1) := by decide +kernel
theorem dX4_pin_4 : decode cX4_pin 4 = .ok (.ldc2_w 191, 3) := by decide +kernel
theorem dX4_pin_7 : decode cX4_pin 7 = .ok (.invokestatic 39, 3) := by decide +kernel
theorem dX4_pin_10 : decode cX4_pin 10 = .ok (.ifCond .eq 11, 3) := by decide +kernel
theorem dX4_pin_13 : decode cX4_pin 13 = .ok (.iload_n 2, 1) := by decide +kernel
theorem dX4_pin_14 : decode cX4_pin 14 = .ok (.iload_n 3, 1) := by decide +kernel
theorem dX4_pin_15 : decode cX4_pin 15 = .ok (.invokestatic 133, 3) := by decide +kernel
theorem dX4_pin_18 : decode cX4_pin 18 = .ok (.goto 4, 3) := by decide +kernel
theorem dX4_pin_21 : decode cX4_pin 21 = .ok (.iconst 1, 1) := by decide +kernel
theorem dX4_pin_22 : decode cX4_pin 22 = .ok (.invokevirtual 118, 3) := by decide +kernel
theorem dX4_pin_25 : decode cX4_pin 25 = .ok (.ifCond .eq 5, 3) := by decide +kernel
theorem dX4_pin_28 : decode cX4_pin 28 = .ok (.iconst 0, 1) := by decide +kernel
theorem dX4_pin_29 : decode cX4_pin 29 = .ok (.ireturn, 1) := by decide +kernel
theorem dX4_pin_30 : decode cX4_pin 30 = .ok (.aload_n 0, 1) := by decide +kernel
theorem dX4_pin_31 : decode cX4_pin 31 = .ok (.invokevirtual 193, 3) := by decide +kernel
theorem dX4_pin_34 : decode cX4_pin 34 = .ok (.aload_n 0, 1) := by decide +kernel
theorem dX4_pin_35 : decode cX4_pin 35 = .ok (.getfield 13, 3) := by decide +kernel
theorem dX4_pin_38 : decode cX4_pin 38 = .ok (.iload_n 1, 1) := by decide +kernel
theorem dX4_pin_39 : decode cX4_pin 39 = .ok (.iload_n 2, 1) := by decide +kernel
theorem dX4_pin_40 : decode cX4_pin 40 = .ok (.iload_n 3, 1) := by decide +kernel
theorem dX4_pin_41 : decode cX4_pin 41 = .ok (.invokestatic 150, 3) := by decide +kernel
theorem dX4_pin_44 : decode cX4_pin 44 = .ok (.ireturn, 1) := by decide +kernel
set_option maxRecDepth 20000 in
theorem ggX4_unpin_X4_in : GoodIn wsX4_unpin wsX4_in := goodIn_r _ [6] (by decide +kernel) (by decide +kernel)
set_option maxRecDepth 20000 in
theorem gX4_unpin_X4_in : GoodIn wsX4_unpin (va_wsS RX4 39 yX4_in wsX4_in) := goodIn_app (goodIn_of _ (by decide +kernel)) ggX4_unpin_X4_in
set_option maxRecDepth 20000 in
theorem ggX4_unpin_X4_refused : GoodIn wsX4_unpin wsX4_refused := goodIn_r _ [10, 11, 30, 31, 32, 33, 34, 35, 36, 37, 38, 39, 40, 41, 42] (by decide +kernel) (by decide +kernel)
set_option maxRecDepth 20000 in
theorem gX4_unpin_X4_refused : GoodIn wsX4_unpin (wsV RX4 118 RX4 yX4_refused wsX4_refused) := goodIn_app (goodIn_of _ (by decide +kernel)) ggX4_unpin_X4_refused
set_option maxRecDepth 20000 in
theorem ggX4_unpin_X4_remember : GoodIn wsX4_unpin wsX4_remember := goodIn_r _ [15, 16, 17, 2, 18, 19, 5, 20, 30, 31, 32, 33, 34, 35, 36, 37, 38, 39, 40, 41, 42] (by decide +kernel) (by decide +kernel)
set_option maxRecDepth 20000 in
theorem gX4_unpin_X4_remember : GoodIn wsX4_unpin (wsV RX4 193 RX4 yX4_remember wsX4_remember) := goodIn_app (goodIn_of _ (by decide +kernel)) ggX4_unpin_X4_remember
set_option maxRecDepth 20000 in
theorem ggX4_unpin_X4_pinOn : GoodIn wsX4_unpin wsX4_pinOn := goodIn_r _ [23, 24, 25, 5, 26, 27, 28, 29] (by decide +kernel) (by decide +kernel)
set_option maxRecDepth 20000 in
theorem gX4_unpin_X4_pinOn : GoodIn wsX4_unpin (va_wsS RX4 150 yX4_pinOn wsX4_pinOn) := goodIn_app (goodIn_of _ (by decide +kernel)) ggX4_unpin_X4_pinOn
theorem dX4_unpin_0 : decode cX4_unpin 0 = .ok (.aload_n 0, 1) := by decide +kernel
theorem dX4_unpin_1 : decode cX4_unpin 1 = .ok (.iload_n 1, 1) := by decide +kernel
theorem dX4_unpin_2 : decode cX4_unpin 2 = .ok (.i2l, 1) := by decide +kernel
theorem dX4_unpin_3 : decode cX4_unpin 3 = .ok (.lconst 0, 1) := by decide +kernel
theorem dX4_unpin_4 : decode cX4_unpin 4 = .ok (.ldc2_w 191, 3) := by decide +kernel
theorem dX4_unpin_7 : decode cX4_unpin 7 = .ok (.invokestatic 39, 3) := by decide +kernel
theorem dX4_unpin_10 : decode cX4_unpin 10 = .ok (.ifCond .ne 7, 3) := by decide +kernel
theorem dX4_unpin_13 : decode cX4_unpin 13 = .ok (.iconst 1, 1) := by decide +kernel
theorem dX4_unpin_14 : decode cX4_unpin 14 = .ok (.goto 21, 3) := by decide +kernel
theorem dX4_unpin_17 : decode cX4_unpin 17 = .ok (.aload_n 0, 1) := by decide +kernel
theorem dX4_unpin_18 : decode cX4_unpin 18 = .ok (.getfield 13, 3) := by decide +kernel
theorem dX4_unpin_21 : decode cX4_unpin 21 = .ok (.sipush 782, 3) := by decide +kernel
theorem dX4_unpin_24 : decode cX4_unpin 24 = .ok (.iload_n 1, 1) := by decide +kernel
theorem dX4_unpin_25 : decode cX4_unpin 25 = .ok (.iadd, 1) := by decide +kernel
theorem dX4_unpin_26 : decode cX4_unpin 26 = .ok (.iaload, 1) := by decide +kernel
theorem dX4_unpin_27 : decode cX4_unpin 27 = .ok (.ifCond .ne 7, 3) := by decide +kernel
theorem dX4_unpin_30 : decode cX4_unpin 30 = .ok (.iconst 2, 1) := by decide +kernel
theorem dX4_unpin_31 : decode cX4_unpin 31 = .ok (.goto 4, 3) := by decide +kernel
theorem dX4_unpin_34 : decode cX4_unpin 34 = .ok (.iconst 0, 1) := by decide +kernel
theorem dX4_unpin_35 : decode cX4_unpin 35 = .ok (.invokevirtual 118, 3) := by decide +kernel
theorem dX4_unpin_38 : decode cX4_unpin 38 = .ok (.ifCond .eq 5, 3) := by decide +kernel
theorem dX4_unpin_41 : decode cX4_unpin 41 = .ok (.iconst 0, 1) := by decide +kernel
theorem dX4_unpin_42 : decode cX4_unpin 42 = .ok (.ireturn, 1) := by decide +kernel
theorem dX4_unpin_43 : decode cX4_unpin 43 = .ok (.aload_n 0, 1) := by decide +kernel
theorem dX4_unpin_44 : decode cX4_unpin 44 = .ok (.invokevirtual 193, 3) := by decide +kernel
theorem dX4_unpin_47 : decode cX4_unpin 47 = .ok (.aload_n 0, 1) := by decide +kernel
theorem dX4_unpin_48 : decode cX4_unpin 48 = .ok (.getfield 13, 3) := by decide +kernel
theorem dX4_unpin_51 : decode cX4_unpin 51 = .ok (.iload_n 1, 1) := by decide +kernel
theorem dX4_unpin_52 : decode cX4_unpin 52 = .ok (.iconst 0, 1) := by decide +kernel
theorem dX4_unpin_53 : decode cX4_unpin 53 = .ok (.iconst 0, 1) := by decide +kernel
theorem dX4_unpin_54 : decode cX4_unpin 54 = .ok (.invokestatic 150, 3) := by decide +kernel
theorem dX4_unpin_57 : decode cX4_unpin 57 = .ok (.ireturn, 1) := by decide +kernel
set_option maxRecDepth 20000 in
theorem ggX4_run_X4_in : GoodIn wsX4_run wsX4_in := goodIn_r _ [6] (by decide +kernel) (by decide +kernel)
set_option maxRecDepth 20000 in
theorem gX4_run_X4_in : GoodIn wsX4_run (va_wsS RX4 39 yX4_in wsX4_in) := goodIn_app (goodIn_of _ (by decide +kernel)) ggX4_run_X4_in
set_option maxRecDepth 20000 in
theorem ggX4_run_X4_refused : GoodIn wsX4_run wsX4_refused := goodIn_r _ [10, 11, 75, 76, 77, 78, 79, 80, 81, 82, 83, 84, 85, 86, 87] (by decide +kernel) (by decide +kernel)
set_option maxRecDepth 20000 in
theorem gX4_run_X4_refused : GoodIn wsX4_run (wsV RX4 118 RX4 yX4_refused wsX4_refused) := goodIn_app (goodIn_of _ (by decide +kernel)) ggX4_run_X4_refused
set_option maxRecDepth 20000 in
theorem ggX4_run_X4_remember : GoodIn wsX4_run wsX4_remember := goodIn_r _ [15, 16, 17, 2, 18, 19, 5, 20, 75, 76, 77, 78, 79, 80, 81, 82, 83, 84, 85, 86, 87] (by decide +kernel) (by decide +kernel)
set_option maxRecDepth 20000 in
theorem gX4_run_X4_remember : GoodIn wsX4_run (wsV RX4 193 RX4 yX4_remember wsX4_remember) := goodIn_app (goodIn_of _ (by decide +kernel)) ggX4_run_X4_remember
set_option maxRecDepth 20000 in
theorem ggX4_run_X4_runOn : GoodIn wsX4_run wsX4_runOn := goodIn_r _ [24, 25, 26, 27, 5, 28, 29, 30, 31, 32, 33, 34, 35, 36, 37, 38, 39, 40, 3, 4, 6, 41, 42, 43, 44, 45, 46, 47, 48, 49, 50, 51, 52, 53, 54, 55, 56, 57, 58, 59, 60, 61, 62, 63, 64, 65, 66, 67, 68, 69, 70, 71, 72, 73, 74, 75, 76, 77, 78, 79, 80, 81, 82, 83, 84, 85, 86, 87] (by decide +kernel) (by decide +kernel)
set_option maxRecDepth 20000 in
theorem gX4_run_X4_runOn : GoodIn wsX4_run (wsV RX4 147 RX4 yX4_runOn wsX4_runOn) := goodIn_app (goodIn_of _ (by decide +kernel)) ggX4_run_X4_runOn
theorem dX4_run_0 : decode cX4_run 0 = .ok (.aload_n 0, 1) := by decide +kernel
theorem dX4_run_1 : decode cX4_run 1 = .ok (.iload_n 1, 1) := by decide +kernel
theorem dX4_run_2 : decode cX4_run 2 = .ok (.i2l, 1) := by decide +kernel
theorem dX4_run_3 : decode cX4_run 3 = .ok (.lconst 1, 1) := by decide +kernel
theorem dX4_run_4 : decode cX4_run 4 = .ok (.ldc2_w 196, 3) := by decide +kernel
theorem dX4_run_7 : decode cX4_run 7 = .ok (.invokestatic 39, 3) := by decide +kernel
theorem dX4_run_10 : decode cX4_run 10 = .ok (.ifCond .eq 7, 3) := by decide +kernel
theorem dX4_run_13 : decode cX4_run 13 = .ok (.iconst 0, 1) := by decide +kernel
theorem dX4_run_14 : decode cX4_run 14 = .ok (.goto 4, 3) := by decide +kernel
theorem dX4_run_17 : decode cX4_run 17 = .ok (.iconst 1, 1) := by decide +kernel
theorem dX4_run_18 : decode cX4_run 18 = .ok (.invokevirtual 118, 3) := by decide +kernel
theorem dX4_run_21 : decode cX4_run 21 = .ok (.ifCond .eq 5, 3) := by decide +kernel
theorem dX4_run_24 : decode cX4_run 24 = .ok (.iconst 0, 1) := by decide +kernel
theorem dX4_run_25 : decode cX4_run 25 = .ok (.ireturn, 1) := by decide +kernel
theorem dX4_run_26 : decode cX4_run 26 = .ok (.aload_n 0, 1) := by decide +kernel
theorem dX4_run_27 : decode cX4_run 27 = .ok (.invokevirtual 193, 3) := by decide +kernel
theorem dX4_run_30 : decode cX4_run 30 = .ok (.aload_n 0, 1) := by decide +kernel
theorem dX4_run_31 : decode cX4_run 31 = .ok (.aload_n 0, 1) := by decide +kernel
theorem dX4_run_32 : decode cX4_run 32 = .ok (.getfield 13, 3) := by decide +kernel
theorem dX4_run_35 : decode cX4_run 35 = .ok (.iload_n 1, 1) := by decide +kernel
theorem dX4_run_36 : decode cX4_run 36 = .ok (.invokevirtual 147, 3) := by decide +kernel
theorem dX4_run_39 : decode cX4_run 39 = .ok (.ireturn, 1) := by decide +kernel
set_option maxRecDepth 20000 in
theorem ggX4_flush_X4_remember : GoodIn wsX4_flush wsX4_remember := goodIn_r _ [7, 8, 9, 2, 10, 11, 6, 12, 66, 67, 68, 69, 70, 71, 72, 73, 74, 75, 76, 77, 78] (by decide +kernel) (by decide +kernel)
set_option maxRecDepth 20000 in
theorem gX4_flush_X4_remember : GoodIn wsX4_flush (wsV RX4 193 RX4 yX4_remember wsX4_remember) := goodIn_app (goodIn_of _ (by decide +kernel)) ggX4_flush_X4_remember
set_option maxRecDepth 20000 in
theorem ggX4_flush_X4_flushOn : GoodIn wsX4_flush wsX4_flushOn := goodIn_r _ [16, 17, 18, 6, 19, 20, 21, 22, 23, 24, 25, 26, 27, 28, 29, 30, 31, 32, 33, 34, 35, 36, 37, 38, 39, 40, 41, 42, 43, 44, 45, 46, 47, 48, 49, 50, 51, 52, 53, 54, 55, 56, 57, 58, 59, 60, 61, 62, 63, 64, 65, 66, 67, 68, 69, 70, 71, 72, 73, 74, 75, 76, 77, 78] (by decide +kernel) (by decide +kernel)
set_option maxRecDepth 20000 in
theorem gX4_flush_X4_flushOn : GoodIn wsX4_flush (wsV RX4 198 RX4 yX4_flushOn wsX4_flushOn) := goodIn_app (goodIn_of _ (by decide +kernel)) ggX4_flush_X4_flushOn
theorem dX4_flush_0 : decode cX4_flush 0 = .ok (.aload_n 0, 1) := by decide +kernel
theorem dX4_flush_1 : decode cX4_flush 1 = .ok (.iconst 0, 1) := by decide +kernel
theorem dX4_flush_2 : decode cX4_flush 2 = .ok (.putfield 33, 3) := by decide +kernel
theorem dX4_flush_5 : decode cX4_flush 5 = .ok (.aload_n 0, 1) := by decide +kernel
theorem dX4_flush_6 : decode cX4_flush 6 = .ok (.invokevirtual 193, 3) := by decide +kernel
theorem dX4_flush_9 : decode cX4_flush 9 = .ok (.aload_n 0, 1) := by decide +kernel
theorem dX4_flush_10 : decode cX4_flush 10 = .ok (.aload_n 0, 1) := by decide +kernel
theorem dX4_flush_11 : decode cX4_flush 11 = .ok (.getfield 13, 3) := by decide +kernel
theorem dX4_flush_14 : decode cX4_flush 14 = .ok (.invokevirtual 198, 3) := by decide +kernel
theorem dX4_flush_17 : decode cX4_flush 17 = .ok (.ireturn, 1) := by decide +kernel
set_option maxRecDepth 20000 in
theorem ggX4_set_X4_isSetting : GoodIn wsX4_set wsX4_isSetting := goodIn_r _ [5, 6, 7, 8, 4, 9, 10, 11, 12] (by decide +kernel) (by decide +kernel)
set_option maxRecDepth 20000 in
theorem gX4_set_X4_isSetting : GoodIn wsX4_set (va_wsS RX4 154 yX4_isSetting wsX4_isSetting) := goodIn_app (goodIn_of _ (by decide +kernel)) ggX4_set_X4_isSetting
set_option maxRecDepth 20000 in
theorem ggX4_set_X4_refused : GoodIn wsX4_set wsX4_refused := goodIn_r _ [16, 17, 30, 31, 32, 33, 34, 35, 36, 37, 38, 39, 40, 41, 42] (by decide +kernel) (by decide +kernel)
set_option maxRecDepth 20000 in
theorem gX4_set_X4_refused : GoodIn wsX4_set (wsV RX4 118 RX4 yX4_refused wsX4_refused) := goodIn_app (goodIn_of _ (by decide +kernel)) ggX4_set_X4_refused
set_option maxRecDepth 20000 in
theorem ggX4_set_X4_remember : GoodIn wsX4_set wsX4_remember := goodIn_r _ [21, 22, 23, 1, 24, 25, 4, 26, 30, 31, 32, 33, 34, 35, 36, 37, 38, 39, 40, 41, 42] (by decide +kernel) (by decide +kernel)
set_option maxRecDepth 20000 in
theorem gX4_set_X4_remember : GoodIn wsX4_set (wsV RX4 193 RX4 yX4_remember wsX4_remember) := goodIn_app (goodIn_of _ (by decide +kernel)) ggX4_set_X4_remember
set_option maxRecDepth 20000 in
theorem ggX4_set_X4_lay : GoodIn wsX4_set wsX4_lay := goodIn_r _ [29] (by decide +kernel) (by decide +kernel)
set_option maxRecDepth 20000 in
theorem gX4_set_X4_lay : GoodIn wsX4_set (va_wsS RX4 158 yX4_lay wsX4_lay) := goodIn_app (goodIn_of _ (by decide +kernel)) ggX4_set_X4_lay
theorem dX4_set_0 : decode cX4_set 0 = .ok (.aload_n 0, 1) := by decide +kernel
theorem dX4_set_1 : decode cX4_set 1 = .ok (.iload_n 1, 1) := by decide +kernel
theorem dX4_set_2 : decode cX4_set 2 = .ok (.iload_n 2, 1) := by decide +kernel
theorem dX4_set_3 : decode cX4_set 3 = .ok (.invokestatic 154, 3) := by decide +kernel
theorem dX4_set_6 : decode cX4_set 6 = .ok (.ifCond .eq 7, 3) := by decide +kernel
theorem dX4_set_9 : decode cX4_set 9 = .ok (.iconst 0, 1) := by decide +kernel
theorem dX4_set_10 : decode cX4_set 10 = .ok (.goto 4, 3) := by decide +kernel
theorem dX4_set_13 : decode cX4_set 13 = .ok (.iconst 1, 1) := by decide +kernel
theorem dX4_set_14 : decode cX4_set 14 = .ok (.invokevirtual 118, 3) := by decide +kernel
theorem dX4_set_17 : decode cX4_set 17 = .ok (.ifCond .eq 5, 3) := by decide +kernel
theorem dX4_set_20 : decode cX4_set 20 = .ok (.iconst 0, 1) := by decide +kernel
theorem dX4_set_21 : decode cX4_set 21 = .ok (.ireturn, 1) := by decide +kernel
theorem dX4_set_22 : decode cX4_set 22 = .ok (.aload_n 0, 1) := by decide +kernel
theorem dX4_set_23 : decode cX4_set 23 = .ok (.invokevirtual 193, 3) := by decide +kernel
theorem dX4_set_26 : decode cX4_set 26 = .ok (.aload_n 0, 1) := by decide +kernel
theorem dX4_set_27 : decode cX4_set 27 = .ok (.getfield 13, 3) := by decide +kernel
theorem dX4_set_30 : decode cX4_set 30 = .ok (.iload_n 1, 1) := by decide +kernel
theorem dX4_set_31 : decode cX4_set 31 = .ok (.iload_n 2, 1) := by decide +kernel
theorem dX4_set_32 : decode cX4_set 32 = .ok (.invokestatic 158, 3) := by decide +kernel
theorem dX4_set_35 : decode cX4_set 35 = .ok (.ireturn, 1) := by decide +kernel
set_option maxRecDepth 20000 in
theorem ggX4_undo_X4_refused : GoodIn wsX4_undo wsX4_refused := goodIn_r _ [8, 9, 13, 14, 15, 16, 17, 18, 19, 20, 21, 22, 23, 24, 25] (by decide +kernel) (by decide +kernel)
set_option maxRecDepth 20000 in
theorem gX4_undo_X4_refused : GoodIn wsX4_undo (wsV RX4 118 RX4 yX4_refused wsX4_refused) := goodIn_app (goodIn_of _ (by decide +kernel)) ggX4_undo_X4_refused
set_option maxRecDepth 20000 in
theorem ggX4_undo_X4_copyState : GoodIn wsX4_undo wsX4_copyState := goodIn_r _ [12] (by decide +kernel) (by decide +kernel)
set_option maxRecDepth 20000 in
theorem gX4_undo_X4_copyState : GoodIn wsX4_undo (va_wsS RX4 168 yX4_copyState wsX4_copyState) := goodIn_app (goodIn_of _ (by decide +kernel)) ggX4_undo_X4_copyState
theorem dX4_undo_0 : decode cX4_undo 0 = .ok (.aload_n 0, 1) := by decide +kernel
theorem dX4_undo_1 : decode cX4_undo 1 = .ok (.aload_n 0, 1) := by decide +kernel
theorem dX4_undo_2 : decode cX4_undo 2 = .ok (.getfield 172, 3) := by decide +kernel
theorem dX4_undo_5 : decode cX4_undo 5 = .ok (.ifCond .ne 7, 3) := by decide +kernel
theorem dX4_undo_8 : decode cX4_undo 8 = .ok (.iconst 1, 1) := by decide +kernel
theorem dX4_undo_9 : decode cX4_undo 9 = .ok (.goto 4, 3) := by decide +kernel
theorem dX4_undo_12 : decode cX4_undo 12 = .ok (.iconst 0, 1) := by decide +kernel
theorem dX4_undo_13 : decode cX4_undo 13 = .ok (.invokevirtual 118, 3) := by decide +kernel
theorem dX4_undo_16 : decode cX4_undo 16 = .ok (.ifCond .eq 5, 3) := by decide +kernel
theorem dX4_undo_19 : decode cX4_undo 19 = .ok (.iconst 0, 1) := by decide +kernel
theorem dX4_undo_20 : decode cX4_undo 20 = .ok (.ireturn, 1) := by decide +kernel
theorem dX4_undo_21 : decode cX4_undo 21 = .ok (.aload_n 0, 1) := by decide +kernel
theorem dX4_undo_22 : decode cX4_undo 22 = .ok (.dup, 1) := by decide +kernel
theorem dX4_undo_23 : decode cX4_undo 23 = .ok (.getfield 172, 3) := by decide +kernel
theorem dX4_undo_26 : decode cX4_undo 26 = .ok (.iconst 1, 1) := by decide +kernel
theorem dX4_undo_27 : decode cX4_undo 27 = .ok (.isub, 1) := by decide +kernel
theorem dX4_undo_28 : decode cX4_undo 28 = .ok (.putfield 172, 3) := by decide +kernel
theorem dX4_undo_31 : decode cX4_undo 31 = .ok (.aload_n 0, 1) := by decide +kernel
theorem dX4_undo_32 : decode cX4_undo 32 = .ok (.getfield 19, 3) := by decide +kernel
theorem dX4_undo_35 : decode cX4_undo 35 = .ok (.sipush 785, 3) := by decide +kernel
theorem dX4_undo_38 : decode cX4_undo 38 = .ok (.aload_n 0, 1) := by decide +kernel
theorem dX4_undo_39 : decode cX4_undo 39 = .ok (.getfield 172, 3) := by decide +kernel
theorem dX4_undo_42 : decode cX4_undo 42 = .ok (.imul, 1) := by decide +kernel
theorem dX4_undo_43 : decode cX4_undo 43 = .ok (.aload_n 0, 1) := by decide +kernel
theorem dX4_undo_44 : decode cX4_undo 44 = .ok (.getfield 13, 3) := by decide +kernel
theorem dX4_undo_47 : decode cX4_undo 47 = .ok (.iconst 0, 1) := by decide +kernel
theorem dX4_undo_48 : decode cX4_undo 48 = .ok (.invokestatic 168, 3) := by decide +kernel
theorem dX4_undo_51 : decode cX4_undo 51 = .ok (.aload_n 0, 1) := by decide +kernel
theorem dX4_undo_52 : decode cX4_undo 52 = .ok (.getfield 172, 3) := by decide +kernel
theorem dX4_undo_55 : decode cX4_undo 55 = .ok (.ireturn, 1) := by decide +kernel
set_option maxRecDepth 20000 in
theorem ggX4_next_X4_in : GoodIn wsX4_next wsX4_in := goodIn_r _ [7] (by decide +kernel) (by decide +kernel)
set_option maxRecDepth 20000 in
theorem gX4_next_X4_in : GoodIn wsX4_next (va_wsS RX4 39 yX4_in wsX4_in) := goodIn_app (goodIn_of _ (by decide +kernel)) ggX4_next_X4_in
set_option maxRecDepth 20000 in
theorem ggX4_next_X4_refused : GoodIn wsX4_next wsX4_refused := goodIn_r _ [11, 12, 66, 67, 68, 69, 70, 71, 72, 73, 74, 75, 76, 77, 78] (by decide +kernel) (by decide +kernel)
set_option maxRecDepth 20000 in
theorem gX4_next_X4_refused : GoodIn wsX4_next (wsV RX4 118 RX4 yX4_refused wsX4_refused) := goodIn_app (goodIn_of _ (by decide +kernel)) ggX4_next_X4_refused
set_option maxRecDepth 20000 in
theorem ggX4_next_X4_copyState : GoodIn wsX4_next wsX4_copyState := goodIn_r _ [15] (by decide +kernel) (by decide +kernel)
set_option maxRecDepth 20000 in
theorem gX4_next_X4_copyState : GoodIn wsX4_next (va_wsS RX4 168 yX4_copyState wsX4_copyState) := goodIn_app (goodIn_of _ (by decide +kernel)) ggX4_next_X4_copyState
set_option maxRecDepth 20000 in
theorem ggX4_next_X4_chosen : GoodIn wsX4_next wsX4_chosen := goodIn_r _ [18, 19, 20, 6, 21, 22, 23, 24, 25, 26, 27, 4, 5, 7, 28, 29, 30, 31, 32, 33, 34, 35, 36, 37, 38, 39, 40] (by decide +kernel) (by decide +kernel)
set_option maxRecDepth 20000 in
theorem gX4_next_X4_chosen : GoodIn wsX4_next (va_wsS RX4 94 yX4_chosen wsX4_chosen) := goodIn_app (goodIn_of _ (by decide +kernel)) ggX4_next_X4_chosen
set_option maxRecDepth 20000 in
theorem ggX4_next_X4_piece : GoodIn wsX4_next wsX4_piece := goodIn_r _ [21, 22, 23, 6, 24, 25, 26, 27, 4, 5, 7, 28, 29, 30, 31, 32, 33, 34, 35, 36, 37] (by decide +kernel) (by decide +kernel)
set_option maxRecDepth 20000 in
theorem gX4_next_X4_piece : GoodIn wsX4_next (va_wsS RX4 82 yX4_piece wsX4_piece) := goodIn_app (goodIn_of _ (by decide +kernel)) ggX4_next_X4_piece
set_option maxRecDepth 20000 in
theorem ggX4_next_X4_least : GoodIn wsX4_next wsX4_least := goodIn_r _ [43] (by decide +kernel) (by decide +kernel)
set_option maxRecDepth 20000 in
theorem gX4_next_X4_least : GoodIn wsX4_next (va_wsS RX4 98 yX4_least wsX4_least) := goodIn_app (goodIn_of _ (by decide +kernel)) ggX4_next_X4_least
set_option maxRecDepth 20000 in
theorem ggX4_next_X4_granule : GoodIn wsX4_next wsX4_granule := goodIn_r _ [24] (by decide +kernel) (by decide +kernel)
set_option maxRecDepth 20000 in
theorem gX4_next_X4_granule : GoodIn wsX4_next (va_wsS RX4 76 yX4_granule wsX4_granule) := goodIn_app (goodIn_of _ (by decide +kernel)) ggX4_next_X4_granule
set_option maxRecDepth 20000 in
theorem ggX4_next_X4_tick : GoodIn wsX4_next wsX4_tick := goodIn_r _ [47, 16, 17, 6, 18, 19, 20, 21, 22, 23, 24, 25, 26, 27, 4, 5, 7, 28, 29, 30, 31, 32, 33, 34, 35, 36, 37, 38, 39, 40, 41, 42, 43, 48, 49, 50, 51, 52, 53, 54, 55, 56, 57, 58, 59, 60, 61, 62, 63, 64, 65, 66, 67, 68, 69, 70, 71, 72, 73, 74, 75, 76, 77, 78] (by decide +kernel) (by decide +kernel)
set_option maxRecDepth 20000 in
theorem gX4_next_X4_tick : GoodIn wsX4_next (wsV RX4 106 RX4 yX4_tick wsX4_tick) := goodIn_app (goodIn_of _ (by decide +kernel)) ggX4_next_X4_tick
theorem dX4_next_0 : decode cX4_next 0 = .ok (.aload_n 0, 1) := by decide +kernel
theorem dX4_next_1 : decode cX4_next 1 = .ok (.iload_n 1, 1) := by decide +kernel
theorem dX4_next_2 : decode cX4_next 2 = .ok (.i2l, 1) := by decide +kernel
theorem dX4_next_3 : decode cX4_next 3 = .ok (.lconst 0, 1) := by decide +kernel
theorem dX4_next_4 : decode cX4_next 4 = .ok (.ldc2_w 191, 3) := by decide +kernel
theorem dX4_next_7 : decode cX4_next 7 = .ok (.invokestatic 39, 3) := by decide +kernel
theorem dX4_next_10 : decode cX4_next 10 = .ok (.ifCond .eq 7, 3) := by decide +kernel
theorem dX4_next_13 : decode cX4_next 13 = .ok (.iconst 0, 1) := by decide +kernel
theorem dX4_next_14 : decode cX4_next 14 = .ok (.goto 4, 3) := by decide +kernel
theorem dX4_next_17 : decode cX4_next 17 = .ok (.iconst 1, 1) := by decide +kernel
theorem dX4_next_18 : decode cX4_next 18 = .ok (.invokevirtual 118, 3) := by decide +kernel
theorem dX4_next_21 : decode cX4_next 21 = .ok (.ifCond .eq 5, 3) := by decide +kernel
theorem dX4_next_24 : decode cX4_next 24 = .ok (.iconst 0, 1) := by decide +kernel
theorem dX4_next_25 : decode cX4_next 25 = .ok (.ireturn, 1) := by decide +kernel
theorem dX4_next_26 : decode cX4_next 26 = .ok (.aload_n 0, 1) := by decide +kernel
theorem dX4_next_27 : decode cX4_next 27 = .ok (.getfield 13, 3) := by decide +kernel
theorem dX4_next_30 : decode cX4_next 30 = .ok (.iconst 0, 1) := by decide +kernel
theorem dX4_next_31 : decode cX4_next 31 = .ok (.aload_n 0, 1) := by decide +kernel
theorem dX4_next_32 : decode cX4_next 32 = .ok (.getfield 16, 3) := by decide +kernel
theorem dX4_next_35 : decode cX4_next 35 = .ok (.iconst 0, 1) := by decide +kernel
theorem dX4_next_36 : decode cX4_next 36 = .ok (.invokestatic 168, 3) := by decide +kernel
theorem dX4_next_39 : decode cX4_next 39 = .ok (.iconst 0, 1) := by decide +kernel
theorem dX4_next_40 : decode cX4_next 40 = .ok (.istore_n 2, 1) := by decide +kernel
theorem dX4_next_41 : decode cX4_next 41 = .ok (.iload_n 2, 1) := by decide +kernel
theorem dX4_next_42 : decode cX4_next 42 = .ok (.bipush 100, 2) := by decide +kernel
theorem dX4_next_44 : decode cX4_next 44 = .ok (.if_icmp .ge 147, 3) := by decide +kernel
theorem dX4_next_47 : decode cX4_next 47 = .ok (.aload_n 0, 1) := by decide +kernel
theorem dX4_next_48 : decode cX4_next 48 = .ok (.getfield 16, 3) := by decide +kernel
theorem dX4_next_51 : decode cX4_next 51 = .ok (.sipush 769, 3) := by decide +kernel
theorem dX4_next_54 : decode cX4_next 54 = .ok (.iaload, 1) := by decide +kernel
theorem dX4_next_55 : decode cX4_next 55 = .ok (.aload_n 0, 1) := by decide +kernel
theorem dX4_next_56 : decode cX4_next 56 = .ok (.getfield 16, 3) := by decide +kernel
theorem dX4_next_59 : decode cX4_next 59 = .ok (.sipush 774, 3) := by decide +kernel
theorem dX4_next_62 : decode cX4_next 62 = .ok (.iaload, 1) := by decide +kernel
theorem dX4_next_63 : decode cX4_next 63 = .ok (.if_icmp .lt 114, 3) := by decide +kernel
theorem dX4_next_66 : decode cX4_next 66 = .ok (.aload_n 0, 1) := by decide +kernel
theorem dX4_next_67 : decode cX4_next 67 = .ok (.getfield 16, 3) := by decide +kernel
theorem dX4_next_70 : decode cX4_next 70 = .ok (.sipush 775, 3) := by decide +kernel
theorem dX4_next_73 : decode cX4_next 73 = .ok (.iaload, 1) := by decide +kernel
theorem dX4_next_74 : decode cX4_next 74 = .ok (.aload_n 0, 1) := by decide +kernel
theorem dX4_next_75 : decode cX4_next 75 = .ok (.getfield 16, 3) := by decide +kernel
theorem dX4_next_78 : decode cX4_next 78 = .ok (.sipush 777, 3) := by decide +kernel
theorem dX4_next_81 : decode cX4_next 81 = .ok (.iaload, 1) := by decide +kernel
theorem dX4_next_82 : decode cX4_next 82 = .ok (.if_icmp .le 95, 3) := by decide +kernel
theorem dX4_next_85 : decode cX4_next 85 = .ok (.aload_n 0, 1) := by decide +kernel
theorem dX4_next_86 : decode cX4_next 86 = .ok (.getfield 16, 3) := by decide +kernel
theorem dX4_next_89 : decode cX4_next 89 = .ok (.aload_n 0, 1) := by decide +kernel
theorem dX4_next_90 : decode cX4_next 90 = .ok (.getfield 16, 3) := by decide +kernel
theorem dX4_next_93 : decode cX4_next 93 = .ok (.sipush 778, 3) := by decide +kernel
theorem dX4_next_96 : decode cX4_next 96 = .ok (.iaload, 1) := by decide +kernel
theorem dX4_next_97 : decode cX4_next 97 = .ok (.iconst 1, 1) := by decide +kernel
theorem dX4_next_98 : decode cX4_next 98 = .ok (.invokestatic 94, 3) := by decide +kernel
theorem dX4_next_101 : decode cX4_next 101 = .ok (.istore_n 3, 1) := by decide +kernel
theorem dX4_next_102 : decode cX4_next 102 = .ok (.iload_n 3, 1) := by decide +kernel
theorem dX4_next_103 : decode cX4_next 103 = .ok (.iconst (-1), 1) := by decide +kernel
theorem dX4_next_104 : decode cX4_next 104 = .ok (.if_icmp .eq 73, 3) := by decide +kernel
theorem dX4_next_107 : decode cX4_next 107 = .ok (.bipush 16, 2) := by decide +kernel
theorem dX4_next_109 : decode cX4_next 109 = .ok (.aload_n 0, 1) := by decide +kernel
theorem dX4_next_110 : decode cX4_next 110 = .ok (.getfield 16, 3) := by decide +kernel
theorem dX4_next_113 : decode cX4_next 113 = .ok (.iload_n 3, 1) := by decide +kernel
theorem dX4_next_114 : decode cX4_next 114 = .ok (.invokestatic 82, 3) := by decide +kernel
theorem dX4_next_117 : decode cX4_next 117 = .ok (.aload_n 0, 1) := by decide +kernel
theorem dX4_next_118 : decode cX4_next 118 = .ok (.getfield 16, 3) := by decide +kernel
theorem dX4_next_121 : decode cX4_next 121 = .ok (.sipush 775, 3) := by decide +kernel
theorem dX4_next_124 : decode cX4_next 124 = .ok (.iaload, 1) := by decide +kernel
theorem dX4_next_125 : decode cX4_next 125 = .ok (.aload_n 0, 1) := by decide +kernel
theorem dX4_next_126 : decode cX4_next 126 = .ok (.getfield 16, 3) := by decide +kernel
theorem dX4_next_129 : decode cX4_next 129 = .ok (.sipush 777, 3) := by decide +kernel
theorem dX4_next_132 : decode cX4_next 132 = .ok (.iaload, 1) := by decide +kernel
theorem dX4_next_133 : decode cX4_next 133 = .ok (.isub, 1) := by decide +kernel
theorem dX4_next_134 : decode cX4_next 134 = .ok (.invokestatic 98, 3) := by decide +kernel
theorem dX4_next_137 : decode cX4_next 137 = .ok (.invokestatic 98, 3) := by decide +kernel
theorem dX4_next_140 : decode cX4_next 140 = .ok (.istore 4, 2) := by decide +kernel
theorem dX4_next_142 : decode cX4_next 142 = .ok (.iload_n 1, 1) := by decide +kernel
theorem dX4_next_143 : decode cX4_next 143 = .ok (.ifCond .ne 7, 3) := by decide +kernel
theorem dX4_next_146 : decode cX4_next 146 = .ok (.iload_n 3, 1) := by decide +kernel
theorem dX4_next_147 : decode cX4_next 147 = .ok (.goto 29, 3) := by decide +kernel
theorem dX4_next_150 : decode cX4_next 150 = .ok (.iload_n 1, 1) := by decide +kernel
theorem dX4_next_151 : decode cX4_next 151 = .ok (.iconst 1, 1) := by decide +kernel
theorem dX4_next_152 : decode cX4_next 152 = .ok (.if_icmp .ne 16, 3) := by decide +kernel
theorem dX4_next_155 : decode cX4_next 155 = .ok (.iload 4, 2) := by decide +kernel
theorem dX4_next_157 : decode cX4_next 157 = .ok (.aload_n 0, 1) := by decide +kernel
theorem dX4_next_158 : decode cX4_next 158 = .ok (.getfield 16, 3) := by decide +kernel
theorem dX4_next_161 : decode cX4_next 161 = .ok (.invokestatic 76, 3) := by decide +kernel
theorem dX4_next_164 : decode cX4_next 164 = .ok (.imul, 1) := by decide +kernel
theorem dX4_next_165 : decode cX4_next 165 = .ok (.goto 11, 3) := by decide +kernel
theorem dX4_next_168 : decode cX4_next 168 = .ok (.aload_n 0, 1) := by decide +kernel
theorem dX4_next_169 : decode cX4_next 169 = .ok (.getfield 16, 3) := by decide +kernel
theorem dX4_next_172 : decode cX4_next 172 = .ok (.sipush 768, 3) := by decide +kernel
theorem dX4_next_175 : decode cX4_next 175 = .ok (.iaload, 1) := by decide +kernel
theorem dX4_next_176 : decode cX4_next 176 = .ok (.ireturn, 1) := by decide +kernel
theorem dX4_next_177 : decode cX4_next 177 = .ok (.aload_n 0, 1) := by decide +kernel
theorem dX4_next_178 : decode cX4_next 178 = .ok (.aload_n 0, 1) := by decide +kernel
theorem dX4_next_179 : decode cX4_next 179 = .ok (.getfield 16, 3) := by decide +kernel
theorem dX4_next_182 : decode cX4_next 182 = .ok (.invokevirtual 106, 3) := by decide +kernel
theorem dX4_next_185 : decode cX4_next 185 = .ok (.iinc 2 1, 3) := by decide +kernel
theorem dX4_next_188 : decode cX4_next 188 = .ok (.goto (-147), 3) := by decide +kernel
theorem dX4_next_191 : decode cX4_next 191 = .ok (.iconst (-1), 1) := by decide +kernel
theorem dX4_next_192 : decode cX4_next 192 = .ok (.ireturn, 1) := by decide +kernel
set_option maxRecDepth 20000 in
theorem ggX4_goneIn_X4_isBlock : GoodIn wsX4_goneIn wsX4_isBlock := goodIn_r _ [6, 7, 8, 9, 5, 10] (by decide +kernel) (by decide +kernel)
set_option maxRecDepth 20000 in
theorem gX4_goneIn_X4_isBlock : GoodIn wsX4_goneIn (va_wsS RX4 43 yX4_isBlock wsX4_isBlock) := goodIn_app (goodIn_of _ (by decide +kernel)) ggX4_goneIn_X4_isBlock
set_option maxRecDepth 20000 in
theorem ggX4_goneIn_X4_refused : GoodIn wsX4_goneIn wsX4_refused := goodIn_r _ [14, 15, 65, 66, 67, 68, 69, 70, 71, 72, 73, 74, 75, 76, 77] (by decide +kernel) (by decide +kernel)
set_option maxRecDepth 20000 in
theorem gX4_goneIn_X4_refused : GoodIn wsX4_goneIn (wsV RX4 118 RX4 yX4_refused wsX4_refused) := goodIn_app (goodIn_of _ (by decide +kernel)) ggX4_goneIn_X4_refused
set_option maxRecDepth 20000 in
theorem ggX4_goneIn_X4_copyState : GoodIn wsX4_goneIn wsX4_copyState := goodIn_r _ [18] (by decide +kernel) (by decide +kernel)
set_option maxRecDepth 20000 in
theorem gX4_goneIn_X4_copyState : GoodIn wsX4_goneIn (va_wsS RX4 168 yX4_copyState wsX4_copyState) := goodIn_app (goodIn_of _ (by decide +kernel)) ggX4_goneIn_X4_copyState
set_option maxRecDepth 20000 in
theorem ggX4_goneIn_X4_tick : GoodIn wsX4_goneIn wsX4_tick := goodIn_r _ [22, 23, 24, 5, 25, 26, 27, 28, 29, 30, 31, 32, 33, 34, 8, 9, 10, 35, 36, 37, 3, 4, 6, 7, 38, 39, 40, 41, 42, 43, 44, 45, 46, 47, 48, 49, 50, 51, 52, 53, 54, 55, 56, 57, 58, 59, 60, 61, 62, 63, 64, 65, 66, 67, 68, 69, 70, 71, 72, 73, 74, 75, 76, 77] (by decide +kernel) (by decide +kernel)
set_option maxRecDepth 20000 in
theorem gX4_goneIn_X4_tick : GoodIn wsX4_goneIn (wsV RX4 106 RX4 yX4_tick wsX4_tick) := goodIn_app (goodIn_of _ (by decide +kernel)) ggX4_goneIn_X4_tick
theorem dX4_goneIn_0 : decode cX4_goneIn 0 = .ok (.aload_n 0, 1) := by decide +kernel
theorem dX4_goneIn_1 : decode cX4_goneIn 1 = .ok (.iload_n 1, 1) := by decide +kernel
theorem dX4_goneIn_2 : decode cX4_goneIn 2 = .ok (.invokestatic 43, 3) := by decide +kernel
theorem dX4_goneIn_5 : decode cX4_goneIn 5 = .ok (.ifCond .eq 7, 3) := by decide +kernel
theorem dX4_goneIn_8 : decode cX4_goneIn 8 = .ok (.iconst 0, 1) := by decide +kernel
theorem dX4_goneIn_9 : decode cX4_goneIn 9 = .ok (.goto 4, 3) := by decide +kernel
theorem dX4_goneIn_12 : decode cX4_goneIn 12 = .ok (.iconst 1, 1) := by decide +kernel
theorem dX4_goneIn_13 : decode cX4_goneIn 13 = .ok (.invokevirtual 118, 3) := by decide +kernel
theorem dX4_goneIn_16 : decode cX4_goneIn 16 = .ok (.ifCond .eq 5, 3) := by decide +kernel
theorem dX4_goneIn_19 : decode cX4_goneIn 19 = .ok (.iconst 0, 1) := by decide +kernel
theorem dX4_goneIn_20 : decode cX4_goneIn 20 = .ok (.ireturn, 1) := by decide +kernel
theorem dX4_goneIn_21 : decode cX4_goneIn 21 = .ok (.aload_n 0, 1) := by decide +kernel
theorem dX4_goneIn_22 : decode cX4_goneIn 22 = .ok (.getfield 13, 3) := by decide +kernel
theorem dX4_goneIn_25 : decode cX4_goneIn 25 = .ok (.iconst 0, 1) := by decide +kernel
theorem dX4_goneIn_26 : decode cX4_goneIn 26 = .ok (.aload_n 0, 1) := by decide +kernel
theorem dX4_goneIn_27 : decode cX4_goneIn 27 = .ok (.getfield 16, 3) := by decide +kernel
theorem dX4_goneIn_30 : decode cX4_goneIn 30 = .ok (.iconst 0, 1) := by decide +kernel
theorem dX4_goneIn_31 : decode cX4_goneIn 31 = .ok (.invokestatic 168, 3) := by decide +kernel
theorem dX4_goneIn_34 : decode cX4_goneIn 34 = .ok (.iconst 0, 1) := by decide +kernel
theorem dX4_goneIn_35 : decode cX4_goneIn 35 = .ok (.istore_n 2, 1) := by decide +kernel
theorem dX4_goneIn_36 : decode cX4_goneIn 36 = .ok (.iload_n 2, 1) := by decide +kernel
theorem dX4_goneIn_37 : decode cX4_goneIn 37 = .ok (.bipush 100, 2) := by decide +kernel
theorem dX4_goneIn_39 : decode cX4_goneIn 39 = .ok (.if_icmp .gt 32, 3) := by decide +kernel
theorem dX4_goneIn_42 : decode cX4_goneIn 42 = .ok (.aload_n 0, 1) := by decide +kernel
theorem dX4_goneIn_43 : decode cX4_goneIn 43 = .ok (.getfield 16, 3) := by decide +kernel
theorem dX4_goneIn_46 : decode cX4_goneIn 46 = .ok (.sipush 256, 3) := by decide +kernel
theorem dX4_goneIn_49 : decode cX4_goneIn 49 = .ok (.iload_n 1, 1) := by decide +kernel
theorem dX4_goneIn_50 : decode cX4_goneIn 50 = .ok (.iadd, 1) := by decide +kernel
theorem dX4_goneIn_51 : decode cX4_goneIn 51 = .ok (.iaload, 1) := by decide +kernel
theorem dX4_goneIn_52 : decode cX4_goneIn 52 = .ok (.ifCond .ne 5, 3) := by decide +kernel
theorem dX4_goneIn_55 : decode cX4_goneIn 55 = .ok (.iload_n 2, 1) := by decide +kernel
theorem dX4_goneIn_56 : decode cX4_goneIn 56 = .ok (.ireturn, 1) := by decide +kernel
theorem dX4_goneIn_57 : decode cX4_goneIn 57 = .ok (.aload_n 0, 1) := by decide +kernel
theorem dX4_goneIn_58 : decode cX4_goneIn 58 = .ok (.aload_n 0, 1) := by decide +kernel
theorem dX4_goneIn_59 : decode cX4_goneIn 59 = .ok (.getfield 16, 3) := by decide +kernel
theorem dX4_goneIn_62 : decode cX4_goneIn 62 = .ok (.invokevirtual 106, 3) := by decide +kernel
theorem dX4_goneIn_65 : decode cX4_goneIn 65 = .ok (.iinc 2 1, 3) := by decide +kernel
theorem dX4_goneIn_68 : decode cX4_goneIn 68 = .ok (.goto (-32), 3) := by decide +kernel
theorem dX4_goneIn_71 : decode cX4_goneIn 71 = .ok (.iconst (-1), 1) := by decide +kernel
theorem dX4_goneIn_72 : decode cX4_goneIn 72 = .ok (.ireturn, 1) := by decide +kernel
set_option maxRecDepth 20000 in
theorem ggX4_coming_X4_in : GoodIn wsX4_coming wsX4_in := goodIn_r _ [8] (by decide +kernel) (by decide +kernel)
set_option maxRecDepth 20000 in
theorem gX4_coming_X4_in : GoodIn wsX4_coming (va_wsS RX4 39 yX4_in wsX4_in) := goodIn_app (goodIn_of _ (by decide +kernel)) ggX4_coming_X4_in
set_option maxRecDepth 20000 in
theorem ggX4_coming_X4_refused : GoodIn wsX4_coming wsX4_refused := goodIn_r _ [12, 13, 74, 75, 76, 77, 78, 79, 80, 81, 82, 83, 84, 85, 86] (by decide +kernel) (by decide +kernel)
set_option maxRecDepth 20000 in
theorem gX4_coming_X4_refused : GoodIn wsX4_coming (wsV RX4 118 RX4 yX4_refused wsX4_refused) := goodIn_app (goodIn_of _ (by decide +kernel)) ggX4_coming_X4_refused
set_option maxRecDepth 20000 in
theorem ggX4_coming_X4_copyState : GoodIn wsX4_coming wsX4_copyState := goodIn_r _ [16] (by decide +kernel) (by decide +kernel)
set_option maxRecDepth 20000 in
theorem gX4_coming_X4_copyState : GoodIn wsX4_coming (va_wsS RX4 168 yX4_copyState wsX4_copyState) := goodIn_app (goodIn_of _ (by decide +kernel)) ggX4_coming_X4_copyState
set_option maxRecDepth 20000 in
theorem ggX4_coming_X4_runOn : GoodIn wsX4_coming wsX4_runOn := goodIn_r _ [20, 21, 22, 23, 7, 24, 25, 26, 27, 28, 29, 30, 31, 32, 33, 34, 35, 36, 5, 6, 8, 37, 38, 39, 40, 41, 42, 43, 44, 45, 46, 47, 48, 49, 50, 51, 52, 53, 54, 55, 56, 57, 58, 59, 60, 61, 62, 63, 64, 65, 66, 67, 68, 69, 70, 74, 75, 76, 77, 78, 79, 80, 81, 82, 83, 84, 85, 86] (by decide +kernel) (by decide +kernel)
set_option maxRecDepth 20000 in
theorem gX4_coming_X4_runOn : GoodIn wsX4_coming (wsV RX4 147 RX4 yX4_runOn wsX4_runOn) := goodIn_app (goodIn_of _ (by decide +kernel)) ggX4_coming_X4_runOn
set_option maxRecDepth 20000 in
theorem ggX4_coming_X4_ranges : GoodIn wsX4_coming wsX4_ranges := goodIn_r _ [64, 65, 66, 7, 67, 37, 38, 39, 40, 41, 42, 43, 5, 6, 8] (by decide +kernel) (by decide +kernel)
set_option maxRecDepth 20000 in
theorem gX4_coming_X4_ranges : GoodIn wsX4_coming (va_wsS RX4 59 yX4_ranges wsX4_ranges) := goodIn_app (goodIn_of _ (by decide +kernel)) ggX4_coming_X4_ranges
set_option maxRecDepth 20000 in
theorem ggX4_coming_X4_queuedBlocks : GoodIn wsX4_coming wsX4_queuedBlocks := goodIn_r _ [73, 37, 38, 7, 39, 40, 41, 42, 43, 5, 6, 8] (by decide +kernel) (by decide +kernel)
set_option maxRecDepth 20000 in
theorem gX4_coming_X4_queuedBlocks : GoodIn wsX4_coming (va_wsS RX4 180 yX4_queuedBlocks wsX4_queuedBlocks) := goodIn_app (goodIn_of _ (by decide +kernel)) ggX4_coming_X4_queuedBlocks
theorem dX4_coming_0 : decode cX4_coming 0 = .ok (.aload_n 0, 1) := by decide +kernel
theorem dX4_coming_1 : decode cX4_coming 1 = .ok (.iload_n 1, 1) := by decide +kernel
theorem dX4_coming_2 : decode cX4_coming 2 = .ok (.i2l, 1) := by decide +kernel
theorem dX4_coming_3 : decode cX4_coming 3 = .ok (.lconst 1, 1) := by decide +kernel
theorem dX4_coming_4 : decode cX4_coming 4 = .ok (.ldc2_w 201, 3) := by decide +kernel
theorem dX4_coming_7 : decode cX4_coming 7 = .ok (.invokestatic 39, 3) := by decide +kernel
theorem dX4_coming_10 : decode cX4_coming 10 = .ok (.ifCond .eq 19, 3) := by decide +kernel
theorem dX4_coming_13 : decode cX4_coming 13 = .ok (.iload_n 2, 1) := by decide +kernel
theorem dX4_coming_14 : decode cX4_coming 14 = .ok (.i2l, 1) := by decide +kernel
theorem dX4_coming_15 : decode cX4_coming 15 = .ok (.lconst 0, 1) := by decide +kernel
theorem dX4_coming_16 : decode cX4_coming 16 = .ok (.ldc2_w 186, 3) := by decide +kernel
theorem dX4_coming_19 : decode cX4_coming 19 = .ok (.invokestatic 39, 3) := by decide +kernel
theorem dX4_coming_22 : decode cX4_coming 22 = .ok (.ifCond .eq 7, 3) := by decide +kernel
theorem dX4_coming_25 : decode cX4_coming 25 = .ok (.iconst 0, 1) := by decide +kernel
theorem dX4_coming_26 : decode cX4_coming 26 = .ok (.goto 4, 3) := by decide +kernel
theorem dX4_coming_29 : decode cX4_coming 29 = .ok (.iconst 1, 1) := by decide +kernel
theorem dX4_coming_30 : decode cX4_coming 30 = .ok (.invokevirtual 118, 3) := by decide +kernel
theorem dX4_coming_33 : decode cX4_coming 33 = .ok (.ifCond .eq 5, 3) := by decide +kernel
theorem dX4_coming_36 : decode cX4_coming 36 = .ok (.iconst 0, 1) := by decide +kernel
theorem dX4_coming_37 : decode cX4_coming 37 = .ok (.ireturn, 1) := by decide +kernel
theorem dX4_coming_38 : decode cX4_coming 38 = .ok (.aload_n 0, 1) := by decide +kernel
theorem dX4_coming_39 : decode cX4_coming 39 = .ok (.getfield 13, 3) := by decide +kernel
theorem dX4_coming_42 : decode cX4_coming 42 = .ok (.iconst 0, 1) := by decide +kernel
theorem dX4_coming_43 : decode cX4_coming 43 = .ok (.aload_n 0, 1) := by decide +kernel
theorem dX4_coming_44 : decode cX4_coming 44 = .ok (.getfield 16, 3) := by decide +kernel
theorem dX4_coming_47 : decode cX4_coming 47 = .ok (.iconst 0, 1) := by decide +kernel
theorem dX4_coming_48 : decode cX4_coming 48 = .ok (.invokestatic 168, 3) := by decide +kernel
theorem dX4_coming_51 : decode cX4_coming 51 = .ok (.aload_n 0, 1) := by decide +kernel
theorem dX4_coming_52 : decode cX4_coming 52 = .ok (.aload_n 0, 1) := by decide +kernel
theorem dX4_coming_53 : decode cX4_coming 53 = .ok (.getfield 16, 3) := by decide +kernel
theorem dX4_coming_56 : decode cX4_coming 56 = .ok (.iload_n 1, 1) := by decide +kernel
theorem dX4_coming_57 : decode cX4_coming 57 = .ok (.invokevirtual 147, 3) := by decide +kernel
theorem dX4_coming_60 : decode cX4_coming 60 = .ok (.istore_n 3, 1) := by decide +kernel
theorem dX4_coming_61 : decode cX4_coming 61 = .ok (.iload_n 2, 1) := by decide +kernel
theorem dX4_coming_62 : decode cX4_coming 62 = .ok (.ifCond .ne 7, 3) := by decide +kernel
theorem dX4_coming_65 : decode cX4_coming 65 = .ok (.iload_n 3, 1) := by decide +kernel
theorem dX4_coming_66 : decode cX4_coming 66 = .ok (.goto 50, 3) := by decide +kernel
theorem dX4_coming_69 : decode cX4_coming 69 = .ok (.iload_n 2, 1) := by decide +kernel
theorem dX4_coming_70 : decode cX4_coming 70 = .ok (.iconst 1, 1) := by decide +kernel
theorem dX4_coming_71 : decode cX4_coming 71 = .ok (.if_icmp .ne 23, 3) := by decide +kernel
theorem dX4_coming_74 : decode cX4_coming 74 = .ok (.aload_n 0, 1) := by decide +kernel
theorem dX4_coming_75 : decode cX4_coming 75 = .ok (.getfield 16, 3) := by decide +kernel
theorem dX4_coming_78 : decode cX4_coming 78 = .ok (.sipush 770, 3) := by decide +kernel
theorem dX4_coming_81 : decode cX4_coming 81 = .ok (.iaload, 1) := by decide +kernel
theorem dX4_coming_82 : decode cX4_coming 82 = .ok (.aload_n 0, 1) := by decide +kernel
theorem dX4_coming_83 : decode cX4_coming 83 = .ok (.getfield 13, 3) := by decide +kernel
theorem dX4_coming_86 : decode cX4_coming 86 = .ok (.sipush 770, 3) := by decide +kernel
theorem dX4_coming_89 : decode cX4_coming 89 = .ok (.iaload, 1) := by decide +kernel
theorem dX4_coming_90 : decode cX4_coming 90 = .ok (.isub, 1) := by decide +kernel
theorem dX4_coming_91 : decode cX4_coming 91 = .ok (.goto 25, 3) := by decide +kernel
theorem dX4_coming_94 : decode cX4_coming 94 = .ok (.iload_n 2, 1) := by decide +kernel
theorem dX4_coming_95 : decode cX4_coming 95 = .ok (.iconst 2, 1) := by decide +kernel
theorem dX4_coming_96 : decode cX4_coming 96 = .ok (.if_icmp .ne 13, 3) := by decide +kernel
theorem dX4_coming_99 : decode cX4_coming 99 = .ok (.aload_n 0, 1) := by decide +kernel
theorem dX4_coming_100 : decode cX4_coming 100 = .ok (.getfield 16, 3) := by decide +kernel
theorem dX4_coming_103 : decode cX4_coming 103 = .ok (.invokestatic 59, 3) := by decide +kernel
theorem dX4_coming_106 : decode cX4_coming 106 = .ok (.goto 10, 3) := by decide +kernel
theorem dX4_coming_109 : decode cX4_coming 109 = .ok (.aload_n 0, 1) := by decide +kernel
theorem dX4_coming_110 : decode cX4_coming 110 = .ok (.getfield 16, 3) := by decide +kernel
theorem dX4_coming_113 : decode cX4_coming 113 = .ok (.invokestatic 180, 3) := by decide +kernel
theorem dX4_coming_116 : decode cX4_coming 116 = .ok (.ireturn, 1) := by decide +kernel
set_option maxRecDepth 20000 in
theorem ggX4_bestGranule_X4_in : GoodIn wsX4_bestGranule wsX4_in := goodIn_r _ [7] (by decide +kernel) (by decide +kernel)
set_option maxRecDepth 20000 in
theorem gX4_bestGranule_X4_in : GoodIn wsX4_bestGranule (va_wsS RX4 39 yX4_in wsX4_in) := goodIn_app (goodIn_of _ (by decide +kernel)) ggX4_bestGranule_X4_in
set_option maxRecDepth 20000 in
theorem ggX4_bestGranule_X4_refused : GoodIn wsX4_bestGranule wsX4_refused := goodIn_r _ [11, 12, 73, 74, 75, 76, 77, 78, 79, 80, 81, 82, 83, 84, 85] (by decide +kernel) (by decide +kernel)
set_option maxRecDepth 20000 in
theorem gX4_bestGranule_X4_refused : GoodIn wsX4_bestGranule (wsV RX4 118 RX4 yX4_refused wsX4_refused) := goodIn_app (goodIn_of _ (by decide +kernel)) ggX4_bestGranule_X4_refused
set_option maxRecDepth 20000 in
theorem ggX4_bestGranule_X4_greatest : GoodIn wsX4_bestGranule wsX4_greatest := goodIn_r _ [15] (by decide +kernel) (by decide +kernel)
set_option maxRecDepth 20000 in
theorem gX4_bestGranule_X4_greatest : GoodIn wsX4_bestGranule (va_wsS RX4 111 yX4_greatest wsX4_greatest) := goodIn_app (goodIn_of _ (by decide +kernel)) ggX4_bestGranule_X4_greatest
set_option maxRecDepth 20000 in
theorem ggX4_bestGranule_X4_copyState : GoodIn wsX4_bestGranule wsX4_copyState := goodIn_r _ [18] (by decide +kernel) (by decide +kernel)
set_option maxRecDepth 20000 in
theorem gX4_bestGranule_X4_copyState : GoodIn wsX4_bestGranule (va_wsS RX4 168 yX4_copyState wsX4_copyState) := goodIn_app (goodIn_of _ (by decide +kernel)) ggX4_bestGranule_X4_copyState
set_option maxRecDepth 20000 in
theorem ggX4_bestGranule_X4_runOn : GoodIn wsX4_bestGranule wsX4_runOn := goodIn_r _ [22, 23, 24, 25, 6, 26, 27, 28, 29, 30, 31, 32, 33, 34, 35, 36, 37, 38, 4, 5, 7, 39, 40, 41, 42, 43, 44, 45, 46, 47, 48, 49, 50, 51, 52, 53, 54, 55, 56, 57, 58, 59, 60, 61, 62, 63, 64, 65, 66, 67, 68, 69, 70, 71, 72, 73, 74, 75, 76, 77, 78, 79, 80, 81, 82, 83, 84, 85] (by decide +kernel) (by decide +kernel)
set_option maxRecDepth 20000 in
theorem gX4_bestGranule_X4_runOn : GoodIn wsX4_bestGranule (wsV RX4 147 RX4 yX4_runOn wsX4_runOn) := goodIn_app (goodIn_of _ (by decide +kernel)) ggX4_bestGranule_X4_runOn
theorem dX4_bestGranule_0 : decode cX4_bestGranule 0 = .ok (.aload_n 0, 1) := by decide +kernel
theorem dX4_bestGranule_1 : decode cX4_bestGranule 1 = .ok (.iload_n 1, 1) := by decide +kernel
theorem dX4_bestGranule_2 : decode cX4_bestGranule 2 = .ok (.i2l, 1) := by decide +kernel
theorem dX4_bestGranule_3 : decode cX4_bestGranule 3 = .ok (.lconst 1, 1) := by decide +kernel
theorem dX4_bestGranule_4 : decode cX4_bestGranule 4 = .ok (.ldc2_w 196, 3) := by decide +kernel
theorem dX4_bestGranule_7 : decode cX4_bestGranule 7 = .ok (.invokestatic 39, 3) := by decide +kernel
theorem dX4_bestGranule_10 : decode cX4_bestGranule 10 = .ok (.ifCond .eq 7, 3) := by decide +kernel
theorem dX4_bestGranule_13 : decode cX4_bestGranule 13 = .ok (.iconst 0, 1) := by decide +kernel
theorem dX4_bestGranule_14 : decode cX4_bestGranule 14 = .ok (.goto 4, 3) := by decide +kernel
theorem dX4_bestGranule_17 : decode cX4_bestGranule 17 = .ok (.iconst 1, 1) := by decide +kernel
theorem dX4_bestGranule_18 : decode cX4_bestGranule 18 = .ok (.invokevirtual 118, 3) := by decide +kernel
theorem dX4_bestGranule_21 : decode cX4_bestGranule 21 = .ok (.ifCond .eq 5, 3) := by decide +kernel
theorem dX4_bestGranule_24 : decode cX4_bestGranule 24 = .ok (.iconst 0, 1) := by decide +kernel
theorem dX4_bestGranule_25 : decode cX4_bestGranule 25 = .ok (.ireturn, 1) := by decide +kernel
theorem dX4_bestGranule_26 : decode cX4_bestGranule 26 = .ok (.iconst (-1), 1) := by decide +kernel
theorem dX4_bestGranule_27 : decode cX4_bestGranule 27 = .ok (.istore_n 2, 1) := by decide +kernel
theorem dX4_bestGranule_28 : decode cX4_bestGranule 28 = .ok (.iconst (-1), 1) := by decide +kernel
theorem dX4_bestGranule_29 : decode cX4_bestGranule 29 = .ok (.istore_n 3, 1) := by decide +kernel
theorem dX4_bestGranule_30 : decode cX4_bestGranule 30 = .ok (.iconst 0, 1) := by decide +kernel
theorem dX4_bestGranule_31 : decode cX4_bestGranule 31 = .ok (.istore 4, 2) := by decide +kernel
theorem dX4_bestGranule_33 : decode cX4_bestGranule 33 = .ok (.iload 4, 2) := by decide +kernel
theorem dX4_bestGranule_35 : decode cX4_bestGranule 35 = .ok (.iconst 0, 1) := by decide +kernel
theorem dX4_bestGranule_36 : decode cX4_bestGranule 36 = .ok (.invokestatic 111, 3) := by decide +kernel
theorem dX4_bestGranule_39 : decode cX4_bestGranule 39 = .ok (.if_icmp .gt 55, 3) := by decide +kernel
theorem dX4_bestGranule_42 : decode cX4_bestGranule 42 = .ok (.aload_n 0, 1) := by decide +kernel
theorem dX4_bestGranule_43 : decode cX4_bestGranule 43 = .ok (.getfield 13, 3) := by decide +kernel
theorem dX4_bestGranule_46 : decode cX4_bestGranule 46 = .ok (.iconst 0, 1) := by decide +kernel
theorem dX4_bestGranule_47 : decode cX4_bestGranule 47 = .ok (.aload_n 0, 1) := by decide +kernel
theorem dX4_bestGranule_48 : decode cX4_bestGranule 48 = .ok (.getfield 16, 3) := by decide +kernel
theorem dX4_bestGranule_51 : decode cX4_bestGranule 51 = .ok (.iconst 0, 1) := by decide +kernel
theorem dX4_bestGranule_52 : decode cX4_bestGranule 52 = .ok (.invokestatic 168, 3) := by decide +kernel
theorem dX4_bestGranule_55 : decode cX4_bestGranule 55 = .ok (.aload_n 0, 1) := by decide +kernel
theorem dX4_bestGranule_56 : decode cX4_bestGranule 56 = .ok (.getfield 16, 3) := by decide +kernel
theorem dX4_bestGranule_59 : decode cX4_bestGranule 59 = .ok (.sipush 773, 3) := by decide +kernel
theorem dX4_bestGranule_62 : decode cX4_bestGranule 62 = .ok (.iload 4, 2) := by decide +kernel
theorem dX4_bestGranule_64 : decode cX4_bestGranule 64 = .ok (.iastore, 1) := by decide +kernel
theorem dX4_bestGranule_65 : decode cX4_bestGranule 65 = .ok (.aload_n 0, 1) := by decide +kernel
theorem dX4_bestGranule_66 : decode cX4_bestGranule 66 = .ok (.aload_n 0, 1) := by decide +kernel
theorem dX4_bestGranule_67 : decode cX4_bestGranule 67 = .ok (.getfield 16, 3) := by decide +kernel
theorem dX4_bestGranule_70 : decode cX4_bestGranule 70 = .ok (.iload_n 1, 1) := by decide +kernel
theorem dX4_bestGranule_71 : decode cX4_bestGranule 71 = .ok (.invokevirtual 147, 3) := by decide +kernel
theorem dX4_bestGranule_74 : decode cX4_bestGranule 74 = .ok (.istore 5, 2) := by decide +kernel
theorem dX4_bestGranule_76 : decode cX4_bestGranule 76 = .ok (.iload 5, 2) := by decide +kernel
theorem dX4_bestGranule_78 : decode cX4_bestGranule 78 = .ok (.iload_n 3, 1) := by decide +kernel
theorem dX4_bestGranule_79 : decode cX4_bestGranule 79 = .ok (.if_icmp .lt 9, 3) := by decide +kernel
theorem dX4_bestGranule_82 : decode cX4_bestGranule 82 = .ok (.iload 4, 2) := by decide +kernel
theorem dX4_bestGranule_84 : decode cX4_bestGranule 84 = .ok (.istore_n 2, 1) := by decide +kernel
theorem dX4_bestGranule_85 : decode cX4_bestGranule 85 = .ok (.iload 5, 2) := by decide +kernel
theorem dX4_bestGranule_87 : decode cX4_bestGranule 87 = .ok (.istore_n 3, 1) := by decide +kernel
theorem dX4_bestGranule_88 : decode cX4_bestGranule 88 = .ok (.iinc 4 1, 3) := by decide +kernel
theorem dX4_bestGranule_91 : decode cX4_bestGranule 91 = .ok (.goto (-58), 3) := by decide +kernel
theorem dX4_bestGranule_94 : decode cX4_bestGranule 94 = .ok (.iload_n 2, 1) := by decide +kernel
theorem dX4_bestGranule_95 : decode cX4_bestGranule 95 = .ok (.ireturn, 1) := by decide +kernel
set_option maxRecDepth 20000 in
theorem ggX4_ifWritten_X4_whyNotSpan : GoodIn wsX4_ifWritten wsX4_whyNotSpan := goodIn_r _ [6, 7, 8, 9, 5, 10, 11, 12, 13, 14] (by decide +kernel) (by decide +kernel)
set_option maxRecDepth 20000 in
theorem gX4_ifWritten_X4_whyNotSpan : GoodIn wsX4_ifWritten (va_wsS RX4 133 yX4_whyNotSpan wsX4_whyNotSpan) := goodIn_app (goodIn_of _ (by decide +kernel)) ggX4_ifWritten_X4_whyNotSpan
set_option maxRecDepth 20000 in
theorem ggX4_ifWritten_X4_refused : GoodIn wsX4_ifWritten wsX4_refused := goodIn_r _ [18, 19, 41, 42, 43, 44, 45, 46, 47, 48, 49, 50, 51, 52, 53] (by decide +kernel) (by decide +kernel)
set_option maxRecDepth 20000 in
theorem gX4_ifWritten_X4_refused : GoodIn wsX4_ifWritten (wsV RX4 118 RX4 yX4_refused wsX4_refused) := goodIn_app (goodIn_of _ (by decide +kernel)) ggX4_ifWritten_X4_refused
set_option maxRecDepth 20000 in
theorem ggX4_ifWritten_X4_copyState : GoodIn wsX4_ifWritten wsX4_copyState := goodIn_r _ [22] (by decide +kernel) (by decide +kernel)
set_option maxRecDepth 20000 in
theorem gX4_ifWritten_X4_copyState : GoodIn wsX4_ifWritten (va_wsS RX4 168 yX4_copyState wsX4_copyState) := goodIn_app (goodIn_of _ (by decide +kernel)) ggX4_ifWritten_X4_copyState
set_option maxRecDepth 20000 in
theorem ggX4_ifWritten_X4_writeOn : GoodIn wsX4_ifWritten wsX4_writeOn := goodIn_r _ [25, 26, 27, 5, 28, 8, 9, 10, 11, 12, 13, 14, 29, 30, 31, 32, 33, 34, 35, 36, 37, 38, 39, 40] (by decide +kernel) (by decide +kernel)
set_option maxRecDepth 20000 in
theorem gX4_ifWritten_X4_writeOn : GoodIn wsX4_ifWritten (va_wsS RX4 136 yX4_writeOn wsX4_writeOn) := goodIn_app (goodIn_of _ (by decide +kernel)) ggX4_ifWritten_X4_writeOn
set_option maxRecDepth 20000 in
theorem ggX4_ifWritten_X4_ranges : GoodIn wsX4_ifWritten wsX4_ranges := goodIn_r _ [34, 35, 36, 5, 37, 26, 27, 28, 8, 9, 10, 11, 12, 13, 14] (by decide +kernel) (by decide +kernel)
set_option maxRecDepth 20000 in
theorem gX4_ifWritten_X4_ranges : GoodIn wsX4_ifWritten (va_wsS RX4 59 yX4_ranges wsX4_ranges) := goodIn_app (goodIn_of _ (by decide +kernel)) ggX4_ifWritten_X4_ranges
theorem dX4_ifWritten_0 : decode cX4_ifWritten 0 = .ok (.aload_n 0, 1) := by decide +kernel
theorem dX4_ifWritten_1 : decode cX4_ifWritten 1 = .ok (.iload_n 1, 1) := by decide +kernel
theorem dX4_ifWritten_2 : decode cX4_ifWritten 2 = .ok (.iload_n 2, 1) := by decide +kernel
theorem dX4_ifWritten_3 : decode cX4_ifWritten 3 = .ok (.invokestatic 133, 3) := by decide +kernel
theorem dX4_ifWritten_6 : decode cX4_ifWritten 6 = .ok (.invokevirtual 118, 3) := by decide +kernel
theorem dX4_ifWritten_9 : decode cX4_ifWritten 9 = .ok (.ifCond .eq 5, 3) := by decide +kernel
theorem dX4_ifWritten_12 : decode cX4_ifWritten 12 = .ok (.iconst 0, 1) := by decide +kernel
theorem dX4_ifWritten_13 : decode cX4_ifWritten 13 = .ok (.ireturn, 1) := by decide +kernel
theorem dX4_ifWritten_14 : decode cX4_ifWritten 14 = .ok (.aload_n 0, 1) := by decide +kernel
theorem dX4_ifWritten_15 : decode cX4_ifWritten 15 = .ok (.getfield 13, 3) := by decide +kernel
theorem dX4_ifWritten_18 : decode cX4_ifWritten 18 = .ok (.iconst 0, 1) := by decide +kernel
theorem dX4_ifWritten_19 : decode cX4_ifWritten 19 = .ok (.aload_n 0, 1) := by decide +kernel
theorem dX4_ifWritten_20 : decode cX4_ifWritten 20 = .ok (.getfield 16, 3) := by decide +kernel
theorem dX4_ifWritten_23 : decode cX4_ifWritten 23 = .ok (.iconst 0, 1) := by decide +kernel
theorem dX4_ifWritten_24 : decode cX4_ifWritten 24 = .ok (.invokestatic 168, 3) := by decide +kernel
theorem dX4_ifWritten_27 : decode cX4_ifWritten 27 = .ok (.aload_n 0, 1) := by decide +kernel
theorem dX4_ifWritten_28 : decode cX4_ifWritten 28 = .ok (.getfield 16, 3) := by decide +kernel
theorem dX4_ifWritten_31 : decode cX4_ifWritten 31 = .ok (.iload_n 1, 1) := by decide +kernel
theorem dX4_ifWritten_32 : decode cX4_ifWritten 32 = .ok (.iload_n 2, 1) := by decide +kernel
theorem dX4_ifWritten_33 : decode cX4_ifWritten 33 = .ok (.invokestatic 136, 3) := by decide +kernel
theorem dX4_ifWritten_36 : decode cX4_ifWritten 36 = .ok (.pop, 1) := by decide +kernel
theorem dX4_ifWritten_37 : decode cX4_ifWritten 37 = .ok (.aload_n 0, 1) := by decide +kernel
theorem dX4_ifWritten_38 : decode cX4_ifWritten 38 = .ok (.getfield 16, 3) := by decide +kernel
theorem dX4_ifWritten_41 : decode cX4_ifWritten 41 = .ok (.invokestatic 59, 3) := by decide +kernel
theorem dX4_ifWritten_44 : decode cX4_ifWritten 44 = .ok (.ireturn, 1) := by decide +kernel
set_option maxRecDepth 20000 in
theorem ggX4_stuck_X4_queuedBlocks : GoodIn wsX4_stuck wsX4_queuedBlocks := goodIn_r _ [6, 7, 8, 5, 9, 10, 11, 12, 13, 14, 15, 16] (by decide +kernel) (by decide +kernel)
set_option maxRecDepth 20000 in
theorem gX4_stuck_X4_queuedBlocks : GoodIn wsX4_stuck (va_wsS RX4 180 yX4_queuedBlocks wsX4_queuedBlocks) := goodIn_app (goodIn_of _ (by decide +kernel)) ggX4_stuck_X4_queuedBlocks
set_option maxRecDepth 20000 in
theorem ggX4_stuck_X4_isGood : GoodIn wsX4_stuck wsX4_isGood := goodIn_r _ [19, 20, 21, 5, 22, 14, 15, 16, 7, 8, 9, 10, 11, 12, 13, 23, 24, 25] (by decide +kernel) (by decide +kernel)
set_option maxRecDepth 20000 in
theorem gX4_stuck_X4_isGood : GoodIn wsX4_stuck (va_wsS RX4 79 yX4_isGood wsX4_isGood) := goodIn_app (goodIn_of _ (by decide +kernel)) ggX4_stuck_X4_isGood
set_option maxRecDepth 20000 in
theorem ggX4_stuck_X4_granule : GoodIn wsX4_stuck wsX4_granule := goodIn_r _ [22] (by decide +kernel) (by decide +kernel)
set_option maxRecDepth 20000 in
theorem gX4_stuck_X4_granule : GoodIn wsX4_stuck (va_wsS RX4 76 yX4_granule wsX4_granule) := goodIn_app (goodIn_of _ (by decide +kernel)) ggX4_stuck_X4_granule
theorem dX4_stuck_0 : decode cX4_stuck 0 = .ok (.aload_n 0, 1) := by decide +kernel
theorem dX4_stuck_1 : decode cX4_stuck 1 = .ok (.iconst 0, 1) := by decide +kernel
theorem dX4_stuck_2 : decode cX4_stuck 2 = .ok (.putfield 33, 3) := by decide +kernel
theorem dX4_stuck_5 : decode cX4_stuck 5 = .ok (.aload_n 0, 1) := by decide +kernel
theorem dX4_stuck_6 : decode cX4_stuck 6 = .ok (.getfield 13, 3) := by decide +kernel
theorem dX4_stuck_9 : decode cX4_stuck 9 = .ok (.invokestatic 180, 3) := by decide +kernel
theorem dX4_stuck_12 : decode cX4_stuck 12 = .ok (.istore_n 1, 1) := by decide +kernel
theorem dX4_stuck_13 : decode cX4_stuck 13 = .ok (.iconst 0, 1) := by decide +kernel
theorem dX4_stuck_14 : decode cX4_stuck 14 = .ok (.istore_n 2, 1) := by decide +kernel
theorem dX4_stuck_15 : decode cX4_stuck 15 = .ok (.iload_n 2, 1) := by decide +kernel
theorem dX4_stuck_16 : decode cX4_stuck 16 = .ok (.sipush 256, 3) := by decide +kernel
theorem dX4_stuck_19 : decode cX4_stuck 19 = .ok (.if_icmp .ge 34, 3) := by decide +kernel
theorem dX4_stuck_22 : decode cX4_stuck 22 = .ok (.iload_n 1, 1) := by decide +kernel
theorem dX4_stuck_23 : decode cX4_stuck 23 = .ok (.aload_n 0, 1) := by decide +kernel
theorem dX4_stuck_24 : decode cX4_stuck 24 = .ok (.getfield 13, 3) := by decide +kernel
theorem dX4_stuck_27 : decode cX4_stuck 27 = .ok (.iload_n 2, 1) := by decide +kernel
theorem dX4_stuck_28 : decode cX4_stuck 28 = .ok (.invokestatic 79, 3) := by decide +kernel
theorem dX4_stuck_31 : decode cX4_stuck 31 = .ok (.ifCond .eq 13, 3) := by decide +kernel
theorem dX4_stuck_34 : decode cX4_stuck 34 = .ok (.aload_n 0, 1) := by decide +kernel
theorem dX4_stuck_35 : decode cX4_stuck 35 = .ok (.getfield 13, 3) := by decide +kernel
theorem dX4_stuck_38 : decode cX4_stuck 38 = .ok (.invokestatic 76, 3) := by decide +kernel
theorem dX4_stuck_41 : decode cX4_stuck 41 = .ok (.goto 4, 3) := by decide +kernel
theorem dX4_stuck_44 : decode cX4_stuck 44 = .ok (.iconst 0, 1) := by decide +kernel
theorem dX4_stuck_45 : decode cX4_stuck 45 = .ok (.isub, 1) := by decide +kernel
theorem dX4_stuck_46 : decode cX4_stuck 46 = .ok (.istore_n 1, 1) := by decide +kernel
theorem dX4_stuck_47 : decode cX4_stuck 47 = .ok (.iinc 2 1, 3) := by decide +kernel
theorem dX4_stuck_50 : decode cX4_stuck 50 = .ok (.goto (-35), 3) := by decide +kernel
theorem dX4_stuck_53 : decode cX4_stuck 53 = .ok (.iload_n 1, 1) := by decide +kernel
theorem dX4_stuck_54 : decode cX4_stuck 54 = .ok (.ireturn, 1) := by decide +kernel
set_option maxRecDepth 20000 in
theorem ggX4_command_X4_whyNotSpan : GoodIn wsX4_command wsX4_whyNotSpan := goodIn_r _ [6, 7, 8, 9, 5, 10, 11, 12, 13, 14] (by decide +kernel) (by decide +kernel)
set_option maxRecDepth 20000 in
theorem gX4_command_X4_whyNotSpan : GoodIn wsX4_command (va_wsS RX4 133 yX4_whyNotSpan wsX4_whyNotSpan) := goodIn_app (goodIn_of _ (by decide +kernel)) ggX4_command_X4_whyNotSpan
set_option maxRecDepth 20000 in
theorem ggX4_command_X4_writeOn : GoodIn wsX4_command wsX4_writeOn := goodIn_r _ [17, 18, 19, 5, 20, 8, 9, 10, 11, 12, 13, 14, 21, 22, 23, 24, 25, 26, 27, 28, 29, 30, 31, 32] (by decide +kernel) (by decide +kernel)
set_option maxRecDepth 20000 in
theorem gX4_command_X4_writeOn : GoodIn wsX4_command (va_wsS RX4 136 yX4_writeOn wsX4_writeOn) := goodIn_app (goodIn_of _ (by decide +kernel)) ggX4_command_X4_writeOn
set_option maxRecDepth 20000 in
theorem ggX4_command_X4_freeOn : GoodIn wsX4_command wsX4_freeOn := goodIn_r _ [35, 36, 37, 5, 38, 18, 19, 20, 8, 9, 10, 11, 12, 13, 14, 30, 31, 32, 21, 22, 23, 24, 25, 26, 27, 28, 29] (by decide +kernel) (by decide +kernel)
set_option maxRecDepth 20000 in
theorem gX4_command_X4_freeOn : GoodIn wsX4_command (va_wsS RX4 140 yX4_freeOn wsX4_freeOn) := goodIn_app (goodIn_of _ (by decide +kernel)) ggX4_command_X4_freeOn
set_option maxRecDepth 20000 in
theorem ggX4_command_X4_in : GoodIn wsX4_command wsX4_in := goodIn_r _ [14] (by decide +kernel) (by decide +kernel)
set_option maxRecDepth 20000 in
theorem gX4_command_X4_in : GoodIn wsX4_command (va_wsS RX4 39 yX4_in wsX4_in) := goodIn_app (goodIn_of _ (by decide +kernel)) ggX4_command_X4_in
set_option maxRecDepth 20000 in
theorem ggX4_command_X4_runOn : GoodIn wsX4_command wsX4_runOn := goodIn_r _ [42, 43, 44, 45, 5, 46, 47, 48, 49, 50, 51, 52, 53, 54, 55, 56, 57, 58, 12, 13, 14, 18, 19, 20, 8, 9, 10, 11, 59, 60, 61, 62, 63, 64, 65, 66, 67, 68, 69, 70, 71, 72, 73, 21, 22, 23, 24, 25, 26, 27, 28, 29, 30, 31, 32, 91, 92, 93, 94, 95, 96, 97, 98, 99, 100, 101, 102, 103] (by decide +kernel) (by decide +kernel)
set_option maxRecDepth 20000 in
theorem gX4_command_X4_runOn : GoodIn wsX4_command (wsV RX4 147 RX4 yX4_runOn wsX4_runOn) := goodIn_app (goodIn_of _ (by decide +kernel)) ggX4_command_X4_runOn
set_option maxRecDepth 20000 in
theorem ggX4_command_X4_isSetting : GoodIn wsX4_command wsX4_isSetting := goodIn_r _ [76, 77, 12, 13, 5, 14, 78, 79, 80] (by decide +kernel) (by decide +kernel)
set_option maxRecDepth 20000 in
theorem gX4_command_X4_isSetting : GoodIn wsX4_command (va_wsS RX4 154 yX4_isSetting wsX4_isSetting) := goodIn_app (goodIn_of _ (by decide +kernel)) ggX4_command_X4_isSetting
set_option maxRecDepth 20000 in
theorem ggX4_command_X4_lay : GoodIn wsX4_command wsX4_lay := goodIn_r _ [83] (by decide +kernel) (by decide +kernel)
set_option maxRecDepth 20000 in
theorem gX4_command_X4_lay : GoodIn wsX4_command (va_wsS RX4 158 yX4_lay wsX4_lay) := goodIn_app (goodIn_of _ (by decide +kernel)) ggX4_command_X4_lay
set_option maxRecDepth 20000 in
theorem ggX4_command_X4_flushOn : GoodIn wsX4_command wsX4_flushOn := goodIn_r _ [87, 47, 48, 5, 49, 50, 51, 52, 53, 54, 55, 56, 57, 58, 12, 13, 14, 18, 19, 20, 8, 9, 10, 11, 59, 60, 61, 62, 63, 64, 65, 66, 67, 68, 69, 70, 71, 72, 73, 21, 22, 23, 24, 25, 26, 27, 28, 29, 30, 31, 32, 91, 92, 93, 94, 95, 96, 97, 98, 99, 100, 101, 102, 103] (by decide +kernel) (by decide +kernel)
set_option maxRecDepth 20000 in
theorem gX4_command_X4_flushOn : GoodIn wsX4_command (wsV RX4 198 RX4 yX4_flushOn wsX4_flushOn) := goodIn_app (goodIn_of _ (by decide +kernel)) ggX4_command_X4_flushOn
set_option maxRecDepth 20000 in
theorem ggX4_command_X4_isBlock : GoodIn wsX4_command wsX4_isBlock := goodIn_r _ [10, 11, 12, 13, 5, 14] (by decide +kernel) (by decide +kernel)
set_option maxRecDepth 20000 in
theorem gX4_command_X4_isBlock : GoodIn wsX4_command (va_wsS RX4 43 yX4_isBlock wsX4_isBlock) := goodIn_app (goodIn_of _ (by decide +kernel)) ggX4_command_X4_isBlock
set_option maxRecDepth 20000 in
theorem ggX4_command_X4_queuedBlocks : GoodIn wsX4_command wsX4_queuedBlocks := goodIn_r _ [90, 18, 19, 5, 20, 8, 9, 10, 11, 12, 13, 14] (by decide +kernel) (by decide +kernel)
set_option maxRecDepth 20000 in
theorem gX4_command_X4_queuedBlocks : GoodIn wsX4_command (va_wsS RX4 180 yX4_queuedBlocks wsX4_queuedBlocks) := goodIn_app (goodIn_of _ (by decide +kernel)) ggX4_command_X4_queuedBlocks
set_option maxRecDepth 20000 in
theorem ggX4_command_X4_ranges : GoodIn wsX4_command wsX4_ranges := goodIn_r _ [26, 27, 28, 5, 29, 18, 19, 20, 8, 9, 10, 11, 12, 13, 14] (by decide +kernel) (by decide +kernel)
set_option maxRecDepth 20000 in
theorem gX4_command_X4_ranges : GoodIn wsX4_command (va_wsS RX4 59 yX4_ranges wsX4_ranges) := goodIn_app (goodIn_of _ (by decide +kernel)) ggX4_command_X4_ranges
theorem dX4_command_0 : decode cX4_command 0 = .ok (.iload_n 2, 1) := by decide +kernel
theorem dX4_command_1 : decode cX4_command 1 = .ok (.bipush 100, 2) := by decide +kernel
theorem dX4_command_3 : decode cX4_command 3 = .ok (.idiv, 1) := by decide +kernel
theorem dX4_command_4 : decode cX4_command 4 = .ok (.istore_n 3, 1) := by decide +kernel
theorem dX4_command_5 : decode cX4_command 5 = .ok (.iload_n 2, 1) := by decide +kernel
theorem dX4_command_6 : decode cX4_command 6 = .ok (.bipush 100, 2) := by decide +kernel
theorem dX4_command_8 : decode cX4_command 8 = .ok (.irem, 1) := by decide +kernel
theorem dX4_command_9 : decode cX4_command 9 = .ok (.istore 4, 2) := by decide +kernel
theorem dX4_command_11 : decode cX4_command 11 = .ok (.iload_n 1, 1) := by decide +kernel
theorem dX4_command_12 : decode cX4_command 12 = .ok (.tableswitch 303 1 9 #[52, 80, 108, 138, 181, 202, 230, 254, 277], 52) := by decide +kernel
theorem dX4_command_64 : decode cX4_command 64 = .ok (.iload_n 3, 1) := by decide +kernel
theorem dX4_command_65 : decode cX4_command 65 = .ok (.iload 4, 2) := by decide +kernel
theorem dX4_command_67 : decode cX4_command 67 = .ok (.invokestatic 133, 3) := by decide +kernel
theorem dX4_command_70 : decode cX4_command 70 = .ok (.ifCond .ne 20, 3) := by decide +kernel
theorem dX4_command_73 : decode cX4_command 73 = .ok (.aload_n 0, 1) := by decide +kernel
theorem dX4_command_74 : decode cX4_command 74 = .ok (.getfield 16, 3) := by decide +kernel
theorem dX4_command_77 : decode cX4_command 77 = .ok (.iload_n 3, 1) := by decide +kernel
theorem dX4_command_78 : decode cX4_command 78 = .ok (.iload 4, 2) := by decide +kernel
theorem dX4_command_80 : decode cX4_command 80 = .ok (.invokestatic 136, 3) := by decide +kernel
theorem dX4_command_83 : decode cX4_command 83 = .ok (.ifCond .lt 7, 3) := by decide +kernel
theorem dX4_command_86 : decode cX4_command 86 = .ok (.iconst 1, 1) := by decide +kernel
theorem dX4_command_87 : decode cX4_command 87 = .ok (.goto 4, 3) := by decide +kernel
theorem dX4_command_90 : decode cX4_command 90 = .ok (.iconst 0, 1) := by decide +kernel
theorem dX4_command_91 : decode cX4_command 91 = .ok (.ireturn, 1) := by decide +kernel
theorem dX4_command_92 : decode cX4_command 92 = .ok (.iload_n 3, 1) := by decide +kernel
theorem dX4_command_93 : decode cX4_command 93 = .ok (.iload 4, 2) := by decide +kernel
theorem dX4_command_95 : decode cX4_command 95 = .ok (.invokestatic 133, 3) := by decide +kernel
theorem dX4_command_98 : decode cX4_command 98 = .ok (.ifCond .ne 20, 3) := by decide +kernel
theorem dX4_command_101 : decode cX4_command 101 = .ok (.aload_n 0, 1) := by decide +kernel
theorem dX4_command_102 : decode cX4_command 102 = .ok (.getfield 16, 3) := by decide +kernel
theorem dX4_command_105 : decode cX4_command 105 = .ok (.iload_n 3, 1) := by decide +kernel
theorem dX4_command_106 : decode cX4_command 106 = .ok (.iload 4, 2) := by decide +kernel
theorem dX4_command_108 : decode cX4_command 108 = .ok (.invokestatic 140, 3) := by decide +kernel
theorem dX4_command_111 : decode cX4_command 111 = .ok (.ifCond .lt 7, 3) := by decide +kernel
theorem dX4_command_114 : decode cX4_command 114 = .ok (.iconst 1, 1) := by decide +kernel
theorem dX4_command_115 : decode cX4_command 115 = .ok (.goto 4, 3) := by decide +kernel
theorem dX4_command_118 : decode cX4_command 118 = .ok (.iconst 0, 1) := by decide +kernel
theorem dX4_command_119 : decode cX4_command 119 = .ok (.ireturn, 1) := by decide +kernel
theorem dX4_command_120 : decode cX4_command 120 = .ok (.iload_n 2, 1) := by decide +kernel
theorem dX4_command_121 : decode cX4_command 121 = .ok (.i2l, 1) := by decide +kernel
theorem dX4_command_122 : decode cX4_command 122 = .ok (.lconst 1, 1) := by decide +kernel
theorem dX4_command_123 : decode cX4_command 123 = .ok (.ldc2_w 196, 3) := by decide +kernel
theorem dX4_command_126 : decode cX4_command 126 = .ok (.invokestatic 39, 3) := by decide +kernel
theorem dX4_command_129 : decode cX4_command 129 = .ok (.ifCond .eq 19, 3) := by decide +kernel
theorem dX4_command_132 : decode cX4_command 132 = .ok (.aload_n 0, 1) := by decide +kernel
theorem dX4_command_133 : decode cX4_command 133 = .ok (.aload_n 0, 1) := by decide +kernel
theorem dX4_command_134 : decode cX4_command 134 = .ok (.getfield 16, 3) := by decide +kernel
theorem dX4_command_137 : decode cX4_command 137 = .ok (.iload_n 2, 1) := by decide +kernel
theorem dX4_command_138 : decode cX4_command 138 = .ok (.invokevirtual 147, 3) := by decide +kernel
theorem dX4_command_141 : decode cX4_command 141 = .ok (.ifCond .lt 7, 3) := by decide +kernel
theorem dX4_command_144 : decode cX4_command 144 = .ok (.iconst 1, 1) := by decide +kernel
theorem dX4_command_145 : decode cX4_command 145 = .ok (.goto 4, 3) := by decide +kernel
theorem dX4_command_148 : decode cX4_command 148 = .ok (.iconst 0, 1) := by decide +kernel
theorem dX4_command_149 : decode cX4_command 149 = .ok (.ireturn, 1) := by decide +kernel
theorem dX4_command_150 : decode cX4_command 150 = .ok (.iload 4, 2) := by decide +kernel
theorem dX4_command_152 : decode cX4_command 152 = .ok (.ifCond .ne 39, 3) := by decide +kernel
theorem dX4_command_155 : decode cX4_command 155 = .ok (.iload_n 3, 1) := by decide +kernel
theorem dX4_command_156 : decode cX4_command 156 = .ok (.bipush 100, 2) := by decide +kernel
theorem dX4_command_158 : decode cX4_command 158 = .ok (.idiv, 1) := by decide +kernel
theorem dX4_command_159 : decode cX4_command 159 = .ok (.iload_n 3, 1) := by decide +kernel
theorem dX4_command_160 : decode cX4_command 160 = .ok (.bipush 100, 2) := by decide +kernel
theorem dX4_command_162 : decode cX4_command 162 = .ok (.irem, 1) := by decide +kernel
theorem dX4_command_163 : decode cX4_command 163 = .ok (.invokestatic 154, 3) := by decide +kernel
theorem dX4_command_166 : decode cX4_command 166 = .ok (.ifCond .eq 25, 3) := by decide +kernel
theorem dX4_command_169 : decode cX4_command 169 = .ok (.aload_n 0, 1) := by decide +kernel
theorem dX4_command_170 : decode cX4_command 170 = .ok (.getfield 16, 3) := by decide +kernel
theorem dX4_command_173 : decode cX4_command 173 = .ok (.iload_n 3, 1) := by decide +kernel
theorem dX4_command_174 : decode cX4_command 174 = .ok (.bipush 100, 2) := by decide +kernel
theorem dX4_command_176 : decode cX4_command 176 = .ok (.idiv, 1) := by decide +kernel
theorem dX4_command_177 : decode cX4_command 177 = .ok (.iload_n 3, 1) := by decide +kernel
theorem dX4_command_178 : decode cX4_command 178 = .ok (.bipush 100, 2) := by decide +kernel
theorem dX4_command_180 : decode cX4_command 180 = .ok (.irem, 1) := by decide +kernel
theorem dX4_command_181 : decode cX4_command 181 = .ok (.invokestatic 158, 3) := by decide +kernel
theorem dX4_command_184 : decode cX4_command 184 = .ok (.ifCond .lt 7, 3) := by decide +kernel
theorem dX4_command_187 : decode cX4_command 187 = .ok (.iconst 1, 1) := by decide +kernel
theorem dX4_command_188 : decode cX4_command 188 = .ok (.goto 4, 3) := by decide +kernel
theorem dX4_command_191 : decode cX4_command 191 = .ok (.iconst 0, 1) := by decide +kernel
theorem dX4_command_192 : decode cX4_command 192 = .ok (.ireturn, 1) := by decide +kernel
theorem dX4_command_193 : decode cX4_command 193 = .ok (.iload_n 2, 1) := by decide +kernel
theorem dX4_command_194 : decode cX4_command 194 = .ok (.ifCond .ne 18, 3) := by decide +kernel
theorem dX4_command_197 : decode cX4_command 197 = .ok (.aload_n 0, 1) := by decide +kernel
theorem dX4_command_198 : decode cX4_command 198 = .ok (.aload_n 0, 1) := by decide +kernel
theorem dX4_command_199 : decode cX4_command 199 = .ok (.getfield 16, 3) := by decide +kernel
theorem dX4_command_202 : decode cX4_command 202 = .ok (.invokevirtual 198, 3) := by decide +kernel
theorem dX4_command_205 : decode cX4_command 205 = .ok (.ifCond .lt 7, 3) := by decide +kernel
theorem dX4_command_208 : decode cX4_command 208 = .ok (.iconst 1, 1) := by decide +kernel
theorem dX4_command_209 : decode cX4_command 209 = .ok (.goto 4, 3) := by decide +kernel
theorem dX4_command_212 : decode cX4_command 212 = .ok (.iconst 0, 1) := by decide +kernel
theorem dX4_command_213 : decode cX4_command 213 = .ok (.ireturn, 1) := by decide +kernel
theorem dX4_command_214 : decode cX4_command 214 = .ok (.iload_n 3, 1) := by decide +kernel
theorem dX4_command_215 : decode cX4_command 215 = .ok (.invokestatic 43, 3) := by decide +kernel
theorem dX4_command_218 : decode cX4_command 218 = .ok (.ifCond .eq 22, 3) := by decide +kernel
theorem dX4_command_221 : decode cX4_command 221 = .ok (.aload_n 0, 1) := by decide +kernel
theorem dX4_command_222 : decode cX4_command 222 = .ok (.getfield 16, 3) := by decide +kernel
theorem dX4_command_225 : decode cX4_command 225 = .ok (.sipush 256, 3) := by decide +kernel
theorem dX4_command_228 : decode cX4_command 228 = .ok (.iload_n 3, 1) := by decide +kernel
theorem dX4_command_229 : decode cX4_command 229 = .ok (.iadd, 1) := by decide +kernel
theorem dX4_command_230 : decode cX4_command 230 = .ok (.iaload, 1) := by decide +kernel
theorem dX4_command_231 : decode cX4_command 231 = .ok (.iload 4, 2) := by decide +kernel
theorem dX4_command_233 : decode cX4_command 233 = .ok (.if_icmp .ne 7, 3) := by decide +kernel
theorem dX4_command_236 : decode cX4_command 236 = .ok (.iconst 1, 1) := by decide +kernel
theorem dX4_command_237 : decode cX4_command 237 = .ok (.goto 4, 3) := by decide +kernel
theorem dX4_command_240 : decode cX4_command 240 = .ok (.iconst 0, 1) := by decide +kernel
theorem dX4_command_241 : decode cX4_command 241 = .ok (.ireturn, 1) := by decide +kernel
theorem dX4_command_242 : decode cX4_command 242 = .ok (.iload_n 2, 1) := by decide +kernel
theorem dX4_command_243 : decode cX4_command 243 = .ok (.sipush 1000, 3) := by decide +kernel
theorem dX4_command_246 : decode cX4_command 246 = .ok (.if_icmp .ge 18, 3) := by decide +kernel
theorem dX4_command_249 : decode cX4_command 249 = .ok (.aload_n 0, 1) := by decide +kernel
theorem dX4_command_250 : decode cX4_command 250 = .ok (.getfield 16, 3) := by decide +kernel
theorem dX4_command_253 : decode cX4_command 253 = .ok (.invokestatic 180, 3) := by decide +kernel
theorem dX4_command_256 : decode cX4_command 256 = .ok (.iload_n 2, 1) := by decide +kernel
theorem dX4_command_257 : decode cX4_command 257 = .ok (.if_icmp .gt 7, 3) := by decide +kernel
theorem dX4_command_260 : decode cX4_command 260 = .ok (.iconst 1, 1) := by decide +kernel
theorem dX4_command_261 : decode cX4_command 261 = .ok (.goto 4, 3) := by decide +kernel
theorem dX4_command_264 : decode cX4_command 264 = .ok (.iconst 0, 1) := by decide +kernel
theorem dX4_command_265 : decode cX4_command 265 = .ok (.ireturn, 1) := by decide +kernel
theorem dX4_command_266 : decode cX4_command 266 = .ok (.iload_n 2, 1) := by decide +kernel
theorem dX4_command_267 : decode cX4_command 267 = .ok (.bipush 100, 2) := by decide +kernel
theorem dX4_command_269 : decode cX4_command 269 = .ok (.if_icmp .ge 18, 3) := by decide +kernel
theorem dX4_command_272 : decode cX4_command 272 = .ok (.aload_n 0, 1) := by decide +kernel
theorem dX4_command_273 : decode cX4_command 273 = .ok (.getfield 16, 3) := by decide +kernel
theorem dX4_command_276 : decode cX4_command 276 = .ok (.invokestatic 59, 3) := by decide +kernel
theorem dX4_command_279 : decode cX4_command 279 = .ok (.iload_n 2, 1) := by decide +kernel
theorem dX4_command_280 : decode cX4_command 280 = .ok (.if_icmp .lt 7, 3) := by decide +kernel
theorem dX4_command_283 : decode cX4_command 283 = .ok (.iconst 1, 1) := by decide +kernel
theorem dX4_command_284 : decode cX4_command 284 = .ok (.goto 4, 3) := by decide +kernel
theorem dX4_command_287 : decode cX4_command 287 = .ok (.iconst 0, 1) := by decide +kernel
theorem dX4_command_288 : decode cX4_command 288 = .ok (.ireturn, 1) := by decide +kernel
theorem dX4_command_289 : decode cX4_command 289 = .ok (.iload_n 3, 1) := by decide +kernel
theorem dX4_command_290 : decode cX4_command 290 = .ok (.invokestatic 43, 3) := by decide +kernel
theorem dX4_command_293 : decode cX4_command 293 = .ok (.ifCond .eq 20, 3) := by decide +kernel
theorem dX4_command_296 : decode cX4_command 296 = .ok (.aload_n 0, 1) := by decide +kernel
theorem dX4_command_297 : decode cX4_command 297 = .ok (.getfield 16, 3) := by decide +kernel
theorem dX4_command_300 : decode cX4_command 300 = .ok (.iconst 0, 1) := by decide +kernel
theorem dX4_command_301 : decode cX4_command 301 = .ok (.iload_n 3, 1) := by decide +kernel
theorem dX4_command_302 : decode cX4_command 302 = .ok (.iadd, 1) := by decide +kernel
theorem dX4_command_303 : decode cX4_command 303 = .ok (.iaload, 1) := by decide +kernel
theorem dX4_command_304 : decode cX4_command 304 = .ok (.iload 4, 2) := by decide +kernel
theorem dX4_command_306 : decode cX4_command 306 = .ok (.if_icmp .ne 7, 3) := by decide +kernel
theorem dX4_command_309 : decode cX4_command 309 = .ok (.iconst 1, 1) := by decide +kernel
theorem dX4_command_310 : decode cX4_command 310 = .ok (.goto 4, 3) := by decide +kernel
theorem dX4_command_313 : decode cX4_command 313 = .ok (.iconst 0, 1) := by decide +kernel
theorem dX4_command_314 : decode cX4_command 314 = .ok (.ireturn, 1) := by decide +kernel
theorem dX4_command_315 : decode cX4_command 315 = .ok (.iconst 0, 1) := by decide +kernel
theorem dX4_command_316 : decode cX4_command 316 = .ok (.ireturn, 1) := by decide +kernel
set_option maxRecDepth 20000 in
theorem ggX4_runScript_X4_in : GoodIn wsX4_runScript wsX4_in := goodIn_r _ [9] (by decide +kernel) (by decide +kernel)
set_option maxRecDepth 20000 in
theorem gX4_runScript_X4_in : GoodIn wsX4_runScript (va_wsS RX4 39 yX4_in wsX4_in) := goodIn_app (goodIn_of _ (by decide +kernel)) ggX4_runScript_X4_in
set_option maxRecDepth 20000 in
theorem ggX4_runScript_X4_refused : GoodIn wsX4_runScript wsX4_refused := goodIn_r _ [13, 14, 107, 108, 109, 110, 111, 112, 113, 114, 115, 116, 117, 118, 119] (by decide +kernel) (by decide +kernel)
set_option maxRecDepth 20000 in
theorem gX4_runScript_X4_refused : GoodIn wsX4_runScript (wsV RX4 118 RX4 yX4_refused wsX4_refused) := goodIn_app (goodIn_of _ (by decide +kernel)) ggX4_runScript_X4_refused
set_option maxRecDepth 20000 in
theorem ggX4_runScript_X4_copyState : GoodIn wsX4_runScript wsX4_copyState := goodIn_r _ [17] (by decide +kernel) (by decide +kernel)
set_option maxRecDepth 20000 in
theorem gX4_runScript_X4_copyState : GoodIn wsX4_runScript (va_wsS RX4 168 yX4_copyState wsX4_copyState) := goodIn_app (goodIn_of _ (by decide +kernel)) ggX4_runScript_X4_copyState
set_option maxRecDepth 20000 in
theorem ggX4_runScript_X4_command : GoodIn wsX4_runScript wsX4_command := goodIn_r _ [21, 4, 22, 23, 24, 8, 25, 26, 27, 28, 29, 30, 6, 7, 9, 31, 32, 33, 34, 35, 36, 37, 38, 39, 40, 41, 42, 43, 44, 45, 46, 47, 48, 49, 50, 51, 52, 53, 54, 55, 56, 57, 58, 59, 60, 61, 62, 63, 64, 65, 66, 67, 68, 69, 70, 71, 72, 73, 74, 75, 76, 77, 78, 79, 80, 81, 82, 83, 84, 85, 86, 87, 88, 89, 90, 91, 92, 93, 94, 95, 96, 97, 98, 99, 100, 101, 102, 103, 104, 105, 106, 107, 108, 109, 110, 111, 112, 113, 114, 115, 116, 117, 118, 119] (by decide +kernel) (by decide +kernel)
set_option maxRecDepth 20000 in
theorem gX4_runScript_X4_command : GoodIn wsX4_runScript (wsV RX4 206 RX4 yX4_command wsX4_command) := goodIn_app (goodIn_of _ (by decide +kernel)) ggX4_runScript_X4_command
theorem dX4_runScript_0 : decode cX4_runScript 0 = .ok (.lconst 1, 1) := by decide +kernel
theorem dX4_runScript_1 : decode cX4_runScript 1 = .ok (.lstore 4, 2) := by decide +kernel
theorem dX4_runScript_3 : decode cX4_runScript 3 = .ok (.iconst 0, 1) := by decide +kernel
theorem dX4_runScript_4 : decode cX4_runScript 4 = .ok (.istore 6, 2) := by decide +kernel
theorem dX4_runScript_6 : decode cX4_runScript 6 = .ok (.iload 6, 2) := by decide +kernel
theorem dX4_runScript_8 : decode cX4_runScript 8 = .ok (.iload_n 1, 1) := by decide +kernel
theorem dX4_runScript_9 : decode cX4_runScript 9 = .ok (.if_icmp .ge 23, 3) := by decide +kernel
theorem dX4_runScript_12 : decode cX4_runScript 12 = .ok (.iload 6, 2) := by decide +kernel
theorem dX4_runScript_14 : decode cX4_runScript 14 = .ok (.iconst 3, 1) := by decide +kernel
theorem dX4_runScript_15 : decode cX4_runScript 15 = .ok (.if_icmp .ge 17, 3) := by decide +kernel
theorem dX4_runScript_18 : decode cX4_runScript 18 = .ok (.lload 4, 2) := by decide +kernel
theorem dX4_runScript_20 : decode cX4_runScript 20 = .ok (.ldc2_w 203, 3) := by decide +kernel
theorem dX4_runScript_23 : decode cX4_runScript 23 = .ok (.lmul, 1) := by decide +kernel
theorem dX4_runScript_24 : decode cX4_runScript 24 = .ok (.lstore 4, 2) := by decide +kernel
theorem dX4_runScript_26 : decode cX4_runScript 26 = .ok (.iinc 6 1, 3) := by decide +kernel
theorem dX4_runScript_29 : decode cX4_runScript 29 = .ok (.goto (-23), 3) := by decide +kernel
theorem dX4_runScript_32 : decode cX4_runScript 32 = .ok (.aload_n 0, 1) := by decide +kernel
theorem dX4_runScript_33 : decode cX4_runScript 33 = .ok (.iload_n 1, 1) := by decide +kernel
theorem dX4_runScript_34 : decode cX4_runScript 34 = .ok (.i2l, 1) := by decide +kernel
theorem dX4_runScript_35 : decode cX4_runScript 35 = .ok (.lconst 1, 1) := by decide +kernel
theorem dX4_runScript_36 : decode cX4_runScript 36 = .ok (.ldc2_w 186, 3) := by decide +kernel
theorem dX4_runScript_39 : decode cX4_runScript 39 = .ok (.invokestatic 39, 3) := by decide +kernel
theorem dX4_runScript_42 : decode cX4_runScript 42 = .ok (.ifCond .eq 19, 3) := by decide +kernel
theorem dX4_runScript_45 : decode cX4_runScript 45 = .ok (.lload_n 2, 1) := by decide +kernel
theorem dX4_runScript_46 : decode cX4_runScript 46 = .ok (.lconst 0, 1) := by decide +kernel
theorem dX4_runScript_47 : decode cX4_runScript 47 = .ok (.lload 4, 2) := by decide +kernel
theorem dX4_runScript_49 : decode cX4_runScript 49 = .ok (.lconst 1, 1) := by decide +kernel
theorem dX4_runScript_50 : decode cX4_runScript 50 = .ok (.lsub, 1) := by decide +kernel
theorem dX4_runScript_51 : decode cX4_runScript 51 = .ok (.invokestatic 39, 3) := by decide +kernel
theorem dX4_runScript_54 : decode cX4_runScript 54 = .ok (.ifCond .eq 7, 3) := by decide +kernel
theorem dX4_runScript_57 : decode cX4_runScript 57 = .ok (.iconst 0, 1) := by decide +kernel
theorem dX4_runScript_58 : decode cX4_runScript 58 = .ok (.goto 4, 3) := by decide +kernel
theorem dX4_runScript_61 : decode cX4_runScript 61 = .ok (.iconst 1, 1) := by decide +kernel
theorem dX4_runScript_62 : decode cX4_runScript 62 = .ok (.invokevirtual 118, 3) := by decide +kernel
theorem dX4_runScript_65 : decode cX4_runScript 65 = .ok (.ifCond .eq 5, 3) := by decide +kernel
theorem dX4_runScript_68 : decode cX4_runScript 68 = .ok (.iconst 0, 1) := by decide +kernel
theorem dX4_runScript_69 : decode cX4_runScript 69 = .ok (.ireturn, 1) := by decide +kernel
theorem dX4_runScript_70 : decode cX4_runScript 70 = .ok (.aload_n 0, 1) := by decide +kernel
theorem dX4_runScript_71 : decode cX4_runScript 71 = .ok (.getfield 13, 3) := by decide +kernel
theorem dX4_runScript_74 : decode cX4_runScript 74 = .ok (.iconst 0, 1) := by decide +kernel
theorem dX4_runScript_75 : decode cX4_runScript 75 = .ok (.aload_n 0, 1) := by decide +kernel
theorem dX4_runScript_76 : decode cX4_runScript 76 = .ok (.getfield 16, 3) := by decide +kernel
theorem dX4_runScript_79 : decode cX4_runScript 79 = .ok (.iconst 0, 1) := by decide +kernel
theorem dX4_runScript_80 : decode cX4_runScript 80 = .ok (.invokestatic 168, 3) := by decide +kernel
theorem dX4_runScript_83 : decode cX4_runScript 83 = .ok (.iconst 0, 1) := by decide +kernel
theorem dX4_runScript_84 : decode cX4_runScript 84 = .ok (.istore 6, 2) := by decide +kernel
theorem dX4_runScript_86 : decode cX4_runScript 86 = .ok (.iload 6, 2) := by decide +kernel
theorem dX4_runScript_88 : decode cX4_runScript 88 = .ok (.iload_n 1, 1) := by decide +kernel
theorem dX4_runScript_89 : decode cX4_runScript 89 = .ok (.if_icmp .ge 48, 3) := by decide +kernel
theorem dX4_runScript_92 : decode cX4_runScript 92 = .ok (.lload 4, 2) := by decide +kernel
theorem dX4_runScript_94 : decode cX4_runScript 94 = .ok (.ldc2_w 203, 3) := by decide +kernel
theorem dX4_runScript_97 : decode cX4_runScript 97 = .ok (.ldiv, 1) := by decide +kernel
theorem dX4_runScript_98 : decode cX4_runScript 98 = .ok (.lstore 4, 2) := by decide +kernel
theorem dX4_runScript_100 : decode cX4_runScript 100 = .ok (.lload_n 2, 1) := by decide +kernel
theorem dX4_runScript_101 : decode cX4_runScript 101 = .ok (.lload 4, 2) := by decide +kernel
theorem dX4_runScript_103 : decode cX4_runScript 103 = .ok (.ldiv, 1) := by decide +kernel
theorem dX4_runScript_104 : decode cX4_runScript 104 = .ok (.ldc2_w 203, 3) := by decide +kernel
theorem dX4_runScript_107 : decode cX4_runScript 107 = .ok (.lrem, 1) := by decide +kernel
theorem dX4_runScript_108 : decode cX4_runScript 108 = .ok (.l2i, 1) := by decide +kernel
theorem dX4_runScript_109 : decode cX4_runScript 109 = .ok (.istore 7, 2) := by decide +kernel
theorem dX4_runScript_111 : decode cX4_runScript 111 = .ok (.aload_n 0, 1) := by decide +kernel
theorem dX4_runScript_112 : decode cX4_runScript 112 = .ok (.iload 7, 2) := by decide +kernel
theorem dX4_runScript_114 : decode cX4_runScript 114 = .ok (.ldc 205, 2) := by decide +kernel
theorem dX4_runScript_116 : decode cX4_runScript 116 = .ok (.idiv, 1) := by decide +kernel
theorem dX4_runScript_117 : decode cX4_runScript 117 = .ok (.iload 7, 2) := by decide +kernel
theorem dX4_runScript_119 : decode cX4_runScript 119 = .ok (.ldc 205, 2) := by decide +kernel
theorem dX4_runScript_121 : decode cX4_runScript 121 = .ok (.irem, 1) := by decide +kernel
theorem dX4_runScript_122 : decode cX4_runScript 122 = .ok (.invokevirtual 206, 3) := by decide +kernel
theorem dX4_runScript_125 : decode cX4_runScript 125 = .ok (.ifCond .ne 6, 3) := by decide +kernel
theorem dX4_runScript_128 : decode cX4_runScript 128 = .ok (.iload 6, 2) := by decide +kernel
theorem dX4_runScript_130 : decode cX4_runScript 130 = .ok (.ireturn, 1) := by decide +kernel
theorem dX4_runScript_131 : decode cX4_runScript 131 = .ok (.iinc 6 1, 3) := by decide +kernel
theorem dX4_runScript_134 : decode cX4_runScript 134 = .ok (.goto (-48), 3) := by decide +kernel
theorem dX4_runScript_137 : decode cX4_runScript 137 = .ok (.iconst (-1), 1) := by decide +kernel
theorem dX4_runScript_138 : decode cX4_runScript 138 = .ok (.ireturn, 1) := by decide +kernel
set_option maxRecDepth 20000 in
theorem ggX4_turn_X4_whyNotSpan : GoodIn wsX4_turn wsX4_whyNotSpan := goodIn_r _ [5, 6, 7, 8, 4, 9, 10, 11, 12, 13] (by decide +kernel) (by decide +kernel)
set_option maxRecDepth 20000 in
theorem gX4_turn_X4_whyNotSpan : GoodIn wsX4_turn (va_wsS RX4 133 yX4_whyNotSpan wsX4_whyNotSpan) := goodIn_app (goodIn_of _ (by decide +kernel)) ggX4_turn_X4_whyNotSpan
set_option maxRecDepth 20000 in
theorem ggX4_turn_X4_writeOn : GoodIn wsX4_turn wsX4_writeOn := goodIn_r _ [16, 17, 18, 4, 19, 7, 8, 9, 10, 11, 12, 13, 20, 21, 22, 23, 24, 25, 26, 27, 28, 29, 30, 31] (by decide +kernel) (by decide +kernel)
set_option maxRecDepth 20000 in
theorem gX4_turn_X4_writeOn : GoodIn wsX4_turn (va_wsS RX4 136 yX4_writeOn wsX4_writeOn) := goodIn_app (goodIn_of _ (by decide +kernel)) ggX4_turn_X4_writeOn
set_option maxRecDepth 20000 in
theorem ggX4_turn_X4_freeOn : GoodIn wsX4_turn wsX4_freeOn := goodIn_r _ [34, 35, 36, 4, 37, 17, 18, 19, 7, 8, 9, 10, 11, 12, 13, 29, 30, 31, 20, 21, 22, 23, 24, 25, 26, 27, 28] (by decide +kernel) (by decide +kernel)
set_option maxRecDepth 20000 in
theorem gX4_turn_X4_freeOn : GoodIn wsX4_turn (va_wsS RX4 140 yX4_freeOn wsX4_freeOn) := goodIn_app (goodIn_of _ (by decide +kernel)) ggX4_turn_X4_freeOn
set_option maxRecDepth 20000 in
theorem ggX4_turn_X4_pinOn : GoodIn wsX4_turn wsX4_pinOn := goodIn_r _ [40, 41, 42, 4, 43, 44, 45, 46] (by decide +kernel) (by decide +kernel)
set_option maxRecDepth 20000 in
theorem gX4_turn_X4_pinOn : GoodIn wsX4_turn (va_wsS RX4 150 yX4_pinOn wsX4_pinOn) := goodIn_app (goodIn_of _ (by decide +kernel)) ggX4_turn_X4_pinOn
set_option maxRecDepth 20000 in
theorem ggX4_turn_X4_runOn : GoodIn wsX4_turn wsX4_runOn := goodIn_r _ [50, 51, 52, 53, 4, 54, 55, 56, 57, 58, 59, 60, 61, 62, 63, 64, 65, 66, 11, 12, 13, 17, 18, 19, 7, 8, 9, 10, 44, 45, 46, 67, 68, 69, 70, 71, 72, 73, 74, 75, 76, 77, 78, 20, 21, 22, 23, 24, 25, 26, 27, 28, 29, 30, 31, 79, 80, 81, 82, 83, 84, 85, 86, 87, 88, 89, 90, 91] (by decide +kernel) (by decide +kernel)
set_option maxRecDepth 20000 in
theorem gX4_turn_X4_runOn : GoodIn wsX4_turn (wsV RX4 147 RX4 yX4_runOn wsX4_runOn) := goodIn_app (goodIn_of _ (by decide +kernel)) ggX4_turn_X4_runOn
theorem dX4_turn_0 : decode cX4_turn 0 = .ok (.iload_n 1, 1) := by decide +kernel
theorem dX4_turn_1 : decode cX4_turn 1 = .ok (.bipush 8, 2) := by decide +kernel
theorem dX4_turn_3 : decode cX4_turn 3 = .ok (.idiv, 1) := by decide +kernel
theorem dX4_turn_4 : decode cX4_turn 4 = .ok (.sipush 256, 3) := by decide +kernel
theorem dX4_turn_7 : decode cX4_turn 7 = .ok (.irem, 1) := by decide +kernel
theorem dX4_turn_8 : decode cX4_turn 8 = .ok (.istore_n 2, 1) := by decide +kernel
theorem dX4_turn_9 : decode cX4_turn 9 = .ok (.iconst 1, 1) := by decide +kernel
theorem dX4_turn_10 : decode cX4_turn 10 = .ok (.iload_n 1, 1) := by decide +kernel
theorem dX4_turn_11 : decode cX4_turn 11 = .ok (.sipush 2048, 3) := by decide +kernel
theorem dX4_turn_14 : decode cX4_turn 14 = .ok (.idiv, 1) := by decide +kernel
theorem dX4_turn_15 : decode cX4_turn 15 = .ok (.bipush 40, 2) := by decide +kernel
theorem dX4_turn_17 : decode cX4_turn 17 = .ok (.irem, 1) := by decide +kernel
theorem dX4_turn_18 : decode cX4_turn 18 = .ok (.iadd, 1) := by decide +kernel
theorem dX4_turn_19 : decode cX4_turn 19 = .ok (.istore_n 3, 1) := by decide +kernel
theorem dX4_turn_20 : decode cX4_turn 20 = .ok (.iload_n 1, 1) := by decide +kernel
theorem dX4_turn_21 : decode cX4_turn 21 = .ok (.bipush 8, 2) := by decide +kernel
theorem dX4_turn_23 : decode cX4_turn 23 = .ok (.irem, 1) := by decide +kernel
theorem dX4_turn_24 : decode cX4_turn 24 = .ok (.istore 4, 2) := by decide +kernel
theorem dX4_turn_26 : decode cX4_turn 26 = .ok (.iload 4, 2) := by decide +kernel
theorem dX4_turn_28 : decode cX4_turn 28 = .ok (.iconst 2, 1) := by decide +kernel
theorem dX4_turn_29 : decode cX4_turn 29 = .ok (.if_icmp .ge 24, 3) := by decide +kernel
theorem dX4_turn_32 : decode cX4_turn 32 = .ok (.iload_n 2, 1) := by decide +kernel
theorem dX4_turn_33 : decode cX4_turn 33 = .ok (.iload_n 3, 1) := by decide +kernel
theorem dX4_turn_34 : decode cX4_turn 34 = .ok (.invokestatic 133, 3) := by decide +kernel
theorem dX4_turn_37 : decode cX4_turn 37 = .ok (.ifCond .ne 126, 3) := by decide +kernel
theorem dX4_turn_40 : decode cX4_turn 40 = .ok (.aload_n 0, 1) := by decide +kernel
theorem dX4_turn_41 : decode cX4_turn 41 = .ok (.getfield 16, 3) := by decide +kernel
theorem dX4_turn_44 : decode cX4_turn 44 = .ok (.iload_n 2, 1) := by decide +kernel
theorem dX4_turn_45 : decode cX4_turn 45 = .ok (.iload_n 3, 1) := by decide +kernel
theorem dX4_turn_46 : decode cX4_turn 46 = .ok (.invokestatic 136, 3) := by decide +kernel
theorem dX4_turn_49 : decode cX4_turn 49 = .ok (.pop, 1) := by decide +kernel
theorem dX4_turn_50 : decode cX4_turn 50 = .ok (.goto 113, 3) := by decide +kernel
theorem dX4_turn_53 : decode cX4_turn 53 = .ok (.iload 4, 2) := by decide +kernel
theorem dX4_turn_55 : decode cX4_turn 55 = .ok (.iconst 5, 1) := by decide +kernel
theorem dX4_turn_56 : decode cX4_turn 56 = .ok (.if_icmp .ge 24, 3) := by decide +kernel
theorem dX4_turn_59 : decode cX4_turn 59 = .ok (.iload_n 2, 1) := by decide +kernel
theorem dX4_turn_60 : decode cX4_turn 60 = .ok (.iload_n 3, 1) := by decide +kernel
theorem dX4_turn_61 : decode cX4_turn 61 = .ok (.invokestatic 133, 3) := by decide +kernel
theorem dX4_turn_64 : decode cX4_turn 64 = .ok (.ifCond .ne 99, 3) := by decide +kernel
theorem dX4_turn_67 : decode cX4_turn 67 = .ok (.aload_n 0, 1) := by decide +kernel
theorem dX4_turn_68 : decode cX4_turn 68 = .ok (.getfield 16, 3) := by decide +kernel
theorem dX4_turn_71 : decode cX4_turn 71 = .ok (.iload_n 2, 1) := by decide +kernel
theorem dX4_turn_72 : decode cX4_turn 72 = .ok (.iload_n 3, 1) := by decide +kernel
theorem dX4_turn_73 : decode cX4_turn 73 = .ok (.invokestatic 140, 3) := by decide +kernel
theorem dX4_turn_76 : decode cX4_turn 76 = .ok (.pop, 1) := by decide +kernel
theorem dX4_turn_77 : decode cX4_turn 77 = .ok (.goto 86, 3) := by decide +kernel
theorem dX4_turn_80 : decode cX4_turn 80 = .ok (.iload 4, 2) := by decide +kernel
theorem dX4_turn_82 : decode cX4_turn 82 = .ok (.iconst 5, 1) := by decide +kernel
theorem dX4_turn_83 : decode cX4_turn 83 = .ok (.if_icmp .ne 62, 3) := by decide +kernel
theorem dX4_turn_86 : decode cX4_turn 86 = .ok (.iload_n 1, 1) := by decide +kernel
theorem dX4_turn_87 : decode cX4_turn 87 = .ok (.bipush 32, 2) := by decide +kernel
theorem dX4_turn_89 : decode cX4_turn 89 = .ok (.idiv, 1) := by decide +kernel
theorem dX4_turn_90 : decode cX4_turn 90 = .ok (.sipush 256, 3) := by decide +kernel
theorem dX4_turn_93 : decode cX4_turn 93 = .ok (.irem, 1) := by decide +kernel
theorem dX4_turn_94 : decode cX4_turn 94 = .ok (.iconst 1, 1) := by decide +kernel
theorem dX4_turn_95 : decode cX4_turn 95 = .ok (.iload_n 1, 1) := by decide +kernel
theorem dX4_turn_96 : decode cX4_turn 96 = .ok (.sipush 8192, 3) := by decide +kernel
theorem dX4_turn_99 : decode cX4_turn 99 = .ok (.idiv, 1) := by decide +kernel
theorem dX4_turn_100 : decode cX4_turn 100 = .ok (.bipush 9, 2) := by decide +kernel
theorem dX4_turn_102 : decode cX4_turn 102 = .ok (.irem, 1) := by decide +kernel
theorem dX4_turn_103 : decode cX4_turn 103 = .ok (.iadd, 1) := by decide +kernel
theorem dX4_turn_104 : decode cX4_turn 104 = .ok (.invokestatic 133, 3) := by decide +kernel
theorem dX4_turn_107 : decode cX4_turn 107 = .ok (.ifCond .ne 56, 3) := by decide +kernel
theorem dX4_turn_110 : decode cX4_turn 110 = .ok (.aload_n 0, 1) := by decide +kernel
theorem dX4_turn_111 : decode cX4_turn 111 = .ok (.getfield 16, 3) := by decide +kernel
theorem dX4_turn_114 : decode cX4_turn 114 = .ok (.iload_n 1, 1) := by decide +kernel
theorem dX4_turn_115 : decode cX4_turn 115 = .ok (.bipush 8, 2) := by decide +kernel
theorem dX4_turn_117 : decode cX4_turn 117 = .ok (.idiv, 1) := by decide +kernel
theorem dX4_turn_118 : decode cX4_turn 118 = .ok (.iconst 3, 1) := by decide +kernel
theorem dX4_turn_119 : decode cX4_turn 119 = .ok (.irem, 1) := by decide +kernel
theorem dX4_turn_120 : decode cX4_turn 120 = .ok (.iload_n 1, 1) := by decide +kernel
theorem dX4_turn_121 : decode cX4_turn 121 = .ok (.bipush 32, 2) := by decide +kernel
theorem dX4_turn_123 : decode cX4_turn 123 = .ok (.idiv, 1) := by decide +kernel
theorem dX4_turn_124 : decode cX4_turn 124 = .ok (.sipush 256, 3) := by decide +kernel
theorem dX4_turn_127 : decode cX4_turn 127 = .ok (.irem, 1) := by decide +kernel
theorem dX4_turn_128 : decode cX4_turn 128 = .ok (.iconst 1, 1) := by decide +kernel
theorem dX4_turn_129 : decode cX4_turn 129 = .ok (.iload_n 1, 1) := by decide +kernel
theorem dX4_turn_130 : decode cX4_turn 130 = .ok (.sipush 8192, 3) := by decide +kernel
theorem dX4_turn_133 : decode cX4_turn 133 = .ok (.idiv, 1) := by decide +kernel
theorem dX4_turn_134 : decode cX4_turn 134 = .ok (.bipush 9, 2) := by decide +kernel
theorem dX4_turn_136 : decode cX4_turn 136 = .ok (.irem, 1) := by decide +kernel
theorem dX4_turn_137 : decode cX4_turn 137 = .ok (.iadd, 1) := by decide +kernel
theorem dX4_turn_138 : decode cX4_turn 138 = .ok (.invokestatic 150, 3) := by decide +kernel
theorem dX4_turn_141 : decode cX4_turn 141 = .ok (.pop, 1) := by decide +kernel
theorem dX4_turn_142 : decode cX4_turn 142 = .ok (.goto 21, 3) := by decide +kernel
theorem dX4_turn_145 : decode cX4_turn 145 = .ok (.aload_n 0, 1) := by decide +kernel
theorem dX4_turn_146 : decode cX4_turn 146 = .ok (.aload_n 0, 1) := by decide +kernel
theorem dX4_turn_147 : decode cX4_turn 147 = .ok (.getfield 16, 3) := by decide +kernel
theorem dX4_turn_150 : decode cX4_turn 150 = .ok (.iconst 1, 1) := by decide +kernel
theorem dX4_turn_151 : decode cX4_turn 151 = .ok (.iload_n 1, 1) := by decide +kernel
theorem dX4_turn_152 : decode cX4_turn 152 = .ok (.bipush 8, 2) := by decide +kernel
theorem dX4_turn_154 : decode cX4_turn 154 = .ok (.idiv, 1) := by decide +kernel
theorem dX4_turn_155 : decode cX4_turn 155 = .ok (.bipush 8, 2) := by decide +kernel
theorem dX4_turn_157 : decode cX4_turn 157 = .ok (.irem, 1) := by decide +kernel
theorem dX4_turn_158 : decode cX4_turn 158 = .ok (.iadd, 1) := by decide +kernel
theorem dX4_turn_159 : decode cX4_turn 159 = .ok (.invokevirtual 147, 3) := by decide +kernel
theorem dX4_turn_162 : decode cX4_turn 162 = .ok (.pop, 1) := by decide +kernel
theorem dX4_turn_163 : decode cX4_turn 163 = .ok (.return_, 1) := by decide +kernel
set_option maxRecDepth 20000 in
theorem ggX4_simulate_X4_in : GoodIn wsX4_simulate wsX4_in := goodIn_r _ [9] (by decide +kernel) (by decide +kernel)
set_option maxRecDepth 20000 in
theorem gX4_simulate_X4_in : GoodIn wsX4_simulate (va_wsS RX4 39 yX4_in wsX4_in) := goodIn_app (goodIn_of _ (by decide +kernel)) ggX4_simulate_X4_in
set_option maxRecDepth 20000 in
theorem ggX4_simulate_X4_refused : GoodIn wsX4_simulate wsX4_refused := goodIn_r _ [13, 14, 98, 99, 100, 101, 102, 103, 104, 105, 106, 107, 108, 109, 110] (by decide +kernel) (by decide +kernel)
set_option maxRecDepth 20000 in
theorem gX4_simulate_X4_refused : GoodIn wsX4_simulate (wsV RX4 118 RX4 yX4_refused wsX4_refused) := goodIn_app (goodIn_of _ (by decide +kernel)) ggX4_simulate_X4_refused
set_option maxRecDepth 20000 in
theorem ggX4_simulate_X4_copyState : GoodIn wsX4_simulate wsX4_copyState := goodIn_r _ [17] (by decide +kernel) (by decide +kernel)
set_option maxRecDepth 20000 in
theorem gX4_simulate_X4_copyState : GoodIn wsX4_simulate (va_wsS RX4 168 yX4_copyState wsX4_copyState) := goodIn_app (goodIn_of _ (by decide +kernel)) ggX4_simulate_X4_copyState
set_option maxRecDepth 20000 in
theorem ggX4_simulate_X4_turn : GoodIn wsX4_simulate wsX4_turn := goodIn_r _ [21, 3, 22, 23, 8, 24, 25, 26, 27, 28, 29, 6, 7, 9, 30, 31, 32, 33, 34, 35, 36, 37, 38, 39, 40, 41, 42, 43, 44, 45, 46, 47, 48, 49, 50, 51, 52, 53, 54, 55, 56, 57, 58, 59, 60, 61, 62, 63, 64, 65, 66, 67, 68, 69, 70, 71, 72, 73, 74, 75, 76, 77, 78, 79, 80, 81, 82, 83, 84, 85, 86, 87, 88, 89, 90, 91, 92, 93, 94, 98, 99, 100, 101, 102, 103, 104, 105, 106, 107, 108, 109, 110] (by decide +kernel) (by decide +kernel)
set_option maxRecDepth 20000 in
theorem gX4_simulate_X4_turn : GoodIn wsX4_simulate (wsV RX4 213 RX4 yX4_turn wsX4_turn) := goodIn_app (goodIn_of _ (by decide +kernel)) ggX4_simulate_X4_turn
set_option maxRecDepth 20000 in
theorem ggX4_simulate_X4_queuedBlocks : GoodIn wsX4_simulate wsX4_queuedBlocks := goodIn_r _ [97, 33, 34, 8, 35, 26, 27, 28, 29, 6, 7, 9] (by decide +kernel) (by decide +kernel)
set_option maxRecDepth 20000 in
theorem gX4_simulate_X4_queuedBlocks : GoodIn wsX4_simulate (va_wsS RX4 180 yX4_queuedBlocks wsX4_queuedBlocks) := goodIn_app (goodIn_of _ (by decide +kernel)) ggX4_simulate_X4_queuedBlocks
theorem dX4_simulate_0 : decode cX4_simulate 0 = .ok (.aload_n 0, 1) := by decide +kernel
theorem dX4_simulate_1 : decode cX4_simulate 1 = .ok (.iload_n 3, 1) := by decide +kernel
theorem dX4_simulate_2 : decode cX4_simulate 2 = .ok (.i2l, 1) := by decide +kernel
theorem dX4_simulate_3 : decode cX4_simulate 3 = .ok (.lconst 1, 1) := by decide +kernel
theorem dX4_simulate_4 : decode cX4_simulate 4 = .ok (.ldc2_w 196, 3) := by decide +kernel
theorem dX4_simulate_7 : decode cX4_simulate 7 = .ok (.invokestatic 39, 3) := by decide +kernel
theorem dX4_simulate_10 : decode cX4_simulate 10 = .ok (.ifCond .eq 7, 3) := by decide +kernel
theorem dX4_simulate_13 : decode cX4_simulate 13 = .ok (.iconst 0, 1) := by decide +kernel
theorem dX4_simulate_14 : decode cX4_simulate 14 = .ok (.goto 4, 3) := by decide +kernel
theorem dX4_simulate_17 : decode cX4_simulate 17 = .ok (.iconst 1, 1) := by decide +kernel
theorem dX4_simulate_18 : decode cX4_simulate 18 = .ok (.invokevirtual 118, 3) := by decide +kernel
theorem dX4_simulate_21 : decode cX4_simulate 21 = .ok (.ifCond .eq 5, 3) := by decide +kernel
theorem dX4_simulate_24 : decode cX4_simulate 24 = .ok (.iconst 0, 1) := by decide +kernel
theorem dX4_simulate_25 : decode cX4_simulate 25 = .ok (.ireturn, 1) := by decide +kernel
theorem dX4_simulate_26 : decode cX4_simulate 26 = .ok (.aload_n 0, 1) := by decide +kernel
theorem dX4_simulate_27 : decode cX4_simulate 27 = .ok (.getfield 13, 3) := by decide +kernel
theorem dX4_simulate_30 : decode cX4_simulate 30 = .ok (.iconst 0, 1) := by decide +kernel
theorem dX4_simulate_31 : decode cX4_simulate 31 = .ok (.aload_n 0, 1) := by decide +kernel
theorem dX4_simulate_32 : decode cX4_simulate 32 = .ok (.getfield 16, 3) := by decide +kernel
theorem dX4_simulate_35 : decode cX4_simulate 35 = .ok (.iconst 0, 1) := by decide +kernel
theorem dX4_simulate_36 : decode cX4_simulate 36 = .ok (.invokestatic 168, 3) := by decide +kernel
theorem dX4_simulate_39 : decode cX4_simulate 39 = .ok (.lload_n 1, 1) := by decide +kernel
theorem dX4_simulate_40 : decode cX4_simulate 40 = .ok (.lstore 4, 2) := by decide +kernel
theorem dX4_simulate_42 : decode cX4_simulate 42 = .ok (.iconst 0, 1) := by decide +kernel
theorem dX4_simulate_43 : decode cX4_simulate 43 = .ok (.istore 6, 2) := by decide +kernel
theorem dX4_simulate_45 : decode cX4_simulate 45 = .ok (.iload 6, 2) := by decide +kernel
theorem dX4_simulate_47 : decode cX4_simulate 47 = .ok (.iload_n 3, 1) := by decide +kernel
theorem dX4_simulate_48 : decode cX4_simulate 48 = .ok (.if_icmp .ge 31, 3) := by decide +kernel
theorem dX4_simulate_51 : decode cX4_simulate 51 = .ok (.lload 4, 2) := by decide +kernel
theorem dX4_simulate_53 : decode cX4_simulate 53 = .ok (.ldc2_w 209, 3) := by decide +kernel
theorem dX4_simulate_56 : decode cX4_simulate 56 = .ok (.lmul, 1) := by decide +kernel
theorem dX4_simulate_57 : decode cX4_simulate 57 = .ok (.ldc2_w 211, 3) := by decide +kernel
theorem dX4_simulate_60 : decode cX4_simulate 60 = .ok (.ladd, 1) := by decide +kernel
theorem dX4_simulate_61 : decode cX4_simulate 61 = .ok (.lstore 4, 2) := by decide +kernel
theorem dX4_simulate_63 : decode cX4_simulate 63 = .ok (.aload_n 0, 1) := by decide +kernel
theorem dX4_simulate_64 : decode cX4_simulate 64 = .ok (.lload 4, 2) := by decide +kernel
theorem dX4_simulate_66 : decode cX4_simulate 66 = .ok (.bipush 33, 2) := by decide +kernel
theorem dX4_simulate_68 : decode cX4_simulate 68 = .ok (.lushr, 1) := by decide +kernel
theorem dX4_simulate_69 : decode cX4_simulate 69 = .ok (.l2i, 1) := by decide +kernel
theorem dX4_simulate_70 : decode cX4_simulate 70 = .ok (.invokevirtual 213, 3) := by decide +kernel
theorem dX4_simulate_73 : decode cX4_simulate 73 = .ok (.iinc 6 1, 3) := by decide +kernel
theorem dX4_simulate_76 : decode cX4_simulate 76 = .ok (.goto (-31), 3) := by decide +kernel
theorem dX4_simulate_79 : decode cX4_simulate 79 = .ok (.sipush 1000, 3) := by decide +kernel
theorem dX4_simulate_82 : decode cX4_simulate 82 = .ok (.aload_n 0, 1) := by decide +kernel
theorem dX4_simulate_83 : decode cX4_simulate 83 = .ok (.getfield 16, 3) := by decide +kernel
theorem dX4_simulate_86 : decode cX4_simulate 86 = .ok (.sipush 771, 3) := by decide +kernel
theorem dX4_simulate_89 : decode cX4_simulate 89 = .ok (.iaload, 1) := by decide +kernel
theorem dX4_simulate_90 : decode cX4_simulate 90 = .ok (.aload_n 0, 1) := by decide +kernel
theorem dX4_simulate_91 : decode cX4_simulate 91 = .ok (.getfield 13, 3) := by decide +kernel
theorem dX4_simulate_94 : decode cX4_simulate 94 = .ok (.sipush 771, 3) := by decide +kernel
theorem dX4_simulate_97 : decode cX4_simulate 97 = .ok (.iaload, 1) := by decide +kernel
theorem dX4_simulate_98 : decode cX4_simulate 98 = .ok (.isub, 1) := by decide +kernel
theorem dX4_simulate_99 : decode cX4_simulate 99 = .ok (.imul, 1) := by decide +kernel
theorem dX4_simulate_100 : decode cX4_simulate 100 = .ok (.aload_n 0, 1) := by decide +kernel
theorem dX4_simulate_101 : decode cX4_simulate 101 = .ok (.getfield 16, 3) := by decide +kernel
theorem dX4_simulate_104 : decode cX4_simulate 104 = .ok (.invokestatic 180, 3) := by decide +kernel
theorem dX4_simulate_107 : decode cX4_simulate 107 = .ok (.iadd, 1) := by decide +kernel
theorem dX4_simulate_108 : decode cX4_simulate 108 = .ok (.ireturn, 1) := by decide +kernel
set_option maxRecDepth 20000 in
theorem ggX4_save_X4_in : GoodIn wsX4_save wsX4_in := goodIn_r _ [7] (by decide +kernel) (by decide +kernel)
set_option maxRecDepth 20000 in
theorem gX4_save_X4_in : GoodIn wsX4_save (va_wsS RX4 39 yX4_in wsX4_in) := goodIn_app (goodIn_of _ (by decide +kernel)) ggX4_save_X4_in
set_option maxRecDepth 20000 in
theorem ggX4_save_X4_refused : GoodIn wsX4_save wsX4_refused := goodIn_r _ [11, 12, 16, 17, 18, 19, 20, 21, 22, 23, 24, 25, 26, 27, 28] (by decide +kernel) (by decide +kernel)
set_option maxRecDepth 20000 in
theorem gX4_save_X4_refused : GoodIn wsX4_save (wsV RX4 118 RX4 yX4_refused wsX4_refused) := goodIn_app (goodIn_of _ (by decide +kernel)) ggX4_save_X4_refused
set_option maxRecDepth 20000 in
theorem ggX4_save_X4_copyState : GoodIn wsX4_save wsX4_copyState := goodIn_r _ [15] (by decide +kernel) (by decide +kernel)
set_option maxRecDepth 20000 in
theorem gX4_save_X4_copyState : GoodIn wsX4_save (va_wsS RX4 168 yX4_copyState wsX4_copyState) := goodIn_app (goodIn_of _ (by decide +kernel)) ggX4_save_X4_copyState
theorem dX4_save_0 : decode cX4_save 0 = .ok (.aload_n 0, 1) := by decide +kernel
theorem dX4_save_1 : decode cX4_save 1 = .ok (.iload_n 1, 1) := by decide +kernel
theorem dX4_save_2 : decode cX4_save 2 = .ok (.i2l, 1) := by decide +kernel
theorem dX4_save_3 : decode cX4_save 3 = .ok (.lconst 0, 1) := by decide +kernel
theorem dX4_save_4 : decode cX4_save 4 = .ok (.lconst 1, 1) := by decide +kernel
theorem dX4_save_5 : decode cX4_save 5 = .ok (.invokestatic 39, 3) := by decide +kernel
theorem dX4_save_8 : decode cX4_save 8 = .ok (.ifCond .eq 7, 3) := by decide +kernel
theorem dX4_save_11 : decode cX4_save 11 = .ok (.iconst 0, 1) := by decide +kernel
theorem dX4_save_12 : decode cX4_save 12 = .ok (.goto 4, 3) := by decide +kernel
theorem dX4_save_15 : decode cX4_save 15 = .ok (.iconst 1, 1) := by decide +kernel
theorem dX4_save_16 : decode cX4_save 16 = .ok (.invokevirtual 118, 3) := by decide +kernel
theorem dX4_save_19 : decode cX4_save 19 = .ok (.ifCond .eq 5, 3) := by decide +kernel
theorem dX4_save_22 : decode cX4_save 22 = .ok (.iconst 0, 1) := by decide +kernel
theorem dX4_save_23 : decode cX4_save 23 = .ok (.ireturn, 1) := by decide +kernel
theorem dX4_save_24 : decode cX4_save 24 = .ok (.aload_n 0, 1) := by decide +kernel
theorem dX4_save_25 : decode cX4_save 25 = .ok (.getfield 13, 3) := by decide +kernel
theorem dX4_save_28 : decode cX4_save 28 = .ok (.iconst 0, 1) := by decide +kernel
theorem dX4_save_29 : decode cX4_save 29 = .ok (.aload_n 0, 1) := by decide +kernel
theorem dX4_save_30 : decode cX4_save 30 = .ok (.getfield 22, 3) := by decide +kernel
theorem dX4_save_33 : decode cX4_save 33 = .ok (.sipush 785, 3) := by decide +kernel
theorem dX4_save_36 : decode cX4_save 36 = .ok (.iload_n 1, 1) := by decide +kernel
theorem dX4_save_37 : decode cX4_save 37 = .ok (.imul, 1) := by decide +kernel
theorem dX4_save_38 : decode cX4_save 38 = .ok (.invokestatic 168, 3) := by decide +kernel
theorem dX4_save_41 : decode cX4_save 41 = .ok (.aload_n 0, 1) := by decide +kernel
theorem dX4_save_42 : decode cX4_save 42 = .ok (.getfield 25, 3) := by decide +kernel
theorem dX4_save_45 : decode cX4_save 45 = .ok (.iload_n 1, 1) := by decide +kernel
theorem dX4_save_46 : decode cX4_save 46 = .ok (.iconst 1, 1) := by decide +kernel
theorem dX4_save_47 : decode cX4_save 47 = .ok (.bastore, 1) := by decide +kernel
theorem dX4_save_48 : decode cX4_save 48 = .ok (.aload_n 0, 1) := by decide +kernel
theorem dX4_save_49 : decode cX4_save 49 = .ok (.getfield 13, 3) := by decide +kernel
theorem dX4_save_52 : decode cX4_save 52 = .ok (.sipush 768, 3) := by decide +kernel
theorem dX4_save_55 : decode cX4_save 55 = .ok (.iaload, 1) := by decide +kernel
theorem dX4_save_56 : decode cX4_save 56 = .ok (.ireturn, 1) := by decide +kernel
set_option maxRecDepth 20000 in
theorem ggX4_restore_X4_in : GoodIn wsX4_restore wsX4_in := goodIn_r _ [8] (by decide +kernel) (by decide +kernel)
set_option maxRecDepth 20000 in
theorem gX4_restore_X4_in : GoodIn wsX4_restore (va_wsS RX4 39 yX4_in wsX4_in) := goodIn_app (goodIn_of _ (by decide +kernel)) ggX4_restore_X4_in
set_option maxRecDepth 20000 in
theorem ggX4_restore_X4_refused : GoodIn wsX4_restore wsX4_refused := goodIn_r _ [12, 13, 17, 18, 19, 20, 21, 22, 23, 24, 25, 26, 27, 28, 29] (by decide +kernel) (by decide +kernel)
set_option maxRecDepth 20000 in
theorem gX4_restore_X4_refused : GoodIn wsX4_restore (wsV RX4 118 RX4 yX4_refused wsX4_refused) := goodIn_app (goodIn_of _ (by decide +kernel)) ggX4_restore_X4_refused
set_option maxRecDepth 20000 in
theorem ggX4_restore_X4_copyState : GoodIn wsX4_restore wsX4_copyState := goodIn_r _ [16] (by decide +kernel) (by decide +kernel)
set_option maxRecDepth 20000 in
theorem gX4_restore_X4_copyState : GoodIn wsX4_restore (va_wsS RX4 168 yX4_copyState wsX4_copyState) := goodIn_app (goodIn_of _ (by decide +kernel)) ggX4_restore_X4_copyState
theorem dX4_restore_0 : decode cX4_restore 0 = .ok (.aload_n 0, 1) := by decide +kernel
theorem dX4_restore_1 : decode cX4_restore 1 = .ok (.iload_n 1, 1) := by decide +kernel
theorem dX4_restore_2 : decode cX4_restore 2 = .ok (.i2l, 1) := by decide +kernel
theorem dX4_restore_3 : decode cX4_restore 3 = .ok (.lconst 0, 1) := by decide +kernel
theorem dX4_restore_4 : decode cX4_restore 4 = .ok (.lconst 1, 1) := by decide +kernel
theorem dX4_restore_5 : decode cX4_restore 5 = .ok (.invokestatic 39, 3) := by decide +kernel
theorem dX4_restore_8 : decode cX4_restore 8 = .ok (.ifCond .ne 7, 3) := by decide +kernel
theorem dX4_restore_11 : decode cX4_restore 11 = .ok (.iconst 1, 1) := by decide +kernel
theorem dX4_restore_12 : decode cX4_restore 12 = .ok (.goto 17, 3) := by decide +kernel
theorem dX4_restore_15 : decode cX4_restore 15 = .ok (.aload_n 0, 1) := by decide +kernel
theorem dX4_restore_16 : decode cX4_restore 16 = .ok (.getfield 25, 3) := by decide +kernel
theorem dX4_restore_19 : decode cX4_restore 19 = .ok (.iload_n 1, 1) := by decide +kernel
theorem dX4_restore_20 : decode cX4_restore 20 = .ok (.baload, 1) := by decide +kernel
theorem dX4_restore_21 : decode cX4_restore 21 = .ok (.ifCond .ne 7, 3) := by decide +kernel
theorem dX4_restore_24 : decode cX4_restore 24 = .ok (.iconst 2, 1) := by decide +kernel
theorem dX4_restore_25 : decode cX4_restore 25 = .ok (.goto 4, 3) := by decide +kernel
theorem dX4_restore_28 : decode cX4_restore 28 = .ok (.iconst 0, 1) := by decide +kernel
theorem dX4_restore_29 : decode cX4_restore 29 = .ok (.invokevirtual 118, 3) := by decide +kernel
theorem dX4_restore_32 : decode cX4_restore 32 = .ok (.ifCond .eq 5, 3) := by decide +kernel
theorem dX4_restore_35 : decode cX4_restore 35 = .ok (.iconst 0, 1) := by decide +kernel
theorem dX4_restore_36 : decode cX4_restore 36 = .ok (.ireturn, 1) := by decide +kernel
theorem dX4_restore_37 : decode cX4_restore 37 = .ok (.aload_n 0, 1) := by decide +kernel
theorem dX4_restore_38 : decode cX4_restore 38 = .ok (.getfield 22, 3) := by decide +kernel
theorem dX4_restore_41 : decode cX4_restore 41 = .ok (.sipush 785, 3) := by decide +kernel
theorem dX4_restore_44 : decode cX4_restore 44 = .ok (.iload_n 1, 1) := by decide +kernel
theorem dX4_restore_45 : decode cX4_restore 45 = .ok (.imul, 1) := by decide +kernel
theorem dX4_restore_46 : decode cX4_restore 46 = .ok (.aload_n 0, 1) := by decide +kernel
theorem dX4_restore_47 : decode cX4_restore 47 = .ok (.getfield 13, 3) := by decide +kernel
theorem dX4_restore_50 : decode cX4_restore 50 = .ok (.iconst 0, 1) := by decide +kernel
theorem dX4_restore_51 : decode cX4_restore 51 = .ok (.invokestatic 168, 3) := by decide +kernel
theorem dX4_restore_54 : decode cX4_restore 54 = .ok (.aload_n 0, 1) := by decide +kernel
theorem dX4_restore_55 : decode cX4_restore 55 = .ok (.iconst 0, 1) := by decide +kernel
theorem dX4_restore_56 : decode cX4_restore 56 = .ok (.putfield 172, 3) := by decide +kernel
theorem dX4_restore_59 : decode cX4_restore 59 = .ok (.aload_n 0, 1) := by decide +kernel
theorem dX4_restore_60 : decode cX4_restore 60 = .ok (.getfield 13, 3) := by decide +kernel
theorem dX4_restore_63 : decode cX4_restore 63 = .ok (.sipush 768, 3) := by decide +kernel
theorem dX4_restore_66 : decode cX4_restore 66 = .ok (.iaload, 1) := by decide +kernel
theorem dX4_restore_67 : decode cX4_restore 67 = .ok (.ireturn, 1) := by decide +kernel
