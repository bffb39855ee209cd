set_option maxRecDepth 20000 in
theorem ggX1_init_X0_init : GoodIn wsX1_init wsX0_init := goodIn_r _ [10, 11, 2, 3, 12, 13, 14, 15, 16, 17, 18, 19, 7, 20, 21, 22, 23, 24, 25, 26, 27, 28, 29, 30, 31, 32, 33, 37, 38, 39, 40, 41, 42, 43, 44, 45] (by decide +kernel) (by decide +kernel)
set_option maxRecDepth 20000 in
theorem gX1_init_X0_init : GoodIn wsX1_init (wsX0_init) := ggX1_init_X0_init
theorem dX1_init_0 : decode cX1_init 0 = .ok (.aload_n 0, 1) := by decide +kernel
theorem dX1_init_1 : decode cX1_init 1 = .ok (.invokespecial 3, 3) := by decide +kernel
theorem dX1_init_4 : decode cX1_init 4 = .ok (.aload_n 0, 1) := by decide +kernel
theorem dX1_init_5 : decode cX1_init 5 = .ok (.bipush 14, 2) := by decide +kernel
theorem dX1_init_7 : decode cX1_init 7 = .ok (.anewarray 9, 3) := by decide +kernel
theorem dX1_init_10 : decode cX1_init 10 = .ok (.putfield 11, 3) := by decide +kernel
theorem dX1_init_13 : decode cX1_init 13 = .ok (.iconst 0, 1) := by decide +kernel
theorem dX1_init_14 : decode cX1_init 14 = .ok (.istore_n 1, 1) := by decide +kernel
theorem dX1_init_15 : decode cX1_init 15 = .ok (.iload_n 1, 1) := by decide +kernel
theorem dX1_init_16 : decode cX1_init 16 = .ok (.bipush 14, 2) := by decide +kernel
theorem dX1_init_18 : decode cX1_init 18 = .ok (.if_icmp .ge 22, 3) := by decide +kernel
theorem dX1_init_21 : decode cX1_init 21 = .ok (.aload_n 0, 1) := by decide +kernel
theorem dX1_init_22 : decode cX1_init 22 = .ok (.getfield 11, 3) := by decide +kernel
theorem dX1_init_25 : decode cX1_init 25 = .ok (.iload_n 1, 1) := by decide +kernel
theorem dX1_init_26 : decode cX1_init 26 = .ok (.new 9, 3) := by decide +kernel
theorem dX1_init_29 : decode cX1_init 29 = .ok (.dup, 1) := by decide +kernel
theorem dX1_init_30 : decode cX1_init 30 = .ok (.invokespecial 17, 3) := by decide +kernel
theorem dX1_init_33 : decode cX1_init 33 = .ok (.aastore, 1) := by decide +kernel
theorem dX1_init_34 : decode cX1_init 34 = .ok (.iinc 1 1, 3) := by decide +kernel
theorem dX1_init_37 : decode cX1_init 37 = .ok (.goto (-22), 3) := by decide +kernel
theorem dX1_init_40 : decode cX1_init 40 = .ok (.return_, 1) := by decide +kernel
theorem dX1_size_0 : decode cX1_size 0 = .ok (.aload_n 0, 1) := by decide +kernel
theorem dX1_size_1 : decode cX1_size 1 = .ok (.getfield 18, 3) := by decide +kernel
theorem dX1_size_4 : decode cX1_size 4 = .ok (.ireturn, 1) := by decide +kernel
theorem dX1_forget_0 : decode cX1_forget 0 = .ok (.aload_n 0, 1) := by decide +kernel
theorem dX1_forget_1 : decode cX1_forget 1 = .ok (.iconst 0, 1) := by decide +kernel
theorem dX1_forget_2 : decode cX1_forget 2 = .ok (.putfield 18, 3) := by decide +kernel
theorem dX1_forget_5 : decode cX1_forget 5 = .ok (.return_, 1) := by decide +kernel
set_option maxRecDepth 20000 in
theorem ggX1_remember_X1_newest : GoodIn wsX1_remember wsX1_newest := goodIn_r _ [8, 2, 1, 27, 28, 29] (by decide +kernel) (by decide +kernel)
set_option maxRecDepth 20000 in
theorem gX1_remember_X1_newest : GoodIn wsX1_remember (wsV RX1 25 RX1 yX1_newest wsX1_newest) := goodIn_app (goodIn_of _ (by decide +kernel)) ggX1_remember_X1_newest
set_option maxRecDepth 20000 in
theorem ggX1_remember_X0_copyFrom : GoodIn wsX1_remember wsX0_copyFrom := goodIn_r _ [13, 14, 15, 16, 17, 18, 19, 20, 21, 22, 23, 24, 25, 26, 30, 31, 32, 33, 34, 35, 36, 37, 38] (by decide +kernel) (by decide +kernel)
set_option maxRecDepth 20000 in
theorem gX1_remember_X0_copyFrom : GoodIn wsX1_remember (wsV RX1 29 RX0 yX0_copyFrom wsX0_copyFrom) := goodIn_app (goodIn_of _ (by decide +kernel)) ggX1_remember_X0_copyFrom
theorem dX1_remember_0 : decode cX1_remember 0 = .ok (.aload_n 0, 1) := by decide +kernel
theorem dX1_remember_1 : decode cX1_remember 1 = .ok (.getfield 18, 3) := by decide +kernel
theorem dX1_remember_4 : decode cX1_remember 4 = .ok (.bipush 14, 2) := by decide +kernel
theorem dX1_remember_6 : decode cX1_remember 6 = .ok (.if_icmp .ne 19, 3) := by decide +kernel
theorem dX1_remember_9 : decode cX1_remember 9 = .ok (.aload_n 0, 1) := by decide +kernel
theorem dX1_remember_10 : decode cX1_remember 10 = .ok (.aload_n 0, 1) := by decide +kernel
theorem dX1_remember_11 : decode cX1_remember 11 = .ok (.getfield 22, 3) := by decide +kernel
theorem dX1_remember_14 : decode cX1_remember 14 = .ok (.iconst 1, 1) := by decide +kernel
theorem dX1_remember_15 : decode cX1_remember 15 = .ok (.iadd, 1) := by decide +kernel
theorem dX1_remember_16 : decode cX1_remember 16 = .ok (.bipush 14, 2) := by decide +kernel
theorem dX1_remember_18 : decode cX1_remember 18 = .ok (.irem, 1) := by decide +kernel
theorem dX1_remember_19 : decode cX1_remember 19 = .ok (.putfield 22, 3) := by decide +kernel
theorem dX1_remember_22 : decode cX1_remember 22 = .ok (.goto 13, 3) := by decide +kernel
theorem dX1_remember_25 : decode cX1_remember 25 = .ok (.aload_n 0, 1) := by decide +kernel
theorem dX1_remember_26 : decode cX1_remember 26 = .ok (.dup, 1) := by decide +kernel
theorem dX1_remember_27 : decode cX1_remember 27 = .ok (.getfield 18, 3) := by decide +kernel
theorem dX1_remember_30 : decode cX1_remember 30 = .ok (.iconst 1, 1) := by decide +kernel
theorem dX1_remember_31 : decode cX1_remember 31 = .ok (.iadd, 1) := by decide +kernel
theorem dX1_remember_32 : decode cX1_remember 32 = .ok (.putfield 18, 3) := by decide +kernel
theorem dX1_remember_35 : decode cX1_remember 35 = .ok (.aload_n 0, 1) := by decide +kernel
theorem dX1_remember_36 : decode cX1_remember 36 = .ok (.getfield 11, 3) := by decide +kernel
theorem dX1_remember_39 : decode cX1_remember 39 = .ok (.aload_n 0, 1) := by decide +kernel
theorem dX1_remember_40 : decode cX1_remember 40 = .ok (.invokevirtual 25, 3) := by decide +kernel
theorem dX1_remember_43 : decode cX1_remember 43 = .ok (.aaload, 1) := by decide +kernel
theorem dX1_remember_44 : decode cX1_remember 44 = .ok (.aload_n 1, 1) := by decide +kernel
theorem dX1_remember_45 : decode cX1_remember 45 = .ok (.invokevirtual 29, 3) := by decide +kernel
theorem dX1_remember_48 : decode cX1_remember 48 = .ok (.return_, 1) := by decide +kernel
set_option maxRecDepth 20000 in
theorem ggX1_takeBack_X1_newest : GoodIn wsX1_takeBack wsX1_newest := goodIn_r _ [7, 8, 2, 27, 28, 29] (by decide +kernel) (by decide +kernel)
set_option maxRecDepth 20000 in
theorem gX1_takeBack_X1_newest : GoodIn wsX1_takeBack (wsV RX1 25 RX1 yX1_newest wsX1_newest) := goodIn_app (goodIn_of _ (by decide +kernel)) ggX1_takeBack_X1_newest
set_option maxRecDepth 20000 in
theorem ggX1_takeBack_X0_copyFrom : GoodIn wsX1_takeBack wsX0_copyFrom := goodIn_r _ [13, 14, 15, 16, 17, 18, 19, 20, 21, 22, 23, 24, 25, 26, 30, 31, 32, 33, 34, 35, 36, 37, 38] (by decide +kernel) (by decide +kernel)
set_option maxRecDepth 20000 in
theorem gX1_takeBack_X0_copyFrom : GoodIn wsX1_takeBack (wsV RX1 29 RX0 yX0_copyFrom wsX0_copyFrom) := goodIn_app (goodIn_of _ (by decide +kernel)) ggX1_takeBack_X0_copyFrom
theorem dX1_takeBack_0 : decode cX1_takeBack 0 = .ok (.aload_n 1, 1) := by decide +kernel
theorem dX1_takeBack_1 : decode cX1_takeBack 1 = .ok (.aload_n 0, 1) := by decide +kernel
theorem dX1_takeBack_2 : decode cX1_takeBack 2 = .ok (.getfield 11, 3) := by decide +kernel
theorem dX1_takeBack_5 : decode cX1_takeBack 5 = .ok (.aload_n 0, 1) := by decide +kernel
theorem dX1_takeBack_6 : decode cX1_takeBack 6 = .ok (.invokevirtual 25, 3) := by decide +kernel
theorem dX1_takeBack_9 : decode cX1_takeBack 9 = .ok (.aaload, 1) := by decide +kernel
theorem dX1_takeBack_10 : decode cX1_takeBack 10 = .ok (.invokevirtual 29, 3) := by decide +kernel
theorem dX1_takeBack_13 : decode cX1_takeBack 13 = .ok (.aload_n 0, 1) := by decide +kernel
theorem dX1_takeBack_14 : decode cX1_takeBack 14 = .ok (.dup, 1) := by decide +kernel
theorem dX1_takeBack_15 : decode cX1_takeBack 15 = .ok (.getfield 18, 3) := by decide +kernel
theorem dX1_takeBack_18 : decode cX1_takeBack 18 = .ok (.iconst 1, 1) := by decide +kernel
theorem dX1_takeBack_19 : decode cX1_takeBack 19 = .ok (.isub, 1) := by decide +kernel
theorem dX1_takeBack_20 : decode cX1_takeBack 20 = .ok (.putfield 18, 3) := by decide +kernel
theorem dX1_takeBack_23 : decode cX1_takeBack 23 = .ok (.return_, 1) := by decide +kernel
theorem dX1_newest_0 : decode cX1_newest 0 = .ok (.aload_n 0, 1) := by decide +kernel
theorem dX1_newest_1 : decode cX1_newest 1 = .ok (.getfield 22, 3) := by decide +kernel
theorem dX1_newest_4 : decode cX1_newest 4 = .ok (.aload_n 0, 1) := by decide +kernel
theorem dX1_newest_5 : decode cX1_newest 5 = .ok (.getfield 18, 3) := by decide +kernel
theorem dX1_newest_8 : decode cX1_newest 8 = .ok (.iadd, 1) := by decide +kernel
theorem dX1_newest_9 : decode cX1_newest 9 = .ok (.iconst 1, 1) := by decide +kernel
theorem dX1_newest_10 : decode cX1_newest 10 = .ok (.isub, 1) := by decide +kernel
theorem dX1_newest_11 : decode cX1_newest 11 = .ok (.bipush 14, 2) := by decide +kernel
theorem dX1_newest_13 : decode cX1_newest 13 = .ok (.irem, 1) := by decide +kernel
theorem dX1_newest_14 : decode cX1_newest 14 = .ok (.ireturn, 1) := by decide +kernel
theorem dX2_init_0 : decode cX2_init 0 = .ok (.aload_n 0, 1) := by decide +kernel
theorem dX2_init_1 : decode cX2_init 1 = .ok (.invokespecial 3, 3) := by decide +kernel
theorem dX2_init_4 : decode cX2_init 4 = .ok (.aload_n 0, 1) := by decide +kernel
theorem dX2_init_5 : decode cX2_init 5 = .ok (.bipush 120, 2) := by decide +kernel
theorem dX2_init_7 : decode cX2_init 7 = .ok (.newarray .char, 2) := by decide +kernel
theorem dX2_init_9 : decode cX2_init 9 = .ok (.putfield 9, 3) := by decide +kernel
theorem dX2_init_12 : decode cX2_init 12 = .ok (.aload_n 0, 1) := by decide +kernel
theorem dX2_init_13 : decode cX2_init 13 = .ok (.iconst 3, 1) := by decide +kernel
theorem dX2_init_14 : decode cX2_init 14 = .ok (.newarray .int, 2) := by decide +kernel
theorem dX2_init_16 : decode cX2_init 16 = .ok (.putfield 15, 3) := by decide +kernel
theorem dX2_init_19 : decode cX2_init 19 = .ok (.return_, 1) := by decide +kernel
theorem dX2_isFull_0 : decode cX2_isFull 0 = .ok (.aload_n 0, 1) := by decide +kernel
theorem dX2_isFull_1 : decode cX2_isFull 1 = .ok (.getfield 19, 3) := by decide +kernel
theorem dX2_isFull_4 : decode cX2_isFull 4 = .ok (.bipush 120, 2) := by decide +kernel
theorem dX2_isFull_6 : decode cX2_isFull 6 = .ok (.if_icmp .lt 7, 3) := by decide +kernel
theorem dX2_isFull_9 : decode cX2_isFull 9 = .ok (.iconst 1, 1) := by decide +kernel
theorem dX2_isFull_10 : decode cX2_isFull 10 = .ok (.goto 4, 3) := by decide +kernel
theorem dX2_isFull_13 : decode cX2_isFull 13 = .ok (.iconst 0, 1) := by decide +kernel
theorem dX2_isFull_14 : decode cX2_isFull 14 = .ok (.ireturn, 1) := by decide +kernel
theorem dX2_add_0 : decode cX2_add 0 = .ok (.aload_n 0, 1) := by decide +kernel
theorem dX2_add_1 : decode cX2_add 1 = .ok (.getfield 9, 3) := by decide +kernel
theorem dX2_add_4 : decode cX2_add 4 = .ok (.aload_n 0, 1) := by decide +kernel
theorem dX2_add_5 : decode cX2_add 5 = .ok (.getfield 19, 3) := by decide +kernel
theorem dX2_add_8 : decode cX2_add 8 = .ok (.iload_n 1, 1) := by decide +kernel
theorem dX2_add_9 : decode cX2_add 9 = .ok (.castore, 1) := by decide +kernel
theorem dX2_add_10 : decode cX2_add 10 = .ok (.aload_n 0, 1) := by decide +kernel
theorem dX2_add_11 : decode cX2_add 11 = .ok (.dup, 1) := by decide +kernel
theorem dX2_add_12 : decode cX2_add 12 = .ok (.getfield 19, 3) := by decide +kernel
theorem dX2_add_15 : decode cX2_add 15 = .ok (.iconst 1, 1) := by decide +kernel
theorem dX2_add_16 : decode cX2_add 16 = .ok (.iadd, 1) := by decide +kernel
theorem dX2_add_17 : decode cX2_add 17 = .ok (.putfield 19, 3) := by decide +kernel
theorem dX2_add_20 : decode cX2_add 20 = .ok (.aload_n 0, 1) := by decide +kernel
theorem dX2_add_21 : decode cX2_add 21 = .ok (.getfield 19, 3) := by decide +kernel
theorem dX2_add_24 : decode cX2_add 24 = .ok (.ireturn, 1) := by decide +kernel
set_option maxRecDepth 20000 in
theorem ggX2_firstError_X2_readCommand : GoodIn wsX2_firstError wsX2_readCommand := goodIn_r _ [8, 3, 1, 2, 9, 10, 11, 12, 7, 13, 14, 15, 16, 17, 18, 19, 20, 21, 22, 23] (by decide +kernel) (by decide +kernel)
set_option maxRecDepth 20000 in
theorem gX2_firstError_X2_readCommand : GoodIn wsX2_firstError (wsV RX2 26 RX2 yX2_readCommand wsX2_readCommand) := goodIn_app (goodIn_of _ (by decide +kernel)) ggX2_firstError_X2_readCommand
theorem dX2_firstError_0 : decode cX2_firstError 0 = .ok (.aload_n 0, 1) := by decide +kernel
theorem dX2_firstError_1 : decode cX2_firstError 1 = .ok (.getfield 19, 3) := by decide +kernel
theorem dX2_firstError_4 : decode cX2_firstError 4 = .ok (.ifCond .eq 14, 3) := by decide +kernel
theorem dX2_firstError_7 : decode cX2_firstError 7 = .ok (.aload_n 0, 1) := by decide +kernel
theorem dX2_firstError_8 : decode cX2_firstError 8 = .ok (.getfield 9, 3) := by decide +kernel
theorem dX2_firstError_11 : decode cX2_firstError 11 = .ok (.iconst 0, 1) := by decide +kernel
theorem dX2_firstError_12 : decode cX2_firstError 12 = .ok (.caload, 1) := by decide +kernel
theorem dX2_firstError_13 : decode cX2_firstError 13 = .ok (.bipush 68, 2) := by decide +kernel
theorem dX2_firstError_15 : decode cX2_firstError 15 = .ok (.if_icmp .eq 5, 3) := by decide +kernel
theorem dX2_firstError_18 : decode cX2_firstError 18 = .ok (.iconst 0, 1) := by decide +kernel
theorem dX2_firstError_19 : decode cX2_firstError 19 = .ok (.ireturn, 1) := by decide +kernel
theorem dX2_firstError_20 : decode cX2_firstError 20 = .ok (.aload_n 0, 1) := by decide +kernel
theorem dX2_firstError_21 : decode cX2_firstError 21 = .ok (.iconst 1, 1) := by decide +kernel
theorem dX2_firstError_22 : decode cX2_firstError 22 = .ok (.putfield 23, 3) := by decide +kernel
theorem dX2_firstError_25 : decode cX2_firstError 25 = .ok (.iconst 0, 1) := by decide +kernel
theorem dX2_firstError_26 : decode cX2_firstError 26 = .ok (.istore_n 1, 1) := by decide +kernel
theorem dX2_firstError_27 : decode cX2_firstError 27 = .ok (.iload_n 1, 1) := by decide +kernel
theorem dX2_firstError_28 : decode cX2_firstError 28 = .ok (.bipush 120, 2) := by decide +kernel
theorem dX2_firstError_30 : decode cX2_firstError 30 = .ok (.if_icmp .ge 32, 3) := by decide +kernel
theorem dX2_firstError_33 : decode cX2_firstError 33 = .ok (.aload_n 0, 1) := by decide +kernel
theorem dX2_firstError_34 : decode cX2_firstError 34 = .ok (.getfield 23, 3) := by decide +kernel
theorem dX2_firstError_37 : decode cX2_firstError 37 = .ok (.aload_n 0, 1) := by decide +kernel
theorem dX2_firstError_38 : decode cX2_firstError 38 = .ok (.getfield 19, 3) := by decide +kernel
theorem dX2_firstError_41 : decode cX2_firstError 41 = .ok (.if_icmp .ge 21, 3) := by decide +kernel
theorem dX2_firstError_44 : decode cX2_firstError 44 = .ok (.aload_n 0, 1) := by decide +kernel
theorem dX2_firstError_45 : decode cX2_firstError 45 = .ok (.invokevirtual 26, 3) := by decide +kernel
theorem dX2_firstError_48 : decode cX2_firstError 48 = .ok (.ifCond .ne 8, 3) := by decide +kernel
theorem dX2_firstError_51 : decode cX2_firstError 51 = .ok (.aload_n 0, 1) := by decide +kernel
theorem dX2_firstError_52 : decode cX2_firstError 52 = .ok (.getfield 23, 3) := by decide +kernel
theorem dX2_firstError_55 : decode cX2_firstError 55 = .ok (.ireturn, 1) := by decide +kernel
theorem dX2_firstError_56 : decode cX2_firstError 56 = .ok (.iinc 1 1, 3) := by decide +kernel
theorem dX2_firstError_59 : decode cX2_firstError 59 = .ok (.goto (-32), 3) := by decide +kernel
theorem dX2_firstError_62 : decode cX2_firstError 62 = .ok (.iconst (-1), 1) := by decide +kernel
theorem dX2_firstError_63 : decode cX2_firstError 63 = .ok (.ireturn, 1) := by decide +kernel
theorem dX2_beginCommands_0 : decode cX2_beginCommands 0 = .ok (.aload_n 0, 1) := by decide +kernel
theorem dX2_beginCommands_1 : decode cX2_beginCommands 1 = .ok (.iconst 1, 1) := by decide +kernel
theorem dX2_beginCommands_2 : decode cX2_beginCommands 2 = .ok (.putfield 23, 3) := by decide +kernel
theorem dX2_beginCommands_5 : decode cX2_beginCommands 5 = .ok (.return_, 1) := by decide +kernel
theorem dX2_letter_0 : decode cX2_letter 0 = .ok (.aload_n 0, 1) := by decide +kernel
theorem dX2_letter_1 : decode cX2_letter 1 = .ok (.getfield 30, 3) := by decide +kernel
theorem dX2_letter_4 : decode cX2_letter 4 = .ok (.ireturn, 1) := by decide +kernel
theorem dX2_number_0 : decode cX2_number 0 = .ok (.aload_n 0, 1) := by decide +kernel
theorem dX2_number_1 : decode cX2_number 1 = .ok (.getfield 15, 3) := by decide +kernel
theorem dX2_number_4 : decode cX2_number 4 = .ok (.iload_n 1, 1) := by decide +kernel
theorem dX2_number_5 : decode cX2_number 5 = .ok (.iaload, 1) := by decide +kernel
theorem dX2_number_6 : decode cX2_number 6 = .ok (.ireturn, 1) := by decide +kernel
set_option maxRecDepth 20000 in
theorem ggX2_readCommand_X2_readSpan : GoodIn wsX2_readCommand wsX2_readSpan := goodIn_r _ [9, 10, 11, 12, 8, 13, 1, 2, 3, 14, 15, 16, 17, 18, 19] (by decide +kernel) (by decide +kernel)
set_option maxRecDepth 20000 in
theorem gX2_readCommand_X2_readSpan : GoodIn wsX2_readCommand (wsV RX2 33 RX2 yX2_readSpan wsX2_readSpan) := goodIn_app (goodIn_of _ (by decide +kernel)) ggX2_readCommand_X2_readSpan
set_option maxRecDepth 20000 in
theorem ggX2_readCommand_X2_readNumber : GoodIn wsX2_readCommand wsX2_readNumber := goodIn_r _ [13, 1, 2, 3, 14, 15, 16, 17, 18, 19] (by decide +kernel) (by decide +kernel)
set_option maxRecDepth 20000 in
theorem gX2_readCommand_X2_readNumber : GoodIn wsX2_readCommand (wsV RX2 37 RX2 yX2_readNumber wsX2_readNumber) := goodIn_app (goodIn_of _ (by decide +kernel)) ggX2_readCommand_X2_readNumber
theorem dX2_readCommand_0 : decode cX2_readCommand 0 = .ok (.aload_n 0, 1) := by decide +kernel
theorem dX2_readCommand_1 : decode cX2_readCommand 1 = .ok (.getfield 23, 3) := by decide +kernel
theorem dX2_readCommand_4 : decode cX2_readCommand 4 = .ok (.aload_n 0, 1) := by decide +kernel
theorem dX2_readCommand_5 : decode cX2_readCommand 5 = .ok (.getfield 19, 3) := by decide +kernel
theorem dX2_readCommand_8 : decode cX2_readCommand 8 = .ok (.if_icmp .lt 5, 3) := by decide +kernel
theorem dX2_readCommand_11 : decode cX2_readCommand 11 = .ok (.iconst 0, 1) := by decide +kernel
theorem dX2_readCommand_12 : decode cX2_readCommand 12 = .ok (.ireturn, 1) := by decide +kernel
theorem dX2_readCommand_13 : decode cX2_readCommand 13 = .ok (.aload_n 0, 1) := by decide +kernel
theorem dX2_readCommand_14 : decode cX2_readCommand 14 = .ok (.aload_n 0, 1) := by decide +kernel
theorem dX2_readCommand_15 : decode cX2_readCommand 15 = .ok (.getfield 9, 3) := by decide +kernel
theorem dX2_readCommand_18 : decode cX2_readCommand 18 = .ok (.aload_n 0, 1) := by decide +kernel
theorem dX2_readCommand_19 : decode cX2_readCommand 19 = .ok (.getfield 23, 3) := by decide +kernel
theorem dX2_readCommand_22 : decode cX2_readCommand 22 = .ok (.caload, 1) := by decide +kernel
theorem dX2_readCommand_23 : decode cX2_readCommand 23 = .ok (.putfield 30, 3) := by decide +kernel
theorem dX2_readCommand_26 : decode cX2_readCommand 26 = .ok (.aload_n 0, 1) := by decide +kernel
theorem dX2_readCommand_27 : decode cX2_readCommand 27 = .ok (.getfield 30, 3) := by decide +kernel
theorem dX2_readCommand_30 : decode cX2_readCommand 30 = .ok (.lookupswitch 160 #[(102, 50), (105, 66), (112, 86), (115, 121), (119, 50)], 50) := by decide +kernel
theorem dX2_readCommand_80 : decode cX2_readCommand 80 = .ok (.aload_n 0, 1) := by decide +kernel
theorem dX2_readCommand_81 : decode cX2_readCommand 81 = .ok (.dup, 1) := by decide +kernel
theorem dX2_readCommand_82 : decode cX2_readCommand 82 = .ok (.getfield 23, 3) := by decide +kernel
theorem dX2_readCommand_85 : decode cX2_readCommand 85 = .ok (.iconst 1, 1) := by decide +kernel
theorem dX2_readCommand_86 : decode cX2_readCommand 86 = .ok (.iadd, 1) := by decide +kernel
theorem dX2_readCommand_87 : decode cX2_readCommand 87 = .ok (.putfield 23, 3) := by decide +kernel
theorem dX2_readCommand_90 : decode cX2_readCommand 90 = .ok (.aload_n 0, 1) := by decide +kernel
theorem dX2_readCommand_91 : decode cX2_readCommand 91 = .ok (.iconst 0, 1) := by decide +kernel
theorem dX2_readCommand_92 : decode cX2_readCommand 92 = .ok (.invokevirtual 33, 3) := by decide +kernel
theorem dX2_readCommand_95 : decode cX2_readCommand 95 = .ok (.ireturn, 1) := by decide +kernel
theorem dX2_readCommand_96 : decode cX2_readCommand 96 = .ok (.aload_n 0, 1) := by decide +kernel
theorem dX2_readCommand_97 : decode cX2_readCommand 97 = .ok (.dup, 1) := by decide +kernel
theorem dX2_readCommand_98 : decode cX2_readCommand 98 = .ok (.getfield 23, 3) := by decide +kernel
theorem dX2_readCommand_101 : decode cX2_readCommand 101 = .ok (.iconst 1, 1) := by decide +kernel
theorem dX2_readCommand_102 : decode cX2_readCommand 102 = .ok (.iadd, 1) := by decide +kernel
theorem dX2_readCommand_103 : decode cX2_readCommand 103 = .ok (.putfield 23, 3) := by decide +kernel
theorem dX2_readCommand_106 : decode cX2_readCommand 106 = .ok (.aload_n 0, 1) := by decide +kernel
theorem dX2_readCommand_107 : decode cX2_readCommand 107 = .ok (.iconst 0, 1) := by decide +kernel
theorem dX2_readCommand_108 : decode cX2_readCommand 108 = .ok (.iconst 2, 1) := by decide +kernel
theorem dX2_readCommand_109 : decode cX2_readCommand 109 = .ok (.iconst 1, 1) := by decide +kernel
theorem dX2_readCommand_110 : decode cX2_readCommand 110 = .ok (.bipush 60, 2) := by decide +kernel
theorem dX2_readCommand_112 : decode cX2_readCommand 112 = .ok (.invokevirtual 37, 3) := by decide +kernel
theorem dX2_readCommand_115 : decode cX2_readCommand 115 = .ok (.ireturn, 1) := by decide +kernel
theorem dX2_readCommand_116 : decode cX2_readCommand 116 = .ok (.aload_n 0, 1) := by decide +kernel
theorem dX2_readCommand_117 : decode cX2_readCommand 117 = .ok (.dup, 1) := by decide +kernel
theorem dX2_readCommand_118 : decode cX2_readCommand 118 = .ok (.getfield 23, 3) := by decide +kernel
theorem dX2_readCommand_121 : decode cX2_readCommand 121 = .ok (.iconst 1, 1) := by decide +kernel
theorem dX2_readCommand_122 : decode cX2_readCommand 122 = .ok (.iadd, 1) := by decide +kernel
theorem dX2_readCommand_123 : decode cX2_readCommand 123 = .ok (.putfield 23, 3) := by decide +kernel
theorem dX2_readCommand_126 : decode cX2_readCommand 126 = .ok (.aload_n 0, 1) := by decide +kernel
theorem dX2_readCommand_127 : decode cX2_readCommand 127 = .ok (.iconst 0, 1) := by decide +kernel
theorem dX2_readCommand_128 : decode cX2_readCommand 128 = .ok (.iconst 1, 1) := by decide +kernel
theorem dX2_readCommand_129 : decode cX2_readCommand 129 = .ok (.iconst 0, 1) := by decide +kernel
theorem dX2_readCommand_130 : decode cX2_readCommand 130 = .ok (.iconst 2, 1) := by decide +kernel
theorem dX2_readCommand_131 : decode cX2_readCommand 131 = .ok (.invokevirtual 37, 3) := by decide +kernel
theorem dX2_readCommand_134 : decode cX2_readCommand 134 = .ok (.ifCond .eq 15, 3) := by decide +kernel
theorem dX2_readCommand_137 : decode cX2_readCommand 137 = .ok (.aload_n 0, 1) := by decide +kernel
theorem dX2_readCommand_138 : decode cX2_readCommand 138 = .ok (.iconst 1, 1) := by decide +kernel
theorem dX2_readCommand_139 : decode cX2_readCommand 139 = .ok (.invokevirtual 33, 3) := by decide +kernel
theorem dX2_readCommand_142 : decode cX2_readCommand 142 = .ok (.ifCond .eq 7, 3) := by decide +kernel
theorem dX2_readCommand_145 : decode cX2_readCommand 145 = .ok (.iconst 1, 1) := by decide +kernel
theorem dX2_readCommand_146 : decode cX2_readCommand 146 = .ok (.goto 4, 3) := by decide +kernel
theorem dX2_readCommand_149 : decode cX2_readCommand 149 = .ok (.iconst 0, 1) := by decide +kernel
theorem dX2_readCommand_150 : decode cX2_readCommand 150 = .ok (.ireturn, 1) := by decide +kernel
theorem dX2_readCommand_151 : decode cX2_readCommand 151 = .ok (.aload_n 0, 1) := by decide +kernel
theorem dX2_readCommand_152 : decode cX2_readCommand 152 = .ok (.dup, 1) := by decide +kernel
theorem dX2_readCommand_153 : decode cX2_readCommand 153 = .ok (.getfield 23, 3) := by decide +kernel
theorem dX2_readCommand_156 : decode cX2_readCommand 156 = .ok (.iconst 1, 1) := by decide +kernel
theorem dX2_readCommand_157 : decode cX2_readCommand 157 = .ok (.iadd, 1) := by decide +kernel
theorem dX2_readCommand_158 : decode cX2_readCommand 158 = .ok (.putfield 23, 3) := by decide +kernel
theorem dX2_readCommand_161 : decode cX2_readCommand 161 = .ok (.aload_n 0, 1) := by decide +kernel
theorem dX2_readCommand_162 : decode cX2_readCommand 162 = .ok (.iconst 0, 1) := by decide +kernel
theorem dX2_readCommand_163 : decode cX2_readCommand 163 = .ok (.iconst 1, 1) := by decide +kernel
theorem dX2_readCommand_164 : decode cX2_readCommand 164 = .ok (.iconst 0, 1) := by decide +kernel
theorem dX2_readCommand_165 : decode cX2_readCommand 165 = .ok (.iconst 5, 1) := by decide +kernel
theorem dX2_readCommand_166 : decode cX2_readCommand 166 = .ok (.invokevirtual 37, 3) := by decide +kernel
theorem dX2_readCommand_169 : decode cX2_readCommand 169 = .ok (.ifCond .eq 19, 3) := by decide +kernel
theorem dX2_readCommand_172 : decode cX2_readCommand 172 = .ok (.aload_n 0, 1) := by decide +kernel
theorem dX2_readCommand_173 : decode cX2_readCommand 173 = .ok (.iconst 1, 1) := by decide +kernel
theorem dX2_readCommand_174 : decode cX2_readCommand 174 = .ok (.iconst 2, 1) := by decide +kernel
theorem dX2_readCommand_175 : decode cX2_readCommand 175 = .ok (.iconst 0, 1) := by decide +kernel
theorem dX2_readCommand_176 : decode cX2_readCommand 176 = .ok (.bipush 99, 2) := by decide +kernel
theorem dX2_readCommand_178 : decode cX2_readCommand 178 = .ok (.invokevirtual 37, 3) := by decide +kernel
theorem dX2_readCommand_181 : decode cX2_readCommand 181 = .ok (.ifCond .eq 7, 3) := by decide +kernel
theorem dX2_readCommand_184 : decode cX2_readCommand 184 = .ok (.iconst 1, 1) := by decide +kernel
theorem dX2_readCommand_185 : decode cX2_readCommand 185 = .ok (.goto 4, 3) := by decide +kernel
theorem dX2_readCommand_188 : decode cX2_readCommand 188 = .ok (.iconst 0, 1) := by decide +kernel
theorem dX2_readCommand_189 : decode cX2_readCommand 189 = .ok (.ireturn, 1) := by decide +kernel
theorem dX2_readCommand_190 : decode cX2_readCommand 190 = .ok (.iconst 0, 1) := by decide +kernel
theorem dX2_readCommand_191 : decode cX2_readCommand 191 = .ok (.ireturn, 1) := by decide +kernel
set_option maxRecDepth 20000 in
theorem ggX2_readSpan_X2_readNumber : GoodIn wsX2_readSpan wsX2_readNumber := goodIn_r _ [5, 6, 7, 8, 9, 10, 11, 12, 13, 14] (by decide +kernel) (by decide +kernel)
set_option maxRecDepth 20000 in
theorem gX2_readSpan_X2_readNumber : GoodIn wsX2_readSpan (wsV RX2 37 RX2 yX2_readNumber wsX2_readNumber) := goodIn_app (goodIn_of _ (by decide +kernel)) ggX2_readSpan_X2_readNumber
theorem dX2_readSpan_0 : decode cX2_readSpan 0 = .ok (.aload_n 0, 1) := by decide +kernel
theorem dX2_readSpan_1 : decode cX2_readSpan 1 = .ok (.iload_n 1, 1) := by decide +kernel
theorem dX2_readSpan_2 : decode cX2_readSpan 2 = .ok (.iconst 3, 1) := by decide +kernel
theorem dX2_readSpan_3 : decode cX2_readSpan 3 = .ok (.iconst 0, 1) := by decide +kernel
theorem dX2_readSpan_4 : decode cX2_readSpan 4 = .ok (.sipush 255, 3) := by decide +kernel
theorem dX2_readSpan_7 : decode cX2_readSpan 7 = .ok (.invokevirtual 37, 3) := by decide +kernel
theorem dX2_readSpan_10 : decode cX2_readSpan 10 = .ok (.ifCond .eq 21, 3) := by decide +kernel
theorem dX2_readSpan_13 : decode cX2_readSpan 13 = .ok (.aload_n 0, 1) := by decide +kernel
theorem dX2_readSpan_14 : decode cX2_readSpan 14 = .ok (.iload_n 1, 1) := by decide +kernel
theorem dX2_readSpan_15 : decode cX2_readSpan 15 = .ok (.iconst 1, 1) := by decide +kernel
theorem dX2_readSpan_16 : decode cX2_readSpan 16 = .ok (.iadd, 1) := by decide +kernel
theorem dX2_readSpan_17 : decode cX2_readSpan 17 = .ok (.iconst 2, 1) := by decide +kernel
theorem dX2_readSpan_18 : decode cX2_readSpan 18 = .ok (.iconst 1, 1) := by decide +kernel
theorem dX2_readSpan_19 : decode cX2_readSpan 19 = .ok (.bipush 99, 2) := by decide +kernel
theorem dX2_readSpan_21 : decode cX2_readSpan 21 = .ok (.invokevirtual 37, 3) := by decide +kernel
theorem dX2_readSpan_24 : decode cX2_readSpan 24 = .ok (.ifCond .eq 7, 3) := by decide +kernel
theorem dX2_readSpan_27 : decode cX2_readSpan 27 = .ok (.iconst 1, 1) := by decide +kernel
theorem dX2_readSpan_28 : decode cX2_readSpan 28 = .ok (.goto 4, 3) := by decide +kernel
theorem dX2_readSpan_31 : decode cX2_readSpan 31 = .ok (.iconst 0, 1) := by decide +kernel
theorem dX2_readSpan_32 : decode cX2_readSpan 32 = .ok (.ireturn, 1) := by decide +kernel
theorem dX2_readNumber_0 : decode cX2_readNumber 0 = .ok (.iconst 1, 1) := by decide +kernel
theorem dX2_readNumber_1 : decode cX2_readNumber 1 = .ok (.istore 5, 2) := by decide +kernel
theorem dX2_readNumber_3 : decode cX2_readNumber 3 = .ok (.iconst 1, 1) := by decide +kernel
theorem dX2_readNumber_4 : decode cX2_readNumber 4 = .ok (.istore 6, 2) := by decide +kernel
theorem dX2_readNumber_6 : decode cX2_readNumber 6 = .ok (.iload 6, 2) := by decide +kernel
theorem dX2_readNumber_8 : decode cX2_readNumber 8 = .ok (.iload_n 2, 1) := by decide +kernel
theorem dX2_readNumber_9 : decode cX2_readNumber 9 = .ok (.if_icmp .ge 16, 3) := by decide +kernel
theorem dX2_readNumber_12 : decode cX2_readNumber 12 = .ok (.iload 5, 2) := by decide +kernel
theorem dX2_readNumber_14 : decode cX2_readNumber 14 = .ok (.bipush 10, 2) := by decide +kernel
theorem dX2_readNumber_16 : decode cX2_readNumber 16 = .ok (.imul, 1) := by decide +kernel
theorem dX2_readNumber_17 : decode cX2_readNumber 17 = .ok (.istore 5, 2) := by decide +kernel
theorem dX2_readNumber_19 : decode cX2_readNumber 19 = .ok (.iinc 6 1, 3) := by decide +kernel
theorem dX2_readNumber_22 : decode cX2_readNumber 22 = .ok (.goto (-16), 3) := by decide +kernel
theorem dX2_readNumber_25 : decode cX2_readNumber 25 = .ok (.iconst 0, 1) := by decide +kernel
theorem dX2_readNumber_26 : decode cX2_readNumber 26 = .ok (.istore 6, 2) := by decide +kernel
theorem dX2_readNumber_28 : decode cX2_readNumber 28 = .ok (.iconst 0, 1) := by decide +kernel
theorem dX2_readNumber_29 : decode cX2_readNumber 29 = .ok (.istore 7, 2) := by decide +kernel
theorem dX2_readNumber_31 : decode cX2_readNumber 31 = .ok (.iload 7, 2) := by decide +kernel
theorem dX2_readNumber_33 : decode cX2_readNumber 33 = .ok (.iload_n 2, 1) := by decide +kernel
theorem dX2_readNumber_34 : decode cX2_readNumber 34 = .ok (.if_icmp .ge 107, 3) := by decide +kernel
theorem dX2_readNumber_37 : decode cX2_readNumber 37 = .ok (.aload_n 0, 1) := by decide +kernel
theorem dX2_readNumber_38 : decode cX2_readNumber 38 = .ok (.getfield 23, 3) := by decide +kernel
theorem dX2_readNumber_41 : decode cX2_readNumber 41 = .ok (.aload_n 0, 1) := by decide +kernel
theorem dX2_readNumber_42 : decode cX2_readNumber 42 = .ok (.getfield 19, 3) := by decide +kernel
theorem dX2_readNumber_45 : decode cX2_readNumber 45 = .ok (.if_icmp .ge 31, 3) := by decide +kernel
theorem dX2_readNumber_48 : decode cX2_readNumber 48 = .ok (.aload_n 0, 1) := by decide +kernel
theorem dX2_readNumber_49 : decode cX2_readNumber 49 = .ok (.getfield 9, 3) := by decide +kernel
theorem dX2_readNumber_52 : decode cX2_readNumber 52 = .ok (.aload_n 0, 1) := by decide +kernel
theorem dX2_readNumber_53 : decode cX2_readNumber 53 = .ok (.getfield 23, 3) := by decide +kernel
theorem dX2_readNumber_56 : decode cX2_readNumber 56 = .ok (.caload, 1) := by decide +kernel
theorem dX2_readNumber_57 : decode cX2_readNumber 57 = .ok (.bipush 48, 2) := by decide +kernel
theorem dX2_readNumber_59 : decode cX2_readNumber 59 = .ok (.if_icmp .lt 17, 3) := by decide +kernel
theorem dX2_readNumber_62 : decode cX2_readNumber 62 = .ok (.aload_n 0, 1) := by decide +kernel
theorem dX2_readNumber_63 : decode cX2_readNumber 63 = .ok (.getfield 9, 3) := by decide +kernel
theorem dX2_readNumber_66 : decode cX2_readNumber 66 = .ok (.aload_n 0, 1) := by decide +kernel
theorem dX2_readNumber_67 : decode cX2_readNumber 67 = .ok (.getfield 23, 3) := by decide +kernel
theorem dX2_readNumber_70 : decode cX2_readNumber 70 = .ok (.caload, 1) := by decide +kernel
theorem dX2_readNumber_71 : decode cX2_readNumber 71 = .ok (.bipush 57, 2) := by decide +kernel
theorem dX2_readNumber_73 : decode cX2_readNumber 73 = .ok (.if_icmp .le 5, 3) := by decide +kernel
theorem dX2_readNumber_76 : decode cX2_readNumber 76 = .ok (.iconst 0, 1) := by decide +kernel
theorem dX2_readNumber_77 : decode cX2_readNumber 77 = .ok (.ireturn, 1) := by decide +kernel
theorem dX2_readNumber_78 : decode cX2_readNumber 78 = .ok (.iload 6, 2) := by decide +kernel
theorem dX2_readNumber_80 : decode cX2_readNumber 80 = .ok (.aload_n 0, 1) := by decide +kernel
theorem dX2_readNumber_81 : decode cX2_readNumber 81 = .ok (.getfield 9, 3) := by decide +kernel
theorem dX2_readNumber_84 : decode cX2_readNumber 84 = .ok (.aload_n 0, 1) := by decide +kernel
theorem dX2_readNumber_85 : decode cX2_readNumber 85 = .ok (.getfield 23, 3) := by decide +kernel
theorem dX2_readNumber_88 : decode cX2_readNumber 88 = .ok (.caload, 1) := by decide +kernel
theorem dX2_readNumber_89 : decode cX2_readNumber 89 = .ok (.bipush 48, 2) := by decide +kernel
theorem dX2_readNumber_91 : decode cX2_readNumber 91 = .ok (.isub, 1) := by decide +kernel
theorem dX2_readNumber_92 : decode cX2_readNumber 92 = .ok (.iload 5, 2) := by decide +kernel
theorem dX2_readNumber_94 : decode cX2_readNumber 94 = .ok (.imul, 1) := by decide +kernel
theorem dX2_readNumber_95 : decode cX2_readNumber 95 = .ok (.iadd, 1) := by decide +kernel
theorem dX2_readNumber_96 : decode cX2_readNumber 96 = .ok (.istore 6, 2) := by decide +kernel
theorem dX2_readNumber_98 : decode cX2_readNumber 98 = .ok (.iload 6, 2) := by decide +kernel
theorem dX2_readNumber_100 : decode cX2_readNumber 100 = .ok (.iload 4, 2) := by decide +kernel
theorem dX2_readNumber_102 : decode cX2_readNumber 102 = .ok (.if_icmp .gt 14, 3) := by decide +kernel
theorem dX2_readNumber_105 : decode cX2_readNumber 105 = .ok (.iload 6, 2) := by decide +kernel
theorem dX2_readNumber_107 : decode cX2_readNumber 107 = .ok (.iload 5, 2) := by decide +kernel
theorem dX2_readNumber_109 : decode cX2_readNumber 109 = .ok (.iadd, 1) := by decide +kernel
theorem dX2_readNumber_110 : decode cX2_readNumber 110 = .ok (.iconst 1, 1) := by decide +kernel
theorem dX2_readNumber_111 : decode cX2_readNumber 111 = .ok (.isub, 1) := by decide +kernel
theorem dX2_readNumber_112 : decode cX2_readNumber 112 = .ok (.iload_n 3, 1) := by decide +kernel
theorem dX2_readNumber_113 : decode cX2_readNumber 113 = .ok (.if_icmp .ge 5, 3) := by decide +kernel
theorem dX2_readNumber_116 : decode cX2_readNumber 116 = .ok (.iconst 0, 1) := by decide +kernel
theorem dX2_readNumber_117 : decode cX2_readNumber 117 = .ok (.ireturn, 1) := by decide +kernel
theorem dX2_readNumber_118 : decode cX2_readNumber 118 = .ok (.aload_n 0, 1) := by decide +kernel
theorem dX2_readNumber_119 : decode cX2_readNumber 119 = .ok (.dup, 1) := by decide +kernel
theorem dX2_readNumber_120 : decode cX2_readNumber 120 = .ok (.getfield 23, 3) := by decide +kernel
theorem dX2_readNumber_123 : decode cX2_readNumber 123 = .ok (.iconst 1, 1) := by decide +kernel
theorem dX2_readNumber_124 : decode cX2_readNumber 124 = .ok (.iadd, 1) := by decide +kernel
theorem dX2_readNumber_125 : decode cX2_readNumber 125 = .ok (.putfield 23, 3) := by decide +kernel
theorem dX2_readNumber_128 : decode cX2_readNumber 128 = .ok (.iload 5, 2) := by decide +kernel
theorem dX2_readNumber_130 : decode cX2_readNumber 130 = .ok (.bipush 10, 2) := by decide +kernel
theorem dX2_readNumber_132 : decode cX2_readNumber 132 = .ok (.idiv, 1) := by decide +kernel
theorem dX2_readNumber_133 : decode cX2_readNumber 133 = .ok (.istore 5, 2) := by decide +kernel
theorem dX2_readNumber_135 : decode cX2_readNumber 135 = .ok (.iinc 7 1, 3) := by decide +kernel
theorem dX2_readNumber_138 : decode cX2_readNumber 138 = .ok (.goto (-107), 3) := by decide +kernel
theorem dX2_readNumber_141 : decode cX2_readNumber 141 = .ok (.aload_n 0, 1) := by decide +kernel
theorem dX2_readNumber_142 : decode cX2_readNumber 142 = .ok (.getfield 15, 3) := by decide +kernel
theorem dX2_readNumber_145 : decode cX2_readNumber 145 = .ok (.iload_n 1, 1) := by decide +kernel
theorem dX2_readNumber_146 : decode cX2_readNumber 146 = .ok (.iload 6, 2) := by decide +kernel
theorem dX2_readNumber_148 : decode cX2_readNumber 148 = .ok (.iastore, 1) := by decide +kernel
theorem dX2_readNumber_149 : decode cX2_readNumber 149 = .ok (.iconst 1, 1) := by decide +kernel
theorem dX2_readNumber_150 : decode cX2_readNumber 150 = .ok (.ireturn, 1) := by decide +kernel
