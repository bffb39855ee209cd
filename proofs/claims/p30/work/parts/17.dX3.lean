set_option maxRecDepth 20000 in
theorem ggX3_init_X2_init : GoodIn wsX3_init wsX2_init := goodIn_r _ [21, 22, 2, 3, 23, 24, 25, 26, 59, 60, 61, 62, 63] (by decide +kernel) (by decide +kernel)
set_option maxRecDepth 20000 in
theorem gX3_init_X2_init_n9 : GoodIn wsX3_init (wsX2_init) := ggX3_init_X2_init
set_option maxRecDepth 20000 in
theorem ggX3_init_X0_init : GoodIn wsX3_init wsX0_init := goodIn_r _ [29, 30, 2, 3, 25, 31, 32, 33, 34, 35, 36, 37, 10, 38, 39, 40, 41, 42, 43, 44, 45, 46, 47, 48, 49, 50, 51, 70, 71, 72, 73, 74, 75, 76, 77, 78] (by decide +kernel) (by decide +kernel)
set_option maxRecDepth 20000 in
theorem gX3_init_X0_init : GoodIn wsX3_init (wsX0_init) := ggX3_init_X0_init
set_option maxRecDepth 20000 in
theorem ggX3_init_X1_init : GoodIn wsX3_init wsX1_init := goodIn_r _ [54, 55, 2, 3, 56, 57, 9, 10, 58, 28, 29, 30, 25, 31, 32, 33, 34, 35, 36, 37, 38, 39, 40, 41, 42, 43, 44, 45, 46, 47, 48, 49, 50, 51, 79, 80, 81, 70, 71, 72, 73, 74, 75, 76, 77, 78] (by decide +kernel) (by decide +kernel)
set_option maxRecDepth 20000 in
theorem gX3_init_X1_init : GoodIn wsX3_init (wsX1_init) := ggX3_init_X1_init
theorem dX3_init_0 : decode cX3_init 0 = .ok (.aload_n 0, 1) := by decide +kernel
theorem dX3_init_1 : decode cX3_init 1 = .ok (.invokespecial 1, 3) := by decide +kernel
theorem dX3_init_4 : decode cX3_init 4 = .ok (.aload_n 0, 1) := by decide +kernel
theorem dX3_init_5 : decode cX3_init 5 = .ok (.new 7, 3) := by decide +kernel
theorem dX3_init_8 : decode cX3_init 8 = .ok (.dup, 1) := by decide +kernel
theorem dX3_init_9 : decode cX3_init 9 = .ok (.invokespecial 9, 3) := by decide +kernel
theorem dX3_init_12 : decode cX3_init 12 = .ok (.putfield 10, 3) := by decide +kernel
theorem dX3_init_15 : decode cX3_init 15 = .ok (.aload_n 0, 1) := by decide +kernel
theorem dX3_init_16 : decode cX3_init 16 = .ok (.new 16, 3) := by decide +kernel
theorem dX3_init_19 : decode cX3_init 19 = .ok (.dup, 1) := by decide +kernel
theorem dX3_init_20 : decode cX3_init 20 = .ok (.invokespecial 18, 3) := by decide +kernel
theorem dX3_init_23 : decode cX3_init 23 = .ok (.putfield 19, 3) := by decide +kernel
theorem dX3_init_26 : decode cX3_init 26 = .ok (.aload_n 0, 1) := by decide +kernel
theorem dX3_init_27 : decode cX3_init 27 = .ok (.new 16, 3) := by decide +kernel
theorem dX3_init_30 : decode cX3_init 30 = .ok (.dup, 1) := by decide +kernel
theorem dX3_init_31 : decode cX3_init 31 = .ok (.invokespecial 18, 3) := by decide +kernel
theorem dX3_init_34 : decode cX3_init 34 = .ok (.putfield 23, 3) := by decide +kernel
theorem dX3_init_37 : decode cX3_init 37 = .ok (.aload_n 0, 1) := by decide +kernel
theorem dX3_init_38 : decode cX3_init 38 = .ok (.new 26, 3) := by decide +kernel
theorem dX3_init_41 : decode cX3_init 41 = .ok (.dup, 1) := by decide +kernel
theorem dX3_init_42 : decode cX3_init 42 = .ok (.invokespecial 28, 3) := by decide +kernel
theorem dX3_init_45 : decode cX3_init 45 = .ok (.putfield 29, 3) := by decide +kernel
theorem dX3_init_48 : decode cX3_init 48 = .ok (.aload_n 0, 1) := by decide +kernel
theorem dX3_init_49 : decode cX3_init 49 = .ok (.iconst 2, 1) := by decide +kernel
theorem dX3_init_50 : decode cX3_init 50 = .ok (.anewarray 16, 3) := by decide +kernel
theorem dX3_init_53 : decode cX3_init 53 = .ok (.putfield 33, 3) := by decide +kernel
theorem dX3_init_56 : decode cX3_init 56 = .ok (.iconst 0, 1) := by decide +kernel
theorem dX3_init_57 : decode cX3_init 57 = .ok (.istore_n 1, 1) := by decide +kernel
theorem dX3_init_58 : decode cX3_init 58 = .ok (.iload_n 1, 1) := by decide +kernel
theorem dX3_init_59 : decode cX3_init 59 = .ok (.iconst 2, 1) := by decide +kernel
theorem dX3_init_60 : decode cX3_init 60 = .ok (.if_icmp .ge 22, 3) := by decide +kernel
theorem dX3_init_63 : decode cX3_init 63 = .ok (.aload_n 0, 1) := by decide +kernel
theorem dX3_init_64 : decode cX3_init 64 = .ok (.getfield 33, 3) := by decide +kernel
theorem dX3_init_67 : decode cX3_init 67 = .ok (.iload_n 1, 1) := by decide +kernel
theorem dX3_init_68 : decode cX3_init 68 = .ok (.new 16, 3) := by decide +kernel
theorem dX3_init_71 : decode cX3_init 71 = .ok (.dup, 1) := by decide +kernel
theorem dX3_init_72 : decode cX3_init 72 = .ok (.invokespecial 18, 3) := by decide +kernel
theorem dX3_init_75 : decode cX3_init 75 = .ok (.aastore, 1) := by decide +kernel
theorem dX3_init_76 : decode cX3_init 76 = .ok (.iinc 1 1, 3) := by decide +kernel
theorem dX3_init_79 : decode cX3_init 79 = .ok (.goto (-21), 3) := by decide +kernel
theorem dX3_init_82 : decode cX3_init 82 = .ok (.aload_n 0, 1) := by decide +kernel
theorem dX3_init_83 : decode cX3_init 83 = .ok (.iconst 2, 1) := by decide +kernel
theorem dX3_init_84 : decode cX3_init 84 = .ok (.newarray .boolean, 2) := by decide +kernel
theorem dX3_init_86 : decode cX3_init 86 = .ok (.putfield 37, 3) := by decide +kernel
theorem dX3_init_89 : decode cX3_init 89 = .ok (.return_, 1) := by decide +kernel
set_option maxRecDepth 20000 in
theorem ggX3_append_X2_isFull : GoodIn wsX3_append wsX2_isFull := goodIn_r _ [10, 11, 23, 24, 25, 26, 27] (by decide +kernel) (by decide +kernel)
set_option maxRecDepth 20000 in
theorem gX3_append_X2_isFull : GoodIn wsX3_append (wsV RX3 48 RX2 yX2_isFull wsX2_isFull) := goodIn_app (goodIn_of _ (by decide +kernel)) ggX3_append_X2_isFull
set_option maxRecDepth 20000 in
theorem ggX3_append_X2_add : GoodIn wsX3_append wsX2_add := goodIn_r _ [15, 16, 11, 23, 24, 25, 26, 27] (by decide +kernel) (by decide +kernel)
set_option maxRecDepth 20000 in
theorem gX3_append_X2_add : GoodIn wsX3_append (wsV RX3 57 RX2 yX2_add wsX2_add) := goodIn_app (goodIn_of _ (by decide +kernel)) ggX3_append_X2_add
theorem dX3_append_0 : decode cX3_append 0 = .ok (.iload_n 1, 1) := by decide +kernel
theorem dX3_append_1 : decode cX3_append 1 = .ok (.ifCond .lt 10, 3) := by decide +kernel
theorem dX3_append_4 : decode cX3_append 4 = .ok (.iload_n 1, 1) := by decide +kernel
theorem dX3_append_5 : decode cX3_append 5 = .ok (.sipush 255, 3) := by decide +kernel
theorem dX3_append_8 : decode cX3_append 8 = .ok (.if_icmp .le 13, 3) := by decide +kernel
theorem dX3_append_11 : decode cX3_append 11 = .ok (.new 41, 3) := by decide +kernel
theorem dX3_append_14 : decode cX3_append 14 = .ok (.dup, 1) := by decide +kernel
theorem dX3_append_15 : decode cX3_append 15 = .ok (.ldc 43, 2) := by decide +kernel
theorem dX3_append_17 : decode cX3_append 17 = .ok (.invokespecial 45, 3) := by decide +kernel
theorem dX3_append_20 : decode cX3_append 20 = .ok (.athrow, 1) := by decide +kernel
theorem dX3_append_21 : decode cX3_append 21 = .ok (.aload_n 0, 1) := by decide +kernel
theorem dX3_append_22 : decode cX3_append 22 = .ok (.getfield 10, 3) := by decide +kernel
theorem dX3_append_25 : decode cX3_append 25 = .ok (.invokevirtual 48, 3) := by decide +kernel
theorem dX3_append_28 : decode cX3_append 28 = .ok (.ifCond .eq 13, 3) := by decide +kernel
theorem dX3_append_31 : decode cX3_append 31 = .ok (.new 52, 3) := by decide +kernel
theorem dX3_append_34 : decode cX3_append 34 = .ok (.dup, 1) := by decide +kernel
theorem dX3_append_35 : decode cX3_append 35 = .ok (.ldc 54, 2) := by decide +kernel
theorem dX3_append_37 : decode cX3_append 37 = .ok (.invokespecial 56, 3) := by decide +kernel
theorem dX3_append_40 : decode cX3_append 40 = .ok (.athrow, 1) := by decide +kernel
theorem dX3_append_41 : decode cX3_append 41 = .ok (.aload_n 0, 1) := by decide +kernel
theorem dX3_append_42 : decode cX3_append 42 = .ok (.getfield 10, 3) := by decide +kernel
theorem dX3_append_45 : decode cX3_append 45 = .ok (.iload_n 1, 1) := by decide +kernel
theorem dX3_append_46 : decode cX3_append 46 = .ok (.i2c, 1) := by decide +kernel
theorem dX3_append_47 : decode cX3_append 47 = .ok (.invokevirtual 57, 3) := by decide +kernel
theorem dX3_append_50 : decode cX3_append 50 = .ok (.ireturn, 1) := by decide +kernel
set_option maxRecDepth 20000 in
theorem ggX3_load_X2_firstError : GoodIn wsX3_load wsX2_firstError := goodIn_r _ [11, 12, 13, 14, 15, 16, 17, 10, 18, 19, 20, 21, 22, 23, 24, 25, 26, 27, 28, 192, 193, 194, 195, 196] (by decide +kernel) (by decide +kernel)
set_option maxRecDepth 20000 in
theorem gX3_load_X2_firstError : GoodIn wsX3_load (wsV RX3 65 RX2 yX2_firstError wsX2_firstError) := goodIn_app (goodIn_of _ (by decide +kernel)) ggX3_load_X2_firstError
set_option maxRecDepth 20000 in
theorem ggX3_load_X0_makeNew : GoodIn wsX3_load wsX0_makeNew := goodIn_r _ [33, 34, 35, 36, 37, 38, 39, 40, 41, 42, 43, 44, 45, 46, 47, 48, 49, 50, 197, 198, 199, 200, 201, 202, 203, 204, 205] (by decide +kernel) (by decide +kernel)
set_option maxRecDepth 20000 in
theorem gX3_load_X0_makeNew : GoodIn wsX3_load (wsV RX3 70 RX0 yX0_makeNew wsX0_makeNew) := goodIn_app (goodIn_of _ (by decide +kernel)) ggX3_load_X0_makeNew
set_option maxRecDepth 20000 in
theorem ggX3_load_X1_forget : GoodIn wsX3_load wsX1_forget := goodIn_r _ [55, 56, 206, 207, 208] (by decide +kernel) (by decide +kernel)
set_option maxRecDepth 20000 in
theorem gX3_load_X1_forget : GoodIn wsX3_load (wsV RX3 73 RX1 yX1_forget wsX1_forget) := goodIn_app (goodIn_of _ (by decide +kernel)) ggX3_load_X1_forget
set_option maxRecDepth 20000 in
theorem ggX3_load_X2_beginCommands : GoodIn wsX3_load wsX2_beginCommands := goodIn_r _ [60, 14, 192, 193, 194, 195, 196] (by decide +kernel) (by decide +kernel)
set_option maxRecDepth 20000 in
theorem gX3_load_X2_beginCommands : GoodIn wsX3_load (wsV RX3 76 RX2 yX2_beginCommands wsX2_beginCommands) := goodIn_app (goodIn_of _ (by decide +kernel)) ggX3_load_X2_beginCommands
set_option maxRecDepth 20000 in
theorem ggX3_load_X2_readCommand : GoodIn wsX3_load wsX2_readCommand := goodIn_r _ [18, 14, 12, 13, 19, 20, 21, 22, 10, 23, 24, 25, 26, 27, 28, 192, 193, 194, 195, 196] (by decide +kernel) (by decide +kernel)
set_option maxRecDepth 20000 in
theorem gX3_load_X2_readCommand : GoodIn wsX3_load (wsV RX3 79 RX2 yX2_readCommand wsX2_readCommand) := goodIn_app (goodIn_of _ (by decide +kernel)) ggX3_load_X2_readCommand
set_option maxRecDepth 20000 in
theorem ggX3_load_X3_doTextCommand : GoodIn wsX3_load wsX3_doTextCommand := goodIn_r _ [66, 3, 4, 67, 68, 69, 10, 70, 28, 71, 72, 73, 74, 19, 75, 76, 65, 77, 78, 79, 80, 81, 82, 83, 84, 85, 86, 87, 88, 89, 32, 90, 34, 43, 91, 92, 93, 94, 46, 95, 96, 97, 98, 99, 100, 101, 102, 103, 104, 105, 106, 107, 108, 109, 110, 111, 112, 113, 42, 114, 115, 116, 117, 45, 118, 119, 120, 121, 37, 122, 123, 124, 125, 126, 127, 128, 129, 130, 131, 132, 133, 134, 135, 136, 137, 138, 139, 140, 141, 142, 143, 144, 145, 36, 35, 146, 147, 148, 149, 150, 151, 152, 153, 154, 155, 156, 157, 158, 159, 160, 161, 44, 162, 163, 164, 165, 166, 167, 168, 169, 170, 171, 172, 173, 174, 175, 176, 177, 178, 179, 180, 181, 182, 183, 184, 185, 186, 187, 188, 189, 190, 191, 192, 193, 194, 195, 196, 197, 198, 199, 200, 201, 202, 203, 204, 205] (by decide +kernel) (by decide +kernel)
set_option maxRecDepth 20000 in
theorem gX3_load_X3_doTextCommand : GoodIn wsX3_load (wsV RX3 82 RX3 yX3_doTextCommand wsX3_doTextCommand) := goodIn_app (goodIn_of _ (by decide +kernel)) ggX3_load_X3_doTextCommand
theorem dX3_load_0 : decode cX3_load 0 = .ok (.aload_n 0, 1) := by decide +kernel
theorem dX3_load_1 : decode cX3_load 1 = .ok (.getfield 10, 3) := by decide +kernel
theorem dX3_load_4 : decode cX3_load 4 = .ok (.invokevirtual 65, 3) := by decide +kernel
theorem dX3_load_7 : decode cX3_load 7 = .ok (.iconst (-1), 1) := by decide +kernel
theorem dX3_load_8 : decode cX3_load 8 = .ok (.if_icmp .eq 13, 3) := by decide +kernel
theorem dX3_load_11 : decode cX3_load 11 = .ok (.new 52, 3) := by decide +kernel
theorem dX3_load_14 : decode cX3_load 14 = .ok (.dup, 1) := by decide +kernel
theorem dX3_load_15 : decode cX3_load 15 = .ok (.ldc 68, 2) := by decide +kernel
theorem dX3_load_17 : decode cX3_load 17 = .ok (.invokespecial 56, 3) := by decide +kernel
theorem dX3_load_20 : decode cX3_load 20 = .ok (.athrow, 1) := by decide +kernel
theorem dX3_load_21 : decode cX3_load 21 = .ok (.aload_n 0, 1) := by decide +kernel
theorem dX3_load_22 : decode cX3_load 22 = .ok (.getfield 19, 3) := by decide +kernel
theorem dX3_load_25 : decode cX3_load 25 = .ok (.invokevirtual 70, 3) := by decide +kernel
theorem dX3_load_28 : decode cX3_load 28 = .ok (.aload_n 0, 1) := by decide +kernel
theorem dX3_load_29 : decode cX3_load 29 = .ok (.getfield 29, 3) := by decide +kernel
theorem dX3_load_32 : decode cX3_load 32 = .ok (.invokevirtual 73, 3) := by decide +kernel
theorem dX3_load_35 : decode cX3_load 35 = .ok (.iconst 0, 1) := by decide +kernel
theorem dX3_load_36 : decode cX3_load 36 = .ok (.istore_n 1, 1) := by decide +kernel
theorem dX3_load_37 : decode cX3_load 37 = .ok (.iload_n 1, 1) := by decide +kernel
theorem dX3_load_38 : decode cX3_load 38 = .ok (.iconst 2, 1) := by decide +kernel
theorem dX3_load_39 : decode cX3_load 39 = .ok (.if_icmp .ge 16, 3) := by decide +kernel
theorem dX3_load_42 : decode cX3_load 42 = .ok (.aload_n 0, 1) := by decide +kernel
theorem dX3_load_43 : decode cX3_load 43 = .ok (.getfield 37, 3) := by decide +kernel
theorem dX3_load_46 : decode cX3_load 46 = .ok (.iload_n 1, 1) := by decide +kernel
theorem dX3_load_47 : decode cX3_load 47 = .ok (.iconst 0, 1) := by decide +kernel
theorem dX3_load_48 : decode cX3_load 48 = .ok (.bastore, 1) := by decide +kernel
theorem dX3_load_49 : decode cX3_load 49 = .ok (.iinc 1 1, 3) := by decide +kernel
theorem dX3_load_52 : decode cX3_load 52 = .ok (.goto (-15), 3) := by decide +kernel
theorem dX3_load_55 : decode cX3_load 55 = .ok (.aload_n 0, 1) := by decide +kernel
theorem dX3_load_56 : decode cX3_load 56 = .ok (.getfield 10, 3) := by decide +kernel
theorem dX3_load_59 : decode cX3_load 59 = .ok (.invokevirtual 76, 3) := by decide +kernel
theorem dX3_load_62 : decode cX3_load 62 = .ok (.iconst 0, 1) := by decide +kernel
theorem dX3_load_63 : decode cX3_load 63 = .ok (.istore_n 1, 1) := by decide +kernel
theorem dX3_load_64 : decode cX3_load 64 = .ok (.iconst 0, 1) := by decide +kernel
theorem dX3_load_65 : decode cX3_load 65 = .ok (.istore_n 2, 1) := by decide +kernel
theorem dX3_load_66 : decode cX3_load 66 = .ok (.iload_n 2, 1) := by decide +kernel
theorem dX3_load_67 : decode cX3_load 67 = .ok (.bipush 120, 2) := by decide +kernel
theorem dX3_load_69 : decode cX3_load 69 = .ok (.if_icmp .ge 29, 3) := by decide +kernel
theorem dX3_load_72 : decode cX3_load 72 = .ok (.aload_n 0, 1) := by decide +kernel
theorem dX3_load_73 : decode cX3_load 73 = .ok (.getfield 10, 3) := by decide +kernel
theorem dX3_load_76 : decode cX3_load 76 = .ok (.invokevirtual 79, 3) := by decide +kernel
theorem dX3_load_79 : decode cX3_load 79 = .ok (.ifCond .eq 19, 3) := by decide +kernel
theorem dX3_load_82 : decode cX3_load 82 = .ok (.aload_n 0, 1) := by decide +kernel
theorem dX3_load_83 : decode cX3_load 83 = .ok (.invokevirtual 82, 3) := by decide +kernel
theorem dX3_load_86 : decode cX3_load 86 = .ok (.ifCond .ne 6, 3) := by decide +kernel
theorem dX3_load_89 : decode cX3_load 89 = .ok (.iinc 1 1, 3) := by decide +kernel
theorem dX3_load_92 : decode cX3_load 92 = .ok (.iinc 2 1, 3) := by decide +kernel
theorem dX3_load_95 : decode cX3_load 95 = .ok (.goto (-29), 3) := by decide +kernel
theorem dX3_load_98 : decode cX3_load 98 = .ok (.iload_n 1, 1) := by decide +kernel
theorem dX3_load_99 : decode cX3_load 99 = .ok (.ireturn, 1) := by decide +kernel
set_option maxRecDepth 20000 in
theorem ggX3_doTextCommand_X2_number : GoodIn wsX3_doTextCommand wsX2_number := goodIn_r _ [7, 8, 142, 143, 144, 145, 146] (by decide +kernel) (by decide +kernel)
set_option maxRecDepth 20000 in
theorem gX3_doTextCommand_X2_number : GoodIn wsX3_doTextCommand (wsV RX3 85 RX2 yX2_number wsX2_number) := goodIn_app (goodIn_of _ (by decide +kernel)) ggX3_doTextCommand_X2_number
set_option maxRecDepth 20000 in
theorem ggX3_doTextCommand_X2_letter : GoodIn wsX3_doTextCommand wsX2_letter := goodIn_r _ [12, 13, 142, 143, 144, 145, 146] (by decide +kernel) (by decide +kernel)
set_option maxRecDepth 20000 in
theorem gX3_doTextCommand_X2_letter : GoodIn wsX3_doTextCommand (wsV RX3 89 RX2 yX2_letter wsX2_letter) := goodIn_app (goodIn_of _ (by decide +kernel)) ggX3_doTextCommand_X2_letter
set_option maxRecDepth 20000 in
theorem ggX3_doTextCommand_X3_writeIfAllowed : GoodIn wsX3_doTextCommand wsX3_writeIfAllowed := goodIn_r _ [17, 18, 19, 16, 20, 21, 22, 23, 24, 25, 26, 27, 28, 29, 30, 31, 32, 33, 34, 35, 36, 37, 38, 39, 40, 41, 42, 43, 44, 45, 46, 147, 148, 149, 150, 151, 152, 153, 154, 155] (by decide +kernel) (by decide +kernel)
set_option maxRecDepth 20000 in
theorem gX3_doTextCommand_X3_writeIfAllowed : GoodIn wsX3_doTextCommand (va_wsS RX3 92 yX3_writeIfAllowed wsX3_writeIfAllowed) := goodIn_app (goodIn_of _ (by decide +kernel)) ggX3_doTextCommand_X3_writeIfAllowed
set_option maxRecDepth 20000 in
theorem ggX3_doTextCommand_X3_freeIfAllowed : GoodIn wsX3_doTextCommand wsX3_freeIfAllowed := goodIn_r _ [49, 18, 19, 16, 20, 21, 22, 23, 24, 25, 26, 50, 51, 52, 30, 53, 32, 33, 54, 55, 56, 57, 58, 34, 35, 36, 37, 38, 39, 40, 41, 42, 43, 44, 45, 46, 147, 148, 149, 150, 151, 152, 153, 154, 155] (by decide +kernel) (by decide +kernel)
set_option maxRecDepth 20000 in
theorem gX3_doTextCommand_X3_freeIfAllowed : GoodIn wsX3_doTextCommand (va_wsS RX3 96 yX3_freeIfAllowed wsX3_freeIfAllowed) := goodIn_app (goodIn_of _ (by decide +kernel)) ggX3_doTextCommand_X3_freeIfAllowed
set_option maxRecDepth 20000 in
theorem ggX3_doTextCommand_X0_passTicks : GoodIn wsX3_doTextCommand wsX0_passTicks := goodIn_r _ [62, 63, 64, 65, 66, 30, 67, 68, 58, 33, 69, 70, 71, 72, 73, 74, 75, 76, 32, 77, 78, 79, 80, 81, 82, 83, 84, 85, 86, 87, 88, 89, 90, 91, 92, 93, 94, 95, 96, 97, 98, 99, 100, 101, 102, 103, 104, 105, 106, 107, 108, 109, 110, 111, 34, 35, 36, 37, 38, 39, 40, 41, 42, 43, 44, 45, 46, 147, 148, 149, 150, 151, 152, 153, 154, 155] (by decide +kernel) (by decide +kernel)
set_option maxRecDepth 20000 in
theorem gX3_doTextCommand_X0_passTicks : GoodIn wsX3_doTextCommand (wsV RX3 99 RX0 yX0_passTicks wsX0_passTicks) := goodIn_app (goodIn_of _ (by decide +kernel)) ggX3_doTextCommand_X0_passTicks
set_option maxRecDepth 20000 in
theorem ggX3_doTextCommand_X3_pinIfAllowed : GoodIn wsX3_doTextCommand wsX3_pinIfAllowed := goodIn_r _ [114, 115, 116, 16, 117, 18, 19, 20, 21, 22, 23, 24, 25, 26, 118, 119, 120, 30, 121, 94, 93, 147, 148, 149, 150, 151, 152, 153, 154, 155] (by decide +kernel) (by decide +kernel)
set_option maxRecDepth 20000 in
theorem gX3_doTextCommand_X3_pinIfAllowed : GoodIn wsX3_doTextCommand (va_wsS RX3 102 yX3_pinIfAllowed wsX3_pinIfAllowed) := goodIn_app (goodIn_of _ (by decide +kernel)) ggX3_doTextCommand_X3_pinIfAllowed
set_option maxRecDepth 20000 in
theorem ggX3_doTextCommand_X3_setIfAllowed : GoodIn wsX3_doTextCommand wsX3_setIfAllowed := goodIn_r _ [124, 125, 126, 16, 127, 128, 129, 130, 131, 132, 133, 134, 30, 135, 68, 147, 148, 149, 150, 151, 152, 153, 154, 155] (by decide +kernel) (by decide +kernel)
set_option maxRecDepth 20000 in
theorem gX3_doTextCommand_X3_setIfAllowed : GoodIn wsX3_doTextCommand (va_wsS RX3 106 yX3_setIfAllowed wsX3_setIfAllowed) := goodIn_app (goodIn_of _ (by decide +kernel)) ggX3_doTextCommand_X3_setIfAllowed
theorem dX3_doTextCommand_0 : decode cX3_doTextCommand 0 = .ok (.aload_n 0, 1) := by decide +kernel
theorem dX3_doTextCommand_1 : decode cX3_doTextCommand 1 = .ok (.getfield 10, 3) := by decide +kernel
theorem dX3_doTextCommand_4 : decode cX3_doTextCommand 4 = .ok (.iconst 0, 1) := by decide +kernel
theorem dX3_doTextCommand_5 : decode cX3_doTextCommand 5 = .ok (.invokevirtual 85, 3) := by decide +kernel
theorem dX3_doTextCommand_8 : decode cX3_doTextCommand 8 = .ok (.istore_n 1, 1) := by decide +kernel
theorem dX3_doTextCommand_9 : decode cX3_doTextCommand 9 = .ok (.aload_n 0, 1) := by decide +kernel
theorem dX3_doTextCommand_10 : decode cX3_doTextCommand 10 = .ok (.getfield 10, 3) := by decide +kernel
theorem dX3_doTextCommand_13 : decode cX3_doTextCommand 13 = .ok (.iconst 1, 1) := by decide +kernel
theorem dX3_doTextCommand_14 : decode cX3_doTextCommand 14 = .ok (.invokevirtual 85, 3) := by decide +kernel
theorem dX3_doTextCommand_17 : decode cX3_doTextCommand 17 = .ok (.istore_n 2, 1) := by decide +kernel
theorem dX3_doTextCommand_18 : decode cX3_doTextCommand 18 = .ok (.aload_n 0, 1) := by decide +kernel
theorem dX3_doTextCommand_19 : decode cX3_doTextCommand 19 = .ok (.getfield 10, 3) := by decide +kernel
theorem dX3_doTextCommand_22 : decode cX3_doTextCommand 22 = .ok (.invokevirtual 89, 3) := by decide +kernel
theorem dX3_doTextCommand_25 : decode cX3_doTextCommand 25 = .ok (.lookupswitch 92 #[(102, 53), (105, 63), (112, 74), (119, 43)], 43) := by decide +kernel
theorem dX3_doTextCommand_68 : decode cX3_doTextCommand 68 = .ok (.iload_n 1, 1) := by decide +kernel
theorem dX3_doTextCommand_69 : decode cX3_doTextCommand 69 = .ok (.iload_n 2, 1) := by decide +kernel
theorem dX3_doTextCommand_70 : decode cX3_doTextCommand 70 = .ok (.aload_n 0, 1) := by decide +kernel
theorem dX3_doTextCommand_71 : decode cX3_doTextCommand 71 = .ok (.getfield 19, 3) := by decide +kernel
theorem dX3_doTextCommand_74 : decode cX3_doTextCommand 74 = .ok (.invokestatic 92, 3) := by decide +kernel
theorem dX3_doTextCommand_77 : decode cX3_doTextCommand 77 = .ok (.ireturn, 1) := by decide +kernel
theorem dX3_doTextCommand_78 : decode cX3_doTextCommand 78 = .ok (.iload_n 1, 1) := by decide +kernel
theorem dX3_doTextCommand_79 : decode cX3_doTextCommand 79 = .ok (.iload_n 2, 1) := by decide +kernel
theorem dX3_doTextCommand_80 : decode cX3_doTextCommand 80 = .ok (.aload_n 0, 1) := by decide +kernel
theorem dX3_doTextCommand_81 : decode cX3_doTextCommand 81 = .ok (.getfield 19, 3) := by decide +kernel
theorem dX3_doTextCommand_84 : decode cX3_doTextCommand 84 = .ok (.invokestatic 96, 3) := by decide +kernel
theorem dX3_doTextCommand_87 : decode cX3_doTextCommand 87 = .ok (.ireturn, 1) := by decide +kernel
theorem dX3_doTextCommand_88 : decode cX3_doTextCommand 88 = .ok (.aload_n 0, 1) := by decide +kernel
theorem dX3_doTextCommand_89 : decode cX3_doTextCommand 89 = .ok (.getfield 19, 3) := by decide +kernel
theorem dX3_doTextCommand_92 : decode cX3_doTextCommand 92 = .ok (.iload_n 1, 1) := by decide +kernel
theorem dX3_doTextCommand_93 : decode cX3_doTextCommand 93 = .ok (.invokevirtual 99, 3) := by decide +kernel
theorem dX3_doTextCommand_96 : decode cX3_doTextCommand 96 = .ok (.pop, 1) := by decide +kernel
theorem dX3_doTextCommand_97 : decode cX3_doTextCommand 97 = .ok (.iconst 1, 1) := by decide +kernel
theorem dX3_doTextCommand_98 : decode cX3_doTextCommand 98 = .ok (.ireturn, 1) := by decide +kernel
theorem dX3_doTextCommand_99 : decode cX3_doTextCommand 99 = .ok (.iload_n 1, 1) := by decide +kernel
theorem dX3_doTextCommand_100 : decode cX3_doTextCommand 100 = .ok (.iload_n 2, 1) := by decide +kernel
theorem dX3_doTextCommand_101 : decode cX3_doTextCommand 101 = .ok (.aload_n 0, 1) := by decide +kernel
theorem dX3_doTextCommand_102 : decode cX3_doTextCommand 102 = .ok (.getfield 10, 3) := by decide +kernel
theorem dX3_doTextCommand_105 : decode cX3_doTextCommand 105 = .ok (.iconst 2, 1) := by decide +kernel
theorem dX3_doTextCommand_106 : decode cX3_doTextCommand 106 = .ok (.invokevirtual 85, 3) := by decide +kernel
theorem dX3_doTextCommand_109 : decode cX3_doTextCommand 109 = .ok (.aload_n 0, 1) := by decide +kernel
theorem dX3_doTextCommand_110 : decode cX3_doTextCommand 110 = .ok (.getfield 19, 3) := by decide +kernel
theorem dX3_doTextCommand_113 : decode cX3_doTextCommand 113 = .ok (.invokestatic 102, 3) := by decide +kernel
theorem dX3_doTextCommand_116 : decode cX3_doTextCommand 116 = .ok (.ireturn, 1) := by decide +kernel
theorem dX3_doTextCommand_117 : decode cX3_doTextCommand 117 = .ok (.iload_n 1, 1) := by decide +kernel
theorem dX3_doTextCommand_118 : decode cX3_doTextCommand 118 = .ok (.iload_n 2, 1) := by decide +kernel
theorem dX3_doTextCommand_119 : decode cX3_doTextCommand 119 = .ok (.aload_n 0, 1) := by decide +kernel
theorem dX3_doTextCommand_120 : decode cX3_doTextCommand 120 = .ok (.getfield 19, 3) := by decide +kernel
theorem dX3_doTextCommand_123 : decode cX3_doTextCommand 123 = .ok (.invokestatic 106, 3) := by decide +kernel
theorem dX3_doTextCommand_126 : decode cX3_doTextCommand 126 = .ok (.ireturn, 1) := by decide +kernel
set_option maxRecDepth 20000 in
theorem ggX3_about_X0_count : GoodIn wsX3_about wsX0_count := goodIn_r _ [8, 9, 63, 64, 65, 66, 67, 68, 69, 70, 71] (by decide +kernel) (by decide +kernel)
set_option maxRecDepth 20000 in
theorem gX3_about_X0_count : GoodIn wsX3_about (wsV RX3 109 RX0 yX0_count wsX0_count) := goodIn_app (goodIn_of _ (by decide +kernel)) ggX3_about_X0_count
set_option maxRecDepth 20000 in
theorem ggX3_about_X0_countRanges : GoodIn wsX3_about wsX0_countRanges := goodIn_r _ [13, 14, 15, 16, 7, 17, 9, 63, 64, 65, 66, 67, 68, 69, 70, 71] (by decide +kernel) (by decide +kernel)
set_option maxRecDepth 20000 in
theorem gX3_about_X0_countRanges : GoodIn wsX3_about (wsV RX3 112 RX0 yX0_countRanges wsX0_countRanges) := goodIn_app (goodIn_of _ (by decide +kernel)) ggX3_about_X0_countRanges
set_option maxRecDepth 20000 in
theorem ggX3_about_X0_countQueued : GoodIn wsX3_about wsX0_countQueued := goodIn_r _ [21, 9, 63, 64, 65, 66, 67, 68, 69, 70, 71] (by decide +kernel) (by decide +kernel)
set_option maxRecDepth 20000 in
theorem gX3_about_X0_countQueued : GoodIn wsX3_about (wsV RX3 115 RX0 yX0_countQueued wsX0_countQueued) := goodIn_app (goodIn_of _ (by decide +kernel)) ggX3_about_X0_countQueued
set_option maxRecDepth 20000 in
theorem ggX3_about_X0_time : GoodIn wsX3_about wsX0_time := goodIn_r _ [25, 26, 63, 64, 65, 66, 67, 68, 69, 70, 71] (by decide +kernel) (by decide +kernel)
set_option maxRecDepth 20000 in
theorem gX3_about_X0_time : GoodIn wsX3_about (wsV RX3 118 RX0 yX0_time wsX0_time) := goodIn_app (goodIn_of _ (by decide +kernel)) ggX3_about_X0_time
set_option maxRecDepth 20000 in
theorem ggX3_about_X0_quietTicks : GoodIn wsX3_about wsX0_quietTicks := goodIn_r _ [30, 31, 63, 64, 65, 66, 67, 68, 69, 70, 71] (by decide +kernel) (by decide +kernel)
set_option maxRecDepth 20000 in
theorem gX3_about_X0_quietTicks : GoodIn wsX3_about (wsV RX3 121 RX0 yX0_quietTicks wsX0_quietTicks) := goodIn_app (goodIn_of _ (by decide +kernel)) ggX3_about_X0_quietTicks
set_option maxRecDepth 20000 in
theorem ggX3_about_X0_commands : GoodIn wsX3_about wsX0_commands := goodIn_r _ [35, 36, 63, 64, 65, 66, 67, 68, 69, 70, 71] (by decide +kernel) (by decide +kernel)
set_option maxRecDepth 20000 in
theorem gX3_about_X0_commands : GoodIn wsX3_about (wsV RX3 124 RX0 yX0_commands wsX0_commands) := goodIn_app (goodIn_of _ (by decide +kernel)) ggX3_about_X0_commands
set_option maxRecDepth 20000 in
theorem ggX3_about_X0_discarded : GoodIn wsX3_about wsX0_discarded := goodIn_r _ [40, 41, 63, 64, 65, 66, 67, 68, 69, 70, 71] (by decide +kernel) (by decide +kernel)
set_option maxRecDepth 20000 in
theorem gX3_about_X0_discarded : GoodIn wsX3_about (wsV RX3 127 RX0 yX0_discarded wsX0_discarded) := goodIn_app (goodIn_of _ (by decide +kernel)) ggX3_about_X0_discarded
set_option maxRecDepth 20000 in
theorem ggX3_about_X0_dropped : GoodIn wsX3_about wsX0_dropped := goodIn_r _ [45, 46, 63, 64, 65, 66, 67, 68, 69, 70, 71] (by decide +kernel) (by decide +kernel)
set_option maxRecDepth 20000 in
theorem gX3_about_X0_dropped : GoodIn wsX3_about (wsV RX3 130 RX0 yX0_dropped wsX0_dropped) := goodIn_app (goodIn_of _ (by decide +kernel)) ggX3_about_X0_dropped
set_option maxRecDepth 20000 in
theorem ggX3_about_X0_countPinned : GoodIn wsX3_about wsX0_countPinned := goodIn_r _ [50, 51, 52, 53, 7, 54, 55, 56, 63, 64, 65, 66, 67, 68, 69, 70, 71] (by decide +kernel) (by decide +kernel)
set_option maxRecDepth 20000 in
theorem gX3_about_X0_countPinned : GoodIn wsX3_about (wsV RX3 133 RX0 yX0_countPinned wsX0_countPinned) := goodIn_app (goodIn_of _ (by decide +kernel)) ggX3_about_X0_countPinned
theorem dX3_about_0 : decode cX3_about 0 = .ok (.iload_n 1, 1) := by decide +kernel
theorem dX3_about_1 : decode cX3_about 1 = .ok (.tableswitch 156 0 10 #[59, 69, 82, 90, 98, 106, 114, 122, 130, 138, 146], 59) := by decide +kernel
theorem dX3_about_60 : decode cX3_about 60 = .ok (.aload_n 0, 1) := by decide +kernel
theorem dX3_about_61 : decode cX3_about 61 = .ok (.getfield 19, 3) := by decide +kernel
theorem dX3_about_64 : decode cX3_about 64 = .ok (.bipush (-2), 2) := by decide +kernel
theorem dX3_about_66 : decode cX3_about 66 = .ok (.invokevirtual 109, 3) := by decide +kernel
theorem dX3_about_69 : decode cX3_about 69 = .ok (.ireturn, 1) := by decide +kernel
theorem dX3_about_70 : decode cX3_about 70 = .ok (.sipush 256, 3) := by decide +kernel
theorem dX3_about_73 : decode cX3_about 73 = .ok (.aload_n 0, 1) := by decide +kernel
theorem dX3_about_74 : decode cX3_about 74 = .ok (.getfield 19, 3) := by decide +kernel
theorem dX3_about_77 : decode cX3_about 77 = .ok (.iconst (-1), 1) := by decide +kernel
theorem dX3_about_78 : decode cX3_about 78 = .ok (.invokevirtual 109, 3) := by decide +kernel
theorem dX3_about_81 : decode cX3_about 81 = .ok (.isub, 1) := by decide +kernel
theorem dX3_about_82 : decode cX3_about 82 = .ok (.ireturn, 1) := by decide +kernel
theorem dX3_about_83 : decode cX3_about 83 = .ok (.aload_n 0, 1) := by decide +kernel
theorem dX3_about_84 : decode cX3_about 84 = .ok (.getfield 19, 3) := by decide +kernel
theorem dX3_about_87 : decode cX3_about 87 = .ok (.invokevirtual 112, 3) := by decide +kernel
theorem dX3_about_90 : decode cX3_about 90 = .ok (.ireturn, 1) := by decide +kernel
theorem dX3_about_91 : decode cX3_about 91 = .ok (.aload_n 0, 1) := by decide +kernel
theorem dX3_about_92 : decode cX3_about 92 = .ok (.getfield 19, 3) := by decide +kernel
theorem dX3_about_95 : decode cX3_about 95 = .ok (.invokevirtual 115, 3) := by decide +kernel
theorem dX3_about_98 : decode cX3_about 98 = .ok (.ireturn, 1) := by decide +kernel
theorem dX3_about_99 : decode cX3_about 99 = .ok (.aload_n 0, 1) := by decide +kernel
theorem dX3_about_100 : decode cX3_about 100 = .ok (.getfield 19, 3) := by decide +kernel
theorem dX3_about_103 : decode cX3_about 103 = .ok (.invokevirtual 118, 3) := by decide +kernel
theorem dX3_about_106 : decode cX3_about 106 = .ok (.ireturn, 1) := by decide +kernel
theorem dX3_about_107 : decode cX3_about 107 = .ok (.aload_n 0, 1) := by decide +kernel
theorem dX3_about_108 : decode cX3_about 108 = .ok (.getfield 19, 3) := by decide +kernel
theorem dX3_about_111 : decode cX3_about 111 = .ok (.invokevirtual 121, 3) := by decide +kernel
theorem dX3_about_114 : decode cX3_about 114 = .ok (.ireturn, 1) := by decide +kernel
theorem dX3_about_115 : decode cX3_about 115 = .ok (.aload_n 0, 1) := by decide +kernel
theorem dX3_about_116 : decode cX3_about 116 = .ok (.getfield 19, 3) := by decide +kernel
theorem dX3_about_119 : decode cX3_about 119 = .ok (.invokevirtual 124, 3) := by decide +kernel
theorem dX3_about_122 : decode cX3_about 122 = .ok (.ireturn, 1) := by decide +kernel
theorem dX3_about_123 : decode cX3_about 123 = .ok (.aload_n 0, 1) := by decide +kernel
theorem dX3_about_124 : decode cX3_about 124 = .ok (.getfield 19, 3) := by decide +kernel
theorem dX3_about_127 : decode cX3_about 127 = .ok (.invokevirtual 127, 3) := by decide +kernel
theorem dX3_about_130 : decode cX3_about 130 = .ok (.ireturn, 1) := by decide +kernel
theorem dX3_about_131 : decode cX3_about 131 = .ok (.aload_n 0, 1) := by decide +kernel
theorem dX3_about_132 : decode cX3_about 132 = .ok (.getfield 19, 3) := by decide +kernel
theorem dX3_about_135 : decode cX3_about 135 = .ok (.invokevirtual 130, 3) := by decide +kernel
theorem dX3_about_138 : decode cX3_about 138 = .ok (.ireturn, 1) := by decide +kernel
theorem dX3_about_139 : decode cX3_about 139 = .ok (.aload_n 0, 1) := by decide +kernel
theorem dX3_about_140 : decode cX3_about 140 = .ok (.getfield 19, 3) := by decide +kernel
theorem dX3_about_143 : decode cX3_about 143 = .ok (.invokevirtual 133, 3) := by decide +kernel
theorem dX3_about_146 : decode cX3_about 146 = .ok (.ireturn, 1) := by decide +kernel
theorem dX3_about_147 : decode cX3_about 147 = .ok (.aload_n 0, 1) := by decide +kernel
theorem dX3_about_148 : decode cX3_about 148 = .ok (.getfield 19, 3) := by decide +kernel
theorem dX3_about_151 : decode cX3_about 151 = .ok (.bipush (-3), 2) := by decide +kernel
theorem dX3_about_153 : decode cX3_about 153 = .ok (.invokevirtual 109, 3) := by decide +kernel
theorem dX3_about_156 : decode cX3_about 156 = .ok (.ireturn, 1) := by decide +kernel
theorem dX3_about_157 : decode cX3_about 157 = .ok (.new 41, 3) := by decide +kernel
theorem dX3_about_160 : decode cX3_about 160 = .ok (.dup, 1) := by decide +kernel
theorem dX3_about_161 : decode cX3_about 161 = .ok (.ldc 136, 2) := by decide +kernel
theorem dX3_about_163 : decode cX3_about 163 = .ok (.invokespecial 45, 3) := by decide +kernel
theorem dX3_about_166 : decode cX3_about 166 = .ok (.athrow, 1) := by decide +kernel
set_option maxRecDepth 20000 in
theorem ggX3_block_X3_checkBlock : GoodIn wsX3_block wsX3_checkBlock := goodIn_ca (goodIn_r _ [7, 8, 9, 10, 11, 6, 12] (by decide +kernel) (by decide +kernel)) (goodIn_sub (fun _ h => List.mem_cons_of_mem _ (List.mem_append_right _ h)) (by decide +kernel))
set_option maxRecDepth 20000 in
theorem gX3_block_X3_checkBlock : GoodIn wsX3_block (va_wsS RX3 138 yX3_checkBlock wsX3_checkBlock) := goodIn_app (goodIn_of _ (by decide +kernel)) ggX3_block_X3_checkBlock
set_option maxRecDepth 20000 in
theorem ggX3_block_X0_isAlive : GoodIn wsX3_block wsX0_isAlive := goodIn_r _ [17, 18, 43, 44, 45, 46, 47, 48, 49, 50, 51] (by decide +kernel) (by decide +kernel)
set_option maxRecDepth 20000 in
theorem gX3_block_X0_isAlive : GoodIn wsX3_block (wsV RX3 142 RX0 yX0_isAlive wsX0_isAlive) := goodIn_app (goodIn_of _ (by decide +kernel)) ggX3_block_X0_isAlive
set_option maxRecDepth 20000 in
theorem ggX3_block_X0_isHeld : GoodIn wsX3_block wsX0_isHeld := goodIn_r _ [22, 18, 43, 44, 45, 46, 47, 48, 49, 50, 51] (by decide +kernel) (by decide +kernel)
set_option maxRecDepth 20000 in
theorem gX3_block_X0_isHeld : GoodIn wsX3_block (wsV RX3 146 RX0 yX0_isHeld wsX0_isHeld) := goodIn_app (goodIn_of _ (by decide +kernel)) ggX3_block_X0_isHeld
set_option maxRecDepth 20000 in
theorem ggX3_block_X0_rangeOf : GoodIn wsX3_block wsX0_rangeOf := goodIn_r _ [26, 18, 27, 28, 29, 16, 30, 43, 44, 45, 46, 47, 48, 49, 50, 51] (by decide +kernel) (by decide +kernel)
set_option maxRecDepth 20000 in
theorem gX3_block_X0_rangeOf : GoodIn wsX3_block (wsV RX3 149 RX0 yX0_rangeOf wsX0_rangeOf) := goodIn_app (goodIn_of _ (by decide +kernel)) ggX3_block_X0_rangeOf
set_option maxRecDepth 20000 in
theorem ggX3_block_X0_isAnyPinned : GoodIn wsX3_block wsX0_isAnyPinned := goodIn_r _ [34, 35, 36, 43, 44, 45, 46, 47, 48, 49, 50, 51] (by decide +kernel) (by decide +kernel)
set_option maxRecDepth 20000 in
theorem gX3_block_X0_isAnyPinned : GoodIn wsX3_block (wsV RX3 152 RX0 yX0_isAnyPinned wsX0_isAnyPinned) := goodIn_app (goodIn_of _ (by decide +kernel)) ggX3_block_X0_isAnyPinned
theorem dX3_block_0 : decode cX3_block 0 = .ok (.iload_n 1, 1) := by decide +kernel
theorem dX3_block_1 : decode cX3_block 1 = .ok (.invokestatic 138, 3) := by decide +kernel
theorem dX3_block_4 : decode cX3_block 4 = .ok (.iload_n 2, 1) := by decide +kernel
theorem dX3_block_5 : decode cX3_block 5 = .ok (.tableswitch 94 0 3 #[31, 48, 65, 74], 31) := by decide +kernel
theorem dX3_block_36 : decode cX3_block 36 = .ok (.aload_n 0, 1) := by decide +kernel
theorem dX3_block_37 : decode cX3_block 37 = .ok (.getfield 19, 3) := by decide +kernel
theorem dX3_block_40 : decode cX3_block 40 = .ok (.iload_n 1, 1) := by decide +kernel
theorem dX3_block_41 : decode cX3_block 41 = .ok (.invokevirtual 142, 3) := by decide +kernel
theorem dX3_block_44 : decode cX3_block 44 = .ok (.ifCond .eq 7, 3) := by decide +kernel
theorem dX3_block_47 : decode cX3_block 47 = .ok (.iconst 1, 1) := by decide +kernel
theorem dX3_block_48 : decode cX3_block 48 = .ok (.goto 4, 3) := by decide +kernel
theorem dX3_block_51 : decode cX3_block 51 = .ok (.iconst 0, 1) := by decide +kernel
theorem dX3_block_52 : decode cX3_block 52 = .ok (.ireturn, 1) := by decide +kernel
theorem dX3_block_53 : decode cX3_block 53 = .ok (.aload_n 0, 1) := by decide +kernel
theorem dX3_block_54 : decode cX3_block 54 = .ok (.getfield 19, 3) := by decide +kernel
theorem dX3_block_57 : decode cX3_block 57 = .ok (.iload_n 1, 1) := by decide +kernel
theorem dX3_block_58 : decode cX3_block 58 = .ok (.invokevirtual 146, 3) := by decide +kernel
theorem dX3_block_61 : decode cX3_block 61 = .ok (.ifCond .eq 7, 3) := by decide +kernel
theorem dX3_block_64 : decode cX3_block 64 = .ok (.iconst 1, 1) := by decide +kernel
theorem dX3_block_65 : decode cX3_block 65 = .ok (.goto 4, 3) := by decide +kernel
theorem dX3_block_68 : decode cX3_block 68 = .ok (.iconst 0, 1) := by decide +kernel
theorem dX3_block_69 : decode cX3_block 69 = .ok (.ireturn, 1) := by decide +kernel
theorem dX3_block_70 : decode cX3_block 70 = .ok (.aload_n 0, 1) := by decide +kernel
theorem dX3_block_71 : decode cX3_block 71 = .ok (.getfield 19, 3) := by decide +kernel
theorem dX3_block_74 : decode cX3_block 74 = .ok (.iload_n 1, 1) := by decide +kernel
theorem dX3_block_75 : decode cX3_block 75 = .ok (.invokevirtual 149, 3) := by decide +kernel
theorem dX3_block_78 : decode cX3_block 78 = .ok (.ireturn, 1) := by decide +kernel
theorem dX3_block_79 : decode cX3_block 79 = .ok (.aload_n 0, 1) := by decide +kernel
theorem dX3_block_80 : decode cX3_block 80 = .ok (.getfield 19, 3) := by decide +kernel
theorem dX3_block_83 : decode cX3_block 83 = .ok (.iload_n 1, 1) := by decide +kernel
theorem dX3_block_84 : decode cX3_block 84 = .ok (.iload_n 1, 1) := by decide +kernel
theorem dX3_block_85 : decode cX3_block 85 = .ok (.iconst 1, 1) := by decide +kernel
theorem dX3_block_86 : decode cX3_block 86 = .ok (.iadd, 1) := by decide +kernel
theorem dX3_block_87 : decode cX3_block 87 = .ok (.invokevirtual 152, 3) := by decide +kernel
theorem dX3_block_90 : decode cX3_block 90 = .ok (.ifCond .eq 7, 3) := by decide +kernel
theorem dX3_block_93 : decode cX3_block 93 = .ok (.iconst 1, 1) := by decide +kernel
theorem dX3_block_94 : decode cX3_block 94 = .ok (.goto 4, 3) := by decide +kernel
theorem dX3_block_97 : decode cX3_block 97 = .ok (.iconst 0, 1) := by decide +kernel
theorem dX3_block_98 : decode cX3_block 98 = .ok (.ireturn, 1) := by decide +kernel
theorem dX3_block_99 : decode cX3_block 99 = .ok (.new 41, 3) := by decide +kernel
theorem dX3_block_102 : decode cX3_block 102 = .ok (.dup, 1) := by decide +kernel
theorem dX3_block_103 : decode cX3_block 103 = .ok (.ldc 156, 2) := by decide +kernel
theorem dX3_block_105 : decode cX3_block 105 = .ok (.invokespecial 45, 3) := by decide +kernel
theorem dX3_block_108 : decode cX3_block 108 = .ok (.athrow, 1) := by decide +kernel
set_option maxRecDepth 20000 in
theorem ggX3_range_X0_countRanges : GoodIn wsX3_range wsX0_countRanges := goodIn_r _ [10, 11, 12, 13, 9, 14, 15, 66, 67, 68, 69, 70, 71, 72, 73, 74] (by decide +kernel) (by decide +kernel)
set_option maxRecDepth 20000 in
theorem gX3_range_X0_countRanges : GoodIn wsX3_range (wsV RX3 112 RX0 yX0_countRanges wsX0_countRanges) := goodIn_app (goodIn_of _ (by decide +kernel)) ggX3_range_X0_countRanges
set_option maxRecDepth 20000 in
theorem ggX3_range_X0_firstOfRange : GoodIn wsX3_range wsX0_firstOfRange := goodIn_r _ [19, 15, 66, 67, 68, 69, 70, 71, 72, 73, 74] (by decide +kernel) (by decide +kernel)
set_option maxRecDepth 20000 in
theorem gX3_range_X0_firstOfRange : GoodIn wsX3_range (wsV RX3 163 RX0 yX0_firstOfRange wsX0_firstOfRange) := goodIn_app (goodIn_of _ (by decide +kernel)) ggX3_range_X0_firstOfRange
set_option maxRecDepth 20000 in
theorem ggX3_range_X0_endOfRange : GoodIn wsX3_range wsX0_endOfRange := goodIn_r _ [23, 15, 66, 67, 68, 69, 70, 71, 72, 73, 74] (by decide +kernel) (by decide +kernel)
set_option maxRecDepth 20000 in
theorem gX3_range_X0_endOfRange : GoodIn wsX3_range (wsV RX3 166 RX0 yX0_endOfRange wsX0_endOfRange) := goodIn_app (goodIn_of _ (by decide +kernel)) ggX3_range_X0_endOfRange
set_option maxRecDepth 20000 in
theorem ggX3_range_X0_timeOf : GoodIn wsX3_range wsX0_timeOf := goodIn_r _ [27, 15, 66, 67, 68, 69, 70, 71, 72, 73, 74] (by decide +kernel) (by decide +kernel)
set_option maxRecDepth 20000 in
theorem gX3_range_X0_timeOf : GoodIn wsX3_range (wsV RX3 169 RX0 yX0_timeOf wsX0_timeOf) := goodIn_app (goodIn_of _ (by decide +kernel)) ggX3_range_X0_timeOf
set_option maxRecDepth 20000 in
theorem ggX3_range_X0_countPieces : GoodIn wsX3_range wsX0_countPieces := goodIn_r _ [31, 32, 33, 34, 35, 9, 36, 37, 38, 39, 40, 41, 42, 43, 44, 15, 45, 46, 47, 48, 49, 50, 66, 67, 68, 69, 70, 71, 72, 73, 74] (by decide +kernel) (by decide +kernel)
set_option maxRecDepth 20000 in
theorem gX3_range_X0_countPieces : GoodIn wsX3_range (wsV RX3 172 RX0 yX0_countPieces wsX0_countPieces) := goodIn_app (goodIn_of _ (by decide +kernel)) ggX3_range_X0_countPieces
set_option maxRecDepth 20000 in
theorem ggX3_range_X0_countGranules : GoodIn wsX3_range wsX0_countGranules := goodIn_r _ [54, 32, 33, 34, 35, 9, 36, 37, 38, 39, 40, 41, 42, 43, 44, 15, 45, 46, 47, 48, 49, 50, 66, 67, 68, 69, 70, 71, 72, 73, 74] (by decide +kernel) (by decide +kernel)
set_option maxRecDepth 20000 in
theorem gX3_range_X0_countGranules : GoodIn wsX3_range (wsV RX3 176 RX0 yX0_countGranules wsX0_countGranules) := goodIn_app (goodIn_of _ (by decide +kernel)) ggX3_range_X0_countGranules
set_option maxRecDepth 20000 in
theorem ggX3_range_X0_isDue : GoodIn wsX3_range wsX0_isDue := goodIn_r _ [58, 59, 15, 32, 66, 67, 68, 69, 70, 71, 72, 73, 74] (by decide +kernel) (by decide +kernel)
set_option maxRecDepth 20000 in
theorem gX3_range_X0_isDue : GoodIn wsX3_range (wsV RX3 179 RX0 yX0_isDue wsX0_isDue) := goodIn_app (goodIn_of _ (by decide +kernel)) ggX3_range_X0_isDue
theorem dX3_range_0 : decode cX3_range 0 = .ok (.iload_n 1, 1) := by decide +kernel
theorem dX3_range_1 : decode cX3_range 1 = .ok (.ifCond .lt 14, 3) := by decide +kernel
theorem dX3_range_4 : decode cX3_range 4 = .ok (.iload_n 1, 1) := by decide +kernel
theorem dX3_range_5 : decode cX3_range 5 = .ok (.aload_n 0, 1) := by decide +kernel
theorem dX3_range_6 : decode cX3_range 6 = .ok (.getfield 19, 3) := by decide +kernel
theorem dX3_range_9 : decode cX3_range 9 = .ok (.invokevirtual 112, 3) := by decide +kernel
theorem dX3_range_12 : decode cX3_range 12 = .ok (.if_icmp .lt 13, 3) := by decide +kernel
theorem dX3_range_15 : decode cX3_range 15 = .ok (.new 158, 3) := by decide +kernel
theorem dX3_range_18 : decode cX3_range 18 = .ok (.dup, 1) := by decide +kernel
theorem dX3_range_19 : decode cX3_range 19 = .ok (.ldc 160, 2) := by decide +kernel
theorem dX3_range_21 : decode cX3_range 21 = .ok (.invokespecial 162, 3) := by decide +kernel
theorem dX3_range_24 : decode cX3_range 24 = .ok (.athrow, 1) := by decide +kernel
theorem dX3_range_25 : decode cX3_range 25 = .ok (.aload_n 0, 1) := by decide +kernel
theorem dX3_range_26 : decode cX3_range 26 = .ok (.getfield 19, 3) := by decide +kernel
theorem dX3_range_29 : decode cX3_range 29 = .ok (.iload_n 1, 1) := by decide +kernel
theorem dX3_range_30 : decode cX3_range 30 = .ok (.invokevirtual 163, 3) := by decide +kernel
theorem dX3_range_33 : decode cX3_range 33 = .ok (.istore_n 3, 1) := by decide +kernel
theorem dX3_range_34 : decode cX3_range 34 = .ok (.aload_n 0, 1) := by decide +kernel
theorem dX3_range_35 : decode cX3_range 35 = .ok (.getfield 19, 3) := by decide +kernel
theorem dX3_range_38 : decode cX3_range 38 = .ok (.iload_n 3, 1) := by decide +kernel
theorem dX3_range_39 : decode cX3_range 39 = .ok (.invokevirtual 166, 3) := by decide +kernel
theorem dX3_range_42 : decode cX3_range 42 = .ok (.istore 4, 2) := by decide +kernel
theorem dX3_range_44 : decode cX3_range 44 = .ok (.iload_n 2, 1) := by decide +kernel
theorem dX3_range_45 : decode cX3_range 45 = .ok (.tableswitch 94 0 5 #[39, 41, 46, 55, 66, 77], 39) := by decide +kernel
theorem dX3_range_84 : decode cX3_range 84 = .ok (.iload_n 3, 1) := by decide +kernel
theorem dX3_range_85 : decode cX3_range 85 = .ok (.ireturn, 1) := by decide +kernel
theorem dX3_range_86 : decode cX3_range 86 = .ok (.iload 4, 2) := by decide +kernel
theorem dX3_range_88 : decode cX3_range 88 = .ok (.iload_n 3, 1) := by decide +kernel
theorem dX3_range_89 : decode cX3_range 89 = .ok (.isub, 1) := by decide +kernel
theorem dX3_range_90 : decode cX3_range 90 = .ok (.ireturn, 1) := by decide +kernel
theorem dX3_range_91 : decode cX3_range 91 = .ok (.aload_n 0, 1) := by decide +kernel
theorem dX3_range_92 : decode cX3_range 92 = .ok (.getfield 19, 3) := by decide +kernel
theorem dX3_range_95 : decode cX3_range 95 = .ok (.iload_n 3, 1) := by decide +kernel
theorem dX3_range_96 : decode cX3_range 96 = .ok (.invokevirtual 169, 3) := by decide +kernel
theorem dX3_range_99 : decode cX3_range 99 = .ok (.ireturn, 1) := by decide +kernel
theorem dX3_range_100 : decode cX3_range 100 = .ok (.aload_n 0, 1) := by decide +kernel
theorem dX3_range_101 : decode cX3_range 101 = .ok (.getfield 19, 3) := by decide +kernel
theorem dX3_range_104 : decode cX3_range 104 = .ok (.iload_n 3, 1) := by decide +kernel
theorem dX3_range_105 : decode cX3_range 105 = .ok (.iload 4, 2) := by decide +kernel
theorem dX3_range_107 : decode cX3_range 107 = .ok (.invokevirtual 172, 3) := by decide +kernel
theorem dX3_range_110 : decode cX3_range 110 = .ok (.ireturn, 1) := by decide +kernel
theorem dX3_range_111 : decode cX3_range 111 = .ok (.aload_n 0, 1) := by decide +kernel
theorem dX3_range_112 : decode cX3_range 112 = .ok (.getfield 19, 3) := by decide +kernel
theorem dX3_range_115 : decode cX3_range 115 = .ok (.iload_n 3, 1) := by decide +kernel
theorem dX3_range_116 : decode cX3_range 116 = .ok (.iload 4, 2) := by decide +kernel
theorem dX3_range_118 : decode cX3_range 118 = .ok (.invokevirtual 176, 3) := by decide +kernel
theorem dX3_range_121 : decode cX3_range 121 = .ok (.ireturn, 1) := by decide +kernel
theorem dX3_range_122 : decode cX3_range 122 = .ok (.aload_n 0, 1) := by decide +kernel
theorem dX3_range_123 : decode cX3_range 123 = .ok (.getfield 19, 3) := by decide +kernel
theorem dX3_range_126 : decode cX3_range 126 = .ok (.iload_n 3, 1) := by decide +kernel
theorem dX3_range_127 : decode cX3_range 127 = .ok (.invokevirtual 179, 3) := by decide +kernel
theorem dX3_range_130 : decode cX3_range 130 = .ok (.ifCond .eq 7, 3) := by decide +kernel
theorem dX3_range_133 : decode cX3_range 133 = .ok (.iconst 1, 1) := by decide +kernel
theorem dX3_range_134 : decode cX3_range 134 = .ok (.goto 4, 3) := by decide +kernel
theorem dX3_range_137 : decode cX3_range 137 = .ok (.iconst 0, 1) := by decide +kernel
theorem dX3_range_138 : decode cX3_range 138 = .ok (.ireturn, 1) := by decide +kernel
theorem dX3_range_139 : decode cX3_range 139 = .ok (.new 41, 3) := by decide +kernel
theorem dX3_range_142 : decode cX3_range 142 = .ok (.dup, 1) := by decide +kernel
theorem dX3_range_143 : decode cX3_range 143 = .ok (.ldc 182, 2) := by decide +kernel
theorem dX3_range_145 : decode cX3_range 145 = .ok (.invokespecial 45, 3) := by decide +kernel
theorem dX3_range_148 : decode cX3_range 148 = .ok (.athrow, 1) := by decide +kernel
set_option maxRecDepth 20000 in
theorem ggX3_pinned_X3_checkPin : GoodIn wsX3_pinned wsX3_checkPin := goodIn_ca (goodIn_r _ [7, 8, 9, 10, 11, 6, 12] (by decide +kernel) (by decide +kernel)) (goodIn_sub (fun _ h => List.mem_cons_of_mem _ (List.mem_append_right _ h)) (by decide +kernel))
set_option maxRecDepth 20000 in
theorem gX3_pinned_X3_checkPin : GoodIn wsX3_pinned (va_wsS RX3 184 yX3_checkPin wsX3_checkPin) := goodIn_app (goodIn_of _ (by decide +kernel)) ggX3_pinned_X3_checkPin
set_option maxRecDepth 20000 in
theorem ggX3_pinned_X0_hasPin : GoodIn wsX3_pinned wsX0_hasPin := goodIn_r _ [17, 18, 34, 35, 36, 37, 38, 39, 40, 41, 42] (by decide +kernel) (by decide +kernel)
set_option maxRecDepth 20000 in
theorem gX3_pinned_X0_hasPin : GoodIn wsX3_pinned (wsV RX3 189 RX0 yX0_hasPin wsX0_hasPin) := goodIn_app (goodIn_of _ (by decide +kernel)) ggX3_pinned_X0_hasPin
set_option maxRecDepth 20000 in
theorem ggX3_pinned_X0_firstPinned : GoodIn wsX3_pinned wsX0_firstPinned := goodIn_r _ [22, 23, 34, 35, 36, 37, 38, 39, 40, 41, 42] (by decide +kernel) (by decide +kernel)
set_option maxRecDepth 20000 in
theorem gX3_pinned_X0_firstPinned : GoodIn wsX3_pinned (wsV RX3 192 RX0 yX0_firstPinned wsX0_firstPinned) := goodIn_app (goodIn_of _ (by decide +kernel)) ggX3_pinned_X0_firstPinned
set_option maxRecDepth 20000 in
theorem ggX3_pinned_X0_lengthPinned : GoodIn wsX3_pinned wsX0_lengthPinned := goodIn_r _ [27, 18, 34, 35, 36, 37, 38, 39, 40, 41, 42] (by decide +kernel) (by decide +kernel)
set_option maxRecDepth 20000 in
theorem gX3_pinned_X0_lengthPinned : GoodIn wsX3_pinned (wsV RX3 195 RX0 yX0_lengthPinned wsX0_lengthPinned) := goodIn_app (goodIn_of _ (by decide +kernel)) ggX3_pinned_X0_lengthPinned
theorem dX3_pinned_0 : decode cX3_pinned 0 = .ok (.iload_n 1, 1) := by decide +kernel
theorem dX3_pinned_1 : decode cX3_pinned 1 = .ok (.invokestatic 184, 3) := by decide +kernel
theorem dX3_pinned_4 : decode cX3_pinned 4 = .ok (.iload_n 2, 1) := by decide +kernel
theorem dX3_pinned_5 : decode cX3_pinned 5 = .ok (.ifCond .eq 18, 3) := by decide +kernel
theorem dX3_pinned_8 : decode cX3_pinned 8 = .ok (.iload_n 2, 1) := by decide +kernel
theorem dX3_pinned_9 : decode cX3_pinned 9 = .ok (.iconst 1, 1) := by decide +kernel
theorem dX3_pinned_10 : decode cX3_pinned 10 = .ok (.if_icmp .eq 13, 3) := by decide +kernel
theorem dX3_pinned_13 : decode cX3_pinned 13 = .ok (.new 41, 3) := by decide +kernel
theorem dX3_pinned_16 : decode cX3_pinned 16 = .ok (.dup, 1) := by decide +kernel
theorem dX3_pinned_17 : decode cX3_pinned 17 = .ok (.ldc 187, 2) := by decide +kernel
theorem dX3_pinned_19 : decode cX3_pinned 19 = .ok (.invokespecial 45, 3) := by decide +kernel
theorem dX3_pinned_22 : decode cX3_pinned 22 = .ok (.athrow, 1) := by decide +kernel
theorem dX3_pinned_23 : decode cX3_pinned 23 = .ok (.aload_n 0, 1) := by decide +kernel
theorem dX3_pinned_24 : decode cX3_pinned 24 = .ok (.getfield 19, 3) := by decide +kernel
theorem dX3_pinned_27 : decode cX3_pinned 27 = .ok (.iload_n 1, 1) := by decide +kernel
theorem dX3_pinned_28 : decode cX3_pinned 28 = .ok (.invokevirtual 189, 3) := by decide +kernel
theorem dX3_pinned_31 : decode cX3_pinned 31 = .ok (.ifCond .ne 5, 3) := by decide +kernel
theorem dX3_pinned_34 : decode cX3_pinned 34 = .ok (.iconst (-1), 1) := by decide +kernel
theorem dX3_pinned_35 : decode cX3_pinned 35 = .ok (.ireturn, 1) := by decide +kernel
theorem dX3_pinned_36 : decode cX3_pinned 36 = .ok (.iload_n 2, 1) := by decide +kernel
theorem dX3_pinned_37 : decode cX3_pinned 37 = .ok (.ifCond .ne 14, 3) := by decide +kernel
theorem dX3_pinned_40 : decode cX3_pinned 40 = .ok (.aload_n 0, 1) := by decide +kernel
theorem dX3_pinned_41 : decode cX3_pinned 41 = .ok (.getfield 19, 3) := by decide +kernel
theorem dX3_pinned_44 : decode cX3_pinned 44 = .ok (.iload_n 1, 1) := by decide +kernel
theorem dX3_pinned_45 : decode cX3_pinned 45 = .ok (.invokevirtual 192, 3) := by decide +kernel
theorem dX3_pinned_48 : decode cX3_pinned 48 = .ok (.goto 11, 3) := by decide +kernel
theorem dX3_pinned_51 : decode cX3_pinned 51 = .ok (.aload_n 0, 1) := by decide +kernel
theorem dX3_pinned_52 : decode cX3_pinned 52 = .ok (.getfield 19, 3) := by decide +kernel
theorem dX3_pinned_55 : decode cX3_pinned 55 = .ok (.iload_n 1, 1) := by decide +kernel
theorem dX3_pinned_56 : decode cX3_pinned 56 = .ok (.invokevirtual 195, 3) := by decide +kernel
theorem dX3_pinned_59 : decode cX3_pinned 59 = .ok (.ireturn, 1) := by decide +kernel
set_option maxRecDepth 20000 in
theorem ggX3_setting_X3_isSetting : GoodIn wsX3_setting wsX3_isSetting := goodIn_r _ [7] (by decide +kernel) (by decide +kernel)
set_option maxRecDepth 20000 in
theorem gX3_setting_X3_isSetting : GoodIn wsX3_setting (va_wsS RX3 198 yX3_isSetting wsX3_isSetting) := goodIn_app (goodIn_of _ (by decide +kernel)) ggX3_setting_X3_isSetting
set_option maxRecDepth 20000 in
theorem ggX3_setting_X0_settingAt : GoodIn wsX3_setting wsX0_settingAt := goodIn_r _ [12, 13, 20, 21, 22, 23, 24, 25, 26, 27, 28] (by decide +kernel) (by decide +kernel)
set_option maxRecDepth 20000 in
theorem gX3_setting_X0_settingAt : GoodIn wsX3_setting (wsV RX3 203 RX0 yX0_settingAt wsX0_settingAt) := goodIn_app (goodIn_of _ (by decide +kernel)) ggX3_setting_X0_settingAt
theorem dX3_setting_0 : decode cX3_setting 0 = .ok (.iload_n 1, 1) := by decide +kernel
theorem dX3_setting_1 : decode cX3_setting 1 = .ok (.invokestatic 198, 3) := by decide +kernel
theorem dX3_setting_4 : decode cX3_setting 4 = .ok (.ifCond .ne 13, 3) := by decide +kernel
theorem dX3_setting_7 : decode cX3_setting 7 = .ok (.new 41, 3) := by decide +kernel
theorem dX3_setting_10 : decode cX3_setting 10 = .ok (.dup, 1) := by decide +kernel
theorem dX3_setting_11 : decode cX3_setting 11 = .ok (.ldc 201, 2) := by decide +kernel
theorem dX3_setting_13 : decode cX3_setting 13 = .ok (.invokespecial 45, 3) := by decide +kernel
theorem dX3_setting_16 : decode cX3_setting 16 = .ok (.athrow, 1) := by decide +kernel
theorem dX3_setting_17 : decode cX3_setting 17 = .ok (.aload_n 0, 1) := by decide +kernel
theorem dX3_setting_18 : decode cX3_setting 18 = .ok (.getfield 19, 3) := by decide +kernel
theorem dX3_setting_21 : decode cX3_setting 21 = .ok (.iload_n 1, 1) := by decide +kernel
theorem dX3_setting_22 : decode cX3_setting 22 = .ok (.invokevirtual 203, 3) := by decide +kernel
theorem dX3_setting_25 : decode cX3_setting 25 = .ok (.ireturn, 1) := by decide +kernel
set_option maxRecDepth 20000 in
theorem ggX3_write_X3_checkSpan : GoodIn wsX3_write wsX3_checkSpan := goodIn_ca (goodIn_ca (goodIn_ca (goodIn_r _ [6, 7, 8, 9, 10, 11, 12, 5, 13, 14, 15, 16, 17, 18, 19, 20, 21, 22, 23, 24] (by decide +kernel) (by decide +kernel)) (goodIn_sub (fun _ h => List.mem_cons_of_mem _ (List.mem_append_left _ (List.mem_append_left _ (List.mem_append_right _ h)))) (by decide +kernel))) (goodIn_sub (fun _ h => List.mem_cons_of_mem _ (List.mem_append_left _ (List.mem_append_right _ h))) (by decide +kernel))) (goodIn_sub (fun _ h => List.mem_cons_of_mem _ (List.mem_append_right _ h)) (by decide +kernel))
set_option maxRecDepth 20000 in
theorem gX3_write_X3_checkSpan : GoodIn wsX3_write (va_wsS RX3 206 yX3_checkSpan wsX3_checkSpan) := goodIn_app (goodIn_of _ (by decide +kernel)) ggX3_write_X3_checkSpan
set_option maxRecDepth 20000 in
theorem ggX3_write_X1_remember : GoodIn wsX3_write wsX1_remember := goodIn_r _ [29, 30, 31, 32, 33, 34, 35, 28, 36, 37, 38, 39, 40, 41, 42, 43, 44, 45, 46, 47, 48, 49, 50, 51, 52, 53, 54, 77, 78, 79, 80, 81, 82, 83, 84, 85, 86, 87, 88] (by decide +kernel) (by decide +kernel)
set_option maxRecDepth 20000 in
theorem gX3_write_X1_remember : GoodIn wsX3_write (wsV RX3 210 RX1 yX1_remember wsX1_remember) := goodIn_app (goodIn_of _ (by decide +kernel)) ggX3_write_X1_remember
set_option maxRecDepth 20000 in
theorem ggX3_write_X0_writeSpan : GoodIn wsX3_write wsX0_writeSpan := goodIn_r _ [58, 42, 51, 59, 60, 61, 40, 62, 54, 63, 64, 65, 66, 67, 68, 69, 70, 80, 81, 82, 83, 84, 85, 86, 87, 88] (by decide +kernel) (by decide +kernel)
set_option maxRecDepth 20000 in
theorem gX3_write_X0_writeSpan : GoodIn wsX3_write (wsV RX3 214 RX0 yX0_writeSpan wsX0_writeSpan) := goodIn_app (goodIn_of _ (by decide +kernel)) ggX3_write_X0_writeSpan
theorem dX3_write_0 : decode cX3_write 0 = .ok (.iload_n 1, 1) := by decide +kernel
theorem dX3_write_1 : decode cX3_write 1 = .ok (.iload_n 2, 1) := by decide +kernel
theorem dX3_write_2 : decode cX3_write 2 = .ok (.invokestatic 206, 3) := by decide +kernel
theorem dX3_write_5 : decode cX3_write 5 = .ok (.aload_n 0, 1) := by decide +kernel
theorem dX3_write_6 : decode cX3_write 6 = .ok (.getfield 29, 3) := by decide +kernel
theorem dX3_write_9 : decode cX3_write 9 = .ok (.aload_n 0, 1) := by decide +kernel
theorem dX3_write_10 : decode cX3_write 10 = .ok (.getfield 19, 3) := by decide +kernel
theorem dX3_write_13 : decode cX3_write 13 = .ok (.invokevirtual 210, 3) := by decide +kernel
theorem dX3_write_16 : decode cX3_write 16 = .ok (.aload_n 0, 1) := by decide +kernel
theorem dX3_write_17 : decode cX3_write 17 = .ok (.getfield 19, 3) := by decide +kernel
theorem dX3_write_20 : decode cX3_write 20 = .ok (.iload_n 1, 1) := by decide +kernel
theorem dX3_write_21 : decode cX3_write 21 = .ok (.iload_n 2, 1) := by decide +kernel
theorem dX3_write_22 : decode cX3_write 22 = .ok (.invokevirtual 214, 3) := by decide +kernel
theorem dX3_write_25 : decode cX3_write 25 = .ok (.ireturn, 1) := by decide +kernel
set_option maxRecDepth 20000 in
theorem ggX3_free_X3_checkSpan : GoodIn wsX3_free wsX3_checkSpan := goodIn_ca (goodIn_ca (goodIn_ca (goodIn_r _ [6, 7, 8, 9, 10, 11, 12, 5, 13, 14, 15, 16, 17, 18, 19, 20, 21, 22, 23, 24] (by decide +kernel) (by decide +kernel)) (goodIn_sub (fun _ h => List.mem_cons_of_mem _ (List.mem_append_left _ (List.mem_append_left _ (List.mem_append_right _ h)))) (by decide +kernel))) (goodIn_sub (fun _ h => List.mem_cons_of_mem _ (List.mem_append_left _ (List.mem_append_right _ h))) (by decide +kernel))) (goodIn_sub (fun _ h => List.mem_cons_of_mem _ (List.mem_append_right _ h)) (by decide +kernel))
set_option maxRecDepth 20000 in
theorem gX3_free_X3_checkSpan : GoodIn wsX3_free (va_wsS RX3 206 yX3_checkSpan wsX3_checkSpan) := goodIn_app (goodIn_of _ (by decide +kernel)) ggX3_free_X3_checkSpan
set_option maxRecDepth 20000 in
theorem ggX3_free_X1_remember : GoodIn wsX3_free wsX1_remember := goodIn_r _ [29, 30, 31, 32, 33, 34, 35, 28, 36, 37, 38, 39, 40, 41, 42, 43, 44, 45, 46, 47, 48, 49, 50, 51, 52, 53, 54, 81, 82, 83, 84, 85, 86, 87, 88, 89, 90, 91, 92] (by decide +kernel) (by decide +kernel)
set_option maxRecDepth 20000 in
theorem gX3_free_X1_remember : GoodIn wsX3_free (wsV RX3 210 RX1 yX1_remember wsX1_remember) := goodIn_app (goodIn_of _ (by decide +kernel)) ggX3_free_X1_remember
set_option maxRecDepth 20000 in
theorem ggX3_free_X0_freeSpan : GoodIn wsX3_free wsX0_freeSpan := goodIn_r _ [58, 42, 51, 59, 60, 61, 40, 62, 50, 63, 64, 65, 66, 54, 67, 68, 69, 70, 71, 72, 73, 74, 84, 85, 86, 87, 88, 89, 90, 91, 92] (by decide +kernel) (by decide +kernel)
set_option maxRecDepth 20000 in
theorem gX3_free_X0_freeSpan : GoodIn wsX3_free (wsV RX3 217 RX0 yX0_freeSpan wsX0_freeSpan) := goodIn_app (goodIn_of _ (by decide +kernel)) ggX3_free_X0_freeSpan
theorem dX3_free_0 : decode cX3_free 0 = .ok (.iload_n 1, 1) := by decide +kernel
theorem dX3_free_1 : decode cX3_free 1 = .ok (.iload_n 2, 1) := by decide +kernel
theorem dX3_free_2 : decode cX3_free 2 = .ok (.invokestatic 206, 3) := by decide +kernel
theorem dX3_free_5 : decode cX3_free 5 = .ok (.aload_n 0, 1) := by decide +kernel
theorem dX3_free_6 : decode cX3_free 6 = .ok (.getfield 29, 3) := by decide +kernel
theorem dX3_free_9 : decode cX3_free 9 = .ok (.aload_n 0, 1) := by decide +kernel
theorem dX3_free_10 : decode cX3_free 10 = .ok (.getfield 19, 3) := by decide +kernel
theorem dX3_free_13 : decode cX3_free 13 = .ok (.invokevirtual 210, 3) := by decide +kernel
theorem dX3_free_16 : decode cX3_free 16 = .ok (.aload_n 0, 1) := by decide +kernel
theorem dX3_free_17 : decode cX3_free 17 = .ok (.getfield 19, 3) := by decide +kernel
theorem dX3_free_20 : decode cX3_free 20 = .ok (.iload_n 1, 1) := by decide +kernel
theorem dX3_free_21 : decode cX3_free 21 = .ok (.iload_n 2, 1) := by decide +kernel
theorem dX3_free_22 : decode cX3_free 22 = .ok (.invokevirtual 217, 3) := by decide +kernel
theorem dX3_free_25 : decode cX3_free 25 = .ok (.ireturn, 1) := by decide +kernel
set_option maxRecDepth 20000 in
theorem ggX3_pin_X3_checkPin : GoodIn wsX3_pin wsX3_checkPin := goodIn_ca (goodIn_r _ [6, 7, 8, 9, 10, 5, 11] (by decide +kernel) (by decide +kernel)) (goodIn_sub (fun _ h => List.mem_cons_of_mem _ (List.mem_append_left _ (List.mem_append_left _ (List.mem_append_right _ h)))) (by decide +kernel))
set_option maxRecDepth 20000 in
theorem gX3_pin_X3_checkPin : GoodIn wsX3_pin (va_wsS RX3 184 yX3_checkPin wsX3_checkPin) := goodIn_app (goodIn_of _ (by decide +kernel)) ggX3_pin_X3_checkPin
set_option maxRecDepth 20000 in
theorem ggX3_pin_X3_checkSpan : GoodIn wsX3_pin wsX3_checkSpan := goodIn_ca (goodIn_ca (goodIn_ca (goodIn_r _ [14, 15, 16, 17, 18, 19, 20, 5, 21, 7, 8, 22, 23, 24, 25, 26, 27, 28, 29, 30] (by decide +kernel) (by decide +kernel)) (goodIn_sub (fun _ h => List.mem_cons_of_mem _ (List.mem_append_left _ (List.mem_append_right _ h))) (by decide +kernel))) (goodIn_sub (fun _ h => List.mem_cons_of_mem _ (List.mem_append_right _ h)) (by decide +kernel))) (goodIn_sub (fun _ h => List.mem_cons_of_mem _ (List.mem_append_left _ (List.mem_append_left _ (List.mem_append_right _ h)))) (by decide +kernel))
set_option maxRecDepth 20000 in
theorem gX3_pin_X3_checkSpan : GoodIn wsX3_pin (va_wsS RX3 206 yX3_checkSpan wsX3_checkSpan) := goodIn_app (goodIn_of _ (by decide +kernel)) ggX3_pin_X3_checkSpan
set_option maxRecDepth 20000 in
theorem ggX3_pin_X1_remember : GoodIn wsX3_pin wsX1_remember := goodIn_r _ [35, 36, 37, 38, 39, 40, 41, 34, 42, 43, 44, 45, 46, 47, 48, 49, 50, 51, 52, 53, 54, 55, 56, 57, 58, 59, 60, 79, 80, 81, 82, 83, 84, 85, 86, 87, 88, 89, 90] (by decide +kernel) (by decide +kernel)
set_option maxRecDepth 20000 in
theorem gX3_pin_X1_remember : GoodIn wsX3_pin (wsV RX3 210 RX1 yX1_remember wsX1_remember) := goodIn_app (goodIn_of _ (by decide +kernel)) ggX3_pin_X1_remember
set_option maxRecDepth 20000 in
theorem ggX3_pin_X0_pinSpan : GoodIn wsX3_pin wsX0_pinSpan := goodIn_r _ [64, 53, 54, 82, 83, 84, 85, 86, 87, 88, 89, 90] (by decide +kernel) (by decide +kernel)
set_option maxRecDepth 20000 in
theorem gX3_pin_X0_pinSpan : GoodIn wsX3_pin (wsV RX3 220 RX0 yX0_pinSpan wsX0_pinSpan) := goodIn_app (goodIn_of _ (by decide +kernel)) ggX3_pin_X0_pinSpan
set_option maxRecDepth 20000 in
theorem ggX3_pin_X0_countPinned : GoodIn wsX3_pin wsX0_countPinned := goodIn_r _ [68, 69, 70, 71, 46, 72, 54, 53, 82, 83, 84, 85, 86, 87, 88, 89, 90] (by decide +kernel) (by decide +kernel)
set_option maxRecDepth 20000 in
theorem gX3_pin_X0_countPinned : GoodIn wsX3_pin (wsV RX3 133 RX0 yX0_countPinned wsX0_countPinned) := goodIn_app (goodIn_of _ (by decide +kernel)) ggX3_pin_X0_countPinned
theorem dX3_pin_0 : decode cX3_pin 0 = .ok (.iload_n 1, 1) := by decide +kernel
theorem dX3_pin_1 : decode cX3_pin 1 = .ok (.invokestatic 184, 3) := by decide +kernel
theorem dX3_pin_4 : decode cX3_pin 4 = .ok (.iload_n 2, 1) := by decide +kernel
theorem dX3_pin_5 : decode cX3_pin 5 = .ok (.iload_n 3, 1) := by decide +kernel
theorem dX3_pin_6 : decode cX3_pin 6 = .ok (.invokestatic 206, 3) := by decide +kernel
theorem dX3_pin_9 : decode cX3_pin 9 = .ok (.aload_n 0, 1) := by decide +kernel
theorem dX3_pin_10 : decode cX3_pin 10 = .ok (.getfield 29, 3) := by decide +kernel
theorem dX3_pin_13 : decode cX3_pin 13 = .ok (.aload_n 0, 1) := by decide +kernel
theorem dX3_pin_14 : decode cX3_pin 14 = .ok (.getfield 19, 3) := by decide +kernel
theorem dX3_pin_17 : decode cX3_pin 17 = .ok (.invokevirtual 210, 3) := by decide +kernel
theorem dX3_pin_20 : decode cX3_pin 20 = .ok (.aload_n 0, 1) := by decide +kernel
theorem dX3_pin_21 : decode cX3_pin 21 = .ok (.getfield 19, 3) := by decide +kernel
theorem dX3_pin_24 : decode cX3_pin 24 = .ok (.iload_n 1, 1) := by decide +kernel
theorem dX3_pin_25 : decode cX3_pin 25 = .ok (.iload_n 2, 1) := by decide +kernel
theorem dX3_pin_26 : decode cX3_pin 26 = .ok (.iload_n 3, 1) := by decide +kernel
theorem dX3_pin_27 : decode cX3_pin 27 = .ok (.invokevirtual 220, 3) := by decide +kernel
theorem dX3_pin_30 : decode cX3_pin 30 = .ok (.aload_n 0, 1) := by decide +kernel
theorem dX3_pin_31 : decode cX3_pin 31 = .ok (.getfield 19, 3) := by decide +kernel
theorem dX3_pin_34 : decode cX3_pin 34 = .ok (.invokevirtual 133, 3) := by decide +kernel
theorem dX3_pin_37 : decode cX3_pin 37 = .ok (.ireturn, 1) := by decide +kernel
set_option maxRecDepth 20000 in
theorem ggX3_unpin_X3_checkPin : GoodIn wsX3_unpin wsX3_checkPin := goodIn_ca (goodIn_r _ [8, 9, 10, 11, 12, 7, 13] (by decide +kernel) (by decide +kernel)) (goodIn_sub (fun _ h => List.mem_cons_of_mem _ (List.mem_append_right _ h)) (by decide +kernel))
set_option maxRecDepth 20000 in
theorem gX3_unpin_X3_checkPin : GoodIn wsX3_unpin (va_wsS RX3 184 yX3_checkPin wsX3_checkPin) := goodIn_app (goodIn_of _ (by decide +kernel)) ggX3_unpin_X3_checkPin
set_option maxRecDepth 20000 in
theorem ggX3_unpin_X0_hasPin : GoodIn wsX3_unpin wsX0_hasPin := goodIn_r _ [18, 19, 66, 67, 68, 69, 70, 71, 72, 73, 74] (by decide +kernel) (by decide +kernel)
set_option maxRecDepth 20000 in
theorem gX3_unpin_X0_hasPin : GoodIn wsX3_unpin (wsV RX3 189 RX0 yX0_hasPin wsX0_hasPin) := goodIn_app (goodIn_of _ (by decide +kernel)) ggX3_unpin_X0_hasPin
set_option maxRecDepth 20000 in
theorem ggX3_unpin_X1_remember : GoodIn wsX3_unpin wsX1_remember := goodIn_r _ [24, 25, 26, 27, 28, 29, 30, 23, 31, 32, 33, 34, 17, 35, 36, 37, 38, 39, 40, 41, 19, 42, 43, 44, 45, 46, 47, 75, 76, 77, 66, 67, 68, 69, 70, 71, 72, 73, 74] (by decide +kernel) (by decide +kernel)
set_option maxRecDepth 20000 in
theorem gX3_unpin_X1_remember : GoodIn wsX3_unpin (wsV RX3 210 RX1 yX1_remember wsX1_remember) := goodIn_app (goodIn_of _ (by decide +kernel)) ggX3_unpin_X1_remember
set_option maxRecDepth 20000 in
theorem ggX3_unpin_X0_pinSpan : GoodIn wsX3_unpin wsX0_pinSpan := goodIn_r _ [51, 41, 19, 66, 67, 68, 69, 70, 71, 72, 73, 74] (by decide +kernel) (by decide +kernel)
set_option maxRecDepth 20000 in
theorem gX3_unpin_X0_pinSpan : GoodIn wsX3_unpin (wsV RX3 220 RX0 yX0_pinSpan wsX0_pinSpan) := goodIn_app (goodIn_of _ (by decide +kernel)) ggX3_unpin_X0_pinSpan
set_option maxRecDepth 20000 in
theorem ggX3_unpin_X0_countPinned : GoodIn wsX3_unpin wsX0_countPinned := goodIn_r _ [55, 56, 57, 58, 17, 59, 19, 41, 66, 67, 68, 69, 70, 71, 72, 73, 74] (by decide +kernel) (by decide +kernel)
set_option maxRecDepth 20000 in
theorem gX3_unpin_X0_countPinned : GoodIn wsX3_unpin (wsV RX3 133 RX0 yX0_countPinned wsX0_countPinned) := goodIn_app (goodIn_of _ (by decide +kernel)) ggX3_unpin_X0_countPinned
theorem dX3_unpin_0 : decode cX3_unpin 0 = .ok (.iload_n 1, 1) := by decide +kernel
theorem dX3_unpin_1 : decode cX3_unpin 1 = .ok (.invokestatic 184, 3) := by decide +kernel
theorem dX3_unpin_4 : decode cX3_unpin 4 = .ok (.aload_n 0, 1) := by decide +kernel
theorem dX3_unpin_5 : decode cX3_unpin 5 = .ok (.getfield 19, 3) := by decide +kernel
theorem dX3_unpin_8 : decode cX3_unpin 8 = .ok (.iload_n 1, 1) := by decide +kernel
theorem dX3_unpin_9 : decode cX3_unpin 9 = .ok (.invokevirtual 189, 3) := by decide +kernel
theorem dX3_unpin_12 : decode cX3_unpin 12 = .ok (.ifCond .ne 13, 3) := by decide +kernel
theorem dX3_unpin_15 : decode cX3_unpin 15 = .ok (.new 52, 3) := by decide +kernel
theorem dX3_unpin_18 : decode cX3_unpin 18 = .ok (.dup, 1) := by decide +kernel
theorem dX3_unpin_19 : decode cX3_unpin 19 = .ok (.ldc 224, 2) := by decide +kernel
theorem dX3_unpin_21 : decode cX3_unpin 21 = .ok (.invokespecial 56, 3) := by decide +kernel
theorem dX3_unpin_24 : decode cX3_unpin 24 = .ok (.athrow, 1) := by decide +kernel
theorem dX3_unpin_25 : decode cX3_unpin 25 = .ok (.aload_n 0, 1) := by decide +kernel
theorem dX3_unpin_26 : decode cX3_unpin 26 = .ok (.getfield 29, 3) := by decide +kernel
theorem dX3_unpin_29 : decode cX3_unpin 29 = .ok (.aload_n 0, 1) := by decide +kernel
theorem dX3_unpin_30 : decode cX3_unpin 30 = .ok (.getfield 19, 3) := by decide +kernel
theorem dX3_unpin_33 : decode cX3_unpin 33 = .ok (.invokevirtual 210, 3) := by decide +kernel
theorem dX3_unpin_36 : decode cX3_unpin 36 = .ok (.aload_n 0, 1) := by decide +kernel
theorem dX3_unpin_37 : decode cX3_unpin 37 = .ok (.getfield 19, 3) := by decide +kernel
theorem dX3_unpin_40 : decode cX3_unpin 40 = .ok (.iload_n 1, 1) := by decide +kernel
theorem dX3_unpin_41 : decode cX3_unpin 41 = .ok (.iconst 0, 1) := by decide +kernel
theorem dX3_unpin_42 : decode cX3_unpin 42 = .ok (.iconst 0, 1) := by decide +kernel
theorem dX3_unpin_43 : decode cX3_unpin 43 = .ok (.invokevirtual 220, 3) := by decide +kernel
theorem dX3_unpin_46 : decode cX3_unpin 46 = .ok (.aload_n 0, 1) := by decide +kernel
theorem dX3_unpin_47 : decode cX3_unpin 47 = .ok (.getfield 19, 3) := by decide +kernel
theorem dX3_unpin_50 : decode cX3_unpin 50 = .ok (.invokevirtual 133, 3) := by decide +kernel
theorem dX3_unpin_53 : decode cX3_unpin 53 = .ok (.ireturn, 1) := by decide +kernel
set_option maxRecDepth 20000 in
theorem ggX3_run_X3_checkTicks : GoodIn wsX3_run wsX3_checkTicks := goodIn_ca (goodIn_r _ [6, 7, 8, 9, 10, 5, 11] (by decide +kernel) (by decide +kernel)) (goodIn_sub (fun _ h => List.mem_cons_of_mem _ (List.mem_append_right _ h)) (by decide +kernel))
set_option maxRecDepth 20000 in
theorem gX3_run_X3_checkTicks : GoodIn wsX3_run (va_wsS RX3 226 yX3_checkTicks wsX3_checkTicks) := goodIn_app (goodIn_of _ (by decide +kernel)) ggX3_run_X3_checkTicks
set_option maxRecDepth 20000 in
theorem ggX3_run_X1_remember : GoodIn wsX3_run wsX1_remember := goodIn_r _ [16, 17, 18, 19, 20, 21, 22, 15, 23, 24, 25, 26, 27, 28, 29, 30, 31, 32, 33, 34, 35, 36, 37, 38, 39, 40, 41, 108, 109, 110, 111, 112, 113, 114, 115, 116, 117, 118, 119] (by decide +kernel) (by decide +kernel)
set_option maxRecDepth 20000 in
theorem gX3_run_X1_remember : GoodIn wsX3_run (wsV RX3 210 RX1 yX1_remember wsX1_remember) := goodIn_app (goodIn_of _ (by decide +kernel)) ggX3_run_X1_remember
set_option maxRecDepth 20000 in
theorem ggX3_run_X0_passTicks : GoodIn wsX3_run wsX0_passTicks := goodIn_r _ [45, 40, 46, 47, 48, 27, 49, 36, 37, 38, 50, 51, 52, 53, 54, 55, 56, 57, 29, 58, 59, 60, 61, 62, 63, 64, 65, 66, 67, 68, 69, 70, 71, 72, 73, 35, 34, 74, 75, 76, 77, 78, 79, 80, 81, 82, 83, 84, 85, 86, 87, 88, 89, 39, 90, 91, 92, 93, 41, 94, 95, 96, 97, 98, 99, 100, 101, 111, 112, 113, 114, 115, 116, 117, 118, 119] (by decide +kernel) (by decide +kernel)
set_option maxRecDepth 20000 in
theorem gX3_run_X0_passTicks : GoodIn wsX3_run (wsV RX3 99 RX0 yX0_passTicks wsX0_passTicks) := goodIn_app (goodIn_of _ (by decide +kernel)) ggX3_run_X0_passTicks
theorem dX3_run_0 : decode cX3_run 0 = .ok (.iload_n 1, 1) := by decide +kernel
theorem dX3_run_1 : decode cX3_run 1 = .ok (.bipush 60, 2) := by decide +kernel
theorem dX3_run_3 : decode cX3_run 3 = .ok (.invokestatic 226, 3) := by decide +kernel
theorem dX3_run_6 : decode cX3_run 6 = .ok (.aload_n 0, 1) := by decide +kernel
theorem dX3_run_7 : decode cX3_run 7 = .ok (.getfield 29, 3) := by decide +kernel
theorem dX3_run_10 : decode cX3_run 10 = .ok (.aload_n 0, 1) := by decide +kernel
theorem dX3_run_11 : decode cX3_run 11 = .ok (.getfield 19, 3) := by decide +kernel
theorem dX3_run_14 : decode cX3_run 14 = .ok (.invokevirtual 210, 3) := by decide +kernel
theorem dX3_run_17 : decode cX3_run 17 = .ok (.aload_n 0, 1) := by decide +kernel
theorem dX3_run_18 : decode cX3_run 18 = .ok (.getfield 19, 3) := by decide +kernel
theorem dX3_run_21 : decode cX3_run 21 = .ok (.iload_n 1, 1) := by decide +kernel
theorem dX3_run_22 : decode cX3_run 22 = .ok (.invokevirtual 99, 3) := by decide +kernel
theorem dX3_run_25 : decode cX3_run 25 = .ok (.ireturn, 1) := by decide +kernel
set_option maxRecDepth 20000 in
theorem ggX3_flush_X1_remember : GoodIn wsX3_flush wsX1_remember := goodIn_r _ [7, 8, 9, 10, 11, 12, 13, 6, 14, 15, 16, 17, 18, 19, 20, 21, 22, 23, 24, 25, 26, 27, 28, 29, 30, 31, 32, 83, 84, 85, 86, 87, 88, 89, 90, 91, 92, 93, 94] (by decide +kernel) (by decide +kernel)
set_option maxRecDepth 20000 in
theorem gX3_flush_X1_remember : GoodIn wsX3_flush (wsV RX3 210 RX1 yX1_remember wsX1_remember) := goodIn_app (goodIn_of _ (by decide +kernel)) ggX3_flush_X1_remember
set_option maxRecDepth 20000 in
theorem ggX3_flush_X0_sendAll : GoodIn wsX3_flush wsX0_sendAll := goodIn_r _ [36, 30, 37, 38, 39, 18, 40, 27, 20, 41, 42, 43, 44, 28, 45, 46, 47, 48, 49, 50, 51, 52, 53, 54, 55, 56, 26, 25, 57, 58, 59, 60, 61, 62, 63, 64, 31, 65, 66, 67, 68, 32, 69, 70, 71, 72, 73, 74, 75, 76, 86, 87, 88, 89, 90, 91, 92, 93, 94] (by decide +kernel) (by decide +kernel)
set_option maxRecDepth 20000 in
theorem gX3_flush_X0_sendAll : GoodIn wsX3_flush (wsV RX3 229 RX0 yX0_sendAll wsX0_sendAll) := goodIn_app (goodIn_of _ (by decide +kernel)) ggX3_flush_X0_sendAll
theorem dX3_flush_0 : decode cX3_flush 0 = .ok (.aload_n 0, 1) := by decide +kernel
theorem dX3_flush_1 : decode cX3_flush 1 = .ok (.getfield 29, 3) := by decide +kernel
theorem dX3_flush_4 : decode cX3_flush 4 = .ok (.aload_n 0, 1) := by decide +kernel
theorem dX3_flush_5 : decode cX3_flush 5 = .ok (.getfield 19, 3) := by decide +kernel
theorem dX3_flush_8 : decode cX3_flush 8 = .ok (.invokevirtual 210, 3) := by decide +kernel
theorem dX3_flush_11 : decode cX3_flush 11 = .ok (.aload_n 0, 1) := by decide +kernel
theorem dX3_flush_12 : decode cX3_flush 12 = .ok (.getfield 19, 3) := by decide +kernel
theorem dX3_flush_15 : decode cX3_flush 15 = .ok (.invokevirtual 229, 3) := by decide +kernel
theorem dX3_flush_18 : decode cX3_flush 18 = .ok (.ireturn, 1) := by decide +kernel
set_option maxRecDepth 20000 in
theorem ggX3_set_X3_isValue : GoodIn wsX3_set wsX3_isValue := goodIn_r _ [8, 9, 10, 11, 7, 12] (by decide +kernel) (by decide +kernel)
set_option maxRecDepth 20000 in
theorem gX3_set_X3_isValue : GoodIn wsX3_set (va_wsS RX3 232 yX3_isValue wsX3_isValue) := goodIn_app (goodIn_of _ (by decide +kernel)) ggX3_set_X3_isValue
set_option maxRecDepth 20000 in
theorem ggX3_set_X1_remember : GoodIn wsX3_set wsX1_remember := goodIn_r _ [17, 18, 19, 20, 21, 22, 23, 16, 24, 25, 26, 27, 28, 29, 30, 31, 32, 33, 34, 35, 36, 37, 38, 39, 40, 41, 42, 57, 58, 59, 60, 61, 62, 63, 64, 65, 66, 67, 68] (by decide +kernel) (by decide +kernel)
set_option maxRecDepth 20000 in
theorem gX3_set_X1_remember : GoodIn wsX3_set (wsV RX3 210 RX1 yX1_remember wsX1_remember) := goodIn_app (goodIn_of _ (by decide +kernel)) ggX3_set_X1_remember
set_option maxRecDepth 20000 in
theorem ggX3_set_X0_settingAt : GoodIn wsX3_set wsX0_settingAt := goodIn_r _ [46, 37, 60, 61, 62, 63, 64, 65, 66, 67, 68] (by decide +kernel) (by decide +kernel)
set_option maxRecDepth 20000 in
theorem gX3_set_X0_settingAt : GoodIn wsX3_set (wsV RX3 203 RX0 yX0_settingAt wsX0_settingAt) := goodIn_app (goodIn_of _ (by decide +kernel)) ggX3_set_X0_settingAt
set_option maxRecDepth 20000 in
theorem ggX3_set_X0_changeSetting : GoodIn wsX3_set wsX0_changeSetting := goodIn_r _ [50, 37, 60, 61, 62, 63, 64, 65, 66, 67, 68] (by decide +kernel) (by decide +kernel)
set_option maxRecDepth 20000 in
theorem gX3_set_X0_changeSetting : GoodIn wsX3_set (wsV RX3 237 RX0 yX0_changeSetting wsX0_changeSetting) := goodIn_app (goodIn_of _ (by decide +kernel)) ggX3_set_X0_changeSetting
theorem dX3_set_0 : decode cX3_set 0 = .ok (.iload_n 1, 1) := by decide +kernel
theorem dX3_set_1 : decode cX3_set 1 = .ok (.iload_n 2, 1) := by decide +kernel
theorem dX3_set_2 : decode cX3_set 2 = .ok (.invokestatic 232, 3) := by decide +kernel
theorem dX3_set_5 : decode cX3_set 5 = .ok (.ifCond .ne 13, 3) := by decide +kernel
theorem dX3_set_8 : decode cX3_set 8 = .ok (.new 41, 3) := by decide +kernel
theorem dX3_set_11 : decode cX3_set 11 = .ok (.dup, 1) := by decide +kernel
theorem dX3_set_12 : decode cX3_set 12 = .ok (.ldc 235, 2) := by decide +kernel
theorem dX3_set_14 : decode cX3_set 14 = .ok (.invokespecial 45, 3) := by decide +kernel
theorem dX3_set_17 : decode cX3_set 17 = .ok (.athrow, 1) := by decide +kernel
theorem dX3_set_18 : decode cX3_set 18 = .ok (.aload_n 0, 1) := by decide +kernel
theorem dX3_set_19 : decode cX3_set 19 = .ok (.getfield 29, 3) := by decide +kernel
theorem dX3_set_22 : decode cX3_set 22 = .ok (.aload_n 0, 1) := by decide +kernel
theorem dX3_set_23 : decode cX3_set 23 = .ok (.getfield 19, 3) := by decide +kernel
theorem dX3_set_26 : decode cX3_set 26 = .ok (.invokevirtual 210, 3) := by decide +kernel
theorem dX3_set_29 : decode cX3_set 29 = .ok (.aload_n 0, 1) := by decide +kernel
theorem dX3_set_30 : decode cX3_set 30 = .ok (.getfield 19, 3) := by decide +kernel
theorem dX3_set_33 : decode cX3_set 33 = .ok (.iload_n 1, 1) := by decide +kernel
theorem dX3_set_34 : decode cX3_set 34 = .ok (.invokevirtual 203, 3) := by decide +kernel
theorem dX3_set_37 : decode cX3_set 37 = .ok (.istore_n 3, 1) := by decide +kernel
theorem dX3_set_38 : decode cX3_set 38 = .ok (.aload_n 0, 1) := by decide +kernel
theorem dX3_set_39 : decode cX3_set 39 = .ok (.getfield 19, 3) := by decide +kernel
theorem dX3_set_42 : decode cX3_set 42 = .ok (.iload_n 1, 1) := by decide +kernel
theorem dX3_set_43 : decode cX3_set 43 = .ok (.iload_n 2, 1) := by decide +kernel
theorem dX3_set_44 : decode cX3_set 44 = .ok (.invokevirtual 237, 3) := by decide +kernel
theorem dX3_set_47 : decode cX3_set 47 = .ok (.iload_n 3, 1) := by decide +kernel
theorem dX3_set_48 : decode cX3_set 48 = .ok (.ireturn, 1) := by decide +kernel
set_option maxRecDepth 20000 in
theorem ggX3_undo_X1_size : GoodIn wsX3_undo wsX1_size := goodIn_r _ [9, 10, 45, 46, 47] (by decide +kernel) (by decide +kernel)
set_option maxRecDepth 20000 in
theorem gX3_undo_X1_size : GoodIn wsX3_undo (wsV RX3 240 RX1 yX1_size wsX1_size) := goodIn_app (goodIn_of _ (by decide +kernel)) ggX3_undo_X1_size
set_option maxRecDepth 20000 in
theorem ggX3_undo_X1_takeBack : GoodIn wsX3_undo wsX1_takeBack := goodIn_r _ [14, 15, 10, 16, 17, 18, 8, 19, 20, 21, 22, 23, 24, 25, 26, 27, 28, 29, 30, 31, 32, 33, 34, 35, 36, 37, 38, 45, 46, 47, 48, 49, 50, 51, 52, 53, 54, 55, 56] (by decide +kernel) (by decide +kernel)
set_option maxRecDepth 20000 in
theorem gX3_undo_X1_takeBack : GoodIn wsX3_undo (wsV RX3 245 RX1 yX1_takeBack wsX1_takeBack) := goodIn_app (goodIn_of _ (by decide +kernel)) ggX3_undo_X1_takeBack
theorem dX3_undo_0 : decode cX3_undo 0 = .ok (.aload_n 0, 1) := by decide +kernel
theorem dX3_undo_1 : decode cX3_undo 1 = .ok (.getfield 29, 3) := by decide +kernel
theorem dX3_undo_4 : decode cX3_undo 4 = .ok (.invokevirtual 240, 3) := by decide +kernel
theorem dX3_undo_7 : decode cX3_undo 7 = .ok (.ifCond .ne 13, 3) := by decide +kernel
theorem dX3_undo_10 : decode cX3_undo 10 = .ok (.new 52, 3) := by decide +kernel
theorem dX3_undo_13 : decode cX3_undo 13 = .ok (.dup, 1) := by decide +kernel
theorem dX3_undo_14 : decode cX3_undo 14 = .ok (.ldc 243, 2) := by decide +kernel
theorem dX3_undo_16 : decode cX3_undo 16 = .ok (.invokespecial 56, 3) := by decide +kernel
theorem dX3_undo_19 : decode cX3_undo 19 = .ok (.athrow, 1) := by decide +kernel
theorem dX3_undo_20 : decode cX3_undo 20 = .ok (.aload_n 0, 1) := by decide +kernel
theorem dX3_undo_21 : decode cX3_undo 21 = .ok (.getfield 29, 3) := by decide +kernel
theorem dX3_undo_24 : decode cX3_undo 24 = .ok (.aload_n 0, 1) := by decide +kernel
theorem dX3_undo_25 : decode cX3_undo 25 = .ok (.getfield 19, 3) := by decide +kernel
theorem dX3_undo_28 : decode cX3_undo 28 = .ok (.invokevirtual 245, 3) := by decide +kernel
theorem dX3_undo_31 : decode cX3_undo 31 = .ok (.aload_n 0, 1) := by decide +kernel
theorem dX3_undo_32 : decode cX3_undo 32 = .ok (.getfield 29, 3) := by decide +kernel
theorem dX3_undo_35 : decode cX3_undo 35 = .ok (.invokevirtual 240, 3) := by decide +kernel
theorem dX3_undo_38 : decode cX3_undo 38 = .ok (.ireturn, 1) := by decide +kernel
set_option maxRecDepth 20000 in
theorem ggX3_next_X0_copyFrom : GoodIn wsX3_next wsX0_copyFrom := goodIn_r _ [9, 10, 11, 12, 13, 14, 15, 16, 17, 18, 19, 20, 21, 22, 103, 104, 105, 106, 107, 108, 109, 110, 111] (by decide +kernel) (by decide +kernel)
set_option maxRecDepth 20000 in
theorem gX3_next_X0_copyFrom : GoodIn wsX3_next (wsV RX3 250 RX0 yX0_copyFrom wsX0_copyFrom) := goodIn_app (goodIn_of _ (by decide +kernel)) ggX3_next_X0_copyFrom
set_option maxRecDepth 20000 in
theorem ggX3_next_X0_pieceOfTick : GoodIn wsX3_next wsX0_pieceOfTick := goodIn_r _ [26, 17, 27, 28, 29, 8, 30, 19, 31, 32, 33, 34, 10, 35, 36, 37, 38, 18, 39, 40, 41, 42, 43, 44, 45, 46, 47, 48, 49, 50, 16, 15, 103, 104, 105, 106, 107, 108, 109, 110, 111] (by decide +kernel) (by decide +kernel)
set_option maxRecDepth 20000 in
theorem gX3_next_X0_pieceOfTick : GoodIn wsX3_next (wsV RX3 253 RX0 yX0_pieceOfTick wsX0_pieceOfTick) := goodIn_app (goodIn_of _ (by decide +kernel)) ggX3_next_X0_pieceOfTick
set_option maxRecDepth 20000 in
theorem ggX3_next_X3_ofCommand : GoodIn wsX3_next wsX3_ofCommand := goodIn_r _ [55, 3, 56, 44, 45, 8, 46, 17, 57, 58, 59, 60, 27, 28, 29, 30, 19, 61, 62, 63, 64, 65, 66, 67, 68, 69, 70, 71, 72, 39, 40, 41, 42, 10, 43, 47, 48, 49, 50, 16, 15, 73, 74, 75, 76, 18, 97, 98, 99, 100, 101, 102, 103, 104, 105, 106, 107, 108, 109, 110, 111] (by decide +kernel) (by decide +kernel)
set_option maxRecDepth 20000 in
theorem gX3_next_X3_ofCommand : GoodIn wsX3_next (wsV RX3 256 RX3 yX3_ofCommand wsX3_ofCommand) := goodIn_app (goodIn_of _ (by decide +kernel)) ggX3_next_X3_ofCommand
set_option maxRecDepth 20000 in
theorem ggX3_next_X0_tick : GoodIn wsX3_next wsX0_tick := goodIn_r _ [80, 17, 18, 19, 27, 28, 29, 8, 30, 31, 32, 33, 34, 10, 35, 36, 37, 38, 39, 40, 41, 42, 43, 44, 45, 46, 47, 48, 49, 50, 16, 15, 61, 62, 63, 64, 65, 66, 67, 68, 69, 70, 71, 72, 81, 82, 83, 84, 20, 21, 85, 86, 87, 88, 22, 89, 90, 91, 92, 93, 94, 95, 96, 103, 104, 105, 106, 107, 108, 109, 110, 111] (by decide +kernel) (by decide +kernel)
set_option maxRecDepth 20000 in
theorem gX3_next_X0_tick : GoodIn wsX3_next (wsV RX3 259 RX0 yX0_tick wsX0_tick) := goodIn_app (goodIn_of _ (by decide +kernel)) ggX3_next_X0_tick
theorem dX3_next_0 : decode cX3_next 0 = .ok (.iload_n 1, 1) := by decide +kernel
theorem dX3_next_1 : decode cX3_next 1 = .ok (.ifCond .lt 8, 3) := by decide +kernel
theorem dX3_next_4 : decode cX3_next 4 = .ok (.iload_n 1, 1) := by decide +kernel
theorem dX3_next_5 : decode cX3_next 5 = .ok (.iconst 2, 1) := by decide +kernel
theorem dX3_next_6 : decode cX3_next 6 = .ok (.if_icmp .le 13, 3) := by decide +kernel
theorem dX3_next_9 : decode cX3_next 9 = .ok (.new 41, 3) := by decide +kernel
theorem dX3_next_12 : decode cX3_next 12 = .ok (.dup, 1) := by decide +kernel
theorem dX3_next_13 : decode cX3_next 13 = .ok (.ldc 248, 2) := by decide +kernel
theorem dX3_next_15 : decode cX3_next 15 = .ok (.invokespecial 45, 3) := by decide +kernel
theorem dX3_next_18 : decode cX3_next 18 = .ok (.athrow, 1) := by decide +kernel
theorem dX3_next_19 : decode cX3_next 19 = .ok (.aload_n 0, 1) := by decide +kernel
theorem dX3_next_20 : decode cX3_next 20 = .ok (.getfield 23, 3) := by decide +kernel
theorem dX3_next_23 : decode cX3_next 23 = .ok (.aload_n 0, 1) := by decide +kernel
theorem dX3_next_24 : decode cX3_next 24 = .ok (.getfield 19, 3) := by decide +kernel
theorem dX3_next_27 : decode cX3_next 27 = .ok (.invokevirtual 250, 3) := by decide +kernel
theorem dX3_next_30 : decode cX3_next 30 = .ok (.iconst 0, 1) := by decide +kernel
theorem dX3_next_31 : decode cX3_next 31 = .ok (.istore_n 2, 1) := by decide +kernel
theorem dX3_next_32 : decode cX3_next 32 = .ok (.iload_n 2, 1) := by decide +kernel
theorem dX3_next_33 : decode cX3_next 33 = .ok (.bipush 100, 2) := by decide +kernel
theorem dX3_next_35 : decode cX3_next 35 = .ok (.if_icmp .ge 36, 3) := by decide +kernel
theorem dX3_next_38 : decode cX3_next 38 = .ok (.aload_n 0, 1) := by decide +kernel
theorem dX3_next_39 : decode cX3_next 39 = .ok (.getfield 23, 3) := by decide +kernel
theorem dX3_next_42 : decode cX3_next 42 = .ok (.invokevirtual 253, 3) := by decide +kernel
theorem dX3_next_45 : decode cX3_next 45 = .ok (.istore_n 3, 1) := by decide +kernel
theorem dX3_next_46 : decode cX3_next 46 = .ok (.iload_n 3, 1) := by decide +kernel
theorem dX3_next_47 : decode cX3_next 47 = .ok (.iconst (-1), 1) := by decide +kernel
theorem dX3_next_48 : decode cX3_next 48 = .ok (.if_icmp .eq 10, 3) := by decide +kernel
theorem dX3_next_51 : decode cX3_next 51 = .ok (.aload_n 0, 1) := by decide +kernel
theorem dX3_next_52 : decode cX3_next 52 = .ok (.iload_n 3, 1) := by decide +kernel
theorem dX3_next_53 : decode cX3_next 53 = .ok (.iload_n 1, 1) := by decide +kernel
theorem dX3_next_54 : decode cX3_next 54 = .ok (.invokevirtual 256, 3) := by decide +kernel
theorem dX3_next_57 : decode cX3_next 57 = .ok (.ireturn, 1) := by decide +kernel
theorem dX3_next_58 : decode cX3_next 58 = .ok (.aload_n 0, 1) := by decide +kernel
theorem dX3_next_59 : decode cX3_next 59 = .ok (.getfield 23, 3) := by decide +kernel
theorem dX3_next_62 : decode cX3_next 62 = .ok (.invokevirtual 259, 3) := by decide +kernel
theorem dX3_next_65 : decode cX3_next 65 = .ok (.iinc 2 1, 3) := by decide +kernel
theorem dX3_next_68 : decode cX3_next 68 = .ok (.goto (-36), 3) := by decide +kernel
theorem dX3_next_71 : decode cX3_next 71 = .ok (.iconst (-1), 1) := by decide +kernel
theorem dX3_next_72 : decode cX3_next 72 = .ok (.ireturn, 1) := by decide +kernel
set_option maxRecDepth 20000 in
theorem ggX3_ofCommand_X0_granuleSize : GoodIn wsX3_ofCommand wsX0_granuleSize := goodIn_r _ [6, 7, 52, 53, 54, 55, 56, 57, 58, 59, 60] (by decide +kernel) (by decide +kernel)
set_option maxRecDepth 20000 in
theorem gX3_ofCommand_X0_granuleSize : GoodIn wsX3_ofCommand (wsV RX3 262 RX0 yX0_granuleSize wsX0_granuleSize) := goodIn_app (goodIn_of _ (by decide +kernel)) ggX3_ofCommand_X0_granuleSize
set_option maxRecDepth 20000 in
theorem ggX3_ofCommand_X0_granulesOfTick : GoodIn wsX3_ofCommand wsX0_granulesOfTick := goodIn_r _ [11, 12, 13, 14, 5, 15, 16, 7, 17, 18, 19, 20, 21, 22, 23, 24, 25, 26, 27, 28, 29, 30, 31, 32, 33, 34, 3, 4, 6, 35, 36, 37, 38, 39, 40, 52, 53, 54, 55, 56, 57, 58, 59, 60] (by decide +kernel) (by decide +kernel)
set_option maxRecDepth 20000 in
theorem gX3_ofCommand_X0_granulesOfTick : GoodIn wsX3_ofCommand (wsV RX3 265 RX0 yX0_granulesOfTick wsX0_granulesOfTick) := goodIn_app (goodIn_of _ (by decide +kernel)) ggX3_ofCommand_X0_granulesOfTick
set_option maxRecDepth 20000 in
theorem ggX3_ofCommand_X0_time : GoodIn wsX3_ofCommand wsX0_time := goodIn_r _ [44, 45, 52, 53, 54, 55, 56, 57, 58, 59, 60] (by decide +kernel) (by decide +kernel)
set_option maxRecDepth 20000 in
theorem gX3_ofCommand_X0_time : GoodIn wsX3_ofCommand (wsV RX3 118 RX0 yX0_time wsX0_time) := goodIn_app (goodIn_of _ (by decide +kernel)) ggX3_ofCommand_X0_time
theorem dX3_ofCommand_0 : decode cX3_ofCommand 0 = .ok (.iload_n 2, 1) := by decide +kernel
theorem dX3_ofCommand_1 : decode cX3_ofCommand 1 = .ok (.lookupswitch 54 #[(0, 27), (1, 37)], 27) := by decide +kernel
theorem dX3_ofCommand_28 : decode cX3_ofCommand 28 = .ok (.iload_n 1, 1) := by decide +kernel
theorem dX3_ofCommand_29 : decode cX3_ofCommand 29 = .ok (.aload_n 0, 1) := by decide +kernel
theorem dX3_ofCommand_30 : decode cX3_ofCommand 30 = .ok (.getfield 23, 3) := by decide +kernel
theorem dX3_ofCommand_33 : decode cX3_ofCommand 33 = .ok (.invokevirtual 262, 3) := by decide +kernel
theorem dX3_ofCommand_36 : decode cX3_ofCommand 36 = .ok (.imul, 1) := by decide +kernel
theorem dX3_ofCommand_37 : decode cX3_ofCommand 37 = .ok (.ireturn, 1) := by decide +kernel
theorem dX3_ofCommand_38 : decode cX3_ofCommand 38 = .ok (.aload_n 0, 1) := by decide +kernel
theorem dX3_ofCommand_39 : decode cX3_ofCommand 39 = .ok (.getfield 23, 3) := by decide +kernel
theorem dX3_ofCommand_42 : decode cX3_ofCommand 42 = .ok (.iload_n 1, 1) := by decide +kernel
theorem dX3_ofCommand_43 : decode cX3_ofCommand 43 = .ok (.invokevirtual 265, 3) := by decide +kernel
theorem dX3_ofCommand_46 : decode cX3_ofCommand 46 = .ok (.aload_n 0, 1) := by decide +kernel
theorem dX3_ofCommand_47 : decode cX3_ofCommand 47 = .ok (.getfield 23, 3) := by decide +kernel
theorem dX3_ofCommand_50 : decode cX3_ofCommand 50 = .ok (.invokevirtual 262, 3) := by decide +kernel
theorem dX3_ofCommand_53 : decode cX3_ofCommand 53 = .ok (.imul, 1) := by decide +kernel
theorem dX3_ofCommand_54 : decode cX3_ofCommand 54 = .ok (.ireturn, 1) := by decide +kernel
theorem dX3_ofCommand_55 : decode cX3_ofCommand 55 = .ok (.aload_n 0, 1) := by decide +kernel
theorem dX3_ofCommand_56 : decode cX3_ofCommand 56 = .ok (.getfield 23, 3) := by decide +kernel
theorem dX3_ofCommand_59 : decode cX3_ofCommand 59 = .ok (.invokevirtual 118, 3) := by decide +kernel
theorem dX3_ofCommand_62 : decode cX3_ofCommand 62 = .ok (.ireturn, 1) := by decide +kernel
set_option maxRecDepth 20000 in
theorem ggX3_goneIn_X3_checkBlock : GoodIn wsX3_goneIn wsX3_checkBlock := goodIn_ca (goodIn_r _ [6, 7, 8, 9, 10, 5, 11] (by decide +kernel) (by decide +kernel)) (goodIn_sub (fun _ h => List.mem_cons_of_mem _ (List.mem_append_right _ h)) (by decide +kernel))
set_option maxRecDepth 20000 in
theorem gX3_goneIn_X3_checkBlock : GoodIn wsX3_goneIn (va_wsS RX3 138 yX3_checkBlock wsX3_checkBlock) := goodIn_app (goodIn_of _ (by decide +kernel)) ggX3_goneIn_X3_checkBlock
set_option maxRecDepth 20000 in
theorem ggX3_goneIn_X0_copyFrom : GoodIn wsX3_goneIn wsX0_copyFrom := goodIn_r _ [16, 17, 18, 19, 20, 21, 22, 23, 24, 25, 26, 27, 28, 29, 104, 105, 106, 107, 108, 109, 110, 111, 112] (by decide +kernel) (by decide +kernel)
set_option maxRecDepth 20000 in
theorem gX3_goneIn_X0_copyFrom : GoodIn wsX3_goneIn (wsV RX3 250 RX0 yX0_copyFrom wsX0_copyFrom) := goodIn_app (goodIn_of _ (by decide +kernel)) ggX3_goneIn_X0_copyFrom
set_option maxRecDepth 20000 in
theorem ggX3_goneIn_X0_isQueued : GoodIn wsX3_goneIn wsX0_isQueued := goodIn_r _ [33, 17, 104, 105, 106, 107, 108, 109, 110, 111, 112] (by decide +kernel) (by decide +kernel)
set_option maxRecDepth 20000 in
theorem gX3_goneIn_X0_isQueued : GoodIn wsX3_goneIn (wsV RX3 268 RX0 yX0_isQueued wsX0_isQueued) := goodIn_app (goodIn_of _ (by decide +kernel)) ggX3_goneIn_X0_isQueued
set_option maxRecDepth 20000 in
theorem ggX3_goneIn_X0_tick : GoodIn wsX3_goneIn wsX0_tick := goodIn_r _ [37, 24, 25, 26, 38, 39, 40, 15, 41, 42, 43, 44, 45, 17, 46, 47, 48, 49, 50, 51, 52, 53, 54, 55, 56, 57, 58, 59, 60, 61, 23, 22, 62, 63, 64, 65, 66, 67, 68, 69, 70, 71, 72, 73, 74, 75, 76, 77, 27, 28, 78, 79, 80, 81, 29, 82, 83, 84, 85, 86, 87, 88, 89, 104, 105, 106, 107, 108, 109, 110, 111, 112] (by decide +kernel) (by decide +kernel)
set_option maxRecDepth 20000 in
theorem gX3_goneIn_X0_tick : GoodIn wsX3_goneIn (wsV RX3 259 RX0 yX0_tick wsX0_tick) := goodIn_app (goodIn_of _ (by decide +kernel)) ggX3_goneIn_X0_tick
set_option maxRecDepth 20000 in
theorem ggX3_goneIn_X0_isHeld : GoodIn wsX3_goneIn wsX0_isHeld := goodIn_r _ [93, 17, 104, 105, 106, 107, 108, 109, 110, 111, 112] (by decide +kernel) (by decide +kernel)
set_option maxRecDepth 20000 in
theorem gX3_goneIn_X0_isHeld : GoodIn wsX3_goneIn (wsV RX3 146 RX0 yX0_isHeld wsX0_isHeld) := goodIn_app (goodIn_of _ (by decide +kernel)) ggX3_goneIn_X0_isHeld
set_option maxRecDepth 20000 in
theorem ggX3_goneIn_X0_time : GoodIn wsX3_goneIn wsX0_time := goodIn_r _ [97, 25, 104, 105, 106, 107, 108, 109, 110, 111, 112] (by decide +kernel) (by decide +kernel)
set_option maxRecDepth 20000 in
theorem gX3_goneIn_X0_time : GoodIn wsX3_goneIn (wsV RX3 118 RX0 yX0_time wsX0_time) := goodIn_app (goodIn_of _ (by decide +kernel)) ggX3_goneIn_X0_time
theorem dX3_goneIn_0 : decode cX3_goneIn 0 = .ok (.iload_n 1, 1) := by decide +kernel
theorem dX3_goneIn_1 : decode cX3_goneIn 1 = .ok (.invokestatic 138, 3) := by decide +kernel
theorem dX3_goneIn_4 : decode cX3_goneIn 4 = .ok (.aload_n 0, 1) := by decide +kernel
theorem dX3_goneIn_5 : decode cX3_goneIn 5 = .ok (.getfield 23, 3) := by decide +kernel
theorem dX3_goneIn_8 : decode cX3_goneIn 8 = .ok (.aload_n 0, 1) := by decide +kernel
theorem dX3_goneIn_9 : decode cX3_goneIn 9 = .ok (.getfield 19, 3) := by decide +kernel
theorem dX3_goneIn_12 : decode cX3_goneIn 12 = .ok (.invokevirtual 250, 3) := by decide +kernel
theorem dX3_goneIn_15 : decode cX3_goneIn 15 = .ok (.iconst 0, 1) := by decide +kernel
theorem dX3_goneIn_16 : decode cX3_goneIn 16 = .ok (.istore_n 2, 1) := by decide +kernel
theorem dX3_goneIn_17 : decode cX3_goneIn 17 = .ok (.iload_n 2, 1) := by decide +kernel
theorem dX3_goneIn_18 : decode cX3_goneIn 18 = .ok (.bipush 100, 2) := by decide +kernel
theorem dX3_goneIn_20 : decode cX3_goneIn 20 = .ok (.if_icmp .ge 27, 3) := by decide +kernel
theorem dX3_goneIn_23 : decode cX3_goneIn 23 = .ok (.aload_n 0, 1) := by decide +kernel
theorem dX3_goneIn_24 : decode cX3_goneIn 24 = .ok (.getfield 23, 3) := by decide +kernel
theorem dX3_goneIn_27 : decode cX3_goneIn 27 = .ok (.iload_n 1, 1) := by decide +kernel
theorem dX3_goneIn_28 : decode cX3_goneIn 28 = .ok (.invokevirtual 268, 3) := by decide +kernel
theorem dX3_goneIn_31 : decode cX3_goneIn 31 = .ok (.ifCond .eq 16, 3) := by decide +kernel
theorem dX3_goneIn_34 : decode cX3_goneIn 34 = .ok (.aload_n 0, 1) := by decide +kernel
theorem dX3_goneIn_35 : decode cX3_goneIn 35 = .ok (.getfield 23, 3) := by decide +kernel
theorem dX3_goneIn_38 : decode cX3_goneIn 38 = .ok (.invokevirtual 259, 3) := by decide +kernel
theorem dX3_goneIn_41 : decode cX3_goneIn 41 = .ok (.iinc 2 1, 3) := by decide +kernel
theorem dX3_goneIn_44 : decode cX3_goneIn 44 = .ok (.goto (-27), 3) := by decide +kernel
theorem dX3_goneIn_47 : decode cX3_goneIn 47 = .ok (.aload_n 0, 1) := by decide +kernel
theorem dX3_goneIn_48 : decode cX3_goneIn 48 = .ok (.getfield 23, 3) := by decide +kernel
theorem dX3_goneIn_51 : decode cX3_goneIn 51 = .ok (.iload_n 1, 1) := by decide +kernel
theorem dX3_goneIn_52 : decode cX3_goneIn 52 = .ok (.invokevirtual 146, 3) := by decide +kernel
theorem dX3_goneIn_55 : decode cX3_goneIn 55 = .ok (.ifCond .eq 7, 3) := by decide +kernel
theorem dX3_goneIn_58 : decode cX3_goneIn 58 = .ok (.iconst (-1), 1) := by decide +kernel
theorem dX3_goneIn_59 : decode cX3_goneIn 59 = .ok (.goto 18, 3) := by decide +kernel
theorem dX3_goneIn_62 : decode cX3_goneIn 62 = .ok (.aload_n 0, 1) := by decide +kernel
theorem dX3_goneIn_63 : decode cX3_goneIn 63 = .ok (.getfield 23, 3) := by decide +kernel
theorem dX3_goneIn_66 : decode cX3_goneIn 66 = .ok (.invokevirtual 118, 3) := by decide +kernel
theorem dX3_goneIn_69 : decode cX3_goneIn 69 = .ok (.aload_n 0, 1) := by decide +kernel
theorem dX3_goneIn_70 : decode cX3_goneIn 70 = .ok (.getfield 19, 3) := by decide +kernel
theorem dX3_goneIn_73 : decode cX3_goneIn 73 = .ok (.invokevirtual 118, 3) := by decide +kernel
theorem dX3_goneIn_76 : decode cX3_goneIn 76 = .ok (.isub, 1) := by decide +kernel
theorem dX3_goneIn_77 : decode cX3_goneIn 77 = .ok (.ireturn, 1) := by decide +kernel
set_option maxRecDepth 20000 in
theorem ggX3_coming_X3_checkTicks : GoodIn wsX3_coming wsX3_checkTicks := goodIn_ca (goodIn_r _ [8, 1, 2, 9, 10, 7, 11] (by decide +kernel) (by decide +kernel)) (goodIn_sub (fun _ h => List.mem_cons_of_mem _ (List.mem_append_right _ h)) (by decide +kernel))
set_option maxRecDepth 20000 in
theorem gX3_coming_X3_checkTicks : GoodIn wsX3_coming (va_wsS RX3 226 yX3_checkTicks wsX3_checkTicks) := goodIn_app (goodIn_of _ (by decide +kernel)) ggX3_coming_X3_checkTicks
set_option maxRecDepth 20000 in
theorem ggX3_coming_X0_copyFrom : GoodIn wsX3_coming wsX0_copyFrom := goodIn_r _ [16, 17, 18, 19, 20, 21, 22, 23, 24, 25, 26, 27, 28, 29, 108, 109, 110, 111, 112, 113, 114, 115, 116] (by decide +kernel) (by decide +kernel)
set_option maxRecDepth 20000 in
theorem gX3_coming_X0_copyFrom : GoodIn wsX3_coming (wsV RX3 250 RX0 yX0_copyFrom wsX0_copyFrom) := goodIn_app (goodIn_of _ (by decide +kernel)) ggX3_coming_X0_copyFrom
set_option maxRecDepth 20000 in
theorem ggX3_coming_X0_passTicks : GoodIn wsX3_coming wsX0_passTicks := goodIn_r _ [33, 28, 34, 35, 36, 15, 37, 24, 25, 26, 38, 39, 40, 41, 42, 43, 44, 45, 17, 46, 47, 48, 49, 50, 51, 52, 53, 54, 55, 56, 57, 58, 59, 60, 61, 23, 22, 62, 63, 64, 65, 66, 67, 68, 69, 70, 71, 72, 73, 74, 75, 76, 77, 27, 78, 79, 80, 81, 29, 82, 83, 84, 85, 86, 87, 88, 89, 108, 109, 110, 111, 112, 113, 114, 115, 116] (by decide +kernel) (by decide +kernel)
set_option maxRecDepth 20000 in
theorem gX3_coming_X0_passTicks : GoodIn wsX3_coming (wsV RX3 99 RX0 yX0_passTicks wsX0_passTicks) := goodIn_app (goodIn_of _ (by decide +kernel)) ggX3_coming_X0_passTicks
set_option maxRecDepth 20000 in
theorem ggX3_coming_X0_commands : GoodIn wsX3_coming wsX0_commands := goodIn_r _ [93, 27, 108, 109, 110, 111, 112, 113, 114, 115, 116] (by decide +kernel) (by decide +kernel)
set_option maxRecDepth 20000 in
theorem gX3_coming_X0_commands : GoodIn wsX3_coming (wsV RX3 124 RX0 yX0_commands wsX0_commands) := goodIn_app (goodIn_of _ (by decide +kernel)) ggX3_coming_X0_commands
set_option maxRecDepth 20000 in
theorem ggX3_coming_X0_countRanges : GoodIn wsX3_coming wsX0_countRanges := goodIn_r _ [97, 82, 83, 84, 15, 85, 17, 108, 109, 110, 111, 112, 113, 114, 115, 116] (by decide +kernel) (by decide +kernel)
set_option maxRecDepth 20000 in
theorem gX3_coming_X0_countRanges : GoodIn wsX3_coming (wsV RX3 112 RX0 yX0_countRanges wsX0_countRanges) := goodIn_app (goodIn_of _ (by decide +kernel)) ggX3_coming_X0_countRanges
set_option maxRecDepth 20000 in
theorem ggX3_coming_X0_countQueued : GoodIn wsX3_coming wsX0_countQueued := goodIn_r _ [101, 17, 108, 109, 110, 111, 112, 113, 114, 115, 116] (by decide +kernel) (by decide +kernel)
set_option maxRecDepth 20000 in
theorem gX3_coming_X0_countQueued : GoodIn wsX3_coming (wsV RX3 115 RX0 yX0_countQueued wsX0_countQueued) := goodIn_app (goodIn_of _ (by decide +kernel)) ggX3_coming_X0_countQueued
theorem dX3_coming_0 : decode cX3_coming 0 = .ok (.iload_n 1, 1) := by decide +kernel
theorem dX3_coming_1 : decode cX3_coming 1 = .ok (.bipush 100, 2) := by decide +kernel
theorem dX3_coming_3 : decode cX3_coming 3 = .ok (.invokestatic 226, 3) := by decide +kernel
theorem dX3_coming_6 : decode cX3_coming 6 = .ok (.iload_n 2, 1) := by decide +kernel
theorem dX3_coming_7 : decode cX3_coming 7 = .ok (.ifCond .lt 8, 3) := by decide +kernel
theorem dX3_coming_10 : decode cX3_coming 10 = .ok (.iload_n 2, 1) := by decide +kernel
theorem dX3_coming_11 : decode cX3_coming 11 = .ok (.iconst 3, 1) := by decide +kernel
theorem dX3_coming_12 : decode cX3_coming 12 = .ok (.if_icmp .le 14, 3) := by decide +kernel
theorem dX3_coming_15 : decode cX3_coming 15 = .ok (.new 41, 3) := by decide +kernel
theorem dX3_coming_18 : decode cX3_coming 18 = .ok (.dup, 1) := by decide +kernel
theorem dX3_coming_19 : decode cX3_coming 19 = .ok (.ldc_w 271, 3) := by decide +kernel
theorem dX3_coming_22 : decode cX3_coming 22 = .ok (.invokespecial 45, 3) := by decide +kernel
theorem dX3_coming_25 : decode cX3_coming 25 = .ok (.athrow, 1) := by decide +kernel
theorem dX3_coming_26 : decode cX3_coming 26 = .ok (.aload_n 0, 1) := by decide +kernel
theorem dX3_coming_27 : decode cX3_coming 27 = .ok (.getfield 23, 3) := by decide +kernel
theorem dX3_coming_30 : decode cX3_coming 30 = .ok (.aload_n 0, 1) := by decide +kernel
theorem dX3_coming_31 : decode cX3_coming 31 = .ok (.getfield 19, 3) := by decide +kernel
theorem dX3_coming_34 : decode cX3_coming 34 = .ok (.invokevirtual 250, 3) := by decide +kernel
theorem dX3_coming_37 : decode cX3_coming 37 = .ok (.aload_n 0, 1) := by decide +kernel
theorem dX3_coming_38 : decode cX3_coming 38 = .ok (.getfield 23, 3) := by decide +kernel
theorem dX3_coming_41 : decode cX3_coming 41 = .ok (.iload_n 1, 1) := by decide +kernel
theorem dX3_coming_42 : decode cX3_coming 42 = .ok (.invokevirtual 99, 3) := by decide +kernel
theorem dX3_coming_45 : decode cX3_coming 45 = .ok (.istore_n 3, 1) := by decide +kernel
theorem dX3_coming_46 : decode cX3_coming 46 = .ok (.iload_n 2, 1) := by decide +kernel
theorem dX3_coming_47 : decode cX3_coming 47 = .ok (.tableswitch 51 0 2 #[25, 27, 43], 25) := by decide +kernel
theorem dX3_coming_72 : decode cX3_coming 72 = .ok (.iload_n 3, 1) := by decide +kernel
theorem dX3_coming_73 : decode cX3_coming 73 = .ok (.ireturn, 1) := by decide +kernel
theorem dX3_coming_74 : decode cX3_coming 74 = .ok (.aload_n 0, 1) := by decide +kernel
theorem dX3_coming_75 : decode cX3_coming 75 = .ok (.getfield 23, 3) := by decide +kernel
theorem dX3_coming_78 : decode cX3_coming 78 = .ok (.invokevirtual 124, 3) := by decide +kernel
theorem dX3_coming_81 : decode cX3_coming 81 = .ok (.aload_n 0, 1) := by decide +kernel
theorem dX3_coming_82 : decode cX3_coming 82 = .ok (.getfield 19, 3) := by decide +kernel
theorem dX3_coming_85 : decode cX3_coming 85 = .ok (.invokevirtual 124, 3) := by decide +kernel
theorem dX3_coming_88 : decode cX3_coming 88 = .ok (.isub, 1) := by decide +kernel
theorem dX3_coming_89 : decode cX3_coming 89 = .ok (.ireturn, 1) := by decide +kernel
theorem dX3_coming_90 : decode cX3_coming 90 = .ok (.aload_n 0, 1) := by decide +kernel
theorem dX3_coming_91 : decode cX3_coming 91 = .ok (.getfield 23, 3) := by decide +kernel
theorem dX3_coming_94 : decode cX3_coming 94 = .ok (.invokevirtual 112, 3) := by decide +kernel
theorem dX3_coming_97 : decode cX3_coming 97 = .ok (.ireturn, 1) := by decide +kernel
theorem dX3_coming_98 : decode cX3_coming 98 = .ok (.aload_n 0, 1) := by decide +kernel
theorem dX3_coming_99 : decode cX3_coming 99 = .ok (.getfield 23, 3) := by decide +kernel
theorem dX3_coming_102 : decode cX3_coming 102 = .ok (.invokevirtual 115, 3) := by decide +kernel
theorem dX3_coming_105 : decode cX3_coming 105 = .ok (.ireturn, 1) := by decide +kernel
set_option maxRecDepth 20000 in
theorem ggX3_bestGranule_X3_checkTicks : GoodIn wsX3_bestGranule wsX3_checkTicks := goodIn_ca (goodIn_r _ [7, 8, 9, 10, 11, 6, 12] (by decide +kernel) (by decide +kernel)) (goodIn_sub (fun _ h => List.mem_cons_of_mem _ (List.mem_append_right _ h)) (by decide +kernel))
set_option maxRecDepth 20000 in
theorem gX3_bestGranule_X3_checkTicks : GoodIn wsX3_bestGranule (va_wsS RX3 226 yX3_checkTicks wsX3_checkTicks) := goodIn_app (goodIn_of _ (by decide +kernel)) ggX3_bestGranule_X3_checkTicks
set_option maxRecDepth 20000 in
theorem ggX3_bestGranule_X0_copyFrom : GoodIn wsX3_bestGranule wsX0_copyFrom := goodIn_r _ [17, 18, 19, 20, 21, 22, 23, 24, 25, 26, 27, 28, 29, 30, 101, 102, 103, 104, 105, 106, 107, 108, 109] (by decide +kernel) (by decide +kernel)
set_option maxRecDepth 20000 in
theorem gX3_bestGranule_X0_copyFrom : GoodIn wsX3_bestGranule (wsV RX3 250 RX0 yX0_copyFrom wsX0_copyFrom) := goodIn_app (goodIn_of _ (by decide +kernel)) ggX3_bestGranule_X0_copyFrom
set_option maxRecDepth 20000 in
theorem ggX3_bestGranule_X0_changeSetting : GoodIn wsX3_bestGranule wsX0_changeSetting := goodIn_r _ [34, 25, 101, 102, 103, 104, 105, 106, 107, 108, 109] (by decide +kernel) (by decide +kernel)
set_option maxRecDepth 20000 in
theorem gX3_bestGranule_X0_changeSetting : GoodIn wsX3_bestGranule (wsV RX3 237 RX0 yX0_changeSetting wsX0_changeSetting) := goodIn_app (goodIn_of _ (by decide +kernel)) ggX3_bestGranule_X0_changeSetting
set_option maxRecDepth 20000 in
theorem ggX3_bestGranule_X0_passTicks : GoodIn wsX3_bestGranule wsX0_passTicks := goodIn_r _ [38, 29, 39, 40, 41, 16, 42, 25, 26, 27, 43, 44, 45, 46, 47, 48, 49, 50, 18, 51, 52, 53, 54, 55, 56, 57, 58, 59, 60, 61, 62, 63, 64, 65, 66, 24, 23, 67, 68, 69, 70, 71, 72, 73, 74, 75, 76, 77, 78, 79, 80, 81, 82, 28, 83, 84, 85, 86, 30, 87, 88, 89, 90, 91, 92, 93, 94, 101, 102, 103, 104, 105, 106, 107, 108, 109] (by decide +kernel) (by decide +kernel)
set_option maxRecDepth 20000 in
theorem gX3_bestGranule_X0_passTicks : GoodIn wsX3_bestGranule (wsV RX3 99 RX0 yX0_passTicks wsX0_passTicks) := goodIn_app (goodIn_of _ (by decide +kernel)) ggX3_bestGranule_X0_passTicks
theorem dX3_bestGranule_0 : decode cX3_bestGranule 0 = .ok (.iload_n 1, 1) := by decide +kernel
theorem dX3_bestGranule_1 : decode cX3_bestGranule 1 = .ok (.bipush 60, 2) := by decide +kernel
theorem dX3_bestGranule_3 : decode cX3_bestGranule 3 = .ok (.invokestatic 226, 3) := by decide +kernel
theorem dX3_bestGranule_6 : decode cX3_bestGranule 6 = .ok (.iconst 0, 1) := by decide +kernel
theorem dX3_bestGranule_7 : decode cX3_bestGranule 7 = .ok (.istore_n 2, 1) := by decide +kernel
theorem dX3_bestGranule_8 : decode cX3_bestGranule 8 = .ok (.iconst 0, 1) := by decide +kernel
theorem dX3_bestGranule_9 : decode cX3_bestGranule 9 = .ok (.istore_n 3, 1) := by decide +kernel
theorem dX3_bestGranule_10 : decode cX3_bestGranule 10 = .ok (.iconst 0, 1) := by decide +kernel
theorem dX3_bestGranule_11 : decode cX3_bestGranule 11 = .ok (.istore 4, 2) := by decide +kernel
theorem dX3_bestGranule_13 : decode cX3_bestGranule 13 = .ok (.iload 4, 2) := by decide +kernel
theorem dX3_bestGranule_15 : decode cX3_bestGranule 15 = .ok (.getstatic 273, 3) := by decide +kernel
theorem dX3_bestGranule_18 : decode cX3_bestGranule 18 = .ok (.iconst 0, 1) := by decide +kernel
theorem dX3_bestGranule_19 : decode cX3_bestGranule 19 = .ok (.iaload, 1) := by decide +kernel
theorem dX3_bestGranule_20 : decode cX3_bestGranule 20 = .ok (.if_icmp .gt 52, 3) := by decide +kernel
theorem dX3_bestGranule_23 : decode cX3_bestGranule 23 = .ok (.aload_n 0, 1) := by decide +kernel
theorem dX3_bestGranule_24 : decode cX3_bestGranule 24 = .ok (.getfield 23, 3) := by decide +kernel
theorem dX3_bestGranule_27 : decode cX3_bestGranule 27 = .ok (.aload_n 0, 1) := by decide +kernel
theorem dX3_bestGranule_28 : decode cX3_bestGranule 28 = .ok (.getfield 19, 3) := by decide +kernel
theorem dX3_bestGranule_31 : decode cX3_bestGranule 31 = .ok (.invokevirtual 250, 3) := by decide +kernel
theorem dX3_bestGranule_34 : decode cX3_bestGranule 34 = .ok (.aload_n 0, 1) := by decide +kernel
theorem dX3_bestGranule_35 : decode cX3_bestGranule 35 = .ok (.getfield 23, 3) := by decide +kernel
theorem dX3_bestGranule_38 : decode cX3_bestGranule 38 = .ok (.iconst 0, 1) := by decide +kernel
theorem dX3_bestGranule_39 : decode cX3_bestGranule 39 = .ok (.iload 4, 2) := by decide +kernel
theorem dX3_bestGranule_41 : decode cX3_bestGranule 41 = .ok (.invokevirtual 237, 3) := by decide +kernel
theorem dX3_bestGranule_44 : decode cX3_bestGranule 44 = .ok (.aload_n 0, 1) := by decide +kernel
theorem dX3_bestGranule_45 : decode cX3_bestGranule 45 = .ok (.getfield 23, 3) := by decide +kernel
theorem dX3_bestGranule_48 : decode cX3_bestGranule 48 = .ok (.iload_n 1, 1) := by decide +kernel
theorem dX3_bestGranule_49 : decode cX3_bestGranule 49 = .ok (.invokevirtual 99, 3) := by decide +kernel
theorem dX3_bestGranule_52 : decode cX3_bestGranule 52 = .ok (.istore 5, 2) := by decide +kernel
theorem dX3_bestGranule_54 : decode cX3_bestGranule 54 = .ok (.iload 5, 2) := by decide +kernel
theorem dX3_bestGranule_56 : decode cX3_bestGranule 56 = .ok (.iload_n 3, 1) := by decide +kernel
theorem dX3_bestGranule_57 : decode cX3_bestGranule 57 = .ok (.if_icmp .lt 9, 3) := by decide +kernel
theorem dX3_bestGranule_60 : decode cX3_bestGranule 60 = .ok (.iload 4, 2) := by decide +kernel
theorem dX3_bestGranule_62 : decode cX3_bestGranule 62 = .ok (.istore_n 2, 1) := by decide +kernel
theorem dX3_bestGranule_63 : decode cX3_bestGranule 63 = .ok (.iload 5, 2) := by decide +kernel
theorem dX3_bestGranule_65 : decode cX3_bestGranule 65 = .ok (.istore_n 3, 1) := by decide +kernel
theorem dX3_bestGranule_66 : decode cX3_bestGranule 66 = .ok (.iinc 4 1, 3) := by decide +kernel
theorem dX3_bestGranule_69 : decode cX3_bestGranule 69 = .ok (.goto (-56), 3) := by decide +kernel
theorem dX3_bestGranule_72 : decode cX3_bestGranule 72 = .ok (.iload_n 2, 1) := by decide +kernel
theorem dX3_bestGranule_73 : decode cX3_bestGranule 73 = .ok (.ireturn, 1) := by decide +kernel
set_option maxRecDepth 20000 in
theorem ggX3_ifWritten_X3_checkSpan : GoodIn wsX3_ifWritten wsX3_checkSpan := goodIn_ca (goodIn_ca (goodIn_ca (goodIn_r _ [6, 7, 8, 9, 10, 11, 12, 5, 13, 14, 15, 16, 17, 18, 19, 20, 21, 22, 23, 24] (by decide +kernel) (by decide +kernel)) (goodIn_sub (fun _ h => List.mem_cons_of_mem _ (List.mem_append_left _ (List.mem_append_left _ (List.mem_append_right _ h)))) (by decide +kernel))) (goodIn_sub (fun _ h => List.mem_cons_of_mem _ (List.mem_append_left _ (List.mem_append_right _ h))) (by decide +kernel))) (goodIn_sub (fun _ h => List.mem_cons_of_mem _ (List.mem_append_right _ h)) (by decide +kernel))
set_option maxRecDepth 20000 in
theorem gX3_ifWritten_X3_checkSpan : GoodIn wsX3_ifWritten (va_wsS RX3 206 yX3_checkSpan wsX3_checkSpan) := goodIn_app (goodIn_of _ (by decide +kernel)) ggX3_ifWritten_X3_checkSpan
set_option maxRecDepth 20000 in
theorem ggX3_ifWritten_X0_copyFrom : GoodIn wsX3_ifWritten wsX0_copyFrom := goodIn_r _ [29, 30, 31, 32, 33, 34, 35, 36, 37, 38, 39, 40, 41, 42, 69, 70, 71, 72, 73, 74, 75, 76, 77] (by decide +kernel) (by decide +kernel)
set_option maxRecDepth 20000 in
theorem gX3_ifWritten_X0_copyFrom : GoodIn wsX3_ifWritten (wsV RX3 250 RX0 yX0_copyFrom wsX0_copyFrom) := goodIn_app (goodIn_of _ (by decide +kernel)) ggX3_ifWritten_X0_copyFrom
set_option maxRecDepth 20000 in
theorem ggX3_ifWritten_X0_writeSpan : GoodIn wsX3_ifWritten wsX0_writeSpan := goodIn_r _ [46, 30, 39, 47, 48, 49, 28, 50, 42, 51, 52, 53, 54, 55, 56, 57, 58, 69, 70, 71, 72, 73, 74, 75, 76, 77] (by decide +kernel) (by decide +kernel)
set_option maxRecDepth 20000 in
theorem gX3_ifWritten_X0_writeSpan : GoodIn wsX3_ifWritten (wsV RX3 214 RX0 yX0_writeSpan wsX0_writeSpan) := goodIn_app (goodIn_of _ (by decide +kernel)) ggX3_ifWritten_X0_writeSpan
set_option maxRecDepth 20000 in
theorem ggX3_ifWritten_X0_countRanges : GoodIn wsX3_ifWritten wsX0_countRanges := goodIn_r _ [62, 51, 52, 53, 28, 54, 30, 69, 70, 71, 72, 73, 74, 75, 76, 77] (by decide +kernel) (by decide +kernel)
set_option maxRecDepth 20000 in
theorem gX3_ifWritten_X0_countRanges : GoodIn wsX3_ifWritten (wsV RX3 112 RX0 yX0_countRanges wsX0_countRanges) := goodIn_app (goodIn_of _ (by decide +kernel)) ggX3_ifWritten_X0_countRanges
theorem dX3_ifWritten_0 : decode cX3_ifWritten 0 = .ok (.iload_n 1, 1) := by decide +kernel
theorem dX3_ifWritten_1 : decode cX3_ifWritten 1 = .ok (.iload_n 2, 1) := by decide +kernel
theorem dX3_ifWritten_2 : decode cX3_ifWritten 2 = .ok (.invokestatic 206, 3) := by decide +kernel
theorem dX3_ifWritten_5 : decode cX3_ifWritten 5 = .ok (.aload_n 0, 1) := by decide +kernel
theorem dX3_ifWritten_6 : decode cX3_ifWritten 6 = .ok (.getfield 23, 3) := by decide +kernel
theorem dX3_ifWritten_9 : decode cX3_ifWritten 9 = .ok (.aload_n 0, 1) := by decide +kernel
theorem dX3_ifWritten_10 : decode cX3_ifWritten 10 = .ok (.getfield 19, 3) := by decide +kernel
theorem dX3_ifWritten_13 : decode cX3_ifWritten 13 = .ok (.invokevirtual 250, 3) := by decide +kernel
theorem dX3_ifWritten_16 : decode cX3_ifWritten 16 = .ok (.aload_n 0, 1) := by decide +kernel
theorem dX3_ifWritten_17 : decode cX3_ifWritten 17 = .ok (.getfield 23, 3) := by decide +kernel
theorem dX3_ifWritten_20 : decode cX3_ifWritten 20 = .ok (.iload_n 1, 1) := by decide +kernel
theorem dX3_ifWritten_21 : decode cX3_ifWritten 21 = .ok (.iload_n 2, 1) := by decide +kernel
theorem dX3_ifWritten_22 : decode cX3_ifWritten 22 = .ok (.invokevirtual 214, 3) := by decide +kernel
theorem dX3_ifWritten_25 : decode cX3_ifWritten 25 = .ok (.pop, 1) := by decide +kernel
theorem dX3_ifWritten_26 : decode cX3_ifWritten 26 = .ok (.aload_n 0, 1) := by decide +kernel
theorem dX3_ifWritten_27 : decode cX3_ifWritten 27 = .ok (.getfield 23, 3) := by decide +kernel
theorem dX3_ifWritten_30 : decode cX3_ifWritten 30 = .ok (.invokevirtual 112, 3) := by decide +kernel
theorem dX3_ifWritten_33 : decode cX3_ifWritten 33 = .ok (.ireturn, 1) := by decide +kernel
set_option maxRecDepth 20000 in
theorem ggX3_stuck_X0_countQueued : GoodIn wsX3_stuck wsX0_countQueued := goodIn_r _ [6, 7, 38, 39, 40, 41, 42, 43, 44, 45, 46] (by decide +kernel) (by decide +kernel)
set_option maxRecDepth 20000 in
theorem gX3_stuck_X0_countQueued : GoodIn wsX3_stuck (wsV RX3 115 RX0 yX0_countQueued wsX0_countQueued) := goodIn_app (goodIn_of _ (by decide +kernel)) ggX3_stuck_X0_countQueued
set_option maxRecDepth 20000 in
theorem ggX3_stuck_X0_countGranules : GoodIn wsX3_stuck wsX0_countGranules := goodIn_r _ [11, 12, 13, 14, 15, 5, 16, 17, 18, 19, 20, 21, 22, 23, 24, 7, 25, 26, 27, 28, 29, 30, 38, 39, 40, 41, 42, 43, 44, 45, 46] (by decide +kernel) (by decide +kernel)
set_option maxRecDepth 20000 in
theorem gX3_stuck_X0_countGranules : GoodIn wsX3_stuck (wsV RX3 176 RX0 yX0_countGranules wsX0_countGranules) := goodIn_app (goodIn_of _ (by decide +kernel)) ggX3_stuck_X0_countGranules
set_option maxRecDepth 20000 in
theorem ggX3_stuck_X0_granuleSize : GoodIn wsX3_stuck wsX0_granuleSize := goodIn_r _ [20, 12, 38, 39, 40, 41, 42, 43, 44, 45, 46] (by decide +kernel) (by decide +kernel)
set_option maxRecDepth 20000 in
theorem gX3_stuck_X0_granuleSize : GoodIn wsX3_stuck (wsV RX3 262 RX0 yX0_granuleSize wsX0_granuleSize) := goodIn_app (goodIn_of _ (by decide +kernel)) ggX3_stuck_X0_granuleSize
theorem dX3_stuck_0 : decode cX3_stuck 0 = .ok (.aload_n 0, 1) := by decide +kernel
theorem dX3_stuck_1 : decode cX3_stuck 1 = .ok (.getfield 19, 3) := by decide +kernel
theorem dX3_stuck_4 : decode cX3_stuck 4 = .ok (.invokevirtual 115, 3) := by decide +kernel
theorem dX3_stuck_7 : decode cX3_stuck 7 = .ok (.aload_n 0, 1) := by decide +kernel
theorem dX3_stuck_8 : decode cX3_stuck 8 = .ok (.getfield 19, 3) := by decide +kernel
theorem dX3_stuck_11 : decode cX3_stuck 11 = .ok (.iconst 0, 1) := by decide +kernel
theorem dX3_stuck_12 : decode cX3_stuck 12 = .ok (.sipush 256, 3) := by decide +kernel
theorem dX3_stuck_15 : decode cX3_stuck 15 = .ok (.invokevirtual 176, 3) := by decide +kernel
theorem dX3_stuck_18 : decode cX3_stuck 18 = .ok (.aload_n 0, 1) := by decide +kernel
theorem dX3_stuck_19 : decode cX3_stuck 19 = .ok (.getfield 19, 3) := by decide +kernel
theorem dX3_stuck_22 : decode cX3_stuck 22 = .ok (.invokevirtual 262, 3) := by decide +kernel
theorem dX3_stuck_25 : decode cX3_stuck 25 = .ok (.imul, 1) := by decide +kernel
theorem dX3_stuck_26 : decode cX3_stuck 26 = .ok (.isub, 1) := by decide +kernel
theorem dX3_stuck_27 : decode cX3_stuck 27 = .ok (.ireturn, 1) := by decide +kernel
set_option maxRecDepth 20000 in
theorem ggX3_runScript_X3_groupsFrom : GoodIn wsX3_runScript wsX3_groupsFrom := goodIn_r _ [9, 5] (by decide +kernel) (by decide +kernel)
set_option maxRecDepth 20000 in
theorem gX3_runScript_X3_groupsFrom : GoodIn wsX3_runScript (va_wsS RX3 279 yX3_groupsFrom wsX3_groupsFrom) := goodIn_app (goodIn_of _ (by decide +kernel)) ggX3_runScript_X3_groupsFrom
set_option maxRecDepth 20000 in
theorem ggX3_runScript_X0_copyFrom : GoodIn wsX3_runScript wsX0_copyFrom := goodIn_r _ [14, 15, 16, 17, 18, 19, 20, 21, 22, 23, 24, 25, 26, 27, 163, 164, 165, 166, 167, 168, 169, 170, 171] (by decide +kernel) (by decide +kernel)
set_option maxRecDepth 20000 in
theorem gX3_runScript_X0_copyFrom : GoodIn wsX3_runScript (wsV RX3 250 RX0 yX0_copyFrom wsX0_copyFrom) := goodIn_app (goodIn_of _ (by decide +kernel)) ggX3_runScript_X0_copyFrom
set_option maxRecDepth 20000 in
theorem ggX3_runScript_X3_doScriptCommand : GoodIn wsX3_runScript wsX3_doScriptCommand := goodIn_r _ [31, 32, 3, 33, 34, 8, 35, 36, 37, 38, 39, 40, 41, 42, 43, 44, 45, 46, 47, 13, 48, 15, 24, 49, 50, 51, 52, 27, 53, 54, 55, 56, 57, 58, 59, 60, 61, 62, 63, 64, 65, 66, 67, 68, 69, 70, 71, 23, 72, 73, 74, 75, 76, 77, 78, 26, 79, 80, 81, 82, 22, 83, 84, 85, 86, 87, 88, 89, 90, 91, 92, 93, 94, 95, 96, 97, 98, 99, 100, 101, 102, 103, 104, 105, 106, 21, 20, 107, 108, 109, 110, 111, 112, 113, 114, 115, 116, 117, 118, 119, 120, 121, 122, 25, 123, 124, 125, 126, 127, 128, 129, 130, 131, 132, 133, 134, 135, 136, 137, 138, 139, 140, 141, 142, 143, 144, 145, 146, 147, 148, 149, 150, 151, 152, 153, 154, 155, 156, 157, 158, 159, 160, 161, 162, 163, 164, 165, 166, 167, 168, 169, 170, 171] (by decide +kernel) (by decide +kernel)
set_option maxRecDepth 20000 in
theorem gX3_runScript_X3_doScriptCommand : GoodIn wsX3_runScript (wsV RX3 287 RX3 yX3_doScriptCommand wsX3_doScriptCommand) := goodIn_app (goodIn_of _ (by decide +kernel)) ggX3_runScript_X3_doScriptCommand
theorem dX3_runScript_0 : decode cX3_runScript 0 = .ok (.iload_n 1, 1) := by decide +kernel
theorem dX3_runScript_1 : decode cX3_runScript 1 = .ok (.iconst 1, 1) := by decide +kernel
theorem dX3_runScript_2 : decode cX3_runScript 2 = .ok (.if_icmp .lt 8, 3) := by decide +kernel
theorem dX3_runScript_5 : decode cX3_runScript 5 = .ok (.iload_n 1, 1) := by decide +kernel
theorem dX3_runScript_6 : decode cX3_runScript 6 = .ok (.iconst 3, 1) := by decide +kernel
theorem dX3_runScript_7 : decode cX3_runScript 7 = .ok (.if_icmp .le 14, 3) := by decide +kernel
theorem dX3_runScript_10 : decode cX3_runScript 10 = .ok (.new 41, 3) := by decide +kernel
theorem dX3_runScript_13 : decode cX3_runScript 13 = .ok (.dup, 1) := by decide +kernel
theorem dX3_runScript_14 : decode cX3_runScript 14 = .ok (.ldc_w 277, 3) := by decide +kernel
theorem dX3_runScript_17 : decode cX3_runScript 17 = .ok (.invokespecial 45, 3) := by decide +kernel
theorem dX3_runScript_20 : decode cX3_runScript 20 = .ok (.athrow, 1) := by decide +kernel
theorem dX3_runScript_21 : decode cX3_runScript 21 = .ok (.lload_n 2, 1) := by decide +kernel
theorem dX3_runScript_22 : decode cX3_runScript 22 = .ok (.lconst 0, 1) := by decide +kernel
theorem dX3_runScript_23 : decode cX3_runScript 23 = .ok (.lcmp, 1) := by decide +kernel
theorem dX3_runScript_24 : decode cX3_runScript 24 = .ok (.ifCond .lt 13, 3) := by decide +kernel
theorem dX3_runScript_27 : decode cX3_runScript 27 = .ok (.lload_n 2, 1) := by decide +kernel
theorem dX3_runScript_28 : decode cX3_runScript 28 = .ok (.iload_n 1, 1) := by decide +kernel
theorem dX3_runScript_29 : decode cX3_runScript 29 = .ok (.invokestatic 279, 3) := by decide +kernel
theorem dX3_runScript_32 : decode cX3_runScript 32 = .ok (.lconst 0, 1) := by decide +kernel
theorem dX3_runScript_33 : decode cX3_runScript 33 = .ok (.lcmp, 1) := by decide +kernel
theorem dX3_runScript_34 : decode cX3_runScript 34 = .ok (.ifCond .le 14, 3) := by decide +kernel
theorem dX3_runScript_37 : decode cX3_runScript 37 = .ok (.new 41, 3) := by decide +kernel
theorem dX3_runScript_40 : decode cX3_runScript 40 = .ok (.dup, 1) := by decide +kernel
theorem dX3_runScript_41 : decode cX3_runScript 41 = .ok (.ldc_w 283, 3) := by decide +kernel
theorem dX3_runScript_44 : decode cX3_runScript 44 = .ok (.invokespecial 45, 3) := by decide +kernel
theorem dX3_runScript_47 : decode cX3_runScript 47 = .ok (.athrow, 1) := by decide +kernel
theorem dX3_runScript_48 : decode cX3_runScript 48 = .ok (.aload_n 0, 1) := by decide +kernel
theorem dX3_runScript_49 : decode cX3_runScript 49 = .ok (.getfield 23, 3) := by decide +kernel
theorem dX3_runScript_52 : decode cX3_runScript 52 = .ok (.aload_n 0, 1) := by decide +kernel
theorem dX3_runScript_53 : decode cX3_runScript 53 = .ok (.getfield 19, 3) := by decide +kernel
theorem dX3_runScript_56 : decode cX3_runScript 56 = .ok (.invokevirtual 250, 3) := by decide +kernel
theorem dX3_runScript_59 : decode cX3_runScript 59 = .ok (.iconst 0, 1) := by decide +kernel
theorem dX3_runScript_60 : decode cX3_runScript 60 = .ok (.istore 4, 2) := by decide +kernel
theorem dX3_runScript_62 : decode cX3_runScript 62 = .ok (.iload 4, 2) := by decide +kernel
theorem dX3_runScript_64 : decode cX3_runScript 64 = .ok (.iload_n 1, 1) := by decide +kernel
theorem dX3_runScript_65 : decode cX3_runScript 65 = .ok (.if_icmp .ge 38, 3) := by decide +kernel
theorem dX3_runScript_68 : decode cX3_runScript 68 = .ok (.lload_n 2, 1) := by decide +kernel
theorem dX3_runScript_69 : decode cX3_runScript 69 = .ok (.iload_n 1, 1) := by decide +kernel
theorem dX3_runScript_70 : decode cX3_runScript 70 = .ok (.iconst 1, 1) := by decide +kernel
theorem dX3_runScript_71 : decode cX3_runScript 71 = .ok (.isub, 1) := by decide +kernel
theorem dX3_runScript_72 : decode cX3_runScript 72 = .ok (.iload 4, 2) := by decide +kernel
theorem dX3_runScript_74 : decode cX3_runScript 74 = .ok (.isub, 1) := by decide +kernel
theorem dX3_runScript_75 : decode cX3_runScript 75 = .ok (.invokestatic 279, 3) := by decide +kernel
theorem dX3_runScript_78 : decode cX3_runScript 78 = .ok (.ldc2_w 285, 3) := by decide +kernel
theorem dX3_runScript_81 : decode cX3_runScript 81 = .ok (.lrem, 1) := by decide +kernel
theorem dX3_runScript_82 : decode cX3_runScript 82 = .ok (.l2i, 1) := by decide +kernel
theorem dX3_runScript_83 : decode cX3_runScript 83 = .ok (.istore 5, 2) := by decide +kernel
theorem dX3_runScript_85 : decode cX3_runScript 85 = .ok (.aload_n 0, 1) := by decide +kernel
theorem dX3_runScript_86 : decode cX3_runScript 86 = .ok (.iload 5, 2) := by decide +kernel
theorem dX3_runScript_88 : decode cX3_runScript 88 = .ok (.invokevirtual 287, 3) := by decide +kernel
theorem dX3_runScript_91 : decode cX3_runScript 91 = .ok (.ifCond .ne 6, 3) := by decide +kernel
theorem dX3_runScript_94 : decode cX3_runScript 94 = .ok (.iload 4, 2) := by decide +kernel
theorem dX3_runScript_96 : decode cX3_runScript 96 = .ok (.ireturn, 1) := by decide +kernel
theorem dX3_runScript_97 : decode cX3_runScript 97 = .ok (.iinc 4 1, 3) := by decide +kernel
theorem dX3_runScript_100 : decode cX3_runScript 100 = .ok (.goto (-38), 3) := by decide +kernel
theorem dX3_runScript_103 : decode cX3_runScript 103 = .ok (.iconst (-1), 1) := by decide +kernel
theorem dX3_runScript_104 : decode cX3_runScript 104 = .ok (.ireturn, 1) := by decide +kernel
theorem dX3_groupsFrom_0 : decode cX3_groupsFrom 0 = .ok (.lload_n 0, 1) := by decide +kernel
theorem dX3_groupsFrom_1 : decode cX3_groupsFrom 1 = .ok (.lstore_n 3, 1) := by decide +kernel
theorem dX3_groupsFrom_2 : decode cX3_groupsFrom 2 = .ok (.iconst 0, 1) := by decide +kernel
theorem dX3_groupsFrom_3 : decode cX3_groupsFrom 3 = .ok (.istore 5, 2) := by decide +kernel
theorem dX3_groupsFrom_5 : decode cX3_groupsFrom 5 = .ok (.iload 5, 2) := by decide +kernel
theorem dX3_groupsFrom_7 : decode cX3_groupsFrom 7 = .ok (.iload_n 2, 1) := by decide +kernel
theorem dX3_groupsFrom_8 : decode cX3_groupsFrom 8 = .ok (.if_icmp .ge 15, 3) := by decide +kernel
theorem dX3_groupsFrom_11 : decode cX3_groupsFrom 11 = .ok (.lload_n 3, 1) := by decide +kernel
theorem dX3_groupsFrom_12 : decode cX3_groupsFrom 12 = .ok (.ldc2_w 285, 3) := by decide +kernel
theorem dX3_groupsFrom_15 : decode cX3_groupsFrom 15 = .ok (.ldiv, 1) := by decide +kernel
theorem dX3_groupsFrom_16 : decode cX3_groupsFrom 16 = .ok (.lstore_n 3, 1) := by decide +kernel
theorem dX3_groupsFrom_17 : decode cX3_groupsFrom 17 = .ok (.iinc 5 1, 3) := by decide +kernel
theorem dX3_groupsFrom_20 : decode cX3_groupsFrom 20 = .ok (.goto (-15), 3) := by decide +kernel
theorem dX3_groupsFrom_23 : decode cX3_groupsFrom 23 = .ok (.lload_n 3, 1) := by decide +kernel
theorem dX3_groupsFrom_24 : decode cX3_groupsFrom 24 = .ok (.lreturn, 1) := by decide +kernel
set_option maxRecDepth 20000 in
theorem ggX3_doScriptCommand_X3_writeIfAllowed : GoodIn wsX3_doScriptCommand wsX3_writeIfAllowed := goodIn_r _ [6, 7, 8, 5, 9, 10, 11, 12, 13, 14, 15, 16, 17, 18, 19, 20, 21, 22, 23, 24, 25, 26, 27, 28, 29, 30, 31, 32, 33, 34, 35, 144, 145, 146, 147, 148, 149, 150, 151, 152] (by decide +kernel) (by decide +kernel)
set_option maxRecDepth 20000 in
theorem gX3_doScriptCommand_X3_writeIfAllowed : GoodIn wsX3_doScriptCommand (va_wsS RX3 92 yX3_writeIfAllowed wsX3_writeIfAllowed) := goodIn_app (goodIn_of _ (by decide +kernel)) ggX3_doScriptCommand_X3_writeIfAllowed
set_option maxRecDepth 20000 in
theorem ggX3_doScriptCommand_X3_freeIfAllowed : GoodIn wsX3_doScriptCommand wsX3_freeIfAllowed := goodIn_r _ [38, 7, 8, 5, 9, 10, 11, 12, 13, 14, 15, 39, 40, 41, 19, 42, 21, 22, 43, 44, 45, 46, 47, 23, 24, 25, 26, 27, 28, 29, 30, 31, 32, 33, 34, 35, 144, 145, 146, 147, 148, 149, 150, 151, 152] (by decide +kernel) (by decide +kernel)
set_option maxRecDepth 20000 in
theorem gX3_doScriptCommand_X3_freeIfAllowed : GoodIn wsX3_doScriptCommand (va_wsS RX3 96 yX3_freeIfAllowed wsX3_freeIfAllowed) := goodIn_app (goodIn_of _ (by decide +kernel)) ggX3_doScriptCommand_X3_freeIfAllowed
set_option maxRecDepth 20000 in
theorem ggX3_doScriptCommand_X3_isTicks : GoodIn wsX3_doScriptCommand wsX3_isTicks := goodIn_r _ [50] (by decide +kernel) (by decide +kernel)
set_option maxRecDepth 20000 in
theorem gX3_doScriptCommand_X3_isTicks : GoodIn wsX3_doScriptCommand (va_wsS RX3 291 yX3_isTicks wsX3_isTicks) := goodIn_app (goodIn_of _ (by decide +kernel)) ggX3_doScriptCommand_X3_isTicks
set_option maxRecDepth 20000 in
theorem ggX3_doScriptCommand_X0_passTicks : GoodIn wsX3_doScriptCommand wsX0_passTicks := goodIn_r _ [54, 55, 56, 57, 58, 19, 59, 60, 47, 22, 61, 62, 63, 64, 65, 66, 67, 68, 21, 69, 70, 71, 72, 73, 74, 75, 76, 77, 78, 79, 80, 81, 82, 83, 84, 85, 86, 87, 88, 89, 90, 91, 92, 93, 94, 95, 96, 97, 98, 99, 100, 101, 102, 103, 23, 24, 25, 26, 27, 28, 29, 30, 31, 32, 33, 34, 35, 144, 145, 146, 147, 148, 149, 150, 151, 152] (by decide +kernel) (by decide +kernel)
set_option maxRecDepth 20000 in
theorem gX3_doScriptCommand_X0_passTicks : GoodIn wsX3_doScriptCommand (wsV RX3 99 RX0 yX0_passTicks wsX0_passTicks) := goodIn_app (goodIn_of _ (by decide +kernel)) ggX3_doScriptCommand_X0_passTicks
set_option maxRecDepth 20000 in
theorem ggX3_doScriptCommand_X3_setIfAllowed : GoodIn wsX3_doScriptCommand wsX3_setIfAllowed := goodIn_r _ [106, 107, 108, 5, 109, 110, 111, 112, 113, 114, 115, 116, 19, 117, 60, 144, 145, 146, 147, 148, 149, 150, 151, 152] (by decide +kernel) (by decide +kernel)
set_option maxRecDepth 20000 in
theorem gX3_doScriptCommand_X3_setIfAllowed : GoodIn wsX3_doScriptCommand (va_wsS RX3 106 yX3_setIfAllowed wsX3_setIfAllowed) := goodIn_app (goodIn_of _ (by decide +kernel)) ggX3_doScriptCommand_X3_setIfAllowed
set_option maxRecDepth 20000 in
theorem ggX3_doScriptCommand_X0_sendAll : GoodIn wsX3_doScriptCommand wsX0_sendAll := goodIn_r _ [121, 103, 65, 66, 67, 19, 68, 60, 21, 69, 70, 71, 72, 47, 73, 74, 75, 76, 77, 78, 79, 80, 81, 82, 83, 84, 85, 86, 95, 96, 97, 98, 99, 100, 101, 102, 55, 23, 24, 25, 26, 27, 28, 29, 30, 31, 32, 33, 34, 35, 144, 145, 146, 147, 148, 149, 150, 151, 152] (by decide +kernel) (by decide +kernel)
set_option maxRecDepth 20000 in
theorem gX3_doScriptCommand_X0_sendAll : GoodIn wsX3_doScriptCommand (wsV RX3 229 RX0 yX0_sendAll wsX0_sendAll) := goodIn_app (goodIn_of _ (by decide +kernel)) ggX3_doScriptCommand_X0_sendAll
set_option maxRecDepth 20000 in
theorem ggX3_doScriptCommand_X3_isBlock : GoodIn wsX3_doScriptCommand wsX3_isBlock := goodIn_r _ [12] (by decide +kernel) (by decide +kernel)
set_option maxRecDepth 20000 in
theorem gX3_doScriptCommand_X3_isBlock : GoodIn wsX3_doScriptCommand (va_wsS RX3 294 yX3_isBlock wsX3_isBlock) := goodIn_app (goodIn_of _ (by decide +kernel)) ggX3_doScriptCommand_X3_isBlock
set_option maxRecDepth 20000 in
theorem ggX3_doScriptCommand_X0_isHeld : GoodIn wsX3_doScriptCommand wsX0_isHeld := goodIn_r _ [125, 21, 144, 145, 146, 147, 148, 149, 150, 151, 152] (by decide +kernel) (by decide +kernel)
set_option maxRecDepth 20000 in
theorem gX3_doScriptCommand_X0_isHeld : GoodIn wsX3_doScriptCommand (wsV RX3 146 RX0 yX0_isHeld wsX0_isHeld) := goodIn_app (goodIn_of _ (by decide +kernel)) ggX3_doScriptCommand_X0_isHeld
set_option maxRecDepth 20000 in
theorem ggX3_doScriptCommand_X0_countQueued : GoodIn wsX3_doScriptCommand wsX0_countQueued := goodIn_r _ [129, 21, 144, 145, 146, 147, 148, 149, 150, 151, 152] (by decide +kernel) (by decide +kernel)
set_option maxRecDepth 20000 in
theorem gX3_doScriptCommand_X0_countQueued : GoodIn wsX3_doScriptCommand (wsV RX3 115 RX0 yX0_countQueued wsX0_countQueued) := goodIn_app (goodIn_of _ (by decide +kernel)) ggX3_doScriptCommand_X0_countQueued
set_option maxRecDepth 20000 in
theorem ggX3_doScriptCommand_X0_countRanges : GoodIn wsX3_doScriptCommand wsX0_countRanges := goodIn_r _ [133, 28, 29, 30, 19, 31, 21, 144, 145, 146, 147, 148, 149, 150, 151, 152] (by decide +kernel) (by decide +kernel)
set_option maxRecDepth 20000 in
theorem gX3_doScriptCommand_X0_countRanges : GoodIn wsX3_doScriptCommand (wsV RX3 112 RX0 yX0_countRanges wsX0_countRanges) := goodIn_app (goodIn_of _ (by decide +kernel)) ggX3_doScriptCommand_X0_countRanges
set_option maxRecDepth 20000 in
theorem ggX3_doScriptCommand_X0_isAlive : GoodIn wsX3_doScriptCommand wsX0_isAlive := goodIn_r _ [137, 21, 144, 145, 146, 147, 148, 149, 150, 151, 152] (by decide +kernel) (by decide +kernel)
set_option maxRecDepth 20000 in
theorem gX3_doScriptCommand_X0_isAlive : GoodIn wsX3_doScriptCommand (wsV RX3 142 RX0 yX0_isAlive wsX0_isAlive) := goodIn_app (goodIn_of _ (by decide +kernel)) ggX3_doScriptCommand_X0_isAlive
theorem dX3_doScriptCommand_0 : decode cX3_doScriptCommand 0 = .ok (.iload_n 1, 1) := by decide +kernel
theorem dX3_doScriptCommand_1 : decode cX3_doScriptCommand 1 = .ok (.ldc_w 290, 3) := by decide +kernel
theorem dX3_doScriptCommand_4 : decode cX3_doScriptCommand 4 = .ok (.irem, 1) := by decide +kernel
theorem dX3_doScriptCommand_5 : decode cX3_doScriptCommand 5 = .ok (.istore_n 2, 1) := by decide +kernel
theorem dX3_doScriptCommand_6 : decode cX3_doScriptCommand 6 = .ok (.iload_n 1, 1) := by decide +kernel
theorem dX3_doScriptCommand_7 : decode cX3_doScriptCommand 7 = .ok (.ldc_w 290, 3) := by decide +kernel
theorem dX3_doScriptCommand_10 : decode cX3_doScriptCommand 10 = .ok (.idiv, 1) := by decide +kernel
theorem dX3_doScriptCommand_11 : decode cX3_doScriptCommand 11 = .ok (.tableswitch 285 1 9 #[49, 65, 81, 103, 138, 154, 196, 220, 243], 49) := by decide +kernel
theorem dX3_doScriptCommand_60 : decode cX3_doScriptCommand 60 = .ok (.iload_n 2, 1) := by decide +kernel
theorem dX3_doScriptCommand_61 : decode cX3_doScriptCommand 61 = .ok (.bipush 100, 2) := by decide +kernel
theorem dX3_doScriptCommand_63 : decode cX3_doScriptCommand 63 = .ok (.idiv, 1) := by decide +kernel
theorem dX3_doScriptCommand_64 : decode cX3_doScriptCommand 64 = .ok (.iload_n 2, 1) := by decide +kernel
theorem dX3_doScriptCommand_65 : decode cX3_doScriptCommand 65 = .ok (.bipush 100, 2) := by decide +kernel
theorem dX3_doScriptCommand_67 : decode cX3_doScriptCommand 67 = .ok (.irem, 1) := by decide +kernel
theorem dX3_doScriptCommand_68 : decode cX3_doScriptCommand 68 = .ok (.aload_n 0, 1) := by decide +kernel
theorem dX3_doScriptCommand_69 : decode cX3_doScriptCommand 69 = .ok (.getfield 23, 3) := by decide +kernel
theorem dX3_doScriptCommand_72 : decode cX3_doScriptCommand 72 = .ok (.invokestatic 92, 3) := by decide +kernel
theorem dX3_doScriptCommand_75 : decode cX3_doScriptCommand 75 = .ok (.ireturn, 1) := by decide +kernel
theorem dX3_doScriptCommand_76 : decode cX3_doScriptCommand 76 = .ok (.iload_n 2, 1) := by decide +kernel
theorem dX3_doScriptCommand_77 : decode cX3_doScriptCommand 77 = .ok (.bipush 100, 2) := by decide +kernel
theorem dX3_doScriptCommand_79 : decode cX3_doScriptCommand 79 = .ok (.idiv, 1) := by decide +kernel
theorem dX3_doScriptCommand_80 : decode cX3_doScriptCommand 80 = .ok (.iload_n 2, 1) := by decide +kernel
theorem dX3_doScriptCommand_81 : decode cX3_doScriptCommand 81 = .ok (.bipush 100, 2) := by decide +kernel
theorem dX3_doScriptCommand_83 : decode cX3_doScriptCommand 83 = .ok (.irem, 1) := by decide +kernel
theorem dX3_doScriptCommand_84 : decode cX3_doScriptCommand 84 = .ok (.aload_n 0, 1) := by decide +kernel
theorem dX3_doScriptCommand_85 : decode cX3_doScriptCommand 85 = .ok (.getfield 23, 3) := by decide +kernel
theorem dX3_doScriptCommand_88 : decode cX3_doScriptCommand 88 = .ok (.invokestatic 96, 3) := by decide +kernel
theorem dX3_doScriptCommand_91 : decode cX3_doScriptCommand 91 = .ok (.ireturn, 1) := by decide +kernel
theorem dX3_doScriptCommand_92 : decode cX3_doScriptCommand 92 = .ok (.iload_n 2, 1) := by decide +kernel
theorem dX3_doScriptCommand_93 : decode cX3_doScriptCommand 93 = .ok (.bipush 60, 2) := by decide +kernel
theorem dX3_doScriptCommand_95 : decode cX3_doScriptCommand 95 = .ok (.invokestatic 291, 3) := by decide +kernel
theorem dX3_doScriptCommand_98 : decode cX3_doScriptCommand 98 = .ok (.ifCond .ne 5, 3) := by decide +kernel
theorem dX3_doScriptCommand_101 : decode cX3_doScriptCommand 101 = .ok (.iconst 0, 1) := by decide +kernel
theorem dX3_doScriptCommand_102 : decode cX3_doScriptCommand 102 = .ok (.ireturn, 1) := by decide +kernel
theorem dX3_doScriptCommand_103 : decode cX3_doScriptCommand 103 = .ok (.aload_n 0, 1) := by decide +kernel
theorem dX3_doScriptCommand_104 : decode cX3_doScriptCommand 104 = .ok (.getfield 23, 3) := by decide +kernel
theorem dX3_doScriptCommand_107 : decode cX3_doScriptCommand 107 = .ok (.iload_n 2, 1) := by decide +kernel
theorem dX3_doScriptCommand_108 : decode cX3_doScriptCommand 108 = .ok (.invokevirtual 99, 3) := by decide +kernel
theorem dX3_doScriptCommand_111 : decode cX3_doScriptCommand 111 = .ok (.pop, 1) := by decide +kernel
theorem dX3_doScriptCommand_112 : decode cX3_doScriptCommand 112 = .ok (.iconst 1, 1) := by decide +kernel
theorem dX3_doScriptCommand_113 : decode cX3_doScriptCommand 113 = .ok (.ireturn, 1) := by decide +kernel
theorem dX3_doScriptCommand_114 : decode cX3_doScriptCommand 114 = .ok (.iload_n 2, 1) := by decide +kernel
theorem dX3_doScriptCommand_115 : decode cX3_doScriptCommand 115 = .ok (.bipush 100, 2) := by decide +kernel
theorem dX3_doScriptCommand_117 : decode cX3_doScriptCommand 117 = .ok (.irem, 1) := by decide +kernel
theorem dX3_doScriptCommand_118 : decode cX3_doScriptCommand 118 = .ok (.ifCond .ne 29, 3) := by decide +kernel
theorem dX3_doScriptCommand_121 : decode cX3_doScriptCommand 121 = .ok (.iload_n 2, 1) := by decide +kernel
theorem dX3_doScriptCommand_122 : decode cX3_doScriptCommand 122 = .ok (.sipush 10000, 3) := by decide +kernel
theorem dX3_doScriptCommand_125 : decode cX3_doScriptCommand 125 = .ok (.idiv, 1) := by decide +kernel
theorem dX3_doScriptCommand_126 : decode cX3_doScriptCommand 126 = .ok (.iload_n 2, 1) := by decide +kernel
theorem dX3_doScriptCommand_127 : decode cX3_doScriptCommand 127 = .ok (.bipush 100, 2) := by decide +kernel
theorem dX3_doScriptCommand_129 : decode cX3_doScriptCommand 129 = .ok (.idiv, 1) := by decide +kernel
theorem dX3_doScriptCommand_130 : decode cX3_doScriptCommand 130 = .ok (.bipush 100, 2) := by decide +kernel
theorem dX3_doScriptCommand_132 : decode cX3_doScriptCommand 132 = .ok (.irem, 1) := by decide +kernel
theorem dX3_doScriptCommand_133 : decode cX3_doScriptCommand 133 = .ok (.aload_n 0, 1) := by decide +kernel
theorem dX3_doScriptCommand_134 : decode cX3_doScriptCommand 134 = .ok (.getfield 23, 3) := by decide +kernel
theorem dX3_doScriptCommand_137 : decode cX3_doScriptCommand 137 = .ok (.invokestatic 106, 3) := by decide +kernel
theorem dX3_doScriptCommand_140 : decode cX3_doScriptCommand 140 = .ok (.ifCond .eq 7, 3) := by decide +kernel
theorem dX3_doScriptCommand_143 : decode cX3_doScriptCommand 143 = .ok (.iconst 1, 1) := by decide +kernel
theorem dX3_doScriptCommand_144 : decode cX3_doScriptCommand 144 = .ok (.goto 4, 3) := by decide +kernel
theorem dX3_doScriptCommand_147 : decode cX3_doScriptCommand 147 = .ok (.iconst 0, 1) := by decide +kernel
theorem dX3_doScriptCommand_148 : decode cX3_doScriptCommand 148 = .ok (.ireturn, 1) := by decide +kernel
theorem dX3_doScriptCommand_149 : decode cX3_doScriptCommand 149 = .ok (.iload_n 2, 1) := by decide +kernel
theorem dX3_doScriptCommand_150 : decode cX3_doScriptCommand 150 = .ok (.ifCond .eq 5, 3) := by decide +kernel
theorem dX3_doScriptCommand_153 : decode cX3_doScriptCommand 153 = .ok (.iconst 0, 1) := by decide +kernel
theorem dX3_doScriptCommand_154 : decode cX3_doScriptCommand 154 = .ok (.ireturn, 1) := by decide +kernel
theorem dX3_doScriptCommand_155 : decode cX3_doScriptCommand 155 = .ok (.aload_n 0, 1) := by decide +kernel
theorem dX3_doScriptCommand_156 : decode cX3_doScriptCommand 156 = .ok (.getfield 23, 3) := by decide +kernel
theorem dX3_doScriptCommand_159 : decode cX3_doScriptCommand 159 = .ok (.invokevirtual 229, 3) := by decide +kernel
theorem dX3_doScriptCommand_162 : decode cX3_doScriptCommand 162 = .ok (.pop, 1) := by decide +kernel
theorem dX3_doScriptCommand_163 : decode cX3_doScriptCommand 163 = .ok (.iconst 1, 1) := by decide +kernel
theorem dX3_doScriptCommand_164 : decode cX3_doScriptCommand 164 = .ok (.ireturn, 1) := by decide +kernel
theorem dX3_doScriptCommand_165 : decode cX3_doScriptCommand 165 = .ok (.iload_n 2, 1) := by decide +kernel
theorem dX3_doScriptCommand_166 : decode cX3_doScriptCommand 166 = .ok (.bipush 100, 2) := by decide +kernel
theorem dX3_doScriptCommand_168 : decode cX3_doScriptCommand 168 = .ok (.idiv, 1) := by decide +kernel
theorem dX3_doScriptCommand_169 : decode cX3_doScriptCommand 169 = .ok (.invokestatic 294, 3) := by decide +kernel
theorem dX3_doScriptCommand_172 : decode cX3_doScriptCommand 172 = .ok (.ifCond .eq 33, 3) := by decide +kernel
theorem dX3_doScriptCommand_175 : decode cX3_doScriptCommand 175 = .ok (.iload_n 2, 1) := by decide +kernel
theorem dX3_doScriptCommand_176 : decode cX3_doScriptCommand 176 = .ok (.bipush 100, 2) := by decide +kernel
theorem dX3_doScriptCommand_178 : decode cX3_doScriptCommand 178 = .ok (.irem, 1) := by decide +kernel
theorem dX3_doScriptCommand_179 : decode cX3_doScriptCommand 179 = .ok (.aload_n 0, 1) := by decide +kernel
theorem dX3_doScriptCommand_180 : decode cX3_doScriptCommand 180 = .ok (.getfield 23, 3) := by decide +kernel
theorem dX3_doScriptCommand_183 : decode cX3_doScriptCommand 183 = .ok (.iload_n 2, 1) := by decide +kernel
theorem dX3_doScriptCommand_184 : decode cX3_doScriptCommand 184 = .ok (.bipush 100, 2) := by decide +kernel
theorem dX3_doScriptCommand_186 : decode cX3_doScriptCommand 186 = .ok (.idiv, 1) := by decide +kernel
theorem dX3_doScriptCommand_187 : decode cX3_doScriptCommand 187 = .ok (.invokevirtual 146, 3) := by decide +kernel
theorem dX3_doScriptCommand_190 : decode cX3_doScriptCommand 190 = .ok (.ifCond .eq 7, 3) := by decide +kernel
theorem dX3_doScriptCommand_193 : decode cX3_doScriptCommand 193 = .ok (.iconst 1, 1) := by decide +kernel
theorem dX3_doScriptCommand_194 : decode cX3_doScriptCommand 194 = .ok (.goto 4, 3) := by decide +kernel
theorem dX3_doScriptCommand_197 : decode cX3_doScriptCommand 197 = .ok (.iconst 0, 1) := by decide +kernel
theorem dX3_doScriptCommand_198 : decode cX3_doScriptCommand 198 = .ok (.if_icmp .ne 7, 3) := by decide +kernel
theorem dX3_doScriptCommand_201 : decode cX3_doScriptCommand 201 = .ok (.iconst 1, 1) := by decide +kernel
theorem dX3_doScriptCommand_202 : decode cX3_doScriptCommand 202 = .ok (.goto 4, 3) := by decide +kernel
theorem dX3_doScriptCommand_205 : decode cX3_doScriptCommand 205 = .ok (.iconst 0, 1) := by decide +kernel
theorem dX3_doScriptCommand_206 : decode cX3_doScriptCommand 206 = .ok (.ireturn, 1) := by decide +kernel
theorem dX3_doScriptCommand_207 : decode cX3_doScriptCommand 207 = .ok (.iload_n 2, 1) := by decide +kernel
theorem dX3_doScriptCommand_208 : decode cX3_doScriptCommand 208 = .ok (.sipush 1000, 3) := by decide +kernel
theorem dX3_doScriptCommand_211 : decode cX3_doScriptCommand 211 = .ok (.if_icmp .ge 18, 3) := by decide +kernel
theorem dX3_doScriptCommand_214 : decode cX3_doScriptCommand 214 = .ok (.aload_n 0, 1) := by decide +kernel
theorem dX3_doScriptCommand_215 : decode cX3_doScriptCommand 215 = .ok (.getfield 23, 3) := by decide +kernel
theorem dX3_doScriptCommand_218 : decode cX3_doScriptCommand 218 = .ok (.invokevirtual 115, 3) := by decide +kernel
theorem dX3_doScriptCommand_221 : decode cX3_doScriptCommand 221 = .ok (.iload_n 2, 1) := by decide +kernel
theorem dX3_doScriptCommand_222 : decode cX3_doScriptCommand 222 = .ok (.if_icmp .gt 7, 3) := by decide +kernel
theorem dX3_doScriptCommand_225 : decode cX3_doScriptCommand 225 = .ok (.iconst 1, 1) := by decide +kernel
theorem dX3_doScriptCommand_226 : decode cX3_doScriptCommand 226 = .ok (.goto 4, 3) := by decide +kernel
theorem dX3_doScriptCommand_229 : decode cX3_doScriptCommand 229 = .ok (.iconst 0, 1) := by decide +kernel
theorem dX3_doScriptCommand_230 : decode cX3_doScriptCommand 230 = .ok (.ireturn, 1) := by decide +kernel
theorem dX3_doScriptCommand_231 : decode cX3_doScriptCommand 231 = .ok (.iload_n 2, 1) := by decide +kernel
theorem dX3_doScriptCommand_232 : decode cX3_doScriptCommand 232 = .ok (.bipush 100, 2) := by decide +kernel
theorem dX3_doScriptCommand_234 : decode cX3_doScriptCommand 234 = .ok (.if_icmp .ge 18, 3) := by decide +kernel
theorem dX3_doScriptCommand_237 : decode cX3_doScriptCommand 237 = .ok (.aload_n 0, 1) := by decide +kernel
theorem dX3_doScriptCommand_238 : decode cX3_doScriptCommand 238 = .ok (.getfield 23, 3) := by decide +kernel
theorem dX3_doScriptCommand_241 : decode cX3_doScriptCommand 241 = .ok (.invokevirtual 112, 3) := by decide +kernel
theorem dX3_doScriptCommand_244 : decode cX3_doScriptCommand 244 = .ok (.iload_n 2, 1) := by decide +kernel
theorem dX3_doScriptCommand_245 : decode cX3_doScriptCommand 245 = .ok (.if_icmp .lt 7, 3) := by decide +kernel
theorem dX3_doScriptCommand_248 : decode cX3_doScriptCommand 248 = .ok (.iconst 1, 1) := by decide +kernel
theorem dX3_doScriptCommand_249 : decode cX3_doScriptCommand 249 = .ok (.goto 4, 3) := by decide +kernel
theorem dX3_doScriptCommand_252 : decode cX3_doScriptCommand 252 = .ok (.iconst 0, 1) := by decide +kernel
theorem dX3_doScriptCommand_253 : decode cX3_doScriptCommand 253 = .ok (.ireturn, 1) := by decide +kernel
theorem dX3_doScriptCommand_254 : decode cX3_doScriptCommand 254 = .ok (.iload_n 2, 1) := by decide +kernel
theorem dX3_doScriptCommand_255 : decode cX3_doScriptCommand 255 = .ok (.bipush 100, 2) := by decide +kernel
theorem dX3_doScriptCommand_257 : decode cX3_doScriptCommand 257 = .ok (.idiv, 1) := by decide +kernel
theorem dX3_doScriptCommand_258 : decode cX3_doScriptCommand 258 = .ok (.invokestatic 294, 3) := by decide +kernel
theorem dX3_doScriptCommand_261 : decode cX3_doScriptCommand 261 = .ok (.ifCond .eq 33, 3) := by decide +kernel
theorem dX3_doScriptCommand_264 : decode cX3_doScriptCommand 264 = .ok (.iload_n 2, 1) := by decide +kernel
theorem dX3_doScriptCommand_265 : decode cX3_doScriptCommand 265 = .ok (.bipush 100, 2) := by decide +kernel
theorem dX3_doScriptCommand_267 : decode cX3_doScriptCommand 267 = .ok (.irem, 1) := by decide +kernel
theorem dX3_doScriptCommand_268 : decode cX3_doScriptCommand 268 = .ok (.aload_n 0, 1) := by decide +kernel
theorem dX3_doScriptCommand_269 : decode cX3_doScriptCommand 269 = .ok (.getfield 23, 3) := by decide +kernel
theorem dX3_doScriptCommand_272 : decode cX3_doScriptCommand 272 = .ok (.iload_n 2, 1) := by decide +kernel
theorem dX3_doScriptCommand_273 : decode cX3_doScriptCommand 273 = .ok (.bipush 100, 2) := by decide +kernel
theorem dX3_doScriptCommand_275 : decode cX3_doScriptCommand 275 = .ok (.idiv, 1) := by decide +kernel
theorem dX3_doScriptCommand_276 : decode cX3_doScriptCommand 276 = .ok (.invokevirtual 142, 3) := by decide +kernel
theorem dX3_doScriptCommand_279 : decode cX3_doScriptCommand 279 = .ok (.ifCond .eq 7, 3) := by decide +kernel
theorem dX3_doScriptCommand_282 : decode cX3_doScriptCommand 282 = .ok (.iconst 1, 1) := by decide +kernel
theorem dX3_doScriptCommand_283 : decode cX3_doScriptCommand 283 = .ok (.goto 4, 3) := by decide +kernel
theorem dX3_doScriptCommand_286 : decode cX3_doScriptCommand 286 = .ok (.iconst 0, 1) := by decide +kernel
theorem dX3_doScriptCommand_287 : decode cX3_doScriptCommand 287 = .ok (.if_icmp .ne 7, 3) := by decide +kernel
theorem dX3_doScriptCommand_290 : decode cX3_doScriptCommand 290 = .ok (.iconst 1, 1) := by decide +kernel
theorem dX3_doScriptCommand_291 : decode cX3_doScriptCommand 291 = .ok (.goto 4, 3) := by decide +kernel
theorem dX3_doScriptCommand_294 : decode cX3_doScriptCommand 294 = .ok (.iconst 0, 1) := by decide +kernel
theorem dX3_doScriptCommand_295 : decode cX3_doScriptCommand 295 = .ok (.ireturn, 1) := by decide +kernel
theorem dX3_doScriptCommand_296 : decode cX3_doScriptCommand 296 = .ok (.iconst 0, 1) := by decide +kernel
theorem dX3_doScriptCommand_297 : decode cX3_doScriptCommand 297 = .ok (.ireturn, 1) := by decide +kernel
set_option maxRecDepth 20000 in
theorem ggX3_simulate_X0_copyFrom : GoodIn wsX3_simulate wsX0_copyFrom := goodIn_r _ [11, 12, 13, 14, 15, 16, 17, 18, 19, 20, 21, 22, 23, 24, 141, 142, 143, 144, 145, 146, 147, 148, 149] (by decide +kernel) (by decide +kernel)
set_option maxRecDepth 20000 in
theorem gX3_simulate_X0_copyFrom : GoodIn wsX3_simulate (wsV RX3 250 RX0 yX0_copyFrom wsX0_copyFrom) := goodIn_app (goodIn_of _ (by decide +kernel)) ggX3_simulate_X0_copyFrom
set_option maxRecDepth 20000 in
theorem ggX3_simulate_X3_takeTurn : GoodIn wsX3_simulate wsX3_takeTurn := goodIn_r _ [29, 3, 30, 31, 28, 32, 33, 34, 35, 36, 37, 38, 39, 40, 41, 42, 43, 44, 10, 45, 12, 21, 46, 47, 48, 49, 24, 50, 51, 52, 53, 54, 55, 56, 57, 58, 59, 60, 61, 62, 63, 64, 65, 66, 67, 68, 20, 69, 70, 71, 72, 73, 74, 75, 76, 77, 78, 17, 18, 79, 80, 81, 82, 23, 83, 84, 85, 86, 19, 87, 88, 89, 90, 91, 92, 93, 94, 95, 96, 97, 98, 99, 100, 101, 102, 103, 104, 105, 106, 107, 108, 109, 110, 111, 112, 113, 114, 115, 116, 117, 118, 119, 120, 121, 122, 123, 124, 125, 126, 22, 135, 136, 137, 138, 139, 140, 141, 142, 143, 144, 145, 146, 147, 148, 149] (by decide +kernel) (by decide +kernel)
set_option maxRecDepth 20000 in
theorem gX3_simulate_X3_takeTurn : GoodIn wsX3_simulate (wsV RX3 303 RX3 yX3_takeTurn wsX3_takeTurn) := goodIn_app (goodIn_of _ (by decide +kernel)) ggX3_simulate_X3_takeTurn
set_option maxRecDepth 20000 in
theorem ggX3_simulate_X0_discarded : GoodIn wsX3_simulate wsX0_discarded := goodIn_r _ [130, 23, 141, 142, 143, 144, 145, 146, 147, 148, 149] (by decide +kernel) (by decide +kernel)
set_option maxRecDepth 20000 in
theorem gX3_simulate_X0_discarded : GoodIn wsX3_simulate (wsV RX3 127 RX0 yX0_discarded wsX0_discarded) := goodIn_app (goodIn_of _ (by decide +kernel)) ggX3_simulate_X0_discarded
set_option maxRecDepth 20000 in
theorem ggX3_simulate_X0_countQueued : GoodIn wsX3_simulate wsX0_countQueued := goodIn_r _ [134, 12, 141, 142, 143, 144, 145, 146, 147, 148, 149] (by decide +kernel) (by decide +kernel)
set_option maxRecDepth 20000 in
theorem gX3_simulate_X0_countQueued : GoodIn wsX3_simulate (wsV RX3 115 RX0 yX0_countQueued wsX0_countQueued) := goodIn_app (goodIn_of _ (by decide +kernel)) ggX3_simulate_X0_countQueued
theorem dX3_simulate_0 : decode cX3_simulate 0 = .ok (.iload_n 3, 1) := by decide +kernel
theorem dX3_simulate_1 : decode cX3_simulate 1 = .ok (.iconst 1, 1) := by decide +kernel
theorem dX3_simulate_2 : decode cX3_simulate 2 = .ok (.if_icmp .lt 9, 3) := by decide +kernel
theorem dX3_simulate_5 : decode cX3_simulate 5 = .ok (.iload_n 3, 1) := by decide +kernel
theorem dX3_simulate_6 : decode cX3_simulate 6 = .ok (.bipush 60, 2) := by decide +kernel
theorem dX3_simulate_8 : decode cX3_simulate 8 = .ok (.if_icmp .le 14, 3) := by decide +kernel
theorem dX3_simulate_11 : decode cX3_simulate 11 = .ok (.new 41, 3) := by decide +kernel
theorem dX3_simulate_14 : decode cX3_simulate 14 = .ok (.dup, 1) := by decide +kernel
theorem dX3_simulate_15 : decode cX3_simulate 15 = .ok (.ldc_w 297, 3) := by decide +kernel
theorem dX3_simulate_18 : decode cX3_simulate 18 = .ok (.invokespecial 45, 3) := by decide +kernel
theorem dX3_simulate_21 : decode cX3_simulate 21 = .ok (.athrow, 1) := by decide +kernel
theorem dX3_simulate_22 : decode cX3_simulate 22 = .ok (.aload_n 0, 1) := by decide +kernel
theorem dX3_simulate_23 : decode cX3_simulate 23 = .ok (.getfield 23, 3) := by decide +kernel
theorem dX3_simulate_26 : decode cX3_simulate 26 = .ok (.aload_n 0, 1) := by decide +kernel
theorem dX3_simulate_27 : decode cX3_simulate 27 = .ok (.getfield 19, 3) := by decide +kernel
theorem dX3_simulate_30 : decode cX3_simulate 30 = .ok (.invokevirtual 250, 3) := by decide +kernel
theorem dX3_simulate_33 : decode cX3_simulate 33 = .ok (.lload_n 1, 1) := by decide +kernel
theorem dX3_simulate_34 : decode cX3_simulate 34 = .ok (.lstore 4, 2) := by decide +kernel
theorem dX3_simulate_36 : decode cX3_simulate 36 = .ok (.iconst 0, 1) := by decide +kernel
theorem dX3_simulate_37 : decode cX3_simulate 37 = .ok (.istore 6, 2) := by decide +kernel
theorem dX3_simulate_39 : decode cX3_simulate 39 = .ok (.iload 6, 2) := by decide +kernel
theorem dX3_simulate_41 : decode cX3_simulate 41 = .ok (.iload_n 3, 1) := by decide +kernel
theorem dX3_simulate_42 : decode cX3_simulate 42 = .ok (.if_icmp .ge 31, 3) := by decide +kernel
theorem dX3_simulate_45 : decode cX3_simulate 45 = .ok (.lload 4, 2) := by decide +kernel
theorem dX3_simulate_47 : decode cX3_simulate 47 = .ok (.ldc2_w 299, 3) := by decide +kernel
theorem dX3_simulate_50 : decode cX3_simulate 50 = .ok (.lmul, 1) := by decide +kernel
theorem dX3_simulate_51 : decode cX3_simulate 51 = .ok (.ldc2_w 301, 3) := by decide +kernel
theorem dX3_simulate_54 : decode cX3_simulate 54 = .ok (.ladd, 1) := by decide +kernel
theorem dX3_simulate_55 : decode cX3_simulate 55 = .ok (.lstore 4, 2) := by decide +kernel
theorem dX3_simulate_57 : decode cX3_simulate 57 = .ok (.aload_n 0, 1) := by decide +kernel
theorem dX3_simulate_58 : decode cX3_simulate 58 = .ok (.lload 4, 2) := by decide +kernel
theorem dX3_simulate_60 : decode cX3_simulate 60 = .ok (.bipush 33, 2) := by decide +kernel
theorem dX3_simulate_62 : decode cX3_simulate 62 = .ok (.lushr, 1) := by decide +kernel
theorem dX3_simulate_63 : decode cX3_simulate 63 = .ok (.l2i, 1) := by decide +kernel
theorem dX3_simulate_64 : decode cX3_simulate 64 = .ok (.invokevirtual 303, 3) := by decide +kernel
theorem dX3_simulate_67 : decode cX3_simulate 67 = .ok (.iinc 6 1, 3) := by decide +kernel
theorem dX3_simulate_70 : decode cX3_simulate 70 = .ok (.goto (-31), 3) := by decide +kernel
theorem dX3_simulate_73 : decode cX3_simulate 73 = .ok (.sipush 1000, 3) := by decide +kernel
theorem dX3_simulate_76 : decode cX3_simulate 76 = .ok (.aload_n 0, 1) := by decide +kernel
theorem dX3_simulate_77 : decode cX3_simulate 77 = .ok (.getfield 23, 3) := by decide +kernel
theorem dX3_simulate_80 : decode cX3_simulate 80 = .ok (.invokevirtual 127, 3) := by decide +kernel
theorem dX3_simulate_83 : decode cX3_simulate 83 = .ok (.aload_n 0, 1) := by decide +kernel
theorem dX3_simulate_84 : decode cX3_simulate 84 = .ok (.getfield 19, 3) := by decide +kernel
theorem dX3_simulate_87 : decode cX3_simulate 87 = .ok (.invokevirtual 127, 3) := by decide +kernel
theorem dX3_simulate_90 : decode cX3_simulate 90 = .ok (.isub, 1) := by decide +kernel
theorem dX3_simulate_91 : decode cX3_simulate 91 = .ok (.imul, 1) := by decide +kernel
theorem dX3_simulate_92 : decode cX3_simulate 92 = .ok (.aload_n 0, 1) := by decide +kernel
theorem dX3_simulate_93 : decode cX3_simulate 93 = .ok (.getfield 23, 3) := by decide +kernel
theorem dX3_simulate_96 : decode cX3_simulate 96 = .ok (.invokevirtual 115, 3) := by decide +kernel
theorem dX3_simulate_99 : decode cX3_simulate 99 = .ok (.iadd, 1) := by decide +kernel
theorem dX3_simulate_100 : decode cX3_simulate 100 = .ok (.ireturn, 1) := by decide +kernel
set_option maxRecDepth 20000 in
theorem ggX3_takeTurn_X3_writeIfAllowed : GoodIn wsX3_takeTurn wsX3_writeIfAllowed := goodIn_r _ [5, 6, 7, 4, 8, 9, 10, 11, 12, 13, 14, 15, 16, 17, 18, 19, 20, 21, 22, 23, 24, 25, 26, 27, 28, 29, 30, 31, 32, 33, 34, 116, 117, 118, 119, 120, 121, 122, 123, 124] (by decide +kernel) (by decide +kernel)
set_option maxRecDepth 20000 in
theorem gX3_takeTurn_X3_writeIfAllowed : GoodIn wsX3_takeTurn (va_wsS RX3 92 yX3_writeIfAllowed wsX3_writeIfAllowed) := goodIn_app (goodIn_of _ (by decide +kernel)) ggX3_takeTurn_X3_writeIfAllowed
set_option maxRecDepth 20000 in
theorem ggX3_takeTurn_X3_freeIfAllowed : GoodIn wsX3_takeTurn wsX3_freeIfAllowed := goodIn_r _ [37, 6, 7, 4, 8, 9, 10, 11, 12, 13, 14, 38, 39, 40, 18, 41, 20, 21, 42, 43, 44, 45, 46, 22, 23, 24, 25, 26, 27, 28, 29, 30, 31, 32, 33, 34, 116, 117, 118, 119, 120, 121, 122, 123, 124] (by decide +kernel) (by decide +kernel)
set_option maxRecDepth 20000 in
theorem gX3_takeTurn_X3_freeIfAllowed : GoodIn wsX3_takeTurn (va_wsS RX3 96 yX3_freeIfAllowed wsX3_freeIfAllowed) := goodIn_app (goodIn_of _ (by decide +kernel)) ggX3_takeTurn_X3_freeIfAllowed
set_option maxRecDepth 20000 in
theorem ggX3_takeTurn_X3_pinIfAllowed : GoodIn wsX3_takeTurn wsX3_pinIfAllowed := goodIn_r _ [49, 50, 51, 4, 52, 6, 7, 8, 9, 10, 11, 12, 13, 14, 53, 54, 55, 18, 56, 57, 58, 116, 117, 118, 119, 120, 121, 122, 123, 124] (by decide +kernel) (by decide +kernel)
set_option maxRecDepth 20000 in
theorem gX3_takeTurn_X3_pinIfAllowed : GoodIn wsX3_takeTurn (va_wsS RX3 102 yX3_pinIfAllowed wsX3_pinIfAllowed) := goodIn_app (goodIn_of _ (by decide +kernel)) ggX3_takeTurn_X3_pinIfAllowed
set_option maxRecDepth 20000 in
theorem ggX3_takeTurn_X0_passTicks : GoodIn wsX3_takeTurn wsX0_passTicks := goodIn_r _ [62, 63, 64, 65, 66, 18, 67, 68, 46, 21, 69, 70, 71, 72, 73, 74, 75, 76, 20, 77, 78, 79, 80, 81, 82, 83, 84, 85, 86, 87, 88, 89, 90, 91, 92, 58, 57, 93, 94, 95, 96, 97, 98, 99, 100, 101, 102, 103, 104, 105, 106, 107, 108, 109, 22, 23, 24, 25, 26, 27, 28, 29, 30, 31, 32, 33, 34, 116, 117, 118, 119, 120, 121, 122, 123, 124] (by decide +kernel) (by decide +kernel)
set_option maxRecDepth 20000 in
theorem gX3_takeTurn_X0_passTicks : GoodIn wsX3_takeTurn (wsV RX3 99 RX0 yX0_passTicks wsX0_passTicks) := goodIn_app (goodIn_of _ (by decide +kernel)) ggX3_takeTurn_X0_passTicks
theorem dX3_takeTurn_0 : decode cX3_takeTurn 0 = .ok (.iload_n 1, 1) := by decide +kernel
theorem dX3_takeTurn_1 : decode cX3_takeTurn 1 = .ok (.bipush 8, 2) := by decide +kernel
theorem dX3_takeTurn_3 : decode cX3_takeTurn 3 = .ok (.idiv, 1) := by decide +kernel
theorem dX3_takeTurn_4 : decode cX3_takeTurn 4 = .ok (.sipush 256, 3) := by decide +kernel
theorem dX3_takeTurn_7 : decode cX3_takeTurn 7 = .ok (.irem, 1) := by decide +kernel
theorem dX3_takeTurn_8 : decode cX3_takeTurn 8 = .ok (.istore_n 2, 1) := by decide +kernel
theorem dX3_takeTurn_9 : decode cX3_takeTurn 9 = .ok (.iconst 1, 1) := by decide +kernel
theorem dX3_takeTurn_10 : decode cX3_takeTurn 10 = .ok (.iload_n 1, 1) := by decide +kernel
theorem dX3_takeTurn_11 : decode cX3_takeTurn 11 = .ok (.sipush 2048, 3) := by decide +kernel
theorem dX3_takeTurn_14 : decode cX3_takeTurn 14 = .ok (.idiv, 1) := by decide +kernel
theorem dX3_takeTurn_15 : decode cX3_takeTurn 15 = .ok (.bipush 40, 2) := by decide +kernel
theorem dX3_takeTurn_17 : decode cX3_takeTurn 17 = .ok (.irem, 1) := by decide +kernel
theorem dX3_takeTurn_18 : decode cX3_takeTurn 18 = .ok (.iadd, 1) := by decide +kernel
theorem dX3_takeTurn_19 : decode cX3_takeTurn 19 = .ok (.istore_n 3, 1) := by decide +kernel
theorem dX3_takeTurn_20 : decode cX3_takeTurn 20 = .ok (.iload_n 1, 1) := by decide +kernel
theorem dX3_takeTurn_21 : decode cX3_takeTurn 21 = .ok (.bipush 8, 2) := by decide +kernel
theorem dX3_takeTurn_23 : decode cX3_takeTurn 23 = .ok (.irem, 1) := by decide +kernel
theorem dX3_takeTurn_24 : decode cX3_takeTurn 24 = .ok (.tableswitch 101 0 5 #[40, 40, 53, 53, 53, 66], 40) := by decide +kernel
theorem dX3_takeTurn_64 : decode cX3_takeTurn 64 = .ok (.iload_n 2, 1) := by decide +kernel
theorem dX3_takeTurn_65 : decode cX3_takeTurn 65 = .ok (.iload_n 3, 1) := by decide +kernel
theorem dX3_takeTurn_66 : decode cX3_takeTurn 66 = .ok (.aload_n 0, 1) := by decide +kernel
theorem dX3_takeTurn_67 : decode cX3_takeTurn 67 = .ok (.getfield 23, 3) := by decide +kernel
theorem dX3_takeTurn_70 : decode cX3_takeTurn 70 = .ok (.invokestatic 92, 3) := by decide +kernel
theorem dX3_takeTurn_73 : decode cX3_takeTurn 73 = .ok (.pop, 1) := by decide +kernel
theorem dX3_takeTurn_74 : decode cX3_takeTurn 74 = .ok (.goto 68, 3) := by decide +kernel
theorem dX3_takeTurn_77 : decode cX3_takeTurn 77 = .ok (.iload_n 2, 1) := by decide +kernel
theorem dX3_takeTurn_78 : decode cX3_takeTurn 78 = .ok (.iload_n 3, 1) := by decide +kernel
theorem dX3_takeTurn_79 : decode cX3_takeTurn 79 = .ok (.aload_n 0, 1) := by decide +kernel
theorem dX3_takeTurn_80 : decode cX3_takeTurn 80 = .ok (.getfield 23, 3) := by decide +kernel
theorem dX3_takeTurn_83 : decode cX3_takeTurn 83 = .ok (.invokestatic 96, 3) := by decide +kernel
theorem dX3_takeTurn_86 : decode cX3_takeTurn 86 = .ok (.pop, 1) := by decide +kernel
theorem dX3_takeTurn_87 : decode cX3_takeTurn 87 = .ok (.goto 55, 3) := by decide +kernel
theorem dX3_takeTurn_90 : decode cX3_takeTurn 90 = .ok (.iload_n 1, 1) := by decide +kernel
theorem dX3_takeTurn_91 : decode cX3_takeTurn 91 = .ok (.bipush 8, 2) := by decide +kernel
theorem dX3_takeTurn_93 : decode cX3_takeTurn 93 = .ok (.idiv, 1) := by decide +kernel
theorem dX3_takeTurn_94 : decode cX3_takeTurn 94 = .ok (.iconst 3, 1) := by decide +kernel
theorem dX3_takeTurn_95 : decode cX3_takeTurn 95 = .ok (.irem, 1) := by decide +kernel
theorem dX3_takeTurn_96 : decode cX3_takeTurn 96 = .ok (.iload_n 1, 1) := by decide +kernel
theorem dX3_takeTurn_97 : decode cX3_takeTurn 97 = .ok (.bipush 32, 2) := by decide +kernel
theorem dX3_takeTurn_99 : decode cX3_takeTurn 99 = .ok (.idiv, 1) := by decide +kernel
theorem dX3_takeTurn_100 : decode cX3_takeTurn 100 = .ok (.sipush 256, 3) := by decide +kernel
theorem dX3_takeTurn_103 : decode cX3_takeTurn 103 = .ok (.irem, 1) := by decide +kernel
theorem dX3_takeTurn_104 : decode cX3_takeTurn 104 = .ok (.iconst 1, 1) := by decide +kernel
theorem dX3_takeTurn_105 : decode cX3_takeTurn 105 = .ok (.iload_n 1, 1) := by decide +kernel
theorem dX3_takeTurn_106 : decode cX3_takeTurn 106 = .ok (.sipush 8192, 3) := by decide +kernel
theorem dX3_takeTurn_109 : decode cX3_takeTurn 109 = .ok (.idiv, 1) := by decide +kernel
theorem dX3_takeTurn_110 : decode cX3_takeTurn 110 = .ok (.bipush 9, 2) := by decide +kernel
theorem dX3_takeTurn_112 : decode cX3_takeTurn 112 = .ok (.irem, 1) := by decide +kernel
theorem dX3_takeTurn_113 : decode cX3_takeTurn 113 = .ok (.iadd, 1) := by decide +kernel
theorem dX3_takeTurn_114 : decode cX3_takeTurn 114 = .ok (.aload_n 0, 1) := by decide +kernel
theorem dX3_takeTurn_115 : decode cX3_takeTurn 115 = .ok (.getfield 23, 3) := by decide +kernel
theorem dX3_takeTurn_118 : decode cX3_takeTurn 118 = .ok (.invokestatic 102, 3) := by decide +kernel
theorem dX3_takeTurn_121 : decode cX3_takeTurn 121 = .ok (.pop, 1) := by decide +kernel
theorem dX3_takeTurn_122 : decode cX3_takeTurn 122 = .ok (.goto 20, 3) := by decide +kernel
theorem dX3_takeTurn_125 : decode cX3_takeTurn 125 = .ok (.aload_n 0, 1) := by decide +kernel
theorem dX3_takeTurn_126 : decode cX3_takeTurn 126 = .ok (.getfield 23, 3) := by decide +kernel
theorem dX3_takeTurn_129 : decode cX3_takeTurn 129 = .ok (.iconst 1, 1) := by decide +kernel
theorem dX3_takeTurn_130 : decode cX3_takeTurn 130 = .ok (.iload_n 1, 1) := by decide +kernel
theorem dX3_takeTurn_131 : decode cX3_takeTurn 131 = .ok (.bipush 8, 2) := by decide +kernel
theorem dX3_takeTurn_133 : decode cX3_takeTurn 133 = .ok (.idiv, 1) := by decide +kernel
theorem dX3_takeTurn_134 : decode cX3_takeTurn 134 = .ok (.bipush 8, 2) := by decide +kernel
theorem dX3_takeTurn_136 : decode cX3_takeTurn 136 = .ok (.irem, 1) := by decide +kernel
theorem dX3_takeTurn_137 : decode cX3_takeTurn 137 = .ok (.iadd, 1) := by decide +kernel
theorem dX3_takeTurn_138 : decode cX3_takeTurn 138 = .ok (.invokevirtual 99, 3) := by decide +kernel
theorem dX3_takeTurn_141 : decode cX3_takeTurn 141 = .ok (.pop, 1) := by decide +kernel
theorem dX3_takeTurn_142 : decode cX3_takeTurn 142 = .ok (.return_, 1) := by decide +kernel
set_option maxRecDepth 20000 in
theorem ggX3_save_X3_checkSlot : GoodIn wsX3_save wsX3_checkSlot := goodIn_ca (goodIn_r _ [7, 8, 9] (by decide +kernel) (by decide +kernel)) (goodIn_sub (fun _ h => List.mem_cons_of_mem _ (List.mem_append_right _ h)) (by decide +kernel))
set_option maxRecDepth 20000 in
theorem gX3_save_X3_checkSlot : GoodIn wsX3_save (va_wsS RX3 306 yX3_checkSlot wsX3_checkSlot) := goodIn_app (goodIn_of _ (by decide +kernel)) ggX3_save_X3_checkSlot
set_option maxRecDepth 20000 in
theorem ggX3_save_X0_copyFrom : GoodIn wsX3_save wsX0_copyFrom := goodIn_r _ [14, 15, 16, 17, 18, 19, 20, 21, 22, 23, 24, 25, 26, 27, 38, 39, 40, 41, 42, 43, 44, 45, 46] (by decide +kernel) (by decide +kernel)
set_option maxRecDepth 20000 in
theorem gX3_save_X0_copyFrom : GoodIn wsX3_save (wsV RX3 250 RX0 yX0_copyFrom wsX0_copyFrom) := goodIn_app (goodIn_of _ (by decide +kernel)) ggX3_save_X0_copyFrom
set_option maxRecDepth 20000 in
theorem ggX3_save_X0_time : GoodIn wsX3_save wsX0_time := goodIn_r _ [31, 23, 38, 39, 40, 41, 42, 43, 44, 45, 46] (by decide +kernel) (by decide +kernel)
set_option maxRecDepth 20000 in
theorem gX3_save_X0_time : GoodIn wsX3_save (wsV RX3 118 RX0 yX0_time wsX0_time) := goodIn_app (goodIn_of _ (by decide +kernel)) ggX3_save_X0_time
theorem dX3_save_0 : decode cX3_save 0 = .ok (.iload_n 1, 1) := by decide +kernel
theorem dX3_save_1 : decode cX3_save 1 = .ok (.invokestatic 306, 3) := by decide +kernel
theorem dX3_save_4 : decode cX3_save 4 = .ok (.aload_n 0, 1) := by decide +kernel
theorem dX3_save_5 : decode cX3_save 5 = .ok (.getfield 33, 3) := by decide +kernel
theorem dX3_save_8 : decode cX3_save 8 = .ok (.iload_n 1, 1) := by decide +kernel
theorem dX3_save_9 : decode cX3_save 9 = .ok (.aaload, 1) := by decide +kernel
theorem dX3_save_10 : decode cX3_save 10 = .ok (.aload_n 0, 1) := by decide +kernel
theorem dX3_save_11 : decode cX3_save 11 = .ok (.getfield 19, 3) := by decide +kernel
theorem dX3_save_14 : decode cX3_save 14 = .ok (.invokevirtual 250, 3) := by decide +kernel
theorem dX3_save_17 : decode cX3_save 17 = .ok (.aload_n 0, 1) := by decide +kernel
theorem dX3_save_18 : decode cX3_save 18 = .ok (.getfield 37, 3) := by decide +kernel
theorem dX3_save_21 : decode cX3_save 21 = .ok (.iload_n 1, 1) := by decide +kernel
theorem dX3_save_22 : decode cX3_save 22 = .ok (.iconst 1, 1) := by decide +kernel
theorem dX3_save_23 : decode cX3_save 23 = .ok (.bastore, 1) := by decide +kernel
theorem dX3_save_24 : decode cX3_save 24 = .ok (.aload_n 0, 1) := by decide +kernel
theorem dX3_save_25 : decode cX3_save 25 = .ok (.getfield 19, 3) := by decide +kernel
theorem dX3_save_28 : decode cX3_save 28 = .ok (.invokevirtual 118, 3) := by decide +kernel
theorem dX3_save_31 : decode cX3_save 31 = .ok (.ireturn, 1) := by decide +kernel
set_option maxRecDepth 20000 in
theorem ggX3_restore_X3_checkSlot : GoodIn wsX3_restore wsX3_checkSlot := goodIn_ca (goodIn_r _ [10, 11, 12] (by decide +kernel) (by decide +kernel)) (goodIn_sub (fun _ h => List.mem_cons_of_mem _ (List.mem_append_right _ h)) (by decide +kernel))
set_option maxRecDepth 20000 in
theorem gX3_restore_X3_checkSlot : GoodIn wsX3_restore (va_wsS RX3 306 yX3_checkSlot wsX3_checkSlot) := goodIn_app (goodIn_of _ (by decide +kernel)) ggX3_restore_X3_checkSlot
set_option maxRecDepth 20000 in
theorem ggX3_restore_X0_copyFrom : GoodIn wsX3_restore wsX0_copyFrom := goodIn_r _ [17, 18, 19, 20, 21, 22, 23, 24, 25, 26, 27, 28, 29, 30, 47, 48, 49, 50, 51, 52, 53, 54, 55] (by decide +kernel) (by decide +kernel)
set_option maxRecDepth 20000 in
theorem gX3_restore_X0_copyFrom : GoodIn wsX3_restore (wsV RX3 250 RX0 yX0_copyFrom wsX0_copyFrom) := goodIn_app (goodIn_of _ (by decide +kernel)) ggX3_restore_X0_copyFrom
set_option maxRecDepth 20000 in
theorem ggX3_restore_X1_forget : GoodIn wsX3_restore wsX1_forget := goodIn_r _ [35, 36, 56, 57, 58] (by decide +kernel) (by decide +kernel)
set_option maxRecDepth 20000 in
theorem gX3_restore_X1_forget : GoodIn wsX3_restore (wsV RX3 73 RX1 yX1_forget wsX1_forget) := goodIn_app (goodIn_of _ (by decide +kernel)) ggX3_restore_X1_forget
set_option maxRecDepth 20000 in
theorem ggX3_restore_X0_time : GoodIn wsX3_restore wsX0_time := goodIn_r _ [40, 26, 47, 48, 49, 50, 51, 52, 53, 54, 55] (by decide +kernel) (by decide +kernel)
set_option maxRecDepth 20000 in
theorem gX3_restore_X0_time : GoodIn wsX3_restore (wsV RX3 118 RX0 yX0_time wsX0_time) := goodIn_app (goodIn_of _ (by decide +kernel)) ggX3_restore_X0_time
theorem dX3_restore_0 : decode cX3_restore 0 = .ok (.iload_n 1, 1) := by decide +kernel
theorem dX3_restore_1 : decode cX3_restore 1 = .ok (.invokestatic 306, 3) := by decide +kernel
theorem dX3_restore_4 : decode cX3_restore 4 = .ok (.aload_n 0, 1) := by decide +kernel
theorem dX3_restore_5 : decode cX3_restore 5 = .ok (.getfield 37, 3) := by decide +kernel
theorem dX3_restore_8 : decode cX3_restore 8 = .ok (.iload_n 1, 1) := by decide +kernel
theorem dX3_restore_9 : decode cX3_restore 9 = .ok (.baload, 1) := by decide +kernel
theorem dX3_restore_10 : decode cX3_restore 10 = .ok (.ifCond .ne 14, 3) := by decide +kernel
theorem dX3_restore_13 : decode cX3_restore 13 = .ok (.new 52, 3) := by decide +kernel
theorem dX3_restore_16 : decode cX3_restore 16 = .ok (.dup, 1) := by decide +kernel
theorem dX3_restore_17 : decode cX3_restore 17 = .ok (.ldc_w 309, 3) := by decide +kernel
theorem dX3_restore_20 : decode cX3_restore 20 = .ok (.invokespecial 56, 3) := by decide +kernel
theorem dX3_restore_23 : decode cX3_restore 23 = .ok (.athrow, 1) := by decide +kernel
theorem dX3_restore_24 : decode cX3_restore 24 = .ok (.aload_n 0, 1) := by decide +kernel
theorem dX3_restore_25 : decode cX3_restore 25 = .ok (.getfield 19, 3) := by decide +kernel
theorem dX3_restore_28 : decode cX3_restore 28 = .ok (.aload_n 0, 1) := by decide +kernel
theorem dX3_restore_29 : decode cX3_restore 29 = .ok (.getfield 33, 3) := by decide +kernel
theorem dX3_restore_32 : decode cX3_restore 32 = .ok (.iload_n 1, 1) := by decide +kernel
theorem dX3_restore_33 : decode cX3_restore 33 = .ok (.aaload, 1) := by decide +kernel
theorem dX3_restore_34 : decode cX3_restore 34 = .ok (.invokevirtual 250, 3) := by decide +kernel
theorem dX3_restore_37 : decode cX3_restore 37 = .ok (.aload_n 0, 1) := by decide +kernel
theorem dX3_restore_38 : decode cX3_restore 38 = .ok (.getfield 29, 3) := by decide +kernel
theorem dX3_restore_41 : decode cX3_restore 41 = .ok (.invokevirtual 73, 3) := by decide +kernel
theorem dX3_restore_44 : decode cX3_restore 44 = .ok (.aload_n 0, 1) := by decide +kernel
theorem dX3_restore_45 : decode cX3_restore 45 = .ok (.getfield 19, 3) := by decide +kernel
theorem dX3_restore_48 : decode cX3_restore 48 = .ok (.invokevirtual 118, 3) := by decide +kernel
theorem dX3_restore_51 : decode cX3_restore 51 = .ok (.ireturn, 1) := by decide +kernel
theorem dX3_isBlock_0 : decode cX3_isBlock 0 = .ok (.iload_n 0, 1) := by decide +kernel
theorem dX3_isBlock_1 : decode cX3_isBlock 1 = .ok (.ifCond .lt 14, 3) := by decide +kernel
theorem dX3_isBlock_4 : decode cX3_isBlock 4 = .ok (.iload_n 0, 1) := by decide +kernel
theorem dX3_isBlock_5 : decode cX3_isBlock 5 = .ok (.sipush 256, 3) := by decide +kernel
theorem dX3_isBlock_8 : decode cX3_isBlock 8 = .ok (.if_icmp .ge 7, 3) := by decide +kernel
theorem dX3_isBlock_11 : decode cX3_isBlock 11 = .ok (.iconst 1, 1) := by decide +kernel
theorem dX3_isBlock_12 : decode cX3_isBlock 12 = .ok (.goto 4, 3) := by decide +kernel
theorem dX3_isBlock_15 : decode cX3_isBlock 15 = .ok (.iconst 0, 1) := by decide +kernel
theorem dX3_isBlock_16 : decode cX3_isBlock 16 = .ok (.ireturn, 1) := by decide +kernel
theorem dX3_isLength_0 : decode cX3_isLength 0 = .ok (.iload_n 0, 1) := by decide +kernel
theorem dX3_isLength_1 : decode cX3_isLength 1 = .ok (.iconst 1, 1) := by decide +kernel
theorem dX3_isLength_2 : decode cX3_isLength 2 = .ok (.if_icmp .lt 13, 3) := by decide +kernel
theorem dX3_isLength_5 : decode cX3_isLength 5 = .ok (.iload_n 0, 1) := by decide +kernel
theorem dX3_isLength_6 : decode cX3_isLength 6 = .ok (.bipush 99, 2) := by decide +kernel
theorem dX3_isLength_8 : decode cX3_isLength 8 = .ok (.if_icmp .gt 7, 3) := by decide +kernel
theorem dX3_isLength_11 : decode cX3_isLength 11 = .ok (.iconst 1, 1) := by decide +kernel
theorem dX3_isLength_12 : decode cX3_isLength 12 = .ok (.goto 4, 3) := by decide +kernel
theorem dX3_isLength_15 : decode cX3_isLength 15 = .ok (.iconst 0, 1) := by decide +kernel
theorem dX3_isLength_16 : decode cX3_isLength 16 = .ok (.ireturn, 1) := by decide +kernel
set_option maxRecDepth 20000 in
theorem ggX3_isSpan_X3_isBlock : GoodIn wsX3_isSpan wsX3_isBlock := goodIn_r _ [4] (by decide +kernel) (by decide +kernel)
set_option maxRecDepth 20000 in
theorem gX3_isSpan_X3_isBlock : GoodIn wsX3_isSpan (va_wsS RX3 294 yX3_isBlock wsX3_isBlock) := goodIn_app (goodIn_of _ (by decide +kernel)) ggX3_isSpan_X3_isBlock
set_option maxRecDepth 20000 in
theorem ggX3_isSpan_X3_isLength : GoodIn wsX3_isSpan wsX3_isLength := goodIn_r _ [7] (by decide +kernel) (by decide +kernel)
set_option maxRecDepth 20000 in
theorem gX3_isSpan_X3_isLength : GoodIn wsX3_isSpan (va_wsS RX3 311 yX3_isLength wsX3_isLength) := goodIn_app (goodIn_of _ (by decide +kernel)) ggX3_isSpan_X3_isLength
theorem dX3_isSpan_0 : decode cX3_isSpan 0 = .ok (.iload_n 0, 1) := by decide +kernel
theorem dX3_isSpan_1 : decode cX3_isSpan 1 = .ok (.invokestatic 294, 3) := by decide +kernel
theorem dX3_isSpan_4 : decode cX3_isSpan 4 = .ok (.ifCond .eq 23, 3) := by decide +kernel
theorem dX3_isSpan_7 : decode cX3_isSpan 7 = .ok (.iload_n 1, 1) := by decide +kernel
theorem dX3_isSpan_8 : decode cX3_isSpan 8 = .ok (.invokestatic 311, 3) := by decide +kernel
theorem dX3_isSpan_11 : decode cX3_isSpan 11 = .ok (.ifCond .eq 16, 3) := by decide +kernel
theorem dX3_isSpan_14 : decode cX3_isSpan 14 = .ok (.iload_n 0, 1) := by decide +kernel
theorem dX3_isSpan_15 : decode cX3_isSpan 15 = .ok (.iload_n 1, 1) := by decide +kernel
theorem dX3_isSpan_16 : decode cX3_isSpan 16 = .ok (.iadd, 1) := by decide +kernel
theorem dX3_isSpan_17 : decode cX3_isSpan 17 = .ok (.sipush 256, 3) := by decide +kernel
theorem dX3_isSpan_20 : decode cX3_isSpan 20 = .ok (.if_icmp .gt 7, 3) := by decide +kernel
theorem dX3_isSpan_23 : decode cX3_isSpan 23 = .ok (.iconst 1, 1) := by decide +kernel
theorem dX3_isSpan_24 : decode cX3_isSpan 24 = .ok (.goto 4, 3) := by decide +kernel
theorem dX3_isSpan_27 : decode cX3_isSpan 27 = .ok (.iconst 0, 1) := by decide +kernel
theorem dX3_isSpan_28 : decode cX3_isSpan 28 = .ok (.ireturn, 1) := by decide +kernel
theorem dX3_isTicks_0 : decode cX3_isTicks 0 = .ok (.iload_n 0, 1) := by decide +kernel
theorem dX3_isTicks_1 : decode cX3_isTicks 1 = .ok (.iconst 1, 1) := by decide +kernel
theorem dX3_isTicks_2 : decode cX3_isTicks 2 = .ok (.if_icmp .lt 12, 3) := by decide +kernel
theorem dX3_isTicks_5 : decode cX3_isTicks 5 = .ok (.iload_n 0, 1) := by decide +kernel
theorem dX3_isTicks_6 : decode cX3_isTicks 6 = .ok (.iload_n 1, 1) := by decide +kernel
theorem dX3_isTicks_7 : decode cX3_isTicks 7 = .ok (.if_icmp .gt 7, 3) := by decide +kernel
theorem dX3_isTicks_10 : decode cX3_isTicks 10 = .ok (.iconst 1, 1) := by decide +kernel
theorem dX3_isTicks_11 : decode cX3_isTicks 11 = .ok (.goto 4, 3) := by decide +kernel
theorem dX3_isTicks_14 : decode cX3_isTicks 14 = .ok (.iconst 0, 1) := by decide +kernel
theorem dX3_isTicks_15 : decode cX3_isTicks 15 = .ok (.ireturn, 1) := by decide +kernel
theorem dX3_isPin_0 : decode cX3_isPin 0 = .ok (.iload_n 0, 1) := by decide +kernel
theorem dX3_isPin_1 : decode cX3_isPin 1 = .ok (.ifCond .lt 12, 3) := by decide +kernel
theorem dX3_isPin_4 : decode cX3_isPin 4 = .ok (.iload_n 0, 1) := by decide +kernel
theorem dX3_isPin_5 : decode cX3_isPin 5 = .ok (.iconst 3, 1) := by decide +kernel
theorem dX3_isPin_6 : decode cX3_isPin 6 = .ok (.if_icmp .ge 7, 3) := by decide +kernel
theorem dX3_isPin_9 : decode cX3_isPin 9 = .ok (.iconst 1, 1) := by decide +kernel
theorem dX3_isPin_10 : decode cX3_isPin 10 = .ok (.goto 4, 3) := by decide +kernel
theorem dX3_isPin_13 : decode cX3_isPin 13 = .ok (.iconst 0, 1) := by decide +kernel
theorem dX3_isPin_14 : decode cX3_isPin 14 = .ok (.ireturn, 1) := by decide +kernel
theorem dX3_isSetting_0 : decode cX3_isSetting 0 = .ok (.iload_n 0, 1) := by decide +kernel
theorem dX3_isSetting_1 : decode cX3_isSetting 1 = .ok (.ifCond .lt 13, 3) := by decide +kernel
theorem dX3_isSetting_4 : decode cX3_isSetting 4 = .ok (.iload_n 0, 1) := by decide +kernel
theorem dX3_isSetting_5 : decode cX3_isSetting 5 = .ok (.bipush 6, 2) := by decide +kernel
theorem dX3_isSetting_7 : decode cX3_isSetting 7 = .ok (.if_icmp .ge 7, 3) := by decide +kernel
theorem dX3_isSetting_10 : decode cX3_isSetting 10 = .ok (.iconst 1, 1) := by decide +kernel
theorem dX3_isSetting_11 : decode cX3_isSetting 11 = .ok (.goto 4, 3) := by decide +kernel
theorem dX3_isSetting_14 : decode cX3_isSetting 14 = .ok (.iconst 0, 1) := by decide +kernel
theorem dX3_isSetting_15 : decode cX3_isSetting 15 = .ok (.ireturn, 1) := by decide +kernel
set_option maxRecDepth 20000 in
theorem ggX3_isValue_X3_isSetting : GoodIn wsX3_isValue wsX3_isSetting := goodIn_r _ [5] (by decide +kernel) (by decide +kernel)
set_option maxRecDepth 20000 in
theorem gX3_isValue_X3_isSetting : GoodIn wsX3_isValue (va_wsS RX3 198 yX3_isSetting wsX3_isSetting) := goodIn_app (goodIn_of _ (by decide +kernel)) ggX3_isValue_X3_isSetting
theorem dX3_isValue_0 : decode cX3_isValue 0 = .ok (.iload_n 0, 1) := by decide +kernel
theorem dX3_isValue_1 : decode cX3_isValue 1 = .ok (.invokestatic 198, 3) := by decide +kernel
theorem dX3_isValue_4 : decode cX3_isValue 4 = .ok (.ifCond .eq 20, 3) := by decide +kernel
theorem dX3_isValue_7 : decode cX3_isValue 7 = .ok (.iload_n 1, 1) := by decide +kernel
theorem dX3_isValue_8 : decode cX3_isValue 8 = .ok (.ifCond .lt 16, 3) := by decide +kernel
theorem dX3_isValue_11 : decode cX3_isValue 11 = .ok (.iload_n 1, 1) := by decide +kernel
theorem dX3_isValue_12 : decode cX3_isValue 12 = .ok (.getstatic 273, 3) := by decide +kernel
theorem dX3_isValue_15 : decode cX3_isValue 15 = .ok (.iload_n 0, 1) := by decide +kernel
theorem dX3_isValue_16 : decode cX3_isValue 16 = .ok (.iaload, 1) := by decide +kernel
theorem dX3_isValue_17 : decode cX3_isValue 17 = .ok (.if_icmp .gt 7, 3) := by decide +kernel
theorem dX3_isValue_20 : decode cX3_isValue 20 = .ok (.iconst 1, 1) := by decide +kernel
theorem dX3_isValue_21 : decode cX3_isValue 21 = .ok (.goto 4, 3) := by decide +kernel
theorem dX3_isValue_24 : decode cX3_isValue 24 = .ok (.iconst 0, 1) := by decide +kernel
theorem dX3_isValue_25 : decode cX3_isValue 25 = .ok (.ireturn, 1) := by decide +kernel
set_option maxRecDepth 20000 in
theorem ggX3_checkBlock_X3_isBlock : GoodIn wsX3_checkBlock wsX3_isBlock := goodIn_r _ [6] (by decide +kernel) (by decide +kernel)
set_option maxRecDepth 20000 in
theorem gX3_checkBlock_X3_isBlock : GoodIn wsX3_checkBlock (va_wsS RX3 294 yX3_isBlock wsX3_isBlock) := goodIn_app (goodIn_of _ (by decide +kernel)) ggX3_checkBlock_X3_isBlock
theorem dX3_checkBlock_0 : decode cX3_checkBlock 0 = .ok (.iload_n 0, 1) := by decide +kernel
theorem dX3_checkBlock_1 : decode cX3_checkBlock 1 = .ok (.invokestatic 294, 3) := by decide +kernel
theorem dX3_checkBlock_4 : decode cX3_checkBlock 4 = .ok (.ifCond .ne 14, 3) := by decide +kernel
theorem dX3_checkBlock_7 : decode cX3_checkBlock 7 = .ok (.new 158, 3) := by decide +kernel
theorem dX3_checkBlock_10 : decode cX3_checkBlock 10 = .ok (.dup, 1) := by decide +kernel
theorem dX3_checkBlock_11 : decode cX3_checkBlock 11 = .ok (.ldc_w 314, 3) := by decide +kernel
theorem dX3_checkBlock_14 : decode cX3_checkBlock 14 = .ok (.invokespecial 162, 3) := by decide +kernel
theorem dX3_checkBlock_17 : decode cX3_checkBlock 17 = .ok (.athrow, 1) := by decide +kernel
theorem dX3_checkBlock_18 : decode cX3_checkBlock 18 = .ok (.return_, 1) := by decide +kernel
set_option maxRecDepth 20000 in
theorem ggX3_checkSpan_X3_checkBlock : GoodIn wsX3_checkSpan wsX3_checkBlock := goodIn_ca (goodIn_r _ [8, 9, 10, 11, 12, 7, 13] (by decide +kernel) (by decide +kernel)) (goodIn_sub (fun _ h => List.mem_cons_of_mem _ (List.mem_append_right _ h)) (by decide +kernel))
set_option maxRecDepth 20000 in
theorem gX3_checkSpan_X3_checkBlock : GoodIn wsX3_checkSpan (va_wsS RX3 138 yX3_checkBlock wsX3_checkBlock) := goodIn_app (goodIn_of _ (by decide +kernel)) ggX3_checkSpan_X3_checkBlock
set_option maxRecDepth 20000 in
theorem ggX3_checkSpan_X3_isLength : GoodIn wsX3_checkSpan wsX3_isLength := goodIn_r _ [16] (by decide +kernel) (by decide +kernel)
set_option maxRecDepth 20000 in
theorem gX3_checkSpan_X3_isLength : GoodIn wsX3_checkSpan (va_wsS RX3 311 yX3_isLength wsX3_isLength) := goodIn_app (goodIn_of _ (by decide +kernel)) ggX3_checkSpan_X3_isLength
set_option maxRecDepth 20000 in
theorem ggX3_checkSpan_X3_isSpan : GoodIn wsX3_checkSpan wsX3_isSpan := goodIn_r _ [19, 11, 12, 7, 13, 14, 15, 16] (by decide +kernel) (by decide +kernel)
set_option maxRecDepth 20000 in
theorem gX3_checkSpan_X3_isSpan : GoodIn wsX3_checkSpan (va_wsS RX3 318 yX3_isSpan wsX3_isSpan) := goodIn_app (goodIn_of _ (by decide +kernel)) ggX3_checkSpan_X3_isSpan
theorem dX3_checkSpan_0 : decode cX3_checkSpan 0 = .ok (.iload_n 0, 1) := by decide +kernel
theorem dX3_checkSpan_1 : decode cX3_checkSpan 1 = .ok (.invokestatic 138, 3) := by decide +kernel
theorem dX3_checkSpan_4 : decode cX3_checkSpan 4 = .ok (.iload_n 1, 1) := by decide +kernel
theorem dX3_checkSpan_5 : decode cX3_checkSpan 5 = .ok (.invokestatic 311, 3) := by decide +kernel
theorem dX3_checkSpan_8 : decode cX3_checkSpan 8 = .ok (.ifCond .ne 14, 3) := by decide +kernel
theorem dX3_checkSpan_11 : decode cX3_checkSpan 11 = .ok (.new 41, 3) := by decide +kernel
theorem dX3_checkSpan_14 : decode cX3_checkSpan 14 = .ok (.dup, 1) := by decide +kernel
theorem dX3_checkSpan_15 : decode cX3_checkSpan 15 = .ok (.ldc_w 316, 3) := by decide +kernel
theorem dX3_checkSpan_18 : decode cX3_checkSpan 18 = .ok (.invokespecial 45, 3) := by decide +kernel
theorem dX3_checkSpan_21 : decode cX3_checkSpan 21 = .ok (.athrow, 1) := by decide +kernel
theorem dX3_checkSpan_22 : decode cX3_checkSpan 22 = .ok (.iload_n 0, 1) := by decide +kernel
theorem dX3_checkSpan_23 : decode cX3_checkSpan 23 = .ok (.iload_n 1, 1) := by decide +kernel
theorem dX3_checkSpan_24 : decode cX3_checkSpan 24 = .ok (.invokestatic 318, 3) := by decide +kernel
theorem dX3_checkSpan_27 : decode cX3_checkSpan 27 = .ok (.ifCond .ne 14, 3) := by decide +kernel
theorem dX3_checkSpan_30 : decode cX3_checkSpan 30 = .ok (.new 52, 3) := by decide +kernel
theorem dX3_checkSpan_33 : decode cX3_checkSpan 33 = .ok (.dup, 1) := by decide +kernel
theorem dX3_checkSpan_34 : decode cX3_checkSpan 34 = .ok (.ldc_w 321, 3) := by decide +kernel
theorem dX3_checkSpan_37 : decode cX3_checkSpan 37 = .ok (.invokespecial 56, 3) := by decide +kernel
theorem dX3_checkSpan_40 : decode cX3_checkSpan 40 = .ok (.athrow, 1) := by decide +kernel
theorem dX3_checkSpan_41 : decode cX3_checkSpan 41 = .ok (.return_, 1) := by decide +kernel
set_option maxRecDepth 20000 in
theorem ggX3_checkPin_X3_isPin : GoodIn wsX3_checkPin wsX3_isPin := goodIn_r _ [6] (by decide +kernel) (by decide +kernel)
set_option maxRecDepth 20000 in
theorem gX3_checkPin_X3_isPin : GoodIn wsX3_checkPin (va_wsS RX3 323 yX3_isPin wsX3_isPin) := goodIn_app (goodIn_of _ (by decide +kernel)) ggX3_checkPin_X3_isPin
theorem dX3_checkPin_0 : decode cX3_checkPin 0 = .ok (.iload_n 0, 1) := by decide +kernel
theorem dX3_checkPin_1 : decode cX3_checkPin 1 = .ok (.invokestatic 323, 3) := by decide +kernel
theorem dX3_checkPin_4 : decode cX3_checkPin 4 = .ok (.ifCond .ne 14, 3) := by decide +kernel
theorem dX3_checkPin_7 : decode cX3_checkPin 7 = .ok (.new 158, 3) := by decide +kernel
theorem dX3_checkPin_10 : decode cX3_checkPin 10 = .ok (.dup, 1) := by decide +kernel
theorem dX3_checkPin_11 : decode cX3_checkPin 11 = .ok (.ldc_w 326, 3) := by decide +kernel
theorem dX3_checkPin_14 : decode cX3_checkPin 14 = .ok (.invokespecial 162, 3) := by decide +kernel
theorem dX3_checkPin_17 : decode cX3_checkPin 17 = .ok (.athrow, 1) := by decide +kernel
theorem dX3_checkPin_18 : decode cX3_checkPin 18 = .ok (.return_, 1) := by decide +kernel
set_option maxRecDepth 20000 in
theorem ggX3_checkTicks_X3_isTicks : GoodIn wsX3_checkTicks wsX3_isTicks := goodIn_r _ [6] (by decide +kernel) (by decide +kernel)
set_option maxRecDepth 20000 in
theorem gX3_checkTicks_X3_isTicks : GoodIn wsX3_checkTicks (va_wsS RX3 291 yX3_isTicks wsX3_isTicks) := goodIn_app (goodIn_of _ (by decide +kernel)) ggX3_checkTicks_X3_isTicks
theorem dX3_checkTicks_0 : decode cX3_checkTicks 0 = .ok (.iload_n 0, 1) := by decide +kernel
theorem dX3_checkTicks_1 : decode cX3_checkTicks 1 = .ok (.iload_n 1, 1) := by decide +kernel
theorem dX3_checkTicks_2 : decode cX3_checkTicks 2 = .ok (.invokestatic 291, 3) := by decide +kernel
theorem dX3_checkTicks_5 : decode cX3_checkTicks 5 = .ok (.ifCond .ne 14, 3) := by decide +kernel
theorem dX3_checkTicks_8 : decode cX3_checkTicks 8 = .ok (.new 41, 3) := by decide +kernel
theorem dX3_checkTicks_11 : decode cX3_checkTicks 11 = .ok (.dup, 1) := by decide +kernel
theorem dX3_checkTicks_12 : decode cX3_checkTicks 12 = .ok (.ldc_w 328, 3) := by decide +kernel
theorem dX3_checkTicks_15 : decode cX3_checkTicks 15 = .ok (.invokespecial 45, 3) := by decide +kernel
theorem dX3_checkTicks_18 : decode cX3_checkTicks 18 = .ok (.athrow, 1) := by decide +kernel
theorem dX3_checkTicks_19 : decode cX3_checkTicks 19 = .ok (.return_, 1) := by decide +kernel
theorem dX3_checkSlot_0 : decode cX3_checkSlot 0 = .ok (.iload_n 0, 1) := by decide +kernel
theorem dX3_checkSlot_1 : decode cX3_checkSlot 1 = .ok (.ifCond .lt 8, 3) := by decide +kernel
theorem dX3_checkSlot_4 : decode cX3_checkSlot 4 = .ok (.iload_n 0, 1) := by decide +kernel
theorem dX3_checkSlot_5 : decode cX3_checkSlot 5 = .ok (.iconst 2, 1) := by decide +kernel
theorem dX3_checkSlot_6 : decode cX3_checkSlot 6 = .ok (.if_icmp .lt 14, 3) := by decide +kernel
theorem dX3_checkSlot_9 : decode cX3_checkSlot 9 = .ok (.new 158, 3) := by decide +kernel
theorem dX3_checkSlot_12 : decode cX3_checkSlot 12 = .ok (.dup, 1) := by decide +kernel
theorem dX3_checkSlot_13 : decode cX3_checkSlot 13 = .ok (.ldc_w 330, 3) := by decide +kernel
theorem dX3_checkSlot_16 : decode cX3_checkSlot 16 = .ok (.invokespecial 162, 3) := by decide +kernel
theorem dX3_checkSlot_19 : decode cX3_checkSlot 19 = .ok (.athrow, 1) := by decide +kernel
theorem dX3_checkSlot_20 : decode cX3_checkSlot 20 = .ok (.return_, 1) := by decide +kernel
set_option maxRecDepth 20000 in
theorem ggX3_writeIfAllowed_X3_isSpan : GoodIn wsX3_writeIfAllowed wsX3_isSpan := goodIn_r _ [4, 5, 6, 3, 7, 8, 9, 10] (by decide +kernel) (by decide +kernel)
set_option maxRecDepth 20000 in
theorem gX3_writeIfAllowed_X3_isSpan : GoodIn wsX3_writeIfAllowed (va_wsS RX3 318 yX3_isSpan wsX3_isSpan) := goodIn_app (goodIn_of _ (by decide +kernel)) ggX3_writeIfAllowed_X3_isSpan
set_option maxRecDepth 20000 in
theorem ggX3_writeIfAllowed_X0_writeSpan : GoodIn wsX3_writeIfAllowed wsX0_writeSpan := goodIn_r _ [15, 16, 17, 18, 19, 20, 14, 21, 22, 23, 24, 25, 26, 27, 28, 29, 30, 31, 32, 33, 34, 35, 36, 37, 38, 39] (by decide +kernel) (by decide +kernel)
set_option maxRecDepth 20000 in
theorem gX3_writeIfAllowed_X0_writeSpan : GoodIn wsX3_writeIfAllowed (wsV RX3 214 RX0 yX0_writeSpan wsX0_writeSpan) := goodIn_app (goodIn_of _ (by decide +kernel)) ggX3_writeIfAllowed_X0_writeSpan
theorem dX3_writeIfAllowed_0 : decode cX3_writeIfAllowed 0 = .ok (.iload_n 0, 1) := by decide +kernel
theorem dX3_writeIfAllowed_1 : decode cX3_writeIfAllowed 1 = .ok (.iload_n 1, 1) := by decide +kernel
theorem dX3_writeIfAllowed_2 : decode cX3_writeIfAllowed 2 = .ok (.invokestatic 318, 3) := by decide +kernel
theorem dX3_writeIfAllowed_5 : decode cX3_writeIfAllowed 5 = .ok (.ifCond .ne 5, 3) := by decide +kernel
theorem dX3_writeIfAllowed_8 : decode cX3_writeIfAllowed 8 = .ok (.iconst 0, 1) := by decide +kernel
theorem dX3_writeIfAllowed_9 : decode cX3_writeIfAllowed 9 = .ok (.ireturn, 1) := by decide +kernel
theorem dX3_writeIfAllowed_10 : decode cX3_writeIfAllowed 10 = .ok (.aload_n 2, 1) := by decide +kernel
theorem dX3_writeIfAllowed_11 : decode cX3_writeIfAllowed 11 = .ok (.iload_n 0, 1) := by decide +kernel
theorem dX3_writeIfAllowed_12 : decode cX3_writeIfAllowed 12 = .ok (.iload_n 1, 1) := by decide +kernel
theorem dX3_writeIfAllowed_13 : decode cX3_writeIfAllowed 13 = .ok (.invokevirtual 214, 3) := by decide +kernel
theorem dX3_writeIfAllowed_16 : decode cX3_writeIfAllowed 16 = .ok (.pop, 1) := by decide +kernel
theorem dX3_writeIfAllowed_17 : decode cX3_writeIfAllowed 17 = .ok (.iconst 1, 1) := by decide +kernel
theorem dX3_writeIfAllowed_18 : decode cX3_writeIfAllowed 18 = .ok (.ireturn, 1) := by decide +kernel
set_option maxRecDepth 20000 in
theorem ggX3_freeIfAllowed_X3_isSpan : GoodIn wsX3_freeIfAllowed wsX3_isSpan := goodIn_r _ [4, 5, 6, 3, 7, 8, 9, 10] (by decide +kernel) (by decide +kernel)
set_option maxRecDepth 20000 in
theorem gX3_freeIfAllowed_X3_isSpan : GoodIn wsX3_freeIfAllowed (va_wsS RX3 318 yX3_isSpan wsX3_isSpan) := goodIn_app (goodIn_of _ (by decide +kernel)) ggX3_freeIfAllowed_X3_isSpan
set_option maxRecDepth 20000 in
theorem ggX3_freeIfAllowed_X0_freeSpan : GoodIn wsX3_freeIfAllowed wsX0_freeSpan := goodIn_r _ [15, 16, 17, 18, 19, 20, 14, 21, 22, 23, 24, 25, 26, 27, 28, 29, 30, 31, 32, 33, 34, 35, 36, 37, 38, 39, 40, 41, 42, 43, 44] (by decide +kernel) (by decide +kernel)
set_option maxRecDepth 20000 in
theorem gX3_freeIfAllowed_X0_freeSpan : GoodIn wsX3_freeIfAllowed (wsV RX3 217 RX0 yX0_freeSpan wsX0_freeSpan) := goodIn_app (goodIn_of _ (by decide +kernel)) ggX3_freeIfAllowed_X0_freeSpan
theorem dX3_freeIfAllowed_0 : decode cX3_freeIfAllowed 0 = .ok (.iload_n 0, 1) := by decide +kernel
theorem dX3_freeIfAllowed_1 : decode cX3_freeIfAllowed 1 = .ok (.iload_n 1, 1) := by decide +kernel
theorem dX3_freeIfAllowed_2 : decode cX3_freeIfAllowed 2 = .ok (.invokestatic 318, 3) := by decide +kernel
theorem dX3_freeIfAllowed_5 : decode cX3_freeIfAllowed 5 = .ok (.ifCond .ne 5, 3) := by decide +kernel
theorem dX3_freeIfAllowed_8 : decode cX3_freeIfAllowed 8 = .ok (.iconst 0, 1) := by decide +kernel
theorem dX3_freeIfAllowed_9 : decode cX3_freeIfAllowed 9 = .ok (.ireturn, 1) := by decide +kernel
theorem dX3_freeIfAllowed_10 : decode cX3_freeIfAllowed 10 = .ok (.aload_n 2, 1) := by decide +kernel
theorem dX3_freeIfAllowed_11 : decode cX3_freeIfAllowed 11 = .ok (.iload_n 0, 1) := by decide +kernel
theorem dX3_freeIfAllowed_12 : decode cX3_freeIfAllowed 12 = .ok (.iload_n 1, 1) := by decide +kernel
theorem dX3_freeIfAllowed_13 : decode cX3_freeIfAllowed 13 = .ok (.invokevirtual 217, 3) := by decide +kernel
theorem dX3_freeIfAllowed_16 : decode cX3_freeIfAllowed 16 = .ok (.pop, 1) := by decide +kernel
theorem dX3_freeIfAllowed_17 : decode cX3_freeIfAllowed 17 = .ok (.iconst 1, 1) := by decide +kernel
theorem dX3_freeIfAllowed_18 : decode cX3_freeIfAllowed 18 = .ok (.ireturn, 1) := by decide +kernel
set_option maxRecDepth 20000 in
theorem ggX3_pinIfAllowed_X3_isPin : GoodIn wsX3_pinIfAllowed wsX3_isPin := goodIn_r _ [4] (by decide +kernel) (by decide +kernel)
set_option maxRecDepth 20000 in
theorem gX3_pinIfAllowed_X3_isPin : GoodIn wsX3_pinIfAllowed (va_wsS RX3 323 yX3_isPin wsX3_isPin) := goodIn_app (goodIn_of _ (by decide +kernel)) ggX3_pinIfAllowed_X3_isPin
set_option maxRecDepth 20000 in
theorem ggX3_pinIfAllowed_X3_isSpan : GoodIn wsX3_pinIfAllowed wsX3_isSpan := goodIn_r _ [7, 8, 9, 3, 10, 11, 12, 13] (by decide +kernel) (by decide +kernel)
set_option maxRecDepth 20000 in
theorem gX3_pinIfAllowed_X3_isSpan : GoodIn wsX3_pinIfAllowed (va_wsS RX3 318 yX3_isSpan wsX3_isSpan) := goodIn_app (goodIn_of _ (by decide +kernel)) ggX3_pinIfAllowed_X3_isSpan
set_option maxRecDepth 20000 in
theorem ggX3_pinIfAllowed_X0_pinSpan : GoodIn wsX3_pinIfAllowed wsX0_pinSpan := goodIn_r _ [18, 19, 20, 21, 22, 23, 24, 25, 26, 27, 28, 29] (by decide +kernel) (by decide +kernel)
set_option maxRecDepth 20000 in
theorem gX3_pinIfAllowed_X0_pinSpan : GoodIn wsX3_pinIfAllowed (wsV RX3 220 RX0 yX0_pinSpan wsX0_pinSpan) := goodIn_app (goodIn_of _ (by decide +kernel)) ggX3_pinIfAllowed_X0_pinSpan
theorem dX3_pinIfAllowed_0 : decode cX3_pinIfAllowed 0 = .ok (.iload_n 0, 1) := by decide +kernel
theorem dX3_pinIfAllowed_1 : decode cX3_pinIfAllowed 1 = .ok (.invokestatic 323, 3) := by decide +kernel
theorem dX3_pinIfAllowed_4 : decode cX3_pinIfAllowed 4 = .ok (.ifCond .eq 11, 3) := by decide +kernel
theorem dX3_pinIfAllowed_7 : decode cX3_pinIfAllowed 7 = .ok (.iload_n 1, 1) := by decide +kernel
theorem dX3_pinIfAllowed_8 : decode cX3_pinIfAllowed 8 = .ok (.iload_n 2, 1) := by decide +kernel
theorem dX3_pinIfAllowed_9 : decode cX3_pinIfAllowed 9 = .ok (.invokestatic 318, 3) := by decide +kernel
theorem dX3_pinIfAllowed_12 : decode cX3_pinIfAllowed 12 = .ok (.ifCond .ne 5, 3) := by decide +kernel
theorem dX3_pinIfAllowed_15 : decode cX3_pinIfAllowed 15 = .ok (.iconst 0, 1) := by decide +kernel
theorem dX3_pinIfAllowed_16 : decode cX3_pinIfAllowed 16 = .ok (.ireturn, 1) := by decide +kernel
theorem dX3_pinIfAllowed_17 : decode cX3_pinIfAllowed 17 = .ok (.aload_n 3, 1) := by decide +kernel
theorem dX3_pinIfAllowed_18 : decode cX3_pinIfAllowed 18 = .ok (.iload_n 0, 1) := by decide +kernel
theorem dX3_pinIfAllowed_19 : decode cX3_pinIfAllowed 19 = .ok (.iload_n 1, 1) := by decide +kernel
theorem dX3_pinIfAllowed_20 : decode cX3_pinIfAllowed 20 = .ok (.iload_n 2, 1) := by decide +kernel
theorem dX3_pinIfAllowed_21 : decode cX3_pinIfAllowed 21 = .ok (.invokevirtual 220, 3) := by decide +kernel
theorem dX3_pinIfAllowed_24 : decode cX3_pinIfAllowed 24 = .ok (.iconst 1, 1) := by decide +kernel
theorem dX3_pinIfAllowed_25 : decode cX3_pinIfAllowed 25 = .ok (.ireturn, 1) := by decide +kernel
set_option maxRecDepth 20000 in
theorem ggX3_setIfAllowed_X3_isValue : GoodIn wsX3_setIfAllowed wsX3_isValue := goodIn_r _ [4, 5, 6, 7, 3, 8] (by decide +kernel) (by decide +kernel)
set_option maxRecDepth 20000 in
theorem gX3_setIfAllowed_X3_isValue : GoodIn wsX3_setIfAllowed (va_wsS RX3 232 yX3_isValue wsX3_isValue) := goodIn_app (goodIn_of _ (by decide +kernel)) ggX3_setIfAllowed_X3_isValue
set_option maxRecDepth 20000 in
theorem ggX3_setIfAllowed_X0_changeSetting : GoodIn wsX3_setIfAllowed wsX0_changeSetting := goodIn_r _ [13, 14, 15, 16, 17, 18, 19, 20, 21, 22, 23] (by decide +kernel) (by decide +kernel)
set_option maxRecDepth 20000 in
theorem gX3_setIfAllowed_X0_changeSetting : GoodIn wsX3_setIfAllowed (wsV RX3 237 RX0 yX0_changeSetting wsX0_changeSetting) := goodIn_app (goodIn_of _ (by decide +kernel)) ggX3_setIfAllowed_X0_changeSetting
theorem dX3_setIfAllowed_0 : decode cX3_setIfAllowed 0 = .ok (.iload_n 0, 1) := by decide +kernel
theorem dX3_setIfAllowed_1 : decode cX3_setIfAllowed 1 = .ok (.iload_n 1, 1) := by decide +kernel
theorem dX3_setIfAllowed_2 : decode cX3_setIfAllowed 2 = .ok (.invokestatic 232, 3) := by decide +kernel
theorem dX3_setIfAllowed_5 : decode cX3_setIfAllowed 5 = .ok (.ifCond .ne 5, 3) := by decide +kernel
theorem dX3_setIfAllowed_8 : decode cX3_setIfAllowed 8 = .ok (.iconst 0, 1) := by decide +kernel
theorem dX3_setIfAllowed_9 : decode cX3_setIfAllowed 9 = .ok (.ireturn, 1) := by decide +kernel
theorem dX3_setIfAllowed_10 : decode cX3_setIfAllowed 10 = .ok (.aload_n 2, 1) := by decide +kernel
theorem dX3_setIfAllowed_11 : decode cX3_setIfAllowed 11 = .ok (.iload_n 0, 1) := by decide +kernel
theorem dX3_setIfAllowed_12 : decode cX3_setIfAllowed 12 = .ok (.iload_n 1, 1) := by decide +kernel
theorem dX3_setIfAllowed_13 : decode cX3_setIfAllowed 13 = .ok (.invokevirtual 237, 3) := by decide +kernel
theorem dX3_setIfAllowed_16 : decode cX3_setIfAllowed 16 = .ok (.iconst 1, 1) := by decide +kernel
theorem dX3_setIfAllowed_17 : decode cX3_setIfAllowed 17 = .ok (.ireturn, 1) := by decide +kernel
