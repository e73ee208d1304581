theorem dX2_tread_0 : decode cX2_tread 0 = .ok (.aload_n 0, 1) := by decide +kernel
theorem dX2_tread_1 : decode cX2_tread 1 = .ok (.aload_n 0, 1) := by decide +kernel
theorem dX2_tread_2 : decode cX2_tread 2 = .ok (.getfield 46, 3) := by decide +kernel
theorem dX2_tread_5 : decode cX2_tread 5 = .ok (.ifCond .ne 7, 3) := by decide +kernel
theorem dX2_tread_8 : decode cX2_tread 8 = .ok (.iconst 1, 1) := by decide +kernel
theorem dX2_tread_9 : decode cX2_tread 9 = .ok (.goto 4, 3) := by decide +kernel
theorem dX2_tread_12 : decode cX2_tread 12 = .ok (.iconst 0, 1) := by decide +kernel
theorem dX2_tread_13 : decode cX2_tread 13 = .ok (.putfield 46, 3) := by decide +kernel
theorem dX2_tread_16 : decode cX2_tread 16 = .ok (.aload_n 0, 1) := by decide +kernel
theorem dX2_tread_17 : decode cX2_tread 17 = .ok (.getfield 46, 3) := by decide +kernel
theorem dX2_tread_20 : decode cX2_tread 20 = .ok (.ifCond .eq 5, 3) := by decide +kernel
theorem dX2_tread_23 : decode cX2_tread 23 = .ok (.iconst 0, 1) := by decide +kernel
theorem dX2_tread_24 : decode cX2_tread 24 = .ok (.ireturn, 1) := by decide +kernel
theorem dX2_tread_25 : decode cX2_tread 25 = .ok (.iconst 0, 1) := by decide +kernel
theorem dX2_tread_26 : decode cX2_tread 26 = .ok (.istore_n 1, 1) := by decide +kernel
theorem dX2_tread_27 : decode cX2_tread 27 = .ok (.iconst 0, 1) := by decide +kernel
theorem dX2_tread_28 : decode cX2_tread 28 = .ok (.istore_n 2, 1) := by decide +kernel
theorem dX2_tread_29 : decode cX2_tread 29 = .ok (.iload_n 2, 1) := by decide +kernel
theorem dX2_tread_30 : decode cX2_tread 30 = .ok (.aload_n 0, 1) := by decide +kernel
theorem dX2_tread_31 : decode cX2_tread 31 = .ok (.getfield 20, 3) := by decide +kernel
theorem dX2_tread_34 : decode cX2_tread 34 = .ok (.invokevirtual 70, 3) := by decide +kernel
theorem dX2_tread_37 : decode cX2_tread 37 = .ok (.if_icmp .ge 35, 3) := by decide +kernel
theorem dX2_tread_40 : decode cX2_tread 40 = .ok (.aload_n 0, 1) := by decide +kernel
theorem dX2_tread_41 : decode cX2_tread 41 = .ok (.getfield 20, 3) := by decide +kernel
theorem dX2_tread_44 : decode cX2_tread 44 = .ok (.iload_n 2, 1) := by decide +kernel
theorem dX2_tread_45 : decode cX2_tread 45 = .ok (.iconst 5, 1) := by decide +kernel
theorem dX2_tread_46 : decode cX2_tread 46 = .ok (.invokevirtual 73, 3) := by decide +kernel
theorem dX2_tread_49 : decode cX2_tread 49 = .ok (.iconst 1, 1) := by decide +kernel
theorem dX2_tread_50 : decode cX2_tread 50 = .ok (.if_icmp .ne 16, 3) := by decide +kernel
theorem dX2_tread_53 : decode cX2_tread 53 = .ok (.aload_n 0, 1) := by decide +kernel
theorem dX2_tread_54 : decode cX2_tread 54 = .ok (.getfield 20, 3) := by decide +kernel
theorem dX2_tread_57 : decode cX2_tread 57 = .ok (.iload_n 2, 1) := by decide +kernel
theorem dX2_tread_58 : decode cX2_tread 58 = .ok (.iconst 5, 1) := by decide +kernel
theorem dX2_tread_59 : decode cX2_tread 59 = .ok (.iconst 2, 1) := by decide +kernel
theorem dX2_tread_60 : decode cX2_tread 60 = .ok (.invokevirtual 62, 3) := by decide +kernel
theorem dX2_tread_63 : decode cX2_tread 63 = .ok (.iinc 1 1, 3) := by decide +kernel
theorem dX2_tread_66 : decode cX2_tread 66 = .ok (.iinc 2 1, 3) := by decide +kernel
theorem dX2_tread_69 : decode cX2_tread 69 = .ok (.goto (-40), 3) := by decide +kernel
theorem dX2_tread_72 : decode cX2_tread 72 = .ok (.iload_n 1, 1) := by decide +kernel
theorem dX2_tread_73 : decode cX2_tread 73 = .ok (.ireturn, 1) := by decide +kernel
set_option maxRecDepth 20000 in
theorem ggX2_runTicks_X2_number : GoodIn wsX2_runTicks wsX2_number := goodIn_r _ [6, 7, 49, 50, 51, 52, 53] (by decide +kernel) (by decide +kernel)
set_option maxRecDepth 20000 in
theorem gX2_runTicks_X2_number : GoodIn wsX2_runTicks (wsV RX2 54 RX2 yX2_number wsX2_number) := goodIn_app (goodIn_of _ (by decide +kernel)) ggX2_runTicks_X2_number
set_option maxRecDepth 20000 in
theorem ggX2_runTicks_X4_rows : GoodIn wsX2_runTicks wsX4_rows := goodIn_r _ [12, 13, 54, 55, 56] (by decide +kernel) (by decide +kernel)
set_option maxRecDepth 20000 in
theorem gX2_runTicks_X4_rows : GoodIn wsX2_runTicks (wsV RX2 70 RX4 yX4_rows wsX4_rows) := goodIn_app (goodIn_of _ (by decide +kernel)) ggX2_runTicks_X4_rows
set_option maxRecDepth 20000 in
theorem ggX2_runTicks_X2_wear : GoodIn wsX2_runTicks wsX2_wear := goodIn_r _ [17, 1, 18, 19, 20, 21, 11, 22, 13, 23, 24, 25, 26, 27, 5, 28, 2, 3, 4, 6, 7, 29, 30, 31, 32, 33, 34, 35, 36, 37, 38, 39, 40, 41, 42, 43, 44, 45, 46, 47, 48, 49, 50, 51, 52, 53, 54, 55, 56] (by decide +kernel) (by decide +kernel)
set_option maxRecDepth 20000 in
theorem gX2_runTicks_X2_wear : GoodIn wsX2_runTicks (wsV RX2 108 RX2 yX2_wear wsX2_wear) := goodIn_app (goodIn_of _ (by decide +kernel)) ggX2_runTicks_X2_wear
set_option maxRecDepth 20000 in
theorem ggX2_runTicks_X2_grow : GoodIn wsX2_runTicks wsX2_grow := goodIn_r _ [44, 2, 3, 4, 5, 6, 7, 45, 46, 47, 48, 49, 50, 51, 52, 53] (by decide +kernel) (by decide +kernel)
set_option maxRecDepth 20000 in
theorem gX2_runTicks_X2_grow : GoodIn wsX2_runTicks (wsV RX2 80 RX2 yX2_grow wsX2_grow) := goodIn_app (goodIn_of _ (by decide +kernel)) ggX2_runTicks_X2_grow
theorem dX2_runTicks_0 : decode cX2_runTicks 0 = .ok (.aload_n 0, 1) := by decide +kernel
theorem dX2_runTicks_1 : decode cX2_runTicks 1 = .ok (.iconst 2, 1) := by decide +kernel
theorem dX2_runTicks_2 : decode cX2_runTicks 2 = .ok (.invokevirtual 54, 3) := by decide +kernel
theorem dX2_runTicks_5 : decode cX2_runTicks 5 = .ok (.istore_n 2, 1) := by decide +kernel
theorem dX2_runTicks_6 : decode cX2_runTicks 6 = .ok (.iconst 0, 1) := by decide +kernel
theorem dX2_runTicks_7 : decode cX2_runTicks 7 = .ok (.istore_n 3, 1) := by decide +kernel
theorem dX2_runTicks_8 : decode cX2_runTicks 8 = .ok (.iload_n 3, 1) := by decide +kernel
theorem dX2_runTicks_9 : decode cX2_runTicks 9 = .ok (.iload_n 1, 1) := by decide +kernel
theorem dX2_runTicks_10 : decode cX2_runTicks 10 = .ok (.if_icmp .ge 37, 3) := by decide +kernel
theorem dX2_runTicks_13 : decode cX2_runTicks 13 = .ok (.aload_n 0, 1) := by decide +kernel
theorem dX2_runTicks_14 : decode cX2_runTicks 14 = .ok (.getfield 20, 3) := by decide +kernel
theorem dX2_runTicks_17 : decode cX2_runTicks 17 = .ok (.invokevirtual 70, 3) := by decide +kernel
theorem dX2_runTicks_20 : decode cX2_runTicks 20 = .ok (.iconst 1, 1) := by decide +kernel
theorem dX2_runTicks_21 : decode cX2_runTicks 21 = .ok (.isub, 1) := by decide +kernel
theorem dX2_runTicks_22 : decode cX2_runTicks 22 = .ok (.istore 4, 2) := by decide +kernel
theorem dX2_runTicks_24 : decode cX2_runTicks 24 = .ok (.iload 4, 2) := by decide +kernel
theorem dX2_runTicks_26 : decode cX2_runTicks 26 = .ok (.ifCond .lt 15, 3) := by decide +kernel
theorem dX2_runTicks_29 : decode cX2_runTicks 29 = .ok (.aload_n 0, 1) := by decide +kernel
theorem dX2_runTicks_30 : decode cX2_runTicks 30 = .ok (.iload 4, 2) := by decide +kernel
theorem dX2_runTicks_32 : decode cX2_runTicks 32 = .ok (.invokevirtual 108, 3) := by decide +kernel
theorem dX2_runTicks_35 : decode cX2_runTicks 35 = .ok (.iinc 4 (-1), 3) := by decide +kernel
theorem dX2_runTicks_38 : decode cX2_runTicks 38 = .ok (.goto (-14), 3) := by decide +kernel
theorem dX2_runTicks_41 : decode cX2_runTicks 41 = .ok (.iinc 3 1, 3) := by decide +kernel
theorem dX2_runTicks_44 : decode cX2_runTicks 44 = .ok (.goto (-36), 3) := by decide +kernel
theorem dX2_runTicks_47 : decode cX2_runTicks 47 = .ok (.aload_n 0, 1) := by decide +kernel
theorem dX2_runTicks_48 : decode cX2_runTicks 48 = .ok (.iconst 0, 1) := by decide +kernel
theorem dX2_runTicks_49 : decode cX2_runTicks 49 = .ok (.iload_n 1, 1) := by decide +kernel
theorem dX2_runTicks_50 : decode cX2_runTicks 50 = .ok (.invokevirtual 80, 3) := by decide +kernel
theorem dX2_runTicks_53 : decode cX2_runTicks 53 = .ok (.aload_n 0, 1) := by decide +kernel
theorem dX2_runTicks_54 : decode cX2_runTicks 54 = .ok (.iconst 2, 1) := by decide +kernel
theorem dX2_runTicks_55 : decode cX2_runTicks 55 = .ok (.invokevirtual 54, 3) := by decide +kernel
theorem dX2_runTicks_58 : decode cX2_runTicks 58 = .ok (.iload_n 2, 1) := by decide +kernel
theorem dX2_runTicks_59 : decode cX2_runTicks 59 = .ok (.isub, 1) := by decide +kernel
theorem dX2_runTicks_60 : decode cX2_runTicks 60 = .ok (.ireturn, 1) := by decide +kernel
set_option maxRecDepth 20000 in
theorem ggX2_wear_X4_get : GoodIn wsX2_wear wsX4_get := goodIn_r _ [7, 8, 9, 10, 46, 47, 48] (by decide +kernel) (by decide +kernel)
set_option maxRecDepth 20000 in
theorem gX2_wear_X4_get : GoodIn wsX2_wear (wsV RX2 73 RX4 yX4_get wsX4_get) := goodIn_app (goodIn_of _ (by decide +kernel)) ggX2_wear_X4_get
set_option maxRecDepth 20000 in
theorem ggX2_wear_X2_fadeOf : GoodIn wsX2_wear wsX2_fadeOf := goodIn_r _ [15, 1, 3, 4, 5, 6, 7, 8, 9, 10, 16, 17, 18, 14, 19, 20, 41, 42, 43, 44, 45, 46, 47, 48] (by decide +kernel) (by decide +kernel)
set_option maxRecDepth 20000 in
theorem gX2_wear_X2_fadeOf : GoodIn wsX2_wear (wsV RX2 111 RX2 yX2_fadeOf wsX2_fadeOf) := goodIn_app (goodIn_of _ (by decide +kernel)) ggX2_wear_X2_fadeOf
set_option maxRecDepth 20000 in
theorem ggX2_wear_X4_put : GoodIn wsX2_wear wsX4_put := goodIn_r _ [24, 8, 9, 10, 46, 47, 48] (by decide +kernel) (by decide +kernel)
set_option maxRecDepth 20000 in
theorem gX2_wear_X4_put : GoodIn wsX2_wear (wsV RX2 62 RX4 yX4_put wsX4_put) := goodIn_app (goodIn_of _ (by decide +kernel)) ggX2_wear_X4_put
set_option maxRecDepth 20000 in
theorem ggX2_wear_X4_removeRow : GoodIn wsX2_wear wsX4_removeRow := goodIn_r _ [28, 9, 10, 8, 29, 30, 31, 6, 32, 46, 47, 48] (by decide +kernel) (by decide +kernel)
set_option maxRecDepth 20000 in
theorem gX2_wear_X4_removeRow : GoodIn wsX2_wear (wsV RX2 76 RX4 yX4_removeRow wsX4_removeRow) := goodIn_app (goodIn_of _ (by decide +kernel)) ggX2_wear_X4_removeRow
set_option maxRecDepth 20000 in
theorem ggX2_wear_X2_grow : GoodIn wsX2_wear wsX2_grow := goodIn_r _ [36, 16, 17, 18, 14, 19, 20, 37, 38, 39, 40, 41, 42, 43, 44, 45] (by decide +kernel) (by decide +kernel)
set_option maxRecDepth 20000 in
theorem gX2_wear_X2_grow : GoodIn wsX2_wear (wsV RX2 80 RX2 yX2_grow wsX2_grow) := goodIn_app (goodIn_of _ (by decide +kernel)) ggX2_wear_X2_grow
theorem dX2_wear_0 : decode cX2_wear 0 = .ok (.aload_n 0, 1) := by decide +kernel
theorem dX2_wear_1 : decode cX2_wear 1 = .ok (.getfield 20, 3) := by decide +kernel
theorem dX2_wear_4 : decode cX2_wear 4 = .ok (.iload_n 1, 1) := by decide +kernel
theorem dX2_wear_5 : decode cX2_wear 5 = .ok (.iconst 4, 1) := by decide +kernel
theorem dX2_wear_6 : decode cX2_wear 6 = .ok (.invokevirtual 73, 3) := by decide +kernel
theorem dX2_wear_9 : decode cX2_wear 9 = .ok (.iconst 1, 1) := by decide +kernel
theorem dX2_wear_10 : decode cX2_wear 10 = .ok (.iadd, 1) := by decide +kernel
theorem dX2_wear_11 : decode cX2_wear 11 = .ok (.istore_n 2, 1) := by decide +kernel
theorem dX2_wear_12 : decode cX2_wear 12 = .ok (.aload_n 0, 1) := by decide +kernel
theorem dX2_wear_13 : decode cX2_wear 13 = .ok (.getfield 20, 3) := by decide +kernel
theorem dX2_wear_16 : decode cX2_wear 16 = .ok (.iload_n 1, 1) := by decide +kernel
theorem dX2_wear_17 : decode cX2_wear 17 = .ok (.iconst 3, 1) := by decide +kernel
theorem dX2_wear_18 : decode cX2_wear 18 = .ok (.invokevirtual 73, 3) := by decide +kernel
theorem dX2_wear_21 : decode cX2_wear 21 = .ok (.aload_n 0, 1) := by decide +kernel
theorem dX2_wear_22 : decode cX2_wear 22 = .ok (.iload_n 1, 1) := by decide +kernel
theorem dX2_wear_23 : decode cX2_wear 23 = .ok (.invokevirtual 111, 3) := by decide +kernel
theorem dX2_wear_26 : decode cX2_wear 26 = .ok (.isub, 1) := by decide +kernel
theorem dX2_wear_27 : decode cX2_wear 27 = .ok (.istore_n 3, 1) := by decide +kernel
theorem dX2_wear_28 : decode cX2_wear 28 = .ok (.aload_n 0, 1) := by decide +kernel
theorem dX2_wear_29 : decode cX2_wear 29 = .ok (.getfield 20, 3) := by decide +kernel
theorem dX2_wear_32 : decode cX2_wear 32 = .ok (.iload_n 1, 1) := by decide +kernel
theorem dX2_wear_33 : decode cX2_wear 33 = .ok (.iconst 4, 1) := by decide +kernel
theorem dX2_wear_34 : decode cX2_wear 34 = .ok (.iload_n 2, 1) := by decide +kernel
theorem dX2_wear_35 : decode cX2_wear 35 = .ok (.invokevirtual 62, 3) := by decide +kernel
theorem dX2_wear_38 : decode cX2_wear 38 = .ok (.aload_n 0, 1) := by decide +kernel
theorem dX2_wear_39 : decode cX2_wear 39 = .ok (.getfield 20, 3) := by decide +kernel
theorem dX2_wear_42 : decode cX2_wear 42 = .ok (.iload_n 1, 1) := by decide +kernel
theorem dX2_wear_43 : decode cX2_wear 43 = .ok (.iconst 3, 1) := by decide +kernel
theorem dX2_wear_44 : decode cX2_wear 44 = .ok (.iload_n 3, 1) := by decide +kernel
theorem dX2_wear_45 : decode cX2_wear 45 = .ok (.invokevirtual 62, 3) := by decide +kernel
theorem dX2_wear_48 : decode cX2_wear 48 = .ok (.iload_n 3, 1) := by decide +kernel
theorem dX2_wear_49 : decode cX2_wear 49 = .ok (.ifCond .le 25, 3) := by decide +kernel
theorem dX2_wear_52 : decode cX2_wear 52 = .ok (.iload_n 2, 1) := by decide +kernel
theorem dX2_wear_53 : decode cX2_wear 53 = .ok (.aload_n 0, 1) := by decide +kernel
theorem dX2_wear_54 : decode cX2_wear 54 = .ok (.getfield 14, 3) := by decide +kernel
theorem dX2_wear_57 : decode cX2_wear 57 = .ok (.aload_n 0, 1) := by decide +kernel
theorem dX2_wear_58 : decode cX2_wear 58 = .ok (.getfield 20, 3) := by decide +kernel
theorem dX2_wear_61 : decode cX2_wear 61 = .ok (.iload_n 1, 1) := by decide +kernel
theorem dX2_wear_62 : decode cX2_wear 62 = .ok (.iconst 0, 1) := by decide +kernel
theorem dX2_wear_63 : decode cX2_wear 63 = .ok (.invokevirtual 73, 3) := by decide +kernel
theorem dX2_wear_66 : decode cX2_wear 66 = .ok (.bipush 6, 2) := by decide +kernel
theorem dX2_wear_68 : decode cX2_wear 68 = .ok (.invokevirtual 73, 3) := by decide +kernel
theorem dX2_wear_71 : decode cX2_wear 71 = .ok (.if_icmp .lt 17, 3) := by decide +kernel
theorem dX2_wear_74 : decode cX2_wear 74 = .ok (.aload_n 0, 1) := by decide +kernel
theorem dX2_wear_75 : decode cX2_wear 75 = .ok (.getfield 20, 3) := by decide +kernel
theorem dX2_wear_78 : decode cX2_wear 78 = .ok (.iload_n 1, 1) := by decide +kernel
theorem dX2_wear_79 : decode cX2_wear 79 = .ok (.invokevirtual 76, 3) := by decide +kernel
theorem dX2_wear_82 : decode cX2_wear 82 = .ok (.aload_n 0, 1) := by decide +kernel
theorem dX2_wear_83 : decode cX2_wear 83 = .ok (.iconst 2, 1) := by decide +kernel
theorem dX2_wear_84 : decode cX2_wear 84 = .ok (.iconst 1, 1) := by decide +kernel
theorem dX2_wear_85 : decode cX2_wear 85 = .ok (.invokevirtual 80, 3) := by decide +kernel
theorem dX2_wear_88 : decode cX2_wear 88 = .ok (.return_, 1) := by decide +kernel
set_option maxRecDepth 20000 in
theorem ggX2_fadeOf_X4_get : GoodIn wsX2_fadeOf wsX4_get := goodIn_r _ [6, 7, 8, 9, 21, 22, 23] (by decide +kernel) (by decide +kernel)
set_option maxRecDepth 20000 in
theorem gX2_fadeOf_X4_get : GoodIn wsX2_fadeOf (wsV RX2 73 RX4 yX4_get wsX4_get) := goodIn_app (goodIn_of _ (by decide +kernel)) ggX2_fadeOf_X4_get
set_option maxRecDepth 20000 in
theorem ggX2_fadeOf_X2_number : GoodIn wsX2_fadeOf wsX2_number := goodIn_r _ [14, 15, 16, 17, 18, 19, 20] (by decide +kernel) (by decide +kernel)
set_option maxRecDepth 20000 in
theorem gX2_fadeOf_X2_number : GoodIn wsX2_fadeOf (wsV RX2 54 RX2 yX2_number wsX2_number) := goodIn_app (goodIn_of _ (by decide +kernel)) ggX2_fadeOf_X2_number
theorem dX2_fadeOf_0 : decode cX2_fadeOf 0 = .ok (.aload_n 0, 1) := by decide +kernel
theorem dX2_fadeOf_1 : decode cX2_fadeOf 1 = .ok (.getfield 20, 3) := by decide +kernel
theorem dX2_fadeOf_4 : decode cX2_fadeOf 4 = .ok (.iload_n 1, 1) := by decide +kernel
theorem dX2_fadeOf_5 : decode cX2_fadeOf 5 = .ok (.iconst 5, 1) := by decide +kernel
theorem dX2_fadeOf_6 : decode cX2_fadeOf 6 = .ok (.invokevirtual 73, 3) := by decide +kernel
theorem dX2_fadeOf_9 : decode cX2_fadeOf 9 = .ok (.iconst 2, 1) := by decide +kernel
theorem dX2_fadeOf_10 : decode cX2_fadeOf 10 = .ok (.if_icmp .ne 12, 3) := by decide +kernel
theorem dX2_fadeOf_13 : decode cX2_fadeOf 13 = .ok (.aload_n 0, 1) := by decide +kernel
theorem dX2_fadeOf_14 : decode cX2_fadeOf 14 = .ok (.bipush 8, 2) := by decide +kernel
theorem dX2_fadeOf_16 : decode cX2_fadeOf 16 = .ok (.invokevirtual 54, 3) := by decide +kernel
theorem dX2_fadeOf_19 : decode cX2_fadeOf 19 = .ok (.goto 4, 3) := by decide +kernel
theorem dX2_fadeOf_22 : decode cX2_fadeOf 22 = .ok (.iconst 1, 1) := by decide +kernel
theorem dX2_fadeOf_23 : decode cX2_fadeOf 23 = .ok (.ireturn, 1) := by decide +kernel
set_option maxRecDepth 20000 in
theorem ggX2_ticksLeft_X2_fadeOf : GoodIn wsX2_ticksLeft wsX2_fadeOf := goodIn_r _ [14, 5, 15, 16, 17, 18, 19, 20, 21, 22, 23, 24, 25, 13, 26, 27, 28, 29, 30, 31, 32, 33, 34, 35] (by decide +kernel) (by decide +kernel)
set_option maxRecDepth 20000 in
theorem gX2_ticksLeft_X2_fadeOf : GoodIn wsX2_ticksLeft (wsV RX2 111 RX2 yX2_fadeOf wsX2_fadeOf) := goodIn_app (goodIn_of _ (by decide +kernel)) ggX2_ticksLeft_X2_fadeOf
set_option maxRecDepth 20000 in
theorem ggX2_ticksLeft_X4_get : GoodIn wsX2_ticksLeft wsX4_get := goodIn_r _ [19, 20, 21, 22, 33, 34, 35] (by decide +kernel) (by decide +kernel)
set_option maxRecDepth 20000 in
theorem gX2_ticksLeft_X4_get : GoodIn wsX2_ticksLeft (wsV RX2 73 RX4 yX4_get wsX4_get) := goodIn_app (goodIn_of _ (by decide +kernel)) ggX2_ticksLeft_X4_get
theorem dX2_ticksLeft_0 : decode cX2_ticksLeft 0 = .ok (.iconst 1, 1) := by decide +kernel
theorem dX2_ticksLeft_1 : decode cX2_ticksLeft 1 = .ok (.aload_n 0, 1) := by decide +kernel
theorem dX2_ticksLeft_2 : decode cX2_ticksLeft 2 = .ok (.iload_n 1, 1) := by decide +kernel
theorem dX2_ticksLeft_3 : decode cX2_ticksLeft 3 = .ok (.invokevirtual 111, 3) := by decide +kernel
theorem dX2_ticksLeft_6 : decode cX2_ticksLeft 6 = .ok (.invokestatic 114, 3) := by decide +kernel
theorem dX2_ticksLeft_9 : decode cX2_ticksLeft 9 = .ok (.istore_n 2, 1) := by decide +kernel
theorem dX2_ticksLeft_10 : decode cX2_ticksLeft 10 = .ok (.aload_n 0, 1) := by decide +kernel
theorem dX2_ticksLeft_11 : decode cX2_ticksLeft 11 = .ok (.getfield 20, 3) := by decide +kernel
theorem dX2_ticksLeft_14 : decode cX2_ticksLeft 14 = .ok (.iload_n 1, 1) := by decide +kernel
theorem dX2_ticksLeft_15 : decode cX2_ticksLeft 15 = .ok (.iconst 3, 1) := by decide +kernel
theorem dX2_ticksLeft_16 : decode cX2_ticksLeft 16 = .ok (.invokevirtual 73, 3) := by decide +kernel
theorem dX2_ticksLeft_19 : decode cX2_ticksLeft 19 = .ok (.iload_n 2, 1) := by decide +kernel
theorem dX2_ticksLeft_20 : decode cX2_ticksLeft 20 = .ok (.iadd, 1) := by decide +kernel
theorem dX2_ticksLeft_21 : decode cX2_ticksLeft 21 = .ok (.iconst 1, 1) := by decide +kernel
theorem dX2_ticksLeft_22 : decode cX2_ticksLeft 22 = .ok (.isub, 1) := by decide +kernel
theorem dX2_ticksLeft_23 : decode cX2_ticksLeft 23 = .ok (.iload_n 2, 1) := by decide +kernel
theorem dX2_ticksLeft_24 : decode cX2_ticksLeft 24 = .ok (.idiv, 1) := by decide +kernel
theorem dX2_ticksLeft_25 : decode cX2_ticksLeft 25 = .ok (.istore_n 3, 1) := by decide +kernel
theorem dX2_ticksLeft_26 : decode cX2_ticksLeft 26 = .ok (.aload_n 0, 1) := by decide +kernel
theorem dX2_ticksLeft_27 : decode cX2_ticksLeft 27 = .ok (.getfield 14, 3) := by decide +kernel
theorem dX2_ticksLeft_30 : decode cX2_ticksLeft 30 = .ok (.aload_n 0, 1) := by decide +kernel
theorem dX2_ticksLeft_31 : decode cX2_ticksLeft 31 = .ok (.getfield 20, 3) := by decide +kernel
theorem dX2_ticksLeft_34 : decode cX2_ticksLeft 34 = .ok (.iload_n 1, 1) := by decide +kernel
theorem dX2_ticksLeft_35 : decode cX2_ticksLeft 35 = .ok (.iconst 0, 1) := by decide +kernel
theorem dX2_ticksLeft_36 : decode cX2_ticksLeft 36 = .ok (.invokevirtual 73, 3) := by decide +kernel
theorem dX2_ticksLeft_39 : decode cX2_ticksLeft 39 = .ok (.bipush 6, 2) := by decide +kernel
theorem dX2_ticksLeft_41 : decode cX2_ticksLeft 41 = .ok (.invokevirtual 73, 3) := by decide +kernel
theorem dX2_ticksLeft_44 : decode cX2_ticksLeft 44 = .ok (.aload_n 0, 1) := by decide +kernel
theorem dX2_ticksLeft_45 : decode cX2_ticksLeft 45 = .ok (.getfield 20, 3) := by decide +kernel
theorem dX2_ticksLeft_48 : decode cX2_ticksLeft 48 = .ok (.iload_n 1, 1) := by decide +kernel
theorem dX2_ticksLeft_49 : decode cX2_ticksLeft 49 = .ok (.iconst 4, 1) := by decide +kernel
theorem dX2_ticksLeft_50 : decode cX2_ticksLeft 50 = .ok (.invokevirtual 73, 3) := by decide +kernel
theorem dX2_ticksLeft_53 : decode cX2_ticksLeft 53 = .ok (.isub, 1) := by decide +kernel
theorem dX2_ticksLeft_54 : decode cX2_ticksLeft 54 = .ok (.istore 4, 2) := by decide +kernel
theorem dX2_ticksLeft_56 : decode cX2_ticksLeft 56 = .ok (.iconst 1, 1) := by decide +kernel
theorem dX2_ticksLeft_57 : decode cX2_ticksLeft 57 = .ok (.iload_n 3, 1) := by decide +kernel
theorem dX2_ticksLeft_58 : decode cX2_ticksLeft 58 = .ok (.iload 4, 2) := by decide +kernel
theorem dX2_ticksLeft_60 : decode cX2_ticksLeft 60 = .ok (.invokestatic 34, 3) := by decide +kernel
theorem dX2_ticksLeft_63 : decode cX2_ticksLeft 63 = .ok (.invokestatic 114, 3) := by decide +kernel
theorem dX2_ticksLeft_66 : decode cX2_ticksLeft 66 = .ok (.ireturn, 1) := by decide +kernel
set_option maxRecDepth 20000 in
theorem ggX2_stopAll_X4_rows : GoodIn wsX2_stopAll wsX4_rows := goodIn_r _ [6, 7, 31, 32, 33] (by decide +kernel) (by decide +kernel)
set_option maxRecDepth 20000 in
theorem gX2_stopAll_X4_rows : GoodIn wsX2_stopAll (wsV RX2 70 RX4 yX4_rows wsX4_rows) := goodIn_app (goodIn_of _ (by decide +kernel)) ggX2_stopAll_X4_rows
set_option maxRecDepth 20000 in
theorem ggX2_stopAll_X4_removeAll : GoodIn wsX2_stopAll wsX4_removeAll := goodIn_r _ [11, 7, 31, 32, 33] (by decide +kernel) (by decide +kernel)
set_option maxRecDepth 20000 in
theorem gX2_stopAll_X4_removeAll : GoodIn wsX2_stopAll (wsV RX2 117 RX4 yX4_removeAll wsX4_removeAll) := goodIn_app (goodIn_of _ (by decide +kernel)) ggX2_stopAll_X4_removeAll
set_option maxRecDepth 20000 in
theorem ggX2_stopAll_X2_grow : GoodIn wsX2_stopAll wsX2_grow := goodIn_r _ [16, 17, 18, 19, 15, 20, 21, 22, 23, 24, 25, 26, 27, 28, 29, 30] (by decide +kernel) (by decide +kernel)
set_option maxRecDepth 20000 in
theorem gX2_stopAll_X2_grow : GoodIn wsX2_stopAll (wsV RX2 80 RX2 yX2_grow wsX2_grow) := goodIn_app (goodIn_of _ (by decide +kernel)) ggX2_stopAll_X2_grow
theorem dX2_stopAll_0 : decode cX2_stopAll 0 = .ok (.aload_n 0, 1) := by decide +kernel
theorem dX2_stopAll_1 : decode cX2_stopAll 1 = .ok (.getfield 20, 3) := by decide +kernel
theorem dX2_stopAll_4 : decode cX2_stopAll 4 = .ok (.invokevirtual 70, 3) := by decide +kernel
theorem dX2_stopAll_7 : decode cX2_stopAll 7 = .ok (.istore_n 1, 1) := by decide +kernel
theorem dX2_stopAll_8 : decode cX2_stopAll 8 = .ok (.aload_n 0, 1) := by decide +kernel
theorem dX2_stopAll_9 : decode cX2_stopAll 9 = .ok (.getfield 20, 3) := by decide +kernel
theorem dX2_stopAll_12 : decode cX2_stopAll 12 = .ok (.invokevirtual 117, 3) := by decide +kernel
theorem dX2_stopAll_15 : decode cX2_stopAll 15 = .ok (.aload_n 0, 1) := by decide +kernel
theorem dX2_stopAll_16 : decode cX2_stopAll 16 = .ok (.iconst 5, 1) := by decide +kernel
theorem dX2_stopAll_17 : decode cX2_stopAll 17 = .ok (.iload_n 1, 1) := by decide +kernel
theorem dX2_stopAll_18 : decode cX2_stopAll 18 = .ok (.invokevirtual 80, 3) := by decide +kernel
theorem dX2_stopAll_21 : decode cX2_stopAll 21 = .ok (.iload_n 1, 1) := by decide +kernel
theorem dX2_stopAll_22 : decode cX2_stopAll 22 = .ok (.ireturn, 1) := by decide +kernel
theorem dX3_init_0 : decode cX3_init 0 = .ok (.aload_n 0, 1) := by decide +kernel
theorem dX3_init_1 : decode cX3_init 1 = .ok (.invokespecial 3, 3) := by decide +kernel
theorem dX3_init_4 : decode cX3_init 4 = .ok (.aload_n 0, 1) := by decide +kernel
theorem dX3_init_5 : decode cX3_init 5 = .ok (.bipush 9, 2) := by decide +kernel
theorem dX3_init_7 : decode cX3_init 7 = .ok (.newarray .int, 2) := by decide +kernel
theorem dX3_init_9 : decode cX3_init 9 = .ok (.putfield 9, 3) := by decide +kernel
theorem dX3_init_12 : decode cX3_init 12 = .ok (.return_, 1) := by decide +kernel
theorem dX3_finding_0 : decode cX3_finding 0 = .ok (.iload_n 1, 1) := by decide +kernel
theorem dX3_finding_1 : decode cX3_finding 1 = .ok (.tableswitch 42 0 2 #[27, 32, 37], 27) := by decide +kernel
theorem dX3_finding_28 : decode cX3_finding 28 = .ok (.aload_n 0, 1) := by decide +kernel
theorem dX3_finding_29 : decode cX3_finding 29 = .ok (.getfield 15, 3) := by decide +kernel
theorem dX3_finding_32 : decode cX3_finding 32 = .ok (.ireturn, 1) := by decide +kernel
theorem dX3_finding_33 : decode cX3_finding 33 = .ok (.aload_n 0, 1) := by decide +kernel
theorem dX3_finding_34 : decode cX3_finding 34 = .ok (.getfield 19, 3) := by decide +kernel
theorem dX3_finding_37 : decode cX3_finding 37 = .ok (.ireturn, 1) := by decide +kernel
theorem dX3_finding_38 : decode cX3_finding 38 = .ok (.aload_n 0, 1) := by decide +kernel
theorem dX3_finding_39 : decode cX3_finding 39 = .ok (.getfield 22, 3) := by decide +kernel
theorem dX3_finding_42 : decode cX3_finding 42 = .ok (.ireturn, 1) := by decide +kernel
theorem dX3_finding_43 : decode cX3_finding 43 = .ok (.aload_n 0, 1) := by decide +kernel
theorem dX3_finding_44 : decode cX3_finding 44 = .ok (.getfield 25, 3) := by decide +kernel
theorem dX3_finding_47 : decode cX3_finding 47 = .ok (.ireturn, 1) := by decide +kernel
set_option maxRecDepth 20000 in
theorem ggX3_goByPlaces_X3_start : GoodIn wsX3_goByPlaces wsX3_start := goodIn_r _ [5, 6, 7, 8, 9, 10, 41, 42, 43, 44, 45] (by decide +kernel) (by decide +kernel)
set_option maxRecDepth 20000 in
theorem gX3_goByPlaces_X3_start : GoodIn wsX3_goByPlaces (wsV RX3 28 RX3 yX3_start wsX3_start) := goodIn_app (goodIn_of _ (by decide +kernel)) ggX3_goByPlaces_X3_start
set_option maxRecDepth 20000 in
theorem ggX3_goByPlaces_X2_matching : GoodIn wsX3_goByPlaces wsX2_matching := goodIn_r _ [15, 16, 17, 18, 19, 20, 21, 22, 23, 24, 25, 14, 26, 27, 28, 29, 30, 31, 32, 46, 47, 48, 49, 50, 51, 52, 53] (by decide +kernel) (by decide +kernel)
set_option maxRecDepth 20000 in
theorem gX3_goByPlaces_X2_matching : GoodIn wsX3_goByPlaces (wsV RX3 31 RX2 yX2_matching wsX2_matching) := goodIn_app (goodIn_of _ (by decide +kernel)) ggX3_goByPlaces_X2_matching
set_option maxRecDepth 20000 in
theorem ggX3_goByPlaces_X3_see : GoodIn wsX3_goByPlaces wsX3_see := goodIn_r _ [36, 7, 10, 8, 9, 37, 38, 39, 40, 41, 42, 43, 44, 45] (by decide +kernel) (by decide +kernel)
set_option maxRecDepth 20000 in
theorem gX3_goByPlaces_X3_see : GoodIn wsX3_goByPlaces (wsV RX3 37 RX3 yX3_see wsX3_see) := goodIn_app (goodIn_of _ (by decide +kernel)) ggX3_goByPlaces_X3_see
theorem dX3_goByPlaces_0 : decode cX3_goByPlaces 0 = .ok (.aload_n 0, 1) := by decide +kernel
theorem dX3_goByPlaces_1 : decode cX3_goByPlaces 1 = .ok (.invokevirtual 28, 3) := by decide +kernel
theorem dX3_goByPlaces_4 : decode cX3_goByPlaces 4 = .ok (.iconst 0, 1) := by decide +kernel
theorem dX3_goByPlaces_5 : decode cX3_goByPlaces 5 = .ok (.istore_n 2, 1) := by decide +kernel
theorem dX3_goByPlaces_6 : decode cX3_goByPlaces 6 = .ok (.iload_n 2, 1) := by decide +kernel
theorem dX3_goByPlaces_7 : decode cX3_goByPlaces 7 = .ok (.bipush 35, 2) := by decide +kernel
theorem dX3_goByPlaces_9 : decode cX3_goByPlaces 9 = .ok (.if_icmp .gt 34, 3) := by decide +kernel
theorem dX3_goByPlaces_12 : decode cX3_goByPlaces 12 = .ok (.iconst 1, 1) := by decide +kernel
theorem dX3_goByPlaces_13 : decode cX3_goByPlaces 13 = .ok (.istore_n 3, 1) := by decide +kernel
theorem dX3_goByPlaces_14 : decode cX3_goByPlaces 14 = .ok (.iload_n 3, 1) := by decide +kernel
theorem dX3_goByPlaces_15 : decode cX3_goByPlaces 15 = .ok (.bipush 9, 2) := by decide +kernel
theorem dX3_goByPlaces_17 : decode cX3_goByPlaces 17 = .ok (.if_icmp .gt 20, 3) := by decide +kernel
theorem dX3_goByPlaces_20 : decode cX3_goByPlaces 20 = .ok (.aload_n 0, 1) := by decide +kernel
theorem dX3_goByPlaces_21 : decode cX3_goByPlaces 21 = .ok (.iload_n 2, 1) := by decide +kernel
theorem dX3_goByPlaces_22 : decode cX3_goByPlaces 22 = .ok (.aload_n 1, 1) := by decide +kernel
theorem dX3_goByPlaces_23 : decode cX3_goByPlaces 23 = .ok (.iload_n 2, 1) := by decide +kernel
theorem dX3_goByPlaces_24 : decode cX3_goByPlaces 24 = .ok (.iload_n 3, 1) := by decide +kernel
theorem dX3_goByPlaces_25 : decode cX3_goByPlaces 25 = .ok (.invokevirtual 31, 3) := by decide +kernel
theorem dX3_goByPlaces_28 : decode cX3_goByPlaces 28 = .ok (.invokevirtual 37, 3) := by decide +kernel
theorem dX3_goByPlaces_31 : decode cX3_goByPlaces 31 = .ok (.iinc 3 1, 3) := by decide +kernel
theorem dX3_goByPlaces_34 : decode cX3_goByPlaces 34 = .ok (.goto (-20), 3) := by decide +kernel
theorem dX3_goByPlaces_37 : decode cX3_goByPlaces 37 = .ok (.iinc 2 1, 3) := by decide +kernel
theorem dX3_goByPlaces_40 : decode cX3_goByPlaces 40 = .ok (.goto (-34), 3) := by decide +kernel
theorem dX3_goByPlaces_43 : decode cX3_goByPlaces 43 = .ok (.return_, 1) := by decide +kernel
set_option maxRecDepth 20000 in
theorem ggX3_goByEdges_X3_start : GoodIn wsX3_goByEdges wsX3_start := goodIn_r _ [6, 1, 7, 8, 9, 10, 40, 41, 42, 43, 44] (by decide +kernel) (by decide +kernel)
set_option maxRecDepth 20000 in
theorem gX3_goByEdges_X3_start : GoodIn wsX3_goByEdges (wsV RX3 28 RX3 yX3_start wsX3_start) := goodIn_app (goodIn_of _ (by decide +kernel)) ggX3_goByEdges_X3_start
set_option maxRecDepth 20000 in
theorem ggX3_goByEdges_X4_rows : GoodIn wsX3_goByEdges wsX4_rows := goodIn_r _ [15, 16, 45, 46, 47] (by decide +kernel) (by decide +kernel)
set_option maxRecDepth 20000 in
theorem gX3_goByEdges_X4_rows : GoodIn wsX3_goByEdges (wsV RX3 45 RX4 yX4_rows wsX4_rows) := goodIn_app (goodIn_of _ (by decide +kernel)) ggX3_goByEdges_X4_rows
set_option maxRecDepth 20000 in
theorem ggX3_goByEdges_X4_get : GoodIn wsX3_goByEdges wsX4_get := goodIn_r _ [20, 16, 21, 22, 45, 46, 47] (by decide +kernel) (by decide +kernel)
set_option maxRecDepth 20000 in
theorem gX3_goByEdges_X4_get : GoodIn wsX3_goByEdges (wsV RX3 51 RX4 yX4_get wsX4_get) := goodIn_app (goodIn_of _ (by decide +kernel)) ggX3_goByEdges_X4_get
set_option maxRecDepth 20000 in
theorem ggX3_goByEdges_X3_deepen : GoodIn wsX3_goByEdges wsX3_deepen := goodIn_r _ [26, 1, 17, 18, 19, 14, 20, 16, 21, 22, 40, 41, 42, 43, 44, 45, 46, 47] (by decide +kernel) (by decide +kernel)
set_option maxRecDepth 20000 in
theorem gX3_goByEdges_X3_deepen : GoodIn wsX3_goByEdges (wsV RX3 54 RX3 yX3_deepen wsX3_deepen) := goodIn_app (goodIn_of _ (by decide +kernel)) ggX3_goByEdges_X3_deepen
set_option maxRecDepth 20000 in
theorem ggX3_goByEdges_X3_see : GoodIn wsX3_goByEdges wsX3_see := goodIn_r _ [30, 7, 10, 8, 9, 31, 32, 33, 34, 40, 41, 42, 43, 44] (by decide +kernel) (by decide +kernel)
set_option maxRecDepth 20000 in
theorem gX3_goByEdges_X3_see : GoodIn wsX3_goByEdges (wsV RX3 37 RX3 yX3_see wsX3_see) := goodIn_app (goodIn_of _ (by decide +kernel)) ggX3_goByEdges_X3_see
theorem dX3_goByEdges_0 : decode cX3_goByEdges 0 = .ok (.aload_n 0, 1) := by decide +kernel
theorem dX3_goByEdges_1 : decode cX3_goByEdges 1 = .ok (.invokevirtual 28, 3) := by decide +kernel
theorem dX3_goByEdges_4 : decode cX3_goByEdges 4 = .ok (.iconst 0, 1) := by decide +kernel
theorem dX3_goByEdges_5 : decode cX3_goByEdges 5 = .ok (.istore_n 2, 1) := by decide +kernel
theorem dX3_goByEdges_6 : decode cX3_goByEdges 6 = .ok (.iload_n 2, 1) := by decide +kernel
theorem dX3_goByEdges_7 : decode cX3_goByEdges 7 = .ok (.bipush 35, 2) := by decide +kernel
theorem dX3_goByEdges_9 : decode cX3_goByEdges 9 = .ok (.if_icmp .gt 104, 3) := by decide +kernel
theorem dX3_goByEdges_12 : decode cX3_goByEdges 12 = .ok (.iconst 0, 1) := by decide +kernel
theorem dX3_goByEdges_13 : decode cX3_goByEdges 13 = .ok (.istore_n 3, 1) := by decide +kernel
theorem dX3_goByEdges_14 : decode cX3_goByEdges 14 = .ok (.iload_n 3, 1) := by decide +kernel
theorem dX3_goByEdges_15 : decode cX3_goByEdges 15 = .ok (.aload_n 1, 1) := by decide +kernel
theorem dX3_goByEdges_16 : decode cX3_goByEdges 16 = .ok (.getfield 41, 3) := by decide +kernel
theorem dX3_goByEdges_19 : decode cX3_goByEdges 19 = .ok (.invokevirtual 45, 3) := by decide +kernel
theorem dX3_goByEdges_22 : decode cX3_goByEdges 22 = .ok (.if_icmp .ge 57, 3) := by decide +kernel
theorem dX3_goByEdges_25 : decode cX3_goByEdges 25 = .ok (.aload_n 1, 1) := by decide +kernel
theorem dX3_goByEdges_26 : decode cX3_goByEdges 26 = .ok (.getfield 41, 3) := by decide +kernel
theorem dX3_goByEdges_29 : decode cX3_goByEdges 29 = .ok (.iload_n 3, 1) := by decide +kernel
theorem dX3_goByEdges_30 : decode cX3_goByEdges 30 = .ok (.iconst 0, 1) := by decide +kernel
theorem dX3_goByEdges_31 : decode cX3_goByEdges 31 = .ok (.invokevirtual 51, 3) := by decide +kernel
theorem dX3_goByEdges_34 : decode cX3_goByEdges 34 = .ok (.iload_n 2, 1) := by decide +kernel
theorem dX3_goByEdges_35 : decode cX3_goByEdges 35 = .ok (.if_icmp .ne 13, 3) := by decide +kernel
theorem dX3_goByEdges_38 : decode cX3_goByEdges 38 = .ok (.aload_n 0, 1) := by decide +kernel
theorem dX3_goByEdges_39 : decode cX3_goByEdges 39 = .ok (.aload_n 1, 1) := by decide +kernel
theorem dX3_goByEdges_40 : decode cX3_goByEdges 40 = .ok (.getfield 41, 3) := by decide +kernel
theorem dX3_goByEdges_43 : decode cX3_goByEdges 43 = .ok (.iload_n 3, 1) := by decide +kernel
theorem dX3_goByEdges_44 : decode cX3_goByEdges 44 = .ok (.iconst 1, 1) := by decide +kernel
theorem dX3_goByEdges_45 : decode cX3_goByEdges 45 = .ok (.invokevirtual 54, 3) := by decide +kernel
theorem dX3_goByEdges_48 : decode cX3_goByEdges 48 = .ok (.aload_n 1, 1) := by decide +kernel
theorem dX3_goByEdges_49 : decode cX3_goByEdges 49 = .ok (.getfield 41, 3) := by decide +kernel
theorem dX3_goByEdges_52 : decode cX3_goByEdges 52 = .ok (.iload_n 3, 1) := by decide +kernel
theorem dX3_goByEdges_53 : decode cX3_goByEdges 53 = .ok (.iconst 1, 1) := by decide +kernel
theorem dX3_goByEdges_54 : decode cX3_goByEdges 54 = .ok (.invokevirtual 51, 3) := by decide +kernel
theorem dX3_goByEdges_57 : decode cX3_goByEdges 57 = .ok (.iload_n 2, 1) := by decide +kernel
theorem dX3_goByEdges_58 : decode cX3_goByEdges 58 = .ok (.iconst 1, 1) := by decide +kernel
theorem dX3_goByEdges_59 : decode cX3_goByEdges 59 = .ok (.isub, 1) := by decide +kernel
theorem dX3_goByEdges_60 : decode cX3_goByEdges 60 = .ok (.if_icmp .ne 13, 3) := by decide +kernel
theorem dX3_goByEdges_63 : decode cX3_goByEdges 63 = .ok (.aload_n 0, 1) := by decide +kernel
theorem dX3_goByEdges_64 : decode cX3_goByEdges 64 = .ok (.aload_n 1, 1) := by decide +kernel
theorem dX3_goByEdges_65 : decode cX3_goByEdges 65 = .ok (.getfield 41, 3) := by decide +kernel
theorem dX3_goByEdges_68 : decode cX3_goByEdges 68 = .ok (.iload_n 3, 1) := by decide +kernel
theorem dX3_goByEdges_69 : decode cX3_goByEdges 69 = .ok (.iconst (-1), 1) := by decide +kernel
theorem dX3_goByEdges_70 : decode cX3_goByEdges 70 = .ok (.invokevirtual 54, 3) := by decide +kernel
theorem dX3_goByEdges_73 : decode cX3_goByEdges 73 = .ok (.iinc 3 1, 3) := by decide +kernel
theorem dX3_goByEdges_76 : decode cX3_goByEdges 76 = .ok (.goto (-62), 3) := by decide +kernel
theorem dX3_goByEdges_79 : decode cX3_goByEdges 79 = .ok (.iconst 0, 1) := by decide +kernel
theorem dX3_goByEdges_80 : decode cX3_goByEdges 80 = .ok (.istore_n 3, 1) := by decide +kernel
theorem dX3_goByEdges_81 : decode cX3_goByEdges 81 = .ok (.iload_n 3, 1) := by decide +kernel
theorem dX3_goByEdges_82 : decode cX3_goByEdges 82 = .ok (.aload_n 0, 1) := by decide +kernel
theorem dX3_goByEdges_83 : decode cX3_goByEdges 83 = .ok (.getfield 9, 3) := by decide +kernel
theorem dX3_goByEdges_86 : decode cX3_goByEdges 86 = .ok (.arraylength, 1) := by decide +kernel
theorem dX3_goByEdges_87 : decode cX3_goByEdges 87 = .ok (.if_icmp .ge 20, 3) := by decide +kernel
theorem dX3_goByEdges_90 : decode cX3_goByEdges 90 = .ok (.aload_n 0, 1) := by decide +kernel
theorem dX3_goByEdges_91 : decode cX3_goByEdges 91 = .ok (.iload_n 2, 1) := by decide +kernel
theorem dX3_goByEdges_92 : decode cX3_goByEdges 92 = .ok (.aload_n 0, 1) := by decide +kernel
theorem dX3_goByEdges_93 : decode cX3_goByEdges 93 = .ok (.getfield 9, 3) := by decide +kernel
theorem dX3_goByEdges_96 : decode cX3_goByEdges 96 = .ok (.iload_n 3, 1) := by decide +kernel
theorem dX3_goByEdges_97 : decode cX3_goByEdges 97 = .ok (.iaload, 1) := by decide +kernel
theorem dX3_goByEdges_98 : decode cX3_goByEdges 98 = .ok (.invokevirtual 37, 3) := by decide +kernel
theorem dX3_goByEdges_101 : decode cX3_goByEdges 101 = .ok (.iinc 3 1, 3) := by decide +kernel
theorem dX3_goByEdges_104 : decode cX3_goByEdges 104 = .ok (.goto (-23), 3) := by decide +kernel
theorem dX3_goByEdges_107 : decode cX3_goByEdges 107 = .ok (.iinc 2 1, 3) := by decide +kernel
theorem dX3_goByEdges_110 : decode cX3_goByEdges 110 = .ok (.goto (-104), 3) := by decide +kernel
theorem dX3_goByEdges_113 : decode cX3_goByEdges 113 = .ok (.return_, 1) := by decide +kernel
set_option maxRecDepth 20000 in
theorem ggX3_deepen_X4_get : GoodIn wsX3_deepen wsX4_get := goodIn_r _ [6, 7, 8, 9, 15, 16, 17] (by decide +kernel) (by decide +kernel)
set_option maxRecDepth 20000 in
theorem gX3_deepen_X4_get : GoodIn wsX3_deepen (wsV RX3 51 RX4 yX4_get wsX4_get) := goodIn_app (goodIn_of _ (by decide +kernel)) ggX3_deepen_X4_get
theorem dX3_deepen_0 : decode cX3_deepen 0 = .ok (.iconst 0, 1) := by decide +kernel
theorem dX3_deepen_1 : decode cX3_deepen 1 = .ok (.istore 4, 2) := by decide +kernel
theorem dX3_deepen_3 : decode cX3_deepen 3 = .ok (.iload 4, 2) := by decide +kernel
theorem dX3_deepen_5 : decode cX3_deepen 5 = .ok (.aload_n 0, 1) := by decide +kernel
theorem dX3_deepen_6 : decode cX3_deepen 6 = .ok (.getfield 9, 3) := by decide +kernel
theorem dX3_deepen_9 : decode cX3_deepen 9 = .ok (.arraylength, 1) := by decide +kernel
theorem dX3_deepen_10 : decode cX3_deepen 10 = .ok (.if_icmp .ge 46, 3) := by decide +kernel
theorem dX3_deepen_13 : decode cX3_deepen 13 = .ok (.iload 4, 2) := by decide +kernel
theorem dX3_deepen_15 : decode cX3_deepen 15 = .ok (.iconst 1, 1) := by decide +kernel
theorem dX3_deepen_16 : decode cX3_deepen 16 = .ok (.iadd, 1) := by decide +kernel
theorem dX3_deepen_17 : decode cX3_deepen 17 = .ok (.aload_n 1, 1) := by decide +kernel
theorem dX3_deepen_18 : decode cX3_deepen 18 = .ok (.iload_n 2, 1) := by decide +kernel
theorem dX3_deepen_19 : decode cX3_deepen 19 = .ok (.iconst 2, 1) := by decide +kernel
theorem dX3_deepen_20 : decode cX3_deepen 20 = .ok (.invokevirtual 51, 3) := by decide +kernel
theorem dX3_deepen_23 : decode cX3_deepen 23 = .ok (.if_icmp .lt 27, 3) := by decide +kernel
theorem dX3_deepen_26 : decode cX3_deepen 26 = .ok (.iload 4, 2) := by decide +kernel
theorem dX3_deepen_28 : decode cX3_deepen 28 = .ok (.iconst 1, 1) := by decide +kernel
theorem dX3_deepen_29 : decode cX3_deepen 29 = .ok (.iadd, 1) := by decide +kernel
theorem dX3_deepen_30 : decode cX3_deepen 30 = .ok (.aload_n 1, 1) := by decide +kernel
theorem dX3_deepen_31 : decode cX3_deepen 31 = .ok (.iload_n 2, 1) := by decide +kernel
theorem dX3_deepen_32 : decode cX3_deepen 32 = .ok (.iconst 3, 1) := by decide +kernel
theorem dX3_deepen_33 : decode cX3_deepen 33 = .ok (.invokevirtual 51, 3) := by decide +kernel
theorem dX3_deepen_36 : decode cX3_deepen 36 = .ok (.if_icmp .gt 14, 3) := by decide +kernel
theorem dX3_deepen_39 : decode cX3_deepen 39 = .ok (.aload_n 0, 1) := by decide +kernel
theorem dX3_deepen_40 : decode cX3_deepen 40 = .ok (.getfield 9, 3) := by decide +kernel
theorem dX3_deepen_43 : decode cX3_deepen 43 = .ok (.iload 4, 2) := by decide +kernel
theorem dX3_deepen_45 : decode cX3_deepen 45 = .ok (.dup2, 1) := by decide +kernel
theorem dX3_deepen_46 : decode cX3_deepen 46 = .ok (.iaload, 1) := by decide +kernel
theorem dX3_deepen_47 : decode cX3_deepen 47 = .ok (.iload_n 3, 1) := by decide +kernel
theorem dX3_deepen_48 : decode cX3_deepen 48 = .ok (.iadd, 1) := by decide +kernel
theorem dX3_deepen_49 : decode cX3_deepen 49 = .ok (.iastore, 1) := by decide +kernel
theorem dX3_deepen_50 : decode cX3_deepen 50 = .ok (.iinc 4 1, 3) := by decide +kernel
theorem dX3_deepen_53 : decode cX3_deepen 53 = .ok (.goto (-50), 3) := by decide +kernel
theorem dX3_deepen_56 : decode cX3_deepen 56 = .ok (.return_, 1) := by decide +kernel
theorem dX3_start_0 : decode cX3_start 0 = .ok (.iconst 0, 1) := by decide +kernel
theorem dX3_start_1 : decode cX3_start 1 = .ok (.istore_n 1, 1) := by decide +kernel
theorem dX3_start_2 : decode cX3_start 2 = .ok (.iload_n 1, 1) := by decide +kernel
theorem dX3_start_3 : decode cX3_start 3 = .ok (.aload_n 0, 1) := by decide +kernel
theorem dX3_start_4 : decode cX3_start 4 = .ok (.getfield 9, 3) := by decide +kernel
theorem dX3_start_7 : decode cX3_start 7 = .ok (.arraylength, 1) := by decide +kernel
theorem dX3_start_8 : decode cX3_start 8 = .ok (.if_icmp .ge 16, 3) := by decide +kernel
theorem dX3_start_11 : decode cX3_start 11 = .ok (.aload_n 0, 1) := by decide +kernel
theorem dX3_start_12 : decode cX3_start 12 = .ok (.getfield 9, 3) := by decide +kernel
theorem dX3_start_15 : decode cX3_start 15 = .ok (.iload_n 1, 1) := by decide +kernel
theorem dX3_start_16 : decode cX3_start 16 = .ok (.iconst 0, 1) := by decide +kernel
theorem dX3_start_17 : decode cX3_start 17 = .ok (.iastore, 1) := by decide +kernel
theorem dX3_start_18 : decode cX3_start 18 = .ok (.iinc 1 1, 3) := by decide +kernel
theorem dX3_start_21 : decode cX3_start 21 = .ok (.goto (-19), 3) := by decide +kernel
theorem dX3_start_24 : decode cX3_start 24 = .ok (.aload_n 0, 1) := by decide +kernel
theorem dX3_start_25 : decode cX3_start 25 = .ok (.iconst 0, 1) := by decide +kernel
theorem dX3_start_26 : decode cX3_start 26 = .ok (.putfield 15, 3) := by decide +kernel
theorem dX3_start_29 : decode cX3_start 29 = .ok (.aload_n 0, 1) := by decide +kernel
theorem dX3_start_30 : decode cX3_start 30 = .ok (.iconst 0, 1) := by decide +kernel
theorem dX3_start_31 : decode cX3_start 31 = .ok (.putfield 19, 3) := by decide +kernel
theorem dX3_start_34 : decode cX3_start 34 = .ok (.aload_n 0, 1) := by decide +kernel
theorem dX3_start_35 : decode cX3_start 35 = .ok (.iconst 0, 1) := by decide +kernel
theorem dX3_start_36 : decode cX3_start 36 = .ok (.putfield 22, 3) := by decide +kernel
theorem dX3_start_39 : decode cX3_start 39 = .ok (.aload_n 0, 1) := by decide +kernel
theorem dX3_start_40 : decode cX3_start 40 = .ok (.bipush (-4), 2) := by decide +kernel
theorem dX3_start_42 : decode cX3_start 42 = .ok (.putfield 25, 3) := by decide +kernel
theorem dX3_start_45 : decode cX3_start 45 = .ok (.return_, 1) := by decide +kernel
theorem dX3_see_0 : decode cX3_see 0 = .ok (.iload_n 2, 1) := by decide +kernel
theorem dX3_see_1 : decode cX3_see 1 = .ok (.ifCond .ne 34, 3) := by decide +kernel
theorem dX3_see_4 : decode cX3_see 4 = .ok (.aload_n 0, 1) := by decide +kernel
theorem dX3_see_5 : decode cX3_see 5 = .ok (.dup, 1) := by decide +kernel
theorem dX3_see_6 : decode cX3_see 6 = .ok (.getfield 15, 3) := by decide +kernel
theorem dX3_see_9 : decode cX3_see 9 = .ok (.iconst 1, 1) := by decide +kernel
theorem dX3_see_10 : decode cX3_see 10 = .ok (.iadd, 1) := by decide +kernel
theorem dX3_see_11 : decode cX3_see 11 = .ok (.putfield 15, 3) := by decide +kernel
theorem dX3_see_14 : decode cX3_see 14 = .ok (.aload_n 0, 1) := by decide +kernel
theorem dX3_see_15 : decode cX3_see 15 = .ok (.aload_n 0, 1) := by decide +kernel
theorem dX3_see_16 : decode cX3_see 16 = .ok (.getfield 25, 3) := by decide +kernel
theorem dX3_see_19 : decode cX3_see 19 = .ok (.bipush (-4), 2) := by decide +kernel
theorem dX3_see_21 : decode cX3_see 21 = .ok (.if_icmp .ne 7, 3) := by decide +kernel
theorem dX3_see_24 : decode cX3_see 24 = .ok (.iload_n 1, 1) := by decide +kernel
theorem dX3_see_25 : decode cX3_see 25 = .ok (.goto 7, 3) := by decide +kernel
theorem dX3_see_28 : decode cX3_see 28 = .ok (.aload_n 0, 1) := by decide +kernel
theorem dX3_see_29 : decode cX3_see 29 = .ok (.getfield 25, 3) := by decide +kernel
theorem dX3_see_32 : decode cX3_see 32 = .ok (.putfield 25, 3) := by decide +kernel
theorem dX3_see_35 : decode cX3_see 35 = .ok (.aload_n 0, 1) := by decide +kernel
theorem dX3_see_36 : decode cX3_see 36 = .ok (.dup, 1) := by decide +kernel
theorem dX3_see_37 : decode cX3_see 37 = .ok (.getfield 19, 3) := by decide +kernel
theorem dX3_see_40 : decode cX3_see 40 = .ok (.iload_n 2, 1) := by decide +kernel
theorem dX3_see_41 : decode cX3_see 41 = .ok (.iconst 2, 1) := by decide +kernel
theorem dX3_see_42 : decode cX3_see 42 = .ok (.if_icmp .lt 7, 3) := by decide +kernel
theorem dX3_see_45 : decode cX3_see 45 = .ok (.iconst 1, 1) := by decide +kernel
theorem dX3_see_46 : decode cX3_see 46 = .ok (.goto 4, 3) := by decide +kernel
theorem dX3_see_49 : decode cX3_see 49 = .ok (.iconst 0, 1) := by decide +kernel
theorem dX3_see_50 : decode cX3_see 50 = .ok (.iadd, 1) := by decide +kernel
theorem dX3_see_51 : decode cX3_see 51 = .ok (.putfield 19, 3) := by decide +kernel
theorem dX3_see_54 : decode cX3_see 54 = .ok (.aload_n 0, 1) := by decide +kernel
theorem dX3_see_55 : decode cX3_see 55 = .ok (.aload_n 0, 1) := by decide +kernel
theorem dX3_see_56 : decode cX3_see 56 = .ok (.getfield 22, 3) := by decide +kernel
theorem dX3_see_59 : decode cX3_see 59 = .ok (.iload_n 2, 1) := by decide +kernel
theorem dX3_see_60 : decode cX3_see 60 = .ok (.invokestatic 58, 3) := by decide +kernel
theorem dX3_see_63 : decode cX3_see 63 = .ok (.putfield 22, 3) := by decide +kernel
theorem dX3_see_66 : decode cX3_see 66 = .ok (.return_, 1) := by decide +kernel
theorem dX4_init_0 : decode cX4_init 0 = .ok (.aload_n 0, 1) := by decide +kernel
theorem dX4_init_1 : decode cX4_init 1 = .ok (.invokespecial 1, 3) := by decide +kernel
theorem dX4_init_4 : decode cX4_init 4 = .ok (.aload_n 0, 1) := by decide +kernel
theorem dX4_init_5 : decode cX4_init 5 = .ok (.iload_n 2, 1) := by decide +kernel
theorem dX4_init_6 : decode cX4_init 6 = .ok (.ifCond .le 7, 3) := by decide +kernel
theorem dX4_init_9 : decode cX4_init 9 = .ok (.iload_n 2, 1) := by decide +kernel
theorem dX4_init_10 : decode cX4_init 10 = .ok (.goto 4, 3) := by decide +kernel
theorem dX4_init_13 : decode cX4_init 13 = .ok (.iconst 1, 1) := by decide +kernel
theorem dX4_init_14 : decode cX4_init 14 = .ok (.putfield 7, 3) := by decide +kernel
theorem dX4_init_17 : decode cX4_init 17 = .ok (.aload_n 0, 1) := by decide +kernel
theorem dX4_init_18 : decode cX4_init 18 = .ok (.iload_n 1, 1) := by decide +kernel
theorem dX4_init_19 : decode cX4_init 19 = .ok (.ifCond .le 12, 3) := by decide +kernel
theorem dX4_init_22 : decode cX4_init 22 = .ok (.iload_n 1, 1) := by decide +kernel
theorem dX4_init_23 : decode cX4_init 23 = .ok (.aload_n 0, 1) := by decide +kernel
theorem dX4_init_24 : decode cX4_init 24 = .ok (.getfield 7, 3) := by decide +kernel
theorem dX4_init_27 : decode cX4_init 27 = .ok (.imul, 1) := by decide +kernel
theorem dX4_init_28 : decode cX4_init 28 = .ok (.goto 4, 3) := by decide +kernel
theorem dX4_init_31 : decode cX4_init 31 = .ok (.iconst 0, 1) := by decide +kernel
theorem dX4_init_32 : decode cX4_init 32 = .ok (.newarray .int, 2) := by decide +kernel
theorem dX4_init_34 : decode cX4_init 34 = .ok (.putfield 13, 3) := by decide +kernel
theorem dX4_init_37 : decode cX4_init 37 = .ok (.return_, 1) := by decide +kernel
theorem dX4_rows_0 : decode cX4_rows 0 = .ok (.aload_n 0, 1) := by decide +kernel
theorem dX4_rows_1 : decode cX4_rows 1 = .ok (.getfield 17, 3) := by decide +kernel
theorem dX4_rows_4 : decode cX4_rows 4 = .ok (.ireturn, 1) := by decide +kernel
theorem dX4_has_0 : decode cX4_has 0 = .ok (.iload_n 1, 1) := by decide +kernel
theorem dX4_has_1 : decode cX4_has 1 = .ok (.ifCond .lt 15, 3) := by decide +kernel
theorem dX4_has_4 : decode cX4_has 4 = .ok (.iload_n 1, 1) := by decide +kernel
theorem dX4_has_5 : decode cX4_has 5 = .ok (.aload_n 0, 1) := by decide +kernel
theorem dX4_has_6 : decode cX4_has 6 = .ok (.getfield 17, 3) := by decide +kernel
theorem dX4_has_9 : decode cX4_has 9 = .ok (.if_icmp .ge 7, 3) := by decide +kernel
theorem dX4_has_12 : decode cX4_has 12 = .ok (.iconst 1, 1) := by decide +kernel
theorem dX4_has_13 : decode cX4_has 13 = .ok (.goto 4, 3) := by decide +kernel
theorem dX4_has_16 : decode cX4_has 16 = .ok (.iconst 0, 1) := by decide +kernel
theorem dX4_has_17 : decode cX4_has 17 = .ok (.ireturn, 1) := by decide +kernel
theorem dX4_get_0 : decode cX4_get 0 = .ok (.iload_n 1, 1) := by decide +kernel
theorem dX4_get_1 : decode cX4_get 1 = .ok (.ifCond .lt 23, 3) := by decide +kernel
theorem dX4_get_4 : decode cX4_get 4 = .ok (.iload_n 1, 1) := by decide +kernel
theorem dX4_get_5 : decode cX4_get 5 = .ok (.aload_n 0, 1) := by decide +kernel
theorem dX4_get_6 : decode cX4_get 6 = .ok (.getfield 17, 3) := by decide +kernel
theorem dX4_get_9 : decode cX4_get 9 = .ok (.if_icmp .ge 15, 3) := by decide +kernel
theorem dX4_get_12 : decode cX4_get 12 = .ok (.iload_n 2, 1) := by decide +kernel
theorem dX4_get_13 : decode cX4_get 13 = .ok (.ifCond .lt 11, 3) := by decide +kernel
theorem dX4_get_16 : decode cX4_get 16 = .ok (.iload_n 2, 1) := by decide +kernel
theorem dX4_get_17 : decode cX4_get 17 = .ok (.aload_n 0, 1) := by decide +kernel
theorem dX4_get_18 : decode cX4_get 18 = .ok (.getfield 7, 3) := by decide +kernel
theorem dX4_get_21 : decode cX4_get 21 = .ok (.if_icmp .lt 5, 3) := by decide +kernel
theorem dX4_get_24 : decode cX4_get 24 = .ok (.iconst 0, 1) := by decide +kernel
theorem dX4_get_25 : decode cX4_get 25 = .ok (.ireturn, 1) := by decide +kernel
theorem dX4_get_26 : decode cX4_get 26 = .ok (.iload_n 1, 1) := by decide +kernel
theorem dX4_get_27 : decode cX4_get 27 = .ok (.aload_n 0, 1) := by decide +kernel
theorem dX4_get_28 : decode cX4_get 28 = .ok (.getfield 7, 3) := by decide +kernel
theorem dX4_get_31 : decode cX4_get 31 = .ok (.imul, 1) := by decide +kernel
theorem dX4_get_32 : decode cX4_get 32 = .ok (.iload_n 2, 1) := by decide +kernel
theorem dX4_get_33 : decode cX4_get 33 = .ok (.iadd, 1) := by decide +kernel
theorem dX4_get_34 : decode cX4_get 34 = .ok (.istore_n 3, 1) := by decide +kernel
theorem dX4_get_35 : decode cX4_get 35 = .ok (.iload_n 3, 1) := by decide +kernel
theorem dX4_get_36 : decode cX4_get 36 = .ok (.aload_n 0, 1) := by decide +kernel
theorem dX4_get_37 : decode cX4_get 37 = .ok (.getfield 13, 3) := by decide +kernel
theorem dX4_get_40 : decode cX4_get 40 = .ok (.arraylength, 1) := by decide +kernel
theorem dX4_get_41 : decode cX4_get 41 = .ok (.if_icmp .ge 12, 3) := by decide +kernel
theorem dX4_get_44 : decode cX4_get 44 = .ok (.aload_n 0, 1) := by decide +kernel
theorem dX4_get_45 : decode cX4_get 45 = .ok (.getfield 13, 3) := by decide +kernel
theorem dX4_get_48 : decode cX4_get 48 = .ok (.iload_n 3, 1) := by decide +kernel
theorem dX4_get_49 : decode cX4_get 49 = .ok (.iaload, 1) := by decide +kernel
theorem dX4_get_50 : decode cX4_get 50 = .ok (.goto 4, 3) := by decide +kernel
theorem dX4_get_53 : decode cX4_get 53 = .ok (.iconst 0, 1) := by decide +kernel
theorem dX4_get_54 : decode cX4_get 54 = .ok (.ireturn, 1) := by decide +kernel
theorem dX4_put_0 : decode cX4_put 0 = .ok (.iload_n 1, 1) := by decide +kernel
theorem dX4_put_1 : decode cX4_put 1 = .ok (.ifCond .lt 23, 3) := by decide +kernel
theorem dX4_put_4 : decode cX4_put 4 = .ok (.iload_n 1, 1) := by decide +kernel
theorem dX4_put_5 : decode cX4_put 5 = .ok (.aload_n 0, 1) := by decide +kernel
theorem dX4_put_6 : decode cX4_put 6 = .ok (.getfield 17, 3) := by decide +kernel
theorem dX4_put_9 : decode cX4_put 9 = .ok (.if_icmp .ge 15, 3) := by decide +kernel
theorem dX4_put_12 : decode cX4_put 12 = .ok (.iload_n 2, 1) := by decide +kernel
theorem dX4_put_13 : decode cX4_put 13 = .ok (.ifCond .lt 11, 3) := by decide +kernel
theorem dX4_put_16 : decode cX4_put 16 = .ok (.iload_n 2, 1) := by decide +kernel
theorem dX4_put_17 : decode cX4_put 17 = .ok (.aload_n 0, 1) := by decide +kernel
theorem dX4_put_18 : decode cX4_put 18 = .ok (.getfield 7, 3) := by decide +kernel
theorem dX4_put_21 : decode cX4_put 21 = .ok (.if_icmp .lt 4, 3) := by decide +kernel
theorem dX4_put_24 : decode cX4_put 24 = .ok (.return_, 1) := by decide +kernel
theorem dX4_put_25 : decode cX4_put 25 = .ok (.iload_n 1, 1) := by decide +kernel
theorem dX4_put_26 : decode cX4_put 26 = .ok (.aload_n 0, 1) := by decide +kernel
theorem dX4_put_27 : decode cX4_put 27 = .ok (.getfield 7, 3) := by decide +kernel
theorem dX4_put_30 : decode cX4_put 30 = .ok (.imul, 1) := by decide +kernel
theorem dX4_put_31 : decode cX4_put 31 = .ok (.iload_n 2, 1) := by decide +kernel
theorem dX4_put_32 : decode cX4_put 32 = .ok (.iadd, 1) := by decide +kernel
theorem dX4_put_33 : decode cX4_put 33 = .ok (.istore 4, 2) := by decide +kernel
theorem dX4_put_35 : decode cX4_put 35 = .ok (.iload 4, 2) := by decide +kernel
theorem dX4_put_37 : decode cX4_put 37 = .ok (.aload_n 0, 1) := by decide +kernel
theorem dX4_put_38 : decode cX4_put 38 = .ok (.getfield 13, 3) := by decide +kernel
theorem dX4_put_41 : decode cX4_put 41 = .ok (.arraylength, 1) := by decide +kernel
theorem dX4_put_42 : decode cX4_put 42 = .ok (.if_icmp .ge 11, 3) := by decide +kernel
theorem dX4_put_45 : decode cX4_put 45 = .ok (.aload_n 0, 1) := by decide +kernel
theorem dX4_put_46 : decode cX4_put 46 = .ok (.getfield 13, 3) := by decide +kernel
theorem dX4_put_49 : decode cX4_put 49 = .ok (.iload 4, 2) := by decide +kernel
theorem dX4_put_51 : decode cX4_put 51 = .ok (.iload_n 3, 1) := by decide +kernel
theorem dX4_put_52 : decode cX4_put 52 = .ok (.iastore, 1) := by decide +kernel
theorem dX4_put_53 : decode cX4_put 53 = .ok (.return_, 1) := by decide +kernel
theorem dX4_addRow_0 : decode cX4_addRow 0 = .ok (.aload_n 0, 1) := by decide +kernel
theorem dX4_addRow_1 : decode cX4_addRow 1 = .ok (.getfield 17, 3) := by decide +kernel
theorem dX4_addRow_4 : decode cX4_addRow 4 = .ok (.iconst 1, 1) := by decide +kernel
theorem dX4_addRow_5 : decode cX4_addRow 5 = .ok (.iadd, 1) := by decide +kernel
theorem dX4_addRow_6 : decode cX4_addRow 6 = .ok (.aload_n 0, 1) := by decide +kernel
theorem dX4_addRow_7 : decode cX4_addRow 7 = .ok (.getfield 7, 3) := by decide +kernel
theorem dX4_addRow_10 : decode cX4_addRow 10 = .ok (.imul, 1) := by decide +kernel
theorem dX4_addRow_11 : decode cX4_addRow 11 = .ok (.aload_n 0, 1) := by decide +kernel
theorem dX4_addRow_12 : decode cX4_addRow 12 = .ok (.getfield 13, 3) := by decide +kernel
theorem dX4_addRow_15 : decode cX4_addRow 15 = .ok (.arraylength, 1) := by decide +kernel
theorem dX4_addRow_16 : decode cX4_addRow 16 = .ok (.if_icmp .le 5, 3) := by decide +kernel
theorem dX4_addRow_19 : decode cX4_addRow 19 = .ok (.iconst (-1), 1) := by decide +kernel
theorem dX4_addRow_20 : decode cX4_addRow 20 = .ok (.ireturn, 1) := by decide +kernel
theorem dX4_addRow_21 : decode cX4_addRow 21 = .ok (.aload_n 0, 1) := by decide +kernel
theorem dX4_addRow_22 : decode cX4_addRow 22 = .ok (.dup, 1) := by decide +kernel
theorem dX4_addRow_23 : decode cX4_addRow 23 = .ok (.getfield 17, 3) := by decide +kernel
theorem dX4_addRow_26 : decode cX4_addRow 26 = .ok (.iconst 1, 1) := by decide +kernel
theorem dX4_addRow_27 : decode cX4_addRow 27 = .ok (.iadd, 1) := by decide +kernel
theorem dX4_addRow_28 : decode cX4_addRow 28 = .ok (.putfield 17, 3) := by decide +kernel
theorem dX4_addRow_31 : decode cX4_addRow 31 = .ok (.aload_n 0, 1) := by decide +kernel
theorem dX4_addRow_32 : decode cX4_addRow 32 = .ok (.getfield 17, 3) := by decide +kernel
theorem dX4_addRow_35 : decode cX4_addRow 35 = .ok (.iconst 1, 1) := by decide +kernel
theorem dX4_addRow_36 : decode cX4_addRow 36 = .ok (.isub, 1) := by decide +kernel
theorem dX4_addRow_37 : decode cX4_addRow 37 = .ok (.ireturn, 1) := by decide +kernel
set_option maxRecDepth 20000 in
theorem ggX4_removeRow_X4_has : GoodIn wsX4_removeRow wsX4_has := goodIn_r _ [8, 3, 9, 10, 11] (by decide +kernel) (by decide +kernel)
set_option maxRecDepth 20000 in
theorem gX4_removeRow_X4_has : GoodIn wsX4_removeRow (wsV RX4 20 RX4 yX4_has wsX4_has) := goodIn_app (goodIn_of _ (by decide +kernel)) ggX4_removeRow_X4_has
theorem dX4_removeRow_0 : decode cX4_removeRow 0 = .ok (.aload_n 0, 1) := by decide +kernel
theorem dX4_removeRow_1 : decode cX4_removeRow 1 = .ok (.iload_n 1, 1) := by decide +kernel
theorem dX4_removeRow_2 : decode cX4_removeRow 2 = .ok (.invokevirtual 20, 3) := by decide +kernel
theorem dX4_removeRow_5 : decode cX4_removeRow 5 = .ok (.ifCond .ne 4, 3) := by decide +kernel
theorem dX4_removeRow_8 : decode cX4_removeRow 8 = .ok (.return_, 1) := by decide +kernel
theorem dX4_removeRow_9 : decode cX4_removeRow 9 = .ok (.iload_n 1, 1) := by decide +kernel
theorem dX4_removeRow_10 : decode cX4_removeRow 10 = .ok (.aload_n 0, 1) := by decide +kernel
theorem dX4_removeRow_11 : decode cX4_removeRow 11 = .ok (.getfield 7, 3) := by decide +kernel
theorem dX4_removeRow_14 : decode cX4_removeRow 14 = .ok (.imul, 1) := by decide +kernel
theorem dX4_removeRow_15 : decode cX4_removeRow 15 = .ok (.istore_n 2, 1) := by decide +kernel
theorem dX4_removeRow_16 : decode cX4_removeRow 16 = .ok (.iload_n 2, 1) := by decide +kernel
theorem dX4_removeRow_17 : decode cX4_removeRow 17 = .ok (.aload_n 0, 1) := by decide +kernel
theorem dX4_removeRow_18 : decode cX4_removeRow 18 = .ok (.getfield 13, 3) := by decide +kernel
theorem dX4_removeRow_21 : decode cX4_removeRow 21 = .ok (.arraylength, 1) := by decide +kernel
theorem dX4_removeRow_22 : decode cX4_removeRow 22 = .ok (.aload_n 0, 1) := by decide +kernel
theorem dX4_removeRow_23 : decode cX4_removeRow 23 = .ok (.getfield 7, 3) := by decide +kernel
theorem dX4_removeRow_26 : decode cX4_removeRow 26 = .ok (.isub, 1) := by decide +kernel
theorem dX4_removeRow_27 : decode cX4_removeRow 27 = .ok (.if_icmp .ge 26, 3) := by decide +kernel
theorem dX4_removeRow_30 : decode cX4_removeRow 30 = .ok (.aload_n 0, 1) := by decide +kernel
theorem dX4_removeRow_31 : decode cX4_removeRow 31 = .ok (.getfield 13, 3) := by decide +kernel
theorem dX4_removeRow_34 : decode cX4_removeRow 34 = .ok (.iload_n 2, 1) := by decide +kernel
theorem dX4_removeRow_35 : decode cX4_removeRow 35 = .ok (.aload_n 0, 1) := by decide +kernel
theorem dX4_removeRow_36 : decode cX4_removeRow 36 = .ok (.getfield 13, 3) := by decide +kernel
theorem dX4_removeRow_39 : decode cX4_removeRow 39 = .ok (.iload_n 2, 1) := by decide +kernel
theorem dX4_removeRow_40 : decode cX4_removeRow 40 = .ok (.aload_n 0, 1) := by decide +kernel
theorem dX4_removeRow_41 : decode cX4_removeRow 41 = .ok (.getfield 7, 3) := by decide +kernel
theorem dX4_removeRow_44 : decode cX4_removeRow 44 = .ok (.iadd, 1) := by decide +kernel
theorem dX4_removeRow_45 : decode cX4_removeRow 45 = .ok (.iaload, 1) := by decide +kernel
theorem dX4_removeRow_46 : decode cX4_removeRow 46 = .ok (.iastore, 1) := by decide +kernel
theorem dX4_removeRow_47 : decode cX4_removeRow 47 = .ok (.iinc 2 1, 3) := by decide +kernel
theorem dX4_removeRow_50 : decode cX4_removeRow 50 = .ok (.goto (-34), 3) := by decide +kernel
theorem dX4_removeRow_53 : decode cX4_removeRow 53 = .ok (.aload_n 0, 1) := by decide +kernel
theorem dX4_removeRow_54 : decode cX4_removeRow 54 = .ok (.dup, 1) := by decide +kernel
theorem dX4_removeRow_55 : decode cX4_removeRow 55 = .ok (.getfield 17, 3) := by decide +kernel
theorem dX4_removeRow_58 : decode cX4_removeRow 58 = .ok (.iconst 1, 1) := by decide +kernel
theorem dX4_removeRow_59 : decode cX4_removeRow 59 = .ok (.isub, 1) := by decide +kernel
theorem dX4_removeRow_60 : decode cX4_removeRow 60 = .ok (.putfield 17, 3) := by decide +kernel
theorem dX4_removeRow_63 : decode cX4_removeRow 63 = .ok (.return_, 1) := by decide +kernel
set_option maxRecDepth 20000 in
theorem ggX4_rowsWith_X4_get : GoodIn wsX4_rowsWith wsX4_get := goodIn_r _ [6, 1, 7, 8, 9, 10, 11] (by decide +kernel) (by decide +kernel)
set_option maxRecDepth 20000 in
theorem gX4_rowsWith_X4_get : GoodIn wsX4_rowsWith (wsV RX4 24 RX4 yX4_get wsX4_get) := goodIn_app (goodIn_of _ (by decide +kernel)) ggX4_rowsWith_X4_get
theorem dX4_rowsWith_0 : decode cX4_rowsWith 0 = .ok (.iconst 0, 1) := by decide +kernel
theorem dX4_rowsWith_1 : decode cX4_rowsWith 1 = .ok (.istore_n 3, 1) := by decide +kernel
theorem dX4_rowsWith_2 : decode cX4_rowsWith 2 = .ok (.iconst 0, 1) := by decide +kernel
theorem dX4_rowsWith_3 : decode cX4_rowsWith 3 = .ok (.istore 4, 2) := by decide +kernel
theorem dX4_rowsWith_5 : decode cX4_rowsWith 5 = .ok (.iload 4, 2) := by decide +kernel
theorem dX4_rowsWith_7 : decode cX4_rowsWith 7 = .ok (.aload_n 0, 1) := by decide +kernel
theorem dX4_rowsWith_8 : decode cX4_rowsWith 8 = .ok (.getfield 17, 3) := by decide +kernel
theorem dX4_rowsWith_11 : decode cX4_rowsWith 11 = .ok (.if_icmp .ge 23, 3) := by decide +kernel
theorem dX4_rowsWith_14 : decode cX4_rowsWith 14 = .ok (.aload_n 0, 1) := by decide +kernel
theorem dX4_rowsWith_15 : decode cX4_rowsWith 15 = .ok (.iload 4, 2) := by decide +kernel
theorem dX4_rowsWith_17 : decode cX4_rowsWith 17 = .ok (.iload_n 1, 1) := by decide +kernel
theorem dX4_rowsWith_18 : decode cX4_rowsWith 18 = .ok (.invokevirtual 24, 3) := by decide +kernel
theorem dX4_rowsWith_21 : decode cX4_rowsWith 21 = .ok (.iload_n 2, 1) := by decide +kernel
theorem dX4_rowsWith_22 : decode cX4_rowsWith 22 = .ok (.if_icmp .ne 6, 3) := by decide +kernel
theorem dX4_rowsWith_25 : decode cX4_rowsWith 25 = .ok (.iinc 3 1, 3) := by decide +kernel
theorem dX4_rowsWith_28 : decode cX4_rowsWith 28 = .ok (.iinc 4 1, 3) := by decide +kernel
theorem dX4_rowsWith_31 : decode cX4_rowsWith 31 = .ok (.goto (-26), 3) := by decide +kernel
theorem dX4_rowsWith_34 : decode cX4_rowsWith 34 = .ok (.iload_n 3, 1) := by decide +kernel
theorem dX4_rowsWith_35 : decode cX4_rowsWith 35 = .ok (.ireturn, 1) := by decide +kernel
set_option maxRecDepth 20000 in
theorem ggX4_sumOf_X4_get : GoodIn wsX4_sumOf wsX4_get := goodIn_r _ [6, 1, 7, 8, 9, 10, 11] (by decide +kernel) (by decide +kernel)
set_option maxRecDepth 20000 in
theorem gX4_sumOf_X4_get : GoodIn wsX4_sumOf (wsV RX4 24 RX4 yX4_get wsX4_get) := goodIn_app (goodIn_of _ (by decide +kernel)) ggX4_sumOf_X4_get
theorem dX4_sumOf_0 : decode cX4_sumOf 0 = .ok (.iconst 0, 1) := by decide +kernel
theorem dX4_sumOf_1 : decode cX4_sumOf 1 = .ok (.istore_n 2, 1) := by decide +kernel
theorem dX4_sumOf_2 : decode cX4_sumOf 2 = .ok (.iconst 0, 1) := by decide +kernel
theorem dX4_sumOf_3 : decode cX4_sumOf 3 = .ok (.istore_n 3, 1) := by decide +kernel
theorem dX4_sumOf_4 : decode cX4_sumOf 4 = .ok (.iload_n 3, 1) := by decide +kernel
theorem dX4_sumOf_5 : decode cX4_sumOf 5 = .ok (.aload_n 0, 1) := by decide +kernel
theorem dX4_sumOf_6 : decode cX4_sumOf 6 = .ok (.getfield 17, 3) := by decide +kernel
theorem dX4_sumOf_9 : decode cX4_sumOf 9 = .ok (.if_icmp .ge 18, 3) := by decide +kernel
theorem dX4_sumOf_12 : decode cX4_sumOf 12 = .ok (.iload_n 2, 1) := by decide +kernel
theorem dX4_sumOf_13 : decode cX4_sumOf 13 = .ok (.aload_n 0, 1) := by decide +kernel
theorem dX4_sumOf_14 : decode cX4_sumOf 14 = .ok (.iload_n 3, 1) := by decide +kernel
theorem dX4_sumOf_15 : decode cX4_sumOf 15 = .ok (.iload_n 1, 1) := by decide +kernel
theorem dX4_sumOf_16 : decode cX4_sumOf 16 = .ok (.invokevirtual 24, 3) := by decide +kernel
theorem dX4_sumOf_19 : decode cX4_sumOf 19 = .ok (.iadd, 1) := by decide +kernel
theorem dX4_sumOf_20 : decode cX4_sumOf 20 = .ok (.istore_n 2, 1) := by decide +kernel
theorem dX4_sumOf_21 : decode cX4_sumOf 21 = .ok (.iinc 3 1, 3) := by decide +kernel
theorem dX4_sumOf_24 : decode cX4_sumOf 24 = .ok (.goto (-20), 3) := by decide +kernel
theorem dX4_sumOf_27 : decode cX4_sumOf 27 = .ok (.iload_n 2, 1) := by decide +kernel
theorem dX4_sumOf_28 : decode cX4_sumOf 28 = .ok (.ireturn, 1) := by decide +kernel
theorem dX4_removeAll_0 : decode cX4_removeAll 0 = .ok (.aload_n 0, 1) := by decide +kernel
theorem dX4_removeAll_1 : decode cX4_removeAll 1 = .ok (.iconst 0, 1) := by decide +kernel
theorem dX4_removeAll_2 : decode cX4_removeAll 2 = .ok (.putfield 17, 3) := by decide +kernel
theorem dX4_removeAll_5 : decode cX4_removeAll 5 = .ok (.return_, 1) := by decide +kernel
theorem dX4_copyFrom_0 : decode cX4_copyFrom 0 = .ok (.aload_n 1, 1) := by decide +kernel
theorem dX4_copyFrom_1 : decode cX4_copyFrom 1 = .ok (.getfield 13, 3) := by decide +kernel
theorem dX4_copyFrom_4 : decode cX4_copyFrom 4 = .ok (.iconst 0, 1) := by decide +kernel
theorem dX4_copyFrom_5 : decode cX4_copyFrom 5 = .ok (.aload_n 0, 1) := by decide +kernel
theorem dX4_copyFrom_6 : decode cX4_copyFrom 6 = .ok (.getfield 13, 3) := by decide +kernel
theorem dX4_copyFrom_9 : decode cX4_copyFrom 9 = .ok (.iconst 0, 1) := by decide +kernel
theorem dX4_copyFrom_10 : decode cX4_copyFrom 10 = .ok (.aload_n 0, 1) := by decide +kernel
theorem dX4_copyFrom_11 : decode cX4_copyFrom 11 = .ok (.getfield 13, 3) := by decide +kernel
theorem dX4_copyFrom_14 : decode cX4_copyFrom 14 = .ok (.arraylength, 1) := by decide +kernel
theorem dX4_copyFrom_15 : decode cX4_copyFrom 15 = .ok (.aload_n 1, 1) := by decide +kernel
theorem dX4_copyFrom_16 : decode cX4_copyFrom 16 = .ok (.getfield 13, 3) := by decide +kernel
theorem dX4_copyFrom_19 : decode cX4_copyFrom 19 = .ok (.arraylength, 1) := by decide +kernel
theorem dX4_copyFrom_20 : decode cX4_copyFrom 20 = .ok (.invokestatic 28, 3) := by decide +kernel
theorem dX4_copyFrom_23 : decode cX4_copyFrom 23 = .ok (.invokestatic 33, 3) := by decide +kernel
theorem dX4_copyFrom_26 : decode cX4_copyFrom 26 = .ok (.aload_n 0, 1) := by decide +kernel
theorem dX4_copyFrom_27 : decode cX4_copyFrom 27 = .ok (.aload_n 1, 1) := by decide +kernel
theorem dX4_copyFrom_28 : decode cX4_copyFrom 28 = .ok (.getfield 17, 3) := by decide +kernel
theorem dX4_copyFrom_31 : decode cX4_copyFrom 31 = .ok (.putfield 17, 3) := by decide +kernel
theorem dX4_copyFrom_34 : decode cX4_copyFrom 34 = .ok (.return_, 1) := by decide +kernel
set_option maxRecDepth 20000 in
theorem ggX5_init_X2_init : GoodIn wsX5_init wsX2_init := goodIn_r _ [24, 25, 2, 3, 26, 27, 28, 29, 30, 31, 32, 33, 34, 35, 36, 37, 38, 39, 40, 41, 6, 42, 97, 98, 99, 61, 62, 63, 64, 65] (by decide +kernel) (by decide +kernel)
set_option maxRecDepth 20000 in
theorem gX5_init_X2_init : GoodIn wsX5_init (wsX2_init) := ggX5_init_X2_init
set_option maxRecDepth 20000 in
theorem ggX5_init_X0_init : GoodIn wsX5_init wsX0_init := goodIn_r _ [44, 45, 2, 3, 46, 5, 6, 47, 48, 49, 50, 51, 23, 24, 25, 26, 27, 28, 29, 30, 31, 32, 33, 34, 35, 36, 37, 38, 39, 40, 41, 42, 61, 62, 63, 64, 65, 73, 74, 75, 76, 77, 97, 98, 99] (by decide +kernel) (by decide +kernel)
set_option maxRecDepth 20000 in
theorem gX5_init_X0_init_n24 : GoodIn wsX5_init (wsX0_init) := ggX5_init_X0_init
set_option maxRecDepth 20000 in
theorem ggX5_init_X1_init : GoodIn wsX5_init wsX1_init := goodIn_r _ [53, 54, 2, 3, 55, 56, 78, 79, 80, 81, 82, 83, 84, 85, 86, 87, 88, 89, 90, 91] (by decide +kernel) (by decide +kernel)
set_option maxRecDepth 20000 in
theorem gX5_init_X1_init_n31 : GoodIn wsX5_init (wsX1_init) := ggX5_init_X1_init
set_option maxRecDepth 20000 in
theorem ggX5_init_X3_init : GoodIn wsX5_init wsX3_init := goodIn_r _ [58, 59, 2, 3, 31, 60, 92, 93, 94, 95, 96] (by decide +kernel) (by decide +kernel)
set_option maxRecDepth 20000 in
theorem gX5_init_X3_init_n38 : GoodIn wsX5_init (wsX3_init) := ggX5_init_X3_init
theorem dX5_init_0 : decode cX5_init 0 = .ok (.aload_n 0, 1) := by decide +kernel
theorem dX5_init_1 : decode cX5_init 1 = .ok (.invokespecial 1, 3) := by decide +kernel
theorem dX5_init_4 : decode cX5_init 4 = .ok (.aload_n 0, 1) := by decide +kernel
theorem dX5_init_5 : decode cX5_init 5 = .ok (.new 7, 3) := by decide +kernel
theorem dX5_init_8 : decode cX5_init 8 = .ok (.dup, 1) := by decide +kernel
theorem dX5_init_9 : decode cX5_init 9 = .ok (.invokespecial 9, 3) := by decide +kernel
theorem dX5_init_12 : decode cX5_init 12 = .ok (.putfield 10, 3) := by decide +kernel
theorem dX5_init_15 : decode cX5_init 15 = .ok (.aload_n 0, 1) := by decide +kernel
theorem dX5_init_16 : decode cX5_init 16 = .ok (.new 7, 3) := by decide +kernel
theorem dX5_init_19 : decode cX5_init 19 = .ok (.dup, 1) := by decide +kernel
theorem dX5_init_20 : decode cX5_init 20 = .ok (.invokespecial 9, 3) := by decide +kernel
theorem dX5_init_23 : decode cX5_init 23 = .ok (.putfield 16, 3) := by decide +kernel
theorem dX5_init_26 : decode cX5_init 26 = .ok (.aload_n 0, 1) := by decide +kernel
theorem dX5_init_27 : decode cX5_init 27 = .ok (.new 7, 3) := by decide +kernel
theorem dX5_init_30 : decode cX5_init 30 = .ok (.dup, 1) := by decide +kernel
theorem dX5_init_31 : decode cX5_init 31 = .ok (.invokespecial 9, 3) := by decide +kernel
theorem dX5_init_34 : decode cX5_init 34 = .ok (.putfield 19, 3) := by decide +kernel
theorem dX5_init_37 : decode cX5_init 37 = .ok (.aload_n 0, 1) := by decide +kernel
theorem dX5_init_38 : decode cX5_init 38 = .ok (.new 22, 3) := by decide +kernel
theorem dX5_init_41 : decode cX5_init 41 = .ok (.dup, 1) := by decide +kernel
theorem dX5_init_42 : decode cX5_init 42 = .ok (.invokespecial 24, 3) := by decide +kernel
theorem dX5_init_45 : decode cX5_init 45 = .ok (.putfield 25, 3) := by decide +kernel
theorem dX5_init_48 : decode cX5_init 48 = .ok (.aload_n 0, 1) := by decide +kernel
theorem dX5_init_49 : decode cX5_init 49 = .ok (.new 29, 3) := by decide +kernel
theorem dX5_init_52 : decode cX5_init 52 = .ok (.dup, 1) := by decide +kernel
theorem dX5_init_53 : decode cX5_init 53 = .ok (.invokespecial 31, 3) := by decide +kernel
theorem dX5_init_56 : decode cX5_init 56 = .ok (.putfield 32, 3) := by decide +kernel
theorem dX5_init_59 : decode cX5_init 59 = .ok (.aload_n 0, 1) := by decide +kernel
theorem dX5_init_60 : decode cX5_init 60 = .ok (.new 36, 3) := by decide +kernel
theorem dX5_init_63 : decode cX5_init 63 = .ok (.dup, 1) := by decide +kernel
theorem dX5_init_64 : decode cX5_init 64 = .ok (.invokespecial 38, 3) := by decide +kernel
theorem dX5_init_67 : decode cX5_init 67 = .ok (.putfield 39, 3) := by decide +kernel
theorem dX5_init_70 : decode cX5_init 70 = .ok (.return_, 1) := by decide +kernel
set_option maxRecDepth 20000 in
theorem ggX5_zone_X5_within : GoodIn wsX5_zone wsX5_within := goodIn_r _ [6] (by decide +kernel) (by decide +kernel)
set_option maxRecDepth 20000 in
theorem gX5_zone_X5_within : GoodIn wsX5_zone (va_wsS RX5 43 yX5_within wsX5_within) := goodIn_app (goodIn_of _ (by decide +kernel)) ggX5_zone_X5_within
set_option maxRecDepth 20000 in
theorem ggX5_zone_X4_rows : GoodIn wsX5_zone wsX4_rows := goodIn_r _ [11, 12, 81, 82, 83] (by decide +kernel) (by decide +kernel)
set_option maxRecDepth 20000 in
theorem gX5_zone_X4_rows : GoodIn wsX5_zone (wsV RX5 51 RX4 yX4_rows wsX4_rows) := goodIn_app (goodIn_of _ (by decide +kernel)) ggX5_zone_X4_rows
set_option maxRecDepth 20000 in
theorem ggX5_zone_X0_record : GoodIn wsX5_zone wsX0_record := goodIn_r _ [17, 18, 19, 20, 21, 22, 23, 24, 25, 16, 26, 27, 28, 29, 30, 31, 32, 33, 34, 35, 36, 37, 38, 39, 40, 41, 42, 43, 44, 45, 46, 47, 10, 48, 49, 50, 51, 12, 84, 85, 86, 87, 88, 76, 77, 78, 79, 80, 81, 82, 83] (by decide +kernel) (by decide +kernel)
set_option maxRecDepth 20000 in
theorem gX5_zone_X0_record : GoodIn wsX5_zone (wsV RX5 57 RX0 yX0_record wsX0_record) := goodIn_app (goodIn_of _ (by decide +kernel)) ggX5_zone_X0_record
set_option maxRecDepth 20000 in
theorem ggX5_zone_X2_addZone : GoodIn wsX5_zone wsX2_addZone := goodIn_r _ [55, 32, 56, 57, 58, 10, 59, 12, 60, 49, 61, 62, 63, 64, 65, 66, 67, 30, 68, 76, 77, 78, 79, 80, 81, 82, 83] (by decide +kernel) (by decide +kernel)
set_option maxRecDepth 20000 in
theorem gX5_zone_X2_addZone : GoodIn wsX5_zone (wsV RX5 61 RX2 yX2_addZone wsX2_addZone) := goodIn_app (goodIn_of _ (by decide +kernel)) ggX5_zone_X2_addZone
theorem dX5_zone_0 : decode cX5_zone 0 = .ok (.iload_n 1, 1) := by decide +kernel
theorem dX5_zone_1 : decode cX5_zone 1 = .ok (.iconst 0, 1) := by decide +kernel
theorem dX5_zone_2 : decode cX5_zone 2 = .ok (.bipush 35, 2) := by decide +kernel
theorem dX5_zone_4 : decode cX5_zone 4 = .ok (.invokestatic 43, 3) := by decide +kernel
theorem dX5_zone_7 : decode cX5_zone 7 = .ok (.ifCond .eq 13, 3) := by decide +kernel
theorem dX5_zone_10 : decode cX5_zone 10 = .ok (.iload_n 2, 1) := by decide +kernel
theorem dX5_zone_11 : decode cX5_zone 11 = .ok (.iload_n 1, 1) := by decide +kernel
theorem dX5_zone_12 : decode cX5_zone 12 = .ok (.bipush 35, 2) := by decide +kernel
theorem dX5_zone_14 : decode cX5_zone 14 = .ok (.invokestatic 43, 3) := by decide +kernel
theorem dX5_zone_17 : decode cX5_zone 17 = .ok (.ifCond .ne 5, 3) := by decide +kernel
theorem dX5_zone_20 : decode cX5_zone 20 = .ok (.iconst (-1), 1) := by decide +kernel
theorem dX5_zone_21 : decode cX5_zone 21 = .ok (.ireturn, 1) := by decide +kernel
theorem dX5_zone_22 : decode cX5_zone 22 = .ok (.iload_n 3, 1) := by decide +kernel
theorem dX5_zone_23 : decode cX5_zone 23 = .ok (.iconst 1, 1) := by decide +kernel
theorem dX5_zone_24 : decode cX5_zone 24 = .ok (.bipush 9, 2) := by decide +kernel
theorem dX5_zone_26 : decode cX5_zone 26 = .ok (.invokestatic 43, 3) := by decide +kernel
theorem dX5_zone_29 : decode cX5_zone 29 = .ok (.ifCond .eq 14, 3) := by decide +kernel
theorem dX5_zone_32 : decode cX5_zone 32 = .ok (.iload 4, 2) := by decide +kernel
theorem dX5_zone_34 : decode cX5_zone 34 = .ok (.iload_n 3, 1) := by decide +kernel
theorem dX5_zone_35 : decode cX5_zone 35 = .ok (.bipush 9, 2) := by decide +kernel
theorem dX5_zone_37 : decode cX5_zone 37 = .ok (.invokestatic 43, 3) := by decide +kernel
theorem dX5_zone_40 : decode cX5_zone 40 = .ok (.ifCond .ne 5, 3) := by decide +kernel
theorem dX5_zone_43 : decode cX5_zone 43 = .ok (.iconst (-1), 1) := by decide +kernel
theorem dX5_zone_44 : decode cX5_zone 44 = .ok (.ireturn, 1) := by decide +kernel
theorem dX5_zone_45 : decode cX5_zone 45 = .ok (.aload_n 0, 1) := by decide +kernel
theorem dX5_zone_46 : decode cX5_zone 46 = .ok (.getfield 10, 3) := by decide +kernel
theorem dX5_zone_49 : decode cX5_zone 49 = .ok (.getfield 47, 3) := by decide +kernel
theorem dX5_zone_52 : decode cX5_zone 52 = .ok (.invokevirtual 51, 3) := by decide +kernel
theorem dX5_zone_55 : decode cX5_zone 55 = .ok (.bipush 10, 2) := by decide +kernel
theorem dX5_zone_57 : decode cX5_zone 57 = .ok (.if_icmp .lt 6, 3) := by decide +kernel
theorem dX5_zone_60 : decode cX5_zone 60 = .ok (.bipush (-3), 2) := by decide +kernel
theorem dX5_zone_62 : decode cX5_zone 62 = .ok (.ireturn, 1) := by decide +kernel
theorem dX5_zone_63 : decode cX5_zone 63 = .ok (.aload_n 0, 1) := by decide +kernel
theorem dX5_zone_64 : decode cX5_zone 64 = .ok (.getfield 25, 3) := by decide +kernel
theorem dX5_zone_67 : decode cX5_zone 67 = .ok (.aload_n 0, 1) := by decide +kernel
theorem dX5_zone_68 : decode cX5_zone 68 = .ok (.getfield 10, 3) := by decide +kernel
theorem dX5_zone_71 : decode cX5_zone 71 = .ok (.invokevirtual 57, 3) := by decide +kernel
theorem dX5_zone_74 : decode cX5_zone 74 = .ok (.aload_n 0, 1) := by decide +kernel
theorem dX5_zone_75 : decode cX5_zone 75 = .ok (.getfield 10, 3) := by decide +kernel
theorem dX5_zone_78 : decode cX5_zone 78 = .ok (.iload_n 1, 1) := by decide +kernel
theorem dX5_zone_79 : decode cX5_zone 79 = .ok (.iload_n 2, 1) := by decide +kernel
theorem dX5_zone_80 : decode cX5_zone 80 = .ok (.iload_n 3, 1) := by decide +kernel
theorem dX5_zone_81 : decode cX5_zone 81 = .ok (.iload 4, 2) := by decide +kernel
theorem dX5_zone_83 : decode cX5_zone 83 = .ok (.invokevirtual 61, 3) := by decide +kernel
theorem dX5_zone_86 : decode cX5_zone 86 = .ok (.ireturn, 1) := by decide +kernel
set_option maxRecDepth 20000 in
theorem ggX5_like_X4_has : GoodIn wsX5_like wsX4_has := goodIn_r _ [7, 8, 81, 82, 83] (by decide +kernel) (by decide +kernel)
set_option maxRecDepth 20000 in
theorem gX5_like_X4_has : GoodIn wsX5_like (wsV RX5 65 RX4 yX4_has wsX4_has) := goodIn_app (goodIn_of _ (by decide +kernel)) ggX5_like_X4_has
set_option maxRecDepth 20000 in
theorem ggX5_like_X5_within : GoodIn wsX5_like wsX5_within := goodIn_r _ [12] (by decide +kernel) (by decide +kernel)
set_option maxRecDepth 20000 in
theorem gX5_like_X5_within : GoodIn wsX5_like (va_wsS RX5 43 yX5_within wsX5_within) := goodIn_app (goodIn_of _ (by decide +kernel)) ggX5_like_X5_within
set_option maxRecDepth 20000 in
theorem ggX5_like_X0_record : GoodIn wsX5_like wsX0_record := goodIn_r _ [17, 18, 19, 20, 21, 22, 23, 24, 25, 16, 26, 27, 28, 29, 30, 31, 32, 33, 34, 35, 36, 37, 38, 39, 40, 41, 42, 43, 44, 45, 46, 47, 6, 48, 49, 50, 51, 8, 84, 85, 86, 87, 88, 76, 77, 78, 79, 80, 81, 82, 83] (by decide +kernel) (by decide +kernel)
set_option maxRecDepth 20000 in
theorem gX5_like_X0_record : GoodIn wsX5_like (wsV RX5 57 RX0 yX0_record wsX0_record) := goodIn_app (goodIn_of _ (by decide +kernel)) ggX5_like_X0_record
set_option maxRecDepth 20000 in
theorem ggX5_like_X2_shapeZone : GoodIn wsX5_like wsX2_shapeZone := goodIn_r _ [55, 32, 56, 57, 58, 6, 59, 8, 60, 49, 76, 77, 78, 79, 80, 81, 82, 83] (by decide +kernel) (by decide +kernel)
set_option maxRecDepth 20000 in
theorem gX5_like_X2_shapeZone : GoodIn wsX5_like (wsV RX5 69 RX2 yX2_shapeZone wsX2_shapeZone) := goodIn_app (goodIn_of _ (by decide +kernel)) ggX5_like_X2_shapeZone
set_option maxRecDepth 20000 in
theorem ggX5_like_X4_rowsWith : GoodIn wsX5_like wsX4_rowsWith := goodIn_r _ [64, 8, 65, 66, 67, 6, 68, 60, 49, 81, 82, 83] (by decide +kernel) (by decide +kernel)
set_option maxRecDepth 20000 in
theorem gX5_like_X4_rowsWith : GoodIn wsX5_like (wsV RX5 73 RX4 yX4_rowsWith wsX4_rowsWith) := goodIn_app (goodIn_of _ (by decide +kernel)) ggX5_like_X4_rowsWith
theorem dX5_like_0 : decode cX5_like 0 = .ok (.aload_n 0, 1) := by decide +kernel
theorem dX5_like_1 : decode cX5_like 1 = .ok (.getfield 10, 3) := by decide +kernel
theorem dX5_like_4 : decode cX5_like 4 = .ok (.getfield 47, 3) := by decide +kernel
theorem dX5_like_7 : decode cX5_like 7 = .ok (.iload_n 1, 1) := by decide +kernel
theorem dX5_like_8 : decode cX5_like 8 = .ok (.invokevirtual 65, 3) := by decide +kernel
theorem dX5_like_11 : decode cX5_like 11 = .ok (.ifCond .eq 12, 3) := by decide +kernel
theorem dX5_like_14 : decode cX5_like 14 = .ok (.iload_n 2, 1) := by decide +kernel
theorem dX5_like_15 : decode cX5_like 15 = .ok (.iconst 0, 1) := by decide +kernel
theorem dX5_like_16 : decode cX5_like 16 = .ok (.iconst 3, 1) := by decide +kernel
theorem dX5_like_17 : decode cX5_like 17 = .ok (.invokestatic 43, 3) := by decide +kernel
theorem dX5_like_20 : decode cX5_like 20 = .ok (.ifCond .ne 5, 3) := by decide +kernel
theorem dX5_like_23 : decode cX5_like 23 = .ok (.iconst (-1), 1) := by decide +kernel
theorem dX5_like_24 : decode cX5_like 24 = .ok (.ireturn, 1) := by decide +kernel
theorem dX5_like_25 : decode cX5_like 25 = .ok (.iload_n 3, 1) := by decide +kernel
theorem dX5_like_26 : decode cX5_like 26 = .ok (.iconst 0, 1) := by decide +kernel
theorem dX5_like_27 : decode cX5_like 27 = .ok (.iconst 4, 1) := by decide +kernel
theorem dX5_like_28 : decode cX5_like 28 = .ok (.invokestatic 43, 3) := by decide +kernel
theorem dX5_like_31 : decode cX5_like 31 = .ok (.ifCond .eq 14, 3) := by decide +kernel
theorem dX5_like_34 : decode cX5_like 34 = .ok (.iload 4, 2) := by decide +kernel
theorem dX5_like_36 : decode cX5_like 36 = .ok (.iconst 1, 1) := by decide +kernel
theorem dX5_like_37 : decode cX5_like 37 = .ok (.bipush 60, 2) := by decide +kernel
theorem dX5_like_39 : decode cX5_like 39 = .ok (.invokestatic 43, 3) := by decide +kernel
theorem dX5_like_42 : decode cX5_like 42 = .ok (.ifCond .ne 5, 3) := by decide +kernel
theorem dX5_like_45 : decode cX5_like 45 = .ok (.iconst (-1), 1) := by decide +kernel
theorem dX5_like_46 : decode cX5_like 46 = .ok (.ireturn, 1) := by decide +kernel
theorem dX5_like_47 : decode cX5_like 47 = .ok (.aload_n 0, 1) := by decide +kernel
theorem dX5_like_48 : decode cX5_like 48 = .ok (.getfield 25, 3) := by decide +kernel
theorem dX5_like_51 : decode cX5_like 51 = .ok (.aload_n 0, 1) := by decide +kernel
theorem dX5_like_52 : decode cX5_like 52 = .ok (.getfield 10, 3) := by decide +kernel
theorem dX5_like_55 : decode cX5_like 55 = .ok (.invokevirtual 57, 3) := by decide +kernel
theorem dX5_like_58 : decode cX5_like 58 = .ok (.aload_n 0, 1) := by decide +kernel
theorem dX5_like_59 : decode cX5_like 59 = .ok (.getfield 10, 3) := by decide +kernel
theorem dX5_like_62 : decode cX5_like 62 = .ok (.iload_n 1, 1) := by decide +kernel
theorem dX5_like_63 : decode cX5_like 63 = .ok (.iload_n 2, 1) := by decide +kernel
theorem dX5_like_64 : decode cX5_like 64 = .ok (.iload_n 3, 1) := by decide +kernel
theorem dX5_like_65 : decode cX5_like 65 = .ok (.iload 4, 2) := by decide +kernel
theorem dX5_like_67 : decode cX5_like 67 = .ok (.invokevirtual 69, 3) := by decide +kernel
theorem dX5_like_70 : decode cX5_like 70 = .ok (.iload_n 2, 1) := by decide +kernel
theorem dX5_like_71 : decode cX5_like 71 = .ok (.ifCond .ne 7, 3) := by decide +kernel
theorem dX5_like_74 : decode cX5_like 74 = .ok (.iconst 0, 1) := by decide +kernel
theorem dX5_like_75 : decode cX5_like 75 = .ok (.goto 15, 3) := by decide +kernel
theorem dX5_like_78 : decode cX5_like 78 = .ok (.aload_n 0, 1) := by decide +kernel
theorem dX5_like_79 : decode cX5_like 79 = .ok (.getfield 10, 3) := by decide +kernel
theorem dX5_like_82 : decode cX5_like 82 = .ok (.getfield 47, 3) := by decide +kernel
theorem dX5_like_85 : decode cX5_like 85 = .ok (.iconst 4, 1) := by decide +kernel
theorem dX5_like_86 : decode cX5_like 86 = .ok (.iload_n 2, 1) := by decide +kernel
theorem dX5_like_87 : decode cX5_like 87 = .ok (.invokevirtual 73, 3) := by decide +kernel
theorem dX5_like_90 : decode cX5_like 90 = .ok (.ireturn, 1) := by decide +kernel
set_option maxRecDepth 20000 in
theorem ggX5_takeZone_X4_has : GoodIn wsX5_takeZone wsX4_has := goodIn_r _ [7, 8, 94, 95, 96] (by decide +kernel) (by decide +kernel)
set_option maxRecDepth 20000 in
theorem gX5_takeZone_X4_has : GoodIn wsX5_takeZone (wsV RX5 65 RX4 yX4_has wsX4_has) := goodIn_app (goodIn_of _ (by decide +kernel)) ggX5_takeZone_X4_has
set_option maxRecDepth 20000 in
theorem ggX5_takeZone_X0_record : GoodIn wsX5_takeZone wsX0_record := goodIn_r _ [13, 14, 15, 16, 17, 18, 19, 20, 21, 12, 22, 23, 24, 25, 26, 27, 28, 29, 30, 31, 32, 33, 34, 35, 36, 37, 38, 39, 40, 41, 42, 43, 6, 44, 45, 46, 47, 8, 97, 98, 99, 100, 101, 89, 90, 91, 92, 93, 94, 95, 96] (by decide +kernel) (by decide +kernel)
set_option maxRecDepth 20000 in
theorem gX5_takeZone_X0_record : GoodIn wsX5_takeZone (wsV RX5 57 RX0 yX0_record wsX0_record) := goodIn_app (goodIn_of _ (by decide +kernel)) ggX5_takeZone_X0_record
set_option maxRecDepth 20000 in
theorem ggX5_takeZone_X2_dropZone : GoodIn wsX5_takeZone wsX2_dropZone := goodIn_r _ [51, 29, 28, 52, 53, 54, 6, 55, 8, 56, 57, 58, 59, 60, 45, 61, 62, 63, 64, 65, 4, 5, 7, 66, 67, 68, 69, 70, 71, 72, 26, 73, 74, 75, 76, 77, 30, 78, 79, 80, 81, 89, 90, 91, 92, 93, 94, 95, 96] (by decide +kernel) (by decide +kernel)
set_option maxRecDepth 20000 in
theorem gX5_takeZone_X2_dropZone : GoodIn wsX5_takeZone (wsV RX5 77 RX2 yX2_dropZone wsX2_dropZone) := goodIn_app (goodIn_of _ (by decide +kernel)) ggX5_takeZone_X2_dropZone
theorem dX5_takeZone_0 : decode cX5_takeZone 0 = .ok (.aload_n 0, 1) := by decide +kernel
theorem dX5_takeZone_1 : decode cX5_takeZone 1 = .ok (.getfield 10, 3) := by decide +kernel
theorem dX5_takeZone_4 : decode cX5_takeZone 4 = .ok (.getfield 47, 3) := by decide +kernel
theorem dX5_takeZone_7 : decode cX5_takeZone 7 = .ok (.iload_n 1, 1) := by decide +kernel
theorem dX5_takeZone_8 : decode cX5_takeZone 8 = .ok (.invokevirtual 65, 3) := by decide +kernel
theorem dX5_takeZone_11 : decode cX5_takeZone 11 = .ok (.ifCond .ne 5, 3) := by decide +kernel
theorem dX5_takeZone_14 : decode cX5_takeZone 14 = .ok (.iconst (-1), 1) := by decide +kernel
theorem dX5_takeZone_15 : decode cX5_takeZone 15 = .ok (.ireturn, 1) := by decide +kernel
theorem dX5_takeZone_16 : decode cX5_takeZone 16 = .ok (.aload_n 0, 1) := by decide +kernel
theorem dX5_takeZone_17 : decode cX5_takeZone 17 = .ok (.getfield 25, 3) := by decide +kernel
theorem dX5_takeZone_20 : decode cX5_takeZone 20 = .ok (.aload_n 0, 1) := by decide +kernel
theorem dX5_takeZone_21 : decode cX5_takeZone 21 = .ok (.getfield 10, 3) := by decide +kernel
theorem dX5_takeZone_24 : decode cX5_takeZone 24 = .ok (.invokevirtual 57, 3) := by decide +kernel
theorem dX5_takeZone_27 : decode cX5_takeZone 27 = .ok (.aload_n 0, 1) := by decide +kernel
theorem dX5_takeZone_28 : decode cX5_takeZone 28 = .ok (.getfield 10, 3) := by decide +kernel
theorem dX5_takeZone_31 : decode cX5_takeZone 31 = .ok (.iload_n 1, 1) := by decide +kernel
theorem dX5_takeZone_32 : decode cX5_takeZone 32 = .ok (.invokevirtual 77, 3) := by decide +kernel
theorem dX5_takeZone_35 : decode cX5_takeZone 35 = .ok (.ireturn, 1) := by decide +kernel
set_option maxRecDepth 20000 in
theorem ggX5_hit_X5_isNote : GoodIn wsX5_hit wsX5_isNote := goodIn_r _ [6, 7, 8, 5, 9] (by decide +kernel) (by decide +kernel)
set_option maxRecDepth 20000 in
theorem gX5_hit_X5_isNote : GoodIn wsX5_hit (va_wsS RX5 81 yX5_isNote wsX5_isNote) := goodIn_app (goodIn_of _ (by decide +kernel)) ggX5_hit_X5_isNote
set_option maxRecDepth 20000 in
theorem ggX5_hit_X0_record : GoodIn wsX5_hit wsX0_record := goodIn_r _ [14, 15, 16, 17, 18, 19, 20, 21, 22, 13, 23, 24, 25, 26, 27, 28, 29, 30, 31, 32, 33, 34, 35, 36, 37, 38, 39, 40, 41, 42, 43, 44, 45, 46, 47, 48, 49, 50, 131, 132, 133, 134, 135, 136, 137, 138, 139, 140, 141, 142, 143] (by decide +kernel) (by decide +kernel)
set_option maxRecDepth 20000 in
theorem gX5_hit_X0_record : GoodIn wsX5_hit (wsV RX5 57 RX0 yX0_record wsX0_record) := goodIn_app (goodIn_of _ (by decide +kernel)) ggX5_hit_X0_record
set_option maxRecDepth 20000 in
theorem ggX5_hit_X2_strike : GoodIn wsX5_hit wsX2_strike := goodIn_r _ [54, 41, 29, 55, 56, 57, 27, 58, 30, 59, 60, 61, 45, 62, 50, 63, 64, 65, 66, 67, 47, 68, 69, 70, 71, 72, 73, 74, 75, 76, 77, 78, 79, 80, 81, 82, 83, 31, 84, 85, 86, 87, 88, 89, 90, 91, 92, 93, 94, 95, 96, 97, 98, 99, 100, 101, 102, 103, 104, 105, 106, 107, 108, 109, 110, 111, 112, 113, 114, 115, 116, 117, 118, 119, 120, 121, 122, 123, 136, 137, 138, 139, 140, 141, 142, 143] (by decide +kernel) (by decide +kernel)
set_option maxRecDepth 20000 in
theorem gX5_hit_X2_strike : GoodIn wsX5_hit (wsV RX5 85 RX2 yX2_strike wsX2_strike) := goodIn_app (goodIn_of _ (by decide +kernel)) ggX5_hit_X2_strike
theorem dX5_hit_0 : decode cX5_hit 0 = .ok (.iload_n 1, 1) := by decide +kernel
theorem dX5_hit_1 : decode cX5_hit 1 = .ok (.iload_n 2, 1) := by decide +kernel
theorem dX5_hit_2 : decode cX5_hit 2 = .ok (.invokestatic 81, 3) := by decide +kernel
theorem dX5_hit_5 : decode cX5_hit 5 = .ok (.ifCond .ne 5, 3) := by decide +kernel
theorem dX5_hit_8 : decode cX5_hit 8 = .ok (.iconst (-1), 1) := by decide +kernel
theorem dX5_hit_9 : decode cX5_hit 9 = .ok (.ireturn, 1) := by decide +kernel
theorem dX5_hit_10 : decode cX5_hit 10 = .ok (.aload_n 0, 1) := by decide +kernel
theorem dX5_hit_11 : decode cX5_hit 11 = .ok (.getfield 25, 3) := by decide +kernel
theorem dX5_hit_14 : decode cX5_hit 14 = .ok (.aload_n 0, 1) := by decide +kernel
theorem dX5_hit_15 : decode cX5_hit 15 = .ok (.getfield 10, 3) := by decide +kernel
theorem dX5_hit_18 : decode cX5_hit 18 = .ok (.invokevirtual 57, 3) := by decide +kernel
theorem dX5_hit_21 : decode cX5_hit 21 = .ok (.aload_n 0, 1) := by decide +kernel
theorem dX5_hit_22 : decode cX5_hit 22 = .ok (.getfield 10, 3) := by decide +kernel
theorem dX5_hit_25 : decode cX5_hit 25 = .ok (.iload_n 1, 1) := by decide +kernel
theorem dX5_hit_26 : decode cX5_hit 26 = .ok (.iload_n 2, 1) := by decide +kernel
theorem dX5_hit_27 : decode cX5_hit 27 = .ok (.invokevirtual 85, 3) := by decide +kernel
theorem dX5_hit_30 : decode cX5_hit 30 = .ok (.ireturn, 1) := by decide +kernel
set_option maxRecDepth 20000 in
theorem ggX5_letGo_X5_within : GoodIn wsX5_letGo wsX5_within := goodIn_r _ [6] (by decide +kernel) (by decide +kernel)
set_option maxRecDepth 20000 in
theorem gX5_letGo_X5_within : GoodIn wsX5_letGo (va_wsS RX5 43 yX5_within wsX5_within) := goodIn_app (goodIn_of _ (by decide +kernel)) ggX5_letGo_X5_within
set_option maxRecDepth 20000 in
theorem ggX5_letGo_X0_record : GoodIn wsX5_letGo wsX0_record := goodIn_r _ [11, 12, 13, 14, 15, 16, 17, 18, 19, 10, 20, 21, 22, 23, 24, 25, 26, 27, 28, 29, 30, 31, 32, 33, 34, 35, 36, 37, 38, 39, 40, 41, 42, 43, 44, 45, 46, 47, 76, 77, 78, 79, 80, 81, 82, 83, 84, 85, 86, 87, 88] (by decide +kernel) (by decide +kernel)
set_option maxRecDepth 20000 in
theorem gX5_letGo_X0_record : GoodIn wsX5_letGo (wsV RX5 57 RX0 yX0_record wsX0_record) := goodIn_app (goodIn_of _ (by decide +kernel)) ggX5_letGo_X0_record
set_option maxRecDepth 20000 in
theorem ggX5_letGo_X2_release : GoodIn wsX5_letGo wsX2_release := goodIn_r _ [51, 37, 52, 53, 54, 24, 55, 27, 56, 57, 58, 42, 59, 47, 60, 61, 62, 63, 64, 44, 65, 66, 67, 68, 81, 82, 83, 84, 85, 86, 87, 88] (by decide +kernel) (by decide +kernel)
set_option maxRecDepth 20000 in
theorem gX5_letGo_X2_release : GoodIn wsX5_letGo (wsV RX5 88 RX2 yX2_release wsX2_release) := goodIn_app (goodIn_of _ (by decide +kernel)) ggX5_letGo_X2_release
theorem dX5_letGo_0 : decode cX5_letGo 0 = .ok (.iload_n 1, 1) := by decide +kernel
theorem dX5_letGo_1 : decode cX5_letGo 1 = .ok (.iconst 0, 1) := by decide +kernel
theorem dX5_letGo_2 : decode cX5_letGo 2 = .ok (.bipush 35, 2) := by decide +kernel
theorem dX5_letGo_4 : decode cX5_letGo 4 = .ok (.invokestatic 43, 3) := by decide +kernel
theorem dX5_letGo_7 : decode cX5_letGo 7 = .ok (.ifCond .ne 5, 3) := by decide +kernel
theorem dX5_letGo_10 : decode cX5_letGo 10 = .ok (.iconst (-1), 1) := by decide +kernel
theorem dX5_letGo_11 : decode cX5_letGo 11 = .ok (.ireturn, 1) := by decide +kernel
theorem dX5_letGo_12 : decode cX5_letGo 12 = .ok (.aload_n 0, 1) := by decide +kernel
theorem dX5_letGo_13 : decode cX5_letGo 13 = .ok (.getfield 25, 3) := by decide +kernel
theorem dX5_letGo_16 : decode cX5_letGo 16 = .ok (.aload_n 0, 1) := by decide +kernel
theorem dX5_letGo_17 : decode cX5_letGo 17 = .ok (.getfield 10, 3) := by decide +kernel
theorem dX5_letGo_20 : decode cX5_letGo 20 = .ok (.invokevirtual 57, 3) := by decide +kernel
theorem dX5_letGo_23 : decode cX5_letGo 23 = .ok (.aload_n 0, 1) := by decide +kernel
theorem dX5_letGo_24 : decode cX5_letGo 24 = .ok (.getfield 10, 3) := by decide +kernel
theorem dX5_letGo_27 : decode cX5_letGo 27 = .ok (.iload_n 1, 1) := by decide +kernel
theorem dX5_letGo_28 : decode cX5_letGo 28 = .ok (.invokevirtual 88, 3) := by decide +kernel
theorem dX5_letGo_31 : decode cX5_letGo 31 = .ok (.ireturn, 1) := by decide +kernel
set_option maxRecDepth 20000 in
theorem ggX5_pedal_X0_record : GoodIn wsX5_pedal wsX0_record := goodIn_r _ [7, 8, 9, 10, 11, 12, 13, 14, 15, 6, 16, 17, 18, 19, 20, 21, 22, 23, 24, 25, 26, 27, 28, 29, 30, 31, 32, 33, 34, 35, 36, 37, 38, 39, 40, 41, 42, 43, 68, 69, 70, 71, 72, 73, 74, 75, 76, 77, 78, 79, 80] (by decide +kernel) (by decide +kernel)
set_option maxRecDepth 20000 in
theorem gX5_pedal_X0_record : GoodIn wsX5_pedal (wsV RX5 57 RX0 yX0_record wsX0_record) := goodIn_app (goodIn_of _ (by decide +kernel)) ggX5_pedal_X0_record
set_option maxRecDepth 20000 in
theorem ggX5_pedal_X2_tread : GoodIn wsX5_pedal wsX2_tread := goodIn_r _ [47, 33, 23, 48, 49, 50, 38, 51, 43, 52, 53, 54, 55, 56, 40, 57, 58, 59, 60, 73, 74, 75, 76, 77, 78, 79, 80] (by decide +kernel) (by decide +kernel)
set_option maxRecDepth 20000 in
theorem gX5_pedal_X2_tread : GoodIn wsX5_pedal (wsV RX5 91 RX2 yX2_tread wsX2_tread) := goodIn_app (goodIn_of _ (by decide +kernel)) ggX5_pedal_X2_tread
theorem dX5_pedal_0 : decode cX5_pedal 0 = .ok (.aload_n 0, 1) := by decide +kernel
theorem dX5_pedal_1 : decode cX5_pedal 1 = .ok (.getfield 25, 3) := by decide +kernel
theorem dX5_pedal_4 : decode cX5_pedal 4 = .ok (.aload_n 0, 1) := by decide +kernel
theorem dX5_pedal_5 : decode cX5_pedal 5 = .ok (.getfield 10, 3) := by decide +kernel
theorem dX5_pedal_8 : decode cX5_pedal 8 = .ok (.invokevirtual 57, 3) := by decide +kernel
theorem dX5_pedal_11 : decode cX5_pedal 11 = .ok (.aload_n 0, 1) := by decide +kernel
theorem dX5_pedal_12 : decode cX5_pedal 12 = .ok (.getfield 10, 3) := by decide +kernel
theorem dX5_pedal_15 : decode cX5_pedal 15 = .ok (.invokevirtual 91, 3) := by decide +kernel
theorem dX5_pedal_18 : decode cX5_pedal 18 = .ok (.ireturn, 1) := by decide +kernel
set_option maxRecDepth 20000 in
theorem ggX5_pass_X5_within : GoodIn wsX5_pass wsX5_within := goodIn_r _ [6] (by decide +kernel) (by decide +kernel)
set_option maxRecDepth 20000 in
theorem gX5_pass_X5_within : GoodIn wsX5_pass (va_wsS RX5 43 yX5_within wsX5_within) := goodIn_app (goodIn_of _ (by decide +kernel)) ggX5_pass_X5_within
set_option maxRecDepth 20000 in
theorem ggX5_pass_X0_record : GoodIn wsX5_pass wsX0_record := goodIn_r _ [11, 12, 13, 14, 15, 16, 17, 18, 19, 10, 20, 21, 22, 23, 24, 25, 26, 27, 28, 29, 30, 31, 32, 33, 34, 35, 36, 37, 38, 39, 40, 41, 42, 43, 44, 45, 46, 47, 100, 101, 102, 103, 104, 105, 106, 107, 108, 109, 110, 111, 112] (by decide +kernel) (by decide +kernel)
set_option maxRecDepth 20000 in
theorem gX5_pass_X0_record : GoodIn wsX5_pass (wsV RX5 57 RX0 yX0_record wsX0_record) := goodIn_app (goodIn_of _ (by decide +kernel)) ggX5_pass_X0_record
set_option maxRecDepth 20000 in
theorem ggX5_pass_X2_runTicks : GoodIn wsX5_pass wsX2_runTicks := goodIn_r _ [51, 27, 52, 53, 54, 24, 55, 28, 56, 57, 58, 42, 59, 47, 60, 61, 62, 63, 26, 64, 65, 66, 67, 68, 44, 69, 70, 71, 72, 73, 74, 75, 76, 77, 78, 79, 80, 81, 82, 83, 84, 85, 86, 87, 88, 89, 90, 91, 92, 105, 106, 107, 108, 109, 110, 111, 112] (by decide +kernel) (by decide +kernel)
set_option maxRecDepth 20000 in
theorem gX5_pass_X2_runTicks : GoodIn wsX5_pass (wsV RX5 94 RX2 yX2_runTicks wsX2_runTicks) := goodIn_app (goodIn_of _ (by decide +kernel)) ggX5_pass_X2_runTicks
theorem dX5_pass_0 : decode cX5_pass 0 = .ok (.iload_n 1, 1) := by decide +kernel
theorem dX5_pass_1 : decode cX5_pass 1 = .ok (.iconst 1, 1) := by decide +kernel
theorem dX5_pass_2 : decode cX5_pass 2 = .ok (.bipush 99, 2) := by decide +kernel
theorem dX5_pass_4 : decode cX5_pass 4 = .ok (.invokestatic 43, 3) := by decide +kernel
theorem dX5_pass_7 : decode cX5_pass 7 = .ok (.ifCond .ne 5, 3) := by decide +kernel
theorem dX5_pass_10 : decode cX5_pass 10 = .ok (.iconst (-1), 1) := by decide +kernel
theorem dX5_pass_11 : decode cX5_pass 11 = .ok (.ireturn, 1) := by decide +kernel
theorem dX5_pass_12 : decode cX5_pass 12 = .ok (.aload_n 0, 1) := by decide +kernel
theorem dX5_pass_13 : decode cX5_pass 13 = .ok (.getfield 25, 3) := by decide +kernel
theorem dX5_pass_16 : decode cX5_pass 16 = .ok (.aload_n 0, 1) := by decide +kernel
theorem dX5_pass_17 : decode cX5_pass 17 = .ok (.getfield 10, 3) := by decide +kernel
theorem dX5_pass_20 : decode cX5_pass 20 = .ok (.invokevirtual 57, 3) := by decide +kernel
theorem dX5_pass_23 : decode cX5_pass 23 = .ok (.aload_n 0, 1) := by decide +kernel
theorem dX5_pass_24 : decode cX5_pass 24 = .ok (.getfield 10, 3) := by decide +kernel
theorem dX5_pass_27 : decode cX5_pass 27 = .ok (.iload_n 1, 1) := by decide +kernel
theorem dX5_pass_28 : decode cX5_pass 28 = .ok (.invokevirtual 94, 3) := by decide +kernel
theorem dX5_pass_31 : decode cX5_pass 31 = .ok (.ireturn, 1) := by decide +kernel
set_option maxRecDepth 20000 in
theorem ggX5_silence_X0_record : GoodIn wsX5_silence wsX0_record := goodIn_r _ [7, 8, 9, 10, 11, 12, 13, 14, 15, 6, 16, 17, 18, 19, 20, 21, 22, 23, 24, 25, 26, 27, 28, 29, 30, 31, 32, 33, 34, 35, 36, 37, 38, 39, 40, 41, 42, 43, 75, 76, 77, 78, 79, 80, 81, 82, 83, 84, 85, 86, 87] (by decide +kernel) (by decide +kernel)
set_option maxRecDepth 20000 in
theorem gX5_silence_X0_record : GoodIn wsX5_silence (wsV RX5 57 RX0 yX0_record wsX0_record) := goodIn_app (goodIn_of _ (by decide +kernel)) ggX5_silence_X0_record
set_option maxRecDepth 20000 in
theorem ggX5_silence_X2_stopAll : GoodIn wsX5_silence wsX2_stopAll := goodIn_r _ [47, 23, 48, 49, 50, 38, 51, 43, 52, 53, 54, 55, 56, 57, 58, 20, 59, 60, 61, 62, 63, 24, 64, 65, 66, 67, 80, 81, 82, 83, 84, 85, 86, 87] (by decide +kernel) (by decide +kernel)
set_option maxRecDepth 20000 in
theorem gX5_silence_X2_stopAll : GoodIn wsX5_silence (wsV RX5 97 RX2 yX2_stopAll wsX2_stopAll) := goodIn_app (goodIn_of _ (by decide +kernel)) ggX5_silence_X2_stopAll
theorem dX5_silence_0 : decode cX5_silence 0 = .ok (.aload_n 0, 1) := by decide +kernel
theorem dX5_silence_1 : decode cX5_silence 1 = .ok (.getfield 25, 3) := by decide +kernel
theorem dX5_silence_4 : decode cX5_silence 4 = .ok (.aload_n 0, 1) := by decide +kernel
theorem dX5_silence_5 : decode cX5_silence 5 = .ok (.getfield 10, 3) := by decide +kernel
theorem dX5_silence_8 : decode cX5_silence 8 = .ok (.invokevirtual 57, 3) := by decide +kernel
theorem dX5_silence_11 : decode cX5_silence 11 = .ok (.aload_n 0, 1) := by decide +kernel
theorem dX5_silence_12 : decode cX5_silence 12 = .ok (.getfield 10, 3) := by decide +kernel
theorem dX5_silence_15 : decode cX5_silence 15 = .ok (.invokevirtual 97, 3) := by decide +kernel
theorem dX5_silence_18 : decode cX5_silence 18 = .ok (.ireturn, 1) := by decide +kernel
set_option maxRecDepth 20000 in
theorem ggX5_set_X5_isSetting : GoodIn wsX5_set wsX5_isSetting := goodIn_r _ [6, 7, 8, 5, 9] (by decide +kernel) (by decide +kernel)
set_option maxRecDepth 20000 in
theorem gX5_set_X5_isSetting : GoodIn wsX5_set (va_wsS RX5 100 yX5_isSetting wsX5_isSetting) := goodIn_app (goodIn_of _ (by decide +kernel)) ggX5_set_X5_isSetting
set_option maxRecDepth 20000 in
theorem ggX5_set_X0_record : GoodIn wsX5_set wsX0_record := goodIn_r _ [14, 15, 16, 17, 18, 19, 20, 21, 22, 13, 23, 24, 25, 26, 27, 28, 29, 30, 31, 32, 33, 34, 35, 36, 37, 38, 39, 40, 41, 42, 43, 44, 45, 46, 47, 48, 49, 50, 97, 98, 99, 100, 101, 102, 103, 104, 105, 106, 107, 108, 109] (by decide +kernel) (by decide +kernel)
set_option maxRecDepth 20000 in
theorem gX5_set_X0_record : GoodIn wsX5_set (wsV RX5 57 RX0 yX0_record wsX0_record) := goodIn_app (goodIn_of _ (by decide +kernel)) ggX5_set_X0_record
set_option maxRecDepth 20000 in
theorem ggX5_set_X2_number : GoodIn wsX5_set wsX2_number := goodIn_r _ [54, 31, 102, 103, 104, 105, 106] (by decide +kernel) (by decide +kernel)
set_option maxRecDepth 20000 in
theorem gX5_set_X2_number : GoodIn wsX5_set (wsV RX5 103 RX2 yX2_number wsX2_number) := goodIn_app (goodIn_of _ (by decide +kernel)) ggX5_set_X2_number
set_option maxRecDepth 20000 in
theorem ggX5_set_X2_putNumber : GoodIn wsX5_set wsX2_putNumber := goodIn_r _ [58, 31, 102, 103, 104, 105, 106] (by decide +kernel) (by decide +kernel)
set_option maxRecDepth 20000 in
theorem gX5_set_X2_putNumber : GoodIn wsX5_set (wsV RX5 106 RX2 yX2_putNumber wsX2_putNumber) := goodIn_app (goodIn_of _ (by decide +kernel)) ggX5_set_X2_putNumber
set_option maxRecDepth 20000 in
theorem ggX5_set_X2_stealDownTo : GoodIn wsX5_set wsX2_stealDownTo := goodIn_r _ [62, 30, 63, 64, 65, 45, 66, 50, 67, 68, 69, 27, 70, 71, 52, 53, 54, 31, 72, 73, 74, 75, 76, 47, 77, 78, 79, 80, 81, 82, 83, 84, 85, 86, 87, 88, 89, 56, 57, 58, 102, 103, 104, 105, 106, 107, 108, 109] (by decide +kernel) (by decide +kernel)
set_option maxRecDepth 20000 in
theorem gX5_set_X2_stealDownTo : GoodIn wsX5_set (wsV RX5 110 RX2 yX2_stealDownTo wsX2_stealDownTo) := goodIn_app (goodIn_of _ (by decide +kernel)) ggX5_set_X2_stealDownTo
theorem dX5_set_0 : decode cX5_set 0 = .ok (.iload_n 1, 1) := by decide +kernel
theorem dX5_set_1 : decode cX5_set 1 = .ok (.iload_n 2, 1) := by decide +kernel
theorem dX5_set_2 : decode cX5_set 2 = .ok (.invokestatic 100, 3) := by decide +kernel
theorem dX5_set_5 : decode cX5_set 5 = .ok (.ifCond .ne 5, 3) := by decide +kernel
theorem dX5_set_8 : decode cX5_set 8 = .ok (.iconst (-1), 1) := by decide +kernel
theorem dX5_set_9 : decode cX5_set 9 = .ok (.ireturn, 1) := by decide +kernel
theorem dX5_set_10 : decode cX5_set 10 = .ok (.aload_n 0, 1) := by decide +kernel
theorem dX5_set_11 : decode cX5_set 11 = .ok (.getfield 25, 3) := by decide +kernel
theorem dX5_set_14 : decode cX5_set 14 = .ok (.aload_n 0, 1) := by decide +kernel
theorem dX5_set_15 : decode cX5_set 15 = .ok (.getfield 10, 3) := by decide +kernel
theorem dX5_set_18 : decode cX5_set 18 = .ok (.invokevirtual 57, 3) := by decide +kernel
theorem dX5_set_21 : decode cX5_set 21 = .ok (.aload_n 0, 1) := by decide +kernel
theorem dX5_set_22 : decode cX5_set 22 = .ok (.getfield 10, 3) := by decide +kernel
theorem dX5_set_25 : decode cX5_set 25 = .ok (.bipush 6, 2) := by decide +kernel
theorem dX5_set_27 : decode cX5_set 27 = .ok (.iload_n 1, 1) := by decide +kernel
theorem dX5_set_28 : decode cX5_set 28 = .ok (.iadd, 1) := by decide +kernel
theorem dX5_set_29 : decode cX5_set 29 = .ok (.invokevirtual 103, 3) := by decide +kernel
theorem dX5_set_32 : decode cX5_set 32 = .ok (.istore_n 3, 1) := by decide +kernel
theorem dX5_set_33 : decode cX5_set 33 = .ok (.aload_n 0, 1) := by decide +kernel
theorem dX5_set_34 : decode cX5_set 34 = .ok (.getfield 10, 3) := by decide +kernel
theorem dX5_set_37 : decode cX5_set 37 = .ok (.bipush 6, 2) := by decide +kernel
theorem dX5_set_39 : decode cX5_set 39 = .ok (.iload_n 1, 1) := by decide +kernel
theorem dX5_set_40 : decode cX5_set 40 = .ok (.iadd, 1) := by decide +kernel
theorem dX5_set_41 : decode cX5_set 41 = .ok (.iload_n 2, 1) := by decide +kernel
theorem dX5_set_42 : decode cX5_set 42 = .ok (.invokevirtual 106, 3) := by decide +kernel
theorem dX5_set_45 : decode cX5_set 45 = .ok (.iload_n 1, 1) := by decide +kernel
theorem dX5_set_46 : decode cX5_set 46 = .ok (.ifCond .ne 11, 3) := by decide +kernel
theorem dX5_set_49 : decode cX5_set 49 = .ok (.aload_n 0, 1) := by decide +kernel
theorem dX5_set_50 : decode cX5_set 50 = .ok (.getfield 10, 3) := by decide +kernel
theorem dX5_set_53 : decode cX5_set 53 = .ok (.iload_n 2, 1) := by decide +kernel
theorem dX5_set_54 : decode cX5_set 54 = .ok (.invokevirtual 110, 3) := by decide +kernel
theorem dX5_set_57 : decode cX5_set 57 = .ok (.iload_n 3, 1) := by decide +kernel
theorem dX5_set_58 : decode cX5_set 58 = .ok (.ireturn, 1) := by decide +kernel
set_option maxRecDepth 20000 in
theorem ggX5_append_X5_within : GoodIn wsX5_append wsX5_within := goodIn_r _ [5] (by decide +kernel) (by decide +kernel)
set_option maxRecDepth 20000 in
theorem gX5_append_X5_within : GoodIn wsX5_append (va_wsS RX5 43 yX5_within wsX5_within) := goodIn_app (goodIn_of _ (by decide +kernel)) ggX5_append_X5_within
set_option maxRecDepth 20000 in
theorem ggX5_append_X1_length : GoodIn wsX5_append wsX1_length := goodIn_r _ [10, 11, 24, 25, 26, 27, 28, 29, 30, 31, 32, 33, 34, 35, 36, 37] (by decide +kernel) (by decide +kernel)
set_option maxRecDepth 20000 in
theorem gX5_append_X1_length : GoodIn wsX5_append (wsV RX5 114 RX1 yX1_length wsX1_length) := goodIn_app (goodIn_of _ (by decide +kernel)) ggX5_append_X1_length
set_option maxRecDepth 20000 in
theorem ggX5_append_X1_add : GoodIn wsX5_append wsX1_add := goodIn_r _ [15, 11, 16, 24, 25, 26, 27, 28, 29, 30, 31, 32, 33, 34, 35, 36, 37] (by decide +kernel) (by decide +kernel)
set_option maxRecDepth 20000 in
theorem gX5_append_X1_add : GoodIn wsX5_append (wsV RX5 117 RX1 yX1_add wsX1_add) := goodIn_app (goodIn_of _ (by decide +kernel)) ggX5_append_X1_add
theorem dX5_append_0 : decode cX5_append 0 = .ok (.iload_n 1, 1) := by decide +kernel
theorem dX5_append_1 : decode cX5_append 1 = .ok (.bipush 33, 2) := by decide +kernel
theorem dX5_append_3 : decode cX5_append 3 = .ok (.bipush 126, 2) := by decide +kernel
theorem dX5_append_5 : decode cX5_append 5 = .ok (.invokestatic 43, 3) := by decide +kernel
theorem dX5_append_8 : decode cX5_append 8 = .ok (.ifCond .ne 5, 3) := by decide +kernel
theorem dX5_append_11 : decode cX5_append 11 = .ok (.iconst (-1), 1) := by decide +kernel
theorem dX5_append_12 : decode cX5_append 12 = .ok (.ireturn, 1) := by decide +kernel
theorem dX5_append_13 : decode cX5_append 13 = .ok (.aload_n 0, 1) := by decide +kernel
theorem dX5_append_14 : decode cX5_append 14 = .ok (.getfield 32, 3) := by decide +kernel
theorem dX5_append_17 : decode cX5_append 17 = .ok (.invokevirtual 114, 3) := by decide +kernel
theorem dX5_append_20 : decode cX5_append 20 = .ok (.bipush 60, 2) := by decide +kernel
theorem dX5_append_22 : decode cX5_append 22 = .ok (.if_icmp .lt 6, 3) := by decide +kernel
theorem dX5_append_25 : decode cX5_append 25 = .ok (.bipush (-3), 2) := by decide +kernel
theorem dX5_append_27 : decode cX5_append 27 = .ok (.ireturn, 1) := by decide +kernel
theorem dX5_append_28 : decode cX5_append 28 = .ok (.aload_n 0, 1) := by decide +kernel
theorem dX5_append_29 : decode cX5_append 29 = .ok (.getfield 32, 3) := by decide +kernel
theorem dX5_append_32 : decode cX5_append 32 = .ok (.iload_n 1, 1) := by decide +kernel
theorem dX5_append_33 : decode cX5_append 33 = .ok (.i2c, 1) := by decide +kernel
theorem dX5_append_34 : decode cX5_append 34 = .ok (.invokevirtual 117, 3) := by decide +kernel
theorem dX5_append_37 : decode cX5_append 37 = .ok (.aload_n 0, 1) := by decide +kernel
theorem dX5_append_38 : decode cX5_append 38 = .ok (.getfield 32, 3) := by decide +kernel
theorem dX5_append_41 : decode cX5_append 41 = .ok (.invokevirtual 114, 3) := by decide +kernel
theorem dX5_append_44 : decode cX5_append 44 = .ok (.ireturn, 1) := by decide +kernel
set_option maxRecDepth 20000 in
theorem ggX5_clear_X1_length : GoodIn wsX5_clear wsX1_length := goodIn_r _ [6, 7, 19, 20, 21, 22, 23, 24, 25, 26, 27, 28, 29, 30, 31, 32] (by decide +kernel) (by decide +kernel)
set_option maxRecDepth 20000 in
theorem gX5_clear_X1_length : GoodIn wsX5_clear (wsV RX5 114 RX1 yX1_length wsX1_length) := goodIn_app (goodIn_of _ (by decide +kernel)) ggX5_clear_X1_length
set_option maxRecDepth 20000 in
theorem ggX5_clear_X1_empty : GoodIn wsX5_clear wsX1_empty := goodIn_r _ [11, 7, 19, 20, 21, 22, 23, 24, 25, 26, 27, 28, 29, 30, 31, 32] (by decide +kernel) (by decide +kernel)
set_option maxRecDepth 20000 in
theorem gX5_clear_X1_empty : GoodIn wsX5_clear (wsV RX5 121 RX1 yX1_empty wsX1_empty) := goodIn_app (goodIn_of _ (by decide +kernel)) ggX5_clear_X1_empty
theorem dX5_clear_0 : decode cX5_clear 0 = .ok (.aload_n 0, 1) := by decide +kernel
theorem dX5_clear_1 : decode cX5_clear 1 = .ok (.getfield 32, 3) := by decide +kernel
theorem dX5_clear_4 : decode cX5_clear 4 = .ok (.invokevirtual 114, 3) := by decide +kernel
theorem dX5_clear_7 : decode cX5_clear 7 = .ok (.istore_n 1, 1) := by decide +kernel
theorem dX5_clear_8 : decode cX5_clear 8 = .ok (.aload_n 0, 1) := by decide +kernel
theorem dX5_clear_9 : decode cX5_clear 9 = .ok (.getfield 32, 3) := by decide +kernel
theorem dX5_clear_12 : decode cX5_clear 12 = .ok (.invokevirtual 121, 3) := by decide +kernel
theorem dX5_clear_15 : decode cX5_clear 15 = .ok (.iload_n 1, 1) := by decide +kernel
theorem dX5_clear_16 : decode cX5_clear 16 = .ok (.ireturn, 1) := by decide +kernel
set_option maxRecDepth 20000 in
theorem ggX5_fault_X5_within : GoodIn wsX5_fault wsX5_within := goodIn_r _ [5] (by decide +kernel) (by decide +kernel)
set_option maxRecDepth 20000 in
theorem gX5_fault_X5_within : GoodIn wsX5_fault (va_wsS RX5 43 yX5_within wsX5_within) := goodIn_app (goodIn_of _ (by decide +kernel)) ggX5_fault_X5_within
set_option maxRecDepth 20000 in
theorem ggX5_fault_X1_faultAs : GoodIn wsX5_fault wsX1_faultAs := goodIn_r _ [10, 11, 12, 13, 14, 15, 9, 16, 17, 18, 19, 20, 21, 22, 23, 24, 25, 26, 27, 28, 29, 30, 31, 32, 33, 34, 35, 36, 37, 38, 39, 40, 41, 42, 43, 44, 45, 46, 47, 48, 49, 50, 51, 52, 53, 54, 55, 56, 57, 58, 59, 60, 61, 62, 63, 64, 65, 66, 67, 75, 76, 77, 78, 79, 80, 81, 82, 83, 84, 85, 86, 87, 88] (by decide +kernel) (by decide +kernel)
set_option maxRecDepth 20000 in
theorem gX5_fault_X1_faultAs : GoodIn wsX5_fault (wsV RX5 124 RX1 yX1_faultAs wsX1_faultAs) := goodIn_app (goodIn_of _ (by decide +kernel)) ggX5_fault_X1_faultAs
theorem dX5_fault_0 : decode cX5_fault 0 = .ok (.iload_n 1, 1) := by decide +kernel
theorem dX5_fault_1 : decode cX5_fault 1 = .ok (.iconst 0, 1) := by decide +kernel
theorem dX5_fault_2 : decode cX5_fault 2 = .ok (.iconst 1, 1) := by decide +kernel
theorem dX5_fault_3 : decode cX5_fault 3 = .ok (.invokestatic 43, 3) := by decide +kernel
theorem dX5_fault_6 : decode cX5_fault 6 = .ok (.ifCond .ne 5, 3) := by decide +kernel
theorem dX5_fault_9 : decode cX5_fault 9 = .ok (.iconst (-1), 1) := by decide +kernel
theorem dX5_fault_10 : decode cX5_fault 10 = .ok (.ireturn, 1) := by decide +kernel
theorem dX5_fault_11 : decode cX5_fault 11 = .ok (.aload_n 0, 1) := by decide +kernel
theorem dX5_fault_12 : decode cX5_fault 12 = .ok (.getfield 32, 3) := by decide +kernel
theorem dX5_fault_15 : decode cX5_fault 15 = .ok (.iload_n 1, 1) := by decide +kernel
theorem dX5_fault_16 : decode cX5_fault 16 = .ok (.invokevirtual 124, 3) := by decide +kernel
theorem dX5_fault_19 : decode cX5_fault 19 = .ok (.ireturn, 1) := by decide +kernel
set_option maxRecDepth 20000 in
theorem ggX5_load_X1_faultAs : GoodIn wsX5_load wsX1_faultAs := goodIn_r _ [8, 9, 10, 11, 12, 13, 7, 14, 15, 16, 17, 18, 19, 20, 21, 22, 23, 24, 25, 26, 27, 28, 29, 30, 31, 32, 33, 34, 35, 36, 37, 38, 39, 40, 41, 42, 43, 44, 45, 46, 47, 48, 49, 50, 51, 52, 53, 54, 55, 56, 57, 58, 59, 60, 61, 62, 63, 64, 65, 149, 150, 151, 152, 153, 154, 155, 156, 157, 158, 159, 160, 161, 162] (by decide +kernel) (by decide +kernel)
set_option maxRecDepth 20000 in
theorem gX5_load_X1_faultAs : GoodIn wsX5_load (wsV RX5 124 RX1 yX1_faultAs wsX1_faultAs) := goodIn_app (goodIn_of _ (by decide +kernel)) ggX5_load_X1_faultAs
set_option maxRecDepth 20000 in
theorem ggX5_load_X1_items : GoodIn wsX5_load wsX1_items := goodIn_r _ [18, 10, 19, 149, 150, 151, 152, 153, 154, 155, 156, 157, 158, 159, 160, 161, 162] (by decide +kernel) (by decide +kernel)
set_option maxRecDepth 20000 in
theorem gX5_load_X1_items : GoodIn wsX5_load (wsV RX5 127 RX1 yX1_items wsX1_items) := goodIn_app (goodIn_of _ (by decide +kernel)) ggX5_load_X1_items
set_option maxRecDepth 20000 in
theorem ggX5_load_X4_rows : GoodIn wsX5_load wsX4_rows := goodIn_r _ [71, 72, 163, 164, 165] (by decide +kernel) (by decide +kernel)
set_option maxRecDepth 20000 in
theorem gX5_load_X4_rows : GoodIn wsX5_load (wsV RX5 51 RX4 yX4_rows wsX4_rows) := goodIn_app (goodIn_of _ (by decide +kernel)) ggX5_load_X4_rows
set_option maxRecDepth 20000 in
theorem ggX5_load_X0_record : GoodIn wsX5_load wsX0_record := goodIn_r _ [77, 78, 79, 80, 81, 82, 83, 84, 85, 76, 86, 87, 88, 89, 90, 91, 92, 93, 94, 95, 96, 97, 98, 99, 100, 101, 102, 103, 104, 105, 106, 107, 70, 108, 109, 110, 111, 72, 166, 167, 168, 169, 170, 144, 145, 146, 147, 148, 163, 164, 165] (by decide +kernel) (by decide +kernel)
set_option maxRecDepth 20000 in
theorem gX5_load_X0_record : GoodIn wsX5_load (wsV RX5 57 RX0 yX0_record wsX0_record) := goodIn_app (goodIn_of _ (by decide +kernel)) ggX5_load_X0_record
set_option maxRecDepth 20000 in
theorem ggX5_load_X1_rewind : GoodIn wsX5_load wsX1_rewind := goodIn_r _ [14, 9, 149, 150, 151, 152, 153, 154, 155, 156, 157, 158, 159, 160, 161, 162] (by decide +kernel) (by decide +kernel)
set_option maxRecDepth 20000 in
theorem gX5_load_X1_rewind : GoodIn wsX5_load (wsV RX5 130 RX1 yX1_rewind wsX1_rewind) := goodIn_app (goodIn_of _ (by decide +kernel)) ggX5_load_X1_rewind
set_option maxRecDepth 20000 in
theorem ggX5_load_X1_readZone : GoodIn wsX5_load wsX1_readZone := goodIn_r _ [23, 24, 25, 26, 27, 28, 29, 30, 31, 32, 33, 34, 7, 35, 9, 36, 37, 38, 39, 10, 19, 40, 41, 42, 43, 44, 45, 46, 47, 48, 49, 50, 149, 150, 151, 152, 153, 154, 155, 156, 157, 158, 159, 160, 161, 162] (by decide +kernel) (by decide +kernel)
set_option maxRecDepth 20000 in
theorem gX5_load_X1_readZone : GoodIn wsX5_load (wsV RX5 133 RX1 yX1_readZone wsX1_readZone) := goodIn_app (goodIn_of _ (by decide +kernel)) ggX5_load_X1_readZone
set_option maxRecDepth 20000 in
theorem ggX5_load_X2_addZone : GoodIn wsX5_load wsX2_addZone := goodIn_r _ [117, 92, 118, 119, 120, 70, 121, 72, 122, 109, 123, 124, 125, 126, 127, 128, 129, 90, 130, 144, 145, 146, 147, 148, 163, 164, 165] (by decide +kernel) (by decide +kernel)
set_option maxRecDepth 20000 in
theorem gX5_load_X2_addZone : GoodIn wsX5_load (wsV RX5 61 RX2 yX2_addZone wsX2_addZone) := goodIn_app (goodIn_of _ (by decide +kernel)) ggX5_load_X2_addZone
set_option maxRecDepth 20000 in
theorem ggX5_load_X2_shapeZone : GoodIn wsX5_load wsX2_shapeZone := goodIn_r _ [130, 92, 123, 124, 125, 70, 126, 72, 122, 109, 144, 145, 146, 147, 148, 163, 164, 165] (by decide +kernel) (by decide +kernel)
set_option maxRecDepth 20000 in
theorem gX5_load_X2_shapeZone : GoodIn wsX5_load (wsV RX5 69 RX2 yX2_shapeZone wsX2_shapeZone) := goodIn_app (goodIn_of _ (by decide +kernel)) ggX5_load_X2_shapeZone
set_option maxRecDepth 20000 in
theorem ggX5_load_X1_readSign : GoodIn wsX5_load wsX1_readSign := goodIn_r _ [46, 9, 36, 37, 38, 7, 39, 10, 19, 149, 150, 151, 152, 153, 154, 155, 156, 157, 158, 159, 160, 161, 162] (by decide +kernel) (by decide +kernel)
set_option maxRecDepth 20000 in
theorem gX5_load_X1_readSign : GoodIn wsX5_load (wsV RX5 159 RX1 yX1_readSign wsX1_readSign) := goodIn_app (goodIn_of _ (by decide +kernel)) ggX5_load_X1_readSign
set_option maxRecDepth 20000 in
theorem ggX5_load_X1_empty : GoodIn wsX5_load wsX1_empty := goodIn_r _ [136, 10, 149, 150, 151, 152, 153, 154, 155, 156, 157, 158, 159, 160, 161, 162] (by decide +kernel) (by decide +kernel)
set_option maxRecDepth 20000 in
theorem gX5_load_X1_empty : GoodIn wsX5_load (wsV RX5 121 RX1 yX1_empty wsX1_empty) := goodIn_app (goodIn_of _ (by decide +kernel)) ggX5_load_X1_empty
theorem dX5_load_0 : decode cX5_load 0 = .ok (.aload_n 0, 1) := by decide +kernel
theorem dX5_load_1 : decode cX5_load 1 = .ok (.getfield 32, 3) := by decide +kernel
theorem dX5_load_4 : decode cX5_load 4 = .ok (.iconst 0, 1) := by decide +kernel
theorem dX5_load_5 : decode cX5_load 5 = .ok (.invokevirtual 124, 3) := by decide +kernel
theorem dX5_load_8 : decode cX5_load 8 = .ok (.bipush (-4), 2) := by decide +kernel
theorem dX5_load_10 : decode cX5_load 10 = .ok (.if_icmp .eq 6, 3) := by decide +kernel
theorem dX5_load_13 : decode cX5_load 13 = .ok (.bipush (-2), 2) := by decide +kernel
theorem dX5_load_15 : decode cX5_load 15 = .ok (.ireturn, 1) := by decide +kernel
theorem dX5_load_16 : decode cX5_load 16 = .ok (.aload_n 0, 1) := by decide +kernel
theorem dX5_load_17 : decode cX5_load 17 = .ok (.getfield 32, 3) := by decide +kernel
theorem dX5_load_20 : decode cX5_load 20 = .ok (.invokevirtual 127, 3) := by decide +kernel
theorem dX5_load_23 : decode cX5_load 23 = .ok (.istore_n 1, 1) := by decide +kernel
theorem dX5_load_24 : decode cX5_load 24 = .ok (.aload_n 0, 1) := by decide +kernel
theorem dX5_load_25 : decode cX5_load 25 = .ok (.getfield 10, 3) := by decide +kernel
theorem dX5_load_28 : decode cX5_load 28 = .ok (.getfield 47, 3) := by decide +kernel
theorem dX5_load_31 : decode cX5_load 31 = .ok (.invokevirtual 51, 3) := by decide +kernel
theorem dX5_load_34 : decode cX5_load 34 = .ok (.iload_n 1, 1) := by decide +kernel
theorem dX5_load_35 : decode cX5_load 35 = .ok (.iadd, 1) := by decide +kernel
theorem dX5_load_36 : decode cX5_load 36 = .ok (.bipush 10, 2) := by decide +kernel
theorem dX5_load_38 : decode cX5_load 38 = .ok (.if_icmp .le 6, 3) := by decide +kernel
theorem dX5_load_41 : decode cX5_load 41 = .ok (.bipush (-3), 2) := by decide +kernel
theorem dX5_load_43 : decode cX5_load 43 = .ok (.ireturn, 1) := by decide +kernel
theorem dX5_load_44 : decode cX5_load 44 = .ok (.aload_n 0, 1) := by decide +kernel
theorem dX5_load_45 : decode cX5_load 45 = .ok (.getfield 25, 3) := by decide +kernel
theorem dX5_load_48 : decode cX5_load 48 = .ok (.aload_n 0, 1) := by decide +kernel
theorem dX5_load_49 : decode cX5_load 49 = .ok (.getfield 10, 3) := by decide +kernel
theorem dX5_load_52 : decode cX5_load 52 = .ok (.invokevirtual 57, 3) := by decide +kernel
theorem dX5_load_55 : decode cX5_load 55 = .ok (.aload_n 0, 1) := by decide +kernel
theorem dX5_load_56 : decode cX5_load 56 = .ok (.getfield 32, 3) := by decide +kernel
theorem dX5_load_59 : decode cX5_load 59 = .ok (.invokevirtual 130, 3) := by decide +kernel
theorem dX5_load_62 : decode cX5_load 62 = .ok (.iconst 0, 1) := by decide +kernel
theorem dX5_load_63 : decode cX5_load 63 = .ok (.istore_n 2, 1) := by decide +kernel
theorem dX5_load_64 : decode cX5_load 64 = .ok (.iload_n 2, 1) := by decide +kernel
theorem dX5_load_65 : decode cX5_load 65 = .ok (.iload_n 1, 1) := by decide +kernel
theorem dX5_load_66 : decode cX5_load 66 = .ok (.if_icmp .ge 94, 3) := by decide +kernel
theorem dX5_load_69 : decode cX5_load 69 = .ok (.aload_n 0, 1) := by decide +kernel
theorem dX5_load_70 : decode cX5_load 70 = .ok (.getfield 32, 3) := by decide +kernel
theorem dX5_load_73 : decode cX5_load 73 = .ok (.invokevirtual 133, 3) := by decide +kernel
theorem dX5_load_76 : decode cX5_load 76 = .ok (.ifCond .eq 68, 3) := by decide +kernel
theorem dX5_load_79 : decode cX5_load 79 = .ok (.aload_n 0, 1) := by decide +kernel
theorem dX5_load_80 : decode cX5_load 80 = .ok (.getfield 10, 3) := by decide +kernel
theorem dX5_load_83 : decode cX5_load 83 = .ok (.aload_n 0, 1) := by decide +kernel
theorem dX5_load_84 : decode cX5_load 84 = .ok (.getfield 32, 3) := by decide +kernel
theorem dX5_load_87 : decode cX5_load 87 = .ok (.getfield 137, 3) := by decide +kernel
theorem dX5_load_90 : decode cX5_load 90 = .ok (.aload_n 0, 1) := by decide +kernel
theorem dX5_load_91 : decode cX5_load 91 = .ok (.getfield 32, 3) := by decide +kernel
theorem dX5_load_94 : decode cX5_load 94 = .ok (.getfield 141, 3) := by decide +kernel
theorem dX5_load_97 : decode cX5_load 97 = .ok (.aload_n 0, 1) := by decide +kernel
theorem dX5_load_98 : decode cX5_load 98 = .ok (.getfield 32, 3) := by decide +kernel
theorem dX5_load_101 : decode cX5_load 101 = .ok (.getfield 144, 3) := by decide +kernel
theorem dX5_load_104 : decode cX5_load 104 = .ok (.aload_n 0, 1) := by decide +kernel
theorem dX5_load_105 : decode cX5_load 105 = .ok (.getfield 32, 3) := by decide +kernel
theorem dX5_load_108 : decode cX5_load 108 = .ok (.getfield 147, 3) := by decide +kernel
theorem dX5_load_111 : decode cX5_load 111 = .ok (.invokevirtual 61, 3) := by decide +kernel
theorem dX5_load_114 : decode cX5_load 114 = .ok (.istore_n 3, 1) := by decide +kernel
theorem dX5_load_115 : decode cX5_load 115 = .ok (.aload_n 0, 1) := by decide +kernel
theorem dX5_load_116 : decode cX5_load 116 = .ok (.getfield 10, 3) := by decide +kernel
theorem dX5_load_119 : decode cX5_load 119 = .ok (.iload_n 3, 1) := by decide +kernel
theorem dX5_load_120 : decode cX5_load 120 = .ok (.aload_n 0, 1) := by decide +kernel
theorem dX5_load_121 : decode cX5_load 121 = .ok (.getfield 32, 3) := by decide +kernel
theorem dX5_load_124 : decode cX5_load 124 = .ok (.getfield 150, 3) := by decide +kernel
theorem dX5_load_127 : decode cX5_load 127 = .ok (.aload_n 0, 1) := by decide +kernel
theorem dX5_load_128 : decode cX5_load 128 = .ok (.getfield 32, 3) := by decide +kernel
theorem dX5_load_131 : decode cX5_load 131 = .ok (.getfield 153, 3) := by decide +kernel
theorem dX5_load_134 : decode cX5_load 134 = .ok (.aload_n 0, 1) := by decide +kernel
theorem dX5_load_135 : decode cX5_load 135 = .ok (.getfield 32, 3) := by decide +kernel
theorem dX5_load_138 : decode cX5_load 138 = .ok (.getfield 156, 3) := by decide +kernel
theorem dX5_load_141 : decode cX5_load 141 = .ok (.invokevirtual 69, 3) := by decide +kernel
theorem dX5_load_144 : decode cX5_load 144 = .ok (.aload_n 0, 1) := by decide +kernel
theorem dX5_load_145 : decode cX5_load 145 = .ok (.getfield 32, 3) := by decide +kernel
theorem dX5_load_148 : decode cX5_load 148 = .ok (.bipush 59, 2) := by decide +kernel
theorem dX5_load_150 : decode cX5_load 150 = .ok (.invokevirtual 159, 3) := by decide +kernel
theorem dX5_load_153 : decode cX5_load 153 = .ok (.pop, 1) := by decide +kernel
theorem dX5_load_154 : decode cX5_load 154 = .ok (.iinc 2 1, 3) := by decide +kernel
theorem dX5_load_157 : decode cX5_load 157 = .ok (.goto (-93), 3) := by decide +kernel
theorem dX5_load_160 : decode cX5_load 160 = .ok (.aload_n 0, 1) := by decide +kernel
theorem dX5_load_161 : decode cX5_load 161 = .ok (.getfield 32, 3) := by decide +kernel
theorem dX5_load_164 : decode cX5_load 164 = .ok (.invokevirtual 121, 3) := by decide +kernel
theorem dX5_load_167 : decode cX5_load 167 = .ok (.aload_n 0, 1) := by decide +kernel
theorem dX5_load_168 : decode cX5_load 168 = .ok (.getfield 10, 3) := by decide +kernel
theorem dX5_load_171 : decode cX5_load 171 = .ok (.getfield 47, 3) := by decide +kernel
theorem dX5_load_174 : decode cX5_load 174 = .ok (.invokevirtual 51, 3) := by decide +kernel
theorem dX5_load_177 : decode cX5_load 177 = .ok (.ireturn, 1) := by decide +kernel
set_option maxRecDepth 20000 in
theorem ggX5_play_X1_faultAs : GoodIn wsX5_play wsX1_faultAs := goodIn_r _ [8, 9, 10, 11, 12, 13, 7, 14, 15, 16, 17, 18, 19, 20, 21, 22, 23, 24, 25, 26, 27, 28, 29, 30, 31, 32, 33, 34, 35, 36, 37, 38, 39, 40, 41, 42, 43, 44, 45, 46, 47, 48, 49, 50, 51, 52, 53, 54, 55, 56, 57, 58, 59, 60, 61, 62, 63, 64, 65, 221, 222, 223, 224, 225, 226, 227, 228, 229, 230, 231, 232, 233, 234] (by decide +kernel) (by decide +kernel)
set_option maxRecDepth 20000 in
theorem gX5_play_X1_faultAs : GoodIn wsX5_play (wsV RX5 124 RX1 yX1_faultAs wsX1_faultAs) := goodIn_app (goodIn_of _ (by decide +kernel)) ggX5_play_X1_faultAs
set_option maxRecDepth 20000 in
theorem ggX5_play_X0_record : GoodIn wsX5_play wsX0_record := goodIn_r _ [70, 71, 72, 73, 74, 75, 76, 77, 78, 69, 79, 80, 81, 82, 83, 84, 85, 86, 87, 88, 89, 90, 91, 92, 93, 94, 95, 96, 97, 98, 99, 100, 101, 102, 103, 104, 105, 106, 235, 236, 237, 238, 239, 240, 241, 242, 243, 244, 245, 246, 247] (by decide +kernel) (by decide +kernel)
set_option maxRecDepth 20000 in
theorem gX5_play_X0_record : GoodIn wsX5_play (wsV RX5 57 RX0 yX0_record wsX0_record) := goodIn_app (goodIn_of _ (by decide +kernel)) ggX5_play_X0_record
set_option maxRecDepth 20000 in
theorem ggX5_play_X2_number : GoodIn wsX5_play wsX2_number := goodIn_r _ [110, 87, 240, 241, 242, 243, 244] (by decide +kernel) (by decide +kernel)
set_option maxRecDepth 20000 in
theorem gX5_play_X2_number : GoodIn wsX5_play (wsV RX5 103 RX2 yX2_number wsX2_number) := goodIn_app (goodIn_of _ (by decide +kernel)) ggX5_play_X2_number
set_option maxRecDepth 20000 in
theorem ggX5_play_X1_items : GoodIn wsX5_play wsX1_items := goodIn_r _ [18, 10, 19, 221, 222, 223, 224, 225, 226, 227, 228, 229, 230, 231, 232, 233, 234] (by decide +kernel) (by decide +kernel)
set_option maxRecDepth 20000 in
theorem gX5_play_X1_items : GoodIn wsX5_play (wsV RX5 127 RX1 yX1_items wsX1_items) := goodIn_app (goodIn_of _ (by decide +kernel)) ggX5_play_X1_items
set_option maxRecDepth 20000 in
theorem ggX5_play_X1_rewind : GoodIn wsX5_play wsX1_rewind := goodIn_r _ [14, 9, 221, 222, 223, 224, 225, 226, 227, 228, 229, 230, 231, 232, 233, 234] (by decide +kernel) (by decide +kernel)
set_option maxRecDepth 20000 in
theorem gX5_play_X1_rewind : GoodIn wsX5_play (wsV RX5 130 RX1 yX1_rewind wsX1_rewind) := goodIn_app (goodIn_of _ (by decide +kernel)) ggX5_play_X1_rewind
set_option maxRecDepth 20000 in
theorem ggX5_play_X1_readDeed : GoodIn wsX5_play wsX1_readDeed := goodIn_r _ [54, 55, 9, 36, 37, 38, 7, 39, 10, 19, 56, 57, 58, 59, 24, 60, 32, 33, 34, 35, 40, 41, 42, 43, 44, 45, 46, 61, 62, 63, 64, 65, 221, 222, 223, 224, 225, 226, 227, 228, 229, 230, 231, 232, 233, 234] (by decide +kernel) (by decide +kernel)
set_option maxRecDepth 20000 in
theorem gX5_play_X1_readDeed : GoodIn wsX5_play (wsV RX5 162 RX1 yX1_readDeed wsX1_readDeed) := goodIn_app (goodIn_of _ (by decide +kernel)) ggX5_play_X1_readDeed
set_option maxRecDepth 20000 in
theorem ggX5_play_X5_doDeed : GoodIn wsX5_play wsX5_doDeed := goodIn_r _ [118, 1, 3, 119, 120, 121, 83, 122, 97, 85, 123, 124, 125, 126, 86, 127, 128, 129, 101, 130, 106, 131, 132, 133, 134, 135, 103, 136, 137, 138, 139, 140, 141, 142, 143, 144, 145, 146, 147, 148, 108, 109, 110, 87, 149, 150, 151, 152, 153, 154, 155, 156, 157, 158, 159, 160, 161, 162, 163, 164, 165, 166, 167, 168, 169, 170, 171, 172, 173, 174, 175, 176, 177, 178, 179, 180, 181, 182, 183, 184, 185, 186, 187, 188, 189, 190, 191, 192, 96, 193, 194, 195, 196, 197, 198, 199, 200, 201, 202, 203, 204, 205, 206, 207, 208, 214, 215, 216, 217, 218, 219, 220, 221, 222, 223, 224, 225, 226, 227, 228, 229, 230, 231, 232, 233, 234, 240, 241, 242, 243, 244, 245, 246, 247] (by decide +kernel) (by decide +kernel)
set_option maxRecDepth 20000 in
theorem gX5_play_X5_doDeed : GoodIn wsX5_play (wsV RX5 165 RX5 yX5_doDeed wsX5_doDeed) := goodIn_app (goodIn_of _ (by decide +kernel)) ggX5_play_X5_doDeed
set_option maxRecDepth 20000 in
theorem ggX5_play_X1_readSign : GoodIn wsX5_play wsX1_readSign := goodIn_r _ [46, 9, 36, 37, 38, 7, 39, 10, 19, 221, 222, 223, 224, 225, 226, 227, 228, 229, 230, 231, 232, 233, 234] (by decide +kernel) (by decide +kernel)
set_option maxRecDepth 20000 in
theorem gX5_play_X1_readSign : GoodIn wsX5_play (wsV RX5 159 RX1 yX1_readSign wsX1_readSign) := goodIn_app (goodIn_of _ (by decide +kernel)) ggX5_play_X1_readSign
set_option maxRecDepth 20000 in
theorem ggX5_play_X1_empty : GoodIn wsX5_play wsX1_empty := goodIn_r _ [213, 10, 221, 222, 223, 224, 225, 226, 227, 228, 229, 230, 231, 232, 233, 234] (by decide +kernel) (by decide +kernel)
set_option maxRecDepth 20000 in
theorem gX5_play_X1_empty : GoodIn wsX5_play (wsV RX5 121 RX1 yX1_empty wsX1_empty) := goodIn_app (goodIn_of _ (by decide +kernel)) ggX5_play_X1_empty
theorem dX5_play_0 : decode cX5_play 0 = .ok (.aload_n 0, 1) := by decide +kernel
theorem dX5_play_1 : decode cX5_play 1 = .ok (.getfield 32, 3) := by decide +kernel
theorem dX5_play_4 : decode cX5_play 4 = .ok (.iconst 1, 1) := by decide +kernel
theorem dX5_play_5 : decode cX5_play 5 = .ok (.invokevirtual 124, 3) := by decide +kernel
theorem dX5_play_8 : decode cX5_play 8 = .ok (.bipush (-4), 2) := by decide +kernel
theorem dX5_play_10 : decode cX5_play 10 = .ok (.if_icmp .eq 6, 3) := by decide +kernel
theorem dX5_play_13 : decode cX5_play 13 = .ok (.bipush (-2), 2) := by decide +kernel
theorem dX5_play_15 : decode cX5_play 15 = .ok (.ireturn, 1) := by decide +kernel
theorem dX5_play_16 : decode cX5_play 16 = .ok (.aload_n 0, 1) := by decide +kernel
theorem dX5_play_17 : decode cX5_play 17 = .ok (.getfield 25, 3) := by decide +kernel
theorem dX5_play_20 : decode cX5_play 20 = .ok (.aload_n 0, 1) := by decide +kernel
theorem dX5_play_21 : decode cX5_play 21 = .ok (.getfield 10, 3) := by decide +kernel
theorem dX5_play_24 : decode cX5_play 24 = .ok (.invokevirtual 57, 3) := by decide +kernel
theorem dX5_play_27 : decode cX5_play 27 = .ok (.aload_n 0, 1) := by decide +kernel
theorem dX5_play_28 : decode cX5_play 28 = .ok (.getfield 10, 3) := by decide +kernel
theorem dX5_play_31 : decode cX5_play 31 = .ok (.iconst 1, 1) := by decide +kernel
theorem dX5_play_32 : decode cX5_play 32 = .ok (.invokevirtual 103, 3) := by decide +kernel
theorem dX5_play_35 : decode cX5_play 35 = .ok (.istore_n 1, 1) := by decide +kernel
theorem dX5_play_36 : decode cX5_play 36 = .ok (.aload_n 0, 1) := by decide +kernel
theorem dX5_play_37 : decode cX5_play 37 = .ok (.getfield 32, 3) := by decide +kernel
theorem dX5_play_40 : decode cX5_play 40 = .ok (.invokevirtual 127, 3) := by decide +kernel
theorem dX5_play_43 : decode cX5_play 43 = .ok (.istore_n 2, 1) := by decide +kernel
theorem dX5_play_44 : decode cX5_play 44 = .ok (.aload_n 0, 1) := by decide +kernel
theorem dX5_play_45 : decode cX5_play 45 = .ok (.getfield 32, 3) := by decide +kernel
theorem dX5_play_48 : decode cX5_play 48 = .ok (.invokevirtual 130, 3) := by decide +kernel
theorem dX5_play_51 : decode cX5_play 51 = .ok (.iconst 0, 1) := by decide +kernel
theorem dX5_play_52 : decode cX5_play 52 = .ok (.istore_n 3, 1) := by decide +kernel
theorem dX5_play_53 : decode cX5_play 53 = .ok (.iload_n 3, 1) := by decide +kernel
theorem dX5_play_54 : decode cX5_play 54 = .ok (.iload_n 2, 1) := by decide +kernel
theorem dX5_play_55 : decode cX5_play 55 = .ok (.if_icmp .ge 33, 3) := by decide +kernel
theorem dX5_play_58 : decode cX5_play 58 = .ok (.aload_n 0, 1) := by decide +kernel
theorem dX5_play_59 : decode cX5_play 59 = .ok (.getfield 32, 3) := by decide +kernel
theorem dX5_play_62 : decode cX5_play 62 = .ok (.invokevirtual 162, 3) := by decide +kernel
theorem dX5_play_65 : decode cX5_play 65 = .ok (.ifCond .eq 7, 3) := by decide +kernel
theorem dX5_play_68 : decode cX5_play 68 = .ok (.aload_n 0, 1) := by decide +kernel
theorem dX5_play_69 : decode cX5_play 69 = .ok (.invokevirtual 165, 3) := by decide +kernel
theorem dX5_play_72 : decode cX5_play 72 = .ok (.aload_n 0, 1) := by decide +kernel
theorem dX5_play_73 : decode cX5_play 73 = .ok (.getfield 32, 3) := by decide +kernel
theorem dX5_play_76 : decode cX5_play 76 = .ok (.bipush 59, 2) := by decide +kernel
theorem dX5_play_78 : decode cX5_play 78 = .ok (.invokevirtual 159, 3) := by decide +kernel
theorem dX5_play_81 : decode cX5_play 81 = .ok (.pop, 1) := by decide +kernel
theorem dX5_play_82 : decode cX5_play 82 = .ok (.iinc 3 1, 3) := by decide +kernel
theorem dX5_play_85 : decode cX5_play 85 = .ok (.goto (-32), 3) := by decide +kernel
theorem dX5_play_88 : decode cX5_play 88 = .ok (.aload_n 0, 1) := by decide +kernel
theorem dX5_play_89 : decode cX5_play 89 = .ok (.getfield 32, 3) := by decide +kernel
theorem dX5_play_92 : decode cX5_play 92 = .ok (.invokevirtual 121, 3) := by decide +kernel
theorem dX5_play_95 : decode cX5_play 95 = .ok (.aload_n 0, 1) := by decide +kernel
theorem dX5_play_96 : decode cX5_play 96 = .ok (.getfield 10, 3) := by decide +kernel
theorem dX5_play_99 : decode cX5_play 99 = .ok (.iconst 1, 1) := by decide +kernel
theorem dX5_play_100 : decode cX5_play 100 = .ok (.invokevirtual 103, 3) := by decide +kernel
theorem dX5_play_103 : decode cX5_play 103 = .ok (.iload_n 1, 1) := by decide +kernel
theorem dX5_play_104 : decode cX5_play 104 = .ok (.isub, 1) := by decide +kernel
theorem dX5_play_105 : decode cX5_play 105 = .ok (.ireturn, 1) := by decide +kernel
set_option maxRecDepth 20000 in
theorem ggX5_zoneOf_X4_has : GoodIn wsX5_zoneOf wsX4_has := goodIn_r _ [6, 7, 59, 60, 61] (by decide +kernel) (by decide +kernel)
set_option maxRecDepth 20000 in
theorem gX5_zoneOf_X4_has : GoodIn wsX5_zoneOf (wsV RX5 65 RX4 yX4_has wsX4_has) := goodIn_app (goodIn_of _ (by decide +kernel)) ggX5_zoneOf_X4_has
set_option maxRecDepth 20000 in
theorem ggX5_zoneOf_X5_within : GoodIn wsX5_zoneOf wsX5_within := goodIn_r _ [11] (by decide +kernel) (by decide +kernel)
set_option maxRecDepth 20000 in
theorem gX5_zoneOf_X5_within : GoodIn wsX5_zoneOf (va_wsS RX5 43 yX5_within wsX5_within) := goodIn_app (goodIn_of _ (by decide +kernel)) ggX5_zoneOf_X5_within
set_option maxRecDepth 20000 in
theorem ggX5_zoneOf_X4_rowsWith : GoodIn wsX5_zoneOf wsX4_rowsWith := goodIn_r _ [15, 7, 16, 17, 18, 5, 19, 20, 21, 59, 60, 61] (by decide +kernel) (by decide +kernel)
set_option maxRecDepth 20000 in
theorem gX5_zoneOf_X4_rowsWith : GoodIn wsX5_zoneOf (wsV RX5 73 RX4 yX4_rowsWith wsX4_rowsWith) := goodIn_app (goodIn_of _ (by decide +kernel)) ggX5_zoneOf_X4_rowsWith
set_option maxRecDepth 20000 in
theorem ggX5_zoneOf_X2_canSound : GoodIn wsX5_zoneOf wsX2_canSound := goodIn_r _ [26, 27, 28, 17, 18, 5, 19, 7, 20, 21, 29, 30, 31, 25, 32, 33, 34, 35, 36, 37, 38, 39, 40, 41, 42, 43, 44, 45, 54, 55, 56, 57, 58, 59, 60, 61] (by decide +kernel) (by decide +kernel)
set_option maxRecDepth 20000 in
theorem gX5_zoneOf_X2_canSound : GoodIn wsX5_zoneOf (wsV RX5 171 RX2 yX2_canSound wsX2_canSound) := goodIn_app (goodIn_of _ (by decide +kernel)) ggX5_zoneOf_X2_canSound
set_option maxRecDepth 20000 in
theorem ggX5_zoneOf_X4_get : GoodIn wsX5_zoneOf wsX4_get := goodIn_r _ [19, 7, 20, 21, 59, 60, 61] (by decide +kernel) (by decide +kernel)
set_option maxRecDepth 20000 in
theorem gX5_zoneOf_X4_get : GoodIn wsX5_zoneOf (wsV RX5 174 RX4 yX4_get wsX4_get) := goodIn_app (goodIn_of _ (by decide +kernel)) ggX5_zoneOf_X4_get
theorem dX5_zoneOf_0 : decode cX5_zoneOf 0 = .ok (.aload_n 0, 1) := by decide +kernel
theorem dX5_zoneOf_1 : decode cX5_zoneOf 1 = .ok (.getfield 10, 3) := by decide +kernel
theorem dX5_zoneOf_4 : decode cX5_zoneOf 4 = .ok (.getfield 47, 3) := by decide +kernel
theorem dX5_zoneOf_7 : decode cX5_zoneOf 7 = .ok (.iload_n 1, 1) := by decide +kernel
theorem dX5_zoneOf_8 : decode cX5_zoneOf 8 = .ok (.invokevirtual 65, 3) := by decide +kernel
theorem dX5_zoneOf_11 : decode cX5_zoneOf 11 = .ok (.ifCond .eq 13, 3) := by decide +kernel
theorem dX5_zoneOf_14 : decode cX5_zoneOf 14 = .ok (.iload_n 2, 1) := by decide +kernel
theorem dX5_zoneOf_15 : decode cX5_zoneOf 15 = .ok (.iconst 0, 1) := by decide +kernel
theorem dX5_zoneOf_16 : decode cX5_zoneOf 16 = .ok (.bipush 8, 2) := by decide +kernel
theorem dX5_zoneOf_18 : decode cX5_zoneOf 18 = .ok (.invokestatic 43, 3) := by decide +kernel
theorem dX5_zoneOf_21 : decode cX5_zoneOf 21 = .ok (.ifCond .ne 5, 3) := by decide +kernel
theorem dX5_zoneOf_24 : decode cX5_zoneOf 24 = .ok (.iconst (-1), 1) := by decide +kernel
theorem dX5_zoneOf_25 : decode cX5_zoneOf 25 = .ok (.ireturn, 1) := by decide +kernel
theorem dX5_zoneOf_26 : decode cX5_zoneOf 26 = .ok (.iload_n 2, 1) := by decide +kernel
theorem dX5_zoneOf_27 : decode cX5_zoneOf 27 = .ok (.bipush 7, 2) := by decide +kernel
theorem dX5_zoneOf_29 : decode cX5_zoneOf 29 = .ok (.if_icmp .ne 16, 3) := by decide +kernel
theorem dX5_zoneOf_32 : decode cX5_zoneOf 32 = .ok (.aload_n 0, 1) := by decide +kernel
theorem dX5_zoneOf_33 : decode cX5_zoneOf 33 = .ok (.getfield 10, 3) := by decide +kernel
theorem dX5_zoneOf_36 : decode cX5_zoneOf 36 = .ok (.getfield 168, 3) := by decide +kernel
theorem dX5_zoneOf_39 : decode cX5_zoneOf 39 = .ok (.iconst 0, 1) := by decide +kernel
theorem dX5_zoneOf_40 : decode cX5_zoneOf 40 = .ok (.iload_n 1, 1) := by decide +kernel
theorem dX5_zoneOf_41 : decode cX5_zoneOf 41 = .ok (.invokevirtual 73, 3) := by decide +kernel
theorem dX5_zoneOf_44 : decode cX5_zoneOf 44 = .ok (.ireturn, 1) := by decide +kernel
theorem dX5_zoneOf_45 : decode cX5_zoneOf 45 = .ok (.iload_n 2, 1) := by decide +kernel
theorem dX5_zoneOf_46 : decode cX5_zoneOf 46 = .ok (.bipush 8, 2) := by decide +kernel
theorem dX5_zoneOf_48 : decode cX5_zoneOf 48 = .ok (.if_icmp .ne 20, 3) := by decide +kernel
theorem dX5_zoneOf_51 : decode cX5_zoneOf 51 = .ok (.aload_n 0, 1) := by decide +kernel
theorem dX5_zoneOf_52 : decode cX5_zoneOf 52 = .ok (.getfield 10, 3) := by decide +kernel
theorem dX5_zoneOf_55 : decode cX5_zoneOf 55 = .ok (.iload_n 1, 1) := by decide +kernel
theorem dX5_zoneOf_56 : decode cX5_zoneOf 56 = .ok (.invokevirtual 171, 3) := by decide +kernel
theorem dX5_zoneOf_59 : decode cX5_zoneOf 59 = .ok (.ifCond .eq 7, 3) := by decide +kernel
theorem dX5_zoneOf_62 : decode cX5_zoneOf 62 = .ok (.iconst 1, 1) := by decide +kernel
theorem dX5_zoneOf_63 : decode cX5_zoneOf 63 = .ok (.goto 4, 3) := by decide +kernel
theorem dX5_zoneOf_66 : decode cX5_zoneOf 66 = .ok (.iconst 0, 1) := by decide +kernel
theorem dX5_zoneOf_67 : decode cX5_zoneOf 67 = .ok (.ireturn, 1) := by decide +kernel
theorem dX5_zoneOf_68 : decode cX5_zoneOf 68 = .ok (.aload_n 0, 1) := by decide +kernel
theorem dX5_zoneOf_69 : decode cX5_zoneOf 69 = .ok (.getfield 10, 3) := by decide +kernel
theorem dX5_zoneOf_72 : decode cX5_zoneOf 72 = .ok (.getfield 47, 3) := by decide +kernel
theorem dX5_zoneOf_75 : decode cX5_zoneOf 75 = .ok (.iload_n 1, 1) := by decide +kernel
theorem dX5_zoneOf_76 : decode cX5_zoneOf 76 = .ok (.iload_n 2, 1) := by decide +kernel
theorem dX5_zoneOf_77 : decode cX5_zoneOf 77 = .ok (.invokevirtual 174, 3) := by decide +kernel
theorem dX5_zoneOf_80 : decode cX5_zoneOf 80 = .ok (.ireturn, 1) := by decide +kernel
set_option maxRecDepth 20000 in
theorem ggX5_voice_X4_has : GoodIn wsX5_voice wsX4_has := goodIn_r _ [6, 7, 50, 51, 52] (by decide +kernel) (by decide +kernel)
set_option maxRecDepth 20000 in
theorem gX5_voice_X4_has : GoodIn wsX5_voice (wsV RX5 65 RX4 yX4_has wsX4_has) := goodIn_app (goodIn_of _ (by decide +kernel)) ggX5_voice_X4_has
set_option maxRecDepth 20000 in
theorem ggX5_voice_X5_within : GoodIn wsX5_voice wsX5_within := goodIn_r _ [11] (by decide +kernel) (by decide +kernel)
set_option maxRecDepth 20000 in
theorem gX5_voice_X5_within : GoodIn wsX5_voice (va_wsS RX5 43 yX5_within wsX5_within) := goodIn_app (goodIn_of _ (by decide +kernel)) ggX5_voice_X5_within
set_option maxRecDepth 20000 in
theorem ggX5_voice_X2_stealPlace : GoodIn wsX5_voice wsX2_stealPlace := goodIn_r _ [16, 17, 18, 19, 20, 15, 21, 22, 23, 24, 25, 26, 27, 28, 29, 5, 30, 7, 31, 32, 33, 34, 35, 36, 45, 46, 47, 48, 49, 50, 51, 52] (by decide +kernel) (by decide +kernel)
set_option maxRecDepth 20000 in
theorem gX5_voice_X2_stealPlace : GoodIn wsX5_voice (wsV RX5 177 RX2 yX2_stealPlace wsX2_stealPlace) := goodIn_app (goodIn_of _ (by decide +kernel)) ggX5_voice_X2_stealPlace
set_option maxRecDepth 20000 in
theorem ggX5_voice_X4_get : GoodIn wsX5_voice wsX4_get := goodIn_r _ [30, 7, 31, 32, 50, 51, 52] (by decide +kernel) (by decide +kernel)
set_option maxRecDepth 20000 in
theorem gX5_voice_X4_get : GoodIn wsX5_voice (wsV RX5 174 RX4 yX4_get wsX4_get) := goodIn_app (goodIn_of _ (by decide +kernel)) ggX5_voice_X4_get
theorem dX5_voice_0 : decode cX5_voice 0 = .ok (.aload_n 0, 1) := by decide +kernel
theorem dX5_voice_1 : decode cX5_voice 1 = .ok (.getfield 10, 3) := by decide +kernel
theorem dX5_voice_4 : decode cX5_voice 4 = .ok (.getfield 168, 3) := by decide +kernel
theorem dX5_voice_7 : decode cX5_voice 7 = .ok (.iload_n 1, 1) := by decide +kernel
theorem dX5_voice_8 : decode cX5_voice 8 = .ok (.invokevirtual 65, 3) := by decide +kernel
theorem dX5_voice_11 : decode cX5_voice 11 = .ok (.ifCond .eq 13, 3) := by decide +kernel
theorem dX5_voice_14 : decode cX5_voice 14 = .ok (.iload_n 2, 1) := by decide +kernel
theorem dX5_voice_15 : decode cX5_voice 15 = .ok (.iconst 0, 1) := by decide +kernel
theorem dX5_voice_16 : decode cX5_voice 16 = .ok (.bipush 6, 2) := by decide +kernel
theorem dX5_voice_18 : decode cX5_voice 18 = .ok (.invokestatic 43, 3) := by decide +kernel
theorem dX5_voice_21 : decode cX5_voice 21 = .ok (.ifCond .ne 5, 3) := by decide +kernel
theorem dX5_voice_24 : decode cX5_voice 24 = .ok (.iconst (-1), 1) := by decide +kernel
theorem dX5_voice_25 : decode cX5_voice 25 = .ok (.ireturn, 1) := by decide +kernel
theorem dX5_voice_26 : decode cX5_voice 26 = .ok (.iload_n 2, 1) := by decide +kernel
theorem dX5_voice_27 : decode cX5_voice 27 = .ok (.bipush 6, 2) := by decide +kernel
theorem dX5_voice_29 : decode cX5_voice 29 = .ok (.if_icmp .ne 14, 3) := by decide +kernel
theorem dX5_voice_32 : decode cX5_voice 32 = .ok (.aload_n 0, 1) := by decide +kernel
theorem dX5_voice_33 : decode cX5_voice 33 = .ok (.getfield 10, 3) := by decide +kernel
theorem dX5_voice_36 : decode cX5_voice 36 = .ok (.iload_n 1, 1) := by decide +kernel
theorem dX5_voice_37 : decode cX5_voice 37 = .ok (.invokevirtual 177, 3) := by decide +kernel
theorem dX5_voice_40 : decode cX5_voice 40 = .ok (.goto 15, 3) := by decide +kernel
theorem dX5_voice_43 : decode cX5_voice 43 = .ok (.aload_n 0, 1) := by decide +kernel
theorem dX5_voice_44 : decode cX5_voice 44 = .ok (.getfield 10, 3) := by decide +kernel
theorem dX5_voice_47 : decode cX5_voice 47 = .ok (.getfield 168, 3) := by decide +kernel
theorem dX5_voice_50 : decode cX5_voice 50 = .ok (.iload_n 1, 1) := by decide +kernel
theorem dX5_voice_51 : decode cX5_voice 51 = .ok (.iload_n 2, 1) := by decide +kernel
theorem dX5_voice_52 : decode cX5_voice 52 = .ok (.invokevirtual 174, 3) := by decide +kernel
theorem dX5_voice_55 : decode cX5_voice 55 = .ok (.ireturn, 1) := by decide +kernel
set_option maxRecDepth 20000 in
theorem ggX5_answers_X5_isNote : GoodIn wsX5_answers wsX5_isNote := goodIn_r _ [5, 6, 7, 4, 8] (by decide +kernel) (by decide +kernel)
set_option maxRecDepth 20000 in
theorem gX5_answers_X5_isNote : GoodIn wsX5_answers (va_wsS RX5 81 yX5_isNote wsX5_isNote) := goodIn_app (goodIn_of _ (by decide +kernel)) ggX5_answers_X5_isNote
set_option maxRecDepth 20000 in
theorem ggX5_answers_X2_matching : GoodIn wsX5_answers wsX2_matching := goodIn_r _ [13, 14, 15, 16, 17, 18, 19, 20, 21, 22, 23, 12, 24, 25, 26, 27, 28, 29, 30, 38, 39, 40, 41, 42, 43, 44, 45] (by decide +kernel) (by decide +kernel)
set_option maxRecDepth 20000 in
theorem gX5_answers_X2_matching : GoodIn wsX5_answers (wsV RX5 180 RX2 yX2_matching wsX2_matching) := goodIn_app (goodIn_of _ (by decide +kernel)) ggX5_answers_X2_matching
theorem dX5_answers_0 : decode cX5_answers 0 = .ok (.iload_n 1, 1) := by decide +kernel
theorem dX5_answers_1 : decode cX5_answers 1 = .ok (.iload_n 2, 1) := by decide +kernel
theorem dX5_answers_2 : decode cX5_answers 2 = .ok (.invokestatic 81, 3) := by decide +kernel
theorem dX5_answers_5 : decode cX5_answers 5 = .ok (.ifCond .eq 15, 3) := by decide +kernel
theorem dX5_answers_8 : decode cX5_answers 8 = .ok (.aload_n 0, 1) := by decide +kernel
theorem dX5_answers_9 : decode cX5_answers 9 = .ok (.getfield 10, 3) := by decide +kernel
theorem dX5_answers_12 : decode cX5_answers 12 = .ok (.iload_n 1, 1) := by decide +kernel
theorem dX5_answers_13 : decode cX5_answers 13 = .ok (.iload_n 2, 1) := by decide +kernel
theorem dX5_answers_14 : decode cX5_answers 14 = .ok (.invokevirtual 180, 3) := by decide +kernel
theorem dX5_answers_17 : decode cX5_answers 17 = .ok (.goto 4, 3) := by decide +kernel
theorem dX5_answers_20 : decode cX5_answers 20 = .ok (.iconst (-1), 1) := by decide +kernel
theorem dX5_answers_21 : decode cX5_answers 21 = .ok (.ireturn, 1) := by decide +kernel
set_option maxRecDepth 20000 in
theorem ggX5_map_X5_within : GoodIn wsX5_map wsX5_within := goodIn_r _ [6] (by decide +kernel) (by decide +kernel)
set_option maxRecDepth 20000 in
theorem gX5_map_X5_within : GoodIn wsX5_map (va_wsS RX5 43 yX5_within wsX5_within) := goodIn_app (goodIn_of _ (by decide +kernel)) ggX5_map_X5_within
set_option maxRecDepth 20000 in
theorem ggX5_map_X3_goByPlaces : GoodIn wsX5_map wsX3_goByPlaces := goodIn_r _ [11, 12, 13, 14, 10, 15, 16, 17, 18, 19, 20, 21, 22, 23, 24, 25, 26, 27, 28, 29, 30, 31, 32, 33, 34, 35, 36, 37, 38, 39, 40, 41, 42, 43, 44, 45, 46, 47, 48, 49, 50, 72, 73, 74, 75, 76, 77, 78, 79, 80, 81, 82, 83, 84] (by decide +kernel) (by decide +kernel)
set_option maxRecDepth 20000 in
theorem gX5_map_X3_goByPlaces : GoodIn wsX5_map (wsV RX5 183 RX3 yX3_goByPlaces wsX3_goByPlaces) := goodIn_app (goodIn_of _ (by decide +kernel)) ggX5_map_X3_goByPlaces
set_option maxRecDepth 20000 in
theorem ggX5_map_X3_goByEdges : GoodIn wsX5_map wsX3_goByEdges := goodIn_r _ [54, 16, 12, 13, 14, 10, 15, 17, 18, 19, 20, 55, 28, 29, 30, 31, 32, 56, 38, 39, 40, 41, 42, 57, 58, 59, 60, 43, 44, 45, 46, 47, 48, 49, 50, 77, 78, 79, 80, 81, 72, 73, 74, 75, 76, 82, 83, 84] (by decide +kernel) (by decide +kernel)
set_option maxRecDepth 20000 in
theorem gX5_map_X3_goByEdges : GoodIn wsX5_map (wsV RX5 186 RX3 yX3_goByEdges wsX3_goByEdges) := goodIn_app (goodIn_of _ (by decide +kernel)) ggX5_map_X3_goByEdges
set_option maxRecDepth 20000 in
theorem ggX5_map_X3_finding : GoodIn wsX5_map wsX3_finding := goodIn_r _ [64, 17, 18, 19, 20, 72, 73, 74, 75, 76] (by decide +kernel) (by decide +kernel)
set_option maxRecDepth 20000 in
theorem gX5_map_X3_finding : GoodIn wsX5_map (wsV RX5 189 RX3 yX3_finding wsX3_finding) := goodIn_app (goodIn_of _ (by decide +kernel)) ggX5_map_X3_finding
theorem dX5_map_0 : decode cX5_map 0 = .ok (.iload_n 1, 1) := by decide +kernel
theorem dX5_map_1 : decode cX5_map 1 = .ok (.iconst 0, 1) := by decide +kernel
theorem dX5_map_2 : decode cX5_map 2 = .ok (.iconst 3, 1) := by decide +kernel
theorem dX5_map_3 : decode cX5_map 3 = .ok (.invokestatic 43, 3) := by decide +kernel
theorem dX5_map_6 : decode cX5_map 6 = .ok (.ifCond .eq 12, 3) := by decide +kernel
theorem dX5_map_9 : decode cX5_map 9 = .ok (.iload_n 2, 1) := by decide +kernel
theorem dX5_map_10 : decode cX5_map 10 = .ok (.iconst 0, 1) := by decide +kernel
theorem dX5_map_11 : decode cX5_map 11 = .ok (.iconst 1, 1) := by decide +kernel
theorem dX5_map_12 : decode cX5_map 12 = .ok (.invokestatic 43, 3) := by decide +kernel
theorem dX5_map_15 : decode cX5_map 15 = .ok (.ifCond .ne 5, 3) := by decide +kernel
theorem dX5_map_18 : decode cX5_map 18 = .ok (.iconst (-1), 1) := by decide +kernel
theorem dX5_map_19 : decode cX5_map 19 = .ok (.ireturn, 1) := by decide +kernel
theorem dX5_map_20 : decode cX5_map 20 = .ok (.iload_n 2, 1) := by decide +kernel
theorem dX5_map_21 : decode cX5_map 21 = .ok (.ifCond .ne 17, 3) := by decide +kernel
theorem dX5_map_24 : decode cX5_map 24 = .ok (.aload_n 0, 1) := by decide +kernel
theorem dX5_map_25 : decode cX5_map 25 = .ok (.getfield 39, 3) := by decide +kernel
theorem dX5_map_28 : decode cX5_map 28 = .ok (.aload_n 0, 1) := by decide +kernel
theorem dX5_map_29 : decode cX5_map 29 = .ok (.getfield 10, 3) := by decide +kernel
theorem dX5_map_32 : decode cX5_map 32 = .ok (.invokevirtual 183, 3) := by decide +kernel
theorem dX5_map_35 : decode cX5_map 35 = .ok (.goto 14, 3) := by decide +kernel
theorem dX5_map_38 : decode cX5_map 38 = .ok (.aload_n 0, 1) := by decide +kernel
theorem dX5_map_39 : decode cX5_map 39 = .ok (.getfield 39, 3) := by decide +kernel
theorem dX5_map_42 : decode cX5_map 42 = .ok (.aload_n 0, 1) := by decide +kernel
theorem dX5_map_43 : decode cX5_map 43 = .ok (.getfield 10, 3) := by decide +kernel
theorem dX5_map_46 : decode cX5_map 46 = .ok (.invokevirtual 186, 3) := by decide +kernel
theorem dX5_map_49 : decode cX5_map 49 = .ok (.aload_n 0, 1) := by decide +kernel
theorem dX5_map_50 : decode cX5_map 50 = .ok (.getfield 39, 3) := by decide +kernel
theorem dX5_map_53 : decode cX5_map 53 = .ok (.iload_n 1, 1) := by decide +kernel
theorem dX5_map_54 : decode cX5_map 54 = .ok (.invokevirtual 189, 3) := by decide +kernel
theorem dX5_map_57 : decode cX5_map 57 = .ok (.ireturn, 1) := by decide +kernel
set_option maxRecDepth 20000 in
theorem ggX5_count_X5_within : GoodIn wsX5_count wsX5_within := goodIn_r _ [7] (by decide +kernel) (by decide +kernel)
set_option maxRecDepth 20000 in
theorem gX5_count_X5_within : GoodIn wsX5_count (va_wsS RX5 43 yX5_within wsX5_within) := goodIn_app (goodIn_of _ (by decide +kernel)) ggX5_count_X5_within
set_option maxRecDepth 20000 in
theorem ggX5_count_X2_number : GoodIn wsX5_count wsX2_number := goodIn_r _ [12, 13, 53, 54, 55, 56, 57] (by decide +kernel) (by decide +kernel)
set_option maxRecDepth 20000 in
theorem gX5_count_X2_number : GoodIn wsX5_count (wsV RX5 103 RX2 yX2_number wsX2_number) := goodIn_app (goodIn_of _ (by decide +kernel)) ggX5_count_X2_number
set_option maxRecDepth 20000 in
theorem ggX5_count_X4_rows : GoodIn wsX5_count wsX4_rows := goodIn_r _ [18, 19, 58, 59, 60] (by decide +kernel) (by decide +kernel)
set_option maxRecDepth 20000 in
theorem gX5_count_X4_rows : GoodIn wsX5_count (wsV RX5 51 RX4 yX4_rows wsX4_rows) := goodIn_app (goodIn_of _ (by decide +kernel)) ggX5_count_X4_rows
set_option maxRecDepth 20000 in
theorem ggX5_count_X4_rowsWith : GoodIn wsX5_count wsX4_rowsWith := goodIn_r _ [23, 19, 24, 25, 26, 17, 27, 28, 29, 58, 59, 60] (by decide +kernel) (by decide +kernel)
set_option maxRecDepth 20000 in
theorem gX5_count_X4_rowsWith : GoodIn wsX5_count (wsV RX5 73 RX4 yX4_rowsWith wsX4_rowsWith) := goodIn_app (goodIn_of _ (by decide +kernel)) ggX5_count_X4_rowsWith
set_option maxRecDepth 20000 in
theorem ggX5_count_X4_sumOf : GoodIn wsX5_count wsX4_sumOf := goodIn_r _ [33, 19, 24, 25, 26, 17, 27, 28, 29, 58, 59, 60] (by decide +kernel) (by decide +kernel)
set_option maxRecDepth 20000 in
theorem gX5_count_X4_sumOf : GoodIn wsX5_count (wsV RX5 192 RX4 yX4_sumOf wsX4_sumOf) := goodIn_app (goodIn_of _ (by decide +kernel)) ggX5_count_X4_sumOf
set_option maxRecDepth 20000 in
theorem ggX5_count_X1_length : GoodIn wsX5_count wsX1_length := goodIn_r _ [38, 39, 61, 62, 63, 64, 65, 66, 67, 68, 69, 70, 71, 72, 73, 74] (by decide +kernel) (by decide +kernel)
set_option maxRecDepth 20000 in
theorem gX5_count_X1_length : GoodIn wsX5_count (wsV RX5 114 RX1 yX1_length wsX1_length) := goodIn_app (goodIn_of _ (by decide +kernel)) ggX5_count_X1_length
set_option maxRecDepth 20000 in
theorem ggX5_count_X0_size : GoodIn wsX5_count wsX0_size := goodIn_r _ [44, 45, 75, 76, 77, 78, 79] (by decide +kernel) (by decide +kernel)
set_option maxRecDepth 20000 in
theorem gX5_count_X0_size : GoodIn wsX5_count (wsV RX5 199 RX0 yX0_size wsX0_size) := goodIn_app (goodIn_of _ (by decide +kernel)) ggX5_count_X0_size
theorem dX5_count_0 : decode cX5_count 0 = .ok (.iload_n 1, 1) := by decide +kernel
theorem dX5_count_1 : decode cX5_count 1 = .ok (.iconst 0, 1) := by decide +kernel
theorem dX5_count_2 : decode cX5_count 2 = .ok (.bipush 21, 2) := by decide +kernel
theorem dX5_count_4 : decode cX5_count 4 = .ok (.invokestatic 43, 3) := by decide +kernel
theorem dX5_count_7 : decode cX5_count 7 = .ok (.ifCond .ne 5, 3) := by decide +kernel
theorem dX5_count_10 : decode cX5_count 10 = .ok (.iconst (-1), 1) := by decide +kernel
theorem dX5_count_11 : decode cX5_count 11 = .ok (.ireturn, 1) := by decide +kernel
theorem dX5_count_12 : decode cX5_count 12 = .ok (.iload_n 1, 1) := by decide +kernel
theorem dX5_count_13 : decode cX5_count 13 = .ok (.bipush 7, 2) := by decide +kernel
theorem dX5_count_15 : decode cX5_count 15 = .ok (.if_icmp .lt 21, 3) := by decide +kernel
theorem dX5_count_18 : decode cX5_count 18 = .ok (.iload_n 1, 1) := by decide +kernel
theorem dX5_count_19 : decode cX5_count 19 = .ok (.bipush 20, 2) := by decide +kernel
theorem dX5_count_21 : decode cX5_count 21 = .ok (.if_icmp .ge 15, 3) := by decide +kernel
theorem dX5_count_24 : decode cX5_count 24 = .ok (.aload_n 0, 1) := by decide +kernel
theorem dX5_count_25 : decode cX5_count 25 = .ok (.getfield 10, 3) := by decide +kernel
theorem dX5_count_28 : decode cX5_count 28 = .ok (.iload_n 1, 1) := by decide +kernel
theorem dX5_count_29 : decode cX5_count 29 = .ok (.bipush 7, 2) := by decide +kernel
theorem dX5_count_31 : decode cX5_count 31 = .ok (.isub, 1) := by decide +kernel
theorem dX5_count_32 : decode cX5_count 32 = .ok (.invokevirtual 103, 3) := by decide +kernel
theorem dX5_count_35 : decode cX5_count 35 = .ok (.ireturn, 1) := by decide +kernel
theorem dX5_count_36 : decode cX5_count 36 = .ok (.iload_n 1, 1) := by decide +kernel
theorem dX5_count_37 : decode cX5_count 37 = .ok (.tableswitch 196 0 20 #[99, 110, 121, 134, 147, 160, 172, 196, 196, 196, 196, 196, 196, 196, 196, 196, 196, 196, 196, 196, 188], 99) := by decide +kernel
theorem dX5_count_136 : decode cX5_count 136 = .ok (.aload_n 0, 1) := by decide +kernel
theorem dX5_count_137 : decode cX5_count 137 = .ok (.getfield 10, 3) := by decide +kernel
theorem dX5_count_140 : decode cX5_count 140 = .ok (.getfield 47, 3) := by decide +kernel
theorem dX5_count_143 : decode cX5_count 143 = .ok (.invokevirtual 51, 3) := by decide +kernel
theorem dX5_count_146 : decode cX5_count 146 = .ok (.ireturn, 1) := by decide +kernel
theorem dX5_count_147 : decode cX5_count 147 = .ok (.aload_n 0, 1) := by decide +kernel
theorem dX5_count_148 : decode cX5_count 148 = .ok (.getfield 10, 3) := by decide +kernel
theorem dX5_count_151 : decode cX5_count 151 = .ok (.getfield 168, 3) := by decide +kernel
theorem dX5_count_154 : decode cX5_count 154 = .ok (.invokevirtual 51, 3) := by decide +kernel
theorem dX5_count_157 : decode cX5_count 157 = .ok (.ireturn, 1) := by decide +kernel
theorem dX5_count_158 : decode cX5_count 158 = .ok (.aload_n 0, 1) := by decide +kernel
theorem dX5_count_159 : decode cX5_count 159 = .ok (.getfield 10, 3) := by decide +kernel
theorem dX5_count_162 : decode cX5_count 162 = .ok (.getfield 168, 3) := by decide +kernel
theorem dX5_count_165 : decode cX5_count 165 = .ok (.iconst 5, 1) := by decide +kernel
theorem dX5_count_166 : decode cX5_count 166 = .ok (.iconst 0, 1) := by decide +kernel
theorem dX5_count_167 : decode cX5_count 167 = .ok (.invokevirtual 73, 3) := by decide +kernel
theorem dX5_count_170 : decode cX5_count 170 = .ok (.ireturn, 1) := by decide +kernel
theorem dX5_count_171 : decode cX5_count 171 = .ok (.aload_n 0, 1) := by decide +kernel
theorem dX5_count_172 : decode cX5_count 172 = .ok (.getfield 10, 3) := by decide +kernel
theorem dX5_count_175 : decode cX5_count 175 = .ok (.getfield 168, 3) := by decide +kernel
theorem dX5_count_178 : decode cX5_count 178 = .ok (.iconst 5, 1) := by decide +kernel
theorem dX5_count_179 : decode cX5_count 179 = .ok (.iconst 1, 1) := by decide +kernel
theorem dX5_count_180 : decode cX5_count 180 = .ok (.invokevirtual 73, 3) := by decide +kernel
theorem dX5_count_183 : decode cX5_count 183 = .ok (.ireturn, 1) := by decide +kernel
theorem dX5_count_184 : decode cX5_count 184 = .ok (.aload_n 0, 1) := by decide +kernel
theorem dX5_count_185 : decode cX5_count 185 = .ok (.getfield 10, 3) := by decide +kernel
theorem dX5_count_188 : decode cX5_count 188 = .ok (.getfield 168, 3) := by decide +kernel
theorem dX5_count_191 : decode cX5_count 191 = .ok (.iconst 5, 1) := by decide +kernel
theorem dX5_count_192 : decode cX5_count 192 = .ok (.iconst 2, 1) := by decide +kernel
theorem dX5_count_193 : decode cX5_count 193 = .ok (.invokevirtual 73, 3) := by decide +kernel
theorem dX5_count_196 : decode cX5_count 196 = .ok (.ireturn, 1) := by decide +kernel
theorem dX5_count_197 : decode cX5_count 197 = .ok (.aload_n 0, 1) := by decide +kernel
theorem dX5_count_198 : decode cX5_count 198 = .ok (.getfield 10, 3) := by decide +kernel
theorem dX5_count_201 : decode cX5_count 201 = .ok (.getfield 168, 3) := by decide +kernel
theorem dX5_count_204 : decode cX5_count 204 = .ok (.iconst 3, 1) := by decide +kernel
theorem dX5_count_205 : decode cX5_count 205 = .ok (.invokevirtual 192, 3) := by decide +kernel
theorem dX5_count_208 : decode cX5_count 208 = .ok (.ireturn, 1) := by decide +kernel
theorem dX5_count_209 : decode cX5_count 209 = .ok (.aload_n 0, 1) := by decide +kernel
theorem dX5_count_210 : decode cX5_count 210 = .ok (.getfield 10, 3) := by decide +kernel
theorem dX5_count_213 : decode cX5_count 213 = .ok (.getfield 195, 3) := by decide +kernel
theorem dX5_count_216 : decode cX5_count 216 = .ok (.ifCond .eq 7, 3) := by decide +kernel
theorem dX5_count_219 : decode cX5_count 219 = .ok (.iconst 1, 1) := by decide +kernel
theorem dX5_count_220 : decode cX5_count 220 = .ok (.goto 4, 3) := by decide +kernel
theorem dX5_count_223 : decode cX5_count 223 = .ok (.iconst 0, 1) := by decide +kernel
theorem dX5_count_224 : decode cX5_count 224 = .ok (.ireturn, 1) := by decide +kernel
theorem dX5_count_225 : decode cX5_count 225 = .ok (.aload_n 0, 1) := by decide +kernel
theorem dX5_count_226 : decode cX5_count 226 = .ok (.getfield 32, 3) := by decide +kernel
theorem dX5_count_229 : decode cX5_count 229 = .ok (.invokevirtual 114, 3) := by decide +kernel
theorem dX5_count_232 : decode cX5_count 232 = .ok (.ireturn, 1) := by decide +kernel
theorem dX5_count_233 : decode cX5_count 233 = .ok (.aload_n 0, 1) := by decide +kernel
theorem dX5_count_234 : decode cX5_count 234 = .ok (.getfield 25, 3) := by decide +kernel
theorem dX5_count_237 : decode cX5_count 237 = .ok (.invokevirtual 199, 3) := by decide +kernel
theorem dX5_count_240 : decode cX5_count 240 = .ok (.ireturn, 1) := by decide +kernel
set_option maxRecDepth 20000 in
theorem ggX5_loudness_X4_rows : GoodIn wsX5_loudness wsX4_rows := goodIn_r _ [6, 7, 30, 31, 32] (by decide +kernel) (by decide +kernel)
set_option maxRecDepth 20000 in
theorem gX5_loudness_X4_rows : GoodIn wsX5_loudness (wsV RX5 51 RX4 yX4_rows wsX4_rows) := goodIn_app (goodIn_of _ (by decide +kernel)) ggX5_loudness_X4_rows
set_option maxRecDepth 20000 in
theorem ggX5_loudness_X4_sumOf : GoodIn wsX5_loudness wsX4_sumOf := goodIn_r _ [11, 7, 12, 13, 14, 5, 15, 16, 17, 30, 31, 32] (by decide +kernel) (by decide +kernel)
set_option maxRecDepth 20000 in
theorem gX5_loudness_X4_sumOf : GoodIn wsX5_loudness (wsV RX5 192 RX4 yX4_sumOf wsX4_sumOf) := goodIn_app (goodIn_of _ (by decide +kernel)) ggX5_loudness_X4_sumOf
theorem dX5_loudness_0 : decode cX5_loudness 0 = .ok (.aload_n 0, 1) := by decide +kernel
theorem dX5_loudness_1 : decode cX5_loudness 1 = .ok (.getfield 10, 3) := by decide +kernel
theorem dX5_loudness_4 : decode cX5_loudness 4 = .ok (.getfield 168, 3) := by decide +kernel
theorem dX5_loudness_7 : decode cX5_loudness 7 = .ok (.invokevirtual 51, 3) := by decide +kernel
theorem dX5_loudness_10 : decode cX5_loudness 10 = .ok (.istore_n 1, 1) := by decide +kernel
theorem dX5_loudness_11 : decode cX5_loudness 11 = .ok (.iload_n 1, 1) := by decide +kernel
theorem dX5_loudness_12 : decode cX5_loudness 12 = .ok (.ifCond .le 21, 3) := by decide +kernel
theorem dX5_loudness_15 : decode cX5_loudness 15 = .ok (.aload_n 0, 1) := by decide +kernel
theorem dX5_loudness_16 : decode cX5_loudness 16 = .ok (.getfield 10, 3) := by decide +kernel
theorem dX5_loudness_19 : decode cX5_loudness 19 = .ok (.getfield 168, 3) := by decide +kernel
theorem dX5_loudness_22 : decode cX5_loudness 22 = .ok (.iconst 3, 1) := by decide +kernel
theorem dX5_loudness_23 : decode cX5_loudness 23 = .ok (.invokevirtual 192, 3) := by decide +kernel
theorem dX5_loudness_26 : decode cX5_loudness 26 = .ok (.i2d, 1) := by decide +kernel
theorem dX5_loudness_27 : decode cX5_loudness 27 = .ok (.iload_n 1, 1) := by decide +kernel
theorem dX5_loudness_28 : decode cX5_loudness 28 = .ok (.i2d, 1) := by decide +kernel
theorem dX5_loudness_29 : decode cX5_loudness 29 = .ok (.ddiv, 1) := by decide +kernel
theorem dX5_loudness_30 : decode cX5_loudness 30 = .ok (.goto 4, 3) := by decide +kernel
theorem dX5_loudness_33 : decode cX5_loudness 33 = .ok (.dconst 0, 1) := by decide +kernel
theorem dX5_loudness_34 : decode cX5_loudness 34 = .ok (.dreturn, 1) := by decide +kernel
set_option maxRecDepth 20000 in
theorem ggX5_ifHit_X5_isNote : GoodIn wsX5_ifHit wsX5_isNote := goodIn_r _ [6, 7, 8, 5, 9] (by decide +kernel) (by decide +kernel)
set_option maxRecDepth 20000 in
theorem gX5_ifHit_X5_isNote : GoodIn wsX5_ifHit (va_wsS RX5 81 yX5_isNote wsX5_isNote) := goodIn_app (goodIn_of _ (by decide +kernel)) ggX5_ifHit_X5_isNote
set_option maxRecDepth 20000 in
theorem ggX5_ifHit_X5_within : GoodIn wsX5_ifHit wsX5_within := goodIn_r _ [9] (by decide +kernel) (by decide +kernel)
set_option maxRecDepth 20000 in
theorem gX5_ifHit_X5_within : GoodIn wsX5_ifHit (va_wsS RX5 43 yX5_within wsX5_within) := goodIn_app (goodIn_of _ (by decide +kernel)) ggX5_ifHit_X5_within
set_option maxRecDepth 20000 in
theorem ggX5_ifHit_X2_firstSounding : GoodIn wsX5_ifHit wsX2_firstSounding := goodIn_r _ [14, 15, 16, 17, 18, 19, 20, 21, 22, 23, 24, 13, 25, 26, 27, 28, 29, 30, 31, 32, 33, 34, 35, 36, 37, 38, 39, 40, 123, 124, 125, 126, 127, 128, 129, 130] (by decide +kernel) (by decide +kernel)
set_option maxRecDepth 20000 in
theorem gX5_ifHit_X2_firstSounding : GoodIn wsX5_ifHit (wsV RX5 202 RX2 yX2_firstSounding wsX2_firstSounding) := goodIn_app (goodIn_of _ (by decide +kernel)) ggX5_ifHit_X2_firstSounding
set_option maxRecDepth 20000 in
theorem ggX5_ifHit_X2_copyFrom : GoodIn wsX5_ifHit wsX2_copyFrom := goodIn_r _ [44, 15, 45, 40, 46, 47, 48, 49, 50, 51, 52, 53, 54, 55, 56, 57, 58, 19, 59, 35, 60, 61, 21, 123, 124, 125, 126, 127, 128, 129, 130] (by decide +kernel) (by decide +kernel)
set_option maxRecDepth 20000 in
theorem gX5_ifHit_X2_copyFrom : GoodIn wsX5_ifHit (wsV RX5 205 RX2 yX2_copyFrom wsX2_copyFrom) := goodIn_app (goodIn_of _ (by decide +kernel)) ggX5_ifHit_X2_copyFrom
set_option maxRecDepth 20000 in
theorem ggX5_ifHit_X2_strike : GoodIn wsX5_ifHit wsX2_strike := goodIn_r _ [65, 55, 15, 66, 67, 68, 13, 69, 45, 16, 17, 18, 19, 20, 21, 30, 31, 32, 33, 34, 35, 70, 71, 72, 73, 22, 23, 24, 25, 26, 27, 28, 29, 36, 37, 38, 39, 40, 74, 75, 76, 77, 78, 79, 80, 81, 82, 83, 84, 85, 86, 87, 88, 89, 90, 91, 92, 93, 94, 95, 96, 97, 98, 99, 100, 101, 102, 103, 104, 105, 106, 107, 108, 109, 110, 111, 112, 113, 123, 124, 125, 126, 127, 128, 129, 130] (by decide +kernel) (by decide +kernel)
set_option maxRecDepth 20000 in
theorem gX5_ifHit_X2_strike : GoodIn wsX5_ifHit (wsV RX5 85 RX2 yX2_strike wsX2_strike) := goodIn_app (goodIn_of _ (by decide +kernel)) ggX5_ifHit_X2_strike
set_option maxRecDepth 20000 in
theorem ggX5_ifHit_X2_number : GoodIn wsX5_ifHit wsX2_number := goodIn_r _ [39, 40, 123, 124, 125, 126, 127] (by decide +kernel) (by decide +kernel)
set_option maxRecDepth 20000 in
theorem gX5_ifHit_X2_number : GoodIn wsX5_ifHit (wsV RX5 103 RX2 yX2_number wsX2_number) := goodIn_app (goodIn_of _ (by decide +kernel)) ggX5_ifHit_X2_number
set_option maxRecDepth 20000 in
theorem ggX5_ifHit_X4_rows : GoodIn wsX5_ifHit wsX4_rows := goodIn_r _ [20, 21, 128, 129, 130] (by decide +kernel) (by decide +kernel)
set_option maxRecDepth 20000 in
theorem gX5_ifHit_X4_rows : GoodIn wsX5_ifHit (wsV RX5 51 RX4 yX4_rows wsX4_rows) := goodIn_app (goodIn_of _ (by decide +kernel)) ggX5_ifHit_X4_rows
theorem dX5_ifHit_0 : decode cX5_ifHit 0 = .ok (.iload_n 1, 1) := by decide +kernel
theorem dX5_ifHit_1 : decode cX5_ifHit 1 = .ok (.iload_n 2, 1) := by decide +kernel
theorem dX5_ifHit_2 : decode cX5_ifHit 2 = .ok (.invokestatic 81, 3) := by decide +kernel
theorem dX5_ifHit_5 : decode cX5_ifHit 5 = .ok (.ifCond .eq 12, 3) := by decide +kernel
theorem dX5_ifHit_8 : decode cX5_ifHit 8 = .ok (.iload_n 3, 1) := by decide +kernel
theorem dX5_ifHit_9 : decode cX5_ifHit 9 = .ok (.iconst 0, 1) := by decide +kernel
theorem dX5_ifHit_10 : decode cX5_ifHit 10 = .ok (.iconst 4, 1) := by decide +kernel
theorem dX5_ifHit_11 : decode cX5_ifHit 11 = .ok (.invokestatic 43, 3) := by decide +kernel
theorem dX5_ifHit_14 : decode cX5_ifHit 14 = .ok (.ifCond .ne 5, 3) := by decide +kernel
theorem dX5_ifHit_17 : decode cX5_ifHit 17 = .ok (.iconst (-1), 1) := by decide +kernel
theorem dX5_ifHit_18 : decode cX5_ifHit 18 = .ok (.ireturn, 1) := by decide +kernel
theorem dX5_ifHit_19 : decode cX5_ifHit 19 = .ok (.iload_n 3, 1) := by decide +kernel
theorem dX5_ifHit_20 : decode cX5_ifHit 20 = .ok (.iconst 3, 1) := by decide +kernel
theorem dX5_ifHit_21 : decode cX5_ifHit 21 = .ok (.if_icmp .ne 13, 3) := by decide +kernel
theorem dX5_ifHit_24 : decode cX5_ifHit 24 = .ok (.aload_n 0, 1) := by decide +kernel
theorem dX5_ifHit_25 : decode cX5_ifHit 25 = .ok (.getfield 10, 3) := by decide +kernel
theorem dX5_ifHit_28 : decode cX5_ifHit 28 = .ok (.iload_n 1, 1) := by decide +kernel
theorem dX5_ifHit_29 : decode cX5_ifHit 29 = .ok (.iload_n 2, 1) := by decide +kernel
theorem dX5_ifHit_30 : decode cX5_ifHit 30 = .ok (.invokevirtual 202, 3) := by decide +kernel
theorem dX5_ifHit_33 : decode cX5_ifHit 33 = .ok (.ireturn, 1) := by decide +kernel
theorem dX5_ifHit_34 : decode cX5_ifHit 34 = .ok (.aload_n 0, 1) := by decide +kernel
theorem dX5_ifHit_35 : decode cX5_ifHit 35 = .ok (.getfield 16, 3) := by decide +kernel
theorem dX5_ifHit_38 : decode cX5_ifHit 38 = .ok (.aload_n 0, 1) := by decide +kernel
theorem dX5_ifHit_39 : decode cX5_ifHit 39 = .ok (.getfield 10, 3) := by decide +kernel
theorem dX5_ifHit_42 : decode cX5_ifHit 42 = .ok (.invokevirtual 205, 3) := by decide +kernel
theorem dX5_ifHit_45 : decode cX5_ifHit 45 = .ok (.aload_n 0, 1) := by decide +kernel
theorem dX5_ifHit_46 : decode cX5_ifHit 46 = .ok (.getfield 16, 3) := by decide +kernel
theorem dX5_ifHit_49 : decode cX5_ifHit 49 = .ok (.iload_n 1, 1) := by decide +kernel
theorem dX5_ifHit_50 : decode cX5_ifHit 50 = .ok (.iload_n 2, 1) := by decide +kernel
theorem dX5_ifHit_51 : decode cX5_ifHit 51 = .ok (.invokevirtual 85, 3) := by decide +kernel
theorem dX5_ifHit_54 : decode cX5_ifHit 54 = .ok (.istore 4, 2) := by decide +kernel
theorem dX5_ifHit_56 : decode cX5_ifHit 56 = .ok (.iload_n 3, 1) := by decide +kernel
theorem dX5_ifHit_57 : decode cX5_ifHit 57 = .ok (.tableswitch 66 0 2 #[27, 30, 48], 27) := by decide +kernel
theorem dX5_ifHit_84 : decode cX5_ifHit 84 = .ok (.iload 4, 2) := by decide +kernel
theorem dX5_ifHit_86 : decode cX5_ifHit 86 = .ok (.ireturn, 1) := by decide +kernel
theorem dX5_ifHit_87 : decode cX5_ifHit 87 = .ok (.aload_n 0, 1) := by decide +kernel
theorem dX5_ifHit_88 : decode cX5_ifHit 88 = .ok (.getfield 16, 3) := by decide +kernel
theorem dX5_ifHit_91 : decode cX5_ifHit 91 = .ok (.iconst 3, 1) := by decide +kernel
theorem dX5_ifHit_92 : decode cX5_ifHit 92 = .ok (.invokevirtual 103, 3) := by decide +kernel
theorem dX5_ifHit_95 : decode cX5_ifHit 95 = .ok (.aload_n 0, 1) := by decide +kernel
theorem dX5_ifHit_96 : decode cX5_ifHit 96 = .ok (.getfield 10, 3) := by decide +kernel
theorem dX5_ifHit_99 : decode cX5_ifHit 99 = .ok (.iconst 3, 1) := by decide +kernel
theorem dX5_ifHit_100 : decode cX5_ifHit 100 = .ok (.invokevirtual 103, 3) := by decide +kernel
theorem dX5_ifHit_103 : decode cX5_ifHit 103 = .ok (.isub, 1) := by decide +kernel
theorem dX5_ifHit_104 : decode cX5_ifHit 104 = .ok (.ireturn, 1) := by decide +kernel
theorem dX5_ifHit_105 : decode cX5_ifHit 105 = .ok (.aload_n 0, 1) := by decide +kernel
theorem dX5_ifHit_106 : decode cX5_ifHit 106 = .ok (.getfield 16, 3) := by decide +kernel
theorem dX5_ifHit_109 : decode cX5_ifHit 109 = .ok (.iconst 4, 1) := by decide +kernel
theorem dX5_ifHit_110 : decode cX5_ifHit 110 = .ok (.invokevirtual 103, 3) := by decide +kernel
theorem dX5_ifHit_113 : decode cX5_ifHit 113 = .ok (.aload_n 0, 1) := by decide +kernel
theorem dX5_ifHit_114 : decode cX5_ifHit 114 = .ok (.getfield 10, 3) := by decide +kernel
theorem dX5_ifHit_117 : decode cX5_ifHit 117 = .ok (.iconst 4, 1) := by decide +kernel
theorem dX5_ifHit_118 : decode cX5_ifHit 118 = .ok (.invokevirtual 103, 3) := by decide +kernel
theorem dX5_ifHit_121 : decode cX5_ifHit 121 = .ok (.isub, 1) := by decide +kernel
theorem dX5_ifHit_122 : decode cX5_ifHit 122 = .ok (.ireturn, 1) := by decide +kernel
theorem dX5_ifHit_123 : decode cX5_ifHit 123 = .ok (.aload_n 0, 1) := by decide +kernel
theorem dX5_ifHit_124 : decode cX5_ifHit 124 = .ok (.getfield 16, 3) := by decide +kernel
theorem dX5_ifHit_127 : decode cX5_ifHit 127 = .ok (.getfield 168, 3) := by decide +kernel
theorem dX5_ifHit_130 : decode cX5_ifHit 130 = .ok (.invokevirtual 51, 3) := by decide +kernel
theorem dX5_ifHit_133 : decode cX5_ifHit 133 = .ok (.ireturn, 1) := by decide +kernel
set_option maxRecDepth 20000 in
theorem ggX5_silentIn_X4_rows : GoodIn wsX5_silentIn wsX4_rows := goodIn_r _ [10, 11, 50, 51, 52] (by decide +kernel) (by decide +kernel)
set_option maxRecDepth 20000 in
theorem gX5_silentIn_X4_rows : GoodIn wsX5_silentIn (wsV RX5 51 RX4 yX4_rows wsX4_rows) := goodIn_app (goodIn_of _ (by decide +kernel)) ggX5_silentIn_X4_rows
set_option maxRecDepth 20000 in
theorem ggX5_silentIn_X2_ticksLeft : GoodIn wsX5_silentIn wsX2_ticksLeft := goodIn_r _ [16, 17, 3, 4, 5, 18, 19, 20, 21, 22, 23, 24, 25, 15, 26, 27, 28, 29, 9, 30, 11, 31, 32, 33, 34, 35, 36, 37, 45, 46, 47, 48, 49, 50, 51, 52] (by decide +kernel) (by decide +kernel)
set_option maxRecDepth 20000 in
theorem gX5_silentIn_X2_ticksLeft : GoodIn wsX5_silentIn (wsV RX5 208 RX2 yX2_ticksLeft wsX2_ticksLeft) := goodIn_app (goodIn_of _ (by decide +kernel)) ggX5_silentIn_X2_ticksLeft
theorem dX5_silentIn_0 : decode cX5_silentIn 0 = .ok (.iconst 0, 1) := by decide +kernel
theorem dX5_silentIn_1 : decode cX5_silentIn 1 = .ok (.istore_n 1, 1) := by decide +kernel
theorem dX5_silentIn_2 : decode cX5_silentIn 2 = .ok (.iconst 0, 1) := by decide +kernel
theorem dX5_silentIn_3 : decode cX5_silentIn 3 = .ok (.istore_n 2, 1) := by decide +kernel
theorem dX5_silentIn_4 : decode cX5_silentIn 4 = .ok (.iload_n 2, 1) := by decide +kernel
theorem dX5_silentIn_5 : decode cX5_silentIn 5 = .ok (.aload_n 0, 1) := by decide +kernel
theorem dX5_silentIn_6 : decode cX5_silentIn 6 = .ok (.getfield 10, 3) := by decide +kernel
theorem dX5_silentIn_9 : decode cX5_silentIn 9 = .ok (.getfield 168, 3) := by decide +kernel
theorem dX5_silentIn_12 : decode cX5_silentIn 12 = .ok (.invokevirtual 51, 3) := by decide +kernel
theorem dX5_silentIn_15 : decode cX5_silentIn 15 = .ok (.if_icmp .ge 22, 3) := by decide +kernel
theorem dX5_silentIn_18 : decode cX5_silentIn 18 = .ok (.iload_n 1, 1) := by decide +kernel
theorem dX5_silentIn_19 : decode cX5_silentIn 19 = .ok (.aload_n 0, 1) := by decide +kernel
theorem dX5_silentIn_20 : decode cX5_silentIn 20 = .ok (.getfield 10, 3) := by decide +kernel
theorem dX5_silentIn_23 : decode cX5_silentIn 23 = .ok (.iload_n 2, 1) := by decide +kernel
theorem dX5_silentIn_24 : decode cX5_silentIn 24 = .ok (.invokevirtual 208, 3) := by decide +kernel
theorem dX5_silentIn_27 : decode cX5_silentIn 27 = .ok (.invokestatic 211, 3) := by decide +kernel
theorem dX5_silentIn_30 : decode cX5_silentIn 30 = .ok (.istore_n 1, 1) := by decide +kernel
theorem dX5_silentIn_31 : decode cX5_silentIn 31 = .ok (.iinc 2 1, 3) := by decide +kernel
theorem dX5_silentIn_34 : decode cX5_silentIn 34 = .ok (.goto (-30), 3) := by decide +kernel
theorem dX5_silentIn_37 : decode cX5_silentIn 37 = .ok (.iload_n 1, 1) := by decide +kernel
theorem dX5_silentIn_38 : decode cX5_silentIn 38 = .ok (.ireturn, 1) := by decide +kernel
set_option maxRecDepth 20000 in
theorem ggX5_chord_X5_within : GoodIn wsX5_chord wsX5_within := goodIn_r _ [5] (by decide +kernel) (by decide +kernel)
set_option maxRecDepth 20000 in
theorem gX5_chord_X5_within : GoodIn wsX5_chord (va_wsS RX5 43 yX5_within wsX5_within) := goodIn_app (goodIn_of _ (by decide +kernel)) ggX5_chord_X5_within
set_option maxRecDepth 20000 in
theorem ggX5_chord_X2_sounding : GoodIn wsX5_chord wsX2_sounding := goodIn_r _ [10, 11, 12, 13, 14, 15, 16, 17, 18, 19, 20, 9, 21, 22, 23, 24, 25, 26, 27, 28, 29, 30, 31, 32, 33, 34, 35, 36, 44, 45, 46, 47, 48, 49, 50, 51] (by decide +kernel) (by decide +kernel)
set_option maxRecDepth 20000 in
theorem gX5_chord_X2_sounding : GoodIn wsX5_chord (wsV RX5 216 RX2 yX2_sounding wsX2_sounding) := goodIn_app (goodIn_of _ (by decide +kernel)) ggX5_chord_X2_sounding
theorem dX5_chord_0 : decode cX5_chord 0 = .ok (.iload_n 1, 1) := by decide +kernel
theorem dX5_chord_1 : decode cX5_chord 1 = .ok (.iconst 1, 1) := by decide +kernel
theorem dX5_chord_2 : decode cX5_chord 2 = .ok (.bipush 63, 2) := by decide +kernel
theorem dX5_chord_4 : decode cX5_chord 4 = .ok (.invokestatic 43, 3) := by decide +kernel
theorem dX5_chord_7 : decode cX5_chord 7 = .ok (.ifCond .eq 22, 3) := by decide +kernel
theorem dX5_chord_10 : decode cX5_chord 10 = .ok (.iload_n 2, 1) := by decide +kernel
theorem dX5_chord_11 : decode cX5_chord 11 = .ok (.iconst 0, 1) := by decide +kernel
theorem dX5_chord_12 : decode cX5_chord 12 = .ok (.iconst 5, 1) := by decide +kernel
theorem dX5_chord_13 : decode cX5_chord 13 = .ok (.invokestatic 43, 3) := by decide +kernel
theorem dX5_chord_16 : decode cX5_chord 16 = .ok (.ifCond .eq 13, 3) := by decide +kernel
theorem dX5_chord_19 : decode cX5_chord 19 = .ok (.iload_n 3, 1) := by decide +kernel
theorem dX5_chord_20 : decode cX5_chord 20 = .ok (.iconst 1, 1) := by decide +kernel
theorem dX5_chord_21 : decode cX5_chord 21 = .ok (.bipush 9, 2) := by decide +kernel
theorem dX5_chord_23 : decode cX5_chord 23 = .ok (.invokestatic 43, 3) := by decide +kernel
theorem dX5_chord_26 : decode cX5_chord 26 = .ok (.ifCond .ne 5, 3) := by decide +kernel
theorem dX5_chord_29 : decode cX5_chord 29 = .ok (.iconst (-1), 1) := by decide +kernel
theorem dX5_chord_30 : decode cX5_chord 30 = .ok (.ireturn, 1) := by decide +kernel
theorem dX5_chord_31 : decode cX5_chord 31 = .ok (.iconst 0, 1) := by decide +kernel
theorem dX5_chord_32 : decode cX5_chord 32 = .ok (.istore 4, 2) := by decide +kernel
theorem dX5_chord_34 : decode cX5_chord 34 = .ok (.iconst 0, 1) := by decide +kernel
theorem dX5_chord_35 : decode cX5_chord 35 = .ok (.istore 5, 2) := by decide +kernel
theorem dX5_chord_37 : decode cX5_chord 37 = .ok (.iload 5, 2) := by decide +kernel
theorem dX5_chord_39 : decode cX5_chord 39 = .ok (.bipush 6, 2) := by decide +kernel
theorem dX5_chord_41 : decode cX5_chord 41 = .ok (.if_icmp .ge 39, 3) := by decide +kernel
theorem dX5_chord_44 : decode cX5_chord 44 = .ok (.iload_n 1, 1) := by decide +kernel
theorem dX5_chord_45 : decode cX5_chord 45 = .ok (.iload 5, 2) := by decide +kernel
theorem dX5_chord_47 : decode cX5_chord 47 = .ok (.ishr, 1) := by decide +kernel
theorem dX5_chord_48 : decode cX5_chord 48 = .ok (.iconst 1, 1) := by decide +kernel
theorem dX5_chord_49 : decode cX5_chord 49 = .ok (.iand, 1) := by decide +kernel
theorem dX5_chord_50 : decode cX5_chord 50 = .ok (.iconst 1, 1) := by decide +kernel
theorem dX5_chord_51 : decode cX5_chord 51 = .ok (.if_icmp .ne 23, 3) := by decide +kernel
theorem dX5_chord_54 : decode cX5_chord 54 = .ok (.iload 4, 2) := by decide +kernel
theorem dX5_chord_56 : decode cX5_chord 56 = .ok (.aload_n 0, 1) := by decide +kernel
theorem dX5_chord_57 : decode cX5_chord 57 = .ok (.getfield 10, 3) := by decide +kernel
theorem dX5_chord_60 : decode cX5_chord 60 = .ok (.bipush 6, 2) := by decide +kernel
theorem dX5_chord_62 : decode cX5_chord 62 = .ok (.iload_n 2, 1) := by decide +kernel
theorem dX5_chord_63 : decode cX5_chord 63 = .ok (.imul, 1) := by decide +kernel
theorem dX5_chord_64 : decode cX5_chord 64 = .ok (.iload 5, 2) := by decide +kernel
theorem dX5_chord_66 : decode cX5_chord 66 = .ok (.iadd, 1) := by decide +kernel
theorem dX5_chord_67 : decode cX5_chord 67 = .ok (.iload_n 3, 1) := by decide +kernel
theorem dX5_chord_68 : decode cX5_chord 68 = .ok (.invokevirtual 216, 3) := by decide +kernel
theorem dX5_chord_71 : decode cX5_chord 71 = .ok (.iadd, 1) := by decide +kernel
theorem dX5_chord_72 : decode cX5_chord 72 = .ok (.istore 4, 2) := by decide +kernel
theorem dX5_chord_74 : decode cX5_chord 74 = .ok (.iinc 5 1, 3) := by decide +kernel
theorem dX5_chord_77 : decode cX5_chord 77 = .ok (.goto (-40), 3) := by decide +kernel
theorem dX5_chord_80 : decode cX5_chord 80 = .ok (.iload 4, 2) := by decide +kernel
theorem dX5_chord_82 : decode cX5_chord 82 = .ok (.ireturn, 1) := by decide +kernel
set_option maxRecDepth 20000 in
theorem ggX5_undo_X0_size : GoodIn wsX5_undo wsX0_size := goodIn_r _ [7, 8, 55, 56, 57, 58, 59] (by decide +kernel) (by decide +kernel)
set_option maxRecDepth 20000 in
theorem gX5_undo_X0_size : GoodIn wsX5_undo (wsV RX5 199 RX0 yX0_size wsX0_size) := goodIn_app (goodIn_of _ (by decide +kernel)) ggX5_undo_X0_size
set_option maxRecDepth 20000 in
theorem ggX5_undo_X0_goBack : GoodIn wsX5_undo wsX0_goBack := goodIn_r _ [12, 8, 13, 14, 15, 6, 16, 17, 18, 19, 20, 21, 22, 23, 24, 25, 26, 27, 28, 29, 30, 31, 32, 33, 34, 35, 36, 37, 38, 39, 40, 41, 42, 43, 44, 45, 46, 47, 55, 56, 57, 58, 59, 60, 61, 62, 63, 64, 65, 66, 67] (by decide +kernel) (by decide +kernel)
set_option maxRecDepth 20000 in
theorem gX5_undo_X0_goBack : GoodIn wsX5_undo (wsV RX5 219 RX0 yX0_goBack wsX0_goBack) := goodIn_app (goodIn_of _ (by decide +kernel)) ggX5_undo_X0_goBack
theorem dX5_undo_0 : decode cX5_undo 0 = .ok (.aload_n 0, 1) := by decide +kernel
theorem dX5_undo_1 : decode cX5_undo 1 = .ok (.getfield 25, 3) := by decide +kernel
theorem dX5_undo_4 : decode cX5_undo 4 = .ok (.invokevirtual 199, 3) := by decide +kernel
theorem dX5_undo_7 : decode cX5_undo 7 = .ok (.ifCond .ne 6, 3) := by decide +kernel
theorem dX5_undo_10 : decode cX5_undo 10 = .ok (.bipush (-2), 2) := by decide +kernel
theorem dX5_undo_12 : decode cX5_undo 12 = .ok (.ireturn, 1) := by decide +kernel
theorem dX5_undo_13 : decode cX5_undo 13 = .ok (.aload_n 0, 1) := by decide +kernel
theorem dX5_undo_14 : decode cX5_undo 14 = .ok (.getfield 25, 3) := by decide +kernel
theorem dX5_undo_17 : decode cX5_undo 17 = .ok (.aload_n 0, 1) := by decide +kernel
theorem dX5_undo_18 : decode cX5_undo 18 = .ok (.getfield 10, 3) := by decide +kernel
theorem dX5_undo_21 : decode cX5_undo 21 = .ok (.invokevirtual 219, 3) := by decide +kernel
theorem dX5_undo_24 : decode cX5_undo 24 = .ok (.aload_n 0, 1) := by decide +kernel
theorem dX5_undo_25 : decode cX5_undo 25 = .ok (.getfield 25, 3) := by decide +kernel
theorem dX5_undo_28 : decode cX5_undo 28 = .ok (.invokevirtual 199, 3) := by decide +kernel
theorem dX5_undo_31 : decode cX5_undo 31 = .ok (.ireturn, 1) := by decide +kernel
set_option maxRecDepth 20000 in
theorem ggX5_save_X2_copyFrom : GoodIn wsX5_save wsX2_copyFrom := goodIn_r _ [8, 9, 10, 11, 12, 13, 14, 15, 16, 17, 18, 19, 20, 21, 22, 23, 24, 25, 26, 27, 28, 29, 30, 42, 43, 44, 45, 46, 47, 48, 49] (by decide +kernel) (by decide +kernel)
set_option maxRecDepth 20000 in
theorem gX5_save_X2_copyFrom : GoodIn wsX5_save (wsV RX5 205 RX2 yX2_copyFrom wsX2_copyFrom) := goodIn_app (goodIn_of _ (by decide +kernel)) ggX5_save_X2_copyFrom
set_option maxRecDepth 20000 in
theorem ggX5_save_X4_rows : GoodIn wsX5_save wsX4_rows := goodIn_r _ [34, 30, 47, 48, 49] (by decide +kernel) (by decide +kernel)
set_option maxRecDepth 20000 in
theorem gX5_save_X4_rows : GoodIn wsX5_save (wsV RX5 51 RX4 yX4_rows wsX4_rows) := goodIn_app (goodIn_of _ (by decide +kernel)) ggX5_save_X4_rows
theorem dX5_save_0 : decode cX5_save 0 = .ok (.aload_n 0, 1) := by decide +kernel
theorem dX5_save_1 : decode cX5_save 1 = .ok (.getfield 19, 3) := by decide +kernel
theorem dX5_save_4 : decode cX5_save 4 = .ok (.aload_n 0, 1) := by decide +kernel
theorem dX5_save_5 : decode cX5_save 5 = .ok (.getfield 10, 3) := by decide +kernel
theorem dX5_save_8 : decode cX5_save 8 = .ok (.invokevirtual 205, 3) := by decide +kernel
theorem dX5_save_11 : decode cX5_save 11 = .ok (.aload_n 0, 1) := by decide +kernel
theorem dX5_save_12 : decode cX5_save 12 = .ok (.iconst 1, 1) := by decide +kernel
theorem dX5_save_13 : decode cX5_save 13 = .ok (.putfield 222, 3) := by decide +kernel
theorem dX5_save_16 : decode cX5_save 16 = .ok (.aload_n 0, 1) := by decide +kernel
theorem dX5_save_17 : decode cX5_save 17 = .ok (.getfield 10, 3) := by decide +kernel
theorem dX5_save_20 : decode cX5_save 20 = .ok (.getfield 168, 3) := by decide +kernel
theorem dX5_save_23 : decode cX5_save 23 = .ok (.invokevirtual 51, 3) := by decide +kernel
theorem dX5_save_26 : decode cX5_save 26 = .ok (.ireturn, 1) := by decide +kernel
set_option maxRecDepth 20000 in
theorem ggX5_restore_X0_record : GoodIn wsX5_restore wsX0_record := goodIn_r _ [9, 10, 11, 12, 13, 14, 15, 16, 17, 8, 18, 19, 20, 21, 22, 23, 24, 25, 26, 27, 28, 29, 30, 31, 32, 33, 34, 35, 36, 37, 38, 39, 40, 41, 42, 43, 44, 45, 63, 64, 65, 66, 67, 58, 59, 60, 61, 62, 68, 69, 70] (by decide +kernel) (by decide +kernel)
set_option maxRecDepth 20000 in
theorem gX5_restore_X0_record : GoodIn wsX5_restore (wsV RX5 57 RX0 yX0_record wsX0_record) := goodIn_app (goodIn_of _ (by decide +kernel)) ggX5_restore_X0_record
set_option maxRecDepth 20000 in
theorem ggX5_restore_X2_copyFrom : GoodIn wsX5_restore wsX2_copyFrom := goodIn_r _ [23, 24, 25, 26, 27, 28, 29, 30, 31, 32, 33, 34, 35, 36, 37, 38, 39, 40, 41, 42, 43, 44, 45, 58, 59, 60, 61, 62, 68, 69, 70] (by decide +kernel) (by decide +kernel)
set_option maxRecDepth 20000 in
theorem gX5_restore_X2_copyFrom : GoodIn wsX5_restore (wsV RX5 205 RX2 yX2_copyFrom wsX2_copyFrom) := goodIn_app (goodIn_of _ (by decide +kernel)) ggX5_restore_X2_copyFrom
set_option maxRecDepth 20000 in
theorem ggX5_restore_X4_rows : GoodIn wsX5_restore wsX4_rows := goodIn_r _ [50, 45, 68, 69, 70] (by decide +kernel) (by decide +kernel)
set_option maxRecDepth 20000 in
theorem gX5_restore_X4_rows : GoodIn wsX5_restore (wsV RX5 51 RX4 yX4_rows wsX4_rows) := goodIn_app (goodIn_of _ (by decide +kernel)) ggX5_restore_X4_rows
theorem dX5_restore_0 : decode cX5_restore 0 = .ok (.aload_n 0, 1) := by decide +kernel
theorem dX5_restore_1 : decode cX5_restore 1 = .ok (.getfield 222, 3) := by decide +kernel
theorem dX5_restore_4 : decode cX5_restore 4 = .ok (.ifCond .ne 6, 3) := by decide +kernel
theorem dX5_restore_7 : decode cX5_restore 7 = .ok (.bipush (-2), 2) := by decide +kernel
theorem dX5_restore_9 : decode cX5_restore 9 = .ok (.ireturn, 1) := by decide +kernel
theorem dX5_restore_10 : decode cX5_restore 10 = .ok (.aload_n 0, 1) := by decide +kernel
theorem dX5_restore_11 : decode cX5_restore 11 = .ok (.getfield 25, 3) := by decide +kernel
theorem dX5_restore_14 : decode cX5_restore 14 = .ok (.aload_n 0, 1) := by decide +kernel
theorem dX5_restore_15 : decode cX5_restore 15 = .ok (.getfield 10, 3) := by decide +kernel
theorem dX5_restore_18 : decode cX5_restore 18 = .ok (.invokevirtual 57, 3) := by decide +kernel
theorem dX5_restore_21 : decode cX5_restore 21 = .ok (.aload_n 0, 1) := by decide +kernel
theorem dX5_restore_22 : decode cX5_restore 22 = .ok (.getfield 10, 3) := by decide +kernel
theorem dX5_restore_25 : decode cX5_restore 25 = .ok (.aload_n 0, 1) := by decide +kernel
theorem dX5_restore_26 : decode cX5_restore 26 = .ok (.getfield 19, 3) := by decide +kernel
theorem dX5_restore_29 : decode cX5_restore 29 = .ok (.invokevirtual 205, 3) := by decide +kernel
theorem dX5_restore_32 : decode cX5_restore 32 = .ok (.aload_n 0, 1) := by decide +kernel
theorem dX5_restore_33 : decode cX5_restore 33 = .ok (.getfield 10, 3) := by decide +kernel
theorem dX5_restore_36 : decode cX5_restore 36 = .ok (.getfield 168, 3) := by decide +kernel
theorem dX5_restore_39 : decode cX5_restore 39 = .ok (.invokevirtual 51, 3) := by decide +kernel
theorem dX5_restore_42 : decode cX5_restore 42 = .ok (.ireturn, 1) := by decide +kernel
set_option maxRecDepth 20000 in
theorem ggX5_doDeed_X2_strike : GoodIn wsX5_doDeed wsX2_strike := goodIn_r _ [7, 8, 9, 10, 11, 12, 6, 13, 14, 15, 16, 17, 18, 19, 20, 21, 22, 23, 24, 25, 26, 27, 28, 29, 30, 31, 32, 33, 34, 35, 36, 37, 38, 39, 40, 41, 42, 43, 44, 45, 46, 47, 48, 49, 50, 51, 52, 53, 54, 55, 56, 57, 58, 59, 60, 61, 62, 63, 64, 65, 66, 67, 68, 69, 70, 71, 72, 73, 74, 75, 76, 77, 78, 79, 80, 81, 82, 83, 126, 127, 128, 129, 130, 131, 132, 133] (by decide +kernel) (by decide +kernel)
set_option maxRecDepth 20000 in
theorem gX5_doDeed_X2_strike : GoodIn wsX5_doDeed (wsV RX5 85 RX2 yX2_strike wsX2_strike) := goodIn_app (goodIn_of _ (by decide +kernel)) ggX5_doDeed_X2_strike
set_option maxRecDepth 20000 in
theorem ggX5_doDeed_X2_release : GoodIn wsX5_doDeed wsX2_release := goodIn_r _ [87, 88, 10, 11, 12, 6, 13, 14, 15, 16, 17, 18, 19, 20, 21, 22, 23, 24, 25, 26, 27, 28, 29, 30, 126, 127, 128, 129, 130, 131, 132, 133] (by decide +kernel) (by decide +kernel)
set_option maxRecDepth 20000 in
theorem gX5_doDeed_X2_release : GoodIn wsX5_doDeed (wsV RX5 88 RX2 yX2_release wsX2_release) := goodIn_app (goodIn_of _ (by decide +kernel)) ggX5_doDeed_X2_release
set_option maxRecDepth 20000 in
theorem ggX5_doDeed_X2_tread : GoodIn wsX5_doDeed wsX2_tread := goodIn_r _ [92, 88, 14, 15, 16, 17, 18, 19, 20, 21, 22, 23, 24, 25, 26, 27, 28, 29, 30, 126, 127, 128, 129, 130, 131, 132, 133] (by decide +kernel) (by decide +kernel)
set_option maxRecDepth 20000 in
theorem gX5_doDeed_X2_tread : GoodIn wsX5_doDeed (wsV RX5 91 RX2 yX2_tread wsX2_tread) := goodIn_app (goodIn_of _ (by decide +kernel)) ggX5_doDeed_X2_tread
set_option maxRecDepth 20000 in
theorem ggX5_doDeed_X2_runTicks : GoodIn wsX5_doDeed wsX2_runTicks := goodIn_r _ [96, 14, 39, 40, 41, 6, 42, 43, 15, 16, 17, 18, 19, 20, 97, 98, 99, 100, 9, 21, 22, 23, 24, 25, 26, 101, 102, 103, 104, 27, 28, 29, 30, 52, 53, 54, 55, 56, 57, 58, 59, 60, 61, 62, 63, 64, 65, 66, 67, 126, 127, 128, 129, 130, 131, 132, 133] (by decide +kernel) (by decide +kernel)
set_option maxRecDepth 20000 in
theorem gX5_doDeed_X2_runTicks : GoodIn wsX5_doDeed (wsV RX5 94 RX2 yX2_runTicks wsX2_runTicks) := goodIn_app (goodIn_of _ (by decide +kernel)) ggX5_doDeed_X2_runTicks
theorem dX5_doDeed_0 : decode cX5_doDeed 0 = .ok (.aload_n 0, 1) := by decide +kernel
theorem dX5_doDeed_1 : decode cX5_doDeed 1 = .ok (.getfield 32, 3) := by decide +kernel
theorem dX5_doDeed_4 : decode cX5_doDeed 4 = .ok (.getfield 225, 3) := by decide +kernel
theorem dX5_doDeed_7 : decode cX5_doDeed 7 = .ok (.tableswitch 79 110 112 #[25, 50, 68], 25) := by decide +kernel
theorem dX5_doDeed_32 : decode cX5_doDeed 32 = .ok (.aload_n 0, 1) := by decide +kernel
theorem dX5_doDeed_33 : decode cX5_doDeed 33 = .ok (.getfield 10, 3) := by decide +kernel
theorem dX5_doDeed_36 : decode cX5_doDeed 36 = .ok (.aload_n 0, 1) := by decide +kernel
theorem dX5_doDeed_37 : decode cX5_doDeed 37 = .ok (.getfield 32, 3) := by decide +kernel
theorem dX5_doDeed_40 : decode cX5_doDeed 40 = .ok (.getfield 228, 3) := by decide +kernel
theorem dX5_doDeed_43 : decode cX5_doDeed 43 = .ok (.aload_n 0, 1) := by decide +kernel
theorem dX5_doDeed_44 : decode cX5_doDeed 44 = .ok (.getfield 32, 3) := by decide +kernel
theorem dX5_doDeed_47 : decode cX5_doDeed 47 = .ok (.getfield 231, 3) := by decide +kernel
theorem dX5_doDeed_50 : decode cX5_doDeed 50 = .ok (.invokevirtual 85, 3) := by decide +kernel
theorem dX5_doDeed_53 : decode cX5_doDeed 53 = .ok (.pop, 1) := by decide +kernel
theorem dX5_doDeed_54 : decode cX5_doDeed 54 = .ok (.goto 47, 3) := by decide +kernel
theorem dX5_doDeed_57 : decode cX5_doDeed 57 = .ok (.aload_n 0, 1) := by decide +kernel
theorem dX5_doDeed_58 : decode cX5_doDeed 58 = .ok (.getfield 10, 3) := by decide +kernel
theorem dX5_doDeed_61 : decode cX5_doDeed 61 = .ok (.aload_n 0, 1) := by decide +kernel
theorem dX5_doDeed_62 : decode cX5_doDeed 62 = .ok (.getfield 32, 3) := by decide +kernel
theorem dX5_doDeed_65 : decode cX5_doDeed 65 = .ok (.getfield 228, 3) := by decide +kernel
theorem dX5_doDeed_68 : decode cX5_doDeed 68 = .ok (.invokevirtual 88, 3) := by decide +kernel
theorem dX5_doDeed_71 : decode cX5_doDeed 71 = .ok (.pop, 1) := by decide +kernel
theorem dX5_doDeed_72 : decode cX5_doDeed 72 = .ok (.goto 29, 3) := by decide +kernel
theorem dX5_doDeed_75 : decode cX5_doDeed 75 = .ok (.aload_n 0, 1) := by decide +kernel
theorem dX5_doDeed_76 : decode cX5_doDeed 76 = .ok (.getfield 10, 3) := by decide +kernel
theorem dX5_doDeed_79 : decode cX5_doDeed 79 = .ok (.invokevirtual 91, 3) := by decide +kernel
theorem dX5_doDeed_82 : decode cX5_doDeed 82 = .ok (.pop, 1) := by decide +kernel
theorem dX5_doDeed_83 : decode cX5_doDeed 83 = .ok (.goto 18, 3) := by decide +kernel
theorem dX5_doDeed_86 : decode cX5_doDeed 86 = .ok (.aload_n 0, 1) := by decide +kernel
theorem dX5_doDeed_87 : decode cX5_doDeed 87 = .ok (.getfield 10, 3) := by decide +kernel
theorem dX5_doDeed_90 : decode cX5_doDeed 90 = .ok (.aload_n 0, 1) := by decide +kernel
theorem dX5_doDeed_91 : decode cX5_doDeed 91 = .ok (.getfield 32, 3) := by decide +kernel
theorem dX5_doDeed_94 : decode cX5_doDeed 94 = .ok (.getfield 231, 3) := by decide +kernel
theorem dX5_doDeed_97 : decode cX5_doDeed 97 = .ok (.invokevirtual 94, 3) := by decide +kernel
theorem dX5_doDeed_100 : decode cX5_doDeed 100 = .ok (.pop, 1) := by decide +kernel
theorem dX5_doDeed_101 : decode cX5_doDeed 101 = .ok (.return_, 1) := by decide +kernel
theorem dX5_within_0 : decode cX5_within 0 = .ok (.iload_n 0, 1) := by decide +kernel
theorem dX5_within_1 : decode cX5_within 1 = .ok (.iload_n 1, 1) := by decide +kernel
theorem dX5_within_2 : decode cX5_within 2 = .ok (.if_icmp .lt 12, 3) := by decide +kernel
theorem dX5_within_5 : decode cX5_within 5 = .ok (.iload_n 0, 1) := by decide +kernel
theorem dX5_within_6 : decode cX5_within 6 = .ok (.iload_n 2, 1) := by decide +kernel
theorem dX5_within_7 : decode cX5_within 7 = .ok (.if_icmp .gt 7, 3) := by decide +kernel
theorem dX5_within_10 : decode cX5_within 10 = .ok (.iconst 1, 1) := by decide +kernel
theorem dX5_within_11 : decode cX5_within 11 = .ok (.goto 4, 3) := by decide +kernel
theorem dX5_within_14 : decode cX5_within 14 = .ok (.iconst 0, 1) := by decide +kernel
theorem dX5_within_15 : decode cX5_within 15 = .ok (.ireturn, 1) := by decide +kernel
set_option maxRecDepth 20000 in
theorem ggX5_isNote_X5_within : GoodIn wsX5_isNote wsX5_within := goodIn_r _ [4] (by decide +kernel) (by decide +kernel)
set_option maxRecDepth 20000 in
theorem gX5_isNote_X5_within : GoodIn wsX5_isNote (va_wsS RX5 43 yX5_within wsX5_within) := goodIn_app (goodIn_of _ (by decide +kernel)) ggX5_isNote_X5_within
theorem dX5_isNote_0 : decode cX5_isNote 0 = .ok (.iload_n 0, 1) := by decide +kernel
theorem dX5_isNote_1 : decode cX5_isNote 1 = .ok (.iconst 0, 1) := by decide +kernel
theorem dX5_isNote_2 : decode cX5_isNote 2 = .ok (.bipush 35, 2) := by decide +kernel
theorem dX5_isNote_4 : decode cX5_isNote 4 = .ok (.invokestatic 43, 3) := by decide +kernel
theorem dX5_isNote_7 : decode cX5_isNote 7 = .ok (.ifCond .eq 17, 3) := by decide +kernel
theorem dX5_isNote_10 : decode cX5_isNote 10 = .ok (.iload_n 1, 1) := by decide +kernel
theorem dX5_isNote_11 : decode cX5_isNote 11 = .ok (.iconst 1, 1) := by decide +kernel
theorem dX5_isNote_12 : decode cX5_isNote 12 = .ok (.bipush 9, 2) := by decide +kernel
theorem dX5_isNote_14 : decode cX5_isNote 14 = .ok (.invokestatic 43, 3) := by decide +kernel
theorem dX5_isNote_17 : decode cX5_isNote 17 = .ok (.ifCond .eq 7, 3) := by decide +kernel
theorem dX5_isNote_20 : decode cX5_isNote 20 = .ok (.iconst 1, 1) := by decide +kernel
theorem dX5_isNote_21 : decode cX5_isNote 21 = .ok (.goto 4, 3) := by decide +kernel
theorem dX5_isNote_24 : decode cX5_isNote 24 = .ok (.iconst 0, 1) := by decide +kernel
theorem dX5_isNote_25 : decode cX5_isNote 25 = .ok (.ireturn, 1) := by decide +kernel
set_option maxRecDepth 20000 in
theorem ggX5_isSetting_X5_within : GoodIn wsX5_isSetting wsX5_within := goodIn_r _ [4] (by decide +kernel) (by decide +kernel)
set_option maxRecDepth 20000 in
theorem gX5_isSetting_X5_within : GoodIn wsX5_isSetting (va_wsS RX5 43 yX5_within wsX5_within) := goodIn_app (goodIn_of _ (by decide +kernel)) ggX5_isSetting_X5_within
theorem dX5_isSetting_0 : decode cX5_isSetting 0 = .ok (.iload_n 0, 1) := by decide +kernel
theorem dX5_isSetting_1 : decode cX5_isSetting 1 = .ok (.tableswitch 50 0 2 #[27, 35, 42], 27) := by decide +kernel
theorem dX5_isSetting_28 : decode cX5_isSetting 28 = .ok (.iload_n 1, 1) := by decide +kernel
theorem dX5_isSetting_29 : decode cX5_isSetting 29 = .ok (.iconst 1, 1) := by decide +kernel
theorem dX5_isSetting_30 : decode cX5_isSetting 30 = .ok (.bipush 8, 2) := by decide +kernel
theorem dX5_isSetting_32 : decode cX5_isSetting 32 = .ok (.invokestatic 43, 3) := by decide +kernel
theorem dX5_isSetting_35 : decode cX5_isSetting 35 = .ok (.ireturn, 1) := by decide +kernel
theorem dX5_isSetting_36 : decode cX5_isSetting 36 = .ok (.iload_n 1, 1) := by decide +kernel
theorem dX5_isSetting_37 : decode cX5_isSetting 37 = .ok (.iconst 0, 1) := by decide +kernel
theorem dX5_isSetting_38 : decode cX5_isSetting 38 = .ok (.iconst 2, 1) := by decide +kernel
theorem dX5_isSetting_39 : decode cX5_isSetting 39 = .ok (.invokestatic 43, 3) := by decide +kernel
theorem dX5_isSetting_42 : decode cX5_isSetting 42 = .ok (.ireturn, 1) := by decide +kernel
theorem dX5_isSetting_43 : decode cX5_isSetting 43 = .ok (.iload_n 1, 1) := by decide +kernel
theorem dX5_isSetting_44 : decode cX5_isSetting 44 = .ok (.iconst 1, 1) := by decide +kernel
theorem dX5_isSetting_45 : decode cX5_isSetting 45 = .ok (.bipush 50, 2) := by decide +kernel
theorem dX5_isSetting_47 : decode cX5_isSetting 47 = .ok (.invokestatic 43, 3) := by decide +kernel
theorem dX5_isSetting_50 : decode cX5_isSetting 50 = .ok (.ireturn, 1) := by decide +kernel
theorem dX5_isSetting_51 : decode cX5_isSetting 51 = .ok (.iconst 0, 1) := by decide +kernel
theorem dX5_isSetting_52 : decode cX5_isSetting 52 = .ok (.ireturn, 1) := by decide +kernel
theorem dX6_init_0 : decode cX6_init 0 = .ok (.aload_n 0, 1) := by decide +kernel
theorem dX6_init_1 : decode cX6_init 1 = .ok (.invokespecial 1, 3) := by decide +kernel
theorem dX6_init_4 : decode cX6_init 4 = .ok (.aload_n 0, 1) := by decide +kernel
theorem dX6_init_5 : decode cX6_init 5 = .ok (.sipush 150, 3) := by decide +kernel
theorem dX6_init_8 : decode cX6_init 8 = .ok (.newarray .int, 2) := by decide +kernel
theorem dX6_init_10 : decode cX6_init 10 = .ok (.putfield 7, 3) := by decide +kernel
theorem dX6_init_13 : decode cX6_init 13 = .ok (.aload_n 0, 1) := by decide +kernel
theorem dX6_init_14 : decode cX6_init 14 = .ok (.sipush 150, 3) := by decide +kernel
theorem dX6_init_17 : decode cX6_init 17 = .ok (.newarray .int, 2) := by decide +kernel
theorem dX6_init_19 : decode cX6_init 19 = .ok (.putfield 13, 3) := by decide +kernel
theorem dX6_init_22 : decode cX6_init 22 = .ok (.aload_n 0, 1) := by decide +kernel
theorem dX6_init_23 : decode cX6_init 23 = .ok (.sipush 600, 3) := by decide +kernel
theorem dX6_init_26 : decode cX6_init 26 = .ok (.newarray .int, 2) := by decide +kernel
theorem dX6_init_28 : decode cX6_init 28 = .ok (.putfield 16, 3) := by decide +kernel
theorem dX6_init_31 : decode cX6_init 31 = .ok (.aload_n 0, 1) := by decide +kernel
theorem dX6_init_32 : decode cX6_init 32 = .ok (.sipush 150, 3) := by decide +kernel
theorem dX6_init_35 : decode cX6_init 35 = .ok (.newarray .int, 2) := by decide +kernel
theorem dX6_init_37 : decode cX6_init 37 = .ok (.putfield 19, 3) := by decide +kernel
theorem dX6_init_40 : decode cX6_init 40 = .ok (.aload_n 0, 1) := by decide +kernel
theorem dX6_init_41 : decode cX6_init 41 = .ok (.bipush 60, 2) := by decide +kernel
theorem dX6_init_43 : decode cX6_init 43 = .ok (.newarray .int, 2) := by decide +kernel
theorem dX6_init_45 : decode cX6_init 45 = .ok (.putfield 22, 3) := by decide +kernel
theorem dX6_init_48 : decode cX6_init 48 = .ok (.aload_n 0, 1) := by decide +kernel
theorem dX6_init_49 : decode cX6_init 49 = .ok (.bipush 10, 2) := by decide +kernel
theorem dX6_init_51 : decode cX6_init 51 = .ok (.newarray .boolean, 2) := by decide +kernel
theorem dX6_init_53 : decode cX6_init 53 = .ok (.putfield 25, 3) := by decide +kernel
theorem dX6_init_56 : decode cX6_init 56 = .ok (.aload_n 0, 1) := by decide +kernel
theorem dX6_init_57 : decode cX6_init 57 = .ok (.bipush 84, 2) := by decide +kernel
theorem dX6_init_59 : decode cX6_init 59 = .ok (.newarray .int, 2) := by decide +kernel
theorem dX6_init_61 : decode cX6_init 61 = .ok (.putfield 29, 3) := by decide +kernel
theorem dX6_init_64 : decode cX6_init 64 = .ok (.aload_n 0, 1) := by decide +kernel
theorem dX6_init_65 : decode cX6_init 65 = .ok (.getfield 7, 3) := by decide +kernel
theorem dX6_init_68 : decode cX6_init 68 = .ok (.bipush 9, 2) := by decide +kernel
theorem dX6_init_70 : decode cX6_init 70 = .ok (.bipush 6, 2) := by decide +kernel
theorem dX6_init_72 : decode cX6_init 72 = .ok (.iastore, 1) := by decide +kernel
theorem dX6_init_73 : decode cX6_init 73 = .ok (.aload_n 0, 1) := by decide +kernel
theorem dX6_init_74 : decode cX6_init 74 = .ok (.getfield 7, 3) := by decide +kernel
theorem dX6_init_77 : decode cX6_init 77 = .ok (.bipush 11, 2) := by decide +kernel
theorem dX6_init_79 : decode cX6_init 79 = .ok (.bipush 10, 2) := by decide +kernel
theorem dX6_init_81 : decode cX6_init 81 = .ok (.iastore, 1) := by decide +kernel
theorem dX6_init_82 : decode cX6_init 82 = .ok (.return_, 1) := by decide +kernel
theorem dX6_in_0 : decode cX6_in 0 = .ok (.iload_n 0, 1) := by decide +kernel
theorem dX6_in_1 : decode cX6_in 1 = .ok (.iload_n 1, 1) := by decide +kernel
theorem dX6_in_2 : decode cX6_in 2 = .ok (.if_icmp .lt 12, 3) := by decide +kernel
theorem dX6_in_5 : decode cX6_in 5 = .ok (.iload_n 0, 1) := by decide +kernel
theorem dX6_in_6 : decode cX6_in 6 = .ok (.iload_n 2, 1) := by decide +kernel
theorem dX6_in_7 : decode cX6_in 7 = .ok (.if_icmp .gt 7, 3) := by decide +kernel
theorem dX6_in_10 : decode cX6_in 10 = .ok (.iconst 1, 1) := by decide +kernel
theorem dX6_in_11 : decode cX6_in 11 = .ok (.goto 4, 3) := by decide +kernel
theorem dX6_in_14 : decode cX6_in 14 = .ok (.iconst 0, 1) := by decide +kernel
theorem dX6_in_15 : decode cX6_in 15 = .ok (.ireturn, 1) := by decide +kernel
theorem dX6_copies_0 : decode cX6_copies 0 = .ok (.iconst 0, 1) := by decide +kernel
theorem dX6_copies_1 : decode cX6_copies 1 = .ok (.istore 4, 2) := by decide +kernel
theorem dX6_copies_3 : decode cX6_copies 3 = .ok (.iload 4, 2) := by decide +kernel
theorem dX6_copies_5 : decode cX6_copies 5 = .ok (.sipush 150, 3) := by decide +kernel
theorem dX6_copies_8 : decode cX6_copies 8 = .ok (.if_icmp .ge 21, 3) := by decide +kernel
theorem dX6_copies_11 : decode cX6_copies 11 = .ok (.aload_n 2, 1) := by decide +kernel
theorem dX6_copies_12 : decode cX6_copies 12 = .ok (.iload_n 3, 1) := by decide +kernel
theorem dX6_copies_13 : decode cX6_copies 13 = .ok (.iload 4, 2) := by decide +kernel
theorem dX6_copies_15 : decode cX6_copies 15 = .ok (.iadd, 1) := by decide +kernel
theorem dX6_copies_16 : decode cX6_copies 16 = .ok (.aload_n 0, 1) := by decide +kernel
theorem dX6_copies_17 : decode cX6_copies 17 = .ok (.iload_n 1, 1) := by decide +kernel
theorem dX6_copies_18 : decode cX6_copies 18 = .ok (.iload 4, 2) := by decide +kernel
theorem dX6_copies_20 : decode cX6_copies 20 = .ok (.iadd, 1) := by decide +kernel
theorem dX6_copies_21 : decode cX6_copies 21 = .ok (.iaload, 1) := by decide +kernel
theorem dX6_copies_22 : decode cX6_copies 22 = .ok (.iastore, 1) := by decide +kernel
theorem dX6_copies_23 : decode cX6_copies 23 = .ok (.iinc 4 1, 3) := by decide +kernel
theorem dX6_copies_26 : decode cX6_copies 26 = .ok (.goto (-23), 3) := by decide +kernel
theorem dX6_copies_29 : decode cX6_copies 29 = .ok (.return_, 1) := by decide +kernel
set_option maxRecDepth 20000 in
theorem ggX6_records_X6_copies : GoodIn wsX6_records wsX6_copies := goodIn_r _ [7] (by decide +kernel) (by decide +kernel)
set_option maxRecDepth 20000 in
theorem gX6_records_X6_copies : GoodIn wsX6_records (va_wsS RX6 36 yX6_copies wsX6_copies) := goodIn_app (goodIn_of _ (by decide +kernel)) ggX6_records_X6_copies
theorem dX6_records_0 : decode cX6_records 0 = .ok (.aload_n 0, 1) := by decide +kernel
theorem dX6_records_1 : decode cX6_records 1 = .ok (.getfield 32, 3) := by decide +kernel
theorem dX6_records_4 : decode cX6_records 4 = .ok (.iconst 4, 1) := by decide +kernel
theorem dX6_records_5 : decode cX6_records 5 = .ok (.if_icmp .ne 44, 3) := by decide +kernel
theorem dX6_records_8 : decode cX6_records 8 = .ok (.iconst 0, 1) := by decide +kernel
theorem dX6_records_9 : decode cX6_records 9 = .ok (.istore_n 1, 1) := by decide +kernel
theorem dX6_records_10 : decode cX6_records 10 = .ok (.iload_n 1, 1) := by decide +kernel
theorem dX6_records_11 : decode cX6_records 11 = .ok (.sipush 450, 3) := by decide +kernel
theorem dX6_records_14 : decode cX6_records 14 = .ok (.if_icmp .ge 25, 3) := by decide +kernel
theorem dX6_records_17 : decode cX6_records 17 = .ok (.aload_n 0, 1) := by decide +kernel
theorem dX6_records_18 : decode cX6_records 18 = .ok (.getfield 16, 3) := by decide +kernel
theorem dX6_records_21 : decode cX6_records 21 = .ok (.iload_n 1, 1) := by decide +kernel
theorem dX6_records_22 : decode cX6_records 22 = .ok (.aload_n 0, 1) := by decide +kernel
theorem dX6_records_23 : decode cX6_records 23 = .ok (.getfield 16, 3) := by decide +kernel
theorem dX6_records_26 : decode cX6_records 26 = .ok (.iload_n 1, 1) := by decide +kernel
theorem dX6_records_27 : decode cX6_records 27 = .ok (.sipush 150, 3) := by decide +kernel
theorem dX6_records_30 : decode cX6_records 30 = .ok (.iadd, 1) := by decide +kernel
theorem dX6_records_31 : decode cX6_records 31 = .ok (.iaload, 1) := by decide +kernel
theorem dX6_records_32 : decode cX6_records 32 = .ok (.iastore, 1) := by decide +kernel
theorem dX6_records_33 : decode cX6_records 33 = .ok (.iinc 1 1, 3) := by decide +kernel
theorem dX6_records_36 : decode cX6_records 36 = .ok (.goto (-26), 3) := by decide +kernel
theorem dX6_records_39 : decode cX6_records 39 = .ok (.aload_n 0, 1) := by decide +kernel
theorem dX6_records_40 : decode cX6_records 40 = .ok (.dup, 1) := by decide +kernel
theorem dX6_records_41 : decode cX6_records 41 = .ok (.getfield 32, 3) := by decide +kernel
theorem dX6_records_44 : decode cX6_records 44 = .ok (.iconst 1, 1) := by decide +kernel
theorem dX6_records_45 : decode cX6_records 45 = .ok (.isub, 1) := by decide +kernel
theorem dX6_records_46 : decode cX6_records 46 = .ok (.putfield 32, 3) := by decide +kernel
theorem dX6_records_49 : decode cX6_records 49 = .ok (.aload_n 0, 1) := by decide +kernel
theorem dX6_records_50 : decode cX6_records 50 = .ok (.getfield 7, 3) := by decide +kernel
theorem dX6_records_53 : decode cX6_records 53 = .ok (.iconst 0, 1) := by decide +kernel
theorem dX6_records_54 : decode cX6_records 54 = .ok (.aload_n 0, 1) := by decide +kernel
theorem dX6_records_55 : decode cX6_records 55 = .ok (.getfield 16, 3) := by decide +kernel
theorem dX6_records_58 : decode cX6_records 58 = .ok (.sipush 150, 3) := by decide +kernel
theorem dX6_records_61 : decode cX6_records 61 = .ok (.aload_n 0, 1) := by decide +kernel
theorem dX6_records_62 : decode cX6_records 62 = .ok (.getfield 32, 3) := by decide +kernel
theorem dX6_records_65 : decode cX6_records 65 = .ok (.imul, 1) := by decide +kernel
theorem dX6_records_66 : decode cX6_records 66 = .ok (.invokestatic 36, 3) := by decide +kernel
theorem dX6_records_69 : decode cX6_records 69 = .ok (.aload_n 0, 1) := by decide +kernel
theorem dX6_records_70 : decode cX6_records 70 = .ok (.dup, 1) := by decide +kernel
theorem dX6_records_71 : decode cX6_records 71 = .ok (.getfield 32, 3) := by decide +kernel
theorem dX6_records_74 : decode cX6_records 74 = .ok (.iconst 1, 1) := by decide +kernel
theorem dX6_records_75 : decode cX6_records 75 = .ok (.iadd, 1) := by decide +kernel
theorem dX6_records_76 : decode cX6_records 76 = .ok (.putfield 32, 3) := by decide +kernel
theorem dX6_records_79 : decode cX6_records 79 = .ok (.return_, 1) := by decide +kernel
set_option maxRecDepth 20000 in
theorem ggX6_isZone_X6_in : GoodIn wsX6_isZone wsX6_in := goodIn_r _ [5] (by decide +kernel) (by decide +kernel)
set_option maxRecDepth 20000 in
theorem gX6_isZone_X6_in : GoodIn wsX6_isZone (va_wsS RX6 40 yX6_in wsX6_in) := goodIn_app (goodIn_of _ (by decide +kernel)) ggX6_isZone_X6_in
theorem dX6_isZone_0 : decode cX6_isZone 0 = .ok (.iload_n 1, 1) := by decide +kernel
theorem dX6_isZone_1 : decode cX6_isZone 1 = .ok (.iconst 0, 1) := by decide +kernel
theorem dX6_isZone_2 : decode cX6_isZone 2 = .ok (.aload_n 0, 1) := by decide +kernel
theorem dX6_isZone_3 : decode cX6_isZone 3 = .ok (.getfield 7, 3) := by decide +kernel
theorem dX6_isZone_6 : decode cX6_isZone 6 = .ok (.iconst 0, 1) := by decide +kernel
theorem dX6_isZone_7 : decode cX6_isZone 7 = .ok (.iaload, 1) := by decide +kernel
theorem dX6_isZone_8 : decode cX6_isZone 8 = .ok (.iconst 1, 1) := by decide +kernel
theorem dX6_isZone_9 : decode cX6_isZone 9 = .ok (.isub, 1) := by decide +kernel
theorem dX6_isZone_10 : decode cX6_isZone 10 = .ok (.invokestatic 40, 3) := by decide +kernel
theorem dX6_isZone_13 : decode cX6_isZone 13 = .ok (.ireturn, 1) := by decide +kernel
theorem dX6_ofZone_0 : decode cX6_ofZone 0 = .ok (.aload_n 0, 1) := by decide +kernel
theorem dX6_ofZone_1 : decode cX6_ofZone 1 = .ok (.getfield 7, 3) := by decide +kernel
theorem dX6_ofZone_4 : decode cX6_ofZone 4 = .ok (.bipush 16, 2) := by decide +kernel
theorem dX6_ofZone_6 : decode cX6_ofZone 6 = .ok (.bipush 7, 2) := by decide +kernel
theorem dX6_ofZone_8 : decode cX6_ofZone 8 = .ok (.iload_n 1, 1) := by decide +kernel
theorem dX6_ofZone_9 : decode cX6_ofZone 9 = .ok (.imul, 1) := by decide +kernel
theorem dX6_ofZone_10 : decode cX6_ofZone 10 = .ok (.iadd, 1) := by decide +kernel
theorem dX6_ofZone_11 : decode cX6_ofZone 11 = .ok (.iload_n 2, 1) := by decide +kernel
theorem dX6_ofZone_12 : decode cX6_ofZone 12 = .ok (.iadd, 1) := by decide +kernel
theorem dX6_ofZone_13 : decode cX6_ofZone 13 = .ok (.iaload, 1) := by decide +kernel
theorem dX6_ofZone_14 : decode cX6_ofZone 14 = .ok (.ireturn, 1) := by decide +kernel
theorem dX6_laysZone_0 : decode cX6_laysZone 0 = .ok (.aload_n 0, 1) := by decide +kernel
theorem dX6_laysZone_1 : decode cX6_laysZone 1 = .ok (.getfield 7, 3) := by decide +kernel
theorem dX6_laysZone_4 : decode cX6_laysZone 4 = .ok (.bipush 16, 2) := by decide +kernel
theorem dX6_laysZone_6 : decode cX6_laysZone 6 = .ok (.bipush 7, 2) := by decide +kernel
theorem dX6_laysZone_8 : decode cX6_laysZone 8 = .ok (.iload_n 1, 1) := by decide +kernel
theorem dX6_laysZone_9 : decode cX6_laysZone 9 = .ok (.imul, 1) := by decide +kernel
theorem dX6_laysZone_10 : decode cX6_laysZone 10 = .ok (.iadd, 1) := by decide +kernel
theorem dX6_laysZone_11 : decode cX6_laysZone 11 = .ok (.iload_n 2, 1) := by decide +kernel
theorem dX6_laysZone_12 : decode cX6_laysZone 12 = .ok (.iadd, 1) := by decide +kernel
theorem dX6_laysZone_13 : decode cX6_laysZone 13 = .ok (.iload_n 3, 1) := by decide +kernel
theorem dX6_laysZone_14 : decode cX6_laysZone 14 = .ok (.iastore, 1) := by decide +kernel
theorem dX6_laysZone_15 : decode cX6_laysZone 15 = .ok (.return_, 1) := by decide +kernel
theorem dX6_of_0 : decode cX6_of 0 = .ok (.aload_n 0, 1) := by decide +kernel
theorem dX6_of_1 : decode cX6_of 1 = .ok (.getfield 7, 3) := by decide +kernel
theorem dX6_of_4 : decode cX6_of 4 = .ok (.bipush 86, 2) := by decide +kernel
theorem dX6_of_6 : decode cX6_of 6 = .ok (.bipush 8, 2) := by decide +kernel
theorem dX6_of_8 : decode cX6_of 8 = .ok (.iload_n 1, 1) := by decide +kernel
theorem dX6_of_9 : decode cX6_of 9 = .ok (.imul, 1) := by decide +kernel
theorem dX6_of_10 : decode cX6_of 10 = .ok (.iadd, 1) := by decide +kernel
theorem dX6_of_11 : decode cX6_of 11 = .ok (.iload_n 2, 1) := by decide +kernel
theorem dX6_of_12 : decode cX6_of 12 = .ok (.iadd, 1) := by decide +kernel
theorem dX6_of_13 : decode cX6_of 13 = .ok (.iaload, 1) := by decide +kernel
theorem dX6_of_14 : decode cX6_of 14 = .ok (.ireturn, 1) := by decide +kernel
theorem dX6_lays_0 : decode cX6_lays 0 = .ok (.aload_n 0, 1) := by decide +kernel
theorem dX6_lays_1 : decode cX6_lays 1 = .ok (.getfield 7, 3) := by decide +kernel
theorem dX6_lays_4 : decode cX6_lays 4 = .ok (.bipush 86, 2) := by decide +kernel
theorem dX6_lays_6 : decode cX6_lays 6 = .ok (.bipush 8, 2) := by decide +kernel
theorem dX6_lays_8 : decode cX6_lays 8 = .ok (.iload_n 1, 1) := by decide +kernel
theorem dX6_lays_9 : decode cX6_lays 9 = .ok (.imul, 1) := by decide +kernel
theorem dX6_lays_10 : decode cX6_lays 10 = .ok (.iadd, 1) := by decide +kernel
theorem dX6_lays_11 : decode cX6_lays 11 = .ok (.iload_n 2, 1) := by decide +kernel
theorem dX6_lays_12 : decode cX6_lays 12 = .ok (.iadd, 1) := by decide +kernel
theorem dX6_lays_13 : decode cX6_lays 13 = .ok (.iload_n 3, 1) := by decide +kernel
theorem dX6_lays_14 : decode cX6_lays 14 = .ok (.iastore, 1) := by decide +kernel
theorem dX6_lays_15 : decode cX6_lays 15 = .ok (.return_, 1) := by decide +kernel
set_option maxRecDepth 20000 in
theorem ggX6_isAnswer_X6_ofZone : GoodIn wsX6_isAnswer wsX6_ofZone := goodIn_r _ [5, 6, 10, 11, 12, 13, 14, 15, 16, 17, 18, 19, 20, 21, 22, 23, 24, 25, 26] (by decide +kernel) (by decide +kernel)
set_option maxRecDepth 20000 in
theorem gX6_isAnswer_X6_ofZone : GoodIn wsX6_isAnswer (wsV RX6 44 RX6 yX6_ofZone wsX6_ofZone) := goodIn_app (goodIn_of _ (by decide +kernel)) ggX6_isAnswer_X6_ofZone
set_option maxRecDepth 20000 in
theorem ggX6_isAnswer_X6_in : GoodIn wsX6_isAnswer wsX6_in := goodIn_r _ [9] (by decide +kernel) (by decide +kernel)
set_option maxRecDepth 20000 in
theorem gX6_isAnswer_X6_in : GoodIn wsX6_isAnswer (va_wsS RX6 40 yX6_in wsX6_in) := goodIn_app (goodIn_of _ (by decide +kernel)) ggX6_isAnswer_X6_in
theorem dX6_isAnswer_0 : decode cX6_isAnswer 0 = .ok (.iload_n 2, 1) := by decide +kernel
theorem dX6_isAnswer_1 : decode cX6_isAnswer 1 = .ok (.aload_n 0, 1) := by decide +kernel
theorem dX6_isAnswer_2 : decode cX6_isAnswer 2 = .ok (.iload_n 1, 1) := by decide +kernel
theorem dX6_isAnswer_3 : decode cX6_isAnswer 3 = .ok (.iconst 0, 1) := by decide +kernel
theorem dX6_isAnswer_4 : decode cX6_isAnswer 4 = .ok (.invokevirtual 44, 3) := by decide +kernel
theorem dX6_isAnswer_7 : decode cX6_isAnswer 7 = .ok (.aload_n 0, 1) := by decide +kernel
theorem dX6_isAnswer_8 : decode cX6_isAnswer 8 = .ok (.iload_n 1, 1) := by decide +kernel
theorem dX6_isAnswer_9 : decode cX6_isAnswer 9 = .ok (.iconst 1, 1) := by decide +kernel
theorem dX6_isAnswer_10 : decode cX6_isAnswer 10 = .ok (.invokevirtual 44, 3) := by decide +kernel
theorem dX6_isAnswer_13 : decode cX6_isAnswer 13 = .ok (.invokestatic 40, 3) := by decide +kernel
theorem dX6_isAnswer_16 : decode cX6_isAnswer 16 = .ok (.ifCond .eq 26, 3) := by decide +kernel
theorem dX6_isAnswer_19 : decode cX6_isAnswer 19 = .ok (.iload_n 3, 1) := by decide +kernel
theorem dX6_isAnswer_20 : decode cX6_isAnswer 20 = .ok (.aload_n 0, 1) := by decide +kernel
theorem dX6_isAnswer_21 : decode cX6_isAnswer 21 = .ok (.iload_n 1, 1) := by decide +kernel
theorem dX6_isAnswer_22 : decode cX6_isAnswer 22 = .ok (.iconst 2, 1) := by decide +kernel
theorem dX6_isAnswer_23 : decode cX6_isAnswer 23 = .ok (.invokevirtual 44, 3) := by decide +kernel
theorem dX6_isAnswer_26 : decode cX6_isAnswer 26 = .ok (.aload_n 0, 1) := by decide +kernel
theorem dX6_isAnswer_27 : decode cX6_isAnswer 27 = .ok (.iload_n 1, 1) := by decide +kernel
theorem dX6_isAnswer_28 : decode cX6_isAnswer 28 = .ok (.iconst 3, 1) := by decide +kernel
theorem dX6_isAnswer_29 : decode cX6_isAnswer 29 = .ok (.invokevirtual 44, 3) := by decide +kernel
theorem dX6_isAnswer_32 : decode cX6_isAnswer 32 = .ok (.invokestatic 40, 3) := by decide +kernel
theorem dX6_isAnswer_35 : decode cX6_isAnswer 35 = .ok (.ifCond .eq 7, 3) := by decide +kernel
theorem dX6_isAnswer_38 : decode cX6_isAnswer 38 = .ok (.iconst 1, 1) := by decide +kernel
theorem dX6_isAnswer_39 : decode cX6_isAnswer 39 = .ok (.goto 4, 3) := by decide +kernel
theorem dX6_isAnswer_42 : decode cX6_isAnswer 42 = .ok (.iconst 0, 1) := by decide +kernel
theorem dX6_isAnswer_43 : decode cX6_isAnswer 43 = .ok (.ireturn, 1) := by decide +kernel
set_option maxRecDepth 20000 in
theorem ggX6_answering_X6_isAnswer : GoodIn wsX6_answering wsX6_isAnswer := goodIn_r _ [6, 7, 8, 9, 5, 10, 1, 11, 12, 13, 14, 15, 16, 17, 18, 19, 20, 21, 22, 23, 24, 25, 26, 27, 28, 29, 30] (by decide +kernel) (by decide +kernel)
set_option maxRecDepth 20000 in
theorem gX6_answering_X6_isAnswer : GoodIn wsX6_answering (wsV RX6 48 RX6 yX6_isAnswer wsX6_isAnswer) := goodIn_app (goodIn_of _ (by decide +kernel)) ggX6_answering_X6_isAnswer
theorem dX6_answering_0 : decode cX6_answering 0 = .ok (.iconst 0, 1) := by decide +kernel
theorem dX6_answering_1 : decode cX6_answering 1 = .ok (.istore_n 3, 1) := by decide +kernel
theorem dX6_answering_2 : decode cX6_answering 2 = .ok (.iconst 0, 1) := by decide +kernel
theorem dX6_answering_3 : decode cX6_answering 3 = .ok (.istore 4, 2) := by decide +kernel
theorem dX6_answering_5 : decode cX6_answering 5 = .ok (.iload 4, 2) := by decide +kernel
theorem dX6_answering_7 : decode cX6_answering 7 = .ok (.aload_n 0, 1) := by decide +kernel
theorem dX6_answering_8 : decode cX6_answering 8 = .ok (.getfield 7, 3) := by decide +kernel
theorem dX6_answering_11 : decode cX6_answering 11 = .ok (.iconst 0, 1) := by decide +kernel
theorem dX6_answering_12 : decode cX6_answering 12 = .ok (.iaload, 1) := by decide +kernel
theorem dX6_answering_13 : decode cX6_answering 13 = .ok (.if_icmp .ge 28, 3) := by decide +kernel
theorem dX6_answering_16 : decode cX6_answering 16 = .ok (.iload_n 3, 1) := by decide +kernel
theorem dX6_answering_17 : decode cX6_answering 17 = .ok (.aload_n 0, 1) := by decide +kernel
theorem dX6_answering_18 : decode cX6_answering 18 = .ok (.iload 4, 2) := by decide +kernel
theorem dX6_answering_20 : decode cX6_answering 20 = .ok (.iload_n 1, 1) := by decide +kernel
theorem dX6_answering_21 : decode cX6_answering 21 = .ok (.iload_n 2, 1) := by decide +kernel
theorem dX6_answering_22 : decode cX6_answering 22 = .ok (.invokevirtual 48, 3) := by decide +kernel
theorem dX6_answering_25 : decode cX6_answering 25 = .ok (.ifCond .eq 7, 3) := by decide +kernel
theorem dX6_answering_28 : decode cX6_answering 28 = .ok (.iconst 1, 1) := by decide +kernel
theorem dX6_answering_29 : decode cX6_answering 29 = .ok (.goto 4, 3) := by decide +kernel
theorem dX6_answering_32 : decode cX6_answering 32 = .ok (.iconst 0, 1) := by decide +kernel
theorem dX6_answering_33 : decode cX6_answering 33 = .ok (.iadd, 1) := by decide +kernel
theorem dX6_answering_34 : decode cX6_answering 34 = .ok (.istore_n 3, 1) := by decide +kernel
theorem dX6_answering_35 : decode cX6_answering 35 = .ok (.iinc 4 1, 3) := by decide +kernel
theorem dX6_answering_38 : decode cX6_answering 38 = .ok (.goto (-33), 3) := by decide +kernel
theorem dX6_answering_41 : decode cX6_answering 41 = .ok (.iload_n 3, 1) := by decide +kernel
theorem dX6_answering_42 : decode cX6_answering 42 = .ok (.ireturn, 1) := by decide +kernel
set_option maxRecDepth 20000 in
theorem ggX6_ofRobin_X6_ofZone : GoodIn wsX6_ofRobin wsX6_ofZone := goodIn_r _ [5, 6, 14, 15, 16, 17, 18, 19, 20, 21, 22, 23, 24, 25, 26, 27, 28, 29, 30] (by decide +kernel) (by decide +kernel)
set_option maxRecDepth 20000 in
theorem gX6_ofRobin_X6_ofZone : GoodIn wsX6_ofRobin (wsV RX6 44 RX6 yX6_ofZone wsX6_ofZone) := goodIn_app (goodIn_of _ (by decide +kernel)) ggX6_ofRobin_X6_ofZone
set_option maxRecDepth 20000 in
theorem ggX6_ofRobin_X6_isAnswer : GoodIn wsX6_ofRobin wsX6_isAnswer := goodIn_r _ [10, 1, 2, 3, 4, 5, 6, 11, 12, 13, 14, 15, 16, 17, 18, 19, 20, 21, 22, 23, 24, 25, 26, 27, 28, 29, 30] (by decide +kernel) (by decide +kernel)
set_option maxRecDepth 20000 in
theorem gX6_ofRobin_X6_isAnswer : GoodIn wsX6_ofRobin (wsV RX6 48 RX6 yX6_isAnswer wsX6_isAnswer) := goodIn_app (goodIn_of _ (by decide +kernel)) ggX6_ofRobin_X6_isAnswer
theorem dX6_ofRobin_0 : decode cX6_ofRobin 0 = .ok (.iconst 0, 1) := by decide +kernel
theorem dX6_ofRobin_1 : decode cX6_ofRobin 1 = .ok (.istore 5, 2) := by decide +kernel
theorem dX6_ofRobin_3 : decode cX6_ofRobin 3 = .ok (.iconst 0, 1) := by decide +kernel
theorem dX6_ofRobin_4 : decode cX6_ofRobin 4 = .ok (.istore 6, 2) := by decide +kernel
theorem dX6_ofRobin_6 : decode cX6_ofRobin 6 = .ok (.iload 6, 2) := by decide +kernel
theorem dX6_ofRobin_8 : decode cX6_ofRobin 8 = .ok (.iload_n 2, 1) := by decide +kernel
theorem dX6_ofRobin_9 : decode cX6_ofRobin 9 = .ok (.if_icmp .ge 42, 3) := by decide +kernel
theorem dX6_ofRobin_12 : decode cX6_ofRobin 12 = .ok (.iload 5, 2) := by decide +kernel
theorem dX6_ofRobin_14 : decode cX6_ofRobin 14 = .ok (.aload_n 0, 1) := by decide +kernel
theorem dX6_ofRobin_15 : decode cX6_ofRobin 15 = .ok (.iload 6, 2) := by decide +kernel
theorem dX6_ofRobin_17 : decode cX6_ofRobin 17 = .ok (.iconst 5, 1) := by decide +kernel
theorem dX6_ofRobin_18 : decode cX6_ofRobin 18 = .ok (.invokevirtual 44, 3) := by decide +kernel
theorem dX6_ofRobin_21 : decode cX6_ofRobin 21 = .ok (.iload_n 1, 1) := by decide +kernel
theorem dX6_ofRobin_22 : decode cX6_ofRobin 22 = .ok (.if_icmp .ne 19, 3) := by decide +kernel
theorem dX6_ofRobin_25 : decode cX6_ofRobin 25 = .ok (.aload_n 0, 1) := by decide +kernel
theorem dX6_ofRobin_26 : decode cX6_ofRobin 26 = .ok (.iload 6, 2) := by decide +kernel
theorem dX6_ofRobin_28 : decode cX6_ofRobin 28 = .ok (.iload_n 3, 1) := by decide +kernel
theorem dX6_ofRobin_29 : decode cX6_ofRobin 29 = .ok (.iload 4, 2) := by decide +kernel
theorem dX6_ofRobin_31 : decode cX6_ofRobin 31 = .ok (.invokevirtual 48, 3) := by decide +kernel
theorem dX6_ofRobin_34 : decode cX6_ofRobin 34 = .ok (.ifCond .eq 7, 3) := by decide +kernel
theorem dX6_ofRobin_37 : decode cX6_ofRobin 37 = .ok (.iconst 1, 1) := by decide +kernel
theorem dX6_ofRobin_38 : decode cX6_ofRobin 38 = .ok (.goto 4, 3) := by decide +kernel
theorem dX6_ofRobin_41 : decode cX6_ofRobin 41 = .ok (.iconst 0, 1) := by decide +kernel
theorem dX6_ofRobin_42 : decode cX6_ofRobin 42 = .ok (.iadd, 1) := by decide +kernel
theorem dX6_ofRobin_43 : decode cX6_ofRobin 43 = .ok (.istore 5, 2) := by decide +kernel
theorem dX6_ofRobin_45 : decode cX6_ofRobin 45 = .ok (.iinc 6 1, 3) := by decide +kernel
theorem dX6_ofRobin_48 : decode cX6_ofRobin 48 = .ok (.goto (-42), 3) := by decide +kernel
theorem dX6_ofRobin_51 : decode cX6_ofRobin 51 = .ok (.iload 5, 2) := by decide +kernel
theorem dX6_ofRobin_53 : decode cX6_ofRobin 53 = .ok (.ireturn, 1) := by decide +kernel
set_option maxRecDepth 20000 in
theorem ggX6_isSounding_X6_ofZone : GoodIn wsX6_isSounding wsX6_ofZone := goodIn_r _ [6, 1, 18, 19, 20, 21, 22, 23, 24, 25, 26, 27, 28, 29, 30, 31, 32, 33, 34] (by decide +kernel) (by decide +kernel)
set_option maxRecDepth 20000 in
theorem gX6_isSounding_X6_ofZone : GoodIn wsX6_isSounding (wsV RX6 44 RX6 yX6_ofZone wsX6_ofZone) := goodIn_app (goodIn_of _ (by decide +kernel)) ggX6_isSounding_X6_ofZone
set_option maxRecDepth 20000 in
theorem ggX6_isSounding_X6_isAnswer : GoodIn wsX6_isSounding wsX6_isAnswer := goodIn_r _ [10, 2, 3, 4, 5, 6, 1, 11, 12, 13, 18, 19, 20, 21, 22, 23, 24, 25, 26, 27, 28, 29, 30, 31, 32, 33, 34] (by decide +kernel) (by decide +kernel)
set_option maxRecDepth 20000 in
theorem gX6_isSounding_X6_isAnswer : GoodIn wsX6_isSounding (wsV RX6 48 RX6 yX6_isAnswer wsX6_isAnswer) := goodIn_app (goodIn_of _ (by decide +kernel)) ggX6_isSounding_X6_isAnswer
set_option maxRecDepth 20000 in
theorem ggX6_isSounding_X6_ofRobin : GoodIn wsX6_isSounding wsX6_ofRobin := goodIn_r _ [17, 2, 3, 4, 5, 6, 1, 7, 8, 9, 10, 11, 12, 13, 18, 19, 20, 21, 22, 23, 24, 25, 26, 27, 28, 29, 30, 31, 32, 33, 34] (by decide +kernel) (by decide +kernel)
set_option maxRecDepth 20000 in
theorem gX6_isSounding_X6_ofRobin : GoodIn wsX6_isSounding (wsV RX6 51 RX6 yX6_ofRobin wsX6_ofRobin) := goodIn_app (goodIn_of _ (by decide +kernel)) ggX6_isSounding_X6_ofRobin
theorem dX6_isSounding_0 : decode cX6_isSounding 0 = .ok (.aload_n 0, 1) := by decide +kernel
theorem dX6_isSounding_1 : decode cX6_isSounding 1 = .ok (.iload_n 1, 1) := by decide +kernel
theorem dX6_isSounding_2 : decode cX6_isSounding 2 = .ok (.iconst 5, 1) := by decide +kernel
theorem dX6_isSounding_3 : decode cX6_isSounding 3 = .ok (.invokevirtual 44, 3) := by decide +kernel
theorem dX6_isSounding_6 : decode cX6_isSounding 6 = .ok (.istore 4, 2) := by decide +kernel
theorem dX6_isSounding_8 : decode cX6_isSounding 8 = .ok (.aload_n 0, 1) := by decide +kernel
theorem dX6_isSounding_9 : decode cX6_isSounding 9 = .ok (.iload_n 1, 1) := by decide +kernel
theorem dX6_isSounding_10 : decode cX6_isSounding 10 = .ok (.iload_n 2, 1) := by decide +kernel
theorem dX6_isSounding_11 : decode cX6_isSounding 11 = .ok (.iload_n 3, 1) := by decide +kernel
theorem dX6_isSounding_12 : decode cX6_isSounding 12 = .ok (.invokevirtual 48, 3) := by decide +kernel
theorem dX6_isSounding_15 : decode cX6_isSounding 15 = .ok (.ifCond .eq 8, 3) := by decide +kernel
theorem dX6_isSounding_18 : decode cX6_isSounding 18 = .ok (.iload 4, 2) := by decide +kernel
theorem dX6_isSounding_20 : decode cX6_isSounding 20 = .ok (.ifCond .ne 11, 3) := by decide +kernel
theorem dX6_isSounding_23 : decode cX6_isSounding 23 = .ok (.aload_n 0, 1) := by decide +kernel
theorem dX6_isSounding_24 : decode cX6_isSounding 24 = .ok (.iload_n 1, 1) := by decide +kernel
theorem dX6_isSounding_25 : decode cX6_isSounding 25 = .ok (.iload_n 2, 1) := by decide +kernel
theorem dX6_isSounding_26 : decode cX6_isSounding 26 = .ok (.iload_n 3, 1) := by decide +kernel
theorem dX6_isSounding_27 : decode cX6_isSounding 27 = .ok (.invokevirtual 48, 3) := by decide +kernel
theorem dX6_isSounding_30 : decode cX6_isSounding 30 = .ok (.ireturn, 1) := by decide +kernel
theorem dX6_isSounding_31 : decode cX6_isSounding 31 = .ok (.aload_n 0, 1) := by decide +kernel
theorem dX6_isSounding_32 : decode cX6_isSounding 32 = .ok (.iload 4, 2) := by decide +kernel
theorem dX6_isSounding_34 : decode cX6_isSounding 34 = .ok (.aload_n 0, 1) := by decide +kernel
theorem dX6_isSounding_35 : decode cX6_isSounding 35 = .ok (.getfield 7, 3) := by decide +kernel
theorem dX6_isSounding_38 : decode cX6_isSounding 38 = .ok (.iconst 0, 1) := by decide +kernel
theorem dX6_isSounding_39 : decode cX6_isSounding 39 = .ok (.iaload, 1) := by decide +kernel
theorem dX6_isSounding_40 : decode cX6_isSounding 40 = .ok (.iload_n 2, 1) := by decide +kernel
theorem dX6_isSounding_41 : decode cX6_isSounding 41 = .ok (.iload_n 3, 1) := by decide +kernel
theorem dX6_isSounding_42 : decode cX6_isSounding 42 = .ok (.invokevirtual 51, 3) := by decide +kernel
theorem dX6_isSounding_45 : decode cX6_isSounding 45 = .ok (.istore 5, 2) := by decide +kernel
theorem dX6_isSounding_47 : decode cX6_isSounding 47 = .ok (.aload_n 0, 1) := by decide +kernel
theorem dX6_isSounding_48 : decode cX6_isSounding 48 = .ok (.getfield 7, 3) := by decide +kernel
theorem dX6_isSounding_51 : decode cX6_isSounding 51 = .ok (.bipush 12, 2) := by decide +kernel
theorem dX6_isSounding_53 : decode cX6_isSounding 53 = .ok (.iload 4, 2) := by decide +kernel
theorem dX6_isSounding_55 : decode cX6_isSounding 55 = .ok (.iadd, 1) := by decide +kernel
theorem dX6_isSounding_56 : decode cX6_isSounding 56 = .ok (.iconst 1, 1) := by decide +kernel
theorem dX6_isSounding_57 : decode cX6_isSounding 57 = .ok (.isub, 1) := by decide +kernel
theorem dX6_isSounding_58 : decode cX6_isSounding 58 = .ok (.iaload, 1) := by decide +kernel
theorem dX6_isSounding_59 : decode cX6_isSounding 59 = .ok (.iload 5, 2) := by decide +kernel
theorem dX6_isSounding_61 : decode cX6_isSounding 61 = .ok (.irem, 1) := by decide +kernel
theorem dX6_isSounding_62 : decode cX6_isSounding 62 = .ok (.aload_n 0, 1) := by decide +kernel
theorem dX6_isSounding_63 : decode cX6_isSounding 63 = .ok (.iload 4, 2) := by decide +kernel
theorem dX6_isSounding_65 : decode cX6_isSounding 65 = .ok (.iload_n 1, 1) := by decide +kernel
theorem dX6_isSounding_66 : decode cX6_isSounding 66 = .ok (.iload_n 2, 1) := by decide +kernel
theorem dX6_isSounding_67 : decode cX6_isSounding 67 = .ok (.iload_n 3, 1) := by decide +kernel
theorem dX6_isSounding_68 : decode cX6_isSounding 68 = .ok (.invokevirtual 51, 3) := by decide +kernel
theorem dX6_isSounding_71 : decode cX6_isSounding 71 = .ok (.if_icmp .ne 7, 3) := by decide +kernel
theorem dX6_isSounding_74 : decode cX6_isSounding 74 = .ok (.iconst 1, 1) := by decide +kernel
theorem dX6_isSounding_75 : decode cX6_isSounding 75 = .ok (.goto 4, 3) := by decide +kernel
theorem dX6_isSounding_78 : decode cX6_isSounding 78 = .ok (.iconst 0, 1) := by decide +kernel
theorem dX6_isSounding_79 : decode cX6_isSounding 79 = .ok (.ireturn, 1) := by decide +kernel
theorem dX6_dropsVoice_0 : decode cX6_dropsVoice 0 = .ok (.aload_n 0, 1) := by decide +kernel
theorem dX6_dropsVoice_1 : decode cX6_dropsVoice 1 = .ok (.getfield 7, 3) := by decide +kernel
theorem dX6_dropsVoice_4 : decode cX6_dropsVoice 4 = .ok (.iconst 1, 1) := by decide +kernel
theorem dX6_dropsVoice_5 : decode cX6_dropsVoice 5 = .ok (.dup2, 1) := by decide +kernel
theorem dX6_dropsVoice_6 : decode cX6_dropsVoice 6 = .ok (.iaload, 1) := by decide +kernel
theorem dX6_dropsVoice_7 : decode cX6_dropsVoice 7 = .ok (.iconst 1, 1) := by decide +kernel
theorem dX6_dropsVoice_8 : decode cX6_dropsVoice 8 = .ok (.isub, 1) := by decide +kernel
theorem dX6_dropsVoice_9 : decode cX6_dropsVoice 9 = .ok (.iastore, 1) := by decide +kernel
theorem dX6_dropsVoice_10 : decode cX6_dropsVoice 10 = .ok (.bipush 86, 2) := by decide +kernel
theorem dX6_dropsVoice_12 : decode cX6_dropsVoice 12 = .ok (.bipush 8, 2) := by decide +kernel
theorem dX6_dropsVoice_14 : decode cX6_dropsVoice 14 = .ok (.iload_n 1, 1) := by decide +kernel
theorem dX6_dropsVoice_15 : decode cX6_dropsVoice 15 = .ok (.imul, 1) := by decide +kernel
theorem dX6_dropsVoice_16 : decode cX6_dropsVoice 16 = .ok (.iadd, 1) := by decide +kernel
theorem dX6_dropsVoice_17 : decode cX6_dropsVoice 17 = .ok (.istore_n 2, 1) := by decide +kernel
theorem dX6_dropsVoice_18 : decode cX6_dropsVoice 18 = .ok (.iload_n 2, 1) := by decide +kernel
theorem dX6_dropsVoice_19 : decode cX6_dropsVoice 19 = .ok (.sipush 150, 3) := by decide +kernel
theorem dX6_dropsVoice_22 : decode cX6_dropsVoice 22 = .ok (.if_icmp .ge 38, 3) := by decide +kernel
theorem dX6_dropsVoice_25 : decode cX6_dropsVoice 25 = .ok (.aload_n 0, 1) := by decide +kernel
theorem dX6_dropsVoice_26 : decode cX6_dropsVoice 26 = .ok (.getfield 7, 3) := by decide +kernel
theorem dX6_dropsVoice_29 : decode cX6_dropsVoice 29 = .ok (.iload_n 2, 1) := by decide +kernel
theorem dX6_dropsVoice_30 : decode cX6_dropsVoice 30 = .ok (.iload_n 2, 1) := by decide +kernel
theorem dX6_dropsVoice_31 : decode cX6_dropsVoice 31 = .ok (.bipush 8, 2) := by decide +kernel
theorem dX6_dropsVoice_33 : decode cX6_dropsVoice 33 = .ok (.iadd, 1) := by decide +kernel
theorem dX6_dropsVoice_34 : decode cX6_dropsVoice 34 = .ok (.sipush 150, 3) := by decide +kernel
theorem dX6_dropsVoice_37 : decode cX6_dropsVoice 37 = .ok (.if_icmp .ge 15, 3) := by decide +kernel
theorem dX6_dropsVoice_40 : decode cX6_dropsVoice 40 = .ok (.aload_n 0, 1) := by decide +kernel
theorem dX6_dropsVoice_41 : decode cX6_dropsVoice 41 = .ok (.getfield 7, 3) := by decide +kernel
theorem dX6_dropsVoice_44 : decode cX6_dropsVoice 44 = .ok (.iload_n 2, 1) := by decide +kernel
theorem dX6_dropsVoice_45 : decode cX6_dropsVoice 45 = .ok (.bipush 8, 2) := by decide +kernel
theorem dX6_dropsVoice_47 : decode cX6_dropsVoice 47 = .ok (.iadd, 1) := by decide +kernel
theorem dX6_dropsVoice_48 : decode cX6_dropsVoice 48 = .ok (.iaload, 1) := by decide +kernel
theorem dX6_dropsVoice_49 : decode cX6_dropsVoice 49 = .ok (.goto 4, 3) := by decide +kernel
theorem dX6_dropsVoice_52 : decode cX6_dropsVoice 52 = .ok (.iconst 0, 1) := by decide +kernel
theorem dX6_dropsVoice_53 : decode cX6_dropsVoice 53 = .ok (.iastore, 1) := by decide +kernel
theorem dX6_dropsVoice_54 : decode cX6_dropsVoice 54 = .ok (.iinc 2 1, 3) := by decide +kernel
theorem dX6_dropsVoice_57 : decode cX6_dropsVoice 57 = .ok (.goto (-39), 3) := by decide +kernel
theorem dX6_dropsVoice_60 : decode cX6_dropsVoice 60 = .ok (.return_, 1) := by decide +kernel
set_option maxRecDepth 20000 in
theorem ggX6_soon_X6_of : GoodIn wsX6_soon wsX6_of := goodIn_r _ [6, 1, 7, 8, 9, 10, 11, 12, 13, 14, 15, 16, 17, 18, 19, 20, 21, 22, 23] (by decide +kernel) (by decide +kernel)
set_option maxRecDepth 20000 in
theorem gX6_soon_X6_of : GoodIn wsX6_soon (wsV RX6 55 RX6 yX6_of wsX6_of) := goodIn_app (goodIn_of _ (by decide +kernel)) ggX6_soon_X6_of
theorem dX6_soon_0 : decode cX6_soon 0 = .ok (.aload_n 0, 1) := by decide +kernel
theorem dX6_soon_1 : decode cX6_soon 1 = .ok (.getfield 7, 3) := by decide +kernel
theorem dX6_soon_4 : decode cX6_soon 4 = .ok (.bipush 10, 2) := by decide +kernel
theorem dX6_soon_6 : decode cX6_soon 6 = .ok (.iaload, 1) := by decide +kernel
theorem dX6_soon_7 : decode cX6_soon 7 = .ok (.ifCond .ne 12, 3) := by decide +kernel
theorem dX6_soon_10 : decode cX6_soon 10 = .ok (.aload_n 0, 1) := by decide +kernel
theorem dX6_soon_11 : decode cX6_soon 11 = .ok (.iload_n 1, 1) := by decide +kernel
theorem dX6_soon_12 : decode cX6_soon 12 = .ok (.iconst 4, 1) := by decide +kernel
theorem dX6_soon_13 : decode cX6_soon 13 = .ok (.invokevirtual 55, 3) := by decide +kernel
theorem dX6_soon_16 : decode cX6_soon 16 = .ok (.goto 30, 3) := by decide +kernel
theorem dX6_soon_19 : decode cX6_soon 19 = .ok (.aload_n 0, 1) := by decide +kernel
theorem dX6_soon_20 : decode cX6_soon 20 = .ok (.getfield 7, 3) := by decide +kernel
theorem dX6_soon_23 : decode cX6_soon 23 = .ok (.bipush 10, 2) := by decide +kernel
theorem dX6_soon_25 : decode cX6_soon 25 = .ok (.iaload, 1) := by decide +kernel
theorem dX6_soon_26 : decode cX6_soon 26 = .ok (.iconst 1, 1) := by decide +kernel
theorem dX6_soon_27 : decode cX6_soon 27 = .ok (.if_icmp .ne 13, 3) := by decide +kernel
theorem dX6_soon_30 : decode cX6_soon 30 = .ok (.aload_n 0, 1) := by decide +kernel
theorem dX6_soon_31 : decode cX6_soon 31 = .ok (.iload_n 1, 1) := by decide +kernel
theorem dX6_soon_32 : decode cX6_soon 32 = .ok (.iconst 3, 1) := by decide +kernel
theorem dX6_soon_33 : decode cX6_soon 33 = .ok (.invokevirtual 55, 3) := by decide +kernel
theorem dX6_soon_36 : decode cX6_soon 36 = .ok (.ineg, 1) := by decide +kernel
theorem dX6_soon_37 : decode cX6_soon 37 = .ok (.goto 9, 3) := by decide +kernel
theorem dX6_soon_40 : decode cX6_soon 40 = .ok (.aload_n 0, 1) := by decide +kernel
theorem dX6_soon_41 : decode cX6_soon 41 = .ok (.iload_n 1, 1) := by decide +kernel
theorem dX6_soon_42 : decode cX6_soon 42 = .ok (.iconst 5, 1) := by decide +kernel
theorem dX6_soon_43 : decode cX6_soon 43 = .ok (.invokevirtual 55, 3) := by decide +kernel
theorem dX6_soon_46 : decode cX6_soon 46 = .ok (.ireturn, 1) := by decide +kernel
set_option maxRecDepth 20000 in
theorem ggX6_steals_X6_soon : GoodIn wsX6_steals wsX6_soon := goodIn_r _ [6, 1, 7, 8, 9, 5, 10, 15, 16, 17, 18, 19, 20, 21, 22, 23, 24, 25, 26, 27, 28, 29, 30, 31] (by decide +kernel) (by decide +kernel)
set_option maxRecDepth 20000 in
theorem gX6_steals_X6_soon : GoodIn wsX6_steals (wsV RX6 58 RX6 yX6_soon wsX6_soon) := goodIn_app (goodIn_of _ (by decide +kernel)) ggX6_steals_X6_soon
set_option maxRecDepth 20000 in
theorem ggX6_steals_X6_dropsVoice : GoodIn wsX6_steals wsX6_dropsVoice := goodIn_r _ [14, 1, 15, 16, 17, 18, 19, 20, 21, 22, 23, 24, 25, 26, 27, 28, 29, 30, 31] (by decide +kernel) (by decide +kernel)
set_option maxRecDepth 20000 in
theorem gX6_steals_X6_dropsVoice : GoodIn wsX6_steals (wsV RX6 62 RX6 yX6_dropsVoice wsX6_dropsVoice) := goodIn_app (goodIn_of _ (by decide +kernel)) ggX6_steals_X6_dropsVoice
theorem dX6_steals_0 : decode cX6_steals 0 = .ok (.iconst 0, 1) := by decide +kernel
theorem dX6_steals_1 : decode cX6_steals 1 = .ok (.istore_n 1, 1) := by decide +kernel
theorem dX6_steals_2 : decode cX6_steals 2 = .ok (.iconst 1, 1) := by decide +kernel
theorem dX6_steals_3 : decode cX6_steals 3 = .ok (.istore_n 2, 1) := by decide +kernel
theorem dX6_steals_4 : decode cX6_steals 4 = .ok (.iload_n 2, 1) := by decide +kernel
theorem dX6_steals_5 : decode cX6_steals 5 = .ok (.aload_n 0, 1) := by decide +kernel
theorem dX6_steals_6 : decode cX6_steals 6 = .ok (.getfield 7, 3) := by decide +kernel
theorem dX6_steals_9 : decode cX6_steals 9 = .ok (.iconst 1, 1) := by decide +kernel
theorem dX6_steals_10 : decode cX6_steals 10 = .ok (.iaload, 1) := by decide +kernel
theorem dX6_steals_11 : decode cX6_steals 11 = .ok (.if_icmp .ge 28, 3) := by decide +kernel
theorem dX6_steals_14 : decode cX6_steals 14 = .ok (.aload_n 0, 1) := by decide +kernel
theorem dX6_steals_15 : decode cX6_steals 15 = .ok (.iload_n 2, 1) := by decide +kernel
theorem dX6_steals_16 : decode cX6_steals 16 = .ok (.invokevirtual 58, 3) := by decide +kernel
theorem dX6_steals_19 : decode cX6_steals 19 = .ok (.aload_n 0, 1) := by decide +kernel
theorem dX6_steals_20 : decode cX6_steals 20 = .ok (.iload_n 1, 1) := by decide +kernel
theorem dX6_steals_21 : decode cX6_steals 21 = .ok (.invokevirtual 58, 3) := by decide +kernel
theorem dX6_steals_24 : decode cX6_steals 24 = .ok (.if_icmp .le 7, 3) := by decide +kernel
theorem dX6_steals_27 : decode cX6_steals 27 = .ok (.iload_n 2, 1) := by decide +kernel
theorem dX6_steals_28 : decode cX6_steals 28 = .ok (.goto 4, 3) := by decide +kernel
theorem dX6_steals_31 : decode cX6_steals 31 = .ok (.iload_n 1, 1) := by decide +kernel
theorem dX6_steals_32 : decode cX6_steals 32 = .ok (.istore_n 1, 1) := by decide +kernel
theorem dX6_steals_33 : decode cX6_steals 33 = .ok (.iinc 2 1, 3) := by decide +kernel
theorem dX6_steals_36 : decode cX6_steals 36 = .ok (.goto (-32), 3) := by decide +kernel
theorem dX6_steals_39 : decode cX6_steals 39 = .ok (.aload_n 0, 1) := by decide +kernel
theorem dX6_steals_40 : decode cX6_steals 40 = .ok (.iload_n 1, 1) := by decide +kernel
theorem dX6_steals_41 : decode cX6_steals 41 = .ok (.invokevirtual 62, 3) := by decide +kernel
theorem dX6_steals_44 : decode cX6_steals 44 = .ok (.aload_n 0, 1) := by decide +kernel
theorem dX6_steals_45 : decode cX6_steals 45 = .ok (.getfield 7, 3) := by decide +kernel
theorem dX6_steals_48 : decode cX6_steals 48 = .ok (.bipush 7, 2) := by decide +kernel
theorem dX6_steals_50 : decode cX6_steals 50 = .ok (.dup2, 1) := by decide +kernel
theorem dX6_steals_51 : decode cX6_steals 51 = .ok (.iaload, 1) := by decide +kernel
theorem dX6_steals_52 : decode cX6_steals 52 = .ok (.iconst 1, 1) := by decide +kernel
theorem dX6_steals_53 : decode cX6_steals 53 = .ok (.iadd, 1) := by decide +kernel
theorem dX6_steals_54 : decode cX6_steals 54 = .ok (.iastore, 1) := by decide +kernel
theorem dX6_steals_55 : decode cX6_steals 55 = .ok (.return_, 1) := by decide +kernel
set_option maxRecDepth 20000 in
theorem ggX6_chokes_X6_of : GoodIn wsX6_chokes wsX6_of := goodIn_r _ [6, 1, 15, 16, 17, 18, 19, 20, 21, 22, 23, 24, 25, 26, 27, 28, 29, 30, 31] (by decide +kernel) (by decide +kernel)
set_option maxRecDepth 20000 in
theorem gX6_chokes_X6_of : GoodIn wsX6_chokes (wsV RX6 55 RX6 yX6_of wsX6_of) := goodIn_app (goodIn_of _ (by decide +kernel)) ggX6_chokes_X6_of
set_option maxRecDepth 20000 in
theorem ggX6_chokes_X6_ofZone : GoodIn wsX6_chokes wsX6_ofZone := goodIn_r _ [10, 1, 15, 16, 17, 18, 19, 20, 21, 22, 23, 24, 25, 26, 27, 28, 29, 30, 31] (by decide +kernel) (by decide +kernel)
set_option maxRecDepth 20000 in
theorem gX6_chokes_X6_ofZone : GoodIn wsX6_chokes (wsV RX6 44 RX6 yX6_ofZone wsX6_ofZone) := goodIn_app (goodIn_of _ (by decide +kernel)) ggX6_chokes_X6_ofZone
set_option maxRecDepth 20000 in
theorem ggX6_chokes_X6_dropsVoice : GoodIn wsX6_chokes wsX6_dropsVoice := goodIn_r _ [14, 1, 15, 16, 17, 18, 19, 20, 21, 22, 23, 24, 25, 26, 27, 28, 29, 30, 31] (by decide +kernel) (by decide +kernel)
set_option maxRecDepth 20000 in
theorem gX6_chokes_X6_dropsVoice : GoodIn wsX6_chokes (wsV RX6 62 RX6 yX6_dropsVoice wsX6_dropsVoice) := goodIn_app (goodIn_of _ (by decide +kernel)) ggX6_chokes_X6_dropsVoice
theorem dX6_chokes_0 : decode cX6_chokes 0 = .ok (.iconst 0, 1) := by decide +kernel
theorem dX6_chokes_1 : decode cX6_chokes 1 = .ok (.istore_n 2, 1) := by decide +kernel
theorem dX6_chokes_2 : decode cX6_chokes 2 = .ok (.iload_n 2, 1) := by decide +kernel
theorem dX6_chokes_3 : decode cX6_chokes 3 = .ok (.aload_n 0, 1) := by decide +kernel
theorem dX6_chokes_4 : decode cX6_chokes 4 = .ok (.getfield 7, 3) := by decide +kernel
theorem dX6_chokes_7 : decode cX6_chokes 7 = .ok (.iconst 1, 1) := by decide +kernel
theorem dX6_chokes_8 : decode cX6_chokes 8 = .ok (.iaload, 1) := by decide +kernel
theorem dX6_chokes_9 : decode cX6_chokes 9 = .ok (.if_icmp .ge 67, 3) := by decide +kernel
theorem dX6_chokes_12 : decode cX6_chokes 12 = .ok (.iload_n 1, 1) := by decide +kernel
theorem dX6_chokes_13 : decode cX6_chokes 13 = .ok (.ifCond .le 32, 3) := by decide +kernel
theorem dX6_chokes_16 : decode cX6_chokes 16 = .ok (.aload_n 0, 1) := by decide +kernel
theorem dX6_chokes_17 : decode cX6_chokes 17 = .ok (.aload_n 0, 1) := by decide +kernel
theorem dX6_chokes_18 : decode cX6_chokes 18 = .ok (.iload_n 2, 1) := by decide +kernel
theorem dX6_chokes_19 : decode cX6_chokes 19 = .ok (.iconst 0, 1) := by decide +kernel
theorem dX6_chokes_20 : decode cX6_chokes 20 = .ok (.invokevirtual 55, 3) := by decide +kernel
theorem dX6_chokes_23 : decode cX6_chokes 23 = .ok (.iconst 4, 1) := by decide +kernel
theorem dX6_chokes_24 : decode cX6_chokes 24 = .ok (.invokevirtual 44, 3) := by decide +kernel
theorem dX6_chokes_27 : decode cX6_chokes 27 = .ok (.iload_n 1, 1) := by decide +kernel
theorem dX6_chokes_28 : decode cX6_chokes 28 = .ok (.if_icmp .ne 17, 3) := by decide +kernel
theorem dX6_chokes_31 : decode cX6_chokes 31 = .ok (.aload_n 0, 1) := by decide +kernel
theorem dX6_chokes_32 : decode cX6_chokes 32 = .ok (.iload_n 2, 1) := by decide +kernel
theorem dX6_chokes_33 : decode cX6_chokes 33 = .ok (.bipush 6, 2) := by decide +kernel
theorem dX6_chokes_35 : decode cX6_chokes 35 = .ok (.invokevirtual 55, 3) := by decide +kernel
theorem dX6_chokes_38 : decode cX6_chokes 38 = .ok (.ifCond .ne 7, 3) := by decide +kernel
theorem dX6_chokes_41 : decode cX6_chokes 41 = .ok (.iconst 1, 1) := by decide +kernel
theorem dX6_chokes_42 : decode cX6_chokes 42 = .ok (.goto 4, 3) := by decide +kernel
theorem dX6_chokes_45 : decode cX6_chokes 45 = .ok (.iconst 0, 1) := by decide +kernel
theorem dX6_chokes_46 : decode cX6_chokes 46 = .ok (.istore_n 3, 1) := by decide +kernel
theorem dX6_chokes_47 : decode cX6_chokes 47 = .ok (.iload_n 3, 1) := by decide +kernel
theorem dX6_chokes_48 : decode cX6_chokes 48 = .ok (.ifCond .eq 22, 3) := by decide +kernel
theorem dX6_chokes_51 : decode cX6_chokes 51 = .ok (.aload_n 0, 1) := by decide +kernel
theorem dX6_chokes_52 : decode cX6_chokes 52 = .ok (.iload_n 2, 1) := by decide +kernel
theorem dX6_chokes_53 : decode cX6_chokes 53 = .ok (.invokevirtual 62, 3) := by decide +kernel
theorem dX6_chokes_56 : decode cX6_chokes 56 = .ok (.aload_n 0, 1) := by decide +kernel
theorem dX6_chokes_57 : decode cX6_chokes 57 = .ok (.getfield 7, 3) := by decide +kernel
theorem dX6_chokes_60 : decode cX6_chokes 60 = .ok (.bipush 6, 2) := by decide +kernel
theorem dX6_chokes_62 : decode cX6_chokes 62 = .ok (.dup2, 1) := by decide +kernel
theorem dX6_chokes_63 : decode cX6_chokes 63 = .ok (.iaload, 1) := by decide +kernel
theorem dX6_chokes_64 : decode cX6_chokes 64 = .ok (.iconst 1, 1) := by decide +kernel
theorem dX6_chokes_65 : decode cX6_chokes 65 = .ok (.iadd, 1) := by decide +kernel
theorem dX6_chokes_66 : decode cX6_chokes 66 = .ok (.iastore, 1) := by decide +kernel
theorem dX6_chokes_67 : decode cX6_chokes 67 = .ok (.goto 6, 3) := by decide +kernel
theorem dX6_chokes_70 : decode cX6_chokes 70 = .ok (.iinc 2 1, 3) := by decide +kernel
theorem dX6_chokes_73 : decode cX6_chokes 73 = .ok (.goto (-71), 3) := by decide +kernel
theorem dX6_chokes_76 : decode cX6_chokes 76 = .ok (.return_, 1) := by decide +kernel
set_option maxRecDepth 20000 in
theorem ggX6_begins_X6_ofZone : GoodIn wsX6_begins wsX6_ofZone := goodIn_r _ [6, 1, 31, 32, 33, 34, 35, 36, 37, 38, 39, 40, 41, 42, 43, 44, 45, 46, 47] (by decide +kernel) (by decide +kernel)
set_option maxRecDepth 20000 in
theorem gX6_begins_X6_ofZone : GoodIn wsX6_begins (wsV RX6 44 RX6 yX6_ofZone wsX6_ofZone) := goodIn_app (goodIn_of _ (by decide +kernel)) ggX6_begins_X6_ofZone
set_option maxRecDepth 20000 in
theorem ggX6_begins_X6_chokes : GoodIn wsX6_begins wsX6_chokes := goodIn_r _ [10, 1, 11, 12, 13, 5, 14, 2, 3, 4, 6, 15, 16, 17, 18, 31, 32, 33, 34, 35, 36, 37, 38, 39, 40, 41, 42, 43, 44, 45, 46, 47] (by decide +kernel) (by decide +kernel)
set_option maxRecDepth 20000 in
theorem gX6_begins_X6_chokes : GoodIn wsX6_begins (wsV RX6 66 RX6 yX6_chokes wsX6_chokes) := goodIn_app (goodIn_of _ (by decide +kernel)) ggX6_begins_X6_chokes
set_option maxRecDepth 20000 in
theorem ggX6_begins_X6_steals : GoodIn wsX6_begins wsX6_steals := goodIn_r _ [22, 1, 23, 24, 25, 5, 26, 11, 12, 13, 14, 15, 16, 17, 18, 31, 32, 33, 34, 35, 36, 37, 38, 39, 40, 41, 42, 43, 44, 45, 46, 47] (by decide +kernel) (by decide +kernel)
set_option maxRecDepth 20000 in
theorem gX6_begins_X6_steals : GoodIn wsX6_begins (wsV RX6 69 RX6 yX6_steals wsX6_steals) := goodIn_app (goodIn_of _ (by decide +kernel)) ggX6_begins_X6_steals
set_option maxRecDepth 20000 in
theorem ggX6_begins_X6_lays : GoodIn wsX6_begins wsX6_lays := goodIn_r _ [30, 1, 31, 32, 33, 34, 35, 36, 37, 38, 39, 40, 41, 42, 43, 44, 45, 46, 47] (by decide +kernel) (by decide +kernel)
set_option maxRecDepth 20000 in
theorem gX6_begins_X6_lays : GoodIn wsX6_begins (wsV RX6 72 RX6 yX6_lays wsX6_lays) := goodIn_app (goodIn_of _ (by decide +kernel)) ggX6_begins_X6_lays
