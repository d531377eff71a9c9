set_option maxRecDepth 20000 in
theorem ggX6_init_X4_init : GoodIn wsX6_init wsX4_init := goodIn_r _ [25, 26, 2, 3, 27, 21, 22, 28, 29, 30, 31, 32, 33, 34, 35, 36, 37, 38, 39, 40, 41, 42, 43, 44, 45, 46, 47, 48, 49, 50, 51, 52, 53, 54, 55, 117, 118, 119, 120, 121, 122, 123, 88, 89, 90, 91, 92, 93, 94, 95, 96, 97, 98, 99, 100, 101, 102, 103, 104] (by decide +kernel) (by decide +kernel)
set_option maxRecDepth 20000 in
theorem gX6_init_X4_init_n9 : GoodIn wsX6_init (wsX4_init) := ggX6_init_X4_init
set_option maxRecDepth 20000 in
theorem ggX6_init_X1_init : GoodIn wsX6_init wsX1_init := goodIn_r _ [58, 59, 2, 3, 60, 61, 62, 5, 6, 24, 25, 26, 27, 21, 22, 28, 29, 30, 31, 32, 33, 34, 35, 36, 37, 38, 39, 40, 41, 42, 43, 44, 45, 46, 47, 48, 49, 50, 51, 52, 53, 54, 55, 110, 111, 88, 89, 90, 91, 92, 93, 94, 95, 96, 97, 98, 99, 100, 101, 102, 103, 104, 117, 118, 119, 120, 121, 122, 123] (by decide +kernel) (by decide +kernel)
set_option maxRecDepth 20000 in
theorem gX6_init_X1_init : GoodIn wsX6_init (wsX1_init) := ggX6_init_X1_init
set_option maxRecDepth 20000 in
theorem ggX6_init_X5_init : GoodIn wsX6_init wsX5_init := goodIn_r _ [64, 65, 2, 3, 29, 66, 67, 112, 113] (by decide +kernel) (by decide +kernel)
set_option maxRecDepth 20000 in
theorem gX6_init_X5_init_n25 : GoodIn wsX6_init (wsX5_init) := ggX6_init_X5_init
set_option maxRecDepth 20000 in
theorem ggX6_init_X3_init : GoodIn wsX6_init wsX3_init := goodIn_r _ [69, 70, 2, 3, 71, 5, 6, 72, 73, 74, 75, 76, 77, 24, 25, 26, 27, 21, 22, 28, 29, 30, 31, 32, 33, 34, 35, 36, 37, 38, 39, 40, 41, 42, 43, 44, 45, 46, 47, 48, 49, 50, 51, 52, 53, 54, 55, 78, 79, 80, 81, 82, 83, 84, 85, 86, 87, 88, 89, 90, 91, 92, 93, 94, 95, 96, 97, 98, 99, 100, 101, 102, 103, 104, 114, 115, 116, 124, 125, 126, 127, 128, 129, 130, 117, 118, 119, 120, 121, 122, 123] (by decide +kernel) (by decide +kernel)
set_option maxRecDepth 20000 in
theorem gX6_init_X3_init_n32 : GoodIn wsX6_init (wsX3_init) := ggX6_init_X3_init
set_option maxRecDepth 20000 in
theorem ggX6_init_X0_init : GoodIn wsX6_init wsX0_init := goodIn_r _ [47, 48, 2, 3, 49, 50, 51, 52, 53, 54, 55, 117, 118, 119, 120, 121, 122, 123] (by decide +kernel) (by decide +kernel)
set_option maxRecDepth 20000 in
theorem gX6_init_X0_init_n39 : GoodIn wsX6_init (wsX0_init) := ggX6_init_X0_init
theorem dX6_init_0 : decode cX6_init 0 = .ok (.aload_n 0, 1) := by decide +kernel
theorem dX6_init_1 : decode cX6_init 1 = .ok (.invokespecial 1, 3) := by decide +kernel
theorem dX6_init_4 : decode cX6_init 4 = .ok (.aload_n 0, 1) := by decide +kernel
theorem dX6_init_5 : decode cX6_init 5 = .ok (.new 7, 3) := by decide +kernel
theorem dX6_init_8 : decode cX6_init 8 = .ok (.dup, 1) := by decide +kernel
theorem dX6_init_9 : decode cX6_init 9 = .ok (.invokespecial 9, 3) := by decide +kernel
theorem dX6_init_12 : decode cX6_init 12 = .ok (.putfield 10, 3) := by decide +kernel
theorem dX6_init_15 : decode cX6_init 15 = .ok (.aload_n 0, 1) := by decide +kernel
theorem dX6_init_16 : decode cX6_init 16 = .ok (.new 16, 3) := by decide +kernel
theorem dX6_init_19 : decode cX6_init 19 = .ok (.dup, 1) := by decide +kernel
theorem dX6_init_20 : decode cX6_init 20 = .ok (.invokespecial 18, 3) := by decide +kernel
theorem dX6_init_23 : decode cX6_init 23 = .ok (.putfield 19, 3) := by decide +kernel
theorem dX6_init_26 : decode cX6_init 26 = .ok (.aload_n 0, 1) := by decide +kernel
theorem dX6_init_27 : decode cX6_init 27 = .ok (.new 23, 3) := by decide +kernel
theorem dX6_init_30 : decode cX6_init 30 = .ok (.dup, 1) := by decide +kernel
theorem dX6_init_31 : decode cX6_init 31 = .ok (.invokespecial 25, 3) := by decide +kernel
theorem dX6_init_34 : decode cX6_init 34 = .ok (.putfield 26, 3) := by decide +kernel
theorem dX6_init_37 : decode cX6_init 37 = .ok (.aload_n 0, 1) := by decide +kernel
theorem dX6_init_38 : decode cX6_init 38 = .ok (.new 30, 3) := by decide +kernel
theorem dX6_init_41 : decode cX6_init 41 = .ok (.dup, 1) := by decide +kernel
theorem dX6_init_42 : decode cX6_init 42 = .ok (.invokespecial 32, 3) := by decide +kernel
theorem dX6_init_45 : decode cX6_init 45 = .ok (.putfield 33, 3) := by decide +kernel
theorem dX6_init_48 : decode cX6_init 48 = .ok (.aload_n 0, 1) := by decide +kernel
theorem dX6_init_49 : decode cX6_init 49 = .ok (.new 37, 3) := by decide +kernel
theorem dX6_init_52 : decode cX6_init 52 = .ok (.dup, 1) := by decide +kernel
theorem dX6_init_53 : decode cX6_init 53 = .ok (.invokespecial 39, 3) := by decide +kernel
theorem dX6_init_56 : decode cX6_init 56 = .ok (.putfield 40, 3) := by decide +kernel
theorem dX6_init_59 : decode cX6_init 59 = .ok (.return_, 1) := by decide +kernel
set_option maxRecDepth 20000 in
theorem ggX6_read_X6_isPlace : GoodIn wsX6_read wsX6_isPlace := goodIn_r _ [7] (by decide +kernel) (by decide +kernel)
set_option maxRecDepth 20000 in
theorem gX6_read_X6_isPlace : GoodIn wsX6_read (va_wsS RX6 44 yX6_isPlace wsX6_isPlace) := goodIn_app (goodIn_of _ (by decide +kernel)) ggX6_read_X6_isPlace
set_option maxRecDepth 20000 in
theorem ggX6_read_X1_keep : GoodIn wsX6_read wsX1_keep := goodIn_r _ [12, 13, 14, 15, 16, 17, 11, 18, 19, 6, 20, 21, 22, 23, 24, 25, 26, 27, 28, 29, 30, 31, 32, 33, 34, 35, 36, 37, 38, 39, 40, 41, 42, 43, 44, 45, 46, 47, 48, 49, 50, 51, 52, 53, 54, 55, 56, 57, 58, 59, 60, 61, 62, 63, 107, 108, 109, 110, 111, 112, 113, 114, 115, 116, 117, 118, 119, 120, 121, 122, 123, 124, 125, 126, 127, 128, 129, 130, 131, 132] (by decide +kernel) (by decide +kernel)
set_option maxRecDepth 20000 in
theorem gX6_read_X1_keep : GoodIn wsX6_read (wsV RX6 49 RX1 yX1_keep wsX1_keep) := goodIn_app (goodIn_of _ (by decide +kernel)) ggX6_read_X1_keep
set_option maxRecDepth 20000 in
theorem ggX6_read_X4_readPlace : GoodIn wsX6_read wsX4_readPlace := goodIn_r _ [67, 30, 68, 69, 70, 23, 71, 34, 35, 32, 31, 72, 73, 74, 75, 28, 29, 76, 6, 77, 78, 79, 80, 81, 82, 83, 84, 85, 86, 87, 88, 89, 90, 91, 92, 93, 36, 94, 95, 96, 97, 26, 27, 41, 5, 7, 98, 99, 100, 101, 109, 110, 111, 112, 113, 114, 115, 116, 117, 118, 119, 120, 121, 122, 123, 124, 125] (by decide +kernel) (by decide +kernel)
set_option maxRecDepth 20000 in
theorem gX6_read_X4_readPlace : GoodIn wsX6_read (wsV RX6 53 RX4 yX4_readPlace wsX4_readPlace) := goodIn_app (goodIn_of _ (by decide +kernel)) ggX6_read_X4_readPlace
theorem dX6_read_0 : decode cX6_read 0 = .ok (.iload_n 1, 1) := by decide +kernel
theorem dX6_read_1 : decode cX6_read 1 = .ok (.invokestatic 44, 3) := by decide +kernel
theorem dX6_read_4 : decode cX6_read 4 = .ok (.ifCond .ne 6, 3) := by decide +kernel
theorem dX6_read_7 : decode cX6_read 7 = .ok (.ldc 48, 2) := by decide +kernel
theorem dX6_read_9 : decode cX6_read 9 = .ok (.ireturn, 1) := by decide +kernel
theorem dX6_read_10 : decode cX6_read 10 = .ok (.aload_n 0, 1) := by decide +kernel
theorem dX6_read_11 : decode cX6_read 11 = .ok (.getfield 19, 3) := by decide +kernel
theorem dX6_read_14 : decode cX6_read 14 = .ok (.aload_n 0, 1) := by decide +kernel
theorem dX6_read_15 : decode cX6_read 15 = .ok (.getfield 10, 3) := by decide +kernel
theorem dX6_read_18 : decode cX6_read 18 = .ok (.invokevirtual 49, 3) := by decide +kernel
theorem dX6_read_21 : decode cX6_read 21 = .ok (.aload_n 0, 1) := by decide +kernel
theorem dX6_read_22 : decode cX6_read 22 = .ok (.getfield 10, 3) := by decide +kernel
theorem dX6_read_25 : decode cX6_read 25 = .ok (.iload_n 1, 1) := by decide +kernel
theorem dX6_read_26 : decode cX6_read 26 = .ok (.invokevirtual 53, 3) := by decide +kernel
theorem dX6_read_29 : decode cX6_read 29 = .ok (.ireturn, 1) := by decide +kernel
set_option maxRecDepth 20000 in
theorem ggX6_write_X6_isPlace : GoodIn wsX6_write wsX6_isPlace := goodIn_r _ [7] (by decide +kernel) (by decide +kernel)
set_option maxRecDepth 20000 in
theorem gX6_write_X6_isPlace : GoodIn wsX6_write (va_wsS RX6 44 yX6_isPlace wsX6_isPlace) := goodIn_app (goodIn_of _ (by decide +kernel)) ggX6_write_X6_isPlace
set_option maxRecDepth 20000 in
theorem ggX6_write_X6_isWithin : GoodIn wsX6_write wsX6_isWithin := goodIn_r _ [10] (by decide +kernel) (by decide +kernel)
set_option maxRecDepth 20000 in
theorem gX6_write_X6_isWithin : GoodIn wsX6_write (va_wsS RX6 57 yX6_isWithin wsX6_isWithin) := goodIn_app (goodIn_of _ (by decide +kernel)) ggX6_write_X6_isWithin
set_option maxRecDepth 20000 in
theorem ggX6_write_X1_keep : GoodIn wsX6_write wsX1_keep := goodIn_r _ [15, 16, 17, 18, 19, 20, 14, 21, 9, 6, 10, 22, 23, 24, 25, 26, 27, 28, 29, 30, 31, 32, 33, 34, 35, 36, 37, 38, 39, 40, 41, 42, 43, 44, 45, 46, 47, 48, 49, 50, 51, 52, 53, 54, 55, 56, 57, 58, 59, 60, 61, 62, 63, 64, 132, 133, 134, 135, 136, 137, 138, 139, 140, 141, 142, 143, 144, 145, 146, 147, 148, 149, 150, 151, 152, 153, 154, 155, 156, 157] (by decide +kernel) (by decide +kernel)
set_option maxRecDepth 20000 in
theorem gX6_write_X1_keep : GoodIn wsX6_write (wsV RX6 49 RX1 yX1_keep wsX1_keep) := goodIn_app (goodIn_of _ (by decide +kernel)) ggX6_write_X1_keep
set_option maxRecDepth 20000 in
theorem ggX6_write_X4_writePlace : GoodIn wsX6_write wsX4_writePlace := goodIn_r _ [68, 31, 29, 26, 38, 69, 70, 71, 24, 72, 35, 36, 33, 32, 73, 74, 75, 76, 30, 77, 6, 78, 79, 80, 81, 82, 83, 84, 85, 86, 87, 88, 89, 90, 91, 92, 93, 94, 37, 95, 96, 97, 98, 27, 28, 42, 5, 7, 99, 100, 101, 102, 103, 104, 105, 106, 107, 108, 109, 110, 111, 112, 113, 114, 115, 116, 117, 118, 119, 120, 46, 121, 50, 122, 123, 124, 125, 48, 52, 51, 126, 58, 59, 60, 134, 135, 136, 137, 138, 139, 140, 141, 142, 143, 144, 145, 146, 147, 148, 149, 150, 151, 152, 153, 154, 155, 156, 157] (by decide +kernel) (by decide +kernel)
set_option maxRecDepth 20000 in
theorem gX6_write_X4_writePlace : GoodIn wsX6_write (wsV RX6 61 RX4 yX4_writePlace wsX4_writePlace) := goodIn_app (goodIn_of _ (by decide +kernel)) ggX6_write_X4_writePlace
theorem dX6_write_0 : decode cX6_write 0 = .ok (.iload_n 1, 1) := by decide +kernel
theorem dX6_write_1 : decode cX6_write 1 = .ok (.invokestatic 44, 3) := by decide +kernel
theorem dX6_write_4 : decode cX6_write 4 = .ok (.ifCond .eq 14, 3) := by decide +kernel
theorem dX6_write_7 : decode cX6_write 7 = .ok (.iload_n 2, 1) := by decide +kernel
theorem dX6_write_8 : decode cX6_write 8 = .ok (.iconst 0, 1) := by decide +kernel
theorem dX6_write_9 : decode cX6_write 9 = .ok (.sipush 999, 3) := by decide +kernel
theorem dX6_write_12 : decode cX6_write 12 = .ok (.invokestatic 57, 3) := by decide +kernel
theorem dX6_write_15 : decode cX6_write 15 = .ok (.ifCond .ne 6, 3) := by decide +kernel
theorem dX6_write_18 : decode cX6_write 18 = .ok (.ldc 48, 2) := by decide +kernel
theorem dX6_write_20 : decode cX6_write 20 = .ok (.ireturn, 1) := by decide +kernel
theorem dX6_write_21 : decode cX6_write 21 = .ok (.aload_n 0, 1) := by decide +kernel
theorem dX6_write_22 : decode cX6_write 22 = .ok (.getfield 19, 3) := by decide +kernel
theorem dX6_write_25 : decode cX6_write 25 = .ok (.aload_n 0, 1) := by decide +kernel
theorem dX6_write_26 : decode cX6_write 26 = .ok (.getfield 10, 3) := by decide +kernel
theorem dX6_write_29 : decode cX6_write 29 = .ok (.invokevirtual 49, 3) := by decide +kernel
theorem dX6_write_32 : decode cX6_write 32 = .ok (.aload_n 0, 1) := by decide +kernel
theorem dX6_write_33 : decode cX6_write 33 = .ok (.getfield 10, 3) := by decide +kernel
theorem dX6_write_36 : decode cX6_write 36 = .ok (.iload_n 1, 1) := by decide +kernel
theorem dX6_write_37 : decode cX6_write 37 = .ok (.iload_n 2, 1) := by decide +kernel
theorem dX6_write_38 : decode cX6_write 38 = .ok (.invokevirtual 61, 3) := by decide +kernel
theorem dX6_write_41 : decode cX6_write 41 = .ok (.ireturn, 1) := by decide +kernel
set_option maxRecDepth 20000 in
theorem ggX6_flush_X6_isLine : GoodIn wsX6_flush wsX6_isLine := goodIn_r _ [9] (by decide +kernel) (by decide +kernel)
set_option maxRecDepth 20000 in
theorem gX6_flush_X6_isLine : GoodIn wsX6_flush (va_wsS RX6 65 yX6_isLine wsX6_isLine) := goodIn_app (goodIn_of _ (by decide +kernel)) ggX6_flush_X6_isLine
set_option maxRecDepth 20000 in
theorem ggX6_flush_X1_keep : GoodIn wsX6_flush wsX1_keep := goodIn_r _ [14, 15, 16, 17, 18, 19, 13, 20, 21, 8, 22, 23, 24, 25, 26, 27, 28, 29, 30, 31, 32, 33, 34, 35, 36, 37, 38, 39, 40, 41, 42, 43, 44, 45, 46, 47, 48, 49, 50, 51, 52, 53, 54, 55, 56, 57, 58, 59, 60, 61, 62, 63, 64, 65, 113, 114, 96, 97, 98, 99, 100, 101, 102, 103, 104, 105, 106, 107, 108, 109, 110, 111, 112, 115, 116, 117, 118, 119, 120, 121] (by decide +kernel) (by decide +kernel)
set_option maxRecDepth 20000 in
theorem gX6_flush_X1_keep : GoodIn wsX6_flush (wsV RX6 49 RX1 yX1_keep wsX1_keep) := goodIn_app (goodIn_of _ (by decide +kernel)) ggX6_flush_X1_keep
set_option maxRecDepth 20000 in
theorem ggX6_flush_X4_flushLine : GoodIn wsX6_flush wsX4_flushLine := goodIn_r _ [69, 30, 31, 32, 38, 7, 8, 9, 70, 71, 72, 25, 73, 28, 29, 43, 74, 75, 96, 97, 98, 99, 100, 101, 102, 103, 104, 105, 106, 107, 108, 109, 110, 111, 112] (by decide +kernel) (by decide +kernel)
set_option maxRecDepth 20000 in
theorem gX6_flush_X4_flushLine : GoodIn wsX6_flush (wsV RX6 73 RX4 yX4_flushLine wsX4_flushLine) := goodIn_app (goodIn_of _ (by decide +kernel)) ggX6_flush_X4_flushLine
set_option maxRecDepth 20000 in
theorem ggX6_flush_X4_numberOf : GoodIn wsX6_flush wsX4_numberOf := goodIn_r _ [79, 80, 81, 82, 25, 83, 30, 84, 85, 86, 87, 88, 89, 90, 96, 97, 98, 99, 100, 101, 102, 103, 104, 105, 106, 107, 108, 109, 110, 111, 112] (by decide +kernel) (by decide +kernel)
set_option maxRecDepth 20000 in
theorem gX6_flush_X4_numberOf : GoodIn wsX6_flush (wsV RX6 77 RX4 yX4_numberOf wsX4_numberOf) := goodIn_app (goodIn_of _ (by decide +kernel)) ggX6_flush_X4_numberOf
theorem dX6_flush_0 : decode cX6_flush 0 = .ok (.iload_n 1, 1) := by decide +kernel
theorem dX6_flush_1 : decode cX6_flush 1 = .ok (.invokestatic 65, 3) := by decide +kernel
theorem dX6_flush_4 : decode cX6_flush 4 = .ok (.ifCond .ne 6, 3) := by decide +kernel
theorem dX6_flush_7 : decode cX6_flush 7 = .ok (.ldc 48, 2) := by decide +kernel
theorem dX6_flush_9 : decode cX6_flush 9 = .ok (.ireturn, 1) := by decide +kernel
theorem dX6_flush_10 : decode cX6_flush 10 = .ok (.aload_n 0, 1) := by decide +kernel
theorem dX6_flush_11 : decode cX6_flush 11 = .ok (.getfield 10, 3) := by decide +kernel
theorem dX6_flush_14 : decode cX6_flush 14 = .ok (.getfield 68, 3) := by decide +kernel
theorem dX6_flush_17 : decode cX6_flush 17 = .ok (.iload_n 1, 1) := by decide +kernel
theorem dX6_flush_18 : decode cX6_flush 18 = .ok (.iaload, 1) := by decide +kernel
theorem dX6_flush_19 : decode cX6_flush 19 = .ok (.iconst 2, 1) := by decide +kernel
theorem dX6_flush_20 : decode cX6_flush 20 = .ok (.if_icmp .eq 6, 3) := by decide +kernel
theorem dX6_flush_23 : decode cX6_flush 23 = .ok (.ldc 72, 2) := by decide +kernel
theorem dX6_flush_25 : decode cX6_flush 25 = .ok (.ireturn, 1) := by decide +kernel
theorem dX6_flush_26 : decode cX6_flush 26 = .ok (.aload_n 0, 1) := by decide +kernel
theorem dX6_flush_27 : decode cX6_flush 27 = .ok (.getfield 19, 3) := by decide +kernel
theorem dX6_flush_30 : decode cX6_flush 30 = .ok (.aload_n 0, 1) := by decide +kernel
theorem dX6_flush_31 : decode cX6_flush 31 = .ok (.getfield 10, 3) := by decide +kernel
theorem dX6_flush_34 : decode cX6_flush 34 = .ok (.invokevirtual 49, 3) := by decide +kernel
theorem dX6_flush_37 : decode cX6_flush 37 = .ok (.aload_n 0, 1) := by decide +kernel
theorem dX6_flush_38 : decode cX6_flush 38 = .ok (.getfield 10, 3) := by decide +kernel
theorem dX6_flush_41 : decode cX6_flush 41 = .ok (.iload_n 1, 1) := by decide +kernel
theorem dX6_flush_42 : decode cX6_flush 42 = .ok (.invokevirtual 73, 3) := by decide +kernel
theorem dX6_flush_45 : decode cX6_flush 45 = .ok (.aload_n 0, 1) := by decide +kernel
theorem dX6_flush_46 : decode cX6_flush 46 = .ok (.getfield 10, 3) := by decide +kernel
theorem dX6_flush_49 : decode cX6_flush 49 = .ok (.iconst 2, 1) := by decide +kernel
theorem dX6_flush_50 : decode cX6_flush 50 = .ok (.invokevirtual 77, 3) := by decide +kernel
theorem dX6_flush_53 : decode cX6_flush 53 = .ok (.ireturn, 1) := by decide +kernel
set_option maxRecDepth 20000 in
theorem ggX6_tick_X6_isWithin : GoodIn wsX6_tick wsX6_isWithin := goodIn_r _ [7] (by decide +kernel) (by decide +kernel)
set_option maxRecDepth 20000 in
theorem gX6_tick_X6_isWithin : GoodIn wsX6_tick (va_wsS RX6 57 yX6_isWithin wsX6_isWithin) := goodIn_app (goodIn_of _ (by decide +kernel)) ggX6_tick_X6_isWithin
set_option maxRecDepth 20000 in
theorem ggX6_tick_X1_keep : GoodIn wsX6_tick wsX1_keep := goodIn_r _ [12, 13, 14, 15, 16, 17, 11, 18, 5, 6, 7, 19, 20, 21, 22, 23, 24, 25, 26, 27, 28, 29, 30, 31, 32, 33, 34, 35, 36, 37, 38, 39, 40, 41, 42, 43, 44, 45, 46, 47, 48, 49, 50, 51, 52, 53, 54, 55, 56, 57, 58, 59, 60, 61, 139, 140, 141, 142, 143, 144, 145, 146, 147, 148, 149, 150, 151, 152, 153, 154, 155, 156, 157, 158, 159, 160, 161, 162, 163, 164] (by decide +kernel) (by decide +kernel)
set_option maxRecDepth 20000 in
theorem gX6_tick_X1_keep : GoodIn wsX6_tick (wsV RX6 49 RX1 yX1_keep wsX1_keep) := goodIn_app (goodIn_of _ (by decide +kernel)) ggX6_tick_X1_keep
set_option maxRecDepth 20000 in
theorem ggX6_tick_X4_passTicks : GoodIn wsX6_tick wsX4_passTicks := goodIn_r _ [65, 34, 31, 23, 38, 66, 67, 68, 43, 69, 47, 45, 50, 70, 55, 56, 57, 71, 72, 73, 74, 51, 46, 75, 76, 77, 78, 79, 80, 81, 82, 83, 84, 85, 86, 87, 88, 21, 89, 90, 91, 92, 93, 94, 95, 96, 97, 98, 26, 99, 100, 101, 102, 103, 104, 105, 106, 107, 108, 109, 110, 111, 112, 113, 49, 48, 114, 115, 116, 117, 118, 119, 120, 121, 29, 122, 123, 124, 125, 27, 28, 126, 6, 127, 128, 129, 130, 131, 24, 25, 39, 132, 133, 141, 142, 143, 144, 145, 146, 147, 148, 149, 150, 151, 152, 153, 154, 155, 156, 157, 158, 159, 160, 161, 162, 163, 164] (by decide +kernel) (by decide +kernel)
set_option maxRecDepth 20000 in
theorem gX6_tick_X4_passTicks : GoodIn wsX6_tick (wsV RX6 80 RX4 yX4_passTicks wsX4_passTicks) := goodIn_app (goodIn_of _ (by decide +kernel)) ggX6_tick_X4_passTicks
theorem dX6_tick_0 : decode cX6_tick 0 = .ok (.iload_n 1, 1) := by decide +kernel
theorem dX6_tick_1 : decode cX6_tick 1 = .ok (.iconst 1, 1) := by decide +kernel
theorem dX6_tick_2 : decode cX6_tick 2 = .ok (.bipush 99, 2) := by decide +kernel
theorem dX6_tick_4 : decode cX6_tick 4 = .ok (.invokestatic 57, 3) := by decide +kernel
theorem dX6_tick_7 : decode cX6_tick 7 = .ok (.ifCond .ne 6, 3) := by decide +kernel
theorem dX6_tick_10 : decode cX6_tick 10 = .ok (.ldc 48, 2) := by decide +kernel
theorem dX6_tick_12 : decode cX6_tick 12 = .ok (.ireturn, 1) := by decide +kernel
theorem dX6_tick_13 : decode cX6_tick 13 = .ok (.aload_n 0, 1) := by decide +kernel
theorem dX6_tick_14 : decode cX6_tick 14 = .ok (.getfield 19, 3) := by decide +kernel
theorem dX6_tick_17 : decode cX6_tick 17 = .ok (.aload_n 0, 1) := by decide +kernel
theorem dX6_tick_18 : decode cX6_tick 18 = .ok (.getfield 10, 3) := by decide +kernel
theorem dX6_tick_21 : decode cX6_tick 21 = .ok (.invokevirtual 49, 3) := by decide +kernel
theorem dX6_tick_24 : decode cX6_tick 24 = .ok (.aload_n 0, 1) := by decide +kernel
theorem dX6_tick_25 : decode cX6_tick 25 = .ok (.getfield 10, 3) := by decide +kernel
theorem dX6_tick_28 : decode cX6_tick 28 = .ok (.iload_n 1, 1) := by decide +kernel
theorem dX6_tick_29 : decode cX6_tick 29 = .ok (.invokevirtual 80, 3) := by decide +kernel
theorem dX6_tick_32 : decode cX6_tick 32 = .ok (.ireturn, 1) := by decide +kernel
set_option maxRecDepth 20000 in
theorem ggX6_load_X6_isWithin : GoodIn wsX6_load wsX6_isWithin := goodIn_r _ [7] (by decide +kernel) (by decide +kernel)
set_option maxRecDepth 20000 in
theorem gX6_load_X6_isWithin : GoodIn wsX6_load (va_wsS RX6 57 yX6_isWithin wsX6_isWithin) := goodIn_app (goodIn_of _ (by decide +kernel)) ggX6_load_X6_isWithin
set_option maxRecDepth 20000 in
theorem ggX6_load_X1_keep : GoodIn wsX6_load wsX1_keep := goodIn_r _ [12, 13, 14, 15, 16, 17, 11, 18, 5, 6, 7, 19, 20, 21, 22, 23, 24, 25, 26, 27, 28, 29, 30, 31, 32, 33, 34, 35, 36, 37, 38, 39, 40, 41, 42, 43, 44, 45, 46, 47, 48, 49, 50, 51, 52, 53, 54, 55, 56, 57, 58, 59, 60, 61, 127, 128, 129, 130, 131, 132, 133, 134, 135, 136, 137, 138, 139, 140, 141, 142, 143, 144, 145, 146, 147, 148, 149, 150, 151, 152] (by decide +kernel) (by decide +kernel)
set_option maxRecDepth 20000 in
theorem gX6_load_X1_keep : GoodIn wsX6_load (wsV RX6 49 RX1 yX1_keep wsX1_keep) := goodIn_app (goodIn_of _ (by decide +kernel)) ggX6_load_X1_keep
set_option maxRecDepth 20000 in
theorem ggX6_load_X4_putLoad : GoodIn wsX6_load wsX4_putLoad := goodIn_r _ [65, 23, 66, 67, 68, 43, 69, 45, 70, 71, 56, 72, 73, 74, 75, 21, 76, 77, 78, 79, 80, 81, 82, 83, 84, 85, 26, 86, 87, 88, 89, 90, 91, 92, 93, 94, 95, 96, 47, 97, 98, 99, 100, 49, 48, 101, 55, 57, 102, 103, 104, 105, 106, 107, 108, 109, 29, 110, 111, 112, 113, 27, 28, 34, 114, 6, 115, 116, 117, 118, 119, 24, 25, 39, 120, 121, 129, 130, 131, 132, 133, 134, 135, 136, 137, 138, 139, 140, 141, 142, 143, 144, 145, 146, 147, 148, 149, 150, 151, 152] (by decide +kernel) (by decide +kernel)
set_option maxRecDepth 20000 in
theorem gX6_load_X4_putLoad : GoodIn wsX6_load (wsV RX6 83 RX4 yX4_putLoad wsX4_putLoad) := goodIn_app (goodIn_of _ (by decide +kernel)) ggX6_load_X4_putLoad
theorem dX6_load_0 : decode cX6_load 0 = .ok (.iload_n 1, 1) := by decide +kernel
theorem dX6_load_1 : decode cX6_load 1 = .ok (.iconst 1, 1) := by decide +kernel
theorem dX6_load_2 : decode cX6_load 2 = .ok (.sipush 999, 3) := by decide +kernel
theorem dX6_load_5 : decode cX6_load 5 = .ok (.invokestatic 57, 3) := by decide +kernel
theorem dX6_load_8 : decode cX6_load 8 = .ok (.ifCond .ne 6, 3) := by decide +kernel
theorem dX6_load_11 : decode cX6_load 11 = .ok (.ldc 48, 2) := by decide +kernel
theorem dX6_load_13 : decode cX6_load 13 = .ok (.ireturn, 1) := by decide +kernel
theorem dX6_load_14 : decode cX6_load 14 = .ok (.aload_n 0, 1) := by decide +kernel
theorem dX6_load_15 : decode cX6_load 15 = .ok (.getfield 19, 3) := by decide +kernel
theorem dX6_load_18 : decode cX6_load 18 = .ok (.aload_n 0, 1) := by decide +kernel
theorem dX6_load_19 : decode cX6_load 19 = .ok (.getfield 10, 3) := by decide +kernel
theorem dX6_load_22 : decode cX6_load 22 = .ok (.invokevirtual 49, 3) := by decide +kernel
theorem dX6_load_25 : decode cX6_load 25 = .ok (.aload_n 0, 1) := by decide +kernel
theorem dX6_load_26 : decode cX6_load 26 = .ok (.getfield 10, 3) := by decide +kernel
theorem dX6_load_29 : decode cX6_load 29 = .ok (.iload_n 1, 1) := by decide +kernel
theorem dX6_load_30 : decode cX6_load 30 = .ok (.invokevirtual 83, 3) := by decide +kernel
theorem dX6_load_33 : decode cX6_load 33 = .ok (.ireturn, 1) := by decide +kernel
set_option maxRecDepth 20000 in
theorem ggX6_learn_X1_keep : GoodIn wsX6_learn wsX1_keep := goodIn_r _ [10, 11, 12, 13, 14, 15, 9, 16, 17, 18, 19, 20, 21, 22, 23, 24, 25, 26, 27, 28, 29, 30, 31, 32, 33, 34, 35, 36, 37, 38, 39, 40, 41, 42, 43, 44, 45, 46, 47, 48, 49, 50, 51, 52, 53, 54, 55, 56, 57, 58, 59, 60, 61, 62, 148, 149, 124, 125, 126, 127, 128, 129, 130, 131, 132, 133, 134, 135, 136, 137, 138, 139, 140, 141, 142, 143, 144, 145, 146, 147] (by decide +kernel) (by decide +kernel)
set_option maxRecDepth 20000 in
theorem gX6_learn_X1_keep : GoodIn wsX6_learn (wsV RX6 49 RX1 yX1_keep wsX1_keep) := goodIn_app (goodIn_of _ (by decide +kernel)) ggX6_learn_X1_keep
set_option maxRecDepth 20000 in
theorem ggX6_learn_X4_beginCycle : GoodIn wsX6_learn wsX4_beginCycle := goodIn_r _ [66, 24, 67, 68, 69, 70, 22, 71, 72, 73, 57, 74, 75, 76, 77, 78, 79, 80, 81, 82, 27, 83, 84, 85, 86, 87, 88, 89, 90, 91, 92, 44, 93, 48, 94, 95, 96, 97, 46, 50, 49, 98, 56, 58, 99, 100, 101, 102, 103, 104, 105, 106, 30, 107, 108, 109, 110, 28, 29, 35, 111, 18, 112, 113, 114, 115, 116, 25, 26, 40, 117, 118, 124, 125, 126, 127, 128, 129, 130, 131, 132, 133, 134, 135, 136, 137, 138, 139, 140, 141, 142, 143, 144, 145, 146, 147] (by decide +kernel) (by decide +kernel)
set_option maxRecDepth 20000 in
theorem gX6_learn_X4_beginCycle : GoodIn wsX6_learn (wsV RX6 93 RX4 yX4_beginCycle wsX4_beginCycle) := goodIn_app (goodIn_of _ (by decide +kernel)) ggX6_learn_X4_beginCycle
theorem dX6_learn_0 : decode cX6_learn 0 = .ok (.aload_n 0, 1) := by decide +kernel
theorem dX6_learn_1 : decode cX6_learn 1 = .ok (.getfield 10, 3) := by decide +kernel
theorem dX6_learn_4 : decode cX6_learn 4 = .ok (.getfield 86, 3) := by decide +kernel
theorem dX6_learn_7 : decode cX6_learn 7 = .ok (.getfield 89, 3) := by decide +kernel
theorem dX6_learn_10 : decode cX6_learn 10 = .ok (.ifCond .eq 6, 3) := by decide +kernel
theorem dX6_learn_13 : decode cX6_learn 13 = .ok (.ldc 72, 2) := by decide +kernel
theorem dX6_learn_15 : decode cX6_learn 15 = .ok (.ireturn, 1) := by decide +kernel
theorem dX6_learn_16 : decode cX6_learn 16 = .ok (.aload_n 0, 1) := by decide +kernel
theorem dX6_learn_17 : decode cX6_learn 17 = .ok (.getfield 19, 3) := by decide +kernel
theorem dX6_learn_20 : decode cX6_learn 20 = .ok (.aload_n 0, 1) := by decide +kernel
theorem dX6_learn_21 : decode cX6_learn 21 = .ok (.getfield 10, 3) := by decide +kernel
theorem dX6_learn_24 : decode cX6_learn 24 = .ok (.invokevirtual 49, 3) := by decide +kernel
theorem dX6_learn_27 : decode cX6_learn 27 = .ok (.aload_n 0, 1) := by decide +kernel
theorem dX6_learn_28 : decode cX6_learn 28 = .ok (.getfield 10, 3) := by decide +kernel
theorem dX6_learn_31 : decode cX6_learn 31 = .ok (.invokevirtual 93, 3) := by decide +kernel
theorem dX6_learn_34 : decode cX6_learn 34 = .ok (.ireturn, 1) := by decide +kernel
set_option maxRecDepth 20000 in
theorem ggX6_cut_X1_keep : GoodIn wsX6_cut wsX1_keep := goodIn_r _ [7, 8, 9, 10, 11, 12, 6, 13, 14, 15, 16, 17, 18, 19, 20, 21, 22, 23, 24, 25, 26, 27, 28, 29, 30, 31, 32, 33, 34, 35, 36, 37, 38, 39, 40, 41, 42, 43, 44, 45, 46, 47, 48, 49, 50, 51, 52, 53, 54, 55, 56, 57, 58, 59, 129, 130, 131, 132, 133, 134, 135, 136, 137, 138, 139, 140, 141, 142, 143, 144, 145, 146, 147, 148, 149, 150, 151, 152, 153, 154] (by decide +kernel) (by decide +kernel)
set_option maxRecDepth 20000 in
theorem gX6_cut_X1_keep : GoodIn wsX6_cut (wsV RX6 49 RX1 yX1_keep wsX1_keep) := goodIn_app (goodIn_of _ (by decide +kernel)) ggX6_cut_X1_keep
set_option maxRecDepth 20000 in
theorem ggX6_cut_X4_cutPower : GoodIn wsX6_cut wsX4_cutPower := goodIn_r _ [63, 21, 24, 34, 35, 64, 65, 66, 19, 67, 68, 53, 54, 55, 69, 70, 71, 72, 73, 74, 75, 76, 77, 78, 79, 80, 81, 82, 83, 84, 85, 86, 41, 87, 43, 47, 46, 88, 89, 90, 91, 92, 93, 94, 95, 96, 27, 97, 98, 99, 100, 25, 26, 32, 101, 15, 102, 103, 104, 105, 106, 22, 23, 37, 107, 108, 109, 110, 111, 112, 45, 113, 114, 115, 116, 117, 118, 119, 120, 121, 122, 123, 131, 132, 133, 134, 135, 136, 137, 138, 139, 140, 141, 142, 143, 144, 145, 146, 147, 148, 149, 150, 151, 152, 153, 154] (by decide +kernel) (by decide +kernel)
set_option maxRecDepth 20000 in
theorem gX6_cut_X4_cutPower : GoodIn wsX6_cut (wsV RX6 97 RX4 yX4_cutPower wsX4_cutPower) := goodIn_app (goodIn_of _ (by decide +kernel)) ggX6_cut_X4_cutPower
theorem dX6_cut_0 : decode cX6_cut 0 = .ok (.aload_n 0, 1) := by decide +kernel
theorem dX6_cut_1 : decode cX6_cut 1 = .ok (.getfield 19, 3) := by decide +kernel
theorem dX6_cut_4 : decode cX6_cut 4 = .ok (.aload_n 0, 1) := by decide +kernel
theorem dX6_cut_5 : decode cX6_cut 5 = .ok (.getfield 10, 3) := by decide +kernel
theorem dX6_cut_8 : decode cX6_cut 8 = .ok (.invokevirtual 49, 3) := by decide +kernel
theorem dX6_cut_11 : decode cX6_cut 11 = .ok (.aload_n 0, 1) := by decide +kernel
theorem dX6_cut_12 : decode cX6_cut 12 = .ok (.getfield 10, 3) := by decide +kernel
theorem dX6_cut_15 : decode cX6_cut 15 = .ok (.invokevirtual 97, 3) := by decide +kernel
theorem dX6_cut_18 : decode cX6_cut 18 = .ok (.ireturn, 1) := by decide +kernel
set_option maxRecDepth 20000 in
theorem ggX6_set_X6_isSetting : GoodIn wsX6_set wsX6_isSetting := goodIn_r _ [10] (by decide +kernel) (by decide +kernel)
set_option maxRecDepth 20000 in
theorem gX6_set_X6_isSetting : GoodIn wsX6_set (va_wsS RX6 100 yX6_isSetting wsX6_isSetting) := goodIn_app (goodIn_of _ (by decide +kernel)) ggX6_set_X6_isSetting
set_option maxRecDepth 20000 in
theorem ggX6_set_X6_isWithin : GoodIn wsX6_set wsX6_isWithin := goodIn_r _ [13] (by decide +kernel) (by decide +kernel)
set_option maxRecDepth 20000 in
theorem gX6_set_X6_isWithin : GoodIn wsX6_set (va_wsS RX6 57 yX6_isWithin wsX6_isWithin) := goodIn_app (goodIn_of _ (by decide +kernel)) ggX6_set_X6_isWithin
set_option maxRecDepth 20000 in
theorem ggX6_set_X1_keep : GoodIn wsX6_set wsX1_keep := goodIn_r _ [18, 19, 20, 21, 22, 23, 17, 24, 12, 9, 13, 25, 26, 27, 28, 29, 30, 31, 32, 33, 34, 35, 36, 37, 38, 39, 40, 41, 42, 43, 44, 45, 46, 47, 48, 49, 50, 51, 52, 53, 54, 55, 56, 57, 58, 59, 60, 61, 62, 63, 64, 65, 66, 67, 98, 99, 81, 82, 83, 84, 85, 86, 87, 88, 89, 90, 91, 92, 93, 94, 95, 96, 97, 100, 101, 102, 103, 104, 105, 106] (by decide +kernel) (by decide +kernel)
set_option maxRecDepth 20000 in
theorem gX6_set_X1_keep : GoodIn wsX6_set (wsV RX6 49 RX1 yX1_keep wsX1_keep) := goodIn_app (goodIn_of _ (by decide +kernel)) ggX6_set_X1_keep
set_option maxRecDepth 20000 in
theorem ggX6_set_X0_setting : GoodIn wsX6_set wsX0_setting := goodIn_r _ [71, 54, 55, 56, 57, 100, 101, 102, 103, 104, 105, 106] (by decide +kernel) (by decide +kernel)
set_option maxRecDepth 20000 in
theorem gX6_set_X0_setting : GoodIn wsX6_set (wsV RX6 109 RX0 yX0_setting wsX0_setting) := goodIn_app (goodIn_of _ (by decide +kernel)) ggX6_set_X0_setting
set_option maxRecDepth 20000 in
theorem ggX6_set_X0_changeSetting : GoodIn wsX6_set wsX0_changeSetting := goodIn_r _ [75, 54, 55, 56, 57, 100, 101, 102, 103, 104, 105, 106] (by decide +kernel) (by decide +kernel)
set_option maxRecDepth 20000 in
theorem gX6_set_X0_changeSetting : GoodIn wsX6_set (wsV RX6 112 RX0 yX0_changeSetting wsX0_changeSetting) := goodIn_app (goodIn_of _ (by decide +kernel)) ggX6_set_X0_changeSetting
theorem dX6_set_0 : decode cX6_set 0 = .ok (.iload_n 1, 1) := by decide +kernel
theorem dX6_set_1 : decode cX6_set 1 = .ok (.invokestatic 100, 3) := by decide +kernel
theorem dX6_set_4 : decode cX6_set 4 = .ok (.ifCond .eq 20, 3) := by decide +kernel
theorem dX6_set_7 : decode cX6_set 7 = .ok (.iload_n 2, 1) := by decide +kernel
theorem dX6_set_8 : decode cX6_set 8 = .ok (.getstatic 103, 3) := by decide +kernel
theorem dX6_set_11 : decode cX6_set 11 = .ok (.iload_n 1, 1) := by decide +kernel
theorem dX6_set_12 : decode cX6_set 12 = .ok (.iaload, 1) := by decide +kernel
theorem dX6_set_13 : decode cX6_set 13 = .ok (.getstatic 106, 3) := by decide +kernel
theorem dX6_set_16 : decode cX6_set 16 = .ok (.iload_n 1, 1) := by decide +kernel
theorem dX6_set_17 : decode cX6_set 17 = .ok (.iaload, 1) := by decide +kernel
theorem dX6_set_18 : decode cX6_set 18 = .ok (.invokestatic 57, 3) := by decide +kernel
theorem dX6_set_21 : decode cX6_set 21 = .ok (.ifCond .ne 6, 3) := by decide +kernel
theorem dX6_set_24 : decode cX6_set 24 = .ok (.ldc 48, 2) := by decide +kernel
theorem dX6_set_26 : decode cX6_set 26 = .ok (.ireturn, 1) := by decide +kernel
theorem dX6_set_27 : decode cX6_set 27 = .ok (.aload_n 0, 1) := by decide +kernel
theorem dX6_set_28 : decode cX6_set 28 = .ok (.getfield 19, 3) := by decide +kernel
theorem dX6_set_31 : decode cX6_set 31 = .ok (.aload_n 0, 1) := by decide +kernel
theorem dX6_set_32 : decode cX6_set 32 = .ok (.getfield 10, 3) := by decide +kernel
theorem dX6_set_35 : decode cX6_set 35 = .ok (.invokevirtual 49, 3) := by decide +kernel
theorem dX6_set_38 : decode cX6_set 38 = .ok (.aload_n 0, 1) := by decide +kernel
theorem dX6_set_39 : decode cX6_set 39 = .ok (.getfield 10, 3) := by decide +kernel
theorem dX6_set_42 : decode cX6_set 42 = .ok (.getfield 86, 3) := by decide +kernel
theorem dX6_set_45 : decode cX6_set 45 = .ok (.iload_n 1, 1) := by decide +kernel
theorem dX6_set_46 : decode cX6_set 46 = .ok (.invokevirtual 109, 3) := by decide +kernel
theorem dX6_set_49 : decode cX6_set 49 = .ok (.istore_n 3, 1) := by decide +kernel
theorem dX6_set_50 : decode cX6_set 50 = .ok (.aload_n 0, 1) := by decide +kernel
theorem dX6_set_51 : decode cX6_set 51 = .ok (.getfield 10, 3) := by decide +kernel
theorem dX6_set_54 : decode cX6_set 54 = .ok (.getfield 86, 3) := by decide +kernel
theorem dX6_set_57 : decode cX6_set 57 = .ok (.iload_n 1, 1) := by decide +kernel
theorem dX6_set_58 : decode cX6_set 58 = .ok (.iload_n 2, 1) := by decide +kernel
theorem dX6_set_59 : decode cX6_set 59 = .ok (.invokevirtual 112, 3) := by decide +kernel
theorem dX6_set_62 : decode cX6_set 62 = .ok (.iload_n 3, 1) := by decide +kernel
theorem dX6_set_63 : decode cX6_set 63 = .ok (.ireturn, 1) := by decide +kernel
set_option maxRecDepth 20000 in
theorem ggX6_lineOf_X6_isLine : GoodIn wsX6_lineOf wsX6_isLine := goodIn_r _ [11] (by decide +kernel) (by decide +kernel)
set_option maxRecDepth 20000 in
theorem gX6_lineOf_X6_isLine : GoodIn wsX6_lineOf (va_wsS RX6 65 yX6_isLine wsX6_isLine) := goodIn_app (goodIn_of _ (by decide +kernel)) ggX6_lineOf_X6_isLine
set_option maxRecDepth 20000 in
theorem ggX6_lineOf_X6_isWithin : GoodIn wsX6_lineOf wsX6_isWithin := goodIn_r _ [14] (by decide +kernel) (by decide +kernel)
set_option maxRecDepth 20000 in
theorem gX6_lineOf_X6_isWithin : GoodIn wsX6_lineOf (va_wsS RX6 57 yX6_isWithin wsX6_isWithin) := goodIn_app (goodIn_of _ (by decide +kernel)) ggX6_lineOf_X6_isWithin
set_option maxRecDepth 20000 in
theorem ggX6_lineOf_X4_linesAhead : GoodIn wsX6_lineOf wsX4_linesAhead := goodIn_r _ [19, 20, 21, 9, 10, 11, 27, 28, 29, 30, 31, 32, 33, 34, 35, 36, 37, 38, 39, 40, 41, 42, 43] (by decide +kernel) (by decide +kernel)
set_option maxRecDepth 20000 in
theorem gX6_lineOf_X4_linesAhead : GoodIn wsX6_lineOf (wsV RX6 126 RX4 yX4_linesAhead wsX4_linesAhead) := goodIn_app (goodIn_of _ (by decide +kernel)) ggX6_lineOf_X4_linesAhead
theorem dX6_lineOf_0 : decode cX6_lineOf 0 = .ok (.iload_n 1, 1) := by decide +kernel
theorem dX6_lineOf_1 : decode cX6_lineOf 1 = .ok (.invokestatic 65, 3) := by decide +kernel
theorem dX6_lineOf_4 : decode cX6_lineOf 4 = .ok (.ifCond .eq 12, 3) := by decide +kernel
theorem dX6_lineOf_7 : decode cX6_lineOf 7 = .ok (.iload_n 2, 1) := by decide +kernel
theorem dX6_lineOf_8 : decode cX6_lineOf 8 = .ok (.iconst 0, 1) := by decide +kernel
theorem dX6_lineOf_9 : decode cX6_lineOf 9 = .ok (.iconst 4, 1) := by decide +kernel
theorem dX6_lineOf_10 : decode cX6_lineOf 10 = .ok (.invokestatic 57, 3) := by decide +kernel
theorem dX6_lineOf_13 : decode cX6_lineOf 13 = .ok (.ifCond .ne 6, 3) := by decide +kernel
theorem dX6_lineOf_16 : decode cX6_lineOf 16 = .ok (.ldc 48, 2) := by decide +kernel
theorem dX6_lineOf_18 : decode cX6_lineOf 18 = .ok (.ireturn, 1) := by decide +kernel
theorem dX6_lineOf_19 : decode cX6_lineOf 19 = .ok (.iload_n 2, 1) := by decide +kernel
theorem dX6_lineOf_20 : decode cX6_lineOf 20 = .ok (.ifCond .ne 13, 3) := by decide +kernel
theorem dX6_lineOf_23 : decode cX6_lineOf 23 = .ok (.aload_n 0, 1) := by decide +kernel
theorem dX6_lineOf_24 : decode cX6_lineOf 24 = .ok (.getfield 10, 3) := by decide +kernel
theorem dX6_lineOf_27 : decode cX6_lineOf 27 = .ok (.getfield 68, 3) := by decide +kernel
theorem dX6_lineOf_30 : decode cX6_lineOf 30 = .ok (.iload_n 1, 1) := by decide +kernel
theorem dX6_lineOf_31 : decode cX6_lineOf 31 = .ok (.iaload, 1) := by decide +kernel
theorem dX6_lineOf_32 : decode cX6_lineOf 32 = .ok (.ireturn, 1) := by decide +kernel
theorem dX6_lineOf_33 : decode cX6_lineOf 33 = .ok (.aload_n 0, 1) := by decide +kernel
theorem dX6_lineOf_34 : decode cX6_lineOf 34 = .ok (.getfield 10, 3) := by decide +kernel
theorem dX6_lineOf_37 : decode cX6_lineOf 37 = .ok (.getfield 68, 3) := by decide +kernel
theorem dX6_lineOf_40 : decode cX6_lineOf 40 = .ok (.iload_n 1, 1) := by decide +kernel
theorem dX6_lineOf_41 : decode cX6_lineOf 41 = .ok (.iaload, 1) := by decide +kernel
theorem dX6_lineOf_42 : decode cX6_lineOf 42 = .ok (.ifCond .ne 6, 3) := by decide +kernel
theorem dX6_lineOf_45 : decode cX6_lineOf 45 = .ok (.ldc 116, 2) := by decide +kernel
theorem dX6_lineOf_47 : decode cX6_lineOf 47 = .ok (.ireturn, 1) := by decide +kernel
theorem dX6_lineOf_48 : decode cX6_lineOf 48 = .ok (.iload_n 2, 1) := by decide +kernel
theorem dX6_lineOf_49 : decode cX6_lineOf 49 = .ok (.tableswitch 57 1 3 #[27, 37, 47], 27) := by decide +kernel
theorem dX6_lineOf_76 : decode cX6_lineOf 76 = .ok (.aload_n 0, 1) := by decide +kernel
theorem dX6_lineOf_77 : decode cX6_lineOf 77 = .ok (.getfield 10, 3) := by decide +kernel
theorem dX6_lineOf_80 : decode cX6_lineOf 80 = .ok (.getfield 117, 3) := by decide +kernel
theorem dX6_lineOf_83 : decode cX6_lineOf 83 = .ok (.iload_n 1, 1) := by decide +kernel
theorem dX6_lineOf_84 : decode cX6_lineOf 84 = .ok (.iaload, 1) := by decide +kernel
theorem dX6_lineOf_85 : decode cX6_lineOf 85 = .ok (.ireturn, 1) := by decide +kernel
theorem dX6_lineOf_86 : decode cX6_lineOf 86 = .ok (.aload_n 0, 1) := by decide +kernel
theorem dX6_lineOf_87 : decode cX6_lineOf 87 = .ok (.getfield 10, 3) := by decide +kernel
theorem dX6_lineOf_90 : decode cX6_lineOf 90 = .ok (.getfield 120, 3) := by decide +kernel
theorem dX6_lineOf_93 : decode cX6_lineOf 93 = .ok (.iload_n 1, 1) := by decide +kernel
theorem dX6_lineOf_94 : decode cX6_lineOf 94 = .ok (.iaload, 1) := by decide +kernel
theorem dX6_lineOf_95 : decode cX6_lineOf 95 = .ok (.ireturn, 1) := by decide +kernel
theorem dX6_lineOf_96 : decode cX6_lineOf 96 = .ok (.aload_n 0, 1) := by decide +kernel
theorem dX6_lineOf_97 : decode cX6_lineOf 97 = .ok (.getfield 10, 3) := by decide +kernel
theorem dX6_lineOf_100 : decode cX6_lineOf 100 = .ok (.getfield 123, 3) := by decide +kernel
theorem dX6_lineOf_103 : decode cX6_lineOf 103 = .ok (.iload_n 1, 1) := by decide +kernel
theorem dX6_lineOf_104 : decode cX6_lineOf 104 = .ok (.iaload, 1) := by decide +kernel
theorem dX6_lineOf_105 : decode cX6_lineOf 105 = .ok (.ireturn, 1) := by decide +kernel
theorem dX6_lineOf_106 : decode cX6_lineOf 106 = .ok (.aload_n 0, 1) := by decide +kernel
theorem dX6_lineOf_107 : decode cX6_lineOf 107 = .ok (.getfield 10, 3) := by decide +kernel
theorem dX6_lineOf_110 : decode cX6_lineOf 110 = .ok (.iload_n 1, 1) := by decide +kernel
theorem dX6_lineOf_111 : decode cX6_lineOf 111 = .ok (.iconst 1, 1) := by decide +kernel
theorem dX6_lineOf_112 : decode cX6_lineOf 112 = .ok (.invokevirtual 126, 3) := by decide +kernel
theorem dX6_lineOf_115 : decode cX6_lineOf 115 = .ok (.ireturn, 1) := by decide +kernel
set_option maxRecDepth 20000 in
theorem ggX6_placeOf_X6_isPlace : GoodIn wsX6_placeOf wsX6_isPlace := goodIn_r _ [10] (by decide +kernel) (by decide +kernel)
set_option maxRecDepth 20000 in
theorem gX6_placeOf_X6_isPlace : GoodIn wsX6_placeOf (va_wsS RX6 44 yX6_isPlace wsX6_isPlace) := goodIn_app (goodIn_of _ (by decide +kernel)) ggX6_placeOf_X6_isPlace
set_option maxRecDepth 20000 in
theorem ggX6_placeOf_X6_isWithin : GoodIn wsX6_placeOf wsX6_isWithin := goodIn_r _ [13] (by decide +kernel) (by decide +kernel)
set_option maxRecDepth 20000 in
theorem gX6_placeOf_X6_isWithin : GoodIn wsX6_placeOf (va_wsS RX6 57 yX6_isWithin wsX6_isWithin) := goodIn_app (goodIn_of _ (by decide +kernel)) ggX6_placeOf_X6_isWithin
set_option maxRecDepth 20000 in
theorem ggX6_placeOf_X4_holderOf : GoodIn wsX6_placeOf wsX4_holderOf := goodIn_r _ [18, 19, 20, 29, 30, 31, 32, 33, 34, 35, 36, 37, 38, 39, 40, 41, 42, 43, 44, 45] (by decide +kernel) (by decide +kernel)
set_option maxRecDepth 20000 in
theorem gX6_placeOf_X4_holderOf : GoodIn wsX6_placeOf (wsV RX6 129 RX4 yX4_holderOf wsX4_holderOf) := goodIn_app (goodIn_of _ (by decide +kernel)) ggX6_placeOf_X4_holderOf
set_option maxRecDepth 20000 in
theorem ggX6_placeOf_X6_isLine : GoodIn wsX6_placeOf wsX6_isLine := goodIn_r _ [23] (by decide +kernel) (by decide +kernel)
set_option maxRecDepth 20000 in
theorem gX6_placeOf_X6_isLine : GoodIn wsX6_placeOf (va_wsS RX6 65 yX6_isLine wsX6_isLine) := goodIn_app (goodIn_of _ (by decide +kernel)) ggX6_placeOf_X6_isLine
theorem dX6_placeOf_0 : decode cX6_placeOf 0 = .ok (.iload_n 1, 1) := by decide +kernel
theorem dX6_placeOf_1 : decode cX6_placeOf 1 = .ok (.invokestatic 44, 3) := by decide +kernel
theorem dX6_placeOf_4 : decode cX6_placeOf 4 = .ok (.ifCond .eq 12, 3) := by decide +kernel
theorem dX6_placeOf_7 : decode cX6_placeOf 7 = .ok (.iload_n 2, 1) := by decide +kernel
theorem dX6_placeOf_8 : decode cX6_placeOf 8 = .ok (.iconst 0, 1) := by decide +kernel
theorem dX6_placeOf_9 : decode cX6_placeOf 9 = .ok (.iconst 3, 1) := by decide +kernel
theorem dX6_placeOf_10 : decode cX6_placeOf 10 = .ok (.invokestatic 57, 3) := by decide +kernel
theorem dX6_placeOf_13 : decode cX6_placeOf 13 = .ok (.ifCond .ne 6, 3) := by decide +kernel
theorem dX6_placeOf_16 : decode cX6_placeOf 16 = .ok (.ldc 48, 2) := by decide +kernel
theorem dX6_placeOf_18 : decode cX6_placeOf 18 = .ok (.ireturn, 1) := by decide +kernel
theorem dX6_placeOf_19 : decode cX6_placeOf 19 = .ok (.aload_n 0, 1) := by decide +kernel
theorem dX6_placeOf_20 : decode cX6_placeOf 20 = .ok (.getfield 10, 3) := by decide +kernel
theorem dX6_placeOf_23 : decode cX6_placeOf 23 = .ok (.iload_n 1, 1) := by decide +kernel
theorem dX6_placeOf_24 : decode cX6_placeOf 24 = .ok (.invokevirtual 129, 3) := by decide +kernel
theorem dX6_placeOf_27 : decode cX6_placeOf 27 = .ok (.istore_n 3, 1) := by decide +kernel
theorem dX6_placeOf_28 : decode cX6_placeOf 28 = .ok (.iload_n 2, 1) := by decide +kernel
theorem dX6_placeOf_29 : decode cX6_placeOf 29 = .ok (.tableswitch 80 0 2 #[27, 37, 66], 27) := by decide +kernel
theorem dX6_placeOf_56 : decode cX6_placeOf 56 = .ok (.aload_n 0, 1) := by decide +kernel
theorem dX6_placeOf_57 : decode cX6_placeOf 57 = .ok (.getfield 10, 3) := by decide +kernel
theorem dX6_placeOf_60 : decode cX6_placeOf 60 = .ok (.getfield 132, 3) := by decide +kernel
theorem dX6_placeOf_63 : decode cX6_placeOf 63 = .ok (.iload_n 1, 1) := by decide +kernel
theorem dX6_placeOf_64 : decode cX6_placeOf 64 = .ok (.iaload, 1) := by decide +kernel
theorem dX6_placeOf_65 : decode cX6_placeOf 65 = .ok (.ireturn, 1) := by decide +kernel
theorem dX6_placeOf_66 : decode cX6_placeOf 66 = .ok (.iload_n 3, 1) := by decide +kernel
theorem dX6_placeOf_67 : decode cX6_placeOf 67 = .ok (.invokestatic 65, 3) := by decide +kernel
theorem dX6_placeOf_70 : decode cX6_placeOf 70 = .ok (.ifCond .eq 15, 3) := by decide +kernel
theorem dX6_placeOf_73 : decode cX6_placeOf 73 = .ok (.aload_n 0, 1) := by decide +kernel
theorem dX6_placeOf_74 : decode cX6_placeOf 74 = .ok (.getfield 10, 3) := by decide +kernel
theorem dX6_placeOf_77 : decode cX6_placeOf 77 = .ok (.getfield 120, 3) := by decide +kernel
theorem dX6_placeOf_80 : decode cX6_placeOf 80 = .ok (.iload_n 3, 1) := by decide +kernel
theorem dX6_placeOf_81 : decode cX6_placeOf 81 = .ok (.iaload, 1) := by decide +kernel
theorem dX6_placeOf_82 : decode cX6_placeOf 82 = .ok (.goto 12, 3) := by decide +kernel
theorem dX6_placeOf_85 : decode cX6_placeOf 85 = .ok (.aload_n 0, 1) := by decide +kernel
theorem dX6_placeOf_86 : decode cX6_placeOf 86 = .ok (.getfield 10, 3) := by decide +kernel
theorem dX6_placeOf_89 : decode cX6_placeOf 89 = .ok (.getfield 132, 3) := by decide +kernel
theorem dX6_placeOf_92 : decode cX6_placeOf 92 = .ok (.iload_n 1, 1) := by decide +kernel
theorem dX6_placeOf_93 : decode cX6_placeOf 93 = .ok (.iaload, 1) := by decide +kernel
theorem dX6_placeOf_94 : decode cX6_placeOf 94 = .ok (.ireturn, 1) := by decide +kernel
theorem dX6_placeOf_95 : decode cX6_placeOf 95 = .ok (.iload_n 3, 1) := by decide +kernel
theorem dX6_placeOf_96 : decode cX6_placeOf 96 = .ok (.invokestatic 65, 3) := by decide +kernel
theorem dX6_placeOf_99 : decode cX6_placeOf 99 = .ok (.ifCond .eq 7, 3) := by decide +kernel
theorem dX6_placeOf_102 : decode cX6_placeOf 102 = .ok (.iload_n 3, 1) := by decide +kernel
theorem dX6_placeOf_103 : decode cX6_placeOf 103 = .ok (.goto 5, 3) := by decide +kernel
theorem dX6_placeOf_106 : decode cX6_placeOf 106 = .ok (.ldc 116, 2) := by decide +kernel
theorem dX6_placeOf_108 : decode cX6_placeOf 108 = .ok (.ireturn, 1) := by decide +kernel
theorem dX6_placeOf_109 : decode cX6_placeOf 109 = .ok (.aload_n 0, 1) := by decide +kernel
theorem dX6_placeOf_110 : decode cX6_placeOf 110 = .ok (.getfield 10, 3) := by decide +kernel
theorem dX6_placeOf_113 : decode cX6_placeOf 113 = .ok (.getfield 135, 3) := by decide +kernel
theorem dX6_placeOf_116 : decode cX6_placeOf 116 = .ok (.iload_n 1, 1) := by decide +kernel
theorem dX6_placeOf_117 : decode cX6_placeOf 117 = .ok (.iaload, 1) := by decide +kernel
theorem dX6_placeOf_118 : decode cX6_placeOf 118 = .ok (.ireturn, 1) := by decide +kernel
set_option maxRecDepth 20000 in
theorem ggX6_battery_X0_capacity : GoodIn wsX6_battery wsX0_capacity := goodIn_r _ [11, 12, 75, 76, 77, 78, 79, 80, 81] (by decide +kernel) (by decide +kernel)
set_option maxRecDepth 20000 in
theorem gX6_battery_X0_capacity : GoodIn wsX6_battery (wsV RX6 141 RX0 yX0_capacity wsX0_capacity) := goodIn_app (goodIn_of _ (by decide +kernel)) ggX6_battery_X0_capacity
set_option maxRecDepth 20000 in
theorem ggX6_battery_X0_allowance : GoodIn wsX6_battery wsX0_allowance := goodIn_r _ [16, 17, 18, 19, 20, 10, 21, 22, 23, 24, 25, 26, 27, 28, 75, 76, 77, 78, 79, 80, 81] (by decide +kernel) (by decide +kernel)
set_option maxRecDepth 20000 in
theorem gX6_battery_X0_allowance : GoodIn wsX6_battery (wsV RX6 147 RX0 yX0_allowance wsX0_allowance) := goodIn_app (goodIn_of _ (by decide +kernel)) ggX6_battery_X0_allowance
set_option maxRecDepth 20000 in
theorem ggX6_battery_X4_savedByCut : GoodIn wsX6_battery wsX4_savedByCut := goodIn_r _ [33, 34, 35, 26, 27, 28, 36, 37, 38, 32, 39, 40, 41, 42, 43, 44, 45, 46, 47, 48, 49, 50, 51, 52, 19, 20, 10, 21, 22, 23, 24, 25, 58, 59, 60, 61, 62, 63, 64, 65, 66, 67, 68, 69, 70, 71, 72, 73, 74, 75, 76, 77, 78, 79, 80, 81] (by decide +kernel) (by decide +kernel)
set_option maxRecDepth 20000 in
theorem gX6_battery_X4_savedByCut : GoodIn wsX6_battery (wsV RX6 150 RX4 yX4_savedByCut wsX4_savedByCut) := goodIn_app (goodIn_of _ (by decide +kernel)) ggX6_battery_X4_savedByCut
theorem dX6_battery_0 : decode cX6_battery 0 = .ok (.iload_n 1, 1) := by decide +kernel
theorem dX6_battery_1 : decode cX6_battery 1 = .ok (.tableswitch 102 0 5 #[39, 50, 61, 72, 83, 94], 39) := by decide +kernel
theorem dX6_battery_40 : decode cX6_battery 40 = .ok (.aload_n 0, 1) := by decide +kernel
theorem dX6_battery_41 : decode cX6_battery 41 = .ok (.getfield 10, 3) := by decide +kernel
theorem dX6_battery_44 : decode cX6_battery 44 = .ok (.getfield 86, 3) := by decide +kernel
theorem dX6_battery_47 : decode cX6_battery 47 = .ok (.getfield 138, 3) := by decide +kernel
theorem dX6_battery_50 : decode cX6_battery 50 = .ok (.ireturn, 1) := by decide +kernel
theorem dX6_battery_51 : decode cX6_battery 51 = .ok (.aload_n 0, 1) := by decide +kernel
theorem dX6_battery_52 : decode cX6_battery 52 = .ok (.getfield 10, 3) := by decide +kernel
theorem dX6_battery_55 : decode cX6_battery 55 = .ok (.getfield 86, 3) := by decide +kernel
theorem dX6_battery_58 : decode cX6_battery 58 = .ok (.invokevirtual 141, 3) := by decide +kernel
theorem dX6_battery_61 : decode cX6_battery 61 = .ok (.ireturn, 1) := by decide +kernel
theorem dX6_battery_62 : decode cX6_battery 62 = .ok (.aload_n 0, 1) := by decide +kernel
theorem dX6_battery_63 : decode cX6_battery 63 = .ok (.getfield 10, 3) := by decide +kernel
theorem dX6_battery_66 : decode cX6_battery 66 = .ok (.getfield 86, 3) := by decide +kernel
theorem dX6_battery_69 : decode cX6_battery 69 = .ok (.getfield 144, 3) := by decide +kernel
theorem dX6_battery_72 : decode cX6_battery 72 = .ok (.ireturn, 1) := by decide +kernel
theorem dX6_battery_73 : decode cX6_battery 73 = .ok (.aload_n 0, 1) := by decide +kernel
theorem dX6_battery_74 : decode cX6_battery 74 = .ok (.getfield 10, 3) := by decide +kernel
theorem dX6_battery_77 : decode cX6_battery 77 = .ok (.getfield 86, 3) := by decide +kernel
theorem dX6_battery_80 : decode cX6_battery 80 = .ok (.invokevirtual 147, 3) := by decide +kernel
theorem dX6_battery_83 : decode cX6_battery 83 = .ok (.ireturn, 1) := by decide +kernel
theorem dX6_battery_84 : decode cX6_battery 84 = .ok (.aload_n 0, 1) := by decide +kernel
theorem dX6_battery_85 : decode cX6_battery 85 = .ok (.getfield 10, 3) := by decide +kernel
theorem dX6_battery_88 : decode cX6_battery 88 = .ok (.getfield 86, 3) := by decide +kernel
theorem dX6_battery_91 : decode cX6_battery 91 = .ok (.getfield 89, 3) := by decide +kernel
theorem dX6_battery_94 : decode cX6_battery 94 = .ok (.ireturn, 1) := by decide +kernel
theorem dX6_battery_95 : decode cX6_battery 95 = .ok (.aload_n 0, 1) := by decide +kernel
theorem dX6_battery_96 : decode cX6_battery 96 = .ok (.getfield 10, 3) := by decide +kernel
theorem dX6_battery_99 : decode cX6_battery 99 = .ok (.invokevirtual 150, 3) := by decide +kernel
theorem dX6_battery_102 : decode cX6_battery 102 = .ok (.ireturn, 1) := by decide +kernel
theorem dX6_battery_103 : decode cX6_battery 103 = .ok (.ldc 48, 2) := by decide +kernel
theorem dX6_battery_105 : decode cX6_battery 105 = .ok (.ireturn, 1) := by decide +kernel
set_option maxRecDepth 20000 in
theorem ggX6_lines_X4_setOf : GoodIn wsX6_lines wsX4_setOf := goodIn_r _ [7, 8, 56, 57, 58, 59, 60, 61, 62, 63, 64, 65, 66, 67, 68, 69, 70, 71, 72] (by decide +kernel) (by decide +kernel)
set_option maxRecDepth 20000 in
theorem gX6_lines_X4_setOf : GoodIn wsX6_lines (wsV RX6 153 RX4 yX4_setOf wsX4_setOf) := goodIn_app (goodIn_of _ (by decide +kernel)) ggX6_lines_X4_setOf
set_option maxRecDepth 20000 in
theorem ggX6_lines_X4_lostByCut : GoodIn wsX6_lines wsX4_lostByCut := goodIn_r _ [12, 8, 13, 14, 15, 6, 16, 17, 18, 19, 20, 21, 22, 23, 24, 25, 26, 4, 5, 7, 27, 28, 29, 30, 31, 32, 33, 34, 35, 36, 37, 38, 39, 40, 41, 42, 43, 44, 45, 46, 47, 48, 49, 50, 56, 57, 58, 59, 60, 61, 62, 63, 64, 65, 66, 67, 68, 69, 70, 71, 72, 73, 74, 75, 76, 77, 78, 79] (by decide +kernel) (by decide +kernel)
set_option maxRecDepth 20000 in
theorem gX6_lines_X4_lostByCut : GoodIn wsX6_lines (wsV RX6 156 RX4 yX4_lostByCut wsX4_lostByCut) := goodIn_app (goodIn_of _ (by decide +kernel)) ggX6_lines_X4_lostByCut
theorem dX6_lines_0 : decode cX6_lines 0 = .ok (.iload_n 1, 1) := by decide +kernel
theorem dX6_lines_1 : decode cX6_lines 1 = .ok (.tableswitch 66 0 3 #[31, 40, 49, 58], 31) := by decide +kernel
theorem dX6_lines_32 : decode cX6_lines 32 = .ok (.aload_n 0, 1) := by decide +kernel
theorem dX6_lines_33 : decode cX6_lines 33 = .ok (.getfield 10, 3) := by decide +kernel
theorem dX6_lines_36 : decode cX6_lines 36 = .ok (.iconst 0, 1) := by decide +kernel
theorem dX6_lines_37 : decode cX6_lines 37 = .ok (.invokevirtual 153, 3) := by decide +kernel
theorem dX6_lines_40 : decode cX6_lines 40 = .ok (.ireturn, 1) := by decide +kernel
theorem dX6_lines_41 : decode cX6_lines 41 = .ok (.aload_n 0, 1) := by decide +kernel
theorem dX6_lines_42 : decode cX6_lines 42 = .ok (.getfield 10, 3) := by decide +kernel
theorem dX6_lines_45 : decode cX6_lines 45 = .ok (.iconst 1, 1) := by decide +kernel
theorem dX6_lines_46 : decode cX6_lines 46 = .ok (.invokevirtual 153, 3) := by decide +kernel
theorem dX6_lines_49 : decode cX6_lines 49 = .ok (.ireturn, 1) := by decide +kernel
theorem dX6_lines_50 : decode cX6_lines 50 = .ok (.aload_n 0, 1) := by decide +kernel
theorem dX6_lines_51 : decode cX6_lines 51 = .ok (.getfield 10, 3) := by decide +kernel
theorem dX6_lines_54 : decode cX6_lines 54 = .ok (.iconst 2, 1) := by decide +kernel
theorem dX6_lines_55 : decode cX6_lines 55 = .ok (.invokevirtual 153, 3) := by decide +kernel
theorem dX6_lines_58 : decode cX6_lines 58 = .ok (.ireturn, 1) := by decide +kernel
theorem dX6_lines_59 : decode cX6_lines 59 = .ok (.aload_n 0, 1) := by decide +kernel
theorem dX6_lines_60 : decode cX6_lines 60 = .ok (.getfield 10, 3) := by decide +kernel
theorem dX6_lines_63 : decode cX6_lines 63 = .ok (.invokevirtual 156, 3) := by decide +kernel
theorem dX6_lines_66 : decode cX6_lines 66 = .ok (.ireturn, 1) := by decide +kernel
theorem dX6_lines_67 : decode cX6_lines 67 = .ok (.ldc 48, 2) := by decide +kernel
theorem dX6_lines_69 : decode cX6_lines 69 = .ok (.ireturn, 1) := by decide +kernel
set_option maxRecDepth 20000 in
theorem ggX6_wouldFlush_X6_isWithin : GoodIn wsX6_wouldFlush wsX6_isWithin := goodIn_r _ [12] (by decide +kernel) (by decide +kernel)
set_option maxRecDepth 20000 in
theorem gX6_wouldFlush_X6_isWithin : GoodIn wsX6_wouldFlush (va_wsS RX6 57 yX6_isWithin wsX6_isWithin) := goodIn_app (goodIn_of _ (by decide +kernel)) ggX6_wouldFlush_X6_isWithin
set_option maxRecDepth 20000 in
theorem ggX6_wouldFlush_X0_copyFrom : GoodIn wsX6_wouldFlush wsX0_copyFrom := goodIn_r _ [17, 18, 19, 20, 21, 22, 23, 24, 80, 81, 82, 83, 84, 85, 86] (by decide +kernel) (by decide +kernel)
set_option maxRecDepth 20000 in
theorem gX6_wouldFlush_X0_copyFrom : GoodIn wsX6_wouldFlush (wsV RX6 159 RX0 yX0_copyFrom wsX0_copyFrom) := goodIn_app (goodIn_of _ (by decide +kernel)) ggX6_wouldFlush_X0_copyFrom
set_option maxRecDepth 20000 in
theorem ggX6_wouldFlush_X0_useUp : GoodIn wsX6_wouldFlush wsX0_useUp := goodIn_r _ [28, 18, 29, 6, 7, 8, 80, 81, 82, 83, 84, 85, 86] (by decide +kernel) (by decide +kernel)
set_option maxRecDepth 20000 in
theorem gX6_wouldFlush_X0_useUp : GoodIn wsX6_wouldFlush (wsV RX6 163 RX0 yX0_useUp wsX0_useUp) := goodIn_app (goodIn_of _ (by decide +kernel)) ggX6_wouldFlush_X0_useUp
set_option maxRecDepth 20000 in
theorem ggX6_wouldFlush_X4_numberOf : GoodIn wsX6_wouldFlush wsX4_numberOf := goodIn_r _ [34, 35, 36, 37, 33, 38, 39, 40, 41, 42, 43, 44, 45, 46, 63, 64, 65, 66, 67, 68, 69, 70, 71, 72, 73, 74, 75, 76, 77, 78, 79] (by decide +kernel) (by decide +kernel)
set_option maxRecDepth 20000 in
theorem gX6_wouldFlush_X4_numberOf : GoodIn wsX6_wouldFlush (wsV RX6 77 RX4 yX4_numberOf wsX4_numberOf) := goodIn_app (goodIn_of _ (by decide +kernel)) ggX6_wouldFlush_X4_numberOf
set_option maxRecDepth 20000 in
theorem ggX6_wouldFlush_X0_allowance : GoodIn wsX6_wouldFlush wsX0_allowance := goodIn_r _ [50, 20, 51, 52, 53, 16, 54, 18, 22, 21, 55, 56, 7, 57, 80, 81, 82, 83, 84, 85, 86] (by decide +kernel) (by decide +kernel)
set_option maxRecDepth 20000 in
theorem gX6_wouldFlush_X0_allowance : GoodIn wsX6_wouldFlush (wsV RX6 147 RX0 yX0_allowance wsX0_allowance) := goodIn_app (goodIn_of _ (by decide +kernel)) ggX6_wouldFlush_X0_allowance
theorem dX6_wouldFlush_0 : decode cX6_wouldFlush 0 = .ok (.iload_n 1, 1) := by decide +kernel
theorem dX6_wouldFlush_1 : decode cX6_wouldFlush 1 = .ok (.iconst 1, 1) := by decide +kernel
theorem dX6_wouldFlush_2 : decode cX6_wouldFlush 2 = .ok (.sipush 999, 3) := by decide +kernel
theorem dX6_wouldFlush_5 : decode cX6_wouldFlush 5 = .ok (.invokestatic 57, 3) := by decide +kernel
theorem dX6_wouldFlush_8 : decode cX6_wouldFlush 8 = .ok (.ifCond .ne 6, 3) := by decide +kernel
theorem dX6_wouldFlush_11 : decode cX6_wouldFlush 11 = .ok (.ldc 48, 2) := by decide +kernel
theorem dX6_wouldFlush_13 : decode cX6_wouldFlush 13 = .ok (.ireturn, 1) := by decide +kernel
theorem dX6_wouldFlush_14 : decode cX6_wouldFlush 14 = .ok (.aload_n 0, 1) := by decide +kernel
theorem dX6_wouldFlush_15 : decode cX6_wouldFlush 15 = .ok (.getfield 40, 3) := by decide +kernel
theorem dX6_wouldFlush_18 : decode cX6_wouldFlush 18 = .ok (.aload_n 0, 1) := by decide +kernel
theorem dX6_wouldFlush_19 : decode cX6_wouldFlush 19 = .ok (.getfield 10, 3) := by decide +kernel
theorem dX6_wouldFlush_22 : decode cX6_wouldFlush 22 = .ok (.getfield 86, 3) := by decide +kernel
theorem dX6_wouldFlush_25 : decode cX6_wouldFlush 25 = .ok (.invokevirtual 159, 3) := by decide +kernel
theorem dX6_wouldFlush_28 : decode cX6_wouldFlush 28 = .ok (.aload_n 0, 1) := by decide +kernel
theorem dX6_wouldFlush_29 : decode cX6_wouldFlush 29 = .ok (.getfield 40, 3) := by decide +kernel
theorem dX6_wouldFlush_32 : decode cX6_wouldFlush 32 = .ok (.iload_n 1, 1) := by decide +kernel
theorem dX6_wouldFlush_33 : decode cX6_wouldFlush 33 = .ok (.invokevirtual 163, 3) := by decide +kernel
theorem dX6_wouldFlush_36 : decode cX6_wouldFlush 36 = .ok (.aload_n 0, 1) := by decide +kernel
theorem dX6_wouldFlush_37 : decode cX6_wouldFlush 37 = .ok (.getfield 10, 3) := by decide +kernel
theorem dX6_wouldFlush_40 : decode cX6_wouldFlush 40 = .ok (.iconst 2, 1) := by decide +kernel
theorem dX6_wouldFlush_41 : decode cX6_wouldFlush 41 = .ok (.invokevirtual 77, 3) := by decide +kernel
theorem dX6_wouldFlush_44 : decode cX6_wouldFlush 44 = .ok (.aload_n 0, 1) := by decide +kernel
theorem dX6_wouldFlush_45 : decode cX6_wouldFlush 45 = .ok (.getfield 40, 3) := by decide +kernel
theorem dX6_wouldFlush_48 : decode cX6_wouldFlush 48 = .ok (.invokevirtual 147, 3) := by decide +kernel
theorem dX6_wouldFlush_51 : decode cX6_wouldFlush 51 = .ok (.isub, 1) := by decide +kernel
theorem dX6_wouldFlush_52 : decode cX6_wouldFlush 52 = .ok (.iconst 0, 1) := by decide +kernel
theorem dX6_wouldFlush_53 : decode cX6_wouldFlush 53 = .ok (.invokestatic 166, 3) := by decide +kernel
theorem dX6_wouldFlush_56 : decode cX6_wouldFlush 56 = .ok (.ireturn, 1) := by decide +kernel
set_option maxRecDepth 20000 in
theorem ggX6_critical_X4_numberOf : GoodIn wsX6_critical wsX4_numberOf := goodIn_r _ [13, 14, 15, 16, 12, 17, 18, 19, 20, 21, 22, 23, 24, 25, 38, 39, 40, 41, 42, 43, 44, 45, 46, 47, 48, 49, 50, 51, 52, 53, 54] (by decide +kernel) (by decide +kernel)
set_option maxRecDepth 20000 in
theorem gX6_critical_X4_numberOf : GoodIn wsX6_critical (wsV RX6 77 RX4 yX4_numberOf wsX4_numberOf) := goodIn_app (goodIn_of _ (by decide +kernel)) ggX6_critical_X4_numberOf
set_option maxRecDepth 20000 in
theorem ggX6_critical_X0_costToSave : GoodIn wsX6_critical wsX0_costToSave := goodIn_r _ [30, 31, 32, 55, 56, 57, 58, 59, 60, 61] (by decide +kernel) (by decide +kernel)
set_option maxRecDepth 20000 in
theorem gX6_critical_X0_costToSave : GoodIn wsX6_critical (wsV RX6 171 RX0 yX0_costToSave wsX0_costToSave) := goodIn_app (goodIn_of _ (by decide +kernel)) ggX6_critical_X0_costToSave
theorem dX6_critical_0 : decode cX6_critical 0 = .ok (.aload_n 0, 1) := by decide +kernel
theorem dX6_critical_1 : decode cX6_critical 1 = .ok (.getfield 10, 3) := by decide +kernel
theorem dX6_critical_4 : decode cX6_critical 4 = .ok (.iconst 2, 1) := by decide +kernel
theorem dX6_critical_5 : decode cX6_critical 5 = .ok (.invokevirtual 77, 3) := by decide +kernel
theorem dX6_critical_8 : decode cX6_critical 8 = .ok (.istore_n 1, 1) := by decide +kernel
theorem dX6_critical_9 : decode cX6_critical 9 = .ok (.aload_n 0, 1) := by decide +kernel
theorem dX6_critical_10 : decode cX6_critical 10 = .ok (.getfield 10, 3) := by decide +kernel
theorem dX6_critical_13 : decode cX6_critical 13 = .ok (.getfield 86, 3) := by decide +kernel
theorem dX6_critical_16 : decode cX6_critical 16 = .ok (.getfield 138, 3) := by decide +kernel
theorem dX6_critical_19 : decode cX6_critical 19 = .ok (.aload_n 0, 1) := by decide +kernel
theorem dX6_critical_20 : decode cX6_critical 20 = .ok (.getfield 10, 3) := by decide +kernel
theorem dX6_critical_23 : decode cX6_critical 23 = .ok (.getfield 86, 3) := by decide +kernel
theorem dX6_critical_26 : decode cX6_critical 26 = .ok (.iload_n 1, 1) := by decide +kernel
theorem dX6_critical_27 : decode cX6_critical 27 = .ok (.invokevirtual 171, 3) := by decide +kernel
theorem dX6_critical_30 : decode cX6_critical 30 = .ok (.isub, 1) := by decide +kernel
theorem dX6_critical_31 : decode cX6_critical 31 = .ok (.iconst 0, 1) := by decide +kernel
theorem dX6_critical_32 : decode cX6_critical 32 = .ok (.invokestatic 166, 3) := by decide +kernel
theorem dX6_critical_35 : decode cX6_critical 35 = .ok (.istore_n 2, 1) := by decide +kernel
theorem dX6_critical_36 : decode cX6_critical 36 = .ok (.iload_n 1, 1) := by decide +kernel
theorem dX6_critical_37 : decode cX6_critical 37 = .ok (.ifCond .le 16, 3) := by decide +kernel
theorem dX6_critical_40 : decode cX6_critical 40 = .ok (.iload_n 2, 1) := by decide +kernel
theorem dX6_critical_41 : decode cX6_critical 41 = .ok (.sipush 999, 3) := by decide +kernel
theorem dX6_critical_44 : decode cX6_critical 44 = .ok (.if_icmp .ge 9, 3) := by decide +kernel
theorem dX6_critical_47 : decode cX6_critical 47 = .ok (.iload_n 2, 1) := by decide +kernel
theorem dX6_critical_48 : decode cX6_critical 48 = .ok (.iconst 1, 1) := by decide +kernel
theorem dX6_critical_49 : decode cX6_critical 49 = .ok (.iadd, 1) := by decide +kernel
theorem dX6_critical_50 : decode cX6_critical 50 = .ok (.goto 5, 3) := by decide +kernel
theorem dX6_critical_53 : decode cX6_critical 53 = .ok (.ldc 116, 2) := by decide +kernel
theorem dX6_critical_55 : decode cX6_critical 55 = .ok (.ireturn, 1) := by decide +kernel
set_option maxRecDepth 20000 in
theorem ggX6_count_X6_isSetting : GoodIn wsX6_count wsX6_isSetting := goodIn_r _ [20] (by decide +kernel) (by decide +kernel)
set_option maxRecDepth 20000 in
theorem gX6_count_X6_isSetting : GoodIn wsX6_count (va_wsS RX6 100 yX6_isSetting wsX6_isSetting) := goodIn_app (goodIn_of _ (by decide +kernel)) ggX6_count_X6_isSetting
set_option maxRecDepth 20000 in
theorem ggX6_count_X0_setting : GoodIn wsX6_count wsX0_setting := goodIn_r _ [25, 26, 27, 28, 29, 56, 57, 58, 59, 60, 61, 62] (by decide +kernel) (by decide +kernel)
set_option maxRecDepth 20000 in
theorem gX6_count_X0_setting : GoodIn wsX6_count (wsV RX6 109 RX0 yX0_setting wsX0_setting) := goodIn_app (goodIn_of _ (by decide +kernel)) ggX6_count_X0_setting
theorem dX6_count_0 : decode cX6_count 0 = .ok (.iload_n 1, 1) := by decide +kernel
theorem dX6_count_1 : decode cX6_count 1 = .ok (.tableswitch 147 0 10 #[59, 67, 75, 83, 91, 99, 107, 115, 123, 131, 139], 59) := by decide +kernel
theorem dX6_count_60 : decode cX6_count 60 = .ok (.aload_n 0, 1) := by decide +kernel
theorem dX6_count_61 : decode cX6_count 61 = .ok (.getfield 10, 3) := by decide +kernel
theorem dX6_count_64 : decode cX6_count 64 = .ok (.getfield 184, 3) := by decide +kernel
theorem dX6_count_67 : decode cX6_count 67 = .ok (.ireturn, 1) := by decide +kernel
theorem dX6_count_68 : decode cX6_count 68 = .ok (.aload_n 0, 1) := by decide +kernel
theorem dX6_count_69 : decode cX6_count 69 = .ok (.getfield 10, 3) := by decide +kernel
theorem dX6_count_72 : decode cX6_count 72 = .ok (.getfield 187, 3) := by decide +kernel
theorem dX6_count_75 : decode cX6_count 75 = .ok (.ireturn, 1) := by decide +kernel
theorem dX6_count_76 : decode cX6_count 76 = .ok (.aload_n 0, 1) := by decide +kernel
theorem dX6_count_77 : decode cX6_count 77 = .ok (.getfield 10, 3) := by decide +kernel
theorem dX6_count_80 : decode cX6_count 80 = .ok (.getfield 190, 3) := by decide +kernel
theorem dX6_count_83 : decode cX6_count 83 = .ok (.ireturn, 1) := by decide +kernel
theorem dX6_count_84 : decode cX6_count 84 = .ok (.aload_n 0, 1) := by decide +kernel
theorem dX6_count_85 : decode cX6_count 85 = .ok (.getfield 10, 3) := by decide +kernel
theorem dX6_count_88 : decode cX6_count 88 = .ok (.getfield 193, 3) := by decide +kernel
theorem dX6_count_91 : decode cX6_count 91 = .ok (.ireturn, 1) := by decide +kernel
theorem dX6_count_92 : decode cX6_count 92 = .ok (.aload_n 0, 1) := by decide +kernel
theorem dX6_count_93 : decode cX6_count 93 = .ok (.getfield 10, 3) := by decide +kernel
theorem dX6_count_96 : decode cX6_count 96 = .ok (.getfield 196, 3) := by decide +kernel
theorem dX6_count_99 : decode cX6_count 99 = .ok (.ireturn, 1) := by decide +kernel
theorem dX6_count_100 : decode cX6_count 100 = .ok (.aload_n 0, 1) := by decide +kernel
theorem dX6_count_101 : decode cX6_count 101 = .ok (.getfield 10, 3) := by decide +kernel
theorem dX6_count_104 : decode cX6_count 104 = .ok (.getfield 199, 3) := by decide +kernel
theorem dX6_count_107 : decode cX6_count 107 = .ok (.ireturn, 1) := by decide +kernel
theorem dX6_count_108 : decode cX6_count 108 = .ok (.aload_n 0, 1) := by decide +kernel
theorem dX6_count_109 : decode cX6_count 109 = .ok (.getfield 10, 3) := by decide +kernel
theorem dX6_count_112 : decode cX6_count 112 = .ok (.getfield 202, 3) := by decide +kernel
theorem dX6_count_115 : decode cX6_count 115 = .ok (.ireturn, 1) := by decide +kernel
theorem dX6_count_116 : decode cX6_count 116 = .ok (.aload_n 0, 1) := by decide +kernel
theorem dX6_count_117 : decode cX6_count 117 = .ok (.getfield 10, 3) := by decide +kernel
theorem dX6_count_120 : decode cX6_count 120 = .ok (.getfield 205, 3) := by decide +kernel
theorem dX6_count_123 : decode cX6_count 123 = .ok (.ireturn, 1) := by decide +kernel
theorem dX6_count_124 : decode cX6_count 124 = .ok (.aload_n 0, 1) := by decide +kernel
theorem dX6_count_125 : decode cX6_count 125 = .ok (.getfield 10, 3) := by decide +kernel
theorem dX6_count_128 : decode cX6_count 128 = .ok (.getfield 208, 3) := by decide +kernel
theorem dX6_count_131 : decode cX6_count 131 = .ok (.ireturn, 1) := by decide +kernel
theorem dX6_count_132 : decode cX6_count 132 = .ok (.aload_n 0, 1) := by decide +kernel
theorem dX6_count_133 : decode cX6_count 133 = .ok (.getfield 19, 3) := by decide +kernel
theorem dX6_count_136 : decode cX6_count 136 = .ok (.getfield 211, 3) := by decide +kernel
theorem dX6_count_139 : decode cX6_count 139 = .ok (.ireturn, 1) := by decide +kernel
theorem dX6_count_140 : decode cX6_count 140 = .ok (.aload_n 0, 1) := by decide +kernel
theorem dX6_count_141 : decode cX6_count 141 = .ok (.getfield 26, 3) := by decide +kernel
theorem dX6_count_144 : decode cX6_count 144 = .ok (.getfield 214, 3) := by decide +kernel
theorem dX6_count_147 : decode cX6_count 147 = .ok (.ireturn, 1) := by decide +kernel
theorem dX6_count_148 : decode cX6_count 148 = .ok (.iload_n 1, 1) := by decide +kernel
theorem dX6_count_149 : decode cX6_count 149 = .ok (.bipush 20, 2) := by decide +kernel
theorem dX6_count_151 : decode cX6_count 151 = .ok (.isub, 1) := by decide +kernel
theorem dX6_count_152 : decode cX6_count 152 = .ok (.invokestatic 100, 3) := by decide +kernel
theorem dX6_count_155 : decode cX6_count 155 = .ok (.ifCond .eq 20, 3) := by decide +kernel
theorem dX6_count_158 : decode cX6_count 158 = .ok (.aload_n 0, 1) := by decide +kernel
theorem dX6_count_159 : decode cX6_count 159 = .ok (.getfield 10, 3) := by decide +kernel
theorem dX6_count_162 : decode cX6_count 162 = .ok (.getfield 86, 3) := by decide +kernel
theorem dX6_count_165 : decode cX6_count 165 = .ok (.iload_n 1, 1) := by decide +kernel
theorem dX6_count_166 : decode cX6_count 166 = .ok (.bipush 20, 2) := by decide +kernel
theorem dX6_count_168 : decode cX6_count 168 = .ok (.isub, 1) := by decide +kernel
theorem dX6_count_169 : decode cX6_count 169 = .ok (.invokevirtual 109, 3) := by decide +kernel
theorem dX6_count_172 : decode cX6_count 172 = .ok (.goto 5, 3) := by decide +kernel
theorem dX6_count_175 : decode cX6_count 175 = .ok (.ldc 48, 2) := by decide +kernel
theorem dX6_count_177 : decode cX6_count 177 = .ok (.ireturn, 1) := by decide +kernel
theorem dX6_isWithin_0 : decode cX6_isWithin 0 = .ok (.iload_n 0, 1) := by decide +kernel
theorem dX6_isWithin_1 : decode cX6_isWithin 1 = .ok (.iload_n 1, 1) := by decide +kernel
theorem dX6_isWithin_2 : decode cX6_isWithin 2 = .ok (.if_icmp .lt 12, 3) := by decide +kernel
theorem dX6_isWithin_5 : decode cX6_isWithin 5 = .ok (.iload_n 0, 1) := by decide +kernel
theorem dX6_isWithin_6 : decode cX6_isWithin 6 = .ok (.iload_n 2, 1) := by decide +kernel
theorem dX6_isWithin_7 : decode cX6_isWithin 7 = .ok (.if_icmp .gt 7, 3) := by decide +kernel
theorem dX6_isWithin_10 : decode cX6_isWithin 10 = .ok (.iconst 1, 1) := by decide +kernel
theorem dX6_isWithin_11 : decode cX6_isWithin 11 = .ok (.goto 4, 3) := by decide +kernel
theorem dX6_isWithin_14 : decode cX6_isWithin 14 = .ok (.iconst 0, 1) := by decide +kernel
theorem dX6_isWithin_15 : decode cX6_isWithin 15 = .ok (.ireturn, 1) := by decide +kernel
theorem dX6_isPlace_0 : decode cX6_isPlace 0 = .ok (.iload_n 0, 1) := by decide +kernel
theorem dX6_isPlace_1 : decode cX6_isPlace 1 = .ok (.ifCond .lt 13, 3) := by decide +kernel
theorem dX6_isPlace_4 : decode cX6_isPlace 4 = .ok (.iload_n 0, 1) := by decide +kernel
theorem dX6_isPlace_5 : decode cX6_isPlace 5 = .ok (.bipush 64, 2) := by decide +kernel
theorem dX6_isPlace_7 : decode cX6_isPlace 7 = .ok (.if_icmp .ge 7, 3) := by decide +kernel
theorem dX6_isPlace_10 : decode cX6_isPlace 10 = .ok (.iconst 1, 1) := by decide +kernel
theorem dX6_isPlace_11 : decode cX6_isPlace 11 = .ok (.goto 4, 3) := by decide +kernel
theorem dX6_isPlace_14 : decode cX6_isPlace 14 = .ok (.iconst 0, 1) := by decide +kernel
theorem dX6_isPlace_15 : decode cX6_isPlace 15 = .ok (.ireturn, 1) := by decide +kernel
theorem dX6_isLine_0 : decode cX6_isLine 0 = .ok (.iload_n 0, 1) := by decide +kernel
theorem dX6_isLine_1 : decode cX6_isLine 1 = .ok (.ifCond .lt 13, 3) := by decide +kernel
theorem dX6_isLine_4 : decode cX6_isLine 4 = .ok (.iload_n 0, 1) := by decide +kernel
theorem dX6_isLine_5 : decode cX6_isLine 5 = .ok (.bipush 8, 2) := by decide +kernel
theorem dX6_isLine_7 : decode cX6_isLine 7 = .ok (.if_icmp .ge 7, 3) := by decide +kernel
theorem dX6_isLine_10 : decode cX6_isLine 10 = .ok (.iconst 1, 1) := by decide +kernel
theorem dX6_isLine_11 : decode cX6_isLine 11 = .ok (.goto 4, 3) := by decide +kernel
theorem dX6_isLine_14 : decode cX6_isLine 14 = .ok (.iconst 0, 1) := by decide +kernel
theorem dX6_isLine_15 : decode cX6_isLine 15 = .ok (.ireturn, 1) := by decide +kernel
theorem dX6_isSetting_0 : decode cX6_isSetting 0 = .ok (.iload_n 0, 1) := by decide +kernel
theorem dX6_isSetting_1 : decode cX6_isSetting 1 = .ok (.ifCond .lt 12, 3) := by decide +kernel
theorem dX6_isSetting_4 : decode cX6_isSetting 4 = .ok (.iload_n 0, 1) := by decide +kernel
theorem dX6_isSetting_5 : decode cX6_isSetting 5 = .ok (.iconst 4, 1) := by decide +kernel
theorem dX6_isSetting_6 : decode cX6_isSetting 6 = .ok (.if_icmp .ge 7, 3) := by decide +kernel
theorem dX6_isSetting_9 : decode cX6_isSetting 9 = .ok (.iconst 1, 1) := by decide +kernel
theorem dX6_isSetting_10 : decode cX6_isSetting 10 = .ok (.goto 4, 3) := by decide +kernel
theorem dX6_isSetting_13 : decode cX6_isSetting 13 = .ok (.iconst 0, 1) := by decide +kernel
theorem dX6_isSetting_14 : decode cX6_isSetting 14 = .ok (.ireturn, 1) := by decide +kernel
theorem dX6_copyRow_0 : decode cX6_copyRow 0 = .ok (.aload_n 0, 1) := by decide +kernel
theorem dX6_copyRow_1 : decode cX6_copyRow 1 = .ok (.iconst 0, 1) := by decide +kernel
theorem dX6_copyRow_2 : decode cX6_copyRow 2 = .ok (.aload_n 1, 1) := by decide +kernel
theorem dX6_copyRow_3 : decode cX6_copyRow 3 = .ok (.iconst 0, 1) := by decide +kernel
theorem dX6_copyRow_4 : decode cX6_copyRow 4 = .ok (.aload_n 0, 1) := by decide +kernel
theorem dX6_copyRow_5 : decode cX6_copyRow 5 = .ok (.arraylength, 1) := by decide +kernel
theorem dX6_copyRow_6 : decode cX6_copyRow 6 = .ok (.aload_n 1, 1) := by decide +kernel
theorem dX6_copyRow_7 : decode cX6_copyRow 7 = .ok (.arraylength, 1) := by decide +kernel
theorem dX6_copyRow_8 : decode cX6_copyRow 8 = .ok (.invokestatic 253, 3) := by decide +kernel
theorem dX6_copyRow_11 : decode cX6_copyRow 11 = .ok (.invokestatic 256, 3) := by decide +kernel
theorem dX6_copyRow_14 : decode cX6_copyRow 14 = .ok (.return_, 1) := by decide +kernel
theorem dJ6_bitCount_0f7a4_0 : decode cJ6_bitCount_0f7a4 0 = .ok (.iload_n 0, 1) := by decide +kernel
theorem dJ6_bitCount_0f7a4_1 : decode cJ6_bitCount_0f7a4 1 = .ok (.iload_n 0, 1) := by decide +kernel
theorem dJ6_bitCount_0f7a4_2 : decode cJ6_bitCount_0f7a4 2 = .ok (.iconst 1, 1) := by decide +kernel
theorem dJ6_bitCount_0f7a4_3 : decode cJ6_bitCount_0f7a4 3 = .ok (.iushr, 1) := by decide +kernel
theorem dJ6_bitCount_0f7a4_4 : decode cJ6_bitCount_0f7a4 4 = .ok (.ldc_w 265, 3) := by decide +kernel
theorem dJ6_bitCount_0f7a4_7 : decode cJ6_bitCount_0f7a4 7 = .ok (.iand, 1) := by decide +kernel
theorem dJ6_bitCount_0f7a4_8 : decode cJ6_bitCount_0f7a4 8 = .ok (.isub, 1) := by decide +kernel
theorem dJ6_bitCount_0f7a4_9 : decode cJ6_bitCount_0f7a4 9 = .ok (.istore_n 0, 1) := by decide +kernel
theorem dJ6_bitCount_0f7a4_10 : decode cJ6_bitCount_0f7a4 10 = .ok (.iload_n 0, 1) := by decide +kernel
theorem dJ6_bitCount_0f7a4_11 : decode cJ6_bitCount_0f7a4 11 = .ok (.ldc_w 266, 3) := by decide +kernel
theorem dJ6_bitCount_0f7a4_14 : decode cJ6_bitCount_0f7a4 14 = .ok (.iand, 1) := by decide +kernel
theorem dJ6_bitCount_0f7a4_15 : decode cJ6_bitCount_0f7a4 15 = .ok (.iload_n 0, 1) := by decide +kernel
theorem dJ6_bitCount_0f7a4_16 : decode cJ6_bitCount_0f7a4 16 = .ok (.iconst 2, 1) := by decide +kernel
theorem dJ6_bitCount_0f7a4_17 : decode cJ6_bitCount_0f7a4 17 = .ok (.iushr, 1) := by decide +kernel
theorem dJ6_bitCount_0f7a4_18 : decode cJ6_bitCount_0f7a4 18 = .ok (.ldc_w 266, 3) := by decide +kernel
theorem dJ6_bitCount_0f7a4_21 : decode cJ6_bitCount_0f7a4 21 = .ok (.iand, 1) := by decide +kernel
theorem dJ6_bitCount_0f7a4_22 : decode cJ6_bitCount_0f7a4 22 = .ok (.iadd, 1) := by decide +kernel
theorem dJ6_bitCount_0f7a4_23 : decode cJ6_bitCount_0f7a4 23 = .ok (.istore_n 0, 1) := by decide +kernel
theorem dJ6_bitCount_0f7a4_24 : decode cJ6_bitCount_0f7a4 24 = .ok (.iload_n 0, 1) := by decide +kernel
theorem dJ6_bitCount_0f7a4_25 : decode cJ6_bitCount_0f7a4 25 = .ok (.iload_n 0, 1) := by decide +kernel
theorem dJ6_bitCount_0f7a4_26 : decode cJ6_bitCount_0f7a4 26 = .ok (.iconst 4, 1) := by decide +kernel
theorem dJ6_bitCount_0f7a4_27 : decode cJ6_bitCount_0f7a4 27 = .ok (.iushr, 1) := by decide +kernel
theorem dJ6_bitCount_0f7a4_28 : decode cJ6_bitCount_0f7a4 28 = .ok (.iadd, 1) := by decide +kernel
theorem dJ6_bitCount_0f7a4_29 : decode cJ6_bitCount_0f7a4 29 = .ok (.ldc_w 267, 3) := by decide +kernel
theorem dJ6_bitCount_0f7a4_32 : decode cJ6_bitCount_0f7a4 32 = .ok (.iand, 1) := by decide +kernel
theorem dJ6_bitCount_0f7a4_33 : decode cJ6_bitCount_0f7a4 33 = .ok (.istore_n 0, 1) := by decide +kernel
theorem dJ6_bitCount_0f7a4_34 : decode cJ6_bitCount_0f7a4 34 = .ok (.iload_n 0, 1) := by decide +kernel
theorem dJ6_bitCount_0f7a4_35 : decode cJ6_bitCount_0f7a4 35 = .ok (.iload_n 0, 1) := by decide +kernel
theorem dJ6_bitCount_0f7a4_36 : decode cJ6_bitCount_0f7a4 36 = .ok (.bipush 8, 2) := by decide +kernel
theorem dJ6_bitCount_0f7a4_38 : decode cJ6_bitCount_0f7a4 38 = .ok (.iushr, 1) := by decide +kernel
theorem dJ6_bitCount_0f7a4_39 : decode cJ6_bitCount_0f7a4 39 = .ok (.iadd, 1) := by decide +kernel
theorem dJ6_bitCount_0f7a4_40 : decode cJ6_bitCount_0f7a4 40 = .ok (.istore_n 0, 1) := by decide +kernel
theorem dJ6_bitCount_0f7a4_41 : decode cJ6_bitCount_0f7a4 41 = .ok (.iload_n 0, 1) := by decide +kernel
theorem dJ6_bitCount_0f7a4_42 : decode cJ6_bitCount_0f7a4 42 = .ok (.iload_n 0, 1) := by decide +kernel
theorem dJ6_bitCount_0f7a4_43 : decode cJ6_bitCount_0f7a4 43 = .ok (.bipush 16, 2) := by decide +kernel
theorem dJ6_bitCount_0f7a4_45 : decode cJ6_bitCount_0f7a4 45 = .ok (.iushr, 1) := by decide +kernel
theorem dJ6_bitCount_0f7a4_46 : decode cJ6_bitCount_0f7a4 46 = .ok (.iadd, 1) := by decide +kernel
theorem dJ6_bitCount_0f7a4_47 : decode cJ6_bitCount_0f7a4 47 = .ok (.istore_n 0, 1) := by decide +kernel
theorem dJ6_bitCount_0f7a4_48 : decode cJ6_bitCount_0f7a4 48 = .ok (.iload_n 0, 1) := by decide +kernel
theorem dJ6_bitCount_0f7a4_49 : decode cJ6_bitCount_0f7a4 49 = .ok (.bipush 63, 2) := by decide +kernel
theorem dJ6_bitCount_0f7a4_51 : decode cJ6_bitCount_0f7a4 51 = .ok (.iand, 1) := by decide +kernel
theorem dJ6_bitCount_0f7a4_52 : decode cJ6_bitCount_0f7a4 52 = .ok (.ireturn, 1) := by decide +kernel
theorem dJ9_max_7cf53_0 : decode cJ9_max_7cf53 0 = .ok (.iload_n 0, 1) := by decide +kernel
theorem dJ9_max_7cf53_1 : decode cJ9_max_7cf53 1 = .ok (.iload_n 1, 1) := by decide +kernel
theorem dJ9_max_7cf53_2 : decode cJ9_max_7cf53 2 = .ok (.if_icmp .lt 7, 3) := by decide +kernel
theorem dJ9_max_7cf53_5 : decode cJ9_max_7cf53 5 = .ok (.iload_n 0, 1) := by decide +kernel
theorem dJ9_max_7cf53_6 : decode cJ9_max_7cf53 6 = .ok (.goto 4, 3) := by decide +kernel
theorem dJ9_max_7cf53_9 : decode cJ9_max_7cf53 9 = .ok (.iload_n 1, 1) := by decide +kernel
theorem dJ9_max_7cf53_10 : decode cJ9_max_7cf53 10 = .ok (.ireturn, 1) := by decide +kernel
theorem dJ9_min_7cf53_0 : decode cJ9_min_7cf53 0 = .ok (.iload_n 0, 1) := by decide +kernel
theorem dJ9_min_7cf53_1 : decode cJ9_min_7cf53 1 = .ok (.iload_n 1, 1) := by decide +kernel
theorem dJ9_min_7cf53_2 : decode cJ9_min_7cf53 2 = .ok (.if_icmp .gt 7, 3) := by decide +kernel
theorem dJ9_min_7cf53_5 : decode cJ9_min_7cf53 5 = .ok (.iload_n 0, 1) := by decide +kernel
theorem dJ9_min_7cf53_6 : decode cJ9_min_7cf53 6 = .ok (.goto 4, 3) := by decide +kernel
theorem dJ9_min_7cf53_9 : decode cJ9_min_7cf53 9 = .ok (.iload_n 1, 1) := by decide +kernel
theorem dJ9_min_7cf53_10 : decode cJ9_min_7cf53 10 = .ok (.ireturn, 1) := by decide +kernel
