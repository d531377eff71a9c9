theorem dX7_init_0 : decode cX7_init 0 = .ok (.aload_n 0, 1) := by decide +kernel
theorem dX7_init_1 : decode cX7_init 1 = .ok (.invokespecial 1, 3) := by decide +kernel
theorem dX7_init_4 : decode cX7_init 4 = .ok (.aload_n 0, 1) := by decide +kernel
theorem dX7_init_5 : decode cX7_init 5 = .ok (.sipush 180, 3) := by decide +kernel
theorem dX7_init_8 : decode cX7_init 8 = .ok (.newarray .int, 2) := by decide +kernel
theorem dX7_init_10 : decode cX7_init 10 = .ok (.putfield 7, 3) := by decide +kernel
theorem dX7_init_13 : decode cX7_init 13 = .ok (.aload_n 0, 1) := by decide +kernel
theorem dX7_init_14 : decode cX7_init 14 = .ok (.sipush 180, 3) := by decide +kernel
theorem dX7_init_17 : decode cX7_init 17 = .ok (.newarray .int, 2) := by decide +kernel
theorem dX7_init_19 : decode cX7_init 19 = .ok (.putfield 13, 3) := by decide +kernel
theorem dX7_init_22 : decode cX7_init 22 = .ok (.aload_n 0, 1) := by decide +kernel
theorem dX7_init_23 : decode cX7_init 23 = .ok (.sipush 720, 3) := by decide +kernel
theorem dX7_init_26 : decode cX7_init 26 = .ok (.newarray .int, 2) := by decide +kernel
theorem dX7_init_28 : decode cX7_init 28 = .ok (.putfield 16, 3) := by decide +kernel
theorem dX7_init_31 : decode cX7_init 31 = .ok (.aload_n 0, 1) := by decide +kernel
theorem dX7_init_32 : decode cX7_init 32 = .ok (.bipush 60, 2) := by decide +kernel
theorem dX7_init_34 : decode cX7_init 34 = .ok (.newarray .int, 2) := by decide +kernel
theorem dX7_init_36 : decode cX7_init 36 = .ok (.putfield 19, 3) := by decide +kernel
theorem dX7_init_39 : decode cX7_init 39 = .ok (.aload_n 0, 1) := by decide +kernel
theorem dX7_init_40 : decode cX7_init 40 = .ok (.getfield 7, 3) := by decide +kernel
theorem dX7_init_43 : decode cX7_init 43 = .ok (.sipush 160, 3) := by decide +kernel
theorem dX7_init_46 : decode cX7_init 46 = .ok (.sipush 1000, 3) := by decide +kernel
theorem dX7_init_49 : decode cX7_init 49 = .ok (.iastore, 1) := by decide +kernel
theorem dX7_init_50 : decode cX7_init 50 = .ok (.aload_n 0, 1) := by decide +kernel
theorem dX7_init_51 : decode cX7_init 51 = .ok (.getfield 7, 3) := by decide +kernel
theorem dX7_init_54 : decode cX7_init 54 = .ok (.sipush 163, 3) := by decide +kernel
theorem dX7_init_57 : decode cX7_init 57 = .ok (.iconst 1, 1) := by decide +kernel
theorem dX7_init_58 : decode cX7_init 58 = .ok (.iastore, 1) := by decide +kernel
theorem dX7_init_59 : decode cX7_init 59 = .ok (.aload_n 0, 1) := by decide +kernel
theorem dX7_init_60 : decode cX7_init 60 = .ok (.getfield 7, 3) := by decide +kernel
theorem dX7_init_63 : decode cX7_init 63 = .ok (.sipush 174, 3) := by decide +kernel
theorem dX7_init_66 : decode cX7_init 66 = .ok (.bipush 100, 2) := by decide +kernel
theorem dX7_init_68 : decode cX7_init 68 = .ok (.iastore, 1) := by decide +kernel
theorem dX7_init_69 : decode cX7_init 69 = .ok (.aload_n 0, 1) := by decide +kernel
theorem dX7_init_70 : decode cX7_init 70 = .ok (.getfield 7, 3) := by decide +kernel
theorem dX7_init_73 : decode cX7_init 73 = .ok (.sipush 175, 3) := by decide +kernel
theorem dX7_init_76 : decode cX7_init 76 = .ok (.bipush 100, 2) := by decide +kernel
theorem dX7_init_78 : decode cX7_init 78 = .ok (.iastore, 1) := by decide +kernel
theorem dX7_init_79 : decode cX7_init 79 = .ok (.aload_n 0, 1) := by decide +kernel
theorem dX7_init_80 : decode cX7_init 80 = .ok (.getfield 7, 3) := by decide +kernel
theorem dX7_init_83 : decode cX7_init 83 = .ok (.sipush 176, 3) := by decide +kernel
theorem dX7_init_86 : decode cX7_init 86 = .ok (.bipush 20, 2) := by decide +kernel
theorem dX7_init_88 : decode cX7_init 88 = .ok (.iastore, 1) := by decide +kernel
theorem dX7_init_89 : decode cX7_init 89 = .ok (.aload_n 0, 1) := by decide +kernel
theorem dX7_init_90 : decode cX7_init 90 = .ok (.getfield 7, 3) := by decide +kernel
theorem dX7_init_93 : decode cX7_init 93 = .ok (.sipush 177, 3) := by decide +kernel
theorem dX7_init_96 : decode cX7_init 96 = .ok (.sipush 200, 3) := by decide +kernel
theorem dX7_init_99 : decode cX7_init 99 = .ok (.iastore, 1) := by decide +kernel
theorem dX7_init_100 : decode cX7_init 100 = .ok (.return_, 1) := by decide +kernel
theorem dX7_in_0 : decode cX7_in 0 = .ok (.lload_n 0, 1) := by decide +kernel
theorem dX7_in_1 : decode cX7_in 1 = .ok (.lload_n 2, 1) := by decide +kernel
theorem dX7_in_2 : decode cX7_in 2 = .ok (.lcmp, 1) := by decide +kernel
theorem dX7_in_3 : decode cX7_in 3 = .ok (.ifCond .lt 14, 3) := by decide +kernel
theorem dX7_in_6 : decode cX7_in 6 = .ok (.lload_n 0, 1) := by decide +kernel
theorem dX7_in_7 : decode cX7_in 7 = .ok (.lload 4, 2) := by decide +kernel
theorem dX7_in_9 : decode cX7_in 9 = .ok (.lcmp, 1) := by decide +kernel
theorem dX7_in_10 : decode cX7_in 10 = .ok (.ifCond .gt 7, 3) := by decide +kernel
theorem dX7_in_13 : decode cX7_in 13 = .ok (.iconst 1, 1) := by decide +kernel
theorem dX7_in_14 : decode cX7_in 14 = .ok (.goto 4, 3) := by decide +kernel
theorem dX7_in_17 : decode cX7_in 17 = .ok (.iconst 0, 1) := by decide +kernel
theorem dX7_in_18 : decode cX7_in 18 = .ok (.ireturn, 1) := by decide +kernel
theorem dX7_keep_0 : decode cX7_keep 0 = .ok (.iconst 0, 1) := by decide +kernel
theorem dX7_keep_1 : decode cX7_keep 1 = .ok (.istore_n 1, 1) := by decide +kernel
theorem dX7_keep_2 : decode cX7_keep 2 = .ok (.iload_n 1, 1) := by decide +kernel
theorem dX7_keep_3 : decode cX7_keep 3 = .ok (.sipush 180, 3) := by decide +kernel
theorem dX7_keep_6 : decode cX7_keep 6 = .ok (.if_icmp .ge 21, 3) := by decide +kernel
theorem dX7_keep_9 : decode cX7_keep 9 = .ok (.aload_n 0, 1) := by decide +kernel
theorem dX7_keep_10 : decode cX7_keep 10 = .ok (.getfield 13, 3) := by decide +kernel
theorem dX7_keep_13 : decode cX7_keep 13 = .ok (.iload_n 1, 1) := by decide +kernel
theorem dX7_keep_14 : decode cX7_keep 14 = .ok (.aload_n 0, 1) := by decide +kernel
theorem dX7_keep_15 : decode cX7_keep 15 = .ok (.getfield 7, 3) := by decide +kernel
theorem dX7_keep_18 : decode cX7_keep 18 = .ok (.iload_n 1, 1) := by decide +kernel
theorem dX7_keep_19 : decode cX7_keep 19 = .ok (.iaload, 1) := by decide +kernel
theorem dX7_keep_20 : decode cX7_keep 20 = .ok (.iastore, 1) := by decide +kernel
theorem dX7_keep_21 : decode cX7_keep 21 = .ok (.iinc 1 1, 3) := by decide +kernel
theorem dX7_keep_24 : decode cX7_keep 24 = .ok (.goto (-22), 3) := by decide +kernel
theorem dX7_keep_27 : decode cX7_keep 27 = .ok (.return_, 1) := by decide +kernel
theorem dX7_giveBack_0 : decode cX7_giveBack 0 = .ok (.iconst 0, 1) := by decide +kernel
theorem dX7_giveBack_1 : decode cX7_giveBack 1 = .ok (.istore_n 1, 1) := by decide +kernel
theorem dX7_giveBack_2 : decode cX7_giveBack 2 = .ok (.iload_n 1, 1) := by decide +kernel
theorem dX7_giveBack_3 : decode cX7_giveBack 3 = .ok (.sipush 180, 3) := by decide +kernel
theorem dX7_giveBack_6 : decode cX7_giveBack 6 = .ok (.if_icmp .ge 21, 3) := by decide +kernel
theorem dX7_giveBack_9 : decode cX7_giveBack 9 = .ok (.aload_n 0, 1) := by decide +kernel
theorem dX7_giveBack_10 : decode cX7_giveBack 10 = .ok (.getfield 7, 3) := by decide +kernel
theorem dX7_giveBack_13 : decode cX7_giveBack 13 = .ok (.iload_n 1, 1) := by decide +kernel
theorem dX7_giveBack_14 : decode cX7_giveBack 14 = .ok (.aload_n 0, 1) := by decide +kernel
theorem dX7_giveBack_15 : decode cX7_giveBack 15 = .ok (.getfield 13, 3) := by decide +kernel
theorem dX7_giveBack_18 : decode cX7_giveBack 18 = .ok (.iload_n 1, 1) := by decide +kernel
theorem dX7_giveBack_19 : decode cX7_giveBack 19 = .ok (.iaload, 1) := by decide +kernel
theorem dX7_giveBack_20 : decode cX7_giveBack 20 = .ok (.iastore, 1) := by decide +kernel
theorem dX7_giveBack_21 : decode cX7_giveBack 21 = .ok (.iinc 1 1, 3) := by decide +kernel
theorem dX7_giveBack_24 : decode cX7_giveBack 24 = .ok (.goto (-22), 3) := by decide +kernel
theorem dX7_giveBack_27 : decode cX7_giveBack 27 = .ok (.return_, 1) := by decide +kernel
theorem dX7_changed_0 : decode cX7_changed 0 = .ok (.iload_n 1, 1) := by decide +kernel
theorem dX7_changed_1 : decode cX7_changed 1 = .ok (.ldc 22, 2) := by decide +kernel
theorem dX7_changed_3 : decode cX7_changed 3 = .ok (.if_icmp .ge 5, 3) := by decide +kernel
theorem dX7_changed_6 : decode cX7_changed 6 = .ok (.iload_n 1, 1) := by decide +kernel
theorem dX7_changed_7 : decode cX7_changed 7 = .ok (.ireturn, 1) := by decide +kernel
theorem dX7_changed_8 : decode cX7_changed 8 = .ok (.aload_n 0, 1) := by decide +kernel
theorem dX7_changed_9 : decode cX7_changed 9 = .ok (.getfield 23, 3) := by decide +kernel
theorem dX7_changed_12 : decode cX7_changed 12 = .ok (.iconst 4, 1) := by decide +kernel
theorem dX7_changed_13 : decode cX7_changed 13 = .ok (.if_icmp .ne 44, 3) := by decide +kernel
theorem dX7_changed_16 : decode cX7_changed 16 = .ok (.iconst 0, 1) := by decide +kernel
theorem dX7_changed_17 : decode cX7_changed 17 = .ok (.istore_n 2, 1) := by decide +kernel
theorem dX7_changed_18 : decode cX7_changed 18 = .ok (.iload_n 2, 1) := by decide +kernel
theorem dX7_changed_19 : decode cX7_changed 19 = .ok (.sipush 540, 3) := by decide +kernel
theorem dX7_changed_22 : decode cX7_changed 22 = .ok (.if_icmp .ge 25, 3) := by decide +kernel
theorem dX7_changed_25 : decode cX7_changed 25 = .ok (.aload_n 0, 1) := by decide +kernel
theorem dX7_changed_26 : decode cX7_changed 26 = .ok (.getfield 16, 3) := by decide +kernel
theorem dX7_changed_29 : decode cX7_changed 29 = .ok (.iload_n 2, 1) := by decide +kernel
theorem dX7_changed_30 : decode cX7_changed 30 = .ok (.aload_n 0, 1) := by decide +kernel
theorem dX7_changed_31 : decode cX7_changed 31 = .ok (.getfield 16, 3) := by decide +kernel
theorem dX7_changed_34 : decode cX7_changed 34 = .ok (.iload_n 2, 1) := by decide +kernel
theorem dX7_changed_35 : decode cX7_changed 35 = .ok (.sipush 180, 3) := by decide +kernel
theorem dX7_changed_38 : decode cX7_changed 38 = .ok (.iadd, 1) := by decide +kernel
theorem dX7_changed_39 : decode cX7_changed 39 = .ok (.iaload, 1) := by decide +kernel
theorem dX7_changed_40 : decode cX7_changed 40 = .ok (.iastore, 1) := by decide +kernel
theorem dX7_changed_41 : decode cX7_changed 41 = .ok (.iinc 2 1, 3) := by decide +kernel
theorem dX7_changed_44 : decode cX7_changed 44 = .ok (.goto (-26), 3) := by decide +kernel
theorem dX7_changed_47 : decode cX7_changed 47 = .ok (.aload_n 0, 1) := by decide +kernel
theorem dX7_changed_48 : decode cX7_changed 48 = .ok (.dup, 1) := by decide +kernel
theorem dX7_changed_49 : decode cX7_changed 49 = .ok (.getfield 23, 3) := by decide +kernel
theorem dX7_changed_52 : decode cX7_changed 52 = .ok (.iconst 1, 1) := by decide +kernel
theorem dX7_changed_53 : decode cX7_changed 53 = .ok (.isub, 1) := by decide +kernel
theorem dX7_changed_54 : decode cX7_changed 54 = .ok (.putfield 23, 3) := by decide +kernel
theorem dX7_changed_57 : decode cX7_changed 57 = .ok (.iconst 0, 1) := by decide +kernel
theorem dX7_changed_58 : decode cX7_changed 58 = .ok (.istore_n 2, 1) := by decide +kernel
theorem dX7_changed_59 : decode cX7_changed 59 = .ok (.iload_n 2, 1) := by decide +kernel
theorem dX7_changed_60 : decode cX7_changed 60 = .ok (.sipush 180, 3) := by decide +kernel
theorem dX7_changed_63 : decode cX7_changed 63 = .ok (.if_icmp .ge 30, 3) := by decide +kernel
theorem dX7_changed_66 : decode cX7_changed 66 = .ok (.aload_n 0, 1) := by decide +kernel
theorem dX7_changed_67 : decode cX7_changed 67 = .ok (.getfield 16, 3) := by decide +kernel
theorem dX7_changed_70 : decode cX7_changed 70 = .ok (.sipush 180, 3) := by decide +kernel
theorem dX7_changed_73 : decode cX7_changed 73 = .ok (.aload_n 0, 1) := by decide +kernel
theorem dX7_changed_74 : decode cX7_changed 74 = .ok (.getfield 23, 3) := by decide +kernel
theorem dX7_changed_77 : decode cX7_changed 77 = .ok (.imul, 1) := by decide +kernel
theorem dX7_changed_78 : decode cX7_changed 78 = .ok (.iload_n 2, 1) := by decide +kernel
theorem dX7_changed_79 : decode cX7_changed 79 = .ok (.iadd, 1) := by decide +kernel
theorem dX7_changed_80 : decode cX7_changed 80 = .ok (.aload_n 0, 1) := by decide +kernel
theorem dX7_changed_81 : decode cX7_changed 81 = .ok (.getfield 13, 3) := by decide +kernel
theorem dX7_changed_84 : decode cX7_changed 84 = .ok (.iload_n 2, 1) := by decide +kernel
theorem dX7_changed_85 : decode cX7_changed 85 = .ok (.iaload, 1) := by decide +kernel
theorem dX7_changed_86 : decode cX7_changed 86 = .ok (.iastore, 1) := by decide +kernel
theorem dX7_changed_87 : decode cX7_changed 87 = .ok (.iinc 2 1, 3) := by decide +kernel
theorem dX7_changed_90 : decode cX7_changed 90 = .ok (.goto (-31), 3) := by decide +kernel
theorem dX7_changed_93 : decode cX7_changed 93 = .ok (.aload_n 0, 1) := by decide +kernel
theorem dX7_changed_94 : decode cX7_changed 94 = .ok (.dup, 1) := by decide +kernel
theorem dX7_changed_95 : decode cX7_changed 95 = .ok (.getfield 23, 3) := by decide +kernel
theorem dX7_changed_98 : decode cX7_changed 98 = .ok (.iconst 1, 1) := by decide +kernel
theorem dX7_changed_99 : decode cX7_changed 99 = .ok (.iadd, 1) := by decide +kernel
theorem dX7_changed_100 : decode cX7_changed 100 = .ok (.putfield 23, 3) := by decide +kernel
theorem dX7_changed_103 : decode cX7_changed 103 = .ok (.iload_n 1, 1) := by decide +kernel
theorem dX7_changed_104 : decode cX7_changed 104 = .ok (.ireturn, 1) := by decide +kernel
theorem dX7_counts_0 : decode cX7_counts 0 = .ok (.aload_n 0, 1) := by decide +kernel
theorem dX7_counts_1 : decode cX7_counts 1 = .ok (.getfield 7, 3) := by decide +kernel
theorem dX7_counts_4 : decode cX7_counts 4 = .ok (.sipush 164, 3) := by decide +kernel
theorem dX7_counts_7 : decode cX7_counts 7 = .ok (.iload_n 1, 1) := by decide +kernel
theorem dX7_counts_8 : decode cX7_counts 8 = .ok (.iadd, 1) := by decide +kernel
theorem dX7_counts_9 : decode cX7_counts 9 = .ok (.dup2, 1) := by decide +kernel
theorem dX7_counts_10 : decode cX7_counts 10 = .ok (.iaload, 1) := by decide +kernel
theorem dX7_counts_11 : decode cX7_counts 11 = .ok (.iconst 1, 1) := by decide +kernel
theorem dX7_counts_12 : decode cX7_counts 12 = .ok (.iadd, 1) := by decide +kernel
theorem dX7_counts_13 : decode cX7_counts 13 = .ok (.iastore, 1) := by decide +kernel
theorem dX7_counts_14 : decode cX7_counts 14 = .ok (.return_, 1) := by decide +kernel
theorem dX7_setting_0 : decode cX7_setting 0 = .ok (.aload_n 0, 1) := by decide +kernel
theorem dX7_setting_1 : decode cX7_setting 1 = .ok (.getfield 7, 3) := by decide +kernel
theorem dX7_setting_4 : decode cX7_setting 4 = .ok (.sipush 174, 3) := by decide +kernel
theorem dX7_setting_7 : decode cX7_setting 7 = .ok (.iload_n 1, 1) := by decide +kernel
theorem dX7_setting_8 : decode cX7_setting 8 = .ok (.iadd, 1) := by decide +kernel
theorem dX7_setting_9 : decode cX7_setting 9 = .ok (.iaload, 1) := by decide +kernel
theorem dX7_setting_10 : decode cX7_setting 10 = .ok (.ireturn, 1) := by decide +kernel
set_option maxRecDepth 20000 in
theorem ggX7_isPlace_X7_in : GoodIn wsX7_isPlace wsX7_in := goodIn_r _ [5] (by decide +kernel) (by decide +kernel)
set_option maxRecDepth 20000 in
theorem gX7_isPlace_X7_in : GoodIn wsX7_isPlace (va_wsS RX7 29 yX7_in wsX7_in) := goodIn_app (goodIn_of _ (by decide +kernel)) ggX7_isPlace_X7_in
theorem dX7_isPlace_0 : decode cX7_isPlace 0 = .ok (.iload_n 0, 1) := by decide +kernel
theorem dX7_isPlace_1 : decode cX7_isPlace 1 = .ok (.i2l, 1) := by decide +kernel
theorem dX7_isPlace_2 : decode cX7_isPlace 2 = .ok (.lconst 0, 1) := by decide +kernel
theorem dX7_isPlace_3 : decode cX7_isPlace 3 = .ok (.ldc2_w 27, 3) := by decide +kernel
theorem dX7_isPlace_6 : decode cX7_isPlace 6 = .ok (.invokestatic 29, 3) := by decide +kernel
theorem dX7_isPlace_9 : decode cX7_isPlace 9 = .ok (.ireturn, 1) := by decide +kernel
set_option maxRecDepth 20000 in
theorem ggX7_isLine_X7_in : GoodIn wsX7_isLine wsX7_in := goodIn_r _ [5] (by decide +kernel) (by decide +kernel)
set_option maxRecDepth 20000 in
theorem gX7_isLine_X7_in : GoodIn wsX7_isLine (va_wsS RX7 29 yX7_in wsX7_in) := goodIn_app (goodIn_of _ (by decide +kernel)) ggX7_isLine_X7_in
theorem dX7_isLine_0 : decode cX7_isLine 0 = .ok (.iload_n 0, 1) := by decide +kernel
theorem dX7_isLine_1 : decode cX7_isLine 1 = .ok (.i2l, 1) := by decide +kernel
theorem dX7_isLine_2 : decode cX7_isLine 2 = .ok (.lconst 0, 1) := by decide +kernel
theorem dX7_isLine_3 : decode cX7_isLine 3 = .ok (.ldc2_w 33, 3) := by decide +kernel
theorem dX7_isLine_6 : decode cX7_isLine 6 = .ok (.invokestatic 29, 3) := by decide +kernel
theorem dX7_isLine_9 : decode cX7_isLine 9 = .ok (.ireturn, 1) := by decide +kernel
theorem dX7_many_0 : decode cX7_many 0 = .ok (.iconst 0, 1) := by decide +kernel
theorem dX7_many_1 : decode cX7_many 1 = .ok (.istore_n 2, 1) := by decide +kernel
theorem dX7_many_2 : decode cX7_many 2 = .ok (.iconst 0, 1) := by decide +kernel
theorem dX7_many_3 : decode cX7_many 3 = .ok (.istore_n 3, 1) := by decide +kernel
theorem dX7_many_4 : decode cX7_many 4 = .ok (.iload_n 3, 1) := by decide +kernel
theorem dX7_many_5 : decode cX7_many 5 = .ok (.bipush 8, 2) := by decide +kernel
theorem dX7_many_7 : decode cX7_many 7 = .ok (.if_icmp .ge 31, 3) := by decide +kernel
theorem dX7_many_10 : decode cX7_many 10 = .ok (.iload_n 2, 1) := by decide +kernel
theorem dX7_many_11 : decode cX7_many 11 = .ok (.aload_n 0, 1) := by decide +kernel
theorem dX7_many_12 : decode cX7_many 12 = .ok (.getfield 7, 3) := by decide +kernel
theorem dX7_many_15 : decode cX7_many 15 = .ok (.sipush 128, 3) := by decide +kernel
theorem dX7_many_18 : decode cX7_many 18 = .ok (.iload_n 3, 1) := by decide +kernel
theorem dX7_many_19 : decode cX7_many 19 = .ok (.iadd, 1) := by decide +kernel
theorem dX7_many_20 : decode cX7_many 20 = .ok (.iaload, 1) := by decide +kernel
theorem dX7_many_21 : decode cX7_many 21 = .ok (.iload_n 1, 1) := by decide +kernel
theorem dX7_many_22 : decode cX7_many 22 = .ok (.if_icmp .ne 7, 3) := by decide +kernel
theorem dX7_many_25 : decode cX7_many 25 = .ok (.iconst 1, 1) := by decide +kernel
theorem dX7_many_26 : decode cX7_many 26 = .ok (.goto 4, 3) := by decide +kernel
theorem dX7_many_29 : decode cX7_many 29 = .ok (.iconst 0, 1) := by decide +kernel
theorem dX7_many_30 : decode cX7_many 30 = .ok (.iadd, 1) := by decide +kernel
theorem dX7_many_31 : decode cX7_many 31 = .ok (.istore_n 2, 1) := by decide +kernel
theorem dX7_many_32 : decode cX7_many 32 = .ok (.iinc 3 1, 3) := by decide +kernel
theorem dX7_many_35 : decode cX7_many 35 = .ok (.goto (-31), 3) := by decide +kernel
theorem dX7_many_38 : decode cX7_many 38 = .ok (.iload_n 2, 1) := by decide +kernel
theorem dX7_many_39 : decode cX7_many 39 = .ok (.ireturn, 1) := by decide +kernel
theorem dX7_oldest_0 : decode cX7_oldest 0 = .ok (.iconst (-1), 1) := by decide +kernel
theorem dX7_oldest_1 : decode cX7_oldest 1 = .ok (.istore_n 2, 1) := by decide +kernel
theorem dX7_oldest_2 : decode cX7_oldest 2 = .ok (.iconst 0, 1) := by decide +kernel
theorem dX7_oldest_3 : decode cX7_oldest 3 = .ok (.istore_n 3, 1) := by decide +kernel
theorem dX7_oldest_4 : decode cX7_oldest 4 = .ok (.iload_n 3, 1) := by decide +kernel
theorem dX7_oldest_5 : decode cX7_oldest 5 = .ok (.bipush 8, 2) := by decide +kernel
theorem dX7_oldest_7 : decode cX7_oldest 7 = .ok (.if_icmp .ge 57, 3) := by decide +kernel
theorem dX7_oldest_10 : decode cX7_oldest 10 = .ok (.aload_n 0, 1) := by decide +kernel
theorem dX7_oldest_11 : decode cX7_oldest 11 = .ok (.getfield 7, 3) := by decide +kernel
theorem dX7_oldest_14 : decode cX7_oldest 14 = .ok (.sipush 128, 3) := by decide +kernel
theorem dX7_oldest_17 : decode cX7_oldest 17 = .ok (.iload_n 3, 1) := by decide +kernel
theorem dX7_oldest_18 : decode cX7_oldest 18 = .ok (.iadd, 1) := by decide +kernel
theorem dX7_oldest_19 : decode cX7_oldest 19 = .ok (.iaload, 1) := by decide +kernel
theorem dX7_oldest_20 : decode cX7_oldest 20 = .ok (.iload_n 1, 1) := by decide +kernel
theorem dX7_oldest_21 : decode cX7_oldest 21 = .ok (.if_icmp .ne 35, 3) := by decide +kernel
theorem dX7_oldest_24 : decode cX7_oldest 24 = .ok (.iload_n 2, 1) := by decide +kernel
theorem dX7_oldest_25 : decode cX7_oldest 25 = .ok (.iconst (-1), 1) := by decide +kernel
theorem dX7_oldest_26 : decode cX7_oldest 26 = .ok (.if_icmp .eq 26, 3) := by decide +kernel
theorem dX7_oldest_29 : decode cX7_oldest 29 = .ok (.aload_n 0, 1) := by decide +kernel
theorem dX7_oldest_30 : decode cX7_oldest 30 = .ok (.getfield 7, 3) := by decide +kernel
theorem dX7_oldest_33 : decode cX7_oldest 33 = .ok (.sipush 152, 3) := by decide +kernel
theorem dX7_oldest_36 : decode cX7_oldest 36 = .ok (.iload_n 3, 1) := by decide +kernel
theorem dX7_oldest_37 : decode cX7_oldest 37 = .ok (.iadd, 1) := by decide +kernel
theorem dX7_oldest_38 : decode cX7_oldest 38 = .ok (.iaload, 1) := by decide +kernel
theorem dX7_oldest_39 : decode cX7_oldest 39 = .ok (.aload_n 0, 1) := by decide +kernel
theorem dX7_oldest_40 : decode cX7_oldest 40 = .ok (.getfield 7, 3) := by decide +kernel
theorem dX7_oldest_43 : decode cX7_oldest 43 = .ok (.sipush 152, 3) := by decide +kernel
theorem dX7_oldest_46 : decode cX7_oldest 46 = .ok (.iload_n 2, 1) := by decide +kernel
theorem dX7_oldest_47 : decode cX7_oldest 47 = .ok (.iadd, 1) := by decide +kernel
theorem dX7_oldest_48 : decode cX7_oldest 48 = .ok (.iaload, 1) := by decide +kernel
theorem dX7_oldest_49 : decode cX7_oldest 49 = .ok (.if_icmp .ge 7, 3) := by decide +kernel
theorem dX7_oldest_52 : decode cX7_oldest 52 = .ok (.iload_n 3, 1) := by decide +kernel
theorem dX7_oldest_53 : decode cX7_oldest 53 = .ok (.goto 4, 3) := by decide +kernel
theorem dX7_oldest_56 : decode cX7_oldest 56 = .ok (.iload_n 2, 1) := by decide +kernel
theorem dX7_oldest_57 : decode cX7_oldest 57 = .ok (.istore_n 2, 1) := by decide +kernel
theorem dX7_oldest_58 : decode cX7_oldest 58 = .ok (.iinc 3 1, 3) := by decide +kernel
theorem dX7_oldest_61 : decode cX7_oldest 61 = .ok (.goto (-57), 3) := by decide +kernel
theorem dX7_oldest_64 : decode cX7_oldest 64 = .ok (.iload_n 2, 1) := by decide +kernel
theorem dX7_oldest_65 : decode cX7_oldest 65 = .ok (.ireturn, 1) := by decide +kernel
theorem dX7_holder_0 : decode cX7_holder 0 = .ok (.iconst 0, 1) := by decide +kernel
theorem dX7_holder_1 : decode cX7_holder 1 = .ok (.istore_n 2, 1) := by decide +kernel
theorem dX7_holder_2 : decode cX7_holder 2 = .ok (.iload_n 2, 1) := by decide +kernel
theorem dX7_holder_3 : decode cX7_holder 3 = .ok (.bipush 8, 2) := by decide +kernel
theorem dX7_holder_5 : decode cX7_holder 5 = .ok (.if_icmp .ge 38, 3) := by decide +kernel
theorem dX7_holder_8 : decode cX7_holder 8 = .ok (.aload_n 0, 1) := by decide +kernel
theorem dX7_holder_9 : decode cX7_holder 9 = .ok (.getfield 7, 3) := by decide +kernel
theorem dX7_holder_12 : decode cX7_holder 12 = .ok (.sipush 128, 3) := by decide +kernel
theorem dX7_holder_15 : decode cX7_holder 15 = .ok (.iload_n 2, 1) := by decide +kernel
theorem dX7_holder_16 : decode cX7_holder 16 = .ok (.iadd, 1) := by decide +kernel
theorem dX7_holder_17 : decode cX7_holder 17 = .ok (.iaload, 1) := by decide +kernel
theorem dX7_holder_18 : decode cX7_holder 18 = .ok (.ifCond .eq 19, 3) := by decide +kernel
theorem dX7_holder_21 : decode cX7_holder 21 = .ok (.aload_n 0, 1) := by decide +kernel
theorem dX7_holder_22 : decode cX7_holder 22 = .ok (.getfield 7, 3) := by decide +kernel
theorem dX7_holder_25 : decode cX7_holder 25 = .ok (.sipush 136, 3) := by decide +kernel
theorem dX7_holder_28 : decode cX7_holder 28 = .ok (.iload_n 2, 1) := by decide +kernel
theorem dX7_holder_29 : decode cX7_holder 29 = .ok (.iadd, 1) := by decide +kernel
theorem dX7_holder_30 : decode cX7_holder 30 = .ok (.iaload, 1) := by decide +kernel
theorem dX7_holder_31 : decode cX7_holder 31 = .ok (.iload_n 1, 1) := by decide +kernel
theorem dX7_holder_32 : decode cX7_holder 32 = .ok (.if_icmp .ne 5, 3) := by decide +kernel
theorem dX7_holder_35 : decode cX7_holder 35 = .ok (.iload_n 2, 1) := by decide +kernel
theorem dX7_holder_36 : decode cX7_holder 36 = .ok (.ireturn, 1) := by decide +kernel
theorem dX7_holder_37 : decode cX7_holder 37 = .ok (.iinc 2 1, 3) := by decide +kernel
theorem dX7_holder_40 : decode cX7_holder 40 = .ok (.goto (-38), 3) := by decide +kernel
theorem dX7_holder_43 : decode cX7_holder 43 = .ok (.iconst (-1), 1) := by decide +kernel
theorem dX7_holder_44 : decode cX7_holder 44 = .ok (.ireturn, 1) := by decide +kernel
set_option maxRecDepth 20000 in
theorem ggX7_lays_X7_counts : GoodIn wsX7_lays wsX7_counts := goodIn_r _ [6, 1, 7, 8, 9, 10, 11, 12, 13, 14, 15, 16, 17, 18, 19, 20] (by decide +kernel) (by decide +kernel)
set_option maxRecDepth 20000 in
theorem gX7_lays_X7_counts : GoodIn wsX7_lays (wsV RX7 35 RX7 yX7_counts wsX7_counts) := goodIn_app (goodIn_of _ (by decide +kernel)) ggX7_lays_X7_counts
theorem dX7_lays_0 : decode cX7_lays 0 = .ok (.aload_n 0, 1) := by decide +kernel
theorem dX7_lays_1 : decode cX7_lays 1 = .ok (.getfield 7, 3) := by decide +kernel
theorem dX7_lays_4 : decode cX7_lays 4 = .ok (.iconst 0, 1) := by decide +kernel
theorem dX7_lays_5 : decode cX7_lays 5 = .ok (.iload_n 1, 1) := by decide +kernel
theorem dX7_lays_6 : decode cX7_lays 6 = .ok (.iadd, 1) := by decide +kernel
theorem dX7_lays_7 : decode cX7_lays 7 = .ok (.iload_n 2, 1) := by decide +kernel
theorem dX7_lays_8 : decode cX7_lays 8 = .ok (.iastore, 1) := by decide +kernel
theorem dX7_lays_9 : decode cX7_lays 9 = .ok (.aload_n 0, 1) := by decide +kernel
theorem dX7_lays_10 : decode cX7_lays 10 = .ok (.getfield 7, 3) := by decide +kernel
theorem dX7_lays_13 : decode cX7_lays 13 = .ok (.bipush 64, 2) := by decide +kernel
theorem dX7_lays_15 : decode cX7_lays 15 = .ok (.iload_n 1, 1) := by decide +kernel
theorem dX7_lays_16 : decode cX7_lays 16 = .ok (.iadd, 1) := by decide +kernel
theorem dX7_lays_17 : decode cX7_lays 17 = .ok (.dup2, 1) := by decide +kernel
theorem dX7_lays_18 : decode cX7_lays 18 = .ok (.iaload, 1) := by decide +kernel
theorem dX7_lays_19 : decode cX7_lays 19 = .ok (.iconst 1, 1) := by decide +kernel
theorem dX7_lays_20 : decode cX7_lays 20 = .ok (.iadd, 1) := by decide +kernel
theorem dX7_lays_21 : decode cX7_lays 21 = .ok (.iastore, 1) := by decide +kernel
theorem dX7_lays_22 : decode cX7_lays 22 = .ok (.aload_n 0, 1) := by decide +kernel
theorem dX7_lays_23 : decode cX7_lays 23 = .ok (.bipush 8, 2) := by decide +kernel
theorem dX7_lays_25 : decode cX7_lays 25 = .ok (.invokevirtual 35, 3) := by decide +kernel
theorem dX7_lays_28 : decode cX7_lays 28 = .ok (.return_, 1) := by decide +kernel
set_option maxRecDepth 20000 in
theorem ggX7_flushes_X7_lays : GoodIn wsX7_flushes wsX7_lays := goodIn_r _ [6, 1, 7, 8, 9, 5, 10, 11, 12, 13, 14, 15, 16, 17, 18, 19, 20, 21, 22, 23, 24] (by decide +kernel) (by decide +kernel)
set_option maxRecDepth 20000 in
theorem gX7_flushes_X7_lays : GoodIn wsX7_flushes (wsV RX7 39 RX7 yX7_lays wsX7_lays) := goodIn_app (goodIn_of _ (by decide +kernel)) ggX7_flushes_X7_lays
set_option maxRecDepth 20000 in
theorem ggX7_flushes_X7_counts : GoodIn wsX7_flushes wsX7_counts := goodIn_r _ [10, 1, 11, 12, 13, 14, 15, 16, 17, 18, 19, 20, 21, 22, 23, 24] (by decide +kernel) (by decide +kernel)
set_option maxRecDepth 20000 in
theorem gX7_flushes_X7_counts : GoodIn wsX7_flushes (wsV RX7 35 RX7 yX7_counts wsX7_counts) := goodIn_app (goodIn_of _ (by decide +kernel)) ggX7_flushes_X7_counts
theorem dX7_flushes_0 : decode cX7_flushes 0 = .ok (.aload_n 0, 1) := by decide +kernel
theorem dX7_flushes_1 : decode cX7_flushes 1 = .ok (.aload_n 0, 1) := by decide +kernel
theorem dX7_flushes_2 : decode cX7_flushes 2 = .ok (.getfield 7, 3) := by decide +kernel
theorem dX7_flushes_5 : decode cX7_flushes 5 = .ok (.sipush 136, 3) := by decide +kernel
theorem dX7_flushes_8 : decode cX7_flushes 8 = .ok (.iload_n 1, 1) := by decide +kernel
theorem dX7_flushes_9 : decode cX7_flushes 9 = .ok (.iadd, 1) := by decide +kernel
theorem dX7_flushes_10 : decode cX7_flushes 10 = .ok (.iaload, 1) := by decide +kernel
theorem dX7_flushes_11 : decode cX7_flushes 11 = .ok (.aload_n 0, 1) := by decide +kernel
theorem dX7_flushes_12 : decode cX7_flushes 12 = .ok (.getfield 7, 3) := by decide +kernel
theorem dX7_flushes_15 : decode cX7_flushes 15 = .ok (.sipush 144, 3) := by decide +kernel
theorem dX7_flushes_18 : decode cX7_flushes 18 = .ok (.iload_n 1, 1) := by decide +kernel
theorem dX7_flushes_19 : decode cX7_flushes 19 = .ok (.iadd, 1) := by decide +kernel
theorem dX7_flushes_20 : decode cX7_flushes 20 = .ok (.iaload, 1) := by decide +kernel
theorem dX7_flushes_21 : decode cX7_flushes 21 = .ok (.invokevirtual 39, 3) := by decide +kernel
theorem dX7_flushes_24 : decode cX7_flushes 24 = .ok (.aload_n 0, 1) := by decide +kernel
theorem dX7_flushes_25 : decode cX7_flushes 25 = .ok (.getfield 7, 3) := by decide +kernel
theorem dX7_flushes_28 : decode cX7_flushes 28 = .ok (.sipush 128, 3) := by decide +kernel
theorem dX7_flushes_31 : decode cX7_flushes 31 = .ok (.iload_n 1, 1) := by decide +kernel
theorem dX7_flushes_32 : decode cX7_flushes 32 = .ok (.iadd, 1) := by decide +kernel
theorem dX7_flushes_33 : decode cX7_flushes 33 = .ok (.iconst 1, 1) := by decide +kernel
theorem dX7_flushes_34 : decode cX7_flushes 34 = .ok (.iastore, 1) := by decide +kernel
theorem dX7_flushes_35 : decode cX7_flushes 35 = .ok (.aload_n 0, 1) := by decide +kernel
theorem dX7_flushes_36 : decode cX7_flushes 36 = .ok (.iconst 3, 1) := by decide +kernel
theorem dX7_flushes_37 : decode cX7_flushes 37 = .ok (.invokevirtual 35, 3) := by decide +kernel
theorem dX7_flushes_40 : decode cX7_flushes 40 = .ok (.return_, 1) := by decide +kernel
set_option maxRecDepth 20000 in
theorem ggX7_allowance_X7_setting : GoodIn wsX7_allowance wsX7_setting := goodIn_r _ [6, 1, 7, 8, 9, 10, 11, 12, 13, 14, 15, 16, 17, 18, 19, 20] (by decide +kernel) (by decide +kernel)
set_option maxRecDepth 20000 in
theorem gX7_allowance_X7_setting : GoodIn wsX7_allowance (wsV RX7 43 RX7 yX7_setting wsX7_setting) := goodIn_app (goodIn_of _ (by decide +kernel)) ggX7_allowance_X7_setting
theorem dX7_allowance_0 : decode cX7_allowance 0 = .ok (.aload_n 0, 1) := by decide +kernel
theorem dX7_allowance_1 : decode cX7_allowance 1 = .ok (.getfield 7, 3) := by decide +kernel
theorem dX7_allowance_4 : decode cX7_allowance 4 = .ok (.sipush 162, 3) := by decide +kernel
theorem dX7_allowance_7 : decode cX7_allowance 7 = .ok (.iaload, 1) := by decide +kernel
theorem dX7_allowance_8 : decode cX7_allowance 8 = .ok (.ifCond .ne 19, 3) := by decide +kernel
theorem dX7_allowance_11 : decode cX7_allowance 11 = .ok (.aload_n 0, 1) := by decide +kernel
theorem dX7_allowance_12 : decode cX7_allowance 12 = .ok (.getfield 7, 3) := by decide +kernel
theorem dX7_allowance_15 : decode cX7_allowance 15 = .ok (.sipush 160, 3) := by decide +kernel
theorem dX7_allowance_18 : decode cX7_allowance 18 = .ok (.iaload, 1) := by decide +kernel
theorem dX7_allowance_19 : decode cX7_allowance 19 = .ok (.aload_n 0, 1) := by decide +kernel
theorem dX7_allowance_20 : decode cX7_allowance 20 = .ok (.iconst 1, 1) := by decide +kernel
theorem dX7_allowance_21 : decode cX7_allowance 21 = .ok (.invokevirtual 43, 3) := by decide +kernel
theorem dX7_allowance_24 : decode cX7_allowance 24 = .ok (.if_icmp .ge 5, 3) := by decide +kernel
theorem dX7_allowance_27 : decode cX7_allowance 27 = .ok (.iconst 0, 1) := by decide +kernel
theorem dX7_allowance_28 : decode cX7_allowance 28 = .ok (.ireturn, 1) := by decide +kernel
theorem dX7_allowance_29 : decode cX7_allowance 29 = .ok (.aload_n 0, 1) := by decide +kernel
theorem dX7_allowance_30 : decode cX7_allowance 30 = .ok (.getfield 7, 3) := by decide +kernel
theorem dX7_allowance_33 : decode cX7_allowance 33 = .ok (.sipush 160, 3) := by decide +kernel
theorem dX7_allowance_36 : decode cX7_allowance 36 = .ok (.iaload, 1) := by decide +kernel
theorem dX7_allowance_37 : decode cX7_allowance 37 = .ok (.aload_n 0, 1) := by decide +kernel
theorem dX7_allowance_38 : decode cX7_allowance 38 = .ok (.iconst 1, 1) := by decide +kernel
theorem dX7_allowance_39 : decode cX7_allowance 39 = .ok (.invokevirtual 43, 3) := by decide +kernel
theorem dX7_allowance_42 : decode cX7_allowance 42 = .ok (.isub, 1) := by decide +kernel
theorem dX7_allowance_43 : decode cX7_allowance 43 = .ok (.aload_n 0, 1) := by decide +kernel
theorem dX7_allowance_44 : decode cX7_allowance 44 = .ok (.iconst 0, 1) := by decide +kernel
theorem dX7_allowance_45 : decode cX7_allowance 45 = .ok (.invokevirtual 43, 3) := by decide +kernel
theorem dX7_allowance_48 : decode cX7_allowance 48 = .ok (.idiv, 1) := by decide +kernel
theorem dX7_allowance_49 : decode cX7_allowance 49 = .ok (.istore_n 1, 1) := by decide +kernel
theorem dX7_allowance_50 : decode cX7_allowance 50 = .ok (.iload_n 1, 1) := by decide +kernel
theorem dX7_allowance_51 : decode cX7_allowance 51 = .ok (.bipush 8, 2) := by decide +kernel
theorem dX7_allowance_53 : decode cX7_allowance 53 = .ok (.if_icmp .le 8, 3) := by decide +kernel
theorem dX7_allowance_56 : decode cX7_allowance 56 = .ok (.bipush 8, 2) := by decide +kernel
theorem dX7_allowance_58 : decode cX7_allowance 58 = .ok (.goto 4, 3) := by decide +kernel
theorem dX7_allowance_61 : decode cX7_allowance 61 = .ok (.iload_n 1, 1) := by decide +kernel
theorem dX7_allowance_62 : decode cX7_allowance 62 = .ok (.ireturn, 1) := by decide +kernel
set_option maxRecDepth 20000 in
theorem ggX7_flushesToo_X7_many : GoodIn wsX7_flushesToo wsX7_many := goodIn_r _ [5, 6, 31, 32, 33, 34, 35, 36, 37, 38, 39, 40, 41, 42, 43, 44] (by decide +kernel) (by decide +kernel)
set_option maxRecDepth 20000 in
theorem gX7_flushesToo_X7_many : GoodIn wsX7_flushesToo (wsV RX7 47 RX7 yX7_many wsX7_many) := goodIn_app (goodIn_of _ (by decide +kernel)) ggX7_flushesToo_X7_many
set_option maxRecDepth 20000 in
theorem ggX7_flushesToo_X7_allowance : GoodIn wsX7_flushesToo wsX7_allowance := goodIn_r _ [10, 6, 11, 12, 13, 4, 14, 31, 32, 33, 34, 35, 36, 37, 38, 39, 40, 41, 42, 43, 44] (by decide +kernel) (by decide +kernel)
set_option maxRecDepth 20000 in
theorem gX7_flushesToo_X7_allowance : GoodIn wsX7_flushesToo (wsV RX7 50 RX7 yX7_allowance wsX7_allowance) := goodIn_app (goodIn_of _ (by decide +kernel)) ggX7_flushesToo_X7_allowance
set_option maxRecDepth 20000 in
theorem ggX7_flushesToo_X7_oldest : GoodIn wsX7_flushesToo wsX7_oldest := goodIn_r _ [18, 6, 31, 32, 33, 34, 35, 36, 37, 38, 39, 40, 41, 42, 43, 44] (by decide +kernel) (by decide +kernel)
set_option maxRecDepth 20000 in
theorem gX7_flushesToo_X7_oldest : GoodIn wsX7_flushesToo (wsV RX7 54 RX7 yX7_oldest wsX7_oldest) := goodIn_app (goodIn_of _ (by decide +kernel)) ggX7_flushesToo_X7_oldest
set_option maxRecDepth 20000 in
theorem ggX7_flushesToo_X7_flushes : GoodIn wsX7_flushesToo wsX7_flushes := goodIn_r _ [22, 6, 23, 24, 25, 4, 26, 27, 28, 29, 30, 31, 32, 33, 34, 35, 36, 37, 38, 39, 40, 41, 42, 43, 44] (by decide +kernel) (by decide +kernel)
set_option maxRecDepth 20000 in
theorem gX7_flushesToo_X7_flushes : GoodIn wsX7_flushesToo (wsV RX7 57 RX7 yX7_flushes wsX7_flushes) := goodIn_app (goodIn_of _ (by decide +kernel)) ggX7_flushesToo_X7_flushes
theorem dX7_flushesToo_0 : decode cX7_flushesToo 0 = .ok (.iconst 0, 1) := by decide +kernel
theorem dX7_flushesToo_1 : decode cX7_flushesToo 1 = .ok (.istore_n 1, 1) := by decide +kernel
theorem dX7_flushesToo_2 : decode cX7_flushesToo 2 = .ok (.aload_n 0, 1) := by decide +kernel
theorem dX7_flushesToo_3 : decode cX7_flushesToo 3 = .ok (.iconst 2, 1) := by decide +kernel
theorem dX7_flushesToo_4 : decode cX7_flushesToo 4 = .ok (.invokevirtual 47, 3) := by decide +kernel
theorem dX7_flushesToo_7 : decode cX7_flushesToo 7 = .ok (.aload_n 0, 1) := by decide +kernel
theorem dX7_flushesToo_8 : decode cX7_flushesToo 8 = .ok (.invokevirtual 50, 3) := by decide +kernel
theorem dX7_flushesToo_11 : decode cX7_flushesToo 11 = .ok (.if_icmp .le 18, 3) := by decide +kernel
theorem dX7_flushesToo_14 : decode cX7_flushesToo 14 = .ok (.aload_n 0, 1) := by decide +kernel
theorem dX7_flushesToo_15 : decode cX7_flushesToo 15 = .ok (.aload_n 0, 1) := by decide +kernel
theorem dX7_flushesToo_16 : decode cX7_flushesToo 16 = .ok (.iconst 2, 1) := by decide +kernel
theorem dX7_flushesToo_17 : decode cX7_flushesToo 17 = .ok (.invokevirtual 54, 3) := by decide +kernel
theorem dX7_flushesToo_20 : decode cX7_flushesToo 20 = .ok (.invokevirtual 57, 3) := by decide +kernel
theorem dX7_flushesToo_23 : decode cX7_flushesToo 23 = .ok (.iinc 1 1, 3) := by decide +kernel
theorem dX7_flushesToo_26 : decode cX7_flushesToo 26 = .ok (.goto (-24), 3) := by decide +kernel
theorem dX7_flushesToo_29 : decode cX7_flushesToo 29 = .ok (.iload_n 1, 1) := by decide +kernel
theorem dX7_flushesToo_30 : decode cX7_flushesToo 30 = .ok (.ireturn, 1) := by decide +kernel
theorem dX7_turns_0 : decode cX7_turns 0 = .ok (.aload_n 0, 1) := by decide +kernel
theorem dX7_turns_1 : decode cX7_turns 1 = .ok (.getfield 7, 3) := by decide +kernel
theorem dX7_turns_4 : decode cX7_turns 4 = .ok (.sipush 152, 3) := by decide +kernel
theorem dX7_turns_7 : decode cX7_turns 7 = .ok (.iload_n 1, 1) := by decide +kernel
theorem dX7_turns_8 : decode cX7_turns 8 = .ok (.iadd, 1) := by decide +kernel
theorem dX7_turns_9 : decode cX7_turns 9 = .ok (.aload_n 0, 1) := by decide +kernel
theorem dX7_turns_10 : decode cX7_turns 10 = .ok (.getfield 7, 3) := by decide +kernel
theorem dX7_turns_13 : decode cX7_turns 13 = .ok (.sipush 163, 3) := by decide +kernel
theorem dX7_turns_16 : decode cX7_turns 16 = .ok (.iaload, 1) := by decide +kernel
theorem dX7_turns_17 : decode cX7_turns 17 = .ok (.iastore, 1) := by decide +kernel
theorem dX7_turns_18 : decode cX7_turns 18 = .ok (.aload_n 0, 1) := by decide +kernel
theorem dX7_turns_19 : decode cX7_turns 19 = .ok (.getfield 7, 3) := by decide +kernel
theorem dX7_turns_22 : decode cX7_turns 22 = .ok (.sipush 163, 3) := by decide +kernel
theorem dX7_turns_25 : decode cX7_turns 25 = .ok (.dup2, 1) := by decide +kernel
theorem dX7_turns_26 : decode cX7_turns 26 = .ok (.iaload, 1) := by decide +kernel
theorem dX7_turns_27 : decode cX7_turns 27 = .ok (.iconst 1, 1) := by decide +kernel
theorem dX7_turns_28 : decode cX7_turns 28 = .ok (.iadd, 1) := by decide +kernel
theorem dX7_turns_29 : decode cX7_turns 29 = .ok (.iastore, 1) := by decide +kernel
theorem dX7_turns_30 : decode cX7_turns 30 = .ok (.return_, 1) := by decide +kernel
set_option maxRecDepth 20000 in
theorem ggX7_touches_X7_holder : GoodIn wsX7_touches wsX7_holder := goodIn_r _ [6, 1, 27, 28, 29, 30, 31, 32, 33, 34, 35, 36, 37, 38, 39, 40] (by decide +kernel) (by decide +kernel)
set_option maxRecDepth 20000 in
theorem gX7_touches_X7_holder : GoodIn wsX7_touches (wsV RX7 60 RX7 yX7_holder wsX7_holder) := goodIn_app (goodIn_of _ (by decide +kernel)) ggX7_touches_X7_holder
set_option maxRecDepth 20000 in
theorem ggX7_touches_X7_counts : GoodIn wsX7_touches wsX7_counts := goodIn_r _ [10, 1, 27, 28, 29, 30, 31, 32, 33, 34, 35, 36, 37, 38, 39, 40] (by decide +kernel) (by decide +kernel)
set_option maxRecDepth 20000 in
theorem gX7_touches_X7_counts : GoodIn wsX7_touches (wsV RX7 35 RX7 yX7_counts wsX7_counts) := goodIn_app (goodIn_of _ (by decide +kernel)) ggX7_touches_X7_counts
set_option maxRecDepth 20000 in
theorem ggX7_touches_X7_oldest : GoodIn wsX7_touches wsX7_oldest := goodIn_r _ [14, 1, 27, 28, 29, 30, 31, 32, 33, 34, 35, 36, 37, 38, 39, 40] (by decide +kernel) (by decide +kernel)
set_option maxRecDepth 20000 in
theorem gX7_touches_X7_oldest : GoodIn wsX7_touches (wsV RX7 54 RX7 yX7_oldest wsX7_oldest) := goodIn_app (goodIn_of _ (by decide +kernel)) ggX7_touches_X7_oldest
set_option maxRecDepth 20000 in
theorem ggX7_touches_X7_flushes : GoodIn wsX7_touches wsX7_flushes := goodIn_r _ [18, 1, 19, 20, 21, 5, 22, 7, 8, 9, 10, 27, 28, 29, 30, 31, 32, 33, 34, 35, 36, 37, 38, 39, 40] (by decide +kernel) (by decide +kernel)
set_option maxRecDepth 20000 in
theorem gX7_touches_X7_flushes : GoodIn wsX7_touches (wsV RX7 57 RX7 yX7_flushes wsX7_flushes) := goodIn_app (goodIn_of _ (by decide +kernel)) ggX7_touches_X7_flushes
set_option maxRecDepth 20000 in
theorem ggX7_touches_X7_turns : GoodIn wsX7_touches wsX7_turns := goodIn_r _ [26, 1, 27, 28, 29, 30, 31, 32, 33, 34, 35, 36, 37, 38, 39, 40] (by decide +kernel) (by decide +kernel)
set_option maxRecDepth 20000 in
theorem gX7_touches_X7_turns : GoodIn wsX7_touches (wsV RX7 63 RX7 yX7_turns wsX7_turns) := goodIn_app (goodIn_of _ (by decide +kernel)) ggX7_touches_X7_turns
theorem dX7_touches_0 : decode cX7_touches 0 = .ok (.aload_n 0, 1) := by decide +kernel
theorem dX7_touches_1 : decode cX7_touches 1 = .ok (.iload_n 1, 1) := by decide +kernel
theorem dX7_touches_2 : decode cX7_touches 2 = .ok (.invokevirtual 60, 3) := by decide +kernel
theorem dX7_touches_5 : decode cX7_touches 5 = .ok (.istore_n 2, 1) := by decide +kernel
theorem dX7_touches_6 : decode cX7_touches 6 = .ok (.aload_n 0, 1) := by decide +kernel
theorem dX7_touches_7 : decode cX7_touches 7 = .ok (.iload_n 2, 1) := by decide +kernel
theorem dX7_touches_8 : decode cX7_touches 8 = .ok (.iconst (-1), 1) := by decide +kernel
theorem dX7_touches_9 : decode cX7_touches 9 = .ok (.if_icmp .ne 7, 3) := by decide +kernel
theorem dX7_touches_12 : decode cX7_touches 12 = .ok (.iconst 2, 1) := by decide +kernel
theorem dX7_touches_13 : decode cX7_touches 13 = .ok (.goto 4, 3) := by decide +kernel
theorem dX7_touches_16 : decode cX7_touches 16 = .ok (.iconst 1, 1) := by decide +kernel
theorem dX7_touches_17 : decode cX7_touches 17 = .ok (.invokevirtual 35, 3) := by decide +kernel
theorem dX7_touches_20 : decode cX7_touches 20 = .ok (.iload_n 2, 1) := by decide +kernel
theorem dX7_touches_21 : decode cX7_touches 21 = .ok (.iconst (-1), 1) := by decide +kernel
theorem dX7_touches_22 : decode cX7_touches 22 = .ok (.if_icmp .ne 102, 3) := by decide +kernel
theorem dX7_touches_25 : decode cX7_touches 25 = .ok (.iconst 0, 1) := by decide +kernel
theorem dX7_touches_26 : decode cX7_touches 26 = .ok (.istore_n 2, 1) := by decide +kernel
theorem dX7_touches_27 : decode cX7_touches 27 = .ok (.iload_n 2, 1) := by decide +kernel
theorem dX7_touches_28 : decode cX7_touches 28 = .ok (.bipush 8, 2) := by decide +kernel
theorem dX7_touches_30 : decode cX7_touches 30 = .ok (.if_icmp .ge 22, 3) := by decide +kernel
theorem dX7_touches_33 : decode cX7_touches 33 = .ok (.aload_n 0, 1) := by decide +kernel
theorem dX7_touches_34 : decode cX7_touches 34 = .ok (.getfield 7, 3) := by decide +kernel
theorem dX7_touches_37 : decode cX7_touches 37 = .ok (.sipush 128, 3) := by decide +kernel
theorem dX7_touches_40 : decode cX7_touches 40 = .ok (.iload_n 2, 1) := by decide +kernel
theorem dX7_touches_41 : decode cX7_touches 41 = .ok (.iadd, 1) := by decide +kernel
theorem dX7_touches_42 : decode cX7_touches 42 = .ok (.iaload, 1) := by decide +kernel
theorem dX7_touches_43 : decode cX7_touches 43 = .ok (.ifCond .eq 9, 3) := by decide +kernel
theorem dX7_touches_46 : decode cX7_touches 46 = .ok (.iinc 2 1, 3) := by decide +kernel
theorem dX7_touches_49 : decode cX7_touches 49 = .ok (.goto (-22), 3) := by decide +kernel
theorem dX7_touches_52 : decode cX7_touches 52 = .ok (.iload_n 2, 1) := by decide +kernel
theorem dX7_touches_53 : decode cX7_touches 53 = .ok (.bipush 8, 2) := by decide +kernel
theorem dX7_touches_55 : decode cX7_touches 55 = .ok (.if_icmp .ge 7, 3) := by decide +kernel
theorem dX7_touches_58 : decode cX7_touches 58 = .ok (.iload_n 2, 1) := by decide +kernel
theorem dX7_touches_59 : decode cX7_touches 59 = .ok (.goto 8, 3) := by decide +kernel
theorem dX7_touches_62 : decode cX7_touches 62 = .ok (.aload_n 0, 1) := by decide +kernel
theorem dX7_touches_63 : decode cX7_touches 63 = .ok (.iconst 1, 1) := by decide +kernel
theorem dX7_touches_64 : decode cX7_touches 64 = .ok (.invokevirtual 54, 3) := by decide +kernel
theorem dX7_touches_67 : decode cX7_touches 67 = .ok (.istore_n 2, 1) := by decide +kernel
theorem dX7_touches_68 : decode cX7_touches 68 = .ok (.iload_n 2, 1) := by decide +kernel
theorem dX7_touches_69 : decode cX7_touches 69 = .ok (.iconst (-1), 1) := by decide +kernel
theorem dX7_touches_70 : decode cX7_touches 70 = .ok (.if_icmp .ne 14, 3) := by decide +kernel
theorem dX7_touches_73 : decode cX7_touches 73 = .ok (.aload_n 0, 1) := by decide +kernel
theorem dX7_touches_74 : decode cX7_touches 74 = .ok (.iconst 2, 1) := by decide +kernel
theorem dX7_touches_75 : decode cX7_touches 75 = .ok (.invokevirtual 54, 3) := by decide +kernel
theorem dX7_touches_78 : decode cX7_touches 78 = .ok (.istore_n 2, 1) := by decide +kernel
theorem dX7_touches_79 : decode cX7_touches 79 = .ok (.aload_n 0, 1) := by decide +kernel
theorem dX7_touches_80 : decode cX7_touches 80 = .ok (.iload_n 2, 1) := by decide +kernel
theorem dX7_touches_81 : decode cX7_touches 81 = .ok (.invokevirtual 57, 3) := by decide +kernel
theorem dX7_touches_84 : decode cX7_touches 84 = .ok (.aload_n 0, 1) := by decide +kernel
theorem dX7_touches_85 : decode cX7_touches 85 = .ok (.getfield 7, 3) := by decide +kernel
theorem dX7_touches_88 : decode cX7_touches 88 = .ok (.sipush 128, 3) := by decide +kernel
theorem dX7_touches_91 : decode cX7_touches 91 = .ok (.iload_n 2, 1) := by decide +kernel
theorem dX7_touches_92 : decode cX7_touches 92 = .ok (.iadd, 1) := by decide +kernel
theorem dX7_touches_93 : decode cX7_touches 93 = .ok (.iconst 1, 1) := by decide +kernel
theorem dX7_touches_94 : decode cX7_touches 94 = .ok (.iastore, 1) := by decide +kernel
theorem dX7_touches_95 : decode cX7_touches 95 = .ok (.aload_n 0, 1) := by decide +kernel
theorem dX7_touches_96 : decode cX7_touches 96 = .ok (.getfield 7, 3) := by decide +kernel
theorem dX7_touches_99 : decode cX7_touches 99 = .ok (.sipush 136, 3) := by decide +kernel
theorem dX7_touches_102 : decode cX7_touches 102 = .ok (.iload_n 2, 1) := by decide +kernel
theorem dX7_touches_103 : decode cX7_touches 103 = .ok (.iadd, 1) := by decide +kernel
theorem dX7_touches_104 : decode cX7_touches 104 = .ok (.iload_n 1, 1) := by decide +kernel
theorem dX7_touches_105 : decode cX7_touches 105 = .ok (.iastore, 1) := by decide +kernel
theorem dX7_touches_106 : decode cX7_touches 106 = .ok (.aload_n 0, 1) := by decide +kernel
theorem dX7_touches_107 : decode cX7_touches 107 = .ok (.getfield 7, 3) := by decide +kernel
theorem dX7_touches_110 : decode cX7_touches 110 = .ok (.sipush 144, 3) := by decide +kernel
theorem dX7_touches_113 : decode cX7_touches 113 = .ok (.iload_n 2, 1) := by decide +kernel
theorem dX7_touches_114 : decode cX7_touches 114 = .ok (.iadd, 1) := by decide +kernel
theorem dX7_touches_115 : decode cX7_touches 115 = .ok (.aload_n 0, 1) := by decide +kernel
theorem dX7_touches_116 : decode cX7_touches 116 = .ok (.getfield 7, 3) := by decide +kernel
theorem dX7_touches_119 : decode cX7_touches 119 = .ok (.iconst 0, 1) := by decide +kernel
theorem dX7_touches_120 : decode cX7_touches 120 = .ok (.iload_n 1, 1) := by decide +kernel
theorem dX7_touches_121 : decode cX7_touches 121 = .ok (.iadd, 1) := by decide +kernel
theorem dX7_touches_122 : decode cX7_touches 122 = .ok (.iaload, 1) := by decide +kernel
theorem dX7_touches_123 : decode cX7_touches 123 = .ok (.iastore, 1) := by decide +kernel
theorem dX7_touches_124 : decode cX7_touches 124 = .ok (.aload_n 0, 1) := by decide +kernel
theorem dX7_touches_125 : decode cX7_touches 125 = .ok (.iload_n 2, 1) := by decide +kernel
theorem dX7_touches_126 : decode cX7_touches 126 = .ok (.invokevirtual 63, 3) := by decide +kernel
theorem dX7_touches_129 : decode cX7_touches 129 = .ok (.iload_n 2, 1) := by decide +kernel
theorem dX7_touches_130 : decode cX7_touches 130 = .ok (.ireturn, 1) := by decide +kernel
set_option maxRecDepth 20000 in
theorem ggX7_doRead_X7_isPlace : GoodIn wsX7_doRead wsX7_isPlace := goodIn_r _ [6, 7, 8, 9, 5, 10] (by decide +kernel) (by decide +kernel)
set_option maxRecDepth 20000 in
theorem gX7_doRead_X7_isPlace : GoodIn wsX7_doRead (va_wsS RX7 66 yX7_isPlace wsX7_isPlace) := goodIn_app (goodIn_of _ (by decide +kernel)) ggX7_doRead_X7_isPlace
set_option maxRecDepth 20000 in
theorem ggX7_doRead_X7_touches : GoodIn wsX7_doRead wsX7_touches := goodIn_r _ [14, 1, 15, 16, 17, 5, 18, 19, 20, 21, 22, 23, 24, 25, 26, 27, 28, 29, 30, 31, 32, 33, 34, 35, 36, 37, 38, 39, 40, 41, 42, 43, 44, 45, 46, 47, 48, 49, 50, 51, 52] (by decide +kernel) (by decide +kernel)
set_option maxRecDepth 20000 in
theorem gX7_doRead_X7_touches : GoodIn wsX7_doRead (wsV RX7 70 RX7 yX7_touches wsX7_touches) := goodIn_app (goodIn_of _ (by decide +kernel)) ggX7_doRead_X7_touches
theorem dX7_doRead_0 : decode cX7_doRead 0 = .ok (.iload_n 1, 1) := by decide +kernel
theorem dX7_doRead_1 : decode cX7_doRead 1 = .ok (.invokestatic 66, 3) := by decide +kernel
theorem dX7_doRead_4 : decode cX7_doRead 4 = .ok (.ifCond .eq 20, 3) := by decide +kernel
theorem dX7_doRead_7 : decode cX7_doRead 7 = .ok (.aload_n 0, 1) := by decide +kernel
theorem dX7_doRead_8 : decode cX7_doRead 8 = .ok (.getfield 7, 3) := by decide +kernel
theorem dX7_doRead_11 : decode cX7_doRead 11 = .ok (.sipush 144, 3) := by decide +kernel
theorem dX7_doRead_14 : decode cX7_doRead 14 = .ok (.aload_n 0, 1) := by decide +kernel
theorem dX7_doRead_15 : decode cX7_doRead 15 = .ok (.iload_n 1, 1) := by decide +kernel
theorem dX7_doRead_16 : decode cX7_doRead 16 = .ok (.invokevirtual 70, 3) := by decide +kernel
theorem dX7_doRead_19 : decode cX7_doRead 19 = .ok (.iadd, 1) := by decide +kernel
theorem dX7_doRead_20 : decode cX7_doRead 20 = .ok (.iaload, 1) := by decide +kernel
theorem dX7_doRead_21 : decode cX7_doRead 21 = .ok (.goto 5, 3) := by decide +kernel
theorem dX7_doRead_24 : decode cX7_doRead 24 = .ok (.ldc 73, 2) := by decide +kernel
theorem dX7_doRead_26 : decode cX7_doRead 26 = .ok (.ireturn, 1) := by decide +kernel
set_option maxRecDepth 20000 in
theorem ggX7_doWrite_X7_isPlace : GoodIn wsX7_doWrite wsX7_isPlace := goodIn_r _ [7, 8, 9, 10, 6, 11] (by decide +kernel) (by decide +kernel)
set_option maxRecDepth 20000 in
theorem gX7_doWrite_X7_isPlace : GoodIn wsX7_doWrite (va_wsS RX7 66 yX7_isPlace wsX7_isPlace) := goodIn_app (goodIn_of _ (by decide +kernel)) ggX7_doWrite_X7_isPlace
set_option maxRecDepth 20000 in
theorem ggX7_doWrite_X7_in : GoodIn wsX7_doWrite wsX7_in := goodIn_r _ [11] (by decide +kernel) (by decide +kernel)
set_option maxRecDepth 20000 in
theorem gX7_doWrite_X7_in : GoodIn wsX7_doWrite (va_wsS RX7 29 yX7_in wsX7_in) := goodIn_app (goodIn_of _ (by decide +kernel)) ggX7_doWrite_X7_in
set_option maxRecDepth 20000 in
theorem ggX7_doWrite_X7_touches : GoodIn wsX7_doWrite wsX7_touches := goodIn_r _ [15, 3, 16, 17, 18, 6, 19, 20, 21, 22, 23, 24, 25, 26, 27, 28, 29, 30, 31, 32, 33, 34, 35, 36, 37, 38, 39, 52, 53, 54, 55, 56, 57, 58, 59, 60, 61, 62, 63, 64, 65] (by decide +kernel) (by decide +kernel)
set_option maxRecDepth 20000 in
theorem gX7_doWrite_X7_touches : GoodIn wsX7_doWrite (wsV RX7 70 RX7 yX7_touches wsX7_touches) := goodIn_app (goodIn_of _ (by decide +kernel)) ggX7_doWrite_X7_touches
set_option maxRecDepth 20000 in
theorem ggX7_doWrite_X7_many : GoodIn wsX7_doWrite wsX7_many := goodIn_r _ [43, 3, 52, 53, 54, 55, 56, 57, 58, 59, 60, 61, 62, 63, 64, 65] (by decide +kernel) (by decide +kernel)
set_option maxRecDepth 20000 in
theorem gX7_doWrite_X7_many : GoodIn wsX7_doWrite (wsV RX7 47 RX7 yX7_many wsX7_many) := goodIn_app (goodIn_of _ (by decide +kernel)) ggX7_doWrite_X7_many
set_option maxRecDepth 20000 in
theorem ggX7_doWrite_X7_allowance : GoodIn wsX7_doWrite wsX7_allowance := goodIn_r _ [47, 3, 48, 49, 50, 6, 51, 52, 53, 54, 55, 56, 57, 58, 59, 60, 61, 62, 63, 64, 65] (by decide +kernel) (by decide +kernel)
set_option maxRecDepth 20000 in
theorem gX7_doWrite_X7_allowance : GoodIn wsX7_doWrite (wsV RX7 50 RX7 yX7_allowance wsX7_allowance) := goodIn_app (goodIn_of _ (by decide +kernel)) ggX7_doWrite_X7_allowance
set_option maxRecDepth 20000 in
theorem ggX7_doWrite_X7_lays : GoodIn wsX7_doWrite wsX7_lays := goodIn_r _ [35, 3, 20, 21, 22, 6, 23, 52, 53, 54, 55, 56, 57, 58, 59, 60, 61, 62, 63, 64, 65] (by decide +kernel) (by decide +kernel)
set_option maxRecDepth 20000 in
theorem gX7_doWrite_X7_lays : GoodIn wsX7_doWrite (wsV RX7 39 RX7 yX7_lays wsX7_lays) := goodIn_app (goodIn_of _ (by decide +kernel)) ggX7_doWrite_X7_lays
set_option maxRecDepth 20000 in
theorem ggX7_doWrite_X7_counts : GoodIn wsX7_doWrite wsX7_counts := goodIn_r _ [23, 3, 52, 53, 54, 55, 56, 57, 58, 59, 60, 61, 62, 63, 64, 65] (by decide +kernel) (by decide +kernel)
set_option maxRecDepth 20000 in
theorem gX7_doWrite_X7_counts : GoodIn wsX7_doWrite (wsV RX7 35 RX7 yX7_counts wsX7_counts) := goodIn_app (goodIn_of _ (by decide +kernel)) ggX7_doWrite_X7_counts
theorem dX7_doWrite_0 : decode cX7_doWrite 0 = .ok (.iload_n 1, 1) := by decide +kernel
theorem dX7_doWrite_1 : decode cX7_doWrite 1 = .ok (.invokestatic 66, 3) := by decide +kernel
theorem dX7_doWrite_4 : decode cX7_doWrite 4 = .ok (.ifCond .eq 15, 3) := by decide +kernel
theorem dX7_doWrite_7 : decode cX7_doWrite 7 = .ok (.iload_n 2, 1) := by decide +kernel
theorem dX7_doWrite_8 : decode cX7_doWrite 8 = .ok (.i2l, 1) := by decide +kernel
theorem dX7_doWrite_9 : decode cX7_doWrite 9 = .ok (.lconst 0, 1) := by decide +kernel
theorem dX7_doWrite_10 : decode cX7_doWrite 10 = .ok (.ldc2_w 74, 3) := by decide +kernel
theorem dX7_doWrite_13 : decode cX7_doWrite 13 = .ok (.invokestatic 29, 3) := by decide +kernel
theorem dX7_doWrite_16 : decode cX7_doWrite 16 = .ok (.ifCond .ne 6, 3) := by decide +kernel
theorem dX7_doWrite_19 : decode cX7_doWrite 19 = .ok (.ldc 73, 2) := by decide +kernel
theorem dX7_doWrite_21 : decode cX7_doWrite 21 = .ok (.ireturn, 1) := by decide +kernel
theorem dX7_doWrite_22 : decode cX7_doWrite 22 = .ok (.aload_n 0, 1) := by decide +kernel
theorem dX7_doWrite_23 : decode cX7_doWrite 23 = .ok (.iload_n 1, 1) := by decide +kernel
theorem dX7_doWrite_24 : decode cX7_doWrite 24 = .ok (.invokevirtual 70, 3) := by decide +kernel
theorem dX7_doWrite_27 : decode cX7_doWrite 27 = .ok (.istore_n 3, 1) := by decide +kernel
theorem dX7_doWrite_28 : decode cX7_doWrite 28 = .ok (.aload_n 0, 1) := by decide +kernel
theorem dX7_doWrite_29 : decode cX7_doWrite 29 = .ok (.getfield 7, 3) := by decide +kernel
theorem dX7_doWrite_32 : decode cX7_doWrite 32 = .ok (.sipush 144, 3) := by decide +kernel
theorem dX7_doWrite_35 : decode cX7_doWrite 35 = .ok (.iload_n 3, 1) := by decide +kernel
theorem dX7_doWrite_36 : decode cX7_doWrite 36 = .ok (.iadd, 1) := by decide +kernel
theorem dX7_doWrite_37 : decode cX7_doWrite 37 = .ok (.iload_n 2, 1) := by decide +kernel
theorem dX7_doWrite_38 : decode cX7_doWrite 38 = .ok (.iastore, 1) := by decide +kernel
theorem dX7_doWrite_39 : decode cX7_doWrite 39 = .ok (.aload_n 0, 1) := by decide +kernel
theorem dX7_doWrite_40 : decode cX7_doWrite 40 = .ok (.getfield 7, 3) := by decide +kernel
theorem dX7_doWrite_43 : decode cX7_doWrite 43 = .ok (.sipush 128, 3) := by decide +kernel
theorem dX7_doWrite_46 : decode cX7_doWrite 46 = .ok (.iload_n 3, 1) := by decide +kernel
theorem dX7_doWrite_47 : decode cX7_doWrite 47 = .ok (.iadd, 1) := by decide +kernel
theorem dX7_doWrite_48 : decode cX7_doWrite 48 = .ok (.iaload, 1) := by decide +kernel
theorem dX7_doWrite_49 : decode cX7_doWrite 49 = .ok (.iconst 2, 1) := by decide +kernel
theorem dX7_doWrite_50 : decode cX7_doWrite 50 = .ok (.if_icmp .eq 15, 3) := by decide +kernel
theorem dX7_doWrite_53 : decode cX7_doWrite 53 = .ok (.aload_n 0, 1) := by decide +kernel
theorem dX7_doWrite_54 : decode cX7_doWrite 54 = .ok (.iconst 2, 1) := by decide +kernel
theorem dX7_doWrite_55 : decode cX7_doWrite 55 = .ok (.invokevirtual 47, 3) := by decide +kernel
theorem dX7_doWrite_58 : decode cX7_doWrite 58 = .ok (.aload_n 0, 1) := by decide +kernel
theorem dX7_doWrite_59 : decode cX7_doWrite 59 = .ok (.invokevirtual 50, 3) := by decide +kernel
theorem dX7_doWrite_62 : decode cX7_doWrite 62 = .ok (.if_icmp .ge 16, 3) := by decide +kernel
theorem dX7_doWrite_65 : decode cX7_doWrite 65 = .ok (.aload_n 0, 1) := by decide +kernel
theorem dX7_doWrite_66 : decode cX7_doWrite 66 = .ok (.getfield 7, 3) := by decide +kernel
theorem dX7_doWrite_69 : decode cX7_doWrite 69 = .ok (.sipush 128, 3) := by decide +kernel
theorem dX7_doWrite_72 : decode cX7_doWrite 72 = .ok (.iload_n 3, 1) := by decide +kernel
theorem dX7_doWrite_73 : decode cX7_doWrite 73 = .ok (.iadd, 1) := by decide +kernel
theorem dX7_doWrite_74 : decode cX7_doWrite 74 = .ok (.iconst 2, 1) := by decide +kernel
theorem dX7_doWrite_75 : decode cX7_doWrite 75 = .ok (.iastore, 1) := by decide +kernel
theorem dX7_doWrite_76 : decode cX7_doWrite 76 = .ok (.iconst 0, 1) := by decide +kernel
theorem dX7_doWrite_77 : decode cX7_doWrite 77 = .ok (.ireturn, 1) := by decide +kernel
theorem dX7_doWrite_78 : decode cX7_doWrite 78 = .ok (.aload_n 0, 1) := by decide +kernel
theorem dX7_doWrite_79 : decode cX7_doWrite 79 = .ok (.iload_n 1, 1) := by decide +kernel
theorem dX7_doWrite_80 : decode cX7_doWrite 80 = .ok (.iload_n 2, 1) := by decide +kernel
theorem dX7_doWrite_81 : decode cX7_doWrite 81 = .ok (.invokevirtual 39, 3) := by decide +kernel
theorem dX7_doWrite_84 : decode cX7_doWrite 84 = .ok (.aload_n 0, 1) := by decide +kernel
theorem dX7_doWrite_85 : decode cX7_doWrite 85 = .ok (.iconst 4, 1) := by decide +kernel
theorem dX7_doWrite_86 : decode cX7_doWrite 86 = .ok (.invokevirtual 35, 3) := by decide +kernel
theorem dX7_doWrite_89 : decode cX7_doWrite 89 = .ok (.iconst 1, 1) := by decide +kernel
theorem dX7_doWrite_90 : decode cX7_doWrite 90 = .ok (.ireturn, 1) := by decide +kernel
theorem dX7_capacity_0 : decode cX7_capacity 0 = .ok (.sipush 1000, 3) := by decide +kernel
theorem dX7_capacity_3 : decode cX7_capacity 3 = .ok (.bipush 10, 2) := by decide +kernel
theorem dX7_capacity_5 : decode cX7_capacity 5 = .ok (.aload_n 0, 1) := by decide +kernel
theorem dX7_capacity_6 : decode cX7_capacity 6 = .ok (.getfield 7, 3) := by decide +kernel
theorem dX7_capacity_9 : decode cX7_capacity 9 = .ok (.sipush 161, 3) := by decide +kernel
theorem dX7_capacity_12 : decode cX7_capacity 12 = .ok (.iaload, 1) := by decide +kernel
theorem dX7_capacity_13 : decode cX7_capacity 13 = .ok (.imul, 1) := by decide +kernel
theorem dX7_capacity_14 : decode cX7_capacity 14 = .ok (.isub, 1) := by decide +kernel
theorem dX7_capacity_15 : decode cX7_capacity 15 = .ok (.ireturn, 1) := by decide +kernel
set_option maxRecDepth 20000 in
theorem ggX7_charges_X7_setting : GoodIn wsX7_charges wsX7_setting := goodIn_r _ [6, 1, 11, 12, 13, 14, 15, 16, 17, 18, 19, 20, 21, 22, 23, 24] (by decide +kernel) (by decide +kernel)
set_option maxRecDepth 20000 in
theorem gX7_charges_X7_setting : GoodIn wsX7_charges (wsV RX7 43 RX7 yX7_setting wsX7_setting) := goodIn_app (goodIn_of _ (by decide +kernel)) ggX7_charges_X7_setting
set_option maxRecDepth 20000 in
theorem ggX7_charges_X7_capacity : GoodIn wsX7_charges wsX7_capacity := goodIn_r _ [10, 1, 11, 12, 13, 14, 15, 16, 17, 18, 19, 20, 21, 22, 23, 24] (by decide +kernel) (by decide +kernel)
set_option maxRecDepth 20000 in
theorem gX7_charges_X7_capacity : GoodIn wsX7_charges (wsV RX7 76 RX7 yX7_capacity wsX7_capacity) := goodIn_app (goodIn_of _ (by decide +kernel)) ggX7_charges_X7_capacity
theorem dX7_charges_0 : decode cX7_charges 0 = .ok (.aload_n 0, 1) := by decide +kernel
theorem dX7_charges_1 : decode cX7_charges 1 = .ok (.getfield 7, 3) := by decide +kernel
theorem dX7_charges_4 : decode cX7_charges 4 = .ok (.sipush 160, 3) := by decide +kernel
theorem dX7_charges_7 : decode cX7_charges 7 = .ok (.iaload, 1) := by decide +kernel
theorem dX7_charges_8 : decode cX7_charges 8 = .ok (.aload_n 0, 1) := by decide +kernel
theorem dX7_charges_9 : decode cX7_charges 9 = .ok (.iconst 2, 1) := by decide +kernel
theorem dX7_charges_10 : decode cX7_charges 10 = .ok (.invokevirtual 43, 3) := by decide +kernel
theorem dX7_charges_13 : decode cX7_charges 13 = .ok (.iadd, 1) := by decide +kernel
theorem dX7_charges_14 : decode cX7_charges 14 = .ok (.istore_n 1, 1) := by decide +kernel
theorem dX7_charges_15 : decode cX7_charges 15 = .ok (.aload_n 0, 1) := by decide +kernel
theorem dX7_charges_16 : decode cX7_charges 16 = .ok (.getfield 7, 3) := by decide +kernel
theorem dX7_charges_19 : decode cX7_charges 19 = .ok (.sipush 160, 3) := by decide +kernel
theorem dX7_charges_22 : decode cX7_charges 22 = .ok (.iload_n 1, 1) := by decide +kernel
theorem dX7_charges_23 : decode cX7_charges 23 = .ok (.aload_n 0, 1) := by decide +kernel
theorem dX7_charges_24 : decode cX7_charges 24 = .ok (.invokevirtual 76, 3) := by decide +kernel
theorem dX7_charges_27 : decode cX7_charges 27 = .ok (.if_icmp .le 10, 3) := by decide +kernel
theorem dX7_charges_30 : decode cX7_charges 30 = .ok (.aload_n 0, 1) := by decide +kernel
theorem dX7_charges_31 : decode cX7_charges 31 = .ok (.invokevirtual 76, 3) := by decide +kernel
theorem dX7_charges_34 : decode cX7_charges 34 = .ok (.goto 4, 3) := by decide +kernel
theorem dX7_charges_37 : decode cX7_charges 37 = .ok (.iload_n 1, 1) := by decide +kernel
theorem dX7_charges_38 : decode cX7_charges 38 = .ok (.iastore, 1) := by decide +kernel
theorem dX7_charges_39 : decode cX7_charges 39 = .ok (.return_, 1) := by decide +kernel
theorem dX7_drains_0 : decode cX7_drains 0 = .ok (.aload_n 0, 1) := by decide +kernel
theorem dX7_drains_1 : decode cX7_drains 1 = .ok (.getfield 7, 3) := by decide +kernel
theorem dX7_drains_4 : decode cX7_drains 4 = .ok (.sipush 160, 3) := by decide +kernel
theorem dX7_drains_7 : decode cX7_drains 7 = .ok (.aload_n 0, 1) := by decide +kernel
theorem dX7_drains_8 : decode cX7_drains 8 = .ok (.getfield 7, 3) := by decide +kernel
theorem dX7_drains_11 : decode cX7_drains 11 = .ok (.sipush 160, 3) := by decide +kernel
theorem dX7_drains_14 : decode cX7_drains 14 = .ok (.iaload, 1) := by decide +kernel
theorem dX7_drains_15 : decode cX7_drains 15 = .ok (.iload_n 1, 1) := by decide +kernel
theorem dX7_drains_16 : decode cX7_drains 16 = .ok (.if_icmp .le 16, 3) := by decide +kernel
theorem dX7_drains_19 : decode cX7_drains 19 = .ok (.aload_n 0, 1) := by decide +kernel
theorem dX7_drains_20 : decode cX7_drains 20 = .ok (.getfield 7, 3) := by decide +kernel
theorem dX7_drains_23 : decode cX7_drains 23 = .ok (.sipush 160, 3) := by decide +kernel
theorem dX7_drains_26 : decode cX7_drains 26 = .ok (.iaload, 1) := by decide +kernel
theorem dX7_drains_27 : decode cX7_drains 27 = .ok (.iload_n 1, 1) := by decide +kernel
theorem dX7_drains_28 : decode cX7_drains 28 = .ok (.isub, 1) := by decide +kernel
theorem dX7_drains_29 : decode cX7_drains 29 = .ok (.goto 4, 3) := by decide +kernel
theorem dX7_drains_32 : decode cX7_drains 32 = .ok (.iconst 0, 1) := by decide +kernel
theorem dX7_drains_33 : decode cX7_drains 33 = .ok (.iastore, 1) := by decide +kernel
theorem dX7_drains_34 : decode cX7_drains 34 = .ok (.return_, 1) := by decide +kernel
set_option maxRecDepth 20000 in
theorem ggX7_learnsOn_X7_setting : GoodIn wsX7_learnsOn wsX7_setting := goodIn_r _ [6, 1, 23, 24, 25, 26, 27, 28, 29, 30, 31, 32, 33, 34, 35, 36] (by decide +kernel) (by decide +kernel)
set_option maxRecDepth 20000 in
theorem gX7_learnsOn_X7_setting : GoodIn wsX7_learnsOn (wsV RX7 43 RX7 yX7_setting wsX7_setting) := goodIn_app (goodIn_of _ (by decide +kernel)) ggX7_learnsOn_X7_setting
set_option maxRecDepth 20000 in
theorem ggX7_learnsOn_X7_drains : GoodIn wsX7_learnsOn wsX7_drains := goodIn_r _ [10, 1, 23, 24, 25, 26, 27, 28, 29, 30, 31, 32, 33, 34, 35, 36] (by decide +kernel) (by decide +kernel)
set_option maxRecDepth 20000 in
theorem gX7_learnsOn_X7_drains : GoodIn wsX7_learnsOn (wsV RX7 79 RX7 yX7_drains wsX7_drains) := goodIn_app (goodIn_of _ (by decide +kernel)) ggX7_learnsOn_X7_drains
set_option maxRecDepth 20000 in
theorem ggX7_learnsOn_X7_charges : GoodIn wsX7_learnsOn wsX7_charges := goodIn_r _ [14, 1, 2, 3, 4, 5, 6, 15, 16, 17, 18, 23, 24, 25, 26, 27, 28, 29, 30, 31, 32, 33, 34, 35, 36] (by decide +kernel) (by decide +kernel)
set_option maxRecDepth 20000 in
theorem gX7_learnsOn_X7_charges : GoodIn wsX7_learnsOn (wsV RX7 82 RX7 yX7_charges wsX7_charges) := goodIn_app (goodIn_of _ (by decide +kernel)) ggX7_learnsOn_X7_charges
set_option maxRecDepth 20000 in
theorem ggX7_learnsOn_X7_capacity : GoodIn wsX7_learnsOn wsX7_capacity := goodIn_r _ [18, 1, 23, 24, 25, 26, 27, 28, 29, 30, 31, 32, 33, 34, 35, 36] (by decide +kernel) (by decide +kernel)
set_option maxRecDepth 20000 in
theorem gX7_learnsOn_X7_capacity : GoodIn wsX7_learnsOn (wsV RX7 76 RX7 yX7_capacity wsX7_capacity) := goodIn_app (goodIn_of _ (by decide +kernel)) ggX7_learnsOn_X7_capacity
set_option maxRecDepth 20000 in
theorem ggX7_learnsOn_X7_counts : GoodIn wsX7_learnsOn wsX7_counts := goodIn_r _ [22, 1, 23, 24, 25, 26, 27, 28, 29, 30, 31, 32, 33, 34, 35, 36] (by decide +kernel) (by decide +kernel)
set_option maxRecDepth 20000 in
theorem gX7_learnsOn_X7_counts : GoodIn wsX7_learnsOn (wsV RX7 35 RX7 yX7_counts wsX7_counts) := goodIn_app (goodIn_of _ (by decide +kernel)) ggX7_learnsOn_X7_counts
theorem dX7_learnsOn_0 : decode cX7_learnsOn 0 = .ok (.aload_n 0, 1) := by decide +kernel
theorem dX7_learnsOn_1 : decode cX7_learnsOn 1 = .ok (.getfield 7, 3) := by decide +kernel
theorem dX7_learnsOn_4 : decode cX7_learnsOn 4 = .ok (.sipush 162, 3) := by decide +kernel
theorem dX7_learnsOn_7 : decode cX7_learnsOn 7 = .ok (.iaload, 1) := by decide +kernel
theorem dX7_learnsOn_8 : decode cX7_learnsOn 8 = .ok (.iconst 1, 1) := by decide +kernel
theorem dX7_learnsOn_9 : decode cX7_learnsOn 9 = .ok (.if_icmp .ne 62, 3) := by decide +kernel
theorem dX7_learnsOn_12 : decode cX7_learnsOn 12 = .ok (.aload_n 0, 1) := by decide +kernel
theorem dX7_learnsOn_13 : decode cX7_learnsOn 13 = .ok (.aload_n 0, 1) := by decide +kernel
theorem dX7_learnsOn_14 : decode cX7_learnsOn 14 = .ok (.iconst 3, 1) := by decide +kernel
theorem dX7_learnsOn_15 : decode cX7_learnsOn 15 = .ok (.invokevirtual 43, 3) := by decide +kernel
theorem dX7_learnsOn_18 : decode cX7_learnsOn 18 = .ok (.invokevirtual 79, 3) := by decide +kernel
theorem dX7_learnsOn_21 : decode cX7_learnsOn 21 = .ok (.aload_n 0, 1) := by decide +kernel
theorem dX7_learnsOn_22 : decode cX7_learnsOn 22 = .ok (.getfield 7, 3) := by decide +kernel
theorem dX7_learnsOn_25 : decode cX7_learnsOn 25 = .ok (.sipush 160, 3) := by decide +kernel
theorem dX7_learnsOn_28 : decode cX7_learnsOn 28 = .ok (.iaload, 1) := by decide +kernel
theorem dX7_learnsOn_29 : decode cX7_learnsOn 29 = .ok (.ifCond .ne 41, 3) := by decide +kernel
theorem dX7_learnsOn_32 : decode cX7_learnsOn 32 = .ok (.aload_n 0, 1) := by decide +kernel
theorem dX7_learnsOn_33 : decode cX7_learnsOn 33 = .ok (.getfield 7, 3) := by decide +kernel
theorem dX7_learnsOn_36 : decode cX7_learnsOn 36 = .ok (.sipush 161, 3) := by decide +kernel
theorem dX7_learnsOn_39 : decode cX7_learnsOn 39 = .ok (.dup2, 1) := by decide +kernel
theorem dX7_learnsOn_40 : decode cX7_learnsOn 40 = .ok (.iaload, 1) := by decide +kernel
theorem dX7_learnsOn_41 : decode cX7_learnsOn 41 = .ok (.aload_n 0, 1) := by decide +kernel
theorem dX7_learnsOn_42 : decode cX7_learnsOn 42 = .ok (.getfield 7, 3) := by decide +kernel
theorem dX7_learnsOn_45 : decode cX7_learnsOn 45 = .ok (.sipush 161, 3) := by decide +kernel
theorem dX7_learnsOn_48 : decode cX7_learnsOn 48 = .ok (.iaload, 1) := by decide +kernel
theorem dX7_learnsOn_49 : decode cX7_learnsOn 49 = .ok (.bipush 90, 2) := by decide +kernel
theorem dX7_learnsOn_51 : decode cX7_learnsOn 51 = .ok (.if_icmp .ge 7, 3) := by decide +kernel
theorem dX7_learnsOn_54 : decode cX7_learnsOn 54 = .ok (.iconst 1, 1) := by decide +kernel
theorem dX7_learnsOn_55 : decode cX7_learnsOn 55 = .ok (.goto 4, 3) := by decide +kernel
theorem dX7_learnsOn_58 : decode cX7_learnsOn 58 = .ok (.iconst 0, 1) := by decide +kernel
theorem dX7_learnsOn_59 : decode cX7_learnsOn 59 = .ok (.iadd, 1) := by decide +kernel
theorem dX7_learnsOn_60 : decode cX7_learnsOn 60 = .ok (.iastore, 1) := by decide +kernel
theorem dX7_learnsOn_61 : decode cX7_learnsOn 61 = .ok (.aload_n 0, 1) := by decide +kernel
theorem dX7_learnsOn_62 : decode cX7_learnsOn 62 = .ok (.getfield 7, 3) := by decide +kernel
theorem dX7_learnsOn_65 : decode cX7_learnsOn 65 = .ok (.sipush 162, 3) := by decide +kernel
theorem dX7_learnsOn_68 : decode cX7_learnsOn 68 = .ok (.iconst 2, 1) := by decide +kernel
theorem dX7_learnsOn_69 : decode cX7_learnsOn 69 = .ok (.iastore, 1) := by decide +kernel
theorem dX7_learnsOn_70 : decode cX7_learnsOn 70 = .ok (.return_, 1) := by decide +kernel
theorem dX7_learnsOn_71 : decode cX7_learnsOn 71 = .ok (.aload_n 0, 1) := by decide +kernel
theorem dX7_learnsOn_72 : decode cX7_learnsOn 72 = .ok (.invokevirtual 82, 3) := by decide +kernel
theorem dX7_learnsOn_75 : decode cX7_learnsOn 75 = .ok (.aload_n 0, 1) := by decide +kernel
theorem dX7_learnsOn_76 : decode cX7_learnsOn 76 = .ok (.getfield 7, 3) := by decide +kernel
theorem dX7_learnsOn_79 : decode cX7_learnsOn 79 = .ok (.sipush 160, 3) := by decide +kernel
theorem dX7_learnsOn_82 : decode cX7_learnsOn 82 = .ok (.iaload, 1) := by decide +kernel
theorem dX7_learnsOn_83 : decode cX7_learnsOn 83 = .ok (.aload_n 0, 1) := by decide +kernel
theorem dX7_learnsOn_84 : decode cX7_learnsOn 84 = .ok (.invokevirtual 76, 3) := by decide +kernel
theorem dX7_learnsOn_87 : decode cX7_learnsOn 87 = .ok (.if_icmp .ne 18, 3) := by decide +kernel
theorem dX7_learnsOn_90 : decode cX7_learnsOn 90 = .ok (.aload_n 0, 1) := by decide +kernel
theorem dX7_learnsOn_91 : decode cX7_learnsOn 91 = .ok (.getfield 7, 3) := by decide +kernel
theorem dX7_learnsOn_94 : decode cX7_learnsOn 94 = .ok (.sipush 162, 3) := by decide +kernel
theorem dX7_learnsOn_97 : decode cX7_learnsOn 97 = .ok (.iconst 0, 1) := by decide +kernel
theorem dX7_learnsOn_98 : decode cX7_learnsOn 98 = .ok (.iastore, 1) := by decide +kernel
theorem dX7_learnsOn_99 : decode cX7_learnsOn 99 = .ok (.aload_n 0, 1) := by decide +kernel
theorem dX7_learnsOn_100 : decode cX7_learnsOn 100 = .ok (.bipush 7, 2) := by decide +kernel
theorem dX7_learnsOn_102 : decode cX7_learnsOn 102 = .ok (.invokevirtual 35, 3) := by decide +kernel
theorem dX7_learnsOn_105 : decode cX7_learnsOn 105 = .ok (.return_, 1) := by decide +kernel
set_option maxRecDepth 20000 in
theorem ggX7_ticksOn_X7_counts : GoodIn wsX7_ticksOn wsX7_counts := goodIn_r _ [6, 1, 51, 52, 53, 54, 55, 56, 57, 58, 59, 60, 61, 62, 63, 64] (by decide +kernel) (by decide +kernel)
set_option maxRecDepth 20000 in
theorem gX7_ticksOn_X7_counts : GoodIn wsX7_ticksOn (wsV RX7 35 RX7 yX7_counts wsX7_counts) := goodIn_app (goodIn_of _ (by decide +kernel)) ggX7_ticksOn_X7_counts
set_option maxRecDepth 20000 in
theorem ggX7_ticksOn_X7_learnsOn : GoodIn wsX7_ticksOn wsX7_learnsOn := goodIn_r _ [10, 1, 11, 12, 13, 5, 14, 15, 16, 17, 18, 19, 20, 21, 22, 23, 24, 25, 26, 2, 3, 4, 6, 51, 52, 53, 54, 55, 56, 57, 58, 59, 60, 61, 62, 63, 64] (by decide +kernel) (by decide +kernel)
set_option maxRecDepth 20000 in
theorem gX7_ticksOn_X7_learnsOn : GoodIn wsX7_ticksOn (wsV RX7 85 RX7 yX7_learnsOn wsX7_learnsOn) := goodIn_app (goodIn_of _ (by decide +kernel)) ggX7_ticksOn_X7_learnsOn
set_option maxRecDepth 20000 in
theorem ggX7_ticksOn_X7_charges : GoodIn wsX7_ticksOn wsX7_charges := goodIn_r _ [22, 1, 11, 12, 13, 5, 14, 23, 24, 25, 26, 51, 52, 53, 54, 55, 56, 57, 58, 59, 60, 61, 62, 63, 64] (by decide +kernel) (by decide +kernel)
set_option maxRecDepth 20000 in
theorem gX7_ticksOn_X7_charges : GoodIn wsX7_ticksOn (wsV RX7 82 RX7 yX7_charges wsX7_charges) := goodIn_app (goodIn_of _ (by decide +kernel)) ggX7_ticksOn_X7_charges
set_option maxRecDepth 20000 in
theorem ggX7_ticksOn_X7_flushesToo : GoodIn wsX7_ticksOn wsX7_flushesToo := goodIn_r _ [30, 31, 32, 33, 5, 34, 1, 35, 36, 37, 38, 11, 12, 13, 14, 39, 40, 41, 42, 43, 44, 45, 46, 47, 48, 49, 50, 2, 3, 4, 6, 51, 52, 53, 54, 55, 56, 57, 58, 59, 60, 61, 62, 63, 64] (by decide +kernel) (by decide +kernel)
set_option maxRecDepth 20000 in
theorem gX7_ticksOn_X7_flushesToo : GoodIn wsX7_ticksOn (wsV RX7 88 RX7 yX7_flushesToo wsX7_flushesToo) := goodIn_app (goodIn_of _ (by decide +kernel)) ggX7_ticksOn_X7_flushesToo
theorem dX7_ticksOn_0 : decode cX7_ticksOn 0 = .ok (.aload_n 0, 1) := by decide +kernel
theorem dX7_ticksOn_1 : decode cX7_ticksOn 1 = .ok (.iconst 0, 1) := by decide +kernel
theorem dX7_ticksOn_2 : decode cX7_ticksOn 2 = .ok (.invokevirtual 35, 3) := by decide +kernel
theorem dX7_ticksOn_5 : decode cX7_ticksOn 5 = .ok (.aload_n 0, 1) := by decide +kernel
theorem dX7_ticksOn_6 : decode cX7_ticksOn 6 = .ok (.getfield 7, 3) := by decide +kernel
theorem dX7_ticksOn_9 : decode cX7_ticksOn 9 = .ok (.sipush 162, 3) := by decide +kernel
theorem dX7_ticksOn_12 : decode cX7_ticksOn 12 = .ok (.iaload, 1) := by decide +kernel
theorem dX7_ticksOn_13 : decode cX7_ticksOn 13 = .ok (.ifCond .eq 10, 3) := by decide +kernel
theorem dX7_ticksOn_16 : decode cX7_ticksOn 16 = .ok (.aload_n 0, 1) := by decide +kernel
theorem dX7_ticksOn_17 : decode cX7_ticksOn 17 = .ok (.invokevirtual 85, 3) := by decide +kernel
theorem dX7_ticksOn_20 : decode cX7_ticksOn 20 = .ok (.goto 7, 3) := by decide +kernel
theorem dX7_ticksOn_23 : decode cX7_ticksOn 23 = .ok (.aload_n 0, 1) := by decide +kernel
theorem dX7_ticksOn_24 : decode cX7_ticksOn 24 = .ok (.invokevirtual 82, 3) := by decide +kernel
theorem dX7_ticksOn_27 : decode cX7_ticksOn 27 = .ok (.aload_n 0, 1) := by decide +kernel
theorem dX7_ticksOn_28 : decode cX7_ticksOn 28 = .ok (.invokevirtual 88, 3) := by decide +kernel
theorem dX7_ticksOn_31 : decode cX7_ticksOn 31 = .ok (.ireturn, 1) := by decide +kernel
set_option maxRecDepth 20000 in
theorem ggX7_doTick_X7_in : GoodIn wsX7_doTick wsX7_in := goodIn_r _ [6] (by decide +kernel) (by decide +kernel)
set_option maxRecDepth 20000 in
theorem gX7_doTick_X7_in : GoodIn wsX7_doTick (va_wsS RX7 29 yX7_in wsX7_in) := goodIn_app (goodIn_of _ (by decide +kernel)) ggX7_doTick_X7_in
set_option maxRecDepth 20000 in
theorem ggX7_doTick_X7_ticksOn : GoodIn wsX7_doTick wsX7_ticksOn := goodIn_r _ [10, 11, 12, 13, 14, 5, 15, 16, 17, 18, 19, 20, 21, 22, 23, 24, 25, 26, 27, 28, 29, 30, 31, 32, 33, 34, 35, 36, 37, 38, 39, 40, 41, 42, 43, 44, 45, 46, 47, 48, 49, 50, 51, 52, 53, 54, 55, 56, 57, 58, 59, 60, 61, 62, 63, 64, 65, 66, 67, 68, 69, 70, 71, 72, 73] (by decide +kernel) (by decide +kernel)
set_option maxRecDepth 20000 in
theorem gX7_doTick_X7_ticksOn : GoodIn wsX7_doTick (wsV RX7 93 RX7 yX7_ticksOn wsX7_ticksOn) := goodIn_app (goodIn_of _ (by decide +kernel)) ggX7_doTick_X7_ticksOn
theorem dX7_doTick_0 : decode cX7_doTick 0 = .ok (.iload_n 1, 1) := by decide +kernel
theorem dX7_doTick_1 : decode cX7_doTick 1 = .ok (.i2l, 1) := by decide +kernel
theorem dX7_doTick_2 : decode cX7_doTick 2 = .ok (.lconst 1, 1) := by decide +kernel
theorem dX7_doTick_3 : decode cX7_doTick 3 = .ok (.ldc2_w 91, 3) := by decide +kernel
theorem dX7_doTick_6 : decode cX7_doTick 6 = .ok (.invokestatic 29, 3) := by decide +kernel
theorem dX7_doTick_9 : decode cX7_doTick 9 = .ok (.ifCond .ne 6, 3) := by decide +kernel
theorem dX7_doTick_12 : decode cX7_doTick 12 = .ok (.ldc 73, 2) := by decide +kernel
theorem dX7_doTick_14 : decode cX7_doTick 14 = .ok (.ireturn, 1) := by decide +kernel
theorem dX7_doTick_15 : decode cX7_doTick 15 = .ok (.iconst 0, 1) := by decide +kernel
theorem dX7_doTick_16 : decode cX7_doTick 16 = .ok (.istore_n 2, 1) := by decide +kernel
theorem dX7_doTick_17 : decode cX7_doTick 17 = .ok (.iconst 0, 1) := by decide +kernel
theorem dX7_doTick_18 : decode cX7_doTick 18 = .ok (.istore_n 3, 1) := by decide +kernel
theorem dX7_doTick_19 : decode cX7_doTick 19 = .ok (.iload_n 3, 1) := by decide +kernel
theorem dX7_doTick_20 : decode cX7_doTick 20 = .ok (.iload_n 1, 1) := by decide +kernel
theorem dX7_doTick_21 : decode cX7_doTick 21 = .ok (.if_icmp .ge 16, 3) := by decide +kernel
theorem dX7_doTick_24 : decode cX7_doTick 24 = .ok (.iload_n 2, 1) := by decide +kernel
theorem dX7_doTick_25 : decode cX7_doTick 25 = .ok (.aload_n 0, 1) := by decide +kernel
theorem dX7_doTick_26 : decode cX7_doTick 26 = .ok (.invokevirtual 93, 3) := by decide +kernel
theorem dX7_doTick_29 : decode cX7_doTick 29 = .ok (.iadd, 1) := by decide +kernel
theorem dX7_doTick_30 : decode cX7_doTick 30 = .ok (.istore_n 2, 1) := by decide +kernel
theorem dX7_doTick_31 : decode cX7_doTick 31 = .ok (.iinc 3 1, 3) := by decide +kernel
theorem dX7_doTick_34 : decode cX7_doTick 34 = .ok (.goto (-15), 3) := by decide +kernel
theorem dX7_doTick_37 : decode cX7_doTick 37 = .ok (.iload_n 2, 1) := by decide +kernel
theorem dX7_doTick_38 : decode cX7_doTick 38 = .ok (.ireturn, 1) := by decide +kernel
set_option maxRecDepth 20000 in
theorem ggX7_doLoad_X7_in : GoodIn wsX7_doLoad wsX7_in := goodIn_r _ [6] (by decide +kernel) (by decide +kernel)
set_option maxRecDepth 20000 in
theorem gX7_doLoad_X7_in : GoodIn wsX7_doLoad (va_wsS RX7 29 yX7_in wsX7_in) := goodIn_app (goodIn_of _ (by decide +kernel)) ggX7_doLoad_X7_in
set_option maxRecDepth 20000 in
theorem ggX7_doLoad_X7_drains : GoodIn wsX7_doLoad wsX7_drains := goodIn_r _ [10, 11, 44, 45, 46, 47, 48, 49, 50, 51, 52, 53, 54, 55, 56, 57] (by decide +kernel) (by decide +kernel)
set_option maxRecDepth 20000 in
theorem gX7_doLoad_X7_drains : GoodIn wsX7_doLoad (wsV RX7 79 RX7 yX7_drains wsX7_drains) := goodIn_app (goodIn_of _ (by decide +kernel)) ggX7_doLoad_X7_drains
set_option maxRecDepth 20000 in
theorem ggX7_doLoad_X7_flushesToo : GoodIn wsX7_doLoad wsX7_flushesToo := goodIn_r _ [15, 16, 17, 18, 5, 19, 11, 20, 21, 22, 23, 24, 25, 26, 27, 28, 29, 30, 31, 32, 33, 34, 35, 36, 37, 38, 39, 40, 41, 42, 43, 44, 45, 46, 47, 48, 49, 50, 51, 52, 53, 54, 55, 56, 57] (by decide +kernel) (by decide +kernel)
set_option maxRecDepth 20000 in
theorem gX7_doLoad_X7_flushesToo : GoodIn wsX7_doLoad (wsV RX7 88 RX7 yX7_flushesToo wsX7_flushesToo) := goodIn_app (goodIn_of _ (by decide +kernel)) ggX7_doLoad_X7_flushesToo
theorem dX7_doLoad_0 : decode cX7_doLoad 0 = .ok (.iload_n 1, 1) := by decide +kernel
theorem dX7_doLoad_1 : decode cX7_doLoad 1 = .ok (.i2l, 1) := by decide +kernel
theorem dX7_doLoad_2 : decode cX7_doLoad 2 = .ok (.lconst 1, 1) := by decide +kernel
theorem dX7_doLoad_3 : decode cX7_doLoad 3 = .ok (.ldc2_w 74, 3) := by decide +kernel
theorem dX7_doLoad_6 : decode cX7_doLoad 6 = .ok (.invokestatic 29, 3) := by decide +kernel
theorem dX7_doLoad_9 : decode cX7_doLoad 9 = .ok (.ifCond .ne 6, 3) := by decide +kernel
theorem dX7_doLoad_12 : decode cX7_doLoad 12 = .ok (.ldc 73, 2) := by decide +kernel
theorem dX7_doLoad_14 : decode cX7_doLoad 14 = .ok (.ireturn, 1) := by decide +kernel
theorem dX7_doLoad_15 : decode cX7_doLoad 15 = .ok (.aload_n 0, 1) := by decide +kernel
theorem dX7_doLoad_16 : decode cX7_doLoad 16 = .ok (.iload_n 1, 1) := by decide +kernel
theorem dX7_doLoad_17 : decode cX7_doLoad 17 = .ok (.invokevirtual 79, 3) := by decide +kernel
theorem dX7_doLoad_20 : decode cX7_doLoad 20 = .ok (.aload_n 0, 1) := by decide +kernel
theorem dX7_doLoad_21 : decode cX7_doLoad 21 = .ok (.invokevirtual 88, 3) := by decide +kernel
theorem dX7_doLoad_24 : decode cX7_doLoad 24 = .ok (.ireturn, 1) := by decide +kernel
set_option maxRecDepth 20000 in
theorem ggX7_doLearn_X7_flushesToo : GoodIn wsX7_doLearn wsX7_flushesToo := goodIn_r _ [7, 8, 9, 10, 6, 11, 1, 12, 13, 14, 15, 16, 17, 18, 19, 20, 21, 22, 23, 24, 25, 26, 27, 28, 29, 30, 31, 32, 33, 34, 35, 36, 37, 38, 39, 40, 41, 42, 43, 44, 45, 46, 47, 48, 49] (by decide +kernel) (by decide +kernel)
set_option maxRecDepth 20000 in
theorem gX7_doLearn_X7_flushesToo : GoodIn wsX7_doLearn (wsV RX7 88 RX7 yX7_flushesToo wsX7_flushesToo) := goodIn_app (goodIn_of _ (by decide +kernel)) ggX7_doLearn_X7_flushesToo
theorem dX7_doLearn_0 : decode cX7_doLearn 0 = .ok (.aload_n 0, 1) := by decide +kernel
theorem dX7_doLearn_1 : decode cX7_doLearn 1 = .ok (.getfield 7, 3) := by decide +kernel
theorem dX7_doLearn_4 : decode cX7_doLearn 4 = .ok (.sipush 162, 3) := by decide +kernel
theorem dX7_doLearn_7 : decode cX7_doLearn 7 = .ok (.iaload, 1) := by decide +kernel
theorem dX7_doLearn_8 : decode cX7_doLearn 8 = .ok (.ifCond .eq 6, 3) := by decide +kernel
theorem dX7_doLearn_11 : decode cX7_doLearn 11 = .ok (.ldc 96, 2) := by decide +kernel
theorem dX7_doLearn_13 : decode cX7_doLearn 13 = .ok (.ireturn, 1) := by decide +kernel
theorem dX7_doLearn_14 : decode cX7_doLearn 14 = .ok (.aload_n 0, 1) := by decide +kernel
theorem dX7_doLearn_15 : decode cX7_doLearn 15 = .ok (.getfield 7, 3) := by decide +kernel
theorem dX7_doLearn_18 : decode cX7_doLearn 18 = .ok (.sipush 162, 3) := by decide +kernel
theorem dX7_doLearn_21 : decode cX7_doLearn 21 = .ok (.iconst 1, 1) := by decide +kernel
theorem dX7_doLearn_22 : decode cX7_doLearn 22 = .ok (.iastore, 1) := by decide +kernel
theorem dX7_doLearn_23 : decode cX7_doLearn 23 = .ok (.aload_n 0, 1) := by decide +kernel
theorem dX7_doLearn_24 : decode cX7_doLearn 24 = .ok (.invokevirtual 88, 3) := by decide +kernel
theorem dX7_doLearn_27 : decode cX7_doLearn 27 = .ok (.ireturn, 1) := by decide +kernel
set_option maxRecDepth 20000 in
theorem ggX7_doCut_X7_setting : GoodIn wsX7_doCut wsX7_setting := goodIn_r _ [6, 1, 27, 28, 29, 30, 31, 32, 33, 34, 35, 36, 37, 38, 39, 40] (by decide +kernel) (by decide +kernel)
set_option maxRecDepth 20000 in
theorem gX7_doCut_X7_setting : GoodIn wsX7_doCut (wsV RX7 43 RX7 yX7_setting wsX7_setting) := goodIn_app (goodIn_of _ (by decide +kernel)) ggX7_doCut_X7_setting
set_option maxRecDepth 20000 in
theorem ggX7_doCut_X7_many : GoodIn wsX7_doCut wsX7_many := goodIn_r _ [10, 1, 27, 28, 29, 30, 31, 32, 33, 34, 35, 36, 37, 38, 39, 40] (by decide +kernel) (by decide +kernel)
set_option maxRecDepth 20000 in
theorem gX7_doCut_X7_many : GoodIn wsX7_doCut (wsV RX7 47 RX7 yX7_many wsX7_many) := goodIn_app (goodIn_of _ (by decide +kernel)) ggX7_doCut_X7_many
set_option maxRecDepth 20000 in
theorem ggX7_doCut_X7_oldest : GoodIn wsX7_doCut wsX7_oldest := goodIn_r _ [14, 1, 27, 28, 29, 30, 31, 32, 33, 34, 35, 36, 37, 38, 39, 40] (by decide +kernel) (by decide +kernel)
set_option maxRecDepth 20000 in
theorem gX7_doCut_X7_oldest : GoodIn wsX7_doCut (wsV RX7 54 RX7 yX7_oldest wsX7_oldest) := goodIn_app (goodIn_of _ (by decide +kernel)) ggX7_doCut_X7_oldest
set_option maxRecDepth 20000 in
theorem ggX7_doCut_X7_flushes : GoodIn wsX7_doCut wsX7_flushes := goodIn_r _ [18, 1, 19, 20, 21, 5, 22, 23, 24, 25, 26, 27, 28, 29, 30, 31, 32, 33, 34, 35, 36, 37, 38, 39, 40] (by decide +kernel) (by decide +kernel)
set_option maxRecDepth 20000 in
theorem gX7_doCut_X7_flushes : GoodIn wsX7_doCut (wsV RX7 57 RX7 yX7_flushes wsX7_flushes) := goodIn_app (goodIn_of _ (by decide +kernel)) ggX7_doCut_X7_flushes
set_option maxRecDepth 20000 in
theorem ggX7_doCut_X7_counts : GoodIn wsX7_doCut wsX7_counts := goodIn_r _ [26, 1, 27, 28, 29, 30, 31, 32, 33, 34, 35, 36, 37, 38, 39, 40] (by decide +kernel) (by decide +kernel)
set_option maxRecDepth 20000 in
theorem gX7_doCut_X7_counts : GoodIn wsX7_doCut (wsV RX7 35 RX7 yX7_counts wsX7_counts) := goodIn_app (goodIn_of _ (by decide +kernel)) ggX7_doCut_X7_counts
theorem dX7_doCut_0 : decode cX7_doCut 0 = .ok (.aload_n 0, 1) := by decide +kernel
theorem dX7_doCut_1 : decode cX7_doCut 1 = .ok (.getfield 7, 3) := by decide +kernel
theorem dX7_doCut_4 : decode cX7_doCut 4 = .ok (.sipush 160, 3) := by decide +kernel
theorem dX7_doCut_7 : decode cX7_doCut 7 = .ok (.iaload, 1) := by decide +kernel
theorem dX7_doCut_8 : decode cX7_doCut 8 = .ok (.aload_n 0, 1) := by decide +kernel
theorem dX7_doCut_9 : decode cX7_doCut 9 = .ok (.iconst 1, 1) := by decide +kernel
theorem dX7_doCut_10 : decode cX7_doCut 10 = .ok (.invokevirtual 43, 3) := by decide +kernel
theorem dX7_doCut_13 : decode cX7_doCut 13 = .ok (.if_icmp .ge 15, 3) := by decide +kernel
theorem dX7_doCut_16 : decode cX7_doCut 16 = .ok (.aload_n 0, 1) := by decide +kernel
theorem dX7_doCut_17 : decode cX7_doCut 17 = .ok (.getfield 7, 3) := by decide +kernel
theorem dX7_doCut_20 : decode cX7_doCut 20 = .ok (.sipush 160, 3) := by decide +kernel
theorem dX7_doCut_23 : decode cX7_doCut 23 = .ok (.iconst 0, 1) := by decide +kernel
theorem dX7_doCut_24 : decode cX7_doCut 24 = .ok (.iastore, 1) := by decide +kernel
theorem dX7_doCut_25 : decode cX7_doCut 25 = .ok (.goto 71, 3) := by decide +kernel
theorem dX7_doCut_28 : decode cX7_doCut 28 = .ok (.aload_n 0, 1) := by decide +kernel
theorem dX7_doCut_29 : decode cX7_doCut 29 = .ok (.getfield 7, 3) := by decide +kernel
theorem dX7_doCut_32 : decode cX7_doCut 32 = .ok (.sipush 160, 3) := by decide +kernel
theorem dX7_doCut_35 : decode cX7_doCut 35 = .ok (.dup2, 1) := by decide +kernel
theorem dX7_doCut_36 : decode cX7_doCut 36 = .ok (.iaload, 1) := by decide +kernel
theorem dX7_doCut_37 : decode cX7_doCut 37 = .ok (.aload_n 0, 1) := by decide +kernel
theorem dX7_doCut_38 : decode cX7_doCut 38 = .ok (.iconst 1, 1) := by decide +kernel
theorem dX7_doCut_39 : decode cX7_doCut 39 = .ok (.invokevirtual 43, 3) := by decide +kernel
theorem dX7_doCut_42 : decode cX7_doCut 42 = .ok (.isub, 1) := by decide +kernel
theorem dX7_doCut_43 : decode cX7_doCut 43 = .ok (.iastore, 1) := by decide +kernel
theorem dX7_doCut_44 : decode cX7_doCut 44 = .ok (.aload_n 0, 1) := by decide +kernel
theorem dX7_doCut_45 : decode cX7_doCut 45 = .ok (.getfield 7, 3) := by decide +kernel
theorem dX7_doCut_48 : decode cX7_doCut 48 = .ok (.sipush 160, 3) := by decide +kernel
theorem dX7_doCut_51 : decode cX7_doCut 51 = .ok (.iaload, 1) := by decide +kernel
theorem dX7_doCut_52 : decode cX7_doCut 52 = .ok (.aload_n 0, 1) := by decide +kernel
theorem dX7_doCut_53 : decode cX7_doCut 53 = .ok (.iconst 0, 1) := by decide +kernel
theorem dX7_doCut_54 : decode cX7_doCut 54 = .ok (.invokevirtual 43, 3) := by decide +kernel
theorem dX7_doCut_57 : decode cX7_doCut 57 = .ok (.if_icmp .lt 39, 3) := by decide +kernel
theorem dX7_doCut_60 : decode cX7_doCut 60 = .ok (.aload_n 0, 1) := by decide +kernel
theorem dX7_doCut_61 : decode cX7_doCut 61 = .ok (.iconst 2, 1) := by decide +kernel
theorem dX7_doCut_62 : decode cX7_doCut 62 = .ok (.invokevirtual 47, 3) := by decide +kernel
theorem dX7_doCut_65 : decode cX7_doCut 65 = .ok (.ifCond .le 31, 3) := by decide +kernel
theorem dX7_doCut_68 : decode cX7_doCut 68 = .ok (.aload_n 0, 1) := by decide +kernel
theorem dX7_doCut_69 : decode cX7_doCut 69 = .ok (.getfield 7, 3) := by decide +kernel
theorem dX7_doCut_72 : decode cX7_doCut 72 = .ok (.sipush 160, 3) := by decide +kernel
theorem dX7_doCut_75 : decode cX7_doCut 75 = .ok (.dup2, 1) := by decide +kernel
theorem dX7_doCut_76 : decode cX7_doCut 76 = .ok (.iaload, 1) := by decide +kernel
theorem dX7_doCut_77 : decode cX7_doCut 77 = .ok (.aload_n 0, 1) := by decide +kernel
theorem dX7_doCut_78 : decode cX7_doCut 78 = .ok (.iconst 0, 1) := by decide +kernel
theorem dX7_doCut_79 : decode cX7_doCut 79 = .ok (.invokevirtual 43, 3) := by decide +kernel
theorem dX7_doCut_82 : decode cX7_doCut 82 = .ok (.isub, 1) := by decide +kernel
theorem dX7_doCut_83 : decode cX7_doCut 83 = .ok (.iastore, 1) := by decide +kernel
theorem dX7_doCut_84 : decode cX7_doCut 84 = .ok (.aload_n 0, 1) := by decide +kernel
theorem dX7_doCut_85 : decode cX7_doCut 85 = .ok (.aload_n 0, 1) := by decide +kernel
theorem dX7_doCut_86 : decode cX7_doCut 86 = .ok (.iconst 2, 1) := by decide +kernel
theorem dX7_doCut_87 : decode cX7_doCut 87 = .ok (.invokevirtual 54, 3) := by decide +kernel
theorem dX7_doCut_90 : decode cX7_doCut 90 = .ok (.invokevirtual 57, 3) := by decide +kernel
theorem dX7_doCut_93 : decode cX7_doCut 93 = .ok (.goto (-49), 3) := by decide +kernel
theorem dX7_doCut_96 : decode cX7_doCut 96 = .ok (.aload_n 0, 1) := by decide +kernel
theorem dX7_doCut_97 : decode cX7_doCut 97 = .ok (.iconst 2, 1) := by decide +kernel
theorem dX7_doCut_98 : decode cX7_doCut 98 = .ok (.invokevirtual 47, 3) := by decide +kernel
theorem dX7_doCut_101 : decode cX7_doCut 101 = .ok (.istore_n 1, 1) := by decide +kernel
theorem dX7_doCut_102 : decode cX7_doCut 102 = .ok (.aload_n 0, 1) := by decide +kernel
theorem dX7_doCut_103 : decode cX7_doCut 103 = .ok (.getfield 7, 3) := by decide +kernel
theorem dX7_doCut_106 : decode cX7_doCut 106 = .ok (.sipush 169, 3) := by decide +kernel
theorem dX7_doCut_109 : decode cX7_doCut 109 = .ok (.dup2, 1) := by decide +kernel
theorem dX7_doCut_110 : decode cX7_doCut 110 = .ok (.iaload, 1) := by decide +kernel
theorem dX7_doCut_111 : decode cX7_doCut 111 = .ok (.iload_n 1, 1) := by decide +kernel
theorem dX7_doCut_112 : decode cX7_doCut 112 = .ok (.iadd, 1) := by decide +kernel
theorem dX7_doCut_113 : decode cX7_doCut 113 = .ok (.iastore, 1) := by decide +kernel
theorem dX7_doCut_114 : decode cX7_doCut 114 = .ok (.aload_n 0, 1) := by decide +kernel
theorem dX7_doCut_115 : decode cX7_doCut 115 = .ok (.bipush 6, 2) := by decide +kernel
theorem dX7_doCut_117 : decode cX7_doCut 117 = .ok (.invokevirtual 35, 3) := by decide +kernel
theorem dX7_doCut_120 : decode cX7_doCut 120 = .ok (.aload_n 0, 1) := by decide +kernel
theorem dX7_doCut_121 : decode cX7_doCut 121 = .ok (.getfield 7, 3) := by decide +kernel
theorem dX7_doCut_124 : decode cX7_doCut 124 = .ok (.sipush 162, 3) := by decide +kernel
theorem dX7_doCut_127 : decode cX7_doCut 127 = .ok (.iconst 0, 1) := by decide +kernel
theorem dX7_doCut_128 : decode cX7_doCut 128 = .ok (.iastore, 1) := by decide +kernel
theorem dX7_doCut_129 : decode cX7_doCut 129 = .ok (.iconst 0, 1) := by decide +kernel
theorem dX7_doCut_130 : decode cX7_doCut 130 = .ok (.istore_n 2, 1) := by decide +kernel
theorem dX7_doCut_131 : decode cX7_doCut 131 = .ok (.iload_n 2, 1) := by decide +kernel
theorem dX7_doCut_132 : decode cX7_doCut 132 = .ok (.bipush 8, 2) := by decide +kernel
theorem dX7_doCut_134 : decode cX7_doCut 134 = .ok (.if_icmp .ge 20, 3) := by decide +kernel
theorem dX7_doCut_137 : decode cX7_doCut 137 = .ok (.aload_n 0, 1) := by decide +kernel
theorem dX7_doCut_138 : decode cX7_doCut 138 = .ok (.getfield 7, 3) := by decide +kernel
theorem dX7_doCut_141 : decode cX7_doCut 141 = .ok (.sipush 128, 3) := by decide +kernel
theorem dX7_doCut_144 : decode cX7_doCut 144 = .ok (.iload_n 2, 1) := by decide +kernel
theorem dX7_doCut_145 : decode cX7_doCut 145 = .ok (.iadd, 1) := by decide +kernel
theorem dX7_doCut_146 : decode cX7_doCut 146 = .ok (.iconst 0, 1) := by decide +kernel
theorem dX7_doCut_147 : decode cX7_doCut 147 = .ok (.iastore, 1) := by decide +kernel
theorem dX7_doCut_148 : decode cX7_doCut 148 = .ok (.iinc 2 1, 3) := by decide +kernel
theorem dX7_doCut_151 : decode cX7_doCut 151 = .ok (.goto (-20), 3) := by decide +kernel
theorem dX7_doCut_154 : decode cX7_doCut 154 = .ok (.iload_n 1, 1) := by decide +kernel
theorem dX7_doCut_155 : decode cX7_doCut 155 = .ok (.ireturn, 1) := by decide +kernel
set_option maxRecDepth 20000 in
theorem ggX7_doFlush_X7_isLine : GoodIn wsX7_doFlush wsX7_isLine := goodIn_r _ [7, 8, 9, 10, 6, 11] (by decide +kernel) (by decide +kernel)
set_option maxRecDepth 20000 in
theorem gX7_doFlush_X7_isLine : GoodIn wsX7_doFlush (va_wsS RX7 97 yX7_isLine wsX7_isLine) := goodIn_app (goodIn_of _ (by decide +kernel)) ggX7_doFlush_X7_isLine
set_option maxRecDepth 20000 in
theorem ggX7_doFlush_X7_flushes : GoodIn wsX7_doFlush wsX7_flushes := goodIn_r _ [15, 2, 16, 17, 18, 6, 19, 20, 21, 22, 23, 28, 29, 30, 31, 32, 33, 34, 35, 36, 37, 38, 39, 40, 41] (by decide +kernel) (by decide +kernel)
set_option maxRecDepth 20000 in
theorem gX7_doFlush_X7_flushes : GoodIn wsX7_doFlush (wsV RX7 57 RX7 yX7_flushes wsX7_flushes) := goodIn_app (goodIn_of _ (by decide +kernel)) ggX7_doFlush_X7_flushes
set_option maxRecDepth 20000 in
theorem ggX7_doFlush_X7_many : GoodIn wsX7_doFlush wsX7_many := goodIn_r _ [27, 2, 28, 29, 30, 31, 32, 33, 34, 35, 36, 37, 38, 39, 40, 41] (by decide +kernel) (by decide +kernel)
set_option maxRecDepth 20000 in
theorem gX7_doFlush_X7_many : GoodIn wsX7_doFlush (wsV RX7 47 RX7 yX7_many wsX7_many) := goodIn_app (goodIn_of _ (by decide +kernel)) ggX7_doFlush_X7_many
theorem dX7_doFlush_0 : decode cX7_doFlush 0 = .ok (.iload_n 1, 1) := by decide +kernel
theorem dX7_doFlush_1 : decode cX7_doFlush 1 = .ok (.invokestatic 97, 3) := by decide +kernel
theorem dX7_doFlush_4 : decode cX7_doFlush 4 = .ok (.ifCond .ne 6, 3) := by decide +kernel
theorem dX7_doFlush_7 : decode cX7_doFlush 7 = .ok (.ldc 73, 2) := by decide +kernel
theorem dX7_doFlush_9 : decode cX7_doFlush 9 = .ok (.ireturn, 1) := by decide +kernel
theorem dX7_doFlush_10 : decode cX7_doFlush 10 = .ok (.aload_n 0, 1) := by decide +kernel
theorem dX7_doFlush_11 : decode cX7_doFlush 11 = .ok (.getfield 7, 3) := by decide +kernel
theorem dX7_doFlush_14 : decode cX7_doFlush 14 = .ok (.sipush 128, 3) := by decide +kernel
theorem dX7_doFlush_17 : decode cX7_doFlush 17 = .ok (.iload_n 1, 1) := by decide +kernel
theorem dX7_doFlush_18 : decode cX7_doFlush 18 = .ok (.iadd, 1) := by decide +kernel
theorem dX7_doFlush_19 : decode cX7_doFlush 19 = .ok (.iaload, 1) := by decide +kernel
theorem dX7_doFlush_20 : decode cX7_doFlush 20 = .ok (.iconst 2, 1) := by decide +kernel
theorem dX7_doFlush_21 : decode cX7_doFlush 21 = .ok (.if_icmp .eq 6, 3) := by decide +kernel
theorem dX7_doFlush_24 : decode cX7_doFlush 24 = .ok (.ldc 96, 2) := by decide +kernel
theorem dX7_doFlush_26 : decode cX7_doFlush 26 = .ok (.ireturn, 1) := by decide +kernel
theorem dX7_doFlush_27 : decode cX7_doFlush 27 = .ok (.aload_n 0, 1) := by decide +kernel
theorem dX7_doFlush_28 : decode cX7_doFlush 28 = .ok (.iload_n 1, 1) := by decide +kernel
theorem dX7_doFlush_29 : decode cX7_doFlush 29 = .ok (.invokevirtual 57, 3) := by decide +kernel
theorem dX7_doFlush_32 : decode cX7_doFlush 32 = .ok (.aload_n 0, 1) := by decide +kernel
theorem dX7_doFlush_33 : decode cX7_doFlush 33 = .ok (.iconst 2, 1) := by decide +kernel
theorem dX7_doFlush_34 : decode cX7_doFlush 34 = .ok (.invokevirtual 47, 3) := by decide +kernel
theorem dX7_doFlush_37 : decode cX7_doFlush 37 = .ok (.ireturn, 1) := by decide +kernel
set_option maxRecDepth 20000 in
theorem ggX7_doSet_X7_in : GoodIn wsX7_doSet wsX7_in := goodIn_r _ [8] (by decide +kernel) (by decide +kernel)
set_option maxRecDepth 20000 in
theorem gX7_doSet_X7_in : GoodIn wsX7_doSet (va_wsS RX7 29 yX7_in wsX7_in) := goodIn_app (goodIn_of _ (by decide +kernel)) ggX7_doSet_X7_in
theorem dX7_doSet_0 : decode cX7_doSet 0 = .ok (.iload_n 1, 1) := by decide +kernel
theorem dX7_doSet_1 : decode cX7_doSet 1 = .ok (.ifCond .eq 8, 3) := by decide +kernel
theorem dX7_doSet_4 : decode cX7_doSet 4 = .ok (.iload_n 1, 1) := by decide +kernel
theorem dX7_doSet_5 : decode cX7_doSet 5 = .ok (.iconst 3, 1) := by decide +kernel
theorem dX7_doSet_6 : decode cX7_doSet 6 = .ok (.if_icmp .ne 15, 3) := by decide +kernel
theorem dX7_doSet_9 : decode cX7_doSet 9 = .ok (.iload_n 2, 1) := by decide +kernel
theorem dX7_doSet_10 : decode cX7_doSet 10 = .ok (.i2l, 1) := by decide +kernel
theorem dX7_doSet_11 : decode cX7_doSet 11 = .ok (.lconst 1, 1) := by decide +kernel
theorem dX7_doSet_12 : decode cX7_doSet 12 = .ok (.ldc2_w 100, 3) := by decide +kernel
theorem dX7_doSet_15 : decode cX7_doSet 15 = .ok (.invokestatic 29, 3) := by decide +kernel
theorem dX7_doSet_18 : decode cX7_doSet 18 = .ok (.goto 42, 3) := by decide +kernel
theorem dX7_doSet_21 : decode cX7_doSet 21 = .ok (.iload_n 1, 1) := by decide +kernel
theorem dX7_doSet_22 : decode cX7_doSet 22 = .ok (.iconst 1, 1) := by decide +kernel
theorem dX7_doSet_23 : decode cX7_doSet 23 = .ok (.if_icmp .ne 15, 3) := by decide +kernel
theorem dX7_doSet_26 : decode cX7_doSet 26 = .ok (.iload_n 2, 1) := by decide +kernel
theorem dX7_doSet_27 : decode cX7_doSet 27 = .ok (.i2l, 1) := by decide +kernel
theorem dX7_doSet_28 : decode cX7_doSet 28 = .ok (.lconst 0, 1) := by decide +kernel
theorem dX7_doSet_29 : decode cX7_doSet 29 = .ok (.ldc2_w 100, 3) := by decide +kernel
theorem dX7_doSet_32 : decode cX7_doSet 32 = .ok (.invokestatic 29, 3) := by decide +kernel
theorem dX7_doSet_35 : decode cX7_doSet 35 = .ok (.goto 25, 3) := by decide +kernel
theorem dX7_doSet_38 : decode cX7_doSet 38 = .ok (.iload_n 1, 1) := by decide +kernel
theorem dX7_doSet_39 : decode cX7_doSet 39 = .ok (.iconst 2, 1) := by decide +kernel
theorem dX7_doSet_40 : decode cX7_doSet 40 = .ok (.if_icmp .ne 19, 3) := by decide +kernel
theorem dX7_doSet_43 : decode cX7_doSet 43 = .ok (.iload_n 2, 1) := by decide +kernel
theorem dX7_doSet_44 : decode cX7_doSet 44 = .ok (.i2l, 1) := by decide +kernel
theorem dX7_doSet_45 : decode cX7_doSet 45 = .ok (.lconst 0, 1) := by decide +kernel
theorem dX7_doSet_46 : decode cX7_doSet 46 = .ok (.ldc2_w 102, 3) := by decide +kernel
theorem dX7_doSet_49 : decode cX7_doSet 49 = .ok (.invokestatic 29, 3) := by decide +kernel
theorem dX7_doSet_52 : decode cX7_doSet 52 = .ok (.ifCond .eq 7, 3) := by decide +kernel
theorem dX7_doSet_55 : decode cX7_doSet 55 = .ok (.iconst 1, 1) := by decide +kernel
theorem dX7_doSet_56 : decode cX7_doSet 56 = .ok (.goto 4, 3) := by decide +kernel
theorem dX7_doSet_59 : decode cX7_doSet 59 = .ok (.iconst 0, 1) := by decide +kernel
theorem dX7_doSet_60 : decode cX7_doSet 60 = .ok (.istore_n 3, 1) := by decide +kernel
theorem dX7_doSet_61 : decode cX7_doSet 61 = .ok (.iload_n 3, 1) := by decide +kernel
theorem dX7_doSet_62 : decode cX7_doSet 62 = .ok (.ifCond .ne 6, 3) := by decide +kernel
theorem dX7_doSet_65 : decode cX7_doSet 65 = .ok (.ldc 73, 2) := by decide +kernel
theorem dX7_doSet_67 : decode cX7_doSet 67 = .ok (.ireturn, 1) := by decide +kernel
theorem dX7_doSet_68 : decode cX7_doSet 68 = .ok (.aload_n 0, 1) := by decide +kernel
theorem dX7_doSet_69 : decode cX7_doSet 69 = .ok (.getfield 7, 3) := by decide +kernel
theorem dX7_doSet_72 : decode cX7_doSet 72 = .ok (.sipush 174, 3) := by decide +kernel
theorem dX7_doSet_75 : decode cX7_doSet 75 = .ok (.iload_n 1, 1) := by decide +kernel
theorem dX7_doSet_76 : decode cX7_doSet 76 = .ok (.iadd, 1) := by decide +kernel
theorem dX7_doSet_77 : decode cX7_doSet 77 = .ok (.iaload, 1) := by decide +kernel
theorem dX7_doSet_78 : decode cX7_doSet 78 = .ok (.istore 4, 2) := by decide +kernel
theorem dX7_doSet_80 : decode cX7_doSet 80 = .ok (.aload_n 0, 1) := by decide +kernel
theorem dX7_doSet_81 : decode cX7_doSet 81 = .ok (.getfield 7, 3) := by decide +kernel
theorem dX7_doSet_84 : decode cX7_doSet 84 = .ok (.sipush 174, 3) := by decide +kernel
theorem dX7_doSet_87 : decode cX7_doSet 87 = .ok (.iload_n 1, 1) := by decide +kernel
theorem dX7_doSet_88 : decode cX7_doSet 88 = .ok (.iadd, 1) := by decide +kernel
theorem dX7_doSet_89 : decode cX7_doSet 89 = .ok (.iload_n 2, 1) := by decide +kernel
theorem dX7_doSet_90 : decode cX7_doSet 90 = .ok (.iastore, 1) := by decide +kernel
theorem dX7_doSet_91 : decode cX7_doSet 91 = .ok (.iload 4, 2) := by decide +kernel
theorem dX7_doSet_93 : decode cX7_doSet 93 = .ok (.ireturn, 1) := by decide +kernel
set_option maxRecDepth 20000 in
theorem ggX7_read_X7_keep : GoodIn wsX7_read wsX7_keep := goodIn_r _ [5, 6, 7, 55, 56, 57, 58, 59, 60, 61, 62, 63, 64, 65, 66, 67, 68] (by decide +kernel) (by decide +kernel)
set_option maxRecDepth 20000 in
theorem gX7_read_X7_keep : GoodIn wsX7_read (wsV RX7 104 RX7 yX7_keep wsX7_keep) := goodIn_app (goodIn_of _ (by decide +kernel)) ggX7_read_X7_keep
set_option maxRecDepth 20000 in
theorem ggX7_read_X7_doRead : GoodIn wsX7_read wsX7_doRead := goodIn_r _ [11, 7, 12, 13, 14, 4, 15, 16, 17, 18, 19, 20, 21, 22, 23, 24, 25, 26, 27, 28, 29, 30, 31, 32, 33, 34, 35, 36, 37, 38, 39, 40, 41, 42, 43, 44, 45, 46, 47, 55, 56, 57, 58, 59, 60, 61, 62, 63, 64, 65, 66, 67, 68] (by decide +kernel) (by decide +kernel)
set_option maxRecDepth 20000 in
theorem gX7_read_X7_doRead : GoodIn wsX7_read (wsV RX7 107 RX7 yX7_doRead wsX7_doRead) := goodIn_app (goodIn_of _ (by decide +kernel)) ggX7_read_X7_doRead
set_option maxRecDepth 20000 in
theorem ggX7_read_X7_changed : GoodIn wsX7_read wsX7_changed := goodIn_r _ [51, 52, 53, 54, 6, 55, 56, 57, 58, 59, 60, 61, 62, 63, 64, 65, 66, 67, 68] (by decide +kernel) (by decide +kernel)
set_option maxRecDepth 20000 in
theorem gX7_read_X7_changed : GoodIn wsX7_read (wsV RX7 110 RX7 yX7_changed wsX7_changed) := goodIn_app (goodIn_of _ (by decide +kernel)) ggX7_read_X7_changed
theorem dX7_read_0 : decode cX7_read 0 = .ok (.aload_n 0, 1) := by decide +kernel
theorem dX7_read_1 : decode cX7_read 1 = .ok (.invokevirtual 104, 3) := by decide +kernel
theorem dX7_read_4 : decode cX7_read 4 = .ok (.aload_n 0, 1) := by decide +kernel
theorem dX7_read_5 : decode cX7_read 5 = .ok (.aload_n 0, 1) := by decide +kernel
theorem dX7_read_6 : decode cX7_read 6 = .ok (.iload_n 1, 1) := by decide +kernel
theorem dX7_read_7 : decode cX7_read 7 = .ok (.invokevirtual 107, 3) := by decide +kernel
theorem dX7_read_10 : decode cX7_read 10 = .ok (.invokevirtual 110, 3) := by decide +kernel
theorem dX7_read_13 : decode cX7_read 13 = .ok (.ireturn, 1) := by decide +kernel
set_option maxRecDepth 20000 in
theorem ggX7_write_X7_keep : GoodIn wsX7_write wsX7_keep := goodIn_r _ [5, 6, 7, 68, 69, 70, 71, 72, 73, 74, 75, 76, 77, 78, 79, 80, 81] (by decide +kernel) (by decide +kernel)
set_option maxRecDepth 20000 in
theorem gX7_write_X7_keep : GoodIn wsX7_write (wsV RX7 104 RX7 yX7_keep wsX7_keep) := goodIn_app (goodIn_of _ (by decide +kernel)) ggX7_write_X7_keep
set_option maxRecDepth 20000 in
theorem ggX7_write_X7_doWrite : GoodIn wsX7_write wsX7_doWrite := goodIn_r _ [11, 12, 13, 7, 14, 15, 4, 16, 17, 18, 19, 20, 21, 22, 23, 24, 25, 26, 27, 28, 29, 30, 31, 32, 33, 34, 35, 36, 37, 38, 39, 40, 41, 42, 43, 44, 45, 46, 47, 48, 49, 50, 51, 52, 53, 54, 55, 56, 57, 58, 59, 60, 68, 69, 70, 71, 72, 73, 74, 75, 76, 77, 78, 79, 80, 81] (by decide +kernel) (by decide +kernel)
set_option maxRecDepth 20000 in
theorem gX7_write_X7_doWrite : GoodIn wsX7_write (wsV RX7 113 RX7 yX7_doWrite wsX7_doWrite) := goodIn_app (goodIn_of _ (by decide +kernel)) ggX7_write_X7_doWrite
set_option maxRecDepth 20000 in
theorem ggX7_write_X7_changed : GoodIn wsX7_write wsX7_changed := goodIn_r _ [64, 65, 66, 67, 6, 68, 69, 70, 71, 72, 73, 74, 75, 76, 77, 78, 79, 80, 81] (by decide +kernel) (by decide +kernel)
set_option maxRecDepth 20000 in
theorem gX7_write_X7_changed : GoodIn wsX7_write (wsV RX7 110 RX7 yX7_changed wsX7_changed) := goodIn_app (goodIn_of _ (by decide +kernel)) ggX7_write_X7_changed
theorem dX7_write_0 : decode cX7_write 0 = .ok (.aload_n 0, 1) := by decide +kernel
theorem dX7_write_1 : decode cX7_write 1 = .ok (.invokevirtual 104, 3) := by decide +kernel
theorem dX7_write_4 : decode cX7_write 4 = .ok (.aload_n 0, 1) := by decide +kernel
theorem dX7_write_5 : decode cX7_write 5 = .ok (.aload_n 0, 1) := by decide +kernel
theorem dX7_write_6 : decode cX7_write 6 = .ok (.iload_n 1, 1) := by decide +kernel
theorem dX7_write_7 : decode cX7_write 7 = .ok (.iload_n 2, 1) := by decide +kernel
theorem dX7_write_8 : decode cX7_write 8 = .ok (.invokevirtual 113, 3) := by decide +kernel
theorem dX7_write_11 : decode cX7_write 11 = .ok (.invokevirtual 110, 3) := by decide +kernel
theorem dX7_write_14 : decode cX7_write 14 = .ok (.ireturn, 1) := by decide +kernel
set_option maxRecDepth 20000 in
theorem ggX7_flush_X7_keep : GoodIn wsX7_flush wsX7_keep := goodIn_r _ [5, 6, 7, 44, 45, 46, 47, 48, 49, 50, 51, 52, 53, 54, 55, 56, 57] (by decide +kernel) (by decide +kernel)
set_option maxRecDepth 20000 in
theorem gX7_flush_X7_keep : GoodIn wsX7_flush (wsV RX7 104 RX7 yX7_keep wsX7_keep) := goodIn_app (goodIn_of _ (by decide +kernel)) ggX7_flush_X7_keep
set_option maxRecDepth 20000 in
theorem ggX7_flush_X7_doFlush : GoodIn wsX7_flush wsX7_doFlush := goodIn_r _ [11, 12, 7, 13, 14, 15, 4, 16, 17, 18, 19, 20, 21, 22, 23, 24, 25, 26, 27, 28, 29, 30, 31, 32, 33, 34, 35, 36, 44, 45, 46, 47, 48, 49, 50, 51, 52, 53, 54, 55, 56, 57] (by decide +kernel) (by decide +kernel)
set_option maxRecDepth 20000 in
theorem gX7_flush_X7_doFlush : GoodIn wsX7_flush (wsV RX7 117 RX7 yX7_doFlush wsX7_doFlush) := goodIn_app (goodIn_of _ (by decide +kernel)) ggX7_flush_X7_doFlush
set_option maxRecDepth 20000 in
theorem ggX7_flush_X7_changed : GoodIn wsX7_flush wsX7_changed := goodIn_r _ [40, 41, 42, 43, 6, 44, 45, 46, 47, 48, 49, 50, 51, 52, 53, 54, 55, 56, 57] (by decide +kernel) (by decide +kernel)
set_option maxRecDepth 20000 in
theorem gX7_flush_X7_changed : GoodIn wsX7_flush (wsV RX7 110 RX7 yX7_changed wsX7_changed) := goodIn_app (goodIn_of _ (by decide +kernel)) ggX7_flush_X7_changed
theorem dX7_flush_0 : decode cX7_flush 0 = .ok (.aload_n 0, 1) := by decide +kernel
theorem dX7_flush_1 : decode cX7_flush 1 = .ok (.invokevirtual 104, 3) := by decide +kernel
theorem dX7_flush_4 : decode cX7_flush 4 = .ok (.aload_n 0, 1) := by decide +kernel
theorem dX7_flush_5 : decode cX7_flush 5 = .ok (.aload_n 0, 1) := by decide +kernel
theorem dX7_flush_6 : decode cX7_flush 6 = .ok (.iload_n 1, 1) := by decide +kernel
theorem dX7_flush_7 : decode cX7_flush 7 = .ok (.invokevirtual 117, 3) := by decide +kernel
theorem dX7_flush_10 : decode cX7_flush 10 = .ok (.invokevirtual 110, 3) := by decide +kernel
theorem dX7_flush_13 : decode cX7_flush 13 = .ok (.ireturn, 1) := by decide +kernel
set_option maxRecDepth 20000 in
theorem ggX7_tick_X7_keep : GoodIn wsX7_tick wsX7_keep := goodIn_r _ [5, 6, 7, 76, 77, 78, 79, 80, 81, 82, 83, 84, 85, 86, 87, 88, 89] (by decide +kernel) (by decide +kernel)
set_option maxRecDepth 20000 in
theorem gX7_tick_X7_keep : GoodIn wsX7_tick (wsV RX7 104 RX7 yX7_keep wsX7_keep) := goodIn_app (goodIn_of _ (by decide +kernel)) ggX7_tick_X7_keep
set_option maxRecDepth 20000 in
theorem ggX7_tick_X7_doTick : GoodIn wsX7_tick wsX7_doTick := goodIn_r _ [11, 12, 13, 14, 15, 4, 16, 17, 18, 19, 20, 7, 21, 22, 23, 24, 25, 26, 27, 28, 29, 30, 31, 32, 33, 34, 35, 36, 37, 38, 39, 40, 41, 42, 43, 44, 45, 46, 47, 48, 49, 50, 51, 52, 53, 54, 55, 56, 57, 58, 59, 60, 61, 62, 63, 64, 65, 66, 67, 68, 76, 77, 78, 79, 80, 81, 82, 83, 84, 85, 86, 87, 88, 89] (by decide +kernel) (by decide +kernel)
set_option maxRecDepth 20000 in
theorem gX7_tick_X7_doTick : GoodIn wsX7_tick (wsV RX7 120 RX7 yX7_doTick wsX7_doTick) := goodIn_app (goodIn_of _ (by decide +kernel)) ggX7_tick_X7_doTick
set_option maxRecDepth 20000 in
theorem ggX7_tick_X7_changed : GoodIn wsX7_tick wsX7_changed := goodIn_r _ [72, 73, 74, 75, 6, 76, 77, 78, 79, 80, 81, 82, 83, 84, 85, 86, 87, 88, 89] (by decide +kernel) (by decide +kernel)
set_option maxRecDepth 20000 in
theorem gX7_tick_X7_changed : GoodIn wsX7_tick (wsV RX7 110 RX7 yX7_changed wsX7_changed) := goodIn_app (goodIn_of _ (by decide +kernel)) ggX7_tick_X7_changed
theorem dX7_tick_0 : decode cX7_tick 0 = .ok (.aload_n 0, 1) := by decide +kernel
theorem dX7_tick_1 : decode cX7_tick 1 = .ok (.invokevirtual 104, 3) := by decide +kernel
theorem dX7_tick_4 : decode cX7_tick 4 = .ok (.aload_n 0, 1) := by decide +kernel
theorem dX7_tick_5 : decode cX7_tick 5 = .ok (.aload_n 0, 1) := by decide +kernel
theorem dX7_tick_6 : decode cX7_tick 6 = .ok (.iload_n 1, 1) := by decide +kernel
theorem dX7_tick_7 : decode cX7_tick 7 = .ok (.invokevirtual 120, 3) := by decide +kernel
theorem dX7_tick_10 : decode cX7_tick 10 = .ok (.invokevirtual 110, 3) := by decide +kernel
theorem dX7_tick_13 : decode cX7_tick 13 = .ok (.ireturn, 1) := by decide +kernel
set_option maxRecDepth 20000 in
theorem ggX7_load_X7_keep : GoodIn wsX7_load wsX7_keep := goodIn_r _ [5, 6, 7, 60, 61, 62, 63, 64, 65, 66, 67, 68, 69, 70, 71, 72, 73] (by decide +kernel) (by decide +kernel)
set_option maxRecDepth 20000 in
theorem gX7_load_X7_keep : GoodIn wsX7_load (wsV RX7 104 RX7 yX7_keep wsX7_keep) := goodIn_app (goodIn_of _ (by decide +kernel)) ggX7_load_X7_keep
set_option maxRecDepth 20000 in
theorem ggX7_load_X7_doLoad : GoodIn wsX7_load wsX7_doLoad := goodIn_r _ [11, 12, 13, 14, 15, 4, 16, 17, 18, 19, 20, 7, 21, 22, 23, 24, 25, 26, 27, 28, 29, 30, 31, 32, 33, 34, 35, 36, 37, 38, 39, 40, 41, 42, 43, 44, 45, 46, 47, 48, 49, 50, 51, 52, 60, 61, 62, 63, 64, 65, 66, 67, 68, 69, 70, 71, 72, 73] (by decide +kernel) (by decide +kernel)
set_option maxRecDepth 20000 in
theorem gX7_load_X7_doLoad : GoodIn wsX7_load (wsV RX7 123 RX7 yX7_doLoad wsX7_doLoad) := goodIn_app (goodIn_of _ (by decide +kernel)) ggX7_load_X7_doLoad
set_option maxRecDepth 20000 in
theorem ggX7_load_X7_changed : GoodIn wsX7_load wsX7_changed := goodIn_r _ [56, 57, 58, 59, 6, 60, 61, 62, 63, 64, 65, 66, 67, 68, 69, 70, 71, 72, 73] (by decide +kernel) (by decide +kernel)
set_option maxRecDepth 20000 in
theorem gX7_load_X7_changed : GoodIn wsX7_load (wsV RX7 110 RX7 yX7_changed wsX7_changed) := goodIn_app (goodIn_of _ (by decide +kernel)) ggX7_load_X7_changed
theorem dX7_load_0 : decode cX7_load 0 = .ok (.aload_n 0, 1) := by decide +kernel
theorem dX7_load_1 : decode cX7_load 1 = .ok (.invokevirtual 104, 3) := by decide +kernel
theorem dX7_load_4 : decode cX7_load 4 = .ok (.aload_n 0, 1) := by decide +kernel
theorem dX7_load_5 : decode cX7_load 5 = .ok (.aload_n 0, 1) := by decide +kernel
theorem dX7_load_6 : decode cX7_load 6 = .ok (.iload_n 1, 1) := by decide +kernel
theorem dX7_load_7 : decode cX7_load 7 = .ok (.invokevirtual 123, 3) := by decide +kernel
theorem dX7_load_10 : decode cX7_load 10 = .ok (.invokevirtual 110, 3) := by decide +kernel
theorem dX7_load_13 : decode cX7_load 13 = .ok (.ireturn, 1) := by decide +kernel
set_option maxRecDepth 20000 in
theorem ggX7_learn_X7_keep : GoodIn wsX7_learn wsX7_keep := goodIn_r _ [5, 6, 7, 52, 53, 54, 55, 56, 57, 58, 59, 60, 61, 62, 63, 64, 65] (by decide +kernel) (by decide +kernel)
set_option maxRecDepth 20000 in
theorem gX7_learn_X7_keep : GoodIn wsX7_learn (wsV RX7 104 RX7 yX7_keep wsX7_keep) := goodIn_app (goodIn_of _ (by decide +kernel)) ggX7_learn_X7_keep
set_option maxRecDepth 20000 in
theorem ggX7_learn_X7_doLearn : GoodIn wsX7_learn wsX7_doLearn := goodIn_r _ [11, 7, 12, 13, 14, 15, 4, 16, 17, 18, 19, 20, 21, 22, 23, 24, 25, 26, 27, 28, 29, 30, 31, 32, 33, 34, 35, 36, 37, 38, 39, 40, 41, 42, 43, 44, 52, 53, 54, 55, 56, 57, 58, 59, 60, 61, 62, 63, 64, 65] (by decide +kernel) (by decide +kernel)
set_option maxRecDepth 20000 in
theorem gX7_learn_X7_doLearn : GoodIn wsX7_learn (wsV RX7 126 RX7 yX7_doLearn wsX7_doLearn) := goodIn_app (goodIn_of _ (by decide +kernel)) ggX7_learn_X7_doLearn
set_option maxRecDepth 20000 in
theorem ggX7_learn_X7_changed : GoodIn wsX7_learn wsX7_changed := goodIn_r _ [48, 49, 50, 51, 6, 52, 53, 54, 55, 56, 57, 58, 59, 60, 61, 62, 63, 64, 65] (by decide +kernel) (by decide +kernel)
set_option maxRecDepth 20000 in
theorem gX7_learn_X7_changed : GoodIn wsX7_learn (wsV RX7 110 RX7 yX7_changed wsX7_changed) := goodIn_app (goodIn_of _ (by decide +kernel)) ggX7_learn_X7_changed
theorem dX7_learn_0 : decode cX7_learn 0 = .ok (.aload_n 0, 1) := by decide +kernel
theorem dX7_learn_1 : decode cX7_learn 1 = .ok (.invokevirtual 104, 3) := by decide +kernel
theorem dX7_learn_4 : decode cX7_learn 4 = .ok (.aload_n 0, 1) := by decide +kernel
theorem dX7_learn_5 : decode cX7_learn 5 = .ok (.aload_n 0, 1) := by decide +kernel
theorem dX7_learn_6 : decode cX7_learn 6 = .ok (.invokevirtual 126, 3) := by decide +kernel
theorem dX7_learn_9 : decode cX7_learn 9 = .ok (.invokevirtual 110, 3) := by decide +kernel
theorem dX7_learn_12 : decode cX7_learn 12 = .ok (.ireturn, 1) := by decide +kernel
set_option maxRecDepth 20000 in
theorem ggX7_cut_X7_keep : GoodIn wsX7_cut wsX7_keep := goodIn_r _ [5, 6, 7, 43, 44, 45, 46, 47, 48, 49, 50, 51, 52, 53, 54, 55, 56] (by decide +kernel) (by decide +kernel)
set_option maxRecDepth 20000 in
theorem gX7_cut_X7_keep : GoodIn wsX7_cut (wsV RX7 104 RX7 yX7_keep wsX7_keep) := goodIn_app (goodIn_of _ (by decide +kernel)) ggX7_cut_X7_keep
set_option maxRecDepth 20000 in
theorem ggX7_cut_X7_doCut : GoodIn wsX7_cut wsX7_doCut := goodIn_r _ [11, 7, 12, 13, 14, 4, 15, 16, 17, 18, 19, 20, 21, 22, 23, 24, 25, 26, 27, 28, 29, 30, 31, 32, 33, 34, 35, 43, 44, 45, 46, 47, 48, 49, 50, 51, 52, 53, 54, 55, 56] (by decide +kernel) (by decide +kernel)
set_option maxRecDepth 20000 in
theorem gX7_cut_X7_doCut : GoodIn wsX7_cut (wsV RX7 129 RX7 yX7_doCut wsX7_doCut) := goodIn_app (goodIn_of _ (by decide +kernel)) ggX7_cut_X7_doCut
set_option maxRecDepth 20000 in
theorem ggX7_cut_X7_changed : GoodIn wsX7_cut wsX7_changed := goodIn_r _ [39, 40, 41, 42, 6, 43, 44, 45, 46, 47, 48, 49, 50, 51, 52, 53, 54, 55, 56] (by decide +kernel) (by decide +kernel)
set_option maxRecDepth 20000 in
theorem gX7_cut_X7_changed : GoodIn wsX7_cut (wsV RX7 110 RX7 yX7_changed wsX7_changed) := goodIn_app (goodIn_of _ (by decide +kernel)) ggX7_cut_X7_changed
theorem dX7_cut_0 : decode cX7_cut 0 = .ok (.aload_n 0, 1) := by decide +kernel
theorem dX7_cut_1 : decode cX7_cut 1 = .ok (.invokevirtual 104, 3) := by decide +kernel
theorem dX7_cut_4 : decode cX7_cut 4 = .ok (.aload_n 0, 1) := by decide +kernel
theorem dX7_cut_5 : decode cX7_cut 5 = .ok (.aload_n 0, 1) := by decide +kernel
theorem dX7_cut_6 : decode cX7_cut 6 = .ok (.invokevirtual 129, 3) := by decide +kernel
theorem dX7_cut_9 : decode cX7_cut 9 = .ok (.invokevirtual 110, 3) := by decide +kernel
theorem dX7_cut_12 : decode cX7_cut 12 = .ok (.ireturn, 1) := by decide +kernel
set_option maxRecDepth 20000 in
theorem ggX7_set_X7_keep : GoodIn wsX7_set wsX7_keep := goodIn_r _ [5, 6, 7, 25, 26, 27, 28, 29, 30, 31, 32, 33, 34, 35, 36, 37, 38] (by decide +kernel) (by decide +kernel)
set_option maxRecDepth 20000 in
theorem gX7_set_X7_keep : GoodIn wsX7_set (wsV RX7 104 RX7 yX7_keep wsX7_keep) := goodIn_app (goodIn_of _ (by decide +kernel)) ggX7_set_X7_keep
set_option maxRecDepth 20000 in
theorem ggX7_set_X7_doSet : GoodIn wsX7_set wsX7_doSet := goodIn_r _ [11, 12, 13, 14, 7, 15, 16, 4, 17, 25, 26, 27, 28, 29, 30, 31, 32, 33, 34, 35, 36, 37, 38] (by decide +kernel) (by decide +kernel)
set_option maxRecDepth 20000 in
theorem gX7_set_X7_doSet : GoodIn wsX7_set (wsV RX7 132 RX7 yX7_doSet wsX7_doSet) := goodIn_app (goodIn_of _ (by decide +kernel)) ggX7_set_X7_doSet
set_option maxRecDepth 20000 in
theorem ggX7_set_X7_changed : GoodIn wsX7_set wsX7_changed := goodIn_r _ [21, 22, 23, 24, 6, 25, 26, 27, 28, 29, 30, 31, 32, 33, 34, 35, 36, 37, 38] (by decide +kernel) (by decide +kernel)
set_option maxRecDepth 20000 in
theorem gX7_set_X7_changed : GoodIn wsX7_set (wsV RX7 110 RX7 yX7_changed wsX7_changed) := goodIn_app (goodIn_of _ (by decide +kernel)) ggX7_set_X7_changed
theorem dX7_set_0 : decode cX7_set 0 = .ok (.aload_n 0, 1) := by decide +kernel
theorem dX7_set_1 : decode cX7_set 1 = .ok (.invokevirtual 104, 3) := by decide +kernel
theorem dX7_set_4 : decode cX7_set 4 = .ok (.aload_n 0, 1) := by decide +kernel
theorem dX7_set_5 : decode cX7_set 5 = .ok (.aload_n 0, 1) := by decide +kernel
theorem dX7_set_6 : decode cX7_set 6 = .ok (.iload_n 1, 1) := by decide +kernel
theorem dX7_set_7 : decode cX7_set 7 = .ok (.iload_n 2, 1) := by decide +kernel
theorem dX7_set_8 : decode cX7_set 8 = .ok (.invokevirtual 132, 3) := by decide +kernel
theorem dX7_set_11 : decode cX7_set 11 = .ok (.invokevirtual 110, 3) := by decide +kernel
theorem dX7_set_14 : decode cX7_set 14 = .ok (.ireturn, 1) := by decide +kernel
theorem dX7_lowerTurns_0 : decode cX7_lowerTurns 0 = .ok (.iconst 0, 1) := by decide +kernel
theorem dX7_lowerTurns_1 : decode cX7_lowerTurns 1 = .ok (.istore_n 2, 1) := by decide +kernel
theorem dX7_lowerTurns_2 : decode cX7_lowerTurns 2 = .ok (.iconst 0, 1) := by decide +kernel
theorem dX7_lowerTurns_3 : decode cX7_lowerTurns 3 = .ok (.istore_n 3, 1) := by decide +kernel
theorem dX7_lowerTurns_4 : decode cX7_lowerTurns 4 = .ok (.iload_n 3, 1) := by decide +kernel
theorem dX7_lowerTurns_5 : decode cX7_lowerTurns 5 = .ok (.bipush 8, 2) := by decide +kernel
theorem dX7_lowerTurns_7 : decode cX7_lowerTurns 7 = .ok (.if_icmp .ge 53, 3) := by decide +kernel
theorem dX7_lowerTurns_10 : decode cX7_lowerTurns 10 = .ok (.iload_n 2, 1) := by decide +kernel
theorem dX7_lowerTurns_11 : decode cX7_lowerTurns 11 = .ok (.aload_n 0, 1) := by decide +kernel
theorem dX7_lowerTurns_12 : decode cX7_lowerTurns 12 = .ok (.getfield 7, 3) := by decide +kernel
theorem dX7_lowerTurns_15 : decode cX7_lowerTurns 15 = .ok (.sipush 128, 3) := by decide +kernel
theorem dX7_lowerTurns_18 : decode cX7_lowerTurns 18 = .ok (.iload_n 3, 1) := by decide +kernel
theorem dX7_lowerTurns_19 : decode cX7_lowerTurns 19 = .ok (.iadd, 1) := by decide +kernel
theorem dX7_lowerTurns_20 : decode cX7_lowerTurns 20 = .ok (.iaload, 1) := by decide +kernel
theorem dX7_lowerTurns_21 : decode cX7_lowerTurns 21 = .ok (.ifCond .eq 30, 3) := by decide +kernel
theorem dX7_lowerTurns_24 : decode cX7_lowerTurns 24 = .ok (.aload_n 0, 1) := by decide +kernel
theorem dX7_lowerTurns_25 : decode cX7_lowerTurns 25 = .ok (.getfield 7, 3) := by decide +kernel
theorem dX7_lowerTurns_28 : decode cX7_lowerTurns 28 = .ok (.sipush 152, 3) := by decide +kernel
theorem dX7_lowerTurns_31 : decode cX7_lowerTurns 31 = .ok (.iload_n 3, 1) := by decide +kernel
theorem dX7_lowerTurns_32 : decode cX7_lowerTurns 32 = .ok (.iadd, 1) := by decide +kernel
theorem dX7_lowerTurns_33 : decode cX7_lowerTurns 33 = .ok (.iaload, 1) := by decide +kernel
theorem dX7_lowerTurns_34 : decode cX7_lowerTurns 34 = .ok (.aload_n 0, 1) := by decide +kernel
theorem dX7_lowerTurns_35 : decode cX7_lowerTurns 35 = .ok (.getfield 7, 3) := by decide +kernel
theorem dX7_lowerTurns_38 : decode cX7_lowerTurns 38 = .ok (.sipush 152, 3) := by decide +kernel
theorem dX7_lowerTurns_41 : decode cX7_lowerTurns 41 = .ok (.iload_n 1, 1) := by decide +kernel
theorem dX7_lowerTurns_42 : decode cX7_lowerTurns 42 = .ok (.iadd, 1) := by decide +kernel
theorem dX7_lowerTurns_43 : decode cX7_lowerTurns 43 = .ok (.iaload, 1) := by decide +kernel
theorem dX7_lowerTurns_44 : decode cX7_lowerTurns 44 = .ok (.if_icmp .ge 7, 3) := by decide +kernel
theorem dX7_lowerTurns_47 : decode cX7_lowerTurns 47 = .ok (.iconst 1, 1) := by decide +kernel
theorem dX7_lowerTurns_48 : decode cX7_lowerTurns 48 = .ok (.goto 4, 3) := by decide +kernel
theorem dX7_lowerTurns_51 : decode cX7_lowerTurns 51 = .ok (.iconst 0, 1) := by decide +kernel
theorem dX7_lowerTurns_52 : decode cX7_lowerTurns 52 = .ok (.iadd, 1) := by decide +kernel
theorem dX7_lowerTurns_53 : decode cX7_lowerTurns 53 = .ok (.istore_n 2, 1) := by decide +kernel
theorem dX7_lowerTurns_54 : decode cX7_lowerTurns 54 = .ok (.iinc 3 1, 3) := by decide +kernel
theorem dX7_lowerTurns_57 : decode cX7_lowerTurns 57 = .ok (.goto (-53), 3) := by decide +kernel
theorem dX7_lowerTurns_60 : decode cX7_lowerTurns 60 = .ok (.iload_n 2, 1) := by decide +kernel
theorem dX7_lowerTurns_61 : decode cX7_lowerTurns 61 = .ok (.ireturn, 1) := by decide +kernel
set_option maxRecDepth 20000 in
theorem ggX7_lineOf_X7_isLine : GoodIn wsX7_lineOf wsX7_isLine := goodIn_r _ [8, 9, 10, 11, 7, 12] (by decide +kernel) (by decide +kernel)
set_option maxRecDepth 20000 in
theorem gX7_lineOf_X7_isLine : GoodIn wsX7_lineOf (va_wsS RX7 97 yX7_isLine wsX7_isLine) := goodIn_app (goodIn_of _ (by decide +kernel)) ggX7_lineOf_X7_isLine
set_option maxRecDepth 20000 in
theorem ggX7_lineOf_X7_in : GoodIn wsX7_lineOf wsX7_in := goodIn_r _ [12] (by decide +kernel) (by decide +kernel)
set_option maxRecDepth 20000 in
theorem gX7_lineOf_X7_in : GoodIn wsX7_lineOf (va_wsS RX7 29 yX7_in wsX7_in) := goodIn_app (goodIn_of _ (by decide +kernel)) ggX7_lineOf_X7_in
set_option maxRecDepth 20000 in
theorem ggX7_lineOf_X7_lowerTurns : GoodIn wsX7_lineOf wsX7_lowerTurns := goodIn_r _ [16, 3, 17, 18, 19, 20, 21, 22, 23, 24, 25, 26, 27, 28, 29, 30] (by decide +kernel) (by decide +kernel)
set_option maxRecDepth 20000 in
theorem gX7_lineOf_X7_lowerTurns : GoodIn wsX7_lineOf (wsV RX7 138 RX7 yX7_lowerTurns wsX7_lowerTurns) := goodIn_app (goodIn_of _ (by decide +kernel)) ggX7_lineOf_X7_lowerTurns
theorem dX7_lineOf_0 : decode cX7_lineOf 0 = .ok (.iload_n 1, 1) := by decide +kernel
theorem dX7_lineOf_1 : decode cX7_lineOf 1 = .ok (.invokestatic 97, 3) := by decide +kernel
theorem dX7_lineOf_4 : decode cX7_lineOf 4 = .ok (.ifCond .eq 15, 3) := by decide +kernel
theorem dX7_lineOf_7 : decode cX7_lineOf 7 = .ok (.iload_n 2, 1) := by decide +kernel
theorem dX7_lineOf_8 : decode cX7_lineOf 8 = .ok (.i2l, 1) := by decide +kernel
theorem dX7_lineOf_9 : decode cX7_lineOf 9 = .ok (.lconst 0, 1) := by decide +kernel
theorem dX7_lineOf_10 : decode cX7_lineOf 10 = .ok (.ldc2_w 135, 3) := by decide +kernel
theorem dX7_lineOf_13 : decode cX7_lineOf 13 = .ok (.invokestatic 29, 3) := by decide +kernel
theorem dX7_lineOf_16 : decode cX7_lineOf 16 = .ok (.ifCond .ne 6, 3) := by decide +kernel
theorem dX7_lineOf_19 : decode cX7_lineOf 19 = .ok (.ldc 73, 2) := by decide +kernel
theorem dX7_lineOf_21 : decode cX7_lineOf 21 = .ok (.ireturn, 1) := by decide +kernel
theorem dX7_lineOf_22 : decode cX7_lineOf 22 = .ok (.iload_n 2, 1) := by decide +kernel
theorem dX7_lineOf_23 : decode cX7_lineOf 23 = .ok (.ifCond .ne 14, 3) := by decide +kernel
theorem dX7_lineOf_26 : decode cX7_lineOf 26 = .ok (.aload_n 0, 1) := by decide +kernel
theorem dX7_lineOf_27 : decode cX7_lineOf 27 = .ok (.getfield 7, 3) := by decide +kernel
theorem dX7_lineOf_30 : decode cX7_lineOf 30 = .ok (.sipush 128, 3) := by decide +kernel
theorem dX7_lineOf_33 : decode cX7_lineOf 33 = .ok (.iload_n 1, 1) := by decide +kernel
theorem dX7_lineOf_34 : decode cX7_lineOf 34 = .ok (.iadd, 1) := by decide +kernel
theorem dX7_lineOf_35 : decode cX7_lineOf 35 = .ok (.iaload, 1) := by decide +kernel
theorem dX7_lineOf_36 : decode cX7_lineOf 36 = .ok (.ireturn, 1) := by decide +kernel
theorem dX7_lineOf_37 : decode cX7_lineOf 37 = .ok (.aload_n 0, 1) := by decide +kernel
theorem dX7_lineOf_38 : decode cX7_lineOf 38 = .ok (.getfield 7, 3) := by decide +kernel
theorem dX7_lineOf_41 : decode cX7_lineOf 41 = .ok (.sipush 128, 3) := by decide +kernel
theorem dX7_lineOf_44 : decode cX7_lineOf 44 = .ok (.iload_n 1, 1) := by decide +kernel
theorem dX7_lineOf_45 : decode cX7_lineOf 45 = .ok (.iadd, 1) := by decide +kernel
theorem dX7_lineOf_46 : decode cX7_lineOf 46 = .ok (.iaload, 1) := by decide +kernel
theorem dX7_lineOf_47 : decode cX7_lineOf 47 = .ok (.ifCond .ne 6, 3) := by decide +kernel
theorem dX7_lineOf_50 : decode cX7_lineOf 50 = .ok (.ldc 137, 2) := by decide +kernel
theorem dX7_lineOf_52 : decode cX7_lineOf 52 = .ok (.ireturn, 1) := by decide +kernel
theorem dX7_lineOf_53 : decode cX7_lineOf 53 = .ok (.iload_n 2, 1) := by decide +kernel
theorem dX7_lineOf_54 : decode cX7_lineOf 54 = .ok (.iconst 1, 1) := by decide +kernel
theorem dX7_lineOf_55 : decode cX7_lineOf 55 = .ok (.if_icmp .ne 16, 3) := by decide +kernel
theorem dX7_lineOf_58 : decode cX7_lineOf 58 = .ok (.aload_n 0, 1) := by decide +kernel
theorem dX7_lineOf_59 : decode cX7_lineOf 59 = .ok (.getfield 7, 3) := by decide +kernel
theorem dX7_lineOf_62 : decode cX7_lineOf 62 = .ok (.sipush 136, 3) := by decide +kernel
theorem dX7_lineOf_65 : decode cX7_lineOf 65 = .ok (.iload_n 1, 1) := by decide +kernel
theorem dX7_lineOf_66 : decode cX7_lineOf 66 = .ok (.iadd, 1) := by decide +kernel
theorem dX7_lineOf_67 : decode cX7_lineOf 67 = .ok (.iaload, 1) := by decide +kernel
theorem dX7_lineOf_68 : decode cX7_lineOf 68 = .ok (.goto 44, 3) := by decide +kernel
theorem dX7_lineOf_71 : decode cX7_lineOf 71 = .ok (.iload_n 2, 1) := by decide +kernel
theorem dX7_lineOf_72 : decode cX7_lineOf 72 = .ok (.iconst 2, 1) := by decide +kernel
theorem dX7_lineOf_73 : decode cX7_lineOf 73 = .ok (.if_icmp .ne 16, 3) := by decide +kernel
theorem dX7_lineOf_76 : decode cX7_lineOf 76 = .ok (.aload_n 0, 1) := by decide +kernel
theorem dX7_lineOf_77 : decode cX7_lineOf 77 = .ok (.getfield 7, 3) := by decide +kernel
theorem dX7_lineOf_80 : decode cX7_lineOf 80 = .ok (.sipush 144, 3) := by decide +kernel
theorem dX7_lineOf_83 : decode cX7_lineOf 83 = .ok (.iload_n 1, 1) := by decide +kernel
theorem dX7_lineOf_84 : decode cX7_lineOf 84 = .ok (.iadd, 1) := by decide +kernel
theorem dX7_lineOf_85 : decode cX7_lineOf 85 = .ok (.iaload, 1) := by decide +kernel
theorem dX7_lineOf_86 : decode cX7_lineOf 86 = .ok (.goto 26, 3) := by decide +kernel
theorem dX7_lineOf_89 : decode cX7_lineOf 89 = .ok (.iload_n 2, 1) := by decide +kernel
theorem dX7_lineOf_90 : decode cX7_lineOf 90 = .ok (.iconst 3, 1) := by decide +kernel
theorem dX7_lineOf_91 : decode cX7_lineOf 91 = .ok (.if_icmp .ne 16, 3) := by decide +kernel
theorem dX7_lineOf_94 : decode cX7_lineOf 94 = .ok (.aload_n 0, 1) := by decide +kernel
theorem dX7_lineOf_95 : decode cX7_lineOf 95 = .ok (.getfield 7, 3) := by decide +kernel
theorem dX7_lineOf_98 : decode cX7_lineOf 98 = .ok (.sipush 152, 3) := by decide +kernel
theorem dX7_lineOf_101 : decode cX7_lineOf 101 = .ok (.iload_n 1, 1) := by decide +kernel
theorem dX7_lineOf_102 : decode cX7_lineOf 102 = .ok (.iadd, 1) := by decide +kernel
theorem dX7_lineOf_103 : decode cX7_lineOf 103 = .ok (.iaload, 1) := by decide +kernel
theorem dX7_lineOf_104 : decode cX7_lineOf 104 = .ok (.goto 8, 3) := by decide +kernel
theorem dX7_lineOf_107 : decode cX7_lineOf 107 = .ok (.aload_n 0, 1) := by decide +kernel
theorem dX7_lineOf_108 : decode cX7_lineOf 108 = .ok (.iload_n 1, 1) := by decide +kernel
theorem dX7_lineOf_109 : decode cX7_lineOf 109 = .ok (.invokevirtual 138, 3) := by decide +kernel
theorem dX7_lineOf_112 : decode cX7_lineOf 112 = .ok (.ireturn, 1) := by decide +kernel
set_option maxRecDepth 20000 in
theorem ggX7_placeOf_X7_isPlace : GoodIn wsX7_placeOf wsX7_isPlace := goodIn_r _ [8, 9, 10, 11, 7, 12] (by decide +kernel) (by decide +kernel)
set_option maxRecDepth 20000 in
theorem gX7_placeOf_X7_isPlace : GoodIn wsX7_placeOf (va_wsS RX7 66 yX7_isPlace wsX7_isPlace) := goodIn_app (goodIn_of _ (by decide +kernel)) ggX7_placeOf_X7_isPlace
set_option maxRecDepth 20000 in
theorem ggX7_placeOf_X7_in : GoodIn wsX7_placeOf wsX7_in := goodIn_r _ [12] (by decide +kernel) (by decide +kernel)
set_option maxRecDepth 20000 in
theorem gX7_placeOf_X7_in : GoodIn wsX7_placeOf (va_wsS RX7 29 yX7_in wsX7_in) := goodIn_app (goodIn_of _ (by decide +kernel)) ggX7_placeOf_X7_in
set_option maxRecDepth 20000 in
theorem ggX7_placeOf_X7_holder : GoodIn wsX7_placeOf wsX7_holder := goodIn_r _ [16, 3, 17, 18, 19, 20, 21, 22, 23, 24, 25, 26, 27, 28, 29, 30] (by decide +kernel) (by decide +kernel)
set_option maxRecDepth 20000 in
theorem gX7_placeOf_X7_holder : GoodIn wsX7_placeOf (wsV RX7 60 RX7 yX7_holder wsX7_holder) := goodIn_app (goodIn_of _ (by decide +kernel)) ggX7_placeOf_X7_holder
theorem dX7_placeOf_0 : decode cX7_placeOf 0 = .ok (.iload_n 1, 1) := by decide +kernel
theorem dX7_placeOf_1 : decode cX7_placeOf 1 = .ok (.invokestatic 66, 3) := by decide +kernel
theorem dX7_placeOf_4 : decode cX7_placeOf 4 = .ok (.ifCond .eq 15, 3) := by decide +kernel
theorem dX7_placeOf_7 : decode cX7_placeOf 7 = .ok (.iload_n 2, 1) := by decide +kernel
theorem dX7_placeOf_8 : decode cX7_placeOf 8 = .ok (.i2l, 1) := by decide +kernel
theorem dX7_placeOf_9 : decode cX7_placeOf 9 = .ok (.lconst 0, 1) := by decide +kernel
theorem dX7_placeOf_10 : decode cX7_placeOf 10 = .ok (.ldc2_w 141, 3) := by decide +kernel
theorem dX7_placeOf_13 : decode cX7_placeOf 13 = .ok (.invokestatic 29, 3) := by decide +kernel
theorem dX7_placeOf_16 : decode cX7_placeOf 16 = .ok (.ifCond .ne 6, 3) := by decide +kernel
theorem dX7_placeOf_19 : decode cX7_placeOf 19 = .ok (.ldc 73, 2) := by decide +kernel
theorem dX7_placeOf_21 : decode cX7_placeOf 21 = .ok (.ireturn, 1) := by decide +kernel
theorem dX7_placeOf_22 : decode cX7_placeOf 22 = .ok (.aload_n 0, 1) := by decide +kernel
theorem dX7_placeOf_23 : decode cX7_placeOf 23 = .ok (.iload_n 1, 1) := by decide +kernel
theorem dX7_placeOf_24 : decode cX7_placeOf 24 = .ok (.invokevirtual 60, 3) := by decide +kernel
theorem dX7_placeOf_27 : decode cX7_placeOf 27 = .ok (.istore_n 3, 1) := by decide +kernel
theorem dX7_placeOf_28 : decode cX7_placeOf 28 = .ok (.iload_n 2, 1) := by decide +kernel
theorem dX7_placeOf_29 : decode cX7_placeOf 29 = .ok (.tableswitch 75 0 2 #[27, 36, 63], 27) := by decide +kernel
theorem dX7_placeOf_56 : decode cX7_placeOf 56 = .ok (.aload_n 0, 1) := by decide +kernel
theorem dX7_placeOf_57 : decode cX7_placeOf 57 = .ok (.getfield 7, 3) := by decide +kernel
theorem dX7_placeOf_60 : decode cX7_placeOf 60 = .ok (.iconst 0, 1) := by decide +kernel
theorem dX7_placeOf_61 : decode cX7_placeOf 61 = .ok (.iload_n 1, 1) := by decide +kernel
theorem dX7_placeOf_62 : decode cX7_placeOf 62 = .ok (.iadd, 1) := by decide +kernel
theorem dX7_placeOf_63 : decode cX7_placeOf 63 = .ok (.iaload, 1) := by decide +kernel
theorem dX7_placeOf_64 : decode cX7_placeOf 64 = .ok (.ireturn, 1) := by decide +kernel
theorem dX7_placeOf_65 : decode cX7_placeOf 65 = .ok (.iload_n 3, 1) := by decide +kernel
theorem dX7_placeOf_66 : decode cX7_placeOf 66 = .ok (.iconst (-1), 1) := by decide +kernel
theorem dX7_placeOf_67 : decode cX7_placeOf 67 = .ok (.if_icmp .ne 14, 3) := by decide +kernel
theorem dX7_placeOf_70 : decode cX7_placeOf 70 = .ok (.aload_n 0, 1) := by decide +kernel
theorem dX7_placeOf_71 : decode cX7_placeOf 71 = .ok (.getfield 7, 3) := by decide +kernel
theorem dX7_placeOf_74 : decode cX7_placeOf 74 = .ok (.iconst 0, 1) := by decide +kernel
theorem dX7_placeOf_75 : decode cX7_placeOf 75 = .ok (.iload_n 1, 1) := by decide +kernel
theorem dX7_placeOf_76 : decode cX7_placeOf 76 = .ok (.iadd, 1) := by decide +kernel
theorem dX7_placeOf_77 : decode cX7_placeOf 77 = .ok (.iaload, 1) := by decide +kernel
theorem dX7_placeOf_78 : decode cX7_placeOf 78 = .ok (.goto 13, 3) := by decide +kernel
theorem dX7_placeOf_81 : decode cX7_placeOf 81 = .ok (.aload_n 0, 1) := by decide +kernel
theorem dX7_placeOf_82 : decode cX7_placeOf 82 = .ok (.getfield 7, 3) := by decide +kernel
theorem dX7_placeOf_85 : decode cX7_placeOf 85 = .ok (.sipush 144, 3) := by decide +kernel
theorem dX7_placeOf_88 : decode cX7_placeOf 88 = .ok (.iload_n 3, 1) := by decide +kernel
theorem dX7_placeOf_89 : decode cX7_placeOf 89 = .ok (.iadd, 1) := by decide +kernel
theorem dX7_placeOf_90 : decode cX7_placeOf 90 = .ok (.iaload, 1) := by decide +kernel
theorem dX7_placeOf_91 : decode cX7_placeOf 91 = .ok (.ireturn, 1) := by decide +kernel
theorem dX7_placeOf_92 : decode cX7_placeOf 92 = .ok (.iload_n 3, 1) := by decide +kernel
theorem dX7_placeOf_93 : decode cX7_placeOf 93 = .ok (.iconst (-1), 1) := by decide +kernel
theorem dX7_placeOf_94 : decode cX7_placeOf 94 = .ok (.if_icmp .ne 8, 3) := by decide +kernel
theorem dX7_placeOf_97 : decode cX7_placeOf 97 = .ok (.ldc 137, 2) := by decide +kernel
theorem dX7_placeOf_99 : decode cX7_placeOf 99 = .ok (.goto 4, 3) := by decide +kernel
theorem dX7_placeOf_102 : decode cX7_placeOf 102 = .ok (.iload_n 3, 1) := by decide +kernel
theorem dX7_placeOf_103 : decode cX7_placeOf 103 = .ok (.ireturn, 1) := by decide +kernel
theorem dX7_placeOf_104 : decode cX7_placeOf 104 = .ok (.aload_n 0, 1) := by decide +kernel
theorem dX7_placeOf_105 : decode cX7_placeOf 105 = .ok (.getfield 7, 3) := by decide +kernel
theorem dX7_placeOf_108 : decode cX7_placeOf 108 = .ok (.bipush 64, 2) := by decide +kernel
theorem dX7_placeOf_110 : decode cX7_placeOf 110 = .ok (.iload_n 1, 1) := by decide +kernel
theorem dX7_placeOf_111 : decode cX7_placeOf 111 = .ok (.iadd, 1) := by decide +kernel
theorem dX7_placeOf_112 : decode cX7_placeOf 112 = .ok (.iaload, 1) := by decide +kernel
theorem dX7_placeOf_113 : decode cX7_placeOf 113 = .ok (.ireturn, 1) := by decide +kernel
set_option maxRecDepth 20000 in
theorem ggX7_saved_X7_setting : GoodIn wsX7_saved wsX7_setting := goodIn_r _ [6, 1, 11, 12, 13, 14, 15, 16, 17, 18, 19, 20, 21, 22, 23, 24] (by decide +kernel) (by decide +kernel)
set_option maxRecDepth 20000 in
theorem gX7_saved_X7_setting : GoodIn wsX7_saved (wsV RX7 43 RX7 yX7_setting wsX7_setting) := goodIn_app (goodIn_of _ (by decide +kernel)) ggX7_saved_X7_setting
set_option maxRecDepth 20000 in
theorem ggX7_saved_X7_many : GoodIn wsX7_saved wsX7_many := goodIn_r _ [10, 1, 11, 12, 13, 14, 15, 16, 17, 18, 19, 20, 21, 22, 23, 24] (by decide +kernel) (by decide +kernel)
set_option maxRecDepth 20000 in
theorem gX7_saved_X7_many : GoodIn wsX7_saved (wsV RX7 47 RX7 yX7_many wsX7_many) := goodIn_app (goodIn_of _ (by decide +kernel)) ggX7_saved_X7_many
theorem dX7_saved_0 : decode cX7_saved 0 = .ok (.aload_n 0, 1) := by decide +kernel
theorem dX7_saved_1 : decode cX7_saved 1 = .ok (.getfield 7, 3) := by decide +kernel
theorem dX7_saved_4 : decode cX7_saved 4 = .ok (.sipush 160, 3) := by decide +kernel
theorem dX7_saved_7 : decode cX7_saved 7 = .ok (.iaload, 1) := by decide +kernel
theorem dX7_saved_8 : decode cX7_saved 8 = .ok (.aload_n 0, 1) := by decide +kernel
theorem dX7_saved_9 : decode cX7_saved 9 = .ok (.iconst 1, 1) := by decide +kernel
theorem dX7_saved_10 : decode cX7_saved 10 = .ok (.invokevirtual 43, 3) := by decide +kernel
theorem dX7_saved_13 : decode cX7_saved 13 = .ok (.if_icmp .ge 5, 3) := by decide +kernel
theorem dX7_saved_16 : decode cX7_saved 16 = .ok (.iconst 0, 1) := by decide +kernel
theorem dX7_saved_17 : decode cX7_saved 17 = .ok (.ireturn, 1) := by decide +kernel
theorem dX7_saved_18 : decode cX7_saved 18 = .ok (.aload_n 0, 1) := by decide +kernel
theorem dX7_saved_19 : decode cX7_saved 19 = .ok (.getfield 7, 3) := by decide +kernel
theorem dX7_saved_22 : decode cX7_saved 22 = .ok (.sipush 160, 3) := by decide +kernel
theorem dX7_saved_25 : decode cX7_saved 25 = .ok (.iaload, 1) := by decide +kernel
theorem dX7_saved_26 : decode cX7_saved 26 = .ok (.aload_n 0, 1) := by decide +kernel
theorem dX7_saved_27 : decode cX7_saved 27 = .ok (.iconst 1, 1) := by decide +kernel
theorem dX7_saved_28 : decode cX7_saved 28 = .ok (.invokevirtual 43, 3) := by decide +kernel
theorem dX7_saved_31 : decode cX7_saved 31 = .ok (.isub, 1) := by decide +kernel
theorem dX7_saved_32 : decode cX7_saved 32 = .ok (.aload_n 0, 1) := by decide +kernel
theorem dX7_saved_33 : decode cX7_saved 33 = .ok (.iconst 0, 1) := by decide +kernel
theorem dX7_saved_34 : decode cX7_saved 34 = .ok (.invokevirtual 43, 3) := by decide +kernel
theorem dX7_saved_37 : decode cX7_saved 37 = .ok (.idiv, 1) := by decide +kernel
theorem dX7_saved_38 : decode cX7_saved 38 = .ok (.istore_n 1, 1) := by decide +kernel
theorem dX7_saved_39 : decode cX7_saved 39 = .ok (.iload_n 1, 1) := by decide +kernel
theorem dX7_saved_40 : decode cX7_saved 40 = .ok (.aload_n 0, 1) := by decide +kernel
theorem dX7_saved_41 : decode cX7_saved 41 = .ok (.iconst 2, 1) := by decide +kernel
theorem dX7_saved_42 : decode cX7_saved 42 = .ok (.invokevirtual 47, 3) := by decide +kernel
theorem dX7_saved_45 : decode cX7_saved 45 = .ok (.if_icmp .ge 7, 3) := by decide +kernel
theorem dX7_saved_48 : decode cX7_saved 48 = .ok (.iload_n 1, 1) := by decide +kernel
theorem dX7_saved_49 : decode cX7_saved 49 = .ok (.goto 8, 3) := by decide +kernel
theorem dX7_saved_52 : decode cX7_saved 52 = .ok (.aload_n 0, 1) := by decide +kernel
theorem dX7_saved_53 : decode cX7_saved 53 = .ok (.iconst 2, 1) := by decide +kernel
theorem dX7_saved_54 : decode cX7_saved 54 = .ok (.invokevirtual 47, 3) := by decide +kernel
theorem dX7_saved_57 : decode cX7_saved 57 = .ok (.ireturn, 1) := by decide +kernel
set_option maxRecDepth 20000 in
theorem ggX7_battery_X7_capacity : GoodIn wsX7_battery wsX7_capacity := goodIn_r _ [7, 1, 24, 25, 26, 27, 28, 29, 30, 31, 32, 33, 34, 35, 36, 37] (by decide +kernel) (by decide +kernel)
set_option maxRecDepth 20000 in
theorem gX7_battery_X7_capacity : GoodIn wsX7_battery (wsV RX7 76 RX7 yX7_capacity wsX7_capacity) := goodIn_app (goodIn_of _ (by decide +kernel)) ggX7_battery_X7_capacity
set_option maxRecDepth 20000 in
theorem ggX7_battery_X7_allowance : GoodIn wsX7_battery wsX7_allowance := goodIn_r _ [11, 1, 12, 13, 14, 6, 15, 24, 25, 26, 27, 28, 29, 30, 31, 32, 33, 34, 35, 36, 37] (by decide +kernel) (by decide +kernel)
set_option maxRecDepth 20000 in
theorem gX7_battery_X7_allowance : GoodIn wsX7_battery (wsV RX7 50 RX7 yX7_allowance wsX7_allowance) := goodIn_app (goodIn_of _ (by decide +kernel)) ggX7_battery_X7_allowance
set_option maxRecDepth 20000 in
theorem ggX7_battery_X7_saved : GoodIn wsX7_battery wsX7_saved := goodIn_r _ [19, 1, 12, 13, 14, 6, 15, 20, 21, 22, 23, 24, 25, 26, 27, 28, 29, 30, 31, 32, 33, 34, 35, 36, 37] (by decide +kernel) (by decide +kernel)
set_option maxRecDepth 20000 in
theorem gX7_battery_X7_saved : GoodIn wsX7_battery (wsV RX7 143 RX7 yX7_saved wsX7_saved) := goodIn_app (goodIn_of _ (by decide +kernel)) ggX7_battery_X7_saved
theorem dX7_battery_0 : decode cX7_battery 0 = .ok (.iload_n 1, 1) := by decide +kernel
theorem dX7_battery_1 : decode cX7_battery 1 = .ok (.tableswitch 81 0 5 #[39, 48, 53, 62, 67, 76], 39) := by decide +kernel
theorem dX7_battery_40 : decode cX7_battery 40 = .ok (.aload_n 0, 1) := by decide +kernel
theorem dX7_battery_41 : decode cX7_battery 41 = .ok (.getfield 7, 3) := by decide +kernel
theorem dX7_battery_44 : decode cX7_battery 44 = .ok (.sipush 160, 3) := by decide +kernel
theorem dX7_battery_47 : decode cX7_battery 47 = .ok (.iaload, 1) := by decide +kernel
theorem dX7_battery_48 : decode cX7_battery 48 = .ok (.ireturn, 1) := by decide +kernel
theorem dX7_battery_49 : decode cX7_battery 49 = .ok (.aload_n 0, 1) := by decide +kernel
theorem dX7_battery_50 : decode cX7_battery 50 = .ok (.invokevirtual 76, 3) := by decide +kernel
theorem dX7_battery_53 : decode cX7_battery 53 = .ok (.ireturn, 1) := by decide +kernel
theorem dX7_battery_54 : decode cX7_battery 54 = .ok (.aload_n 0, 1) := by decide +kernel
theorem dX7_battery_55 : decode cX7_battery 55 = .ok (.getfield 7, 3) := by decide +kernel
theorem dX7_battery_58 : decode cX7_battery 58 = .ok (.sipush 161, 3) := by decide +kernel
theorem dX7_battery_61 : decode cX7_battery 61 = .ok (.iaload, 1) := by decide +kernel
theorem dX7_battery_62 : decode cX7_battery 62 = .ok (.ireturn, 1) := by decide +kernel
theorem dX7_battery_63 : decode cX7_battery 63 = .ok (.aload_n 0, 1) := by decide +kernel
theorem dX7_battery_64 : decode cX7_battery 64 = .ok (.invokevirtual 50, 3) := by decide +kernel
theorem dX7_battery_67 : decode cX7_battery 67 = .ok (.ireturn, 1) := by decide +kernel
theorem dX7_battery_68 : decode cX7_battery 68 = .ok (.aload_n 0, 1) := by decide +kernel
theorem dX7_battery_69 : decode cX7_battery 69 = .ok (.getfield 7, 3) := by decide +kernel
theorem dX7_battery_72 : decode cX7_battery 72 = .ok (.sipush 162, 3) := by decide +kernel
theorem dX7_battery_75 : decode cX7_battery 75 = .ok (.iaload, 1) := by decide +kernel
theorem dX7_battery_76 : decode cX7_battery 76 = .ok (.ireturn, 1) := by decide +kernel
theorem dX7_battery_77 : decode cX7_battery 77 = .ok (.aload_n 0, 1) := by decide +kernel
theorem dX7_battery_78 : decode cX7_battery 78 = .ok (.invokevirtual 143, 3) := by decide +kernel
theorem dX7_battery_81 : decode cX7_battery 81 = .ok (.ireturn, 1) := by decide +kernel
theorem dX7_battery_82 : decode cX7_battery 82 = .ok (.ldc 73, 2) := by decide +kernel
theorem dX7_battery_84 : decode cX7_battery 84 = .ok (.ireturn, 1) := by decide +kernel
theorem dX7_setOf_0 : decode cX7_setOf 0 = .ok (.iconst 0, 1) := by decide +kernel
theorem dX7_setOf_1 : decode cX7_setOf 1 = .ok (.istore_n 2, 1) := by decide +kernel
theorem dX7_setOf_2 : decode cX7_setOf 2 = .ok (.iconst 0, 1) := by decide +kernel
theorem dX7_setOf_3 : decode cX7_setOf 3 = .ok (.istore_n 3, 1) := by decide +kernel
theorem dX7_setOf_4 : decode cX7_setOf 4 = .ok (.iload_n 3, 1) := by decide +kernel
theorem dX7_setOf_5 : decode cX7_setOf 5 = .ok (.bipush 8, 2) := by decide +kernel
theorem dX7_setOf_7 : decode cX7_setOf 7 = .ok (.if_icmp .ge 33, 3) := by decide +kernel
theorem dX7_setOf_10 : decode cX7_setOf 10 = .ok (.iload_n 2, 1) := by decide +kernel
theorem dX7_setOf_11 : decode cX7_setOf 11 = .ok (.aload_n 0, 1) := by decide +kernel
theorem dX7_setOf_12 : decode cX7_setOf 12 = .ok (.getfield 7, 3) := by decide +kernel
theorem dX7_setOf_15 : decode cX7_setOf 15 = .ok (.sipush 128, 3) := by decide +kernel
theorem dX7_setOf_18 : decode cX7_setOf 18 = .ok (.iload_n 3, 1) := by decide +kernel
theorem dX7_setOf_19 : decode cX7_setOf 19 = .ok (.iadd, 1) := by decide +kernel
theorem dX7_setOf_20 : decode cX7_setOf 20 = .ok (.iaload, 1) := by decide +kernel
theorem dX7_setOf_21 : decode cX7_setOf 21 = .ok (.iload_n 1, 1) := by decide +kernel
theorem dX7_setOf_22 : decode cX7_setOf 22 = .ok (.if_icmp .ne 9, 3) := by decide +kernel
theorem dX7_setOf_25 : decode cX7_setOf 25 = .ok (.iconst 1, 1) := by decide +kernel
theorem dX7_setOf_26 : decode cX7_setOf 26 = .ok (.iload_n 3, 1) := by decide +kernel
theorem dX7_setOf_27 : decode cX7_setOf 27 = .ok (.ishl, 1) := by decide +kernel
theorem dX7_setOf_28 : decode cX7_setOf 28 = .ok (.goto 4, 3) := by decide +kernel
theorem dX7_setOf_31 : decode cX7_setOf 31 = .ok (.iconst 0, 1) := by decide +kernel
theorem dX7_setOf_32 : decode cX7_setOf 32 = .ok (.ior, 1) := by decide +kernel
theorem dX7_setOf_33 : decode cX7_setOf 33 = .ok (.istore_n 2, 1) := by decide +kernel
theorem dX7_setOf_34 : decode cX7_setOf 34 = .ok (.iinc 3 1, 3) := by decide +kernel
theorem dX7_setOf_37 : decode cX7_setOf 37 = .ok (.goto (-33), 3) := by decide +kernel
theorem dX7_setOf_40 : decode cX7_setOf 40 = .ok (.iload_n 2, 1) := by decide +kernel
theorem dX7_setOf_41 : decode cX7_setOf 41 = .ok (.ireturn, 1) := by decide +kernel
theorem dX7_dirtyBefore_0 : decode cX7_dirtyBefore 0 = .ok (.iconst 0, 1) := by decide +kernel
theorem dX7_dirtyBefore_1 : decode cX7_dirtyBefore 1 = .ok (.istore_n 2, 1) := by decide +kernel
theorem dX7_dirtyBefore_2 : decode cX7_dirtyBefore 2 = .ok (.iconst 0, 1) := by decide +kernel
theorem dX7_dirtyBefore_3 : decode cX7_dirtyBefore 3 = .ok (.istore_n 3, 1) := by decide +kernel
theorem dX7_dirtyBefore_4 : decode cX7_dirtyBefore 4 = .ok (.iload_n 3, 1) := by decide +kernel
theorem dX7_dirtyBefore_5 : decode cX7_dirtyBefore 5 = .ok (.bipush 8, 2) := by decide +kernel
theorem dX7_dirtyBefore_7 : decode cX7_dirtyBefore 7 = .ok (.if_icmp .ge 54, 3) := by decide +kernel
theorem dX7_dirtyBefore_10 : decode cX7_dirtyBefore 10 = .ok (.iload_n 2, 1) := by decide +kernel
theorem dX7_dirtyBefore_11 : decode cX7_dirtyBefore 11 = .ok (.aload_n 0, 1) := by decide +kernel
theorem dX7_dirtyBefore_12 : decode cX7_dirtyBefore 12 = .ok (.getfield 7, 3) := by decide +kernel
theorem dX7_dirtyBefore_15 : decode cX7_dirtyBefore 15 = .ok (.sipush 128, 3) := by decide +kernel
theorem dX7_dirtyBefore_18 : decode cX7_dirtyBefore 18 = .ok (.iload_n 3, 1) := by decide +kernel
theorem dX7_dirtyBefore_19 : decode cX7_dirtyBefore 19 = .ok (.iadd, 1) := by decide +kernel
theorem dX7_dirtyBefore_20 : decode cX7_dirtyBefore 20 = .ok (.iaload, 1) := by decide +kernel
theorem dX7_dirtyBefore_21 : decode cX7_dirtyBefore 21 = .ok (.iconst 2, 1) := by decide +kernel
theorem dX7_dirtyBefore_22 : decode cX7_dirtyBefore 22 = .ok (.if_icmp .ne 30, 3) := by decide +kernel
theorem dX7_dirtyBefore_25 : decode cX7_dirtyBefore 25 = .ok (.aload_n 0, 1) := by decide +kernel
theorem dX7_dirtyBefore_26 : decode cX7_dirtyBefore 26 = .ok (.getfield 7, 3) := by decide +kernel
theorem dX7_dirtyBefore_29 : decode cX7_dirtyBefore 29 = .ok (.sipush 152, 3) := by decide +kernel
theorem dX7_dirtyBefore_32 : decode cX7_dirtyBefore 32 = .ok (.iload_n 3, 1) := by decide +kernel
theorem dX7_dirtyBefore_33 : decode cX7_dirtyBefore 33 = .ok (.iadd, 1) := by decide +kernel
theorem dX7_dirtyBefore_34 : decode cX7_dirtyBefore 34 = .ok (.iaload, 1) := by decide +kernel
theorem dX7_dirtyBefore_35 : decode cX7_dirtyBefore 35 = .ok (.aload_n 0, 1) := by decide +kernel
theorem dX7_dirtyBefore_36 : decode cX7_dirtyBefore 36 = .ok (.getfield 7, 3) := by decide +kernel
theorem dX7_dirtyBefore_39 : decode cX7_dirtyBefore 39 = .ok (.sipush 152, 3) := by decide +kernel
theorem dX7_dirtyBefore_42 : decode cX7_dirtyBefore 42 = .ok (.iload_n 1, 1) := by decide +kernel
theorem dX7_dirtyBefore_43 : decode cX7_dirtyBefore 43 = .ok (.iadd, 1) := by decide +kernel
theorem dX7_dirtyBefore_44 : decode cX7_dirtyBefore 44 = .ok (.iaload, 1) := by decide +kernel
theorem dX7_dirtyBefore_45 : decode cX7_dirtyBefore 45 = .ok (.if_icmp .ge 7, 3) := by decide +kernel
theorem dX7_dirtyBefore_48 : decode cX7_dirtyBefore 48 = .ok (.iconst 1, 1) := by decide +kernel
theorem dX7_dirtyBefore_49 : decode cX7_dirtyBefore 49 = .ok (.goto 4, 3) := by decide +kernel
theorem dX7_dirtyBefore_52 : decode cX7_dirtyBefore 52 = .ok (.iconst 0, 1) := by decide +kernel
theorem dX7_dirtyBefore_53 : decode cX7_dirtyBefore 53 = .ok (.iadd, 1) := by decide +kernel
theorem dX7_dirtyBefore_54 : decode cX7_dirtyBefore 54 = .ok (.istore_n 2, 1) := by decide +kernel
theorem dX7_dirtyBefore_55 : decode cX7_dirtyBefore 55 = .ok (.iinc 3 1, 3) := by decide +kernel
theorem dX7_dirtyBefore_58 : decode cX7_dirtyBefore 58 = .ok (.goto (-54), 3) := by decide +kernel
theorem dX7_dirtyBefore_61 : decode cX7_dirtyBefore 61 = .ok (.iload_n 2, 1) := by decide +kernel
theorem dX7_dirtyBefore_62 : decode cX7_dirtyBefore 62 = .ok (.ireturn, 1) := by decide +kernel
set_option maxRecDepth 20000 in
theorem ggX7_losable_X7_dirtyBefore : GoodIn wsX7_losable wsX7_dirtyBefore := goodIn_r _ [6, 1, 19, 20, 21, 22, 23, 24, 25, 26, 27, 28, 29, 30, 31, 32] (by decide +kernel) (by decide +kernel)
set_option maxRecDepth 20000 in
theorem gX7_losable_X7_dirtyBefore : GoodIn wsX7_losable (wsV RX7 146 RX7 yX7_dirtyBefore wsX7_dirtyBefore) := goodIn_app (goodIn_of _ (by decide +kernel)) ggX7_losable_X7_dirtyBefore
set_option maxRecDepth 20000 in
theorem ggX7_losable_X7_saved : GoodIn wsX7_losable wsX7_saved := goodIn_r _ [10, 1, 11, 12, 13, 5, 14, 15, 16, 17, 18, 19, 20, 21, 22, 23, 24, 25, 26, 27, 28, 29, 30, 31, 32] (by decide +kernel) (by decide +kernel)
set_option maxRecDepth 20000 in
theorem gX7_losable_X7_saved : GoodIn wsX7_losable (wsV RX7 143 RX7 yX7_saved wsX7_saved) := goodIn_app (goodIn_of _ (by decide +kernel)) ggX7_losable_X7_saved
theorem dX7_losable_0 : decode cX7_losable 0 = .ok (.iconst 0, 1) := by decide +kernel
theorem dX7_losable_1 : decode cX7_losable 1 = .ok (.istore_n 1, 1) := by decide +kernel
theorem dX7_losable_2 : decode cX7_losable 2 = .ok (.iconst 0, 1) := by decide +kernel
theorem dX7_losable_3 : decode cX7_losable 3 = .ok (.istore_n 2, 1) := by decide +kernel
theorem dX7_losable_4 : decode cX7_losable 4 = .ok (.iload_n 2, 1) := by decide +kernel
theorem dX7_losable_5 : decode cX7_losable 5 = .ok (.bipush 8, 2) := by decide +kernel
theorem dX7_losable_7 : decode cX7_losable 7 = .ok (.if_icmp .ge 45, 3) := by decide +kernel
theorem dX7_losable_10 : decode cX7_losable 10 = .ok (.iload_n 1, 1) := by decide +kernel
theorem dX7_losable_11 : decode cX7_losable 11 = .ok (.aload_n 0, 1) := by decide +kernel
theorem dX7_losable_12 : decode cX7_losable 12 = .ok (.getfield 7, 3) := by decide +kernel
theorem dX7_losable_15 : decode cX7_losable 15 = .ok (.sipush 128, 3) := by decide +kernel
theorem dX7_losable_18 : decode cX7_losable 18 = .ok (.iload_n 2, 1) := by decide +kernel
theorem dX7_losable_19 : decode cX7_losable 19 = .ok (.iadd, 1) := by decide +kernel
theorem dX7_losable_20 : decode cX7_losable 20 = .ok (.iaload, 1) := by decide +kernel
theorem dX7_losable_21 : decode cX7_losable 21 = .ok (.iconst 2, 1) := by decide +kernel
theorem dX7_losable_22 : decode cX7_losable 22 = .ok (.if_icmp .ne 21, 3) := by decide +kernel
theorem dX7_losable_25 : decode cX7_losable 25 = .ok (.aload_n 0, 1) := by decide +kernel
theorem dX7_losable_26 : decode cX7_losable 26 = .ok (.iload_n 2, 1) := by decide +kernel
theorem dX7_losable_27 : decode cX7_losable 27 = .ok (.invokevirtual 146, 3) := by decide +kernel
theorem dX7_losable_30 : decode cX7_losable 30 = .ok (.aload_n 0, 1) := by decide +kernel
theorem dX7_losable_31 : decode cX7_losable 31 = .ok (.invokevirtual 143, 3) := by decide +kernel
theorem dX7_losable_34 : decode cX7_losable 34 = .ok (.if_icmp .lt 9, 3) := by decide +kernel
theorem dX7_losable_37 : decode cX7_losable 37 = .ok (.iconst 1, 1) := by decide +kernel
theorem dX7_losable_38 : decode cX7_losable 38 = .ok (.iload_n 2, 1) := by decide +kernel
theorem dX7_losable_39 : decode cX7_losable 39 = .ok (.ishl, 1) := by decide +kernel
theorem dX7_losable_40 : decode cX7_losable 40 = .ok (.goto 4, 3) := by decide +kernel
theorem dX7_losable_43 : decode cX7_losable 43 = .ok (.iconst 0, 1) := by decide +kernel
theorem dX7_losable_44 : decode cX7_losable 44 = .ok (.ior, 1) := by decide +kernel
theorem dX7_losable_45 : decode cX7_losable 45 = .ok (.istore_n 1, 1) := by decide +kernel
theorem dX7_losable_46 : decode cX7_losable 46 = .ok (.iinc 2 1, 3) := by decide +kernel
theorem dX7_losable_49 : decode cX7_losable 49 = .ok (.goto (-45), 3) := by decide +kernel
theorem dX7_losable_52 : decode cX7_losable 52 = .ok (.iload_n 1, 1) := by decide +kernel
theorem dX7_losable_53 : decode cX7_losable 53 = .ok (.ireturn, 1) := by decide +kernel
set_option maxRecDepth 20000 in
theorem ggX7_lines_X7_in : GoodIn wsX7_lines wsX7_in := goodIn_r _ [6] (by decide +kernel) (by decide +kernel)
set_option maxRecDepth 20000 in
theorem gX7_lines_X7_in : GoodIn wsX7_lines (va_wsS RX7 29 yX7_in wsX7_in) := goodIn_app (goodIn_of _ (by decide +kernel)) ggX7_lines_X7_in
set_option maxRecDepth 20000 in
theorem ggX7_lines_X7_losable : GoodIn wsX7_lines wsX7_losable := goodIn_r _ [10, 11, 12, 13, 14, 5, 15, 16, 17, 18, 19, 20, 21, 22, 23, 24, 25, 26, 27, 32, 33, 34, 35, 36, 37, 38, 39, 40, 41, 42, 43, 44, 45] (by decide +kernel) (by decide +kernel)
set_option maxRecDepth 20000 in
theorem gX7_lines_X7_losable : GoodIn wsX7_lines (wsV RX7 149 RX7 yX7_losable wsX7_losable) := goodIn_app (goodIn_of _ (by decide +kernel)) ggX7_lines_X7_losable
set_option maxRecDepth 20000 in
theorem ggX7_lines_X7_setOf : GoodIn wsX7_lines wsX7_setOf := goodIn_r _ [31, 11, 32, 33, 34, 35, 36, 37, 38, 39, 40, 41, 42, 43, 44, 45] (by decide +kernel) (by decide +kernel)
set_option maxRecDepth 20000 in
theorem gX7_lines_X7_setOf : GoodIn wsX7_lines (wsV RX7 152 RX7 yX7_setOf wsX7_setOf) := goodIn_app (goodIn_of _ (by decide +kernel)) ggX7_lines_X7_setOf
theorem dX7_lines_0 : decode cX7_lines 0 = .ok (.iload_n 1, 1) := by decide +kernel
theorem dX7_lines_1 : decode cX7_lines 1 = .ok (.i2l, 1) := by decide +kernel
theorem dX7_lines_2 : decode cX7_lines 2 = .ok (.lconst 0, 1) := by decide +kernel
theorem dX7_lines_3 : decode cX7_lines 3 = .ok (.ldc2_w 141, 3) := by decide +kernel
theorem dX7_lines_6 : decode cX7_lines 6 = .ok (.invokestatic 29, 3) := by decide +kernel
theorem dX7_lines_9 : decode cX7_lines 9 = .ok (.ifCond .ne 8, 3) := by decide +kernel
theorem dX7_lines_12 : decode cX7_lines 12 = .ok (.ldc 73, 2) := by decide +kernel
theorem dX7_lines_14 : decode cX7_lines 14 = .ok (.goto 20, 3) := by decide +kernel
theorem dX7_lines_17 : decode cX7_lines 17 = .ok (.iload_n 1, 1) := by decide +kernel
theorem dX7_lines_18 : decode cX7_lines 18 = .ok (.iconst 3, 1) := by decide +kernel
theorem dX7_lines_19 : decode cX7_lines 19 = .ok (.if_icmp .ne 10, 3) := by decide +kernel
theorem dX7_lines_22 : decode cX7_lines 22 = .ok (.aload_n 0, 1) := by decide +kernel
theorem dX7_lines_23 : decode cX7_lines 23 = .ok (.invokevirtual 149, 3) := by decide +kernel
theorem dX7_lines_26 : decode cX7_lines 26 = .ok (.goto 8, 3) := by decide +kernel
theorem dX7_lines_29 : decode cX7_lines 29 = .ok (.aload_n 0, 1) := by decide +kernel
theorem dX7_lines_30 : decode cX7_lines 30 = .ok (.iload_n 1, 1) := by decide +kernel
theorem dX7_lines_31 : decode cX7_lines 31 = .ok (.invokevirtual 152, 3) := by decide +kernel
theorem dX7_lines_34 : decode cX7_lines 34 = .ok (.ireturn, 1) := by decide +kernel
set_option maxRecDepth 20000 in
theorem ggX7_wouldFlush_X7_keep : GoodIn wsX7_wouldFlush wsX7_keep := goodIn_r _ [5, 6, 7, 57, 58, 59, 60, 61, 62, 63, 64, 65, 66, 67, 68, 69, 70] (by decide +kernel) (by decide +kernel)
set_option maxRecDepth 20000 in
theorem gX7_wouldFlush_X7_keep : GoodIn wsX7_wouldFlush (wsV RX7 104 RX7 yX7_keep wsX7_keep) := goodIn_app (goodIn_of _ (by decide +kernel)) ggX7_wouldFlush_X7_keep
set_option maxRecDepth 20000 in
theorem ggX7_wouldFlush_X7_doLoad : GoodIn wsX7_wouldFlush wsX7_doLoad := goodIn_r _ [11, 12, 13, 14, 15, 4, 16, 17, 18, 19, 20, 7, 21, 22, 23, 24, 25, 26, 27, 28, 29, 30, 31, 32, 33, 34, 35, 36, 37, 38, 39, 40, 41, 42, 43, 44, 45, 46, 47, 48, 49, 50, 51, 52, 57, 58, 59, 60, 61, 62, 63, 64, 65, 66, 67, 68, 69, 70] (by decide +kernel) (by decide +kernel)
set_option maxRecDepth 20000 in
theorem gX7_wouldFlush_X7_doLoad : GoodIn wsX7_wouldFlush (wsV RX7 123 RX7 yX7_doLoad wsX7_doLoad) := goodIn_app (goodIn_of _ (by decide +kernel)) ggX7_wouldFlush_X7_doLoad
set_option maxRecDepth 20000 in
theorem ggX7_wouldFlush_X7_giveBack : GoodIn wsX7_wouldFlush wsX7_giveBack := goodIn_r _ [56, 7, 6, 57, 58, 59, 60, 61, 62, 63, 64, 65, 66, 67, 68, 69, 70] (by decide +kernel) (by decide +kernel)
set_option maxRecDepth 20000 in
theorem gX7_wouldFlush_X7_giveBack : GoodIn wsX7_wouldFlush (wsV RX7 155 RX7 yX7_giveBack wsX7_giveBack) := goodIn_app (goodIn_of _ (by decide +kernel)) ggX7_wouldFlush_X7_giveBack
theorem dX7_wouldFlush_0 : decode cX7_wouldFlush 0 = .ok (.aload_n 0, 1) := by decide +kernel
theorem dX7_wouldFlush_1 : decode cX7_wouldFlush 1 = .ok (.invokevirtual 104, 3) := by decide +kernel
theorem dX7_wouldFlush_4 : decode cX7_wouldFlush 4 = .ok (.aload_n 0, 1) := by decide +kernel
theorem dX7_wouldFlush_5 : decode cX7_wouldFlush 5 = .ok (.iload_n 1, 1) := by decide +kernel
theorem dX7_wouldFlush_6 : decode cX7_wouldFlush 6 = .ok (.invokevirtual 123, 3) := by decide +kernel
theorem dX7_wouldFlush_9 : decode cX7_wouldFlush 9 = .ok (.istore_n 2, 1) := by decide +kernel
theorem dX7_wouldFlush_10 : decode cX7_wouldFlush 10 = .ok (.aload_n 0, 1) := by decide +kernel
theorem dX7_wouldFlush_11 : decode cX7_wouldFlush 11 = .ok (.invokevirtual 155, 3) := by decide +kernel
theorem dX7_wouldFlush_14 : decode cX7_wouldFlush 14 = .ok (.iload_n 2, 1) := by decide +kernel
theorem dX7_wouldFlush_15 : decode cX7_wouldFlush 15 = .ok (.ireturn, 1) := by decide +kernel
set_option maxRecDepth 20000 in
theorem ggX7_critical_X7_wouldFlush : GoodIn wsX7_critical wsX7_wouldFlush := goodIn_r _ [6, 7, 8, 9, 5, 10, 11, 12, 13, 14, 15, 16, 17, 18, 19, 20, 21, 22, 23, 24, 25, 26, 27, 28, 29, 30, 31, 32, 33, 34, 35, 36, 37, 38, 39, 40, 41, 42, 43, 44, 45, 46, 47, 48, 49, 50, 51, 52, 53, 54, 55, 56, 57, 58, 59, 60, 61, 62, 63, 64, 65, 66, 67, 68, 69, 70, 71, 72, 73, 74, 75] (by decide +kernel) (by decide +kernel)
set_option maxRecDepth 20000 in
theorem gX7_critical_X7_wouldFlush : GoodIn wsX7_critical (wsV RX7 158 RX7 yX7_wouldFlush wsX7_wouldFlush) := goodIn_app (goodIn_of _ (by decide +kernel)) ggX7_critical_X7_wouldFlush
theorem dX7_critical_0 : decode cX7_critical 0 = .ok (.iconst 1, 1) := by decide +kernel
theorem dX7_critical_1 : decode cX7_critical 1 = .ok (.istore_n 1, 1) := by decide +kernel
theorem dX7_critical_2 : decode cX7_critical 2 = .ok (.iload_n 1, 1) := by decide +kernel
theorem dX7_critical_3 : decode cX7_critical 3 = .ok (.sipush 999, 3) := by decide +kernel
theorem dX7_critical_6 : decode cX7_critical 6 = .ok (.if_icmp .gt 19, 3) := by decide +kernel
theorem dX7_critical_9 : decode cX7_critical 9 = .ok (.aload_n 0, 1) := by decide +kernel
theorem dX7_critical_10 : decode cX7_critical 10 = .ok (.iload_n 1, 1) := by decide +kernel
theorem dX7_critical_11 : decode cX7_critical 11 = .ok (.invokevirtual 158, 3) := by decide +kernel
theorem dX7_critical_14 : decode cX7_critical 14 = .ok (.ifCond .le 5, 3) := by decide +kernel
theorem dX7_critical_17 : decode cX7_critical 17 = .ok (.iload_n 1, 1) := by decide +kernel
theorem dX7_critical_18 : decode cX7_critical 18 = .ok (.ireturn, 1) := by decide +kernel
theorem dX7_critical_19 : decode cX7_critical 19 = .ok (.iinc 1 1, 3) := by decide +kernel
theorem dX7_critical_22 : decode cX7_critical 22 = .ok (.goto (-20), 3) := by decide +kernel
theorem dX7_critical_25 : decode cX7_critical 25 = .ok (.ldc 137, 2) := by decide +kernel
theorem dX7_critical_27 : decode cX7_critical 27 = .ok (.ireturn, 1) := by decide +kernel
set_option maxRecDepth 20000 in
theorem ggX7_ticksUntil_X7_in : GoodIn wsX7_ticksUntil wsX7_in := goodIn_r _ [7] (by decide +kernel) (by decide +kernel)
set_option maxRecDepth 20000 in
theorem gX7_ticksUntil_X7_in : GoodIn wsX7_ticksUntil (va_wsS RX7 29 yX7_in wsX7_in) := goodIn_app (goodIn_of _ (by decide +kernel)) ggX7_ticksUntil_X7_in
set_option maxRecDepth 20000 in
theorem ggX7_ticksUntil_X7_keep : GoodIn wsX7_ticksUntil wsX7_keep := goodIn_r _ [11, 12, 13, 70, 71, 72, 73, 74, 75, 76, 77, 78, 79, 80, 81, 82, 83] (by decide +kernel) (by decide +kernel)
set_option maxRecDepth 20000 in
theorem gX7_ticksUntil_X7_keep : GoodIn wsX7_ticksUntil (wsV RX7 104 RX7 yX7_keep wsX7_keep) := goodIn_app (goodIn_of _ (by decide +kernel)) ggX7_ticksUntil_X7_keep
set_option maxRecDepth 20000 in
theorem ggX7_ticksUntil_X7_allowance : GoodIn wsX7_ticksUntil wsX7_allowance := goodIn_r _ [17, 13, 18, 19, 20, 6, 21, 70, 71, 72, 73, 74, 75, 76, 77, 78, 79, 80, 81, 82, 83] (by decide +kernel) (by decide +kernel)
set_option maxRecDepth 20000 in
theorem gX7_ticksUntil_X7_allowance : GoodIn wsX7_ticksUntil (wsV RX7 50 RX7 yX7_allowance wsX7_allowance) := goodIn_app (goodIn_of _ (by decide +kernel)) ggX7_ticksUntil_X7_allowance
set_option maxRecDepth 20000 in
theorem ggX7_ticksUntil_X7_ticksOn : GoodIn wsX7_ticksUntil wsX7_ticksOn := goodIn_r _ [25, 13, 26, 27, 28, 6, 29, 30, 31, 32, 33, 18, 19, 20, 21, 34, 35, 36, 37, 38, 39, 40, 41, 42, 43, 44, 45, 46, 47, 48, 49, 50, 51, 52, 53, 14, 15, 16, 17, 54, 55, 56, 57, 58, 59, 60, 61, 62, 63, 64, 65, 70, 71, 72, 73, 74, 75, 76, 77, 78, 79, 80, 81, 82, 83] (by decide +kernel) (by decide +kernel)
set_option maxRecDepth 20000 in
theorem gX7_ticksUntil_X7_ticksOn : GoodIn wsX7_ticksUntil (wsV RX7 93 RX7 yX7_ticksOn wsX7_ticksOn) := goodIn_app (goodIn_of _ (by decide +kernel)) ggX7_ticksUntil_X7_ticksOn
set_option maxRecDepth 20000 in
theorem ggX7_ticksUntil_X7_giveBack : GoodIn wsX7_ticksUntil wsX7_giveBack := goodIn_r _ [69, 13, 12, 70, 71, 72, 73, 74, 75, 76, 77, 78, 79, 80, 81, 82, 83] (by decide +kernel) (by decide +kernel)
set_option maxRecDepth 20000 in
theorem gX7_ticksUntil_X7_giveBack : GoodIn wsX7_ticksUntil (wsV RX7 155 RX7 yX7_giveBack wsX7_giveBack) := goodIn_app (goodIn_of _ (by decide +kernel)) ggX7_ticksUntil_X7_giveBack
theorem dX7_ticksUntil_0 : decode cX7_ticksUntil 0 = .ok (.iload_n 1, 1) := by decide +kernel
theorem dX7_ticksUntil_1 : decode cX7_ticksUntil 1 = .ok (.i2l, 1) := by decide +kernel
theorem dX7_ticksUntil_2 : decode cX7_ticksUntil 2 = .ok (.lconst 0, 1) := by decide +kernel
theorem dX7_ticksUntil_3 : decode cX7_ticksUntil 3 = .ok (.ldc2_w 161, 3) := by decide +kernel
theorem dX7_ticksUntil_6 : decode cX7_ticksUntil 6 = .ok (.invokestatic 29, 3) := by decide +kernel
theorem dX7_ticksUntil_9 : decode cX7_ticksUntil 9 = .ok (.ifCond .ne 6, 3) := by decide +kernel
theorem dX7_ticksUntil_12 : decode cX7_ticksUntil 12 = .ok (.ldc 73, 2) := by decide +kernel
theorem dX7_ticksUntil_14 : decode cX7_ticksUntil 14 = .ok (.ireturn, 1) := by decide +kernel
theorem dX7_ticksUntil_15 : decode cX7_ticksUntil 15 = .ok (.aload_n 0, 1) := by decide +kernel
theorem dX7_ticksUntil_16 : decode cX7_ticksUntil 16 = .ok (.invokevirtual 104, 3) := by decide +kernel
theorem dX7_ticksUntil_19 : decode cX7_ticksUntil 19 = .ok (.iconst 0, 1) := by decide +kernel
theorem dX7_ticksUntil_20 : decode cX7_ticksUntil 20 = .ok (.istore_n 2, 1) := by decide +kernel
theorem dX7_ticksUntil_21 : decode cX7_ticksUntil 21 = .ok (.iload_n 2, 1) := by decide +kernel
theorem dX7_ticksUntil_22 : decode cX7_ticksUntil 22 = .ok (.sipush 400, 3) := by decide +kernel
theorem dX7_ticksUntil_25 : decode cX7_ticksUntil 25 = .ok (.if_icmp .ge 22, 3) := by decide +kernel
theorem dX7_ticksUntil_28 : decode cX7_ticksUntil 28 = .ok (.aload_n 0, 1) := by decide +kernel
theorem dX7_ticksUntil_29 : decode cX7_ticksUntil 29 = .ok (.invokevirtual 50, 3) := by decide +kernel
theorem dX7_ticksUntil_32 : decode cX7_ticksUntil 32 = .ok (.iload_n 1, 1) := by decide +kernel
theorem dX7_ticksUntil_33 : decode cX7_ticksUntil 33 = .ok (.if_icmp .ge 14, 3) := by decide +kernel
theorem dX7_ticksUntil_36 : decode cX7_ticksUntil 36 = .ok (.aload_n 0, 1) := by decide +kernel
theorem dX7_ticksUntil_37 : decode cX7_ticksUntil 37 = .ok (.invokevirtual 93, 3) := by decide +kernel
theorem dX7_ticksUntil_40 : decode cX7_ticksUntil 40 = .ok (.istore_n 3, 1) := by decide +kernel
theorem dX7_ticksUntil_41 : decode cX7_ticksUntil 41 = .ok (.iinc 2 1, 3) := by decide +kernel
theorem dX7_ticksUntil_44 : decode cX7_ticksUntil 44 = .ok (.goto (-23), 3) := by decide +kernel
theorem dX7_ticksUntil_47 : decode cX7_ticksUntil 47 = .ok (.aload_n 0, 1) := by decide +kernel
theorem dX7_ticksUntil_48 : decode cX7_ticksUntil 48 = .ok (.invokevirtual 50, 3) := by decide +kernel
theorem dX7_ticksUntil_51 : decode cX7_ticksUntil 51 = .ok (.iload_n 1, 1) := by decide +kernel
theorem dX7_ticksUntil_52 : decode cX7_ticksUntil 52 = .ok (.if_icmp .lt 7, 3) := by decide +kernel
theorem dX7_ticksUntil_55 : decode cX7_ticksUntil 55 = .ok (.iconst 1, 1) := by decide +kernel
theorem dX7_ticksUntil_56 : decode cX7_ticksUntil 56 = .ok (.goto 4, 3) := by decide +kernel
theorem dX7_ticksUntil_59 : decode cX7_ticksUntil 59 = .ok (.iconst 0, 1) := by decide +kernel
theorem dX7_ticksUntil_60 : decode cX7_ticksUntil 60 = .ok (.istore_n 3, 1) := by decide +kernel
theorem dX7_ticksUntil_61 : decode cX7_ticksUntil 61 = .ok (.aload_n 0, 1) := by decide +kernel
theorem dX7_ticksUntil_62 : decode cX7_ticksUntil 62 = .ok (.invokevirtual 155, 3) := by decide +kernel
theorem dX7_ticksUntil_65 : decode cX7_ticksUntil 65 = .ok (.iload_n 3, 1) := by decide +kernel
theorem dX7_ticksUntil_66 : decode cX7_ticksUntil 66 = .ok (.ifCond .eq 7, 3) := by decide +kernel
theorem dX7_ticksUntil_69 : decode cX7_ticksUntil 69 = .ok (.iload_n 2, 1) := by decide +kernel
theorem dX7_ticksUntil_70 : decode cX7_ticksUntil 70 = .ok (.goto 5, 3) := by decide +kernel
theorem dX7_ticksUntil_73 : decode cX7_ticksUntil 73 = .ok (.ldc 137, 2) := by decide +kernel
theorem dX7_ticksUntil_75 : decode cX7_ticksUntil 75 = .ok (.ireturn, 1) := by decide +kernel
theorem dX7_apart_0 : decode cX7_apart 0 = .ok (.aload_n 0, 1) := by decide +kernel
theorem dX7_apart_1 : decode cX7_apart 1 = .ok (.getfield 7, 3) := by decide +kernel
theorem dX7_apart_4 : decode cX7_apart 4 = .ok (.sipush 136, 3) := by decide +kernel
theorem dX7_apart_7 : decode cX7_apart 7 = .ok (.iload_n 1, 1) := by decide +kernel
theorem dX7_apart_8 : decode cX7_apart 8 = .ok (.iadd, 1) := by decide +kernel
theorem dX7_apart_9 : decode cX7_apart 9 = .ok (.iaload, 1) := by decide +kernel
theorem dX7_apart_10 : decode cX7_apart 10 = .ok (.aload_n 0, 1) := by decide +kernel
theorem dX7_apart_11 : decode cX7_apart 11 = .ok (.getfield 7, 3) := by decide +kernel
theorem dX7_apart_14 : decode cX7_apart 14 = .ok (.sipush 136, 3) := by decide +kernel
theorem dX7_apart_17 : decode cX7_apart 17 = .ok (.iload_n 2, 1) := by decide +kernel
theorem dX7_apart_18 : decode cX7_apart 18 = .ok (.iadd, 1) := by decide +kernel
theorem dX7_apart_19 : decode cX7_apart 19 = .ok (.iaload, 1) := by decide +kernel
theorem dX7_apart_20 : decode cX7_apart 20 = .ok (.isub, 1) := by decide +kernel
theorem dX7_apart_21 : decode cX7_apart 21 = .ok (.istore_n 3, 1) := by decide +kernel
theorem dX7_apart_22 : decode cX7_apart 22 = .ok (.iload_n 3, 1) := by decide +kernel
theorem dX7_apart_23 : decode cX7_apart 23 = .ok (.ifCond .ge 8, 3) := by decide +kernel
theorem dX7_apart_26 : decode cX7_apart 26 = .ok (.iload_n 3, 1) := by decide +kernel
theorem dX7_apart_27 : decode cX7_apart 27 = .ok (.ineg, 1) := by decide +kernel
theorem dX7_apart_28 : decode cX7_apart 28 = .ok (.goto 4, 3) := by decide +kernel
theorem dX7_apart_31 : decode cX7_apart 31 = .ok (.iload_n 3, 1) := by decide +kernel
theorem dX7_apart_32 : decode cX7_apart 32 = .ok (.ireturn, 1) := by decide +kernel
set_option maxRecDepth 20000 in
theorem ggX7_nearest_X7_apart : GoodIn wsX7_nearest wsX7_apart := goodIn_r _ [6, 1, 7, 8, 9, 10, 11, 12, 13, 14, 15, 16, 17, 18, 19, 20] (by decide +kernel) (by decide +kernel)
set_option maxRecDepth 20000 in
theorem gX7_nearest_X7_apart : GoodIn wsX7_nearest (wsV RX7 163 RX7 yX7_apart wsX7_apart) := goodIn_app (goodIn_of _ (by decide +kernel)) ggX7_nearest_X7_apart
theorem dX7_nearest_0 : decode cX7_nearest 0 = .ok (.bipush 64, 2) := by decide +kernel
theorem dX7_nearest_2 : decode cX7_nearest 2 = .ok (.istore_n 2, 1) := by decide +kernel
theorem dX7_nearest_3 : decode cX7_nearest 3 = .ok (.iconst 0, 1) := by decide +kernel
theorem dX7_nearest_4 : decode cX7_nearest 4 = .ok (.istore_n 3, 1) := by decide +kernel
theorem dX7_nearest_5 : decode cX7_nearest 5 = .ok (.iload_n 3, 1) := by decide +kernel
theorem dX7_nearest_6 : decode cX7_nearest 6 = .ok (.bipush 8, 2) := by decide +kernel
theorem dX7_nearest_8 : decode cX7_nearest 8 = .ok (.if_icmp .ge 49, 3) := by decide +kernel
theorem dX7_nearest_11 : decode cX7_nearest 11 = .ok (.iload_n 3, 1) := by decide +kernel
theorem dX7_nearest_12 : decode cX7_nearest 12 = .ok (.iload_n 1, 1) := by decide +kernel
theorem dX7_nearest_13 : decode cX7_nearest 13 = .ok (.if_icmp .eq 36, 3) := by decide +kernel
theorem dX7_nearest_16 : decode cX7_nearest 16 = .ok (.aload_n 0, 1) := by decide +kernel
theorem dX7_nearest_17 : decode cX7_nearest 17 = .ok (.getfield 7, 3) := by decide +kernel
theorem dX7_nearest_20 : decode cX7_nearest 20 = .ok (.sipush 128, 3) := by decide +kernel
theorem dX7_nearest_23 : decode cX7_nearest 23 = .ok (.iload_n 3, 1) := by decide +kernel
theorem dX7_nearest_24 : decode cX7_nearest 24 = .ok (.iadd, 1) := by decide +kernel
theorem dX7_nearest_25 : decode cX7_nearest 25 = .ok (.iaload, 1) := by decide +kernel
theorem dX7_nearest_26 : decode cX7_nearest 26 = .ok (.iconst 2, 1) := by decide +kernel
theorem dX7_nearest_27 : decode cX7_nearest 27 = .ok (.if_icmp .ne 22, 3) := by decide +kernel
theorem dX7_nearest_30 : decode cX7_nearest 30 = .ok (.aload_n 0, 1) := by decide +kernel
theorem dX7_nearest_31 : decode cX7_nearest 31 = .ok (.iload_n 3, 1) := by decide +kernel
theorem dX7_nearest_32 : decode cX7_nearest 32 = .ok (.iload_n 1, 1) := by decide +kernel
theorem dX7_nearest_33 : decode cX7_nearest 33 = .ok (.invokevirtual 163, 3) := by decide +kernel
theorem dX7_nearest_36 : decode cX7_nearest 36 = .ok (.iload_n 2, 1) := by decide +kernel
theorem dX7_nearest_37 : decode cX7_nearest 37 = .ok (.if_icmp .ge 12, 3) := by decide +kernel
theorem dX7_nearest_40 : decode cX7_nearest 40 = .ok (.aload_n 0, 1) := by decide +kernel
theorem dX7_nearest_41 : decode cX7_nearest 41 = .ok (.iload_n 3, 1) := by decide +kernel
theorem dX7_nearest_42 : decode cX7_nearest 42 = .ok (.iload_n 1, 1) := by decide +kernel
theorem dX7_nearest_43 : decode cX7_nearest 43 = .ok (.invokevirtual 163, 3) := by decide +kernel
theorem dX7_nearest_46 : decode cX7_nearest 46 = .ok (.goto 4, 3) := by decide +kernel
theorem dX7_nearest_49 : decode cX7_nearest 49 = .ok (.iload_n 2, 1) := by decide +kernel
theorem dX7_nearest_50 : decode cX7_nearest 50 = .ok (.istore_n 2, 1) := by decide +kernel
theorem dX7_nearest_51 : decode cX7_nearest 51 = .ok (.iinc 3 1, 3) := by decide +kernel
theorem dX7_nearest_54 : decode cX7_nearest 54 = .ok (.goto (-49), 3) := by decide +kernel
theorem dX7_nearest_57 : decode cX7_nearest 57 = .ok (.iload_n 2, 1) := by decide +kernel
theorem dX7_nearest_58 : decode cX7_nearest 58 = .ok (.ireturn, 1) := by decide +kernel
set_option maxRecDepth 20000 in
theorem ggX7_pair_X7_in : GoodIn wsX7_pair wsX7_in := goodIn_r _ [7] (by decide +kernel) (by decide +kernel)
set_option maxRecDepth 20000 in
theorem gX7_pair_X7_in : GoodIn wsX7_pair (va_wsS RX7 29 yX7_in wsX7_in) := goodIn_app (goodIn_of _ (by decide +kernel)) ggX7_pair_X7_in
set_option maxRecDepth 20000 in
theorem ggX7_pair_X7_many : GoodIn wsX7_pair wsX7_many := goodIn_r _ [11, 3, 20, 21, 22, 23, 24, 25, 26, 27, 28, 29, 30, 31, 32, 33] (by decide +kernel) (by decide +kernel)
set_option maxRecDepth 20000 in
theorem gX7_pair_X7_many : GoodIn wsX7_pair (wsV RX7 47 RX7 yX7_many wsX7_many) := goodIn_app (goodIn_of _ (by decide +kernel)) ggX7_pair_X7_many
set_option maxRecDepth 20000 in
theorem ggX7_pair_X7_nearest : GoodIn wsX7_pair wsX7_nearest := goodIn_r _ [15, 3, 16, 17, 18, 6, 19, 20, 21, 22, 23, 24, 25, 26, 27, 28, 29, 30, 31, 32, 33] (by decide +kernel) (by decide +kernel)
set_option maxRecDepth 20000 in
theorem gX7_pair_X7_nearest : GoodIn wsX7_pair (wsV RX7 166 RX7 yX7_nearest wsX7_nearest) := goodIn_app (goodIn_of _ (by decide +kernel)) ggX7_pair_X7_nearest
theorem dX7_pair_0 : decode cX7_pair 0 = .ok (.iload_n 1, 1) := by decide +kernel
theorem dX7_pair_1 : decode cX7_pair 1 = .ok (.i2l, 1) := by decide +kernel
theorem dX7_pair_2 : decode cX7_pair 2 = .ok (.lconst 0, 1) := by decide +kernel
theorem dX7_pair_3 : decode cX7_pair 3 = .ok (.lconst 1, 1) := by decide +kernel
theorem dX7_pair_4 : decode cX7_pair 4 = .ok (.invokestatic 29, 3) := by decide +kernel
theorem dX7_pair_7 : decode cX7_pair 7 = .ok (.ifCond .ne 6, 3) := by decide +kernel
theorem dX7_pair_10 : decode cX7_pair 10 = .ok (.ldc 73, 2) := by decide +kernel
theorem dX7_pair_12 : decode cX7_pair 12 = .ok (.ireturn, 1) := by decide +kernel
theorem dX7_pair_13 : decode cX7_pair 13 = .ok (.aload_n 0, 1) := by decide +kernel
theorem dX7_pair_14 : decode cX7_pair 14 = .ok (.iconst 2, 1) := by decide +kernel
theorem dX7_pair_15 : decode cX7_pair 15 = .ok (.invokevirtual 47, 3) := by decide +kernel
theorem dX7_pair_18 : decode cX7_pair 18 = .ok (.iconst 2, 1) := by decide +kernel
theorem dX7_pair_19 : decode cX7_pair 19 = .ok (.if_icmp .ge 6, 3) := by decide +kernel
theorem dX7_pair_22 : decode cX7_pair 22 = .ok (.ldc 137, 2) := by decide +kernel
theorem dX7_pair_24 : decode cX7_pair 24 = .ok (.ireturn, 1) := by decide +kernel
theorem dX7_pair_25 : decode cX7_pair 25 = .ok (.iconst (-1), 1) := by decide +kernel
theorem dX7_pair_26 : decode cX7_pair 26 = .ok (.istore_n 2, 1) := by decide +kernel
theorem dX7_pair_27 : decode cX7_pair 27 = .ok (.iconst 0, 1) := by decide +kernel
theorem dX7_pair_28 : decode cX7_pair 28 = .ok (.istore_n 3, 1) := by decide +kernel
theorem dX7_pair_29 : decode cX7_pair 29 = .ok (.iload_n 3, 1) := by decide +kernel
theorem dX7_pair_30 : decode cX7_pair 30 = .ok (.bipush 8, 2) := by decide +kernel
theorem dX7_pair_32 : decode cX7_pair 32 = .ok (.if_icmp .ge 84, 3) := by decide +kernel
theorem dX7_pair_35 : decode cX7_pair 35 = .ok (.aload_n 0, 1) := by decide +kernel
theorem dX7_pair_36 : decode cX7_pair 36 = .ok (.getfield 7, 3) := by decide +kernel
theorem dX7_pair_39 : decode cX7_pair 39 = .ok (.sipush 128, 3) := by decide +kernel
theorem dX7_pair_42 : decode cX7_pair 42 = .ok (.iload_n 3, 1) := by decide +kernel
theorem dX7_pair_43 : decode cX7_pair 43 = .ok (.iadd, 1) := by decide +kernel
theorem dX7_pair_44 : decode cX7_pair 44 = .ok (.iaload, 1) := by decide +kernel
theorem dX7_pair_45 : decode cX7_pair 45 = .ok (.iconst 2, 1) := by decide +kernel
theorem dX7_pair_46 : decode cX7_pair 46 = .ok (.if_icmp .ne 64, 3) := by decide +kernel
theorem dX7_pair_49 : decode cX7_pair 49 = .ok (.iload_n 2, 1) := by decide +kernel
theorem dX7_pair_50 : decode cX7_pair 50 = .ok (.iconst (-1), 1) := by decide +kernel
theorem dX7_pair_51 : decode cX7_pair 51 = .ok (.if_icmp .ne 7, 3) := by decide +kernel
theorem dX7_pair_54 : decode cX7_pair 54 = .ok (.iconst (-1), 1) := by decide +kernel
theorem dX7_pair_55 : decode cX7_pair 55 = .ok (.goto 14, 3) := by decide +kernel
theorem dX7_pair_58 : decode cX7_pair 58 = .ok (.aload_n 0, 1) := by decide +kernel
theorem dX7_pair_59 : decode cX7_pair 59 = .ok (.iload_n 3, 1) := by decide +kernel
theorem dX7_pair_60 : decode cX7_pair 60 = .ok (.invokevirtual 166, 3) := by decide +kernel
theorem dX7_pair_63 : decode cX7_pair 63 = .ok (.aload_n 0, 1) := by decide +kernel
theorem dX7_pair_64 : decode cX7_pair 64 = .ok (.iload_n 2, 1) := by decide +kernel
theorem dX7_pair_65 : decode cX7_pair 65 = .ok (.invokevirtual 166, 3) := by decide +kernel
theorem dX7_pair_68 : decode cX7_pair 68 = .ok (.isub, 1) := by decide +kernel
theorem dX7_pair_69 : decode cX7_pair 69 = .ok (.istore 4, 2) := by decide +kernel
theorem dX7_pair_71 : decode cX7_pair 71 = .ok (.iload 4, 2) := by decide +kernel
theorem dX7_pair_73 : decode cX7_pair 73 = .ok (.ifCond .lt 31, 3) := by decide +kernel
theorem dX7_pair_76 : decode cX7_pair 76 = .ok (.iload 4, 2) := by decide +kernel
theorem dX7_pair_78 : decode cX7_pair 78 = .ok (.ifCond .ne 30, 3) := by decide +kernel
theorem dX7_pair_81 : decode cX7_pair 81 = .ok (.aload_n 0, 1) := by decide +kernel
theorem dX7_pair_82 : decode cX7_pair 82 = .ok (.getfield 7, 3) := by decide +kernel
theorem dX7_pair_85 : decode cX7_pair 85 = .ok (.sipush 152, 3) := by decide +kernel
theorem dX7_pair_88 : decode cX7_pair 88 = .ok (.iload_n 3, 1) := by decide +kernel
theorem dX7_pair_89 : decode cX7_pair 89 = .ok (.iadd, 1) := by decide +kernel
theorem dX7_pair_90 : decode cX7_pair 90 = .ok (.iaload, 1) := by decide +kernel
theorem dX7_pair_91 : decode cX7_pair 91 = .ok (.aload_n 0, 1) := by decide +kernel
theorem dX7_pair_92 : decode cX7_pair 92 = .ok (.getfield 7, 3) := by decide +kernel
theorem dX7_pair_95 : decode cX7_pair 95 = .ok (.sipush 152, 3) := by decide +kernel
theorem dX7_pair_98 : decode cX7_pair 98 = .ok (.iload_n 2, 1) := by decide +kernel
theorem dX7_pair_99 : decode cX7_pair 99 = .ok (.iadd, 1) := by decide +kernel
theorem dX7_pair_100 : decode cX7_pair 100 = .ok (.iaload, 1) := by decide +kernel
theorem dX7_pair_101 : decode cX7_pair 101 = .ok (.if_icmp .ge 7, 3) := by decide +kernel
theorem dX7_pair_104 : decode cX7_pair 104 = .ok (.iload_n 3, 1) := by decide +kernel
theorem dX7_pair_105 : decode cX7_pair 105 = .ok (.goto 4, 3) := by decide +kernel
theorem dX7_pair_108 : decode cX7_pair 108 = .ok (.iload_n 2, 1) := by decide +kernel
theorem dX7_pair_109 : decode cX7_pair 109 = .ok (.istore_n 2, 1) := by decide +kernel
theorem dX7_pair_110 : decode cX7_pair 110 = .ok (.iinc 3 1, 3) := by decide +kernel
theorem dX7_pair_113 : decode cX7_pair 113 = .ok (.goto (-84), 3) := by decide +kernel
theorem dX7_pair_116 : decode cX7_pair 116 = .ok (.iload_n 1, 1) := by decide +kernel
theorem dX7_pair_117 : decode cX7_pair 117 = .ok (.ifCond .ne 7, 3) := by decide +kernel
theorem dX7_pair_120 : decode cX7_pair 120 = .ok (.iload_n 2, 1) := by decide +kernel
theorem dX7_pair_121 : decode cX7_pair 121 = .ok (.goto 8, 3) := by decide +kernel
theorem dX7_pair_124 : decode cX7_pair 124 = .ok (.aload_n 0, 1) := by decide +kernel
theorem dX7_pair_125 : decode cX7_pair 125 = .ok (.iload_n 2, 1) := by decide +kernel
theorem dX7_pair_126 : decode cX7_pair 126 = .ok (.invokevirtual 166, 3) := by decide +kernel
theorem dX7_pair_129 : decode cX7_pair 129 = .ok (.ireturn, 1) := by decide +kernel
set_option maxRecDepth 20000 in
theorem ggX7_count_X7_in : GoodIn wsX7_count wsX7_in := goodIn_r _ [11] (by decide +kernel) (by decide +kernel)
set_option maxRecDepth 20000 in
theorem gX7_count_X7_in : GoodIn wsX7_count (va_wsS RX7 29 yX7_in wsX7_in) := goodIn_app (goodIn_of _ (by decide +kernel)) ggX7_count_X7_in
theorem dX7_count_0 : decode cX7_count 0 = .ok (.iload_n 1, 1) := by decide +kernel
theorem dX7_count_1 : decode cX7_count 1 = .ok (.i2l, 1) := by decide +kernel
theorem dX7_count_2 : decode cX7_count 2 = .ok (.lconst 0, 1) := by decide +kernel
theorem dX7_count_3 : decode cX7_count 3 = .ok (.ldc2_w 161, 3) := by decide +kernel
theorem dX7_count_6 : decode cX7_count 6 = .ok (.invokestatic 29, 3) := by decide +kernel
theorem dX7_count_9 : decode cX7_count 9 = .ok (.ifCond .eq 14, 3) := by decide +kernel
theorem dX7_count_12 : decode cX7_count 12 = .ok (.aload_n 0, 1) := by decide +kernel
theorem dX7_count_13 : decode cX7_count 13 = .ok (.getfield 7, 3) := by decide +kernel
theorem dX7_count_16 : decode cX7_count 16 = .ok (.sipush 164, 3) := by decide +kernel
theorem dX7_count_19 : decode cX7_count 19 = .ok (.iload_n 1, 1) := by decide +kernel
theorem dX7_count_20 : decode cX7_count 20 = .ok (.iadd, 1) := by decide +kernel
theorem dX7_count_21 : decode cX7_count 21 = .ok (.iaload, 1) := by decide +kernel
theorem dX7_count_22 : decode cX7_count 22 = .ok (.ireturn, 1) := by decide +kernel
theorem dX7_count_23 : decode cX7_count 23 = .ok (.iload_n 1, 1) := by decide +kernel
theorem dX7_count_24 : decode cX7_count 24 = .ok (.bipush 9, 2) := by decide +kernel
theorem dX7_count_26 : decode cX7_count 26 = .ok (.if_icmp .ne 10, 3) := by decide +kernel
theorem dX7_count_29 : decode cX7_count 29 = .ok (.aload_n 0, 1) := by decide +kernel
theorem dX7_count_30 : decode cX7_count 30 = .ok (.getfield 23, 3) := by decide +kernel
theorem dX7_count_33 : decode cX7_count 33 = .ok (.goto 48, 3) := by decide +kernel
theorem dX7_count_36 : decode cX7_count 36 = .ok (.iload_n 1, 1) := by decide +kernel
theorem dX7_count_37 : decode cX7_count 37 = .ok (.bipush 10, 2) := by decide +kernel
theorem dX7_count_39 : decode cX7_count 39 = .ok (.if_icmp .ne 10, 3) := by decide +kernel
theorem dX7_count_42 : decode cX7_count 42 = .ok (.aload_n 0, 1) := by decide +kernel
theorem dX7_count_43 : decode cX7_count 43 = .ok (.getfield 169, 3) := by decide +kernel
theorem dX7_count_46 : decode cX7_count 46 = .ok (.goto 35, 3) := by decide +kernel
theorem dX7_count_49 : decode cX7_count 49 = .ok (.iload_n 1, 1) := by decide +kernel
theorem dX7_count_50 : decode cX7_count 50 = .ok (.i2l, 1) := by decide +kernel
theorem dX7_count_51 : decode cX7_count 51 = .ok (.ldc2_w 172, 3) := by decide +kernel
theorem dX7_count_54 : decode cX7_count 54 = .ok (.ldc2_w 174, 3) := by decide +kernel
theorem dX7_count_57 : decode cX7_count 57 = .ok (.invokestatic 29, 3) := by decide +kernel
theorem dX7_count_60 : decode cX7_count 60 = .ok (.ifCond .eq 19, 3) := by decide +kernel
theorem dX7_count_63 : decode cX7_count 63 = .ok (.aload_n 0, 1) := by decide +kernel
theorem dX7_count_64 : decode cX7_count 64 = .ok (.getfield 7, 3) := by decide +kernel
theorem dX7_count_67 : decode cX7_count 67 = .ok (.sipush 174, 3) := by decide +kernel
theorem dX7_count_70 : decode cX7_count 70 = .ok (.iload_n 1, 1) := by decide +kernel
theorem dX7_count_71 : decode cX7_count 71 = .ok (.iadd, 1) := by decide +kernel
theorem dX7_count_72 : decode cX7_count 72 = .ok (.bipush 20, 2) := by decide +kernel
theorem dX7_count_74 : decode cX7_count 74 = .ok (.isub, 1) := by decide +kernel
theorem dX7_count_75 : decode cX7_count 75 = .ok (.iaload, 1) := by decide +kernel
theorem dX7_count_76 : decode cX7_count 76 = .ok (.goto 5, 3) := by decide +kernel
theorem dX7_count_79 : decode cX7_count 79 = .ok (.ldc 73, 2) := by decide +kernel
theorem dX7_count_81 : decode cX7_count 81 = .ok (.ireturn, 1) := by decide +kernel
theorem dX7_undo_0 : decode cX7_undo 0 = .ok (.aload_n 0, 1) := by decide +kernel
theorem dX7_undo_1 : decode cX7_undo 1 = .ok (.getfield 23, 3) := by decide +kernel
theorem dX7_undo_4 : decode cX7_undo 4 = .ok (.ifCond .ne 6, 3) := by decide +kernel
theorem dX7_undo_7 : decode cX7_undo 7 = .ok (.ldc 96, 2) := by decide +kernel
theorem dX7_undo_9 : decode cX7_undo 9 = .ok (.ireturn, 1) := by decide +kernel
theorem dX7_undo_10 : decode cX7_undo 10 = .ok (.aload_n 0, 1) := by decide +kernel
theorem dX7_undo_11 : decode cX7_undo 11 = .ok (.dup, 1) := by decide +kernel
theorem dX7_undo_12 : decode cX7_undo 12 = .ok (.getfield 23, 3) := by decide +kernel
theorem dX7_undo_15 : decode cX7_undo 15 = .ok (.iconst 1, 1) := by decide +kernel
theorem dX7_undo_16 : decode cX7_undo 16 = .ok (.isub, 1) := by decide +kernel
theorem dX7_undo_17 : decode cX7_undo 17 = .ok (.putfield 23, 3) := by decide +kernel
theorem dX7_undo_20 : decode cX7_undo 20 = .ok (.iconst 0, 1) := by decide +kernel
theorem dX7_undo_21 : decode cX7_undo 21 = .ok (.istore_n 1, 1) := by decide +kernel
theorem dX7_undo_22 : decode cX7_undo 22 = .ok (.iload_n 1, 1) := by decide +kernel
theorem dX7_undo_23 : decode cX7_undo 23 = .ok (.sipush 180, 3) := by decide +kernel
theorem dX7_undo_26 : decode cX7_undo 26 = .ok (.if_icmp .ge 30, 3) := by decide +kernel
theorem dX7_undo_29 : decode cX7_undo 29 = .ok (.aload_n 0, 1) := by decide +kernel
theorem dX7_undo_30 : decode cX7_undo 30 = .ok (.getfield 7, 3) := by decide +kernel
theorem dX7_undo_33 : decode cX7_undo 33 = .ok (.iload_n 1, 1) := by decide +kernel
theorem dX7_undo_34 : decode cX7_undo 34 = .ok (.aload_n 0, 1) := by decide +kernel
theorem dX7_undo_35 : decode cX7_undo 35 = .ok (.getfield 16, 3) := by decide +kernel
theorem dX7_undo_38 : decode cX7_undo 38 = .ok (.sipush 180, 3) := by decide +kernel
theorem dX7_undo_41 : decode cX7_undo 41 = .ok (.aload_n 0, 1) := by decide +kernel
theorem dX7_undo_42 : decode cX7_undo 42 = .ok (.getfield 23, 3) := by decide +kernel
theorem dX7_undo_45 : decode cX7_undo 45 = .ok (.imul, 1) := by decide +kernel
theorem dX7_undo_46 : decode cX7_undo 46 = .ok (.iload_n 1, 1) := by decide +kernel
theorem dX7_undo_47 : decode cX7_undo 47 = .ok (.iadd, 1) := by decide +kernel
theorem dX7_undo_48 : decode cX7_undo 48 = .ok (.iaload, 1) := by decide +kernel
theorem dX7_undo_49 : decode cX7_undo 49 = .ok (.iastore, 1) := by decide +kernel
theorem dX7_undo_50 : decode cX7_undo 50 = .ok (.iinc 1 1, 3) := by decide +kernel
theorem dX7_undo_53 : decode cX7_undo 53 = .ok (.goto (-31), 3) := by decide +kernel
theorem dX7_undo_56 : decode cX7_undo 56 = .ok (.aload_n 0, 1) := by decide +kernel
theorem dX7_undo_57 : decode cX7_undo 57 = .ok (.getfield 23, 3) := by decide +kernel
theorem dX7_undo_60 : decode cX7_undo 60 = .ok (.ireturn, 1) := by decide +kernel
set_option maxRecDepth 20000 in
theorem ggX7_type_X7_in : GoodIn wsX7_type wsX7_in := goodIn_r _ [10] (by decide +kernel) (by decide +kernel)
set_option maxRecDepth 20000 in
theorem gX7_type_X7_in : GoodIn wsX7_type (va_wsS RX7 29 yX7_in wsX7_in) := goodIn_app (goodIn_of _ (by decide +kernel)) ggX7_type_X7_in
theorem dX7_type_0 : decode cX7_type 0 = .ok (.iload_n 1, 1) := by decide +kernel
theorem dX7_type_1 : decode cX7_type 1 = .ok (.i2l, 1) := by decide +kernel
theorem dX7_type_2 : decode cX7_type 2 = .ok (.ldc2_w 176, 3) := by decide +kernel
theorem dX7_type_5 : decode cX7_type 5 = .ok (.ldc2_w 178, 3) := by decide +kernel
theorem dX7_type_8 : decode cX7_type 8 = .ok (.invokestatic 29, 3) := by decide +kernel
theorem dX7_type_11 : decode cX7_type 11 = .ok (.ifCond .ne 6, 3) := by decide +kernel
theorem dX7_type_14 : decode cX7_type 14 = .ok (.ldc 73, 2) := by decide +kernel
theorem dX7_type_16 : decode cX7_type 16 = .ok (.ireturn, 1) := by decide +kernel
theorem dX7_type_17 : decode cX7_type 17 = .ok (.aload_n 0, 1) := by decide +kernel
theorem dX7_type_18 : decode cX7_type 18 = .ok (.getfield 169, 3) := by decide +kernel
theorem dX7_type_21 : decode cX7_type 21 = .ok (.bipush 60, 2) := by decide +kernel
theorem dX7_type_23 : decode cX7_type 23 = .ok (.if_icmp .ne 6, 3) := by decide +kernel
theorem dX7_type_26 : decode cX7_type 26 = .ok (.ldc 180, 2) := by decide +kernel
theorem dX7_type_28 : decode cX7_type 28 = .ok (.ireturn, 1) := by decide +kernel
theorem dX7_type_29 : decode cX7_type 29 = .ok (.aload_n 0, 1) := by decide +kernel
theorem dX7_type_30 : decode cX7_type 30 = .ok (.getfield 19, 3) := by decide +kernel
theorem dX7_type_33 : decode cX7_type 33 = .ok (.aload_n 0, 1) := by decide +kernel
theorem dX7_type_34 : decode cX7_type 34 = .ok (.getfield 169, 3) := by decide +kernel
theorem dX7_type_37 : decode cX7_type 37 = .ok (.iload_n 1, 1) := by decide +kernel
theorem dX7_type_38 : decode cX7_type 38 = .ok (.iastore, 1) := by decide +kernel
theorem dX7_type_39 : decode cX7_type 39 = .ok (.aload_n 0, 1) := by decide +kernel
theorem dX7_type_40 : decode cX7_type 40 = .ok (.dup, 1) := by decide +kernel
theorem dX7_type_41 : decode cX7_type 41 = .ok (.getfield 169, 3) := by decide +kernel
theorem dX7_type_44 : decode cX7_type 44 = .ok (.iconst 1, 1) := by decide +kernel
theorem dX7_type_45 : decode cX7_type 45 = .ok (.iadd, 1) := by decide +kernel
theorem dX7_type_46 : decode cX7_type 46 = .ok (.putfield 169, 3) := by decide +kernel
theorem dX7_type_49 : decode cX7_type 49 = .ok (.aload_n 0, 1) := by decide +kernel
theorem dX7_type_50 : decode cX7_type 50 = .ok (.getfield 169, 3) := by decide +kernel
theorem dX7_type_53 : decode cX7_type 53 = .ok (.ireturn, 1) := by decide +kernel
theorem dX7_clearText_0 : decode cX7_clearText 0 = .ok (.aload_n 0, 1) := by decide +kernel
theorem dX7_clearText_1 : decode cX7_clearText 1 = .ok (.getfield 169, 3) := by decide +kernel
theorem dX7_clearText_4 : decode cX7_clearText 4 = .ok (.istore_n 1, 1) := by decide +kernel
theorem dX7_clearText_5 : decode cX7_clearText 5 = .ok (.aload_n 0, 1) := by decide +kernel
theorem dX7_clearText_6 : decode cX7_clearText 6 = .ok (.iconst 0, 1) := by decide +kernel
theorem dX7_clearText_7 : decode cX7_clearText 7 = .ok (.putfield 169, 3) := by decide +kernel
theorem dX7_clearText_10 : decode cX7_clearText 10 = .ok (.iload_n 1, 1) := by decide +kernel
theorem dX7_clearText_11 : decode cX7_clearText 11 = .ok (.ireturn, 1) := by decide +kernel
set_option maxRecDepth 20000 in
theorem ggX7_isHere_X7_in : GoodIn wsX7_isHere wsX7_in := goodIn_r _ [7] (by decide +kernel) (by decide +kernel)
set_option maxRecDepth 20000 in
theorem gX7_isHere_X7_in : GoodIn wsX7_isHere (va_wsS RX7 29 yX7_in wsX7_in) := goodIn_app (goodIn_of _ (by decide +kernel)) ggX7_isHere_X7_in
theorem dX7_isHere_0 : decode cX7_isHere 0 = .ok (.aload_n 0, 1) := by decide +kernel
theorem dX7_isHere_1 : decode cX7_isHere 1 = .ok (.getfield 181, 3) := by decide +kernel
theorem dX7_isHere_4 : decode cX7_isHere 4 = .ok (.aload_n 0, 1) := by decide +kernel
theorem dX7_isHere_5 : decode cX7_isHere 5 = .ok (.getfield 169, 3) := by decide +kernel
theorem dX7_isHere_8 : decode cX7_isHere 8 = .ok (.if_icmp .ge 27, 3) := by decide +kernel
theorem dX7_isHere_11 : decode cX7_isHere 11 = .ok (.aload_n 0, 1) := by decide +kernel
theorem dX7_isHere_12 : decode cX7_isHere 12 = .ok (.getfield 19, 3) := by decide +kernel
theorem dX7_isHere_15 : decode cX7_isHere 15 = .ok (.aload_n 0, 1) := by decide +kernel
theorem dX7_isHere_16 : decode cX7_isHere 16 = .ok (.getfield 181, 3) := by decide +kernel
theorem dX7_isHere_19 : decode cX7_isHere 19 = .ok (.iaload, 1) := by decide +kernel
theorem dX7_isHere_20 : decode cX7_isHere 20 = .ok (.i2l, 1) := by decide +kernel
theorem dX7_isHere_21 : decode cX7_isHere 21 = .ok (.iload_n 1, 1) := by decide +kernel
theorem dX7_isHere_22 : decode cX7_isHere 22 = .ok (.i2l, 1) := by decide +kernel
theorem dX7_isHere_23 : decode cX7_isHere 23 = .ok (.iload_n 2, 1) := by decide +kernel
theorem dX7_isHere_24 : decode cX7_isHere 24 = .ok (.i2l, 1) := by decide +kernel
theorem dX7_isHere_25 : decode cX7_isHere 25 = .ok (.invokestatic 29, 3) := by decide +kernel
theorem dX7_isHere_28 : decode cX7_isHere 28 = .ok (.ifCond .eq 7, 3) := by decide +kernel
theorem dX7_isHere_31 : decode cX7_isHere 31 = .ok (.iconst 1, 1) := by decide +kernel
theorem dX7_isHere_32 : decode cX7_isHere 32 = .ok (.goto 4, 3) := by decide +kernel
theorem dX7_isHere_35 : decode cX7_isHere 35 = .ok (.iconst 0, 1) := by decide +kernel
theorem dX7_isHere_36 : decode cX7_isHere 36 = .ok (.ireturn, 1) := by decide +kernel
set_option maxRecDepth 20000 in
theorem ggX7_takes_X7_isHere : GoodIn wsX7_takes wsX7_isHere := goodIn_r _ [6, 1, 7, 8, 9, 10, 5, 11, 12, 13, 14, 15, 16, 17, 18, 19, 20, 21, 22, 23, 24, 25] (by decide +kernel) (by decide +kernel)
set_option maxRecDepth 20000 in
theorem gX7_takes_X7_isHere : GoodIn wsX7_takes (wsV RX7 184 RX7 yX7_isHere wsX7_isHere) := goodIn_app (goodIn_of _ (by decide +kernel)) ggX7_takes_X7_isHere
theorem dX7_takes_0 : decode cX7_takes 0 = .ok (.aload_n 0, 1) := by decide +kernel
theorem dX7_takes_1 : decode cX7_takes 1 = .ok (.iload_n 1, 1) := by decide +kernel
theorem dX7_takes_2 : decode cX7_takes 2 = .ok (.iload_n 1, 1) := by decide +kernel
theorem dX7_takes_3 : decode cX7_takes 3 = .ok (.invokevirtual 184, 3) := by decide +kernel
theorem dX7_takes_6 : decode cX7_takes 6 = .ok (.istore_n 2, 1) := by decide +kernel
theorem dX7_takes_7 : decode cX7_takes 7 = .ok (.aload_n 0, 1) := by decide +kernel
theorem dX7_takes_8 : decode cX7_takes 8 = .ok (.dup, 1) := by decide +kernel
theorem dX7_takes_9 : decode cX7_takes 9 = .ok (.getfield 181, 3) := by decide +kernel
theorem dX7_takes_12 : decode cX7_takes 12 = .ok (.iload_n 2, 1) := by decide +kernel
theorem dX7_takes_13 : decode cX7_takes 13 = .ok (.ifCond .eq 7, 3) := by decide +kernel
theorem dX7_takes_16 : decode cX7_takes 16 = .ok (.iconst 1, 1) := by decide +kernel
theorem dX7_takes_17 : decode cX7_takes 17 = .ok (.goto 4, 3) := by decide +kernel
theorem dX7_takes_20 : decode cX7_takes 20 = .ok (.iconst 0, 1) := by decide +kernel
theorem dX7_takes_21 : decode cX7_takes 21 = .ok (.iadd, 1) := by decide +kernel
theorem dX7_takes_22 : decode cX7_takes 22 = .ok (.putfield 181, 3) := by decide +kernel
theorem dX7_takes_25 : decode cX7_takes 25 = .ok (.iload_n 2, 1) := by decide +kernel
theorem dX7_takes_26 : decode cX7_takes 26 = .ok (.ireturn, 1) := by decide +kernel
set_option maxRecDepth 20000 in
theorem ggX7_takesNumber_X7_isHere : GoodIn wsX7_takesNumber wsX7_isHere := goodIn_r _ [8, 1, 9, 3, 10, 11, 7, 12, 13, 14, 15, 16, 17, 18, 19, 20, 21, 22, 23, 24, 25, 26] (by decide +kernel) (by decide +kernel)
set_option maxRecDepth 20000 in
theorem gX7_takesNumber_X7_isHere : GoodIn wsX7_takesNumber (wsV RX7 184 RX7 yX7_isHere wsX7_isHere) := goodIn_app (goodIn_of _ (by decide +kernel)) ggX7_takesNumber_X7_isHere
theorem dX7_takesNumber_0 : decode cX7_takesNumber 0 = .ok (.aload_n 0, 1) := by decide +kernel
theorem dX7_takesNumber_1 : decode cX7_takesNumber 1 = .ok (.getfield 181, 3) := by decide +kernel
theorem dX7_takesNumber_4 : decode cX7_takesNumber 4 = .ok (.istore_n 1, 1) := by decide +kernel
theorem dX7_takesNumber_5 : decode cX7_takesNumber 5 = .ok (.aload_n 0, 1) := by decide +kernel
theorem dX7_takesNumber_6 : decode cX7_takesNumber 6 = .ok (.iconst 0, 1) := by decide +kernel
theorem dX7_takesNumber_7 : decode cX7_takesNumber 7 = .ok (.putfield 188, 3) := by decide +kernel
theorem dX7_takesNumber_10 : decode cX7_takesNumber 10 = .ok (.aload_n 0, 1) := by decide +kernel
theorem dX7_takesNumber_11 : decode cX7_takesNumber 11 = .ok (.getfield 181, 3) := by decide +kernel
theorem dX7_takesNumber_14 : decode cX7_takesNumber 14 = .ok (.iload_n 1, 1) := by decide +kernel
theorem dX7_takesNumber_15 : decode cX7_takesNumber 15 = .ok (.iconst 3, 1) := by decide +kernel
theorem dX7_takesNumber_16 : decode cX7_takesNumber 16 = .ok (.iadd, 1) := by decide +kernel
theorem dX7_takesNumber_17 : decode cX7_takesNumber 17 = .ok (.if_icmp .ge 51, 3) := by decide +kernel
theorem dX7_takesNumber_20 : decode cX7_takesNumber 20 = .ok (.aload_n 0, 1) := by decide +kernel
theorem dX7_takesNumber_21 : decode cX7_takesNumber 21 = .ok (.bipush 48, 2) := by decide +kernel
theorem dX7_takesNumber_23 : decode cX7_takesNumber 23 = .ok (.bipush 57, 2) := by decide +kernel
theorem dX7_takesNumber_25 : decode cX7_takesNumber 25 = .ok (.invokevirtual 184, 3) := by decide +kernel
theorem dX7_takesNumber_28 : decode cX7_takesNumber 28 = .ok (.ifCond .eq 40, 3) := by decide +kernel
theorem dX7_takesNumber_31 : decode cX7_takesNumber 31 = .ok (.aload_n 0, 1) := by decide +kernel
theorem dX7_takesNumber_32 : decode cX7_takesNumber 32 = .ok (.bipush 10, 2) := by decide +kernel
theorem dX7_takesNumber_34 : decode cX7_takesNumber 34 = .ok (.aload_n 0, 1) := by decide +kernel
theorem dX7_takesNumber_35 : decode cX7_takesNumber 35 = .ok (.getfield 188, 3) := by decide +kernel
theorem dX7_takesNumber_38 : decode cX7_takesNumber 38 = .ok (.imul, 1) := by decide +kernel
theorem dX7_takesNumber_39 : decode cX7_takesNumber 39 = .ok (.aload_n 0, 1) := by decide +kernel
theorem dX7_takesNumber_40 : decode cX7_takesNumber 40 = .ok (.getfield 19, 3) := by decide +kernel
theorem dX7_takesNumber_43 : decode cX7_takesNumber 43 = .ok (.aload_n 0, 1) := by decide +kernel
theorem dX7_takesNumber_44 : decode cX7_takesNumber 44 = .ok (.getfield 181, 3) := by decide +kernel
theorem dX7_takesNumber_47 : decode cX7_takesNumber 47 = .ok (.iaload, 1) := by decide +kernel
theorem dX7_takesNumber_48 : decode cX7_takesNumber 48 = .ok (.iadd, 1) := by decide +kernel
theorem dX7_takesNumber_49 : decode cX7_takesNumber 49 = .ok (.bipush 48, 2) := by decide +kernel
theorem dX7_takesNumber_51 : decode cX7_takesNumber 51 = .ok (.isub, 1) := by decide +kernel
theorem dX7_takesNumber_52 : decode cX7_takesNumber 52 = .ok (.putfield 188, 3) := by decide +kernel
theorem dX7_takesNumber_55 : decode cX7_takesNumber 55 = .ok (.aload_n 0, 1) := by decide +kernel
theorem dX7_takesNumber_56 : decode cX7_takesNumber 56 = .ok (.dup, 1) := by decide +kernel
theorem dX7_takesNumber_57 : decode cX7_takesNumber 57 = .ok (.getfield 181, 3) := by decide +kernel
theorem dX7_takesNumber_60 : decode cX7_takesNumber 60 = .ok (.iconst 1, 1) := by decide +kernel
theorem dX7_takesNumber_61 : decode cX7_takesNumber 61 = .ok (.iadd, 1) := by decide +kernel
theorem dX7_takesNumber_62 : decode cX7_takesNumber 62 = .ok (.putfield 181, 3) := by decide +kernel
theorem dX7_takesNumber_65 : decode cX7_takesNumber 65 = .ok (.goto (-55), 3) := by decide +kernel
theorem dX7_takesNumber_68 : decode cX7_takesNumber 68 = .ok (.aload_n 0, 1) := by decide +kernel
theorem dX7_takesNumber_69 : decode cX7_takesNumber 69 = .ok (.getfield 181, 3) := by decide +kernel
theorem dX7_takesNumber_72 : decode cX7_takesNumber 72 = .ok (.iload_n 1, 1) := by decide +kernel
theorem dX7_takesNumber_73 : decode cX7_takesNumber 73 = .ok (.if_icmp .le 7, 3) := by decide +kernel
theorem dX7_takesNumber_76 : decode cX7_takesNumber 76 = .ok (.iconst 1, 1) := by decide +kernel
theorem dX7_takesNumber_77 : decode cX7_takesNumber 77 = .ok (.goto 4, 3) := by decide +kernel
theorem dX7_takesNumber_80 : decode cX7_takesNumber 80 = .ok (.iconst 0, 1) := by decide +kernel
theorem dX7_takesNumber_81 : decode cX7_takesNumber 81 = .ok (.ireturn, 1) := by decide +kernel
theorem dX7_isOrder_0 : decode cX7_isOrder 0 = .ok (.iload_n 0, 1) := by decide +kernel
theorem dX7_isOrder_1 : decode cX7_isOrder 1 = .ok (.bipush 114, 2) := by decide +kernel
theorem dX7_isOrder_3 : decode cX7_isOrder 3 = .ok (.if_icmp .eq 33, 3) := by decide +kernel
theorem dX7_isOrder_6 : decode cX7_isOrder 6 = .ok (.iload_n 0, 1) := by decide +kernel
theorem dX7_isOrder_7 : decode cX7_isOrder 7 = .ok (.bipush 119, 2) := by decide +kernel
theorem dX7_isOrder_9 : decode cX7_isOrder 9 = .ok (.if_icmp .eq 27, 3) := by decide +kernel
theorem dX7_isOrder_12 : decode cX7_isOrder 12 = .ok (.iload_n 0, 1) := by decide +kernel
theorem dX7_isOrder_13 : decode cX7_isOrder 13 = .ok (.bipush 116, 2) := by decide +kernel
theorem dX7_isOrder_15 : decode cX7_isOrder 15 = .ok (.if_icmp .eq 21, 3) := by decide +kernel
theorem dX7_isOrder_18 : decode cX7_isOrder 18 = .ok (.iload_n 0, 1) := by decide +kernel
theorem dX7_isOrder_19 : decode cX7_isOrder 19 = .ok (.bipush 108, 2) := by decide +kernel
theorem dX7_isOrder_21 : decode cX7_isOrder 21 = .ok (.if_icmp .eq 15, 3) := by decide +kernel
theorem dX7_isOrder_24 : decode cX7_isOrder 24 = .ok (.iload_n 0, 1) := by decide +kernel
theorem dX7_isOrder_25 : decode cX7_isOrder 25 = .ok (.bipush 99, 2) := by decide +kernel
theorem dX7_isOrder_27 : decode cX7_isOrder 27 = .ok (.if_icmp .eq 9, 3) := by decide +kernel
theorem dX7_isOrder_30 : decode cX7_isOrder 30 = .ok (.iload_n 0, 1) := by decide +kernel
theorem dX7_isOrder_31 : decode cX7_isOrder 31 = .ok (.bipush 103, 2) := by decide +kernel
theorem dX7_isOrder_33 : decode cX7_isOrder 33 = .ok (.if_icmp .ne 7, 3) := by decide +kernel
theorem dX7_isOrder_36 : decode cX7_isOrder 36 = .ok (.iconst 1, 1) := by decide +kernel
theorem dX7_isOrder_37 : decode cX7_isOrder 37 = .ok (.goto 4, 3) := by decide +kernel
theorem dX7_isOrder_40 : decode cX7_isOrder 40 = .ok (.iconst 0, 1) := by decide +kernel
theorem dX7_isOrder_41 : decode cX7_isOrder 41 = .ok (.ireturn, 1) := by decide +kernel
set_option maxRecDepth 20000 in
theorem ggX7_readsOrder_X7_isOrder : GoodIn wsX7_readsOrder wsX7_isOrder := goodIn_r _ [10] (by decide +kernel) (by decide +kernel)
set_option maxRecDepth 20000 in
theorem gX7_readsOrder_X7_isOrder : GoodIn wsX7_readsOrder (va_wsS RX7 194 yX7_isOrder wsX7_isOrder) := goodIn_app (goodIn_of _ (by decide +kernel)) ggX7_readsOrder_X7_isOrder
set_option maxRecDepth 20000 in
theorem ggX7_readsOrder_X7_takesNumber : GoodIn wsX7_readsOrder wsX7_takesNumber := goodIn_r _ [14, 2, 4, 3, 15, 16, 17, 9, 18, 19, 20, 21, 22, 27, 28, 29, 30, 31, 32, 33, 34, 35, 36, 37, 38, 39, 40] (by decide +kernel) (by decide +kernel)
set_option maxRecDepth 20000 in
theorem gX7_readsOrder_X7_takesNumber : GoodIn wsX7_readsOrder (wsV RX7 197 RX7 yX7_takesNumber wsX7_takesNumber) := goodIn_app (goodIn_of _ (by decide +kernel)) ggX7_readsOrder_X7_takesNumber
set_option maxRecDepth 20000 in
theorem ggX7_readsOrder_X7_takes : GoodIn wsX7_readsOrder wsX7_takes := goodIn_r _ [26, 2, 15, 16, 17, 9, 18, 19, 3, 20, 21, 22, 27, 28, 29, 30, 31, 32, 33, 34, 35, 36, 37, 38, 39, 40] (by decide +kernel) (by decide +kernel)
set_option maxRecDepth 20000 in
theorem gX7_readsOrder_X7_takes : GoodIn wsX7_readsOrder (wsV RX7 204 RX7 yX7_takes wsX7_takes) := goodIn_app (goodIn_of _ (by decide +kernel)) ggX7_readsOrder_X7_takes
theorem dX7_readsOrder_0 : decode cX7_readsOrder 0 = .ok (.aload_n 0, 1) := by decide +kernel
theorem dX7_readsOrder_1 : decode cX7_readsOrder 1 = .ok (.aload_n 0, 1) := by decide +kernel
theorem dX7_readsOrder_2 : decode cX7_readsOrder 2 = .ok (.getfield 191, 3) := by decide +kernel
theorem dX7_readsOrder_5 : decode cX7_readsOrder 5 = .ok (.putfield 181, 3) := by decide +kernel
theorem dX7_readsOrder_8 : decode cX7_readsOrder 8 = .ok (.aload_n 0, 1) := by decide +kernel
theorem dX7_readsOrder_9 : decode cX7_readsOrder 9 = .ok (.getfield 19, 3) := by decide +kernel
theorem dX7_readsOrder_12 : decode cX7_readsOrder 12 = .ok (.aload_n 0, 1) := by decide +kernel
theorem dX7_readsOrder_13 : decode cX7_readsOrder 13 = .ok (.getfield 191, 3) := by decide +kernel
theorem dX7_readsOrder_16 : decode cX7_readsOrder 16 = .ok (.iaload, 1) := by decide +kernel
theorem dX7_readsOrder_17 : decode cX7_readsOrder 17 = .ok (.istore_n 1, 1) := by decide +kernel
theorem dX7_readsOrder_18 : decode cX7_readsOrder 18 = .ok (.iload_n 1, 1) := by decide +kernel
theorem dX7_readsOrder_19 : decode cX7_readsOrder 19 = .ok (.invokestatic 194, 3) := by decide +kernel
theorem dX7_readsOrder_22 : decode cX7_readsOrder 22 = .ok (.ifCond .ne 5, 3) := by decide +kernel
theorem dX7_readsOrder_25 : decode cX7_readsOrder 25 = .ok (.iconst 0, 1) := by decide +kernel
theorem dX7_readsOrder_26 : decode cX7_readsOrder 26 = .ok (.ireturn, 1) := by decide +kernel
theorem dX7_readsOrder_27 : decode cX7_readsOrder 27 = .ok (.aload_n 0, 1) := by decide +kernel
theorem dX7_readsOrder_28 : decode cX7_readsOrder 28 = .ok (.dup, 1) := by decide +kernel
theorem dX7_readsOrder_29 : decode cX7_readsOrder 29 = .ok (.getfield 181, 3) := by decide +kernel
theorem dX7_readsOrder_32 : decode cX7_readsOrder 32 = .ok (.iconst 1, 1) := by decide +kernel
theorem dX7_readsOrder_33 : decode cX7_readsOrder 33 = .ok (.iadd, 1) := by decide +kernel
theorem dX7_readsOrder_34 : decode cX7_readsOrder 34 = .ok (.putfield 181, 3) := by decide +kernel
theorem dX7_readsOrder_37 : decode cX7_readsOrder 37 = .ok (.iload_n 1, 1) := by decide +kernel
theorem dX7_readsOrder_38 : decode cX7_readsOrder 38 = .ok (.bipush 99, 2) := by decide +kernel
theorem dX7_readsOrder_40 : decode cX7_readsOrder 40 = .ok (.if_icmp .eq 58, 3) := by decide +kernel
theorem dX7_readsOrder_43 : decode cX7_readsOrder 43 = .ok (.iload_n 1, 1) := by decide +kernel
theorem dX7_readsOrder_44 : decode cX7_readsOrder 44 = .ok (.bipush 103, 2) := by decide +kernel
theorem dX7_readsOrder_46 : decode cX7_readsOrder 46 = .ok (.if_icmp .eq 52, 3) := by decide +kernel
theorem dX7_readsOrder_49 : decode cX7_readsOrder 49 = .ok (.aload_n 0, 1) := by decide +kernel
theorem dX7_readsOrder_50 : decode cX7_readsOrder 50 = .ok (.invokevirtual 197, 3) := by decide +kernel
theorem dX7_readsOrder_53 : decode cX7_readsOrder 53 = .ok (.ifCond .ne 5, 3) := by decide +kernel
theorem dX7_readsOrder_56 : decode cX7_readsOrder 56 = .ok (.iconst 0, 1) := by decide +kernel
theorem dX7_readsOrder_57 : decode cX7_readsOrder 57 = .ok (.ireturn, 1) := by decide +kernel
theorem dX7_readsOrder_58 : decode cX7_readsOrder 58 = .ok (.aload_n 0, 1) := by decide +kernel
theorem dX7_readsOrder_59 : decode cX7_readsOrder 59 = .ok (.aload_n 0, 1) := by decide +kernel
theorem dX7_readsOrder_60 : decode cX7_readsOrder 60 = .ok (.getfield 188, 3) := by decide +kernel
theorem dX7_readsOrder_63 : decode cX7_readsOrder 63 = .ok (.putfield 201, 3) := by decide +kernel
theorem dX7_readsOrder_66 : decode cX7_readsOrder 66 = .ok (.iload_n 1, 1) := by decide +kernel
theorem dX7_readsOrder_67 : decode cX7_readsOrder 67 = .ok (.bipush 119, 2) := by decide +kernel
theorem dX7_readsOrder_69 : decode cX7_readsOrder 69 = .ok (.if_icmp .ne 29, 3) := by decide +kernel
theorem dX7_readsOrder_72 : decode cX7_readsOrder 72 = .ok (.aload_n 0, 1) := by decide +kernel
theorem dX7_readsOrder_73 : decode cX7_readsOrder 73 = .ok (.bipush 61, 2) := by decide +kernel
theorem dX7_readsOrder_75 : decode cX7_readsOrder 75 = .ok (.invokevirtual 204, 3) := by decide +kernel
theorem dX7_readsOrder_78 : decode cX7_readsOrder 78 = .ok (.ifCond .eq 10, 3) := by decide +kernel
theorem dX7_readsOrder_81 : decode cX7_readsOrder 81 = .ok (.aload_n 0, 1) := by decide +kernel
theorem dX7_readsOrder_82 : decode cX7_readsOrder 82 = .ok (.invokevirtual 197, 3) := by decide +kernel
theorem dX7_readsOrder_85 : decode cX7_readsOrder 85 = .ok (.ifCond .ne 5, 3) := by decide +kernel
theorem dX7_readsOrder_88 : decode cX7_readsOrder 88 = .ok (.iconst 0, 1) := by decide +kernel
theorem dX7_readsOrder_89 : decode cX7_readsOrder 89 = .ok (.ireturn, 1) := by decide +kernel
theorem dX7_readsOrder_90 : decode cX7_readsOrder 90 = .ok (.aload_n 0, 1) := by decide +kernel
theorem dX7_readsOrder_91 : decode cX7_readsOrder 91 = .ok (.aload_n 0, 1) := by decide +kernel
theorem dX7_readsOrder_92 : decode cX7_readsOrder 92 = .ok (.getfield 188, 3) := by decide +kernel
theorem dX7_readsOrder_95 : decode cX7_readsOrder 95 = .ok (.putfield 207, 3) := by decide +kernel
theorem dX7_readsOrder_98 : decode cX7_readsOrder 98 = .ok (.aload_n 0, 1) := by decide +kernel
theorem dX7_readsOrder_99 : decode cX7_readsOrder 99 = .ok (.bipush 59, 2) := by decide +kernel
theorem dX7_readsOrder_101 : decode cX7_readsOrder 101 = .ok (.invokevirtual 204, 3) := by decide +kernel
theorem dX7_readsOrder_104 : decode cX7_readsOrder 104 = .ok (.ireturn, 1) := by decide +kernel
set_option maxRecDepth 20000 in
theorem ggX7_isInRange_X7_isPlace : GoodIn wsX7_isInRange wsX7_isPlace := goodIn_r _ [9, 10, 11, 12, 8, 13] (by decide +kernel) (by decide +kernel)
set_option maxRecDepth 20000 in
theorem gX7_isInRange_X7_isPlace : GoodIn wsX7_isInRange (va_wsS RX7 66 yX7_isPlace wsX7_isPlace) := goodIn_app (goodIn_of _ (by decide +kernel)) ggX7_isInRange_X7_isPlace
set_option maxRecDepth 20000 in
theorem ggX7_isInRange_X7_in : GoodIn wsX7_isInRange wsX7_in := goodIn_r _ [13] (by decide +kernel) (by decide +kernel)
set_option maxRecDepth 20000 in
theorem gX7_isInRange_X7_in : GoodIn wsX7_isInRange (va_wsS RX7 29 yX7_in wsX7_in) := goodIn_app (goodIn_of _ (by decide +kernel)) ggX7_isInRange_X7_in
theorem dX7_isInRange_0 : decode cX7_isInRange 0 = .ok (.aload_n 0, 1) := by decide +kernel
theorem dX7_isInRange_1 : decode cX7_isInRange 1 = .ok (.getfield 19, 3) := by decide +kernel
theorem dX7_isInRange_4 : decode cX7_isInRange 4 = .ok (.aload_n 0, 1) := by decide +kernel
theorem dX7_isInRange_5 : decode cX7_isInRange 5 = .ok (.getfield 191, 3) := by decide +kernel
theorem dX7_isInRange_8 : decode cX7_isInRange 8 = .ok (.iaload, 1) := by decide +kernel
theorem dX7_isInRange_9 : decode cX7_isInRange 9 = .ok (.istore_n 1, 1) := by decide +kernel
theorem dX7_isInRange_10 : decode cX7_isInRange 10 = .ok (.iload_n 1, 1) := by decide +kernel
theorem dX7_isInRange_11 : decode cX7_isInRange 11 = .ok (.bipush 114, 2) := by decide +kernel
theorem dX7_isInRange_13 : decode cX7_isInRange 13 = .ok (.if_icmp .eq 9, 3) := by decide +kernel
theorem dX7_isInRange_16 : decode cX7_isInRange 16 = .ok (.iload_n 1, 1) := by decide +kernel
theorem dX7_isInRange_17 : decode cX7_isInRange 17 = .ok (.bipush 119, 2) := by decide +kernel
theorem dX7_isInRange_19 : decode cX7_isInRange 19 = .ok (.if_icmp .ne 13, 3) := by decide +kernel
theorem dX7_isInRange_22 : decode cX7_isInRange 22 = .ok (.aload_n 0, 1) := by decide +kernel
theorem dX7_isInRange_23 : decode cX7_isInRange 23 = .ok (.getfield 201, 3) := by decide +kernel
theorem dX7_isInRange_26 : decode cX7_isInRange 26 = .ok (.invokestatic 66, 3) := by decide +kernel
theorem dX7_isInRange_29 : decode cX7_isInRange 29 = .ok (.goto 50, 3) := by decide +kernel
theorem dX7_isInRange_32 : decode cX7_isInRange 32 = .ok (.iload_n 1, 1) := by decide +kernel
theorem dX7_isInRange_33 : decode cX7_isInRange 33 = .ok (.bipush 116, 2) := by decide +kernel
theorem dX7_isInRange_35 : decode cX7_isInRange 35 = .ok (.if_icmp .ne 18, 3) := by decide +kernel
theorem dX7_isInRange_38 : decode cX7_isInRange 38 = .ok (.aload_n 0, 1) := by decide +kernel
theorem dX7_isInRange_39 : decode cX7_isInRange 39 = .ok (.getfield 201, 3) := by decide +kernel
theorem dX7_isInRange_42 : decode cX7_isInRange 42 = .ok (.i2l, 1) := by decide +kernel
theorem dX7_isInRange_43 : decode cX7_isInRange 43 = .ok (.lconst 1, 1) := by decide +kernel
theorem dX7_isInRange_44 : decode cX7_isInRange 44 = .ok (.ldc2_w 91, 3) := by decide +kernel
theorem dX7_isInRange_47 : decode cX7_isInRange 47 = .ok (.invokestatic 29, 3) := by decide +kernel
theorem dX7_isInRange_50 : decode cX7_isInRange 50 = .ok (.goto 29, 3) := by decide +kernel
theorem dX7_isInRange_53 : decode cX7_isInRange 53 = .ok (.iload_n 1, 1) := by decide +kernel
theorem dX7_isInRange_54 : decode cX7_isInRange 54 = .ok (.bipush 108, 2) := by decide +kernel
theorem dX7_isInRange_56 : decode cX7_isInRange 56 = .ok (.if_icmp .ne 18, 3) := by decide +kernel
theorem dX7_isInRange_59 : decode cX7_isInRange 59 = .ok (.aload_n 0, 1) := by decide +kernel
theorem dX7_isInRange_60 : decode cX7_isInRange 60 = .ok (.getfield 201, 3) := by decide +kernel
theorem dX7_isInRange_63 : decode cX7_isInRange 63 = .ok (.i2l, 1) := by decide +kernel
theorem dX7_isInRange_64 : decode cX7_isInRange 64 = .ok (.lconst 1, 1) := by decide +kernel
theorem dX7_isInRange_65 : decode cX7_isInRange 65 = .ok (.ldc2_w 74, 3) := by decide +kernel
theorem dX7_isInRange_68 : decode cX7_isInRange 68 = .ok (.invokestatic 29, 3) := by decide +kernel
theorem dX7_isInRange_71 : decode cX7_isInRange 71 = .ok (.ifCond .eq 7, 3) := by decide +kernel
theorem dX7_isInRange_74 : decode cX7_isInRange 74 = .ok (.iconst 1, 1) := by decide +kernel
theorem dX7_isInRange_75 : decode cX7_isInRange 75 = .ok (.goto 4, 3) := by decide +kernel
theorem dX7_isInRange_78 : decode cX7_isInRange 78 = .ok (.iconst 0, 1) := by decide +kernel
theorem dX7_isInRange_79 : decode cX7_isInRange 79 = .ok (.ireturn, 1) := by decide +kernel
set_option maxRecDepth 20000 in
theorem ggX7_doOrder_X7_doRead : GoodIn wsX7_doOrder wsX7_doRead := goodIn_r _ [9, 10, 11, 12, 13, 8, 14, 15, 16, 17, 18, 19, 20, 21, 22, 23, 24, 25, 26, 27, 28, 29, 30, 31, 32, 33, 34, 35, 36, 37, 38, 39, 40, 41, 42, 43, 44, 45, 46, 106, 107, 108, 109, 110, 111, 112, 113, 114, 115, 116, 117, 118, 119] (by decide +kernel) (by decide +kernel)
set_option maxRecDepth 20000 in
theorem gX7_doOrder_X7_doRead : GoodIn wsX7_doOrder (wsV RX7 107 RX7 yX7_doRead wsX7_doRead) := goodIn_app (goodIn_of _ (by decide +kernel)) ggX7_doOrder_X7_doRead
set_option maxRecDepth 20000 in
theorem ggX7_doOrder_X7_doWrite : GoodIn wsX7_doOrder wsX7_doWrite := goodIn_r _ [50, 51, 11, 10, 12, 13, 8, 14, 15, 16, 17, 18, 19, 20, 21, 22, 23, 24, 25, 26, 27, 28, 29, 30, 31, 32, 33, 34, 35, 36, 37, 38, 39, 40, 41, 42, 43, 44, 45, 46, 52, 53, 54, 55, 56, 57, 58, 59, 60, 61, 62, 63, 106, 107, 108, 109, 110, 111, 112, 113, 114, 115, 116, 117, 118, 119] (by decide +kernel) (by decide +kernel)
set_option maxRecDepth 20000 in
theorem gX7_doOrder_X7_doWrite : GoodIn wsX7_doOrder (wsV RX7 113 RX7 yX7_doWrite wsX7_doWrite) := goodIn_app (goodIn_of _ (by decide +kernel)) ggX7_doOrder_X7_doWrite
set_option maxRecDepth 20000 in
theorem ggX7_doOrder_X7_doTick : GoodIn wsX7_doOrder wsX7_doTick := goodIn_r _ [67, 68, 11, 16, 17, 8, 18, 69, 70, 71, 72, 10, 27, 28, 29, 30, 73, 74, 75, 76, 60, 61, 62, 63, 77, 78, 79, 80, 81, 82, 83, 84, 85, 86, 87, 88, 89, 90, 91, 92, 52, 53, 54, 55, 56, 57, 58, 59, 31, 32, 33, 34, 35, 36, 37, 38, 39, 40, 41, 42, 106, 107, 108, 109, 110, 111, 112, 113, 114, 115, 116, 117, 118, 119] (by decide +kernel) (by decide +kernel)
set_option maxRecDepth 20000 in
theorem gX7_doOrder_X7_doTick : GoodIn wsX7_doOrder (wsV RX7 120 RX7 yX7_doTick wsX7_doTick) := goodIn_app (goodIn_of _ (by decide +kernel)) ggX7_doOrder_X7_doTick
set_option maxRecDepth 20000 in
theorem ggX7_doOrder_X7_doLoad : GoodIn wsX7_doOrder wsX7_doLoad := goodIn_r _ [96, 51, 11, 16, 17, 8, 18, 77, 78, 79, 80, 10, 89, 90, 91, 92, 52, 53, 54, 55, 56, 57, 58, 59, 60, 61, 62, 63, 31, 32, 33, 34, 35, 36, 37, 38, 39, 40, 41, 42, 27, 28, 29, 30, 106, 107, 108, 109, 110, 111, 112, 113, 114, 115, 116, 117, 118, 119] (by decide +kernel) (by decide +kernel)
set_option maxRecDepth 20000 in
theorem gX7_doOrder_X7_doLoad : GoodIn wsX7_doOrder (wsV RX7 123 RX7 yX7_doLoad wsX7_doLoad) := goodIn_app (goodIn_of _ (by decide +kernel)) ggX7_doOrder_X7_doLoad
set_option maxRecDepth 20000 in
theorem ggX7_doOrder_X7_doCut : GoodIn wsX7_doOrder wsX7_doCut := goodIn_r _ [100, 10, 60, 61, 62, 8, 63, 52, 53, 54, 55, 31, 32, 33, 34, 35, 36, 37, 38, 39, 40, 41, 42, 27, 28, 29, 30, 106, 107, 108, 109, 110, 111, 112, 113, 114, 115, 116, 117, 118, 119] (by decide +kernel) (by decide +kernel)
set_option maxRecDepth 20000 in
theorem gX7_doOrder_X7_doCut : GoodIn wsX7_doOrder (wsV RX7 129 RX7 yX7_doCut wsX7_doCut) := goodIn_app (goodIn_of _ (by decide +kernel)) ggX7_doOrder_X7_doCut
set_option maxRecDepth 20000 in
theorem ggX7_doOrder_X7_doLearn : GoodIn wsX7_doOrder wsX7_doLearn := goodIn_r _ [104, 10, 105, 89, 90, 91, 8, 92, 52, 53, 54, 55, 56, 57, 58, 59, 60, 61, 62, 63, 31, 32, 33, 34, 35, 36, 37, 38, 39, 40, 41, 42, 27, 28, 29, 30, 106, 107, 108, 109, 110, 111, 112, 113, 114, 115, 116, 117, 118, 119] (by decide +kernel) (by decide +kernel)
set_option maxRecDepth 20000 in
theorem gX7_doOrder_X7_doLearn : GoodIn wsX7_doOrder (wsV RX7 126 RX7 yX7_doLearn wsX7_doLearn) := goodIn_app (goodIn_of _ (by decide +kernel)) ggX7_doOrder_X7_doLearn
theorem dX7_doOrder_0 : decode cX7_doOrder 0 = .ok (.aload_n 0, 1) := by decide +kernel
theorem dX7_doOrder_1 : decode cX7_doOrder 1 = .ok (.getfield 19, 3) := by decide +kernel
theorem dX7_doOrder_4 : decode cX7_doOrder 4 = .ok (.aload_n 0, 1) := by decide +kernel
theorem dX7_doOrder_5 : decode cX7_doOrder 5 = .ok (.getfield 191, 3) := by decide +kernel
theorem dX7_doOrder_8 : decode cX7_doOrder 8 = .ok (.iaload, 1) := by decide +kernel
theorem dX7_doOrder_9 : decode cX7_doOrder 9 = .ok (.lookupswitch 96 #[(99, 91), (108, 82), (114, 51), (116, 73), (119, 60)], 51) := by decide +kernel
theorem dX7_doOrder_60 : decode cX7_doOrder 60 = .ok (.aload_n 0, 1) := by decide +kernel
theorem dX7_doOrder_61 : decode cX7_doOrder 61 = .ok (.aload_n 0, 1) := by decide +kernel
theorem dX7_doOrder_62 : decode cX7_doOrder 62 = .ok (.getfield 201, 3) := by decide +kernel
theorem dX7_doOrder_65 : decode cX7_doOrder 65 = .ok (.invokevirtual 107, 3) := by decide +kernel
theorem dX7_doOrder_68 : decode cX7_doOrder 68 = .ok (.ireturn, 1) := by decide +kernel
theorem dX7_doOrder_69 : decode cX7_doOrder 69 = .ok (.aload_n 0, 1) := by decide +kernel
theorem dX7_doOrder_70 : decode cX7_doOrder 70 = .ok (.aload_n 0, 1) := by decide +kernel
theorem dX7_doOrder_71 : decode cX7_doOrder 71 = .ok (.getfield 201, 3) := by decide +kernel
theorem dX7_doOrder_74 : decode cX7_doOrder 74 = .ok (.aload_n 0, 1) := by decide +kernel
theorem dX7_doOrder_75 : decode cX7_doOrder 75 = .ok (.getfield 207, 3) := by decide +kernel
theorem dX7_doOrder_78 : decode cX7_doOrder 78 = .ok (.invokevirtual 113, 3) := by decide +kernel
theorem dX7_doOrder_81 : decode cX7_doOrder 81 = .ok (.ireturn, 1) := by decide +kernel
theorem dX7_doOrder_82 : decode cX7_doOrder 82 = .ok (.aload_n 0, 1) := by decide +kernel
theorem dX7_doOrder_83 : decode cX7_doOrder 83 = .ok (.aload_n 0, 1) := by decide +kernel
theorem dX7_doOrder_84 : decode cX7_doOrder 84 = .ok (.getfield 201, 3) := by decide +kernel
theorem dX7_doOrder_87 : decode cX7_doOrder 87 = .ok (.invokevirtual 120, 3) := by decide +kernel
theorem dX7_doOrder_90 : decode cX7_doOrder 90 = .ok (.ireturn, 1) := by decide +kernel
theorem dX7_doOrder_91 : decode cX7_doOrder 91 = .ok (.aload_n 0, 1) := by decide +kernel
theorem dX7_doOrder_92 : decode cX7_doOrder 92 = .ok (.aload_n 0, 1) := by decide +kernel
theorem dX7_doOrder_93 : decode cX7_doOrder 93 = .ok (.getfield 201, 3) := by decide +kernel
theorem dX7_doOrder_96 : decode cX7_doOrder 96 = .ok (.invokevirtual 123, 3) := by decide +kernel
theorem dX7_doOrder_99 : decode cX7_doOrder 99 = .ok (.ireturn, 1) := by decide +kernel
theorem dX7_doOrder_100 : decode cX7_doOrder 100 = .ok (.aload_n 0, 1) := by decide +kernel
theorem dX7_doOrder_101 : decode cX7_doOrder 101 = .ok (.invokevirtual 129, 3) := by decide +kernel
theorem dX7_doOrder_104 : decode cX7_doOrder 104 = .ok (.ireturn, 1) := by decide +kernel
theorem dX7_doOrder_105 : decode cX7_doOrder 105 = .ok (.aload_n 0, 1) := by decide +kernel
theorem dX7_doOrder_106 : decode cX7_doOrder 106 = .ok (.invokevirtual 126, 3) := by decide +kernel
theorem dX7_doOrder_109 : decode cX7_doOrder 109 = .ok (.ireturn, 1) := by decide +kernel
theorem dX7_notes_0 : decode cX7_notes 0 = .ok (.aload_n 0, 1) := by decide +kernel
theorem dX7_notes_1 : decode cX7_notes 1 = .ok (.iload_n 1, 1) := by decide +kernel
theorem dX7_notes_2 : decode cX7_notes 2 = .ok (.putfield 210, 3) := by decide +kernel
theorem dX7_notes_5 : decode cX7_notes 5 = .ok (.aload_n 0, 1) := by decide +kernel
theorem dX7_notes_6 : decode cX7_notes 6 = .ok (.iload_n 2, 1) := by decide +kernel
theorem dX7_notes_7 : decode cX7_notes 7 = .ok (.putfield 213, 3) := by decide +kernel
theorem dX7_notes_10 : decode cX7_notes 10 = .ok (.iconst 0, 1) := by decide +kernel
theorem dX7_notes_11 : decode cX7_notes 11 = .ok (.ireturn, 1) := by decide +kernel
set_option maxRecDepth 20000 in
theorem ggX7_doesAll_X7_readsOrder : GoodIn wsX7_doesAll wsX7_readsOrder := goodIn_r _ [12, 1, 4, 13, 14, 5, 15, 16, 17, 11, 18, 19, 20, 21, 22, 23, 24, 25, 26, 3, 27, 28, 29, 30, 31, 32, 33, 145, 146, 147, 148, 149, 150, 151, 152, 153, 154, 155, 156, 157, 158] (by decide +kernel) (by decide +kernel)
set_option maxRecDepth 20000 in
theorem gX7_doesAll_X7_readsOrder : GoodIn wsX7_doesAll (wsV RX7 219 RX7 yX7_readsOrder wsX7_readsOrder) := goodIn_app (goodIn_of _ (by decide +kernel)) ggX7_doesAll_X7_readsOrder
set_option maxRecDepth 20000 in
theorem ggX7_doesAll_X7_notes : GoodIn wsX7_doesAll wsX7_notes := goodIn_r _ [37, 38, 39, 145, 146, 147, 148, 149, 150, 151, 152, 153, 154, 155, 156, 157, 158] (by decide +kernel) (by decide +kernel)
set_option maxRecDepth 20000 in
theorem gX7_doesAll_X7_notes : GoodIn wsX7_doesAll (wsV RX7 222 RX7 yX7_notes wsX7_notes) := goodIn_app (goodIn_of _ (by decide +kernel)) ggX7_doesAll_X7_notes
set_option maxRecDepth 20000 in
theorem ggX7_doesAll_X7_isInRange : GoodIn wsX7_doesAll wsX7_isInRange := goodIn_r _ [43, 13, 1, 5, 44, 45, 46, 47, 11, 48, 49, 27, 28, 29, 145, 146, 147, 148, 149, 150, 151, 152, 153, 154, 155, 156, 157, 158] (by decide +kernel) (by decide +kernel)
set_option maxRecDepth 20000 in
theorem gX7_doesAll_X7_isInRange : GoodIn wsX7_doesAll (wsV RX7 225 RX7 yX7_isInRange wsX7_isInRange) := goodIn_app (goodIn_of _ (by decide +kernel)) ggX7_doesAll_X7_isInRange
set_option maxRecDepth 20000 in
theorem ggX7_doesAll_X7_doOrder : GoodIn wsX7_doesAll wsX7_doOrder := goodIn_r _ [53, 13, 1, 5, 15, 54, 55, 56, 11, 57, 58, 59, 46, 47, 48, 49, 27, 28, 29, 60, 61, 62, 63, 64, 65, 66, 67, 68, 69, 70, 71, 72, 73, 74, 75, 76, 77, 78, 79, 80, 81, 82, 83, 84, 85, 86, 87, 88, 89, 90, 91, 45, 92, 93, 94, 95, 96, 97, 98, 99, 100, 101, 102, 103, 104, 105, 106, 107, 44, 108, 109, 110, 111, 112, 113, 114, 115, 116, 117, 118, 119, 120, 121, 122, 123, 124, 125, 126, 127, 128, 129, 130, 131, 132, 133, 134, 135, 136, 137, 138, 139, 140, 141, 142, 143, 144, 145, 146, 147, 148, 149, 150, 151, 152, 153, 154, 155, 156, 157, 158] (by decide +kernel) (by decide +kernel)
set_option maxRecDepth 20000 in
theorem gX7_doesAll_X7_doOrder : GoodIn wsX7_doesAll (wsV RX7 228 RX7 yX7_doOrder wsX7_doOrder) := goodIn_app (goodIn_of _ (by decide +kernel)) ggX7_doesAll_X7_doOrder
theorem dX7_doesAll_0 : decode cX7_doesAll 0 = .ok (.aload_n 0, 1) := by decide +kernel
theorem dX7_doesAll_1 : decode cX7_doesAll 1 = .ok (.iconst 0, 1) := by decide +kernel
theorem dX7_doesAll_2 : decode cX7_doesAll 2 = .ok (.putfield 191, 3) := by decide +kernel
theorem dX7_doesAll_5 : decode cX7_doesAll 5 = .ok (.aload_n 0, 1) := by decide +kernel
theorem dX7_doesAll_6 : decode cX7_doesAll 6 = .ok (.iconst 0, 1) := by decide +kernel
theorem dX7_doesAll_7 : decode cX7_doesAll 7 = .ok (.putfield 216, 3) := by decide +kernel
theorem dX7_doesAll_10 : decode cX7_doesAll 10 = .ok (.aload_n 0, 1) := by decide +kernel
theorem dX7_doesAll_11 : decode cX7_doesAll 11 = .ok (.getfield 191, 3) := by decide +kernel
theorem dX7_doesAll_14 : decode cX7_doesAll 14 = .ok (.aload_n 0, 1) := by decide +kernel
theorem dX7_doesAll_15 : decode cX7_doesAll 15 = .ok (.getfield 169, 3) := by decide +kernel
theorem dX7_doesAll_18 : decode cX7_doesAll 18 = .ok (.if_icmp .ge 82, 3) := by decide +kernel
theorem dX7_doesAll_21 : decode cX7_doesAll 21 = .ok (.aload_n 0, 1) := by decide +kernel
theorem dX7_doesAll_22 : decode cX7_doesAll 22 = .ok (.invokevirtual 219, 3) := by decide +kernel
theorem dX7_doesAll_25 : decode cX7_doesAll 25 = .ok (.ifCond .ne 18, 3) := by decide +kernel
theorem dX7_doesAll_28 : decode cX7_doesAll 28 = .ok (.aload_n 0, 1) := by decide +kernel
theorem dX7_doesAll_29 : decode cX7_doesAll 29 = .ok (.iconst 1, 1) := by decide +kernel
theorem dX7_doesAll_30 : decode cX7_doesAll 30 = .ok (.aload_n 0, 1) := by decide +kernel
theorem dX7_doesAll_31 : decode cX7_doesAll 31 = .ok (.getfield 181, 3) := by decide +kernel
theorem dX7_doesAll_34 : decode cX7_doesAll 34 = .ok (.aload_n 0, 1) := by decide +kernel
theorem dX7_doesAll_35 : decode cX7_doesAll 35 = .ok (.getfield 191, 3) := by decide +kernel
theorem dX7_doesAll_38 : decode cX7_doesAll 38 = .ok (.isub, 1) := by decide +kernel
theorem dX7_doesAll_39 : decode cX7_doesAll 39 = .ok (.invokevirtual 222, 3) := by decide +kernel
theorem dX7_doesAll_42 : decode cX7_doesAll 42 = .ok (.ireturn, 1) := by decide +kernel
theorem dX7_doesAll_43 : decode cX7_doesAll 43 = .ok (.aload_n 0, 1) := by decide +kernel
theorem dX7_doesAll_44 : decode cX7_doesAll 44 = .ok (.invokevirtual 225, 3) := by decide +kernel
theorem dX7_doesAll_47 : decode cX7_doesAll 47 = .ok (.ifCond .ne 13, 3) := by decide +kernel
theorem dX7_doesAll_50 : decode cX7_doesAll 50 = .ok (.aload_n 0, 1) := by decide +kernel
theorem dX7_doesAll_51 : decode cX7_doesAll 51 = .ok (.iconst 2, 1) := by decide +kernel
theorem dX7_doesAll_52 : decode cX7_doesAll 52 = .ok (.aload_n 0, 1) := by decide +kernel
theorem dX7_doesAll_53 : decode cX7_doesAll 53 = .ok (.getfield 201, 3) := by decide +kernel
theorem dX7_doesAll_56 : decode cX7_doesAll 56 = .ok (.invokevirtual 222, 3) := by decide +kernel
theorem dX7_doesAll_59 : decode cX7_doesAll 59 = .ok (.ireturn, 1) := by decide +kernel
theorem dX7_doesAll_60 : decode cX7_doesAll 60 = .ok (.aload_n 0, 1) := by decide +kernel
theorem dX7_doesAll_61 : decode cX7_doesAll 61 = .ok (.getfield 181, 3) := by decide +kernel
theorem dX7_doesAll_64 : decode cX7_doesAll 64 = .ok (.istore_n 1, 1) := by decide +kernel
theorem dX7_doesAll_65 : decode cX7_doesAll 65 = .ok (.aload_n 0, 1) := by decide +kernel
theorem dX7_doesAll_66 : decode cX7_doesAll 66 = .ok (.invokevirtual 228, 3) := by decide +kernel
theorem dX7_doesAll_69 : decode cX7_doesAll 69 = .ok (.ldc 22, 2) := by decide +kernel
theorem dX7_doesAll_71 : decode cX7_doesAll 71 = .ok (.if_icmp .ge 11, 3) := by decide +kernel
theorem dX7_doesAll_74 : decode cX7_doesAll 74 = .ok (.aload_n 0, 1) := by decide +kernel
theorem dX7_doesAll_75 : decode cX7_doesAll 75 = .ok (.iconst 3, 1) := by decide +kernel
theorem dX7_doesAll_76 : decode cX7_doesAll 76 = .ok (.ldc 137, 2) := by decide +kernel
theorem dX7_doesAll_78 : decode cX7_doesAll 78 = .ok (.invokevirtual 222, 3) := by decide +kernel
theorem dX7_doesAll_81 : decode cX7_doesAll 81 = .ok (.ireturn, 1) := by decide +kernel
theorem dX7_doesAll_82 : decode cX7_doesAll 82 = .ok (.aload_n 0, 1) := by decide +kernel
theorem dX7_doesAll_83 : decode cX7_doesAll 83 = .ok (.dup, 1) := by decide +kernel
theorem dX7_doesAll_84 : decode cX7_doesAll 84 = .ok (.getfield 216, 3) := by decide +kernel
theorem dX7_doesAll_87 : decode cX7_doesAll 87 = .ok (.iconst 1, 1) := by decide +kernel
theorem dX7_doesAll_88 : decode cX7_doesAll 88 = .ok (.iadd, 1) := by decide +kernel
theorem dX7_doesAll_89 : decode cX7_doesAll 89 = .ok (.putfield 216, 3) := by decide +kernel
theorem dX7_doesAll_92 : decode cX7_doesAll 92 = .ok (.aload_n 0, 1) := by decide +kernel
theorem dX7_doesAll_93 : decode cX7_doesAll 93 = .ok (.iload_n 1, 1) := by decide +kernel
theorem dX7_doesAll_94 : decode cX7_doesAll 94 = .ok (.putfield 191, 3) := by decide +kernel
theorem dX7_doesAll_97 : decode cX7_doesAll 97 = .ok (.goto (-87), 3) := by decide +kernel
theorem dX7_doesAll_100 : decode cX7_doesAll 100 = .ok (.iconst 1, 1) := by decide +kernel
theorem dX7_doesAll_101 : decode cX7_doesAll 101 = .ok (.ireturn, 1) := by decide +kernel
set_option maxRecDepth 20000 in
theorem ggX7_fault_X7_in : GoodIn wsX7_fault wsX7_in := goodIn_r _ [10] (by decide +kernel) (by decide +kernel)
set_option maxRecDepth 20000 in
theorem gX7_fault_X7_in : GoodIn wsX7_fault (va_wsS RX7 29 yX7_in wsX7_in) := goodIn_app (goodIn_of _ (by decide +kernel)) ggX7_fault_X7_in
set_option maxRecDepth 20000 in
theorem ggX7_fault_X7_keep : GoodIn wsX7_fault wsX7_keep := goodIn_r _ [14, 15, 16, 159, 160, 161, 162, 163, 164, 165, 166, 167, 168, 169, 170, 171, 172] (by decide +kernel) (by decide +kernel)
set_option maxRecDepth 20000 in
theorem gX7_fault_X7_keep : GoodIn wsX7_fault (wsV RX7 104 RX7 yX7_keep wsX7_keep) := goodIn_app (goodIn_of _ (by decide +kernel)) ggX7_fault_X7_keep
set_option maxRecDepth 20000 in
theorem ggX7_fault_X7_doesAll : GoodIn wsX7_fault wsX7_doesAll := goodIn_r _ [20, 4, 21, 22, 23, 24, 25, 3, 26, 27, 28, 9, 29, 30, 31, 32, 33, 34, 35, 36, 37, 38, 39, 40, 41, 42, 43, 7, 8, 10, 44, 45, 46, 47, 48, 49, 50, 51, 5, 6, 52, 53, 54, 55, 56, 57, 58, 59, 60, 61, 62, 63, 64, 65, 66, 67, 68, 69, 16, 2, 70, 71, 72, 73, 74, 75, 76, 77, 78, 79, 80, 81, 82, 83, 84, 85, 86, 87, 88, 89, 90, 91, 92, 93, 94, 95, 96, 97, 98, 99, 100, 101, 102, 103, 104, 105, 106, 107, 108, 109, 110, 111, 112, 113, 114, 115, 116, 117, 118, 119, 120, 121, 122, 123, 124, 125, 126, 127, 128, 129, 130, 131, 132, 133, 134, 135, 136, 137, 138, 139, 140, 141, 142, 143, 144, 145, 146, 147, 148, 149, 150, 151, 152, 153, 154, 159, 160, 161, 162, 163, 164, 165, 166, 167, 168, 169, 170, 171, 172] (by decide +kernel) (by decide +kernel)
set_option maxRecDepth 20000 in
theorem gX7_fault_X7_doesAll : GoodIn wsX7_fault (wsV RX7 233 RX7 yX7_doesAll wsX7_doesAll) := goodIn_app (goodIn_of _ (by decide +kernel)) ggX7_fault_X7_doesAll
set_option maxRecDepth 20000 in
theorem ggX7_fault_X7_giveBack : GoodIn wsX7_fault wsX7_giveBack := goodIn_r _ [158, 16, 15, 159, 160, 161, 162, 163, 164, 165, 166, 167, 168, 169, 170, 171, 172] (by decide +kernel) (by decide +kernel)
set_option maxRecDepth 20000 in
theorem gX7_fault_X7_giveBack : GoodIn wsX7_fault (wsV RX7 155 RX7 yX7_giveBack wsX7_giveBack) := goodIn_app (goodIn_of _ (by decide +kernel)) ggX7_fault_X7_giveBack
theorem dX7_fault_0 : decode cX7_fault 0 = .ok (.iload_n 1, 1) := by decide +kernel
theorem dX7_fault_1 : decode cX7_fault 1 = .ok (.i2l, 1) := by decide +kernel
theorem dX7_fault_2 : decode cX7_fault 2 = .ok (.lconst 0, 1) := by decide +kernel
theorem dX7_fault_3 : decode cX7_fault 3 = .ok (.ldc2_w 231, 3) := by decide +kernel
theorem dX7_fault_6 : decode cX7_fault 6 = .ok (.invokestatic 29, 3) := by decide +kernel
theorem dX7_fault_9 : decode cX7_fault 9 = .ok (.ifCond .ne 6, 3) := by decide +kernel
theorem dX7_fault_12 : decode cX7_fault 12 = .ok (.ldc 73, 2) := by decide +kernel
theorem dX7_fault_14 : decode cX7_fault 14 = .ok (.ireturn, 1) := by decide +kernel
theorem dX7_fault_15 : decode cX7_fault 15 = .ok (.aload_n 0, 1) := by decide +kernel
theorem dX7_fault_16 : decode cX7_fault 16 = .ok (.invokevirtual 104, 3) := by decide +kernel
theorem dX7_fault_19 : decode cX7_fault 19 = .ok (.aload_n 0, 1) := by decide +kernel
theorem dX7_fault_20 : decode cX7_fault 20 = .ok (.invokevirtual 233, 3) := by decide +kernel
theorem dX7_fault_23 : decode cX7_fault 23 = .ok (.istore_n 2, 1) := by decide +kernel
theorem dX7_fault_24 : decode cX7_fault 24 = .ok (.aload_n 0, 1) := by decide +kernel
theorem dX7_fault_25 : decode cX7_fault 25 = .ok (.invokevirtual 155, 3) := by decide +kernel
theorem dX7_fault_28 : decode cX7_fault 28 = .ok (.iload_n 2, 1) := by decide +kernel
theorem dX7_fault_29 : decode cX7_fault 29 = .ok (.ifCond .eq 8, 3) := by decide +kernel
theorem dX7_fault_32 : decode cX7_fault 32 = .ok (.ldc 137, 2) := by decide +kernel
theorem dX7_fault_34 : decode cX7_fault 34 = .ok (.goto 30, 3) := by decide +kernel
theorem dX7_fault_37 : decode cX7_fault 37 = .ok (.iload_n 1, 1) := by decide +kernel
theorem dX7_fault_38 : decode cX7_fault 38 = .ok (.ifCond .ne 10, 3) := by decide +kernel
theorem dX7_fault_41 : decode cX7_fault 41 = .ok (.aload_n 0, 1) := by decide +kernel
theorem dX7_fault_42 : decode cX7_fault 42 = .ok (.getfield 191, 3) := by decide +kernel
theorem dX7_fault_45 : decode cX7_fault 45 = .ok (.goto 19, 3) := by decide +kernel
theorem dX7_fault_48 : decode cX7_fault 48 = .ok (.iload_n 1, 1) := by decide +kernel
theorem dX7_fault_49 : decode cX7_fault 49 = .ok (.iconst 1, 1) := by decide +kernel
theorem dX7_fault_50 : decode cX7_fault 50 = .ok (.if_icmp .ne 10, 3) := by decide +kernel
theorem dX7_fault_53 : decode cX7_fault 53 = .ok (.aload_n 0, 1) := by decide +kernel
theorem dX7_fault_54 : decode cX7_fault 54 = .ok (.getfield 210, 3) := by decide +kernel
theorem dX7_fault_57 : decode cX7_fault 57 = .ok (.goto 7, 3) := by decide +kernel
theorem dX7_fault_60 : decode cX7_fault 60 = .ok (.aload_n 0, 1) := by decide +kernel
theorem dX7_fault_61 : decode cX7_fault 61 = .ok (.getfield 213, 3) := by decide +kernel
theorem dX7_fault_64 : decode cX7_fault 64 = .ok (.ireturn, 1) := by decide +kernel
set_option maxRecDepth 20000 in
theorem ggX7_play_X7_keep : GoodIn wsX7_play wsX7_keep := goodIn_r _ [7, 8, 9, 164, 165, 166, 167, 168, 169, 170, 171, 172, 173, 174, 175, 176, 177] (by decide +kernel) (by decide +kernel)
set_option maxRecDepth 20000 in
theorem gX7_play_X7_keep : GoodIn wsX7_play (wsV RX7 104 RX7 yX7_keep wsX7_keep) := goodIn_app (goodIn_of _ (by decide +kernel)) ggX7_play_X7_keep
set_option maxRecDepth 20000 in
theorem ggX7_play_X7_doesAll : GoodIn wsX7_play wsX7_doesAll := goodIn_r _ [13, 14, 2, 15, 16, 17, 18, 19, 20, 21, 22, 6, 23, 24, 25, 26, 27, 28, 29, 30, 31, 32, 33, 34, 35, 36, 37, 38, 39, 40, 41, 42, 43, 44, 45, 46, 47, 48, 49, 50, 51, 52, 53, 54, 55, 56, 57, 58, 59, 60, 61, 62, 63, 64, 65, 66, 67, 68, 9, 69, 70, 71, 72, 73, 74, 75, 76, 77, 78, 79, 80, 81, 82, 83, 84, 85, 86, 87, 88, 89, 90, 91, 92, 93, 94, 95, 96, 97, 98, 99, 100, 101, 102, 103, 104, 105, 106, 107, 108, 109, 110, 111, 112, 113, 114, 115, 116, 117, 118, 119, 120, 121, 122, 123, 124, 125, 126, 127, 128, 129, 130, 131, 132, 133, 134, 135, 136, 137, 138, 139, 140, 141, 142, 143, 144, 145, 146, 147, 148, 149, 150, 151, 152, 153, 1, 164, 165, 166, 167, 168, 169, 170, 171, 172, 173, 174, 175, 176, 177] (by decide +kernel) (by decide +kernel)
set_option maxRecDepth 20000 in
theorem gX7_play_X7_doesAll : GoodIn wsX7_play (wsV RX7 233 RX7 yX7_doesAll wsX7_doesAll) := goodIn_app (goodIn_of _ (by decide +kernel)) ggX7_play_X7_doesAll
set_option maxRecDepth 20000 in
theorem ggX7_play_X7_giveBack : GoodIn wsX7_play wsX7_giveBack := goodIn_r _ [157, 9, 8, 164, 165, 166, 167, 168, 169, 170, 171, 172, 173, 174, 175, 176, 177] (by decide +kernel) (by decide +kernel)
set_option maxRecDepth 20000 in
theorem gX7_play_X7_giveBack : GoodIn wsX7_play (wsV RX7 155 RX7 yX7_giveBack wsX7_giveBack) := goodIn_app (goodIn_of _ (by decide +kernel)) ggX7_play_X7_giveBack
set_option maxRecDepth 20000 in
theorem ggX7_play_X7_changed : GoodIn wsX7_play wsX7_changed := goodIn_r _ [161, 18, 162, 163, 8, 164, 165, 166, 167, 168, 169, 170, 171, 172, 173, 174, 175, 176, 177] (by decide +kernel) (by decide +kernel)
set_option maxRecDepth 20000 in
theorem gX7_play_X7_changed : GoodIn wsX7_play (wsV RX7 110 RX7 yX7_changed wsX7_changed) := goodIn_app (goodIn_of _ (by decide +kernel)) ggX7_play_X7_changed
theorem dX7_play_0 : decode cX7_play 0 = .ok (.aload_n 0, 1) := by decide +kernel
theorem dX7_play_1 : decode cX7_play 1 = .ok (.invokevirtual 104, 3) := by decide +kernel
theorem dX7_play_4 : decode cX7_play 4 = .ok (.aload_n 0, 1) := by decide +kernel
theorem dX7_play_5 : decode cX7_play 5 = .ok (.invokevirtual 233, 3) := by decide +kernel
theorem dX7_play_8 : decode cX7_play 8 = .ok (.ifCond .ne 10, 3) := by decide +kernel
theorem dX7_play_11 : decode cX7_play 11 = .ok (.aload_n 0, 1) := by decide +kernel
theorem dX7_play_12 : decode cX7_play 12 = .ok (.invokevirtual 155, 3) := by decide +kernel
theorem dX7_play_15 : decode cX7_play 15 = .ok (.ldc 96, 2) := by decide +kernel
theorem dX7_play_17 : decode cX7_play 17 = .ok (.ireturn, 1) := by decide +kernel
theorem dX7_play_18 : decode cX7_play 18 = .ok (.aload_n 0, 1) := by decide +kernel
theorem dX7_play_19 : decode cX7_play 19 = .ok (.aload_n 0, 1) := by decide +kernel
theorem dX7_play_20 : decode cX7_play 20 = .ok (.getfield 216, 3) := by decide +kernel
theorem dX7_play_23 : decode cX7_play 23 = .ok (.invokevirtual 110, 3) := by decide +kernel
theorem dX7_play_26 : decode cX7_play 26 = .ok (.ireturn, 1) := by decide +kernel
