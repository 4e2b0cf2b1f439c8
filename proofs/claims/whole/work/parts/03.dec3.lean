theorem dX9_init_91 : decode cX9_init 91 = .ok (.iadd, 1) := by decide +kernel
theorem dX9_init_92 : decode cX9_init 92 = .ok (.sipush (-1000), 3) := by decide +kernel
theorem dX9_init_95 : decode cX9_init 95 = .ok (.iastore, 1) := by decide +kernel
theorem dX9_init_96 : decode cX9_init 96 = .ok (.aload_n 0, 1) := by decide +kernel
theorem dX9_init_97 : decode cX9_init 97 = .ok (.getfield 7, 3) := by decide +kernel
theorem dX9_init_100 : decode cX9_init 100 = .ok (.bipush 19, 2) := by decide +kernel
theorem dX9_init_102 : decode cX9_init 102 = .ok (.iload_n 1, 1) := by decide +kernel
theorem dX9_init_103 : decode cX9_init 103 = .ok (.iadd, 1) := by decide +kernel
theorem dX9_init_104 : decode cX9_init 104 = .ok (.sipush (-1000), 3) := by decide +kernel
theorem dX9_init_107 : decode cX9_init 107 = .ok (.iastore, 1) := by decide +kernel
theorem dX9_init_108 : decode cX9_init 108 = .ok (.iinc 1 1, 3) := by decide +kernel
theorem dX9_init_111 : decode cX9_init 111 = .ok (.goto (-32), 3) := by decide +kernel
theorem dX9_init_114 : decode cX9_init 114 = .ok (.aload_n 0, 1) := by decide +kernel
theorem dX9_init_115 : decode cX9_init 115 = .ok (.getfield 7, 3) := by decide +kernel
theorem dX9_init_118 : decode cX9_init 118 = .ok (.bipush 33, 2) := by decide +kernel
theorem dX9_init_120 : decode cX9_init 120 = .ok (.iconst (-1), 1) := by decide +kernel
theorem dX9_init_121 : decode cX9_init 121 = .ok (.iastore, 1) := by decide +kernel
theorem dX9_init_122 : decode cX9_init 122 = .ok (.return_, 1) := by decide +kernel
theorem dX9_thrown_0 : decode cX9_thrown 0 = .ok (.aload_n 0, 1) := by decide +kernel
theorem dX9_thrown_1 : decode cX9_thrown 1 = .ok (.getfield 16, 3) := by decide +kernel
theorem dX9_thrown_4 : decode cX9_thrown 4 = .ok (.ireturn, 1) := by decide +kernel
theorem dX9_in_0 : decode cX9_in 0 = .ok (.iload_n 0, 1) := by decide +kernel
theorem dX9_in_1 : decode cX9_in 1 = .ok (.iload_n 1, 1) := by decide +kernel
theorem dX9_in_2 : decode cX9_in 2 = .ok (.if_icmp .lt 12, 3) := by decide +kernel
theorem dX9_in_5 : decode cX9_in 5 = .ok (.iload_n 0, 1) := by decide +kernel
theorem dX9_in_6 : decode cX9_in 6 = .ok (.iload_n 2, 1) := by decide +kernel
theorem dX9_in_7 : decode cX9_in 7 = .ok (.if_icmp .gt 7, 3) := by decide +kernel
theorem dX9_in_10 : decode cX9_in 10 = .ok (.iconst 1, 1) := by decide +kernel
theorem dX9_in_11 : decode cX9_in 11 = .ok (.goto 4, 3) := by decide +kernel
theorem dX9_in_14 : decode cX9_in 14 = .ok (.iconst 0, 1) := by decide +kernel
theorem dX9_in_15 : decode cX9_in 15 = .ok (.ireturn, 1) := by decide +kernel
theorem dX9_fails_0 : decode cX9_fails 0 = .ok (.aload_n 0, 1) := by decide +kernel
theorem dX9_fails_1 : decode cX9_fails 1 = .ok (.iload_n 1, 1) := by decide +kernel
theorem dX9_fails_2 : decode cX9_fails 2 = .ok (.putfield 16, 3) := by decide +kernel
theorem dX9_fails_5 : decode cX9_fails 5 = .ok (.iconst 0, 1) := by decide +kernel
theorem dX9_fails_6 : decode cX9_fails 6 = .ok (.ireturn, 1) := by decide +kernel
theorem dX9_save_0 : decode cX9_save 0 = .ok (.aload_n 0, 1) := by decide +kernel
theorem dX9_save_1 : decode cX9_save 1 = .ok (.iconst 0, 1) := by decide +kernel
theorem dX9_save_2 : decode cX9_save 2 = .ok (.putfield 16, 3) := by decide +kernel
theorem dX9_save_5 : decode cX9_save 5 = .ok (.aload_n 0, 1) := by decide +kernel
theorem dX9_save_6 : decode cX9_save 6 = .ok (.getfield 20, 3) := by decide +kernel
theorem dX9_save_9 : decode cX9_save 9 = .ok (.iconst 4, 1) := by decide +kernel
theorem dX9_save_10 : decode cX9_save 10 = .ok (.if_icmp .ne 44, 3) := by decide +kernel
theorem dX9_save_13 : decode cX9_save 13 = .ok (.iconst 0, 1) := by decide +kernel
theorem dX9_save_14 : decode cX9_save 14 = .ok (.istore_n 1, 1) := by decide +kernel
theorem dX9_save_15 : decode cX9_save 15 = .ok (.iload_n 1, 1) := by decide +kernel
theorem dX9_save_16 : decode cX9_save 16 = .ok (.sipush 387, 3) := by decide +kernel
theorem dX9_save_19 : decode cX9_save 19 = .ok (.if_icmp .ge 25, 3) := by decide +kernel
theorem dX9_save_22 : decode cX9_save 22 = .ok (.aload_n 0, 1) := by decide +kernel
theorem dX9_save_23 : decode cX9_save 23 = .ok (.getfield 13, 3) := by decide +kernel
theorem dX9_save_26 : decode cX9_save 26 = .ok (.iload_n 1, 1) := by decide +kernel
theorem dX9_save_27 : decode cX9_save 27 = .ok (.aload_n 0, 1) := by decide +kernel
theorem dX9_save_28 : decode cX9_save 28 = .ok (.getfield 13, 3) := by decide +kernel
theorem dX9_save_31 : decode cX9_save 31 = .ok (.iload_n 1, 1) := by decide +kernel
theorem dX9_save_32 : decode cX9_save 32 = .ok (.sipush 129, 3) := by decide +kernel
theorem dX9_save_35 : decode cX9_save 35 = .ok (.iadd, 1) := by decide +kernel
theorem dX9_save_36 : decode cX9_save 36 = .ok (.iaload, 1) := by decide +kernel
theorem dX9_save_37 : decode cX9_save 37 = .ok (.iastore, 1) := by decide +kernel
theorem dX9_save_38 : decode cX9_save 38 = .ok (.iinc 1 1, 3) := by decide +kernel
theorem dX9_save_41 : decode cX9_save 41 = .ok (.goto (-26), 3) := by decide +kernel
theorem dX9_save_44 : decode cX9_save 44 = .ok (.aload_n 0, 1) := by decide +kernel
theorem dX9_save_45 : decode cX9_save 45 = .ok (.dup, 1) := by decide +kernel
theorem dX9_save_46 : decode cX9_save 46 = .ok (.getfield 20, 3) := by decide +kernel
theorem dX9_save_49 : decode cX9_save 49 = .ok (.iconst 1, 1) := by decide +kernel
theorem dX9_save_50 : decode cX9_save 50 = .ok (.isub, 1) := by decide +kernel
theorem dX9_save_51 : decode cX9_save 51 = .ok (.putfield 20, 3) := by decide +kernel
theorem dX9_save_54 : decode cX9_save 54 = .ok (.iconst 0, 1) := by decide +kernel
theorem dX9_save_55 : decode cX9_save 55 = .ok (.istore_n 1, 1) := by decide +kernel
theorem dX9_save_56 : decode cX9_save 56 = .ok (.iload_n 1, 1) := by decide +kernel
theorem dX9_save_57 : decode cX9_save 57 = .ok (.sipush 129, 3) := by decide +kernel
theorem dX9_save_60 : decode cX9_save 60 = .ok (.if_icmp .ge 30, 3) := by decide +kernel
theorem dX9_save_63 : decode cX9_save 63 = .ok (.aload_n 0, 1) := by decide +kernel
theorem dX9_save_64 : decode cX9_save 64 = .ok (.getfield 13, 3) := by decide +kernel
theorem dX9_save_67 : decode cX9_save 67 = .ok (.sipush 129, 3) := by decide +kernel
theorem dX9_save_70 : decode cX9_save 70 = .ok (.aload_n 0, 1) := by decide +kernel
theorem dX9_save_71 : decode cX9_save 71 = .ok (.getfield 20, 3) := by decide +kernel
theorem dX9_save_74 : decode cX9_save 74 = .ok (.imul, 1) := by decide +kernel
theorem dX9_save_75 : decode cX9_save 75 = .ok (.iload_n 1, 1) := by decide +kernel
theorem dX9_save_76 : decode cX9_save 76 = .ok (.iadd, 1) := by decide +kernel
theorem dX9_save_77 : decode cX9_save 77 = .ok (.aload_n 0, 1) := by decide +kernel
theorem dX9_save_78 : decode cX9_save 78 = .ok (.getfield 7, 3) := by decide +kernel
theorem dX9_save_81 : decode cX9_save 81 = .ok (.iload_n 1, 1) := by decide +kernel
theorem dX9_save_82 : decode cX9_save 82 = .ok (.iaload, 1) := by decide +kernel
theorem dX9_save_83 : decode cX9_save 83 = .ok (.iastore, 1) := by decide +kernel
theorem dX9_save_84 : decode cX9_save 84 = .ok (.iinc 1 1, 3) := by decide +kernel
theorem dX9_save_87 : decode cX9_save 87 = .ok (.goto (-31), 3) := by decide +kernel
theorem dX9_save_90 : decode cX9_save 90 = .ok (.aload_n 0, 1) := by decide +kernel
theorem dX9_save_91 : decode cX9_save 91 = .ok (.dup, 1) := by decide +kernel
theorem dX9_save_92 : decode cX9_save 92 = .ok (.getfield 20, 3) := by decide +kernel
theorem dX9_save_95 : decode cX9_save 95 = .ok (.iconst 1, 1) := by decide +kernel
theorem dX9_save_96 : decode cX9_save 96 = .ok (.iadd, 1) := by decide +kernel
theorem dX9_save_97 : decode cX9_save 97 = .ok (.putfield 20, 3) := by decide +kernel
theorem dX9_save_100 : decode cX9_save 100 = .ok (.return_, 1) := by decide +kernel
set_option maxRecDepth 20000 in
theorem ggX9_becomes_X9_save : GoodIn wsX9_becomes wsX9_save := goodIn_r _ [6, 7, 8, 9, 1, 10, 11, 12, 13, 14, 15] (by decide +kernel) (by decide +kernel)
set_option maxRecDepth 20000 in
theorem gX9_becomes_X9_save : GoodIn wsX9_becomes (wsV RX9 23 RX9 yX9_save wsX9_save) := goodIn_app (goodIn_of _ (by decide +kernel)) ggX9_becomes_X9_save
theorem dX9_becomes_0 : decode cX9_becomes 0 = .ok (.aload_n 0, 1) := by decide +kernel
theorem dX9_becomes_1 : decode cX9_becomes 1 = .ok (.invokevirtual 23, 3) := by decide +kernel
theorem dX9_becomes_4 : decode cX9_becomes 4 = .ok (.aload_n 0, 1) := by decide +kernel
theorem dX9_becomes_5 : decode cX9_becomes 5 = .ok (.getfield 7, 3) := by decide +kernel
theorem dX9_becomes_8 : decode cX9_becomes 8 = .ok (.iload_n 1, 1) := by decide +kernel
theorem dX9_becomes_9 : decode cX9_becomes 9 = .ok (.iaload, 1) := by decide +kernel
theorem dX9_becomes_10 : decode cX9_becomes 10 = .ok (.istore_n 3, 1) := by decide +kernel
theorem dX9_becomes_11 : decode cX9_becomes 11 = .ok (.aload_n 0, 1) := by decide +kernel
theorem dX9_becomes_12 : decode cX9_becomes 12 = .ok (.getfield 7, 3) := by decide +kernel
theorem dX9_becomes_15 : decode cX9_becomes 15 = .ok (.iload_n 1, 1) := by decide +kernel
theorem dX9_becomes_16 : decode cX9_becomes 16 = .ok (.iload_n 2, 1) := by decide +kernel
theorem dX9_becomes_17 : decode cX9_becomes 17 = .ok (.iastore, 1) := by decide +kernel
theorem dX9_becomes_18 : decode cX9_becomes 18 = .ok (.iload_n 3, 1) := by decide +kernel
theorem dX9_becomes_19 : decode cX9_becomes 19 = .ok (.ireturn, 1) := by decide +kernel
set_option maxRecDepth 20000 in
theorem ggX9_setFilter_X9_in : GoodIn wsX9_setFilter wsX9_in := goodIn_r _ [4] (by decide +kernel) (by decide +kernel)
set_option maxRecDepth 20000 in
theorem gX9_setFilter_X9_in : GoodIn wsX9_setFilter (va_wsS RX9 26 yX9_in wsX9_in) := goodIn_app (goodIn_of _ (by decide +kernel)) ggX9_setFilter_X9_in
set_option maxRecDepth 20000 in
theorem ggX9_setFilter_X9_becomes : GoodIn wsX9_setFilter wsX9_becomes := goodIn_r _ [8, 9, 10, 11, 12, 3, 13, 14, 15, 16, 21, 22, 23, 24, 25, 26] (by decide +kernel) (by decide +kernel)
set_option maxRecDepth 20000 in
theorem gX9_setFilter_X9_becomes : GoodIn wsX9_setFilter (wsV RX9 30 RX9 yX9_becomes wsX9_becomes) := goodIn_app (goodIn_of _ (by decide +kernel)) ggX9_setFilter_X9_becomes
set_option maxRecDepth 20000 in
theorem ggX9_setFilter_X9_fails : GoodIn wsX9_setFilter wsX9_fails := goodIn_r _ [20, 14, 21, 22, 23, 24, 25, 26] (by decide +kernel) (by decide +kernel)
set_option maxRecDepth 20000 in
theorem gX9_setFilter_X9_fails : GoodIn wsX9_setFilter (wsV RX9 34 RX9 yX9_fails wsX9_fails) := goodIn_app (goodIn_of _ (by decide +kernel)) ggX9_setFilter_X9_fails
theorem dX9_setFilter_0 : decode cX9_setFilter 0 = .ok (.iload_n 1, 1) := by decide +kernel
theorem dX9_setFilter_1 : decode cX9_setFilter 1 = .ok (.iconst 1, 1) := by decide +kernel
theorem dX9_setFilter_2 : decode cX9_setFilter 2 = .ok (.bipush 50, 2) := by decide +kernel
theorem dX9_setFilter_4 : decode cX9_setFilter 4 = .ok (.invokestatic 26, 3) := by decide +kernel
theorem dX9_setFilter_7 : decode cX9_setFilter 7 = .ok (.ifCond .eq 12, 3) := by decide +kernel
theorem dX9_setFilter_10 : decode cX9_setFilter 10 = .ok (.aload_n 0, 1) := by decide +kernel
theorem dX9_setFilter_11 : decode cX9_setFilter 11 = .ok (.iconst 1, 1) := by decide +kernel
theorem dX9_setFilter_12 : decode cX9_setFilter 12 = .ok (.iload_n 1, 1) := by decide +kernel
theorem dX9_setFilter_13 : decode cX9_setFilter 13 = .ok (.invokevirtual 30, 3) := by decide +kernel
theorem dX9_setFilter_16 : decode cX9_setFilter 16 = .ok (.goto 8, 3) := by decide +kernel
theorem dX9_setFilter_19 : decode cX9_setFilter 19 = .ok (.aload_n 0, 1) := by decide +kernel
theorem dX9_setFilter_20 : decode cX9_setFilter 20 = .ok (.iconst 1, 1) := by decide +kernel
theorem dX9_setFilter_21 : decode cX9_setFilter 21 = .ok (.invokevirtual 34, 3) := by decide +kernel
theorem dX9_setFilter_24 : decode cX9_setFilter 24 = .ok (.ireturn, 1) := by decide +kernel
set_option maxRecDepth 20000 in
theorem ggX9_setPulse_X9_in : GoodIn wsX9_setPulse wsX9_in := goodIn_r _ [5] (by decide +kernel) (by decide +kernel)
set_option maxRecDepth 20000 in
theorem gX9_setPulse_X9_in : GoodIn wsX9_setPulse (va_wsS RX9 26 yX9_in wsX9_in) := goodIn_app (goodIn_of _ (by decide +kernel)) ggX9_setPulse_X9_in
set_option maxRecDepth 20000 in
theorem ggX9_setPulse_X9_fails : GoodIn wsX9_setPulse wsX9_fails := goodIn_r _ [9, 10, 21, 22, 23, 24, 25, 26] (by decide +kernel) (by decide +kernel)
set_option maxRecDepth 20000 in
theorem gX9_setPulse_X9_fails : GoodIn wsX9_setPulse (wsV RX9 34 RX9 yX9_fails wsX9_fails) := goodIn_app (goodIn_of _ (by decide +kernel)) ggX9_setPulse_X9_fails
set_option maxRecDepth 20000 in
theorem ggX9_setPulse_X9_becomes : GoodIn wsX9_setPulse wsX9_becomes := goodIn_r _ [14, 1, 15, 16, 17, 4, 18, 10, 19, 20, 21, 22, 23, 24, 25, 26] (by decide +kernel) (by decide +kernel)
set_option maxRecDepth 20000 in
theorem gX9_setPulse_X9_becomes : GoodIn wsX9_setPulse (wsV RX9 30 RX9 yX9_becomes wsX9_becomes) := goodIn_app (goodIn_of _ (by decide +kernel)) ggX9_setPulse_X9_becomes
theorem dX9_setPulse_0 : decode cX9_setPulse 0 = .ok (.iload_n 1, 1) := by decide +kernel
theorem dX9_setPulse_1 : decode cX9_setPulse 1 = .ok (.iconst 4, 1) := by decide +kernel
theorem dX9_setPulse_2 : decode cX9_setPulse 2 = .ok (.bipush 100, 2) := by decide +kernel
theorem dX9_setPulse_4 : decode cX9_setPulse 4 = .ok (.invokestatic 26, 3) := by decide +kernel
theorem dX9_setPulse_7 : decode cX9_setPulse 7 = .ok (.ifCond .eq 13, 3) := by decide +kernel
theorem dX9_setPulse_10 : decode cX9_setPulse 10 = .ok (.iload_n 2, 1) := by decide +kernel
theorem dX9_setPulse_11 : decode cX9_setPulse 11 = .ok (.iconst 0, 1) := by decide +kernel
theorem dX9_setPulse_12 : decode cX9_setPulse 12 = .ok (.bipush 100, 2) := by decide +kernel
theorem dX9_setPulse_14 : decode cX9_setPulse 14 = .ok (.invokestatic 26, 3) := by decide +kernel
theorem dX9_setPulse_17 : decode cX9_setPulse 17 = .ok (.ifCond .ne 9, 3) := by decide +kernel
theorem dX9_setPulse_20 : decode cX9_setPulse 20 = .ok (.aload_n 0, 1) := by decide +kernel
theorem dX9_setPulse_21 : decode cX9_setPulse 21 = .ok (.iconst 1, 1) := by decide +kernel
theorem dX9_setPulse_22 : decode cX9_setPulse 22 = .ok (.invokevirtual 34, 3) := by decide +kernel
theorem dX9_setPulse_25 : decode cX9_setPulse 25 = .ok (.ireturn, 1) := by decide +kernel
theorem dX9_setPulse_26 : decode cX9_setPulse 26 = .ok (.aload_n 0, 1) := by decide +kernel
theorem dX9_setPulse_27 : decode cX9_setPulse 27 = .ok (.iconst 3, 1) := by decide +kernel
theorem dX9_setPulse_28 : decode cX9_setPulse 28 = .ok (.iload_n 2, 1) := by decide +kernel
theorem dX9_setPulse_29 : decode cX9_setPulse 29 = .ok (.invokevirtual 30, 3) := by decide +kernel
theorem dX9_setPulse_32 : decode cX9_setPulse 32 = .ok (.istore_n 3, 1) := by decide +kernel
theorem dX9_setPulse_33 : decode cX9_setPulse 33 = .ok (.aload_n 0, 1) := by decide +kernel
theorem dX9_setPulse_34 : decode cX9_setPulse 34 = .ok (.getfield 7, 3) := by decide +kernel
theorem dX9_setPulse_37 : decode cX9_setPulse 37 = .ok (.iconst 2, 1) := by decide +kernel
theorem dX9_setPulse_38 : decode cX9_setPulse 38 = .ok (.iload_n 1, 1) := by decide +kernel
theorem dX9_setPulse_39 : decode cX9_setPulse 39 = .ok (.iastore, 1) := by decide +kernel
theorem dX9_setPulse_40 : decode cX9_setPulse 40 = .ok (.iload_n 3, 1) := by decide +kernel
theorem dX9_setPulse_41 : decode cX9_setPulse 41 = .ok (.ireturn, 1) := by decide +kernel
set_option maxRecDepth 20000 in
theorem ggX9_setDeadTime_X9_in : GoodIn wsX9_setDeadTime wsX9_in := goodIn_r _ [4] (by decide +kernel) (by decide +kernel)
set_option maxRecDepth 20000 in
theorem gX9_setDeadTime_X9_in : GoodIn wsX9_setDeadTime (va_wsS RX9 26 yX9_in wsX9_in) := goodIn_app (goodIn_of _ (by decide +kernel)) ggX9_setDeadTime_X9_in
set_option maxRecDepth 20000 in
theorem ggX9_setDeadTime_X9_becomes : GoodIn wsX9_setDeadTime wsX9_becomes := goodIn_r _ [8, 9, 10, 11, 12, 3, 13, 14, 15, 16, 21, 22, 23, 24, 25, 26] (by decide +kernel) (by decide +kernel)
set_option maxRecDepth 20000 in
theorem gX9_setDeadTime_X9_becomes : GoodIn wsX9_setDeadTime (wsV RX9 30 RX9 yX9_becomes wsX9_becomes) := goodIn_app (goodIn_of _ (by decide +kernel)) ggX9_setDeadTime_X9_becomes
set_option maxRecDepth 20000 in
theorem ggX9_setDeadTime_X9_fails : GoodIn wsX9_setDeadTime wsX9_fails := goodIn_r _ [20, 14, 21, 22, 23, 24, 25, 26] (by decide +kernel) (by decide +kernel)
set_option maxRecDepth 20000 in
theorem gX9_setDeadTime_X9_fails : GoodIn wsX9_setDeadTime (wsV RX9 34 RX9 yX9_fails wsX9_fails) := goodIn_app (goodIn_of _ (by decide +kernel)) ggX9_setDeadTime_X9_fails
theorem dX9_setDeadTime_0 : decode cX9_setDeadTime 0 = .ok (.iload_n 1, 1) := by decide +kernel
theorem dX9_setDeadTime_1 : decode cX9_setDeadTime 1 = .ok (.iconst 0, 1) := by decide +kernel
theorem dX9_setDeadTime_2 : decode cX9_setDeadTime 2 = .ok (.bipush 20, 2) := by decide +kernel
theorem dX9_setDeadTime_4 : decode cX9_setDeadTime 4 = .ok (.invokestatic 26, 3) := by decide +kernel
theorem dX9_setDeadTime_7 : decode cX9_setDeadTime 7 = .ok (.ifCond .eq 12, 3) := by decide +kernel
theorem dX9_setDeadTime_10 : decode cX9_setDeadTime 10 = .ok (.aload_n 0, 1) := by decide +kernel
theorem dX9_setDeadTime_11 : decode cX9_setDeadTime 11 = .ok (.iconst 4, 1) := by decide +kernel
theorem dX9_setDeadTime_12 : decode cX9_setDeadTime 12 = .ok (.iload_n 1, 1) := by decide +kernel
theorem dX9_setDeadTime_13 : decode cX9_setDeadTime 13 = .ok (.invokevirtual 30, 3) := by decide +kernel
theorem dX9_setDeadTime_16 : decode cX9_setDeadTime 16 = .ok (.goto 8, 3) := by decide +kernel
theorem dX9_setDeadTime_19 : decode cX9_setDeadTime 19 = .ok (.aload_n 0, 1) := by decide +kernel
theorem dX9_setDeadTime_20 : decode cX9_setDeadTime 20 = .ok (.iconst 1, 1) := by decide +kernel
theorem dX9_setDeadTime_21 : decode cX9_setDeadTime 21 = .ok (.invokevirtual 34, 3) := by decide +kernel
theorem dX9_setDeadTime_24 : decode cX9_setDeadTime 24 = .ok (.ireturn, 1) := by decide +kernel
set_option maxRecDepth 20000 in
theorem ggX9_setStall_X9_in : GoodIn wsX9_setStall wsX9_in := goodIn_r _ [5] (by decide +kernel) (by decide +kernel)
set_option maxRecDepth 20000 in
theorem gX9_setStall_X9_in : GoodIn wsX9_setStall (va_wsS RX9 26 yX9_in wsX9_in) := goodIn_app (goodIn_of _ (by decide +kernel)) ggX9_setStall_X9_in
set_option maxRecDepth 20000 in
theorem ggX9_setStall_X9_becomes : GoodIn wsX9_setStall wsX9_becomes := goodIn_r _ [9, 10, 11, 12, 13, 4, 14, 15, 16, 17, 22, 23, 24, 25, 26, 27] (by decide +kernel) (by decide +kernel)
set_option maxRecDepth 20000 in
theorem gX9_setStall_X9_becomes : GoodIn wsX9_setStall (wsV RX9 30 RX9 yX9_becomes wsX9_becomes) := goodIn_app (goodIn_of _ (by decide +kernel)) ggX9_setStall_X9_becomes
set_option maxRecDepth 20000 in
theorem ggX9_setStall_X9_fails : GoodIn wsX9_setStall wsX9_fails := goodIn_r _ [21, 15, 22, 23, 24, 25, 26, 27] (by decide +kernel) (by decide +kernel)
set_option maxRecDepth 20000 in
theorem gX9_setStall_X9_fails : GoodIn wsX9_setStall (wsV RX9 34 RX9 yX9_fails wsX9_fails) := goodIn_app (goodIn_of _ (by decide +kernel)) ggX9_setStall_X9_fails
theorem dX9_setStall_0 : decode cX9_setStall 0 = .ok (.iload_n 1, 1) := by decide +kernel
theorem dX9_setStall_1 : decode cX9_setStall 1 = .ok (.bipush 10, 2) := by decide +kernel
theorem dX9_setStall_3 : decode cX9_setStall 3 = .ok (.ldc 38, 2) := by decide +kernel
theorem dX9_setStall_5 : decode cX9_setStall 5 = .ok (.invokestatic 26, 3) := by decide +kernel
theorem dX9_setStall_8 : decode cX9_setStall 8 = .ok (.ifCond .eq 12, 3) := by decide +kernel
theorem dX9_setStall_11 : decode cX9_setStall 11 = .ok (.aload_n 0, 1) := by decide +kernel
theorem dX9_setStall_12 : decode cX9_setStall 12 = .ok (.iconst 5, 1) := by decide +kernel
theorem dX9_setStall_13 : decode cX9_setStall 13 = .ok (.iload_n 1, 1) := by decide +kernel
theorem dX9_setStall_14 : decode cX9_setStall 14 = .ok (.invokevirtual 30, 3) := by decide +kernel
theorem dX9_setStall_17 : decode cX9_setStall 17 = .ok (.goto 8, 3) := by decide +kernel
theorem dX9_setStall_20 : decode cX9_setStall 20 = .ok (.aload_n 0, 1) := by decide +kernel
theorem dX9_setStall_21 : decode cX9_setStall 21 = .ok (.iconst 1, 1) := by decide +kernel
theorem dX9_setStall_22 : decode cX9_setStall 22 = .ok (.invokevirtual 34, 3) := by decide +kernel
theorem dX9_setStall_25 : decode cX9_setStall 25 = .ok (.ireturn, 1) := by decide +kernel
set_option maxRecDepth 20000 in
theorem ggX9_setMode_X9_in : GoodIn wsX9_setMode wsX9_in := goodIn_r _ [5] (by decide +kernel) (by decide +kernel)
set_option maxRecDepth 20000 in
theorem gX9_setMode_X9_in : GoodIn wsX9_setMode (va_wsS RX9 26 yX9_in wsX9_in) := goodIn_app (goodIn_of _ (by decide +kernel)) ggX9_setMode_X9_in
set_option maxRecDepth 20000 in
theorem ggX9_setMode_X9_fails : GoodIn wsX9_setMode wsX9_fails := goodIn_r _ [9, 10, 21, 22, 23, 24, 25, 26] (by decide +kernel) (by decide +kernel)
set_option maxRecDepth 20000 in
theorem gX9_setMode_X9_fails : GoodIn wsX9_setMode (wsV RX9 34 RX9 yX9_fails wsX9_fails) := goodIn_app (goodIn_of _ (by decide +kernel)) ggX9_setMode_X9_fails
set_option maxRecDepth 20000 in
theorem ggX9_setMode_X9_becomes : GoodIn wsX9_setMode wsX9_becomes := goodIn_r _ [14, 1, 15, 16, 17, 4, 18, 10, 19, 20, 21, 22, 23, 24, 25, 26] (by decide +kernel) (by decide +kernel)
set_option maxRecDepth 20000 in
theorem gX9_setMode_X9_becomes : GoodIn wsX9_setMode (wsV RX9 30 RX9 yX9_becomes wsX9_becomes) := goodIn_app (goodIn_of _ (by decide +kernel)) ggX9_setMode_X9_becomes
theorem dX9_setMode_0 : decode cX9_setMode 0 = .ok (.iload_n 1, 1) := by decide +kernel
theorem dX9_setMode_1 : decode cX9_setMode 1 = .ok (.iconst 0, 1) := by decide +kernel
theorem dX9_setMode_2 : decode cX9_setMode 2 = .ok (.iconst 4, 1) := by decide +kernel
theorem dX9_setMode_3 : decode cX9_setMode 3 = .ok (.invokestatic 26, 3) := by decide +kernel
theorem dX9_setMode_6 : decode cX9_setMode 6 = .ok (.ifCond .ne 9, 3) := by decide +kernel
theorem dX9_setMode_9 : decode cX9_setMode 9 = .ok (.aload_n 0, 1) := by decide +kernel
theorem dX9_setMode_10 : decode cX9_setMode 10 = .ok (.iconst 1, 1) := by decide +kernel
theorem dX9_setMode_11 : decode cX9_setMode 11 = .ok (.invokevirtual 34, 3) := by decide +kernel
theorem dX9_setMode_14 : decode cX9_setMode 14 = .ok (.ireturn, 1) := by decide +kernel
theorem dX9_setMode_15 : decode cX9_setMode 15 = .ok (.aload_n 0, 1) := by decide +kernel
theorem dX9_setMode_16 : decode cX9_setMode 16 = .ok (.getfield 7, 3) := by decide +kernel
theorem dX9_setMode_19 : decode cX9_setMode 19 = .ok (.bipush 45, 2) := by decide +kernel
theorem dX9_setMode_21 : decode cX9_setMode 21 = .ok (.iaload, 1) := by decide +kernel
theorem dX9_setMode_22 : decode cX9_setMode 22 = .ok (.ifCond .eq 9, 3) := by decide +kernel
theorem dX9_setMode_25 : decode cX9_setMode 25 = .ok (.aload_n 0, 1) := by decide +kernel
theorem dX9_setMode_26 : decode cX9_setMode 26 = .ok (.iconst 2, 1) := by decide +kernel
theorem dX9_setMode_27 : decode cX9_setMode 27 = .ok (.invokevirtual 34, 3) := by decide +kernel
theorem dX9_setMode_30 : decode cX9_setMode 30 = .ok (.ireturn, 1) := by decide +kernel
theorem dX9_setMode_31 : decode cX9_setMode 31 = .ok (.aload_n 0, 1) := by decide +kernel
theorem dX9_setMode_32 : decode cX9_setMode 32 = .ok (.bipush 6, 2) := by decide +kernel
theorem dX9_setMode_34 : decode cX9_setMode 34 = .ok (.iload_n 1, 1) := by decide +kernel
theorem dX9_setMode_35 : decode cX9_setMode 35 = .ok (.invokevirtual 30, 3) := by decide +kernel
theorem dX9_setMode_38 : decode cX9_setMode 38 = .ok (.istore_n 2, 1) := by decide +kernel
theorem dX9_setMode_39 : decode cX9_setMode 39 = .ok (.iload_n 2, 1) := by decide +kernel
theorem dX9_setMode_40 : decode cX9_setMode 40 = .ok (.iload_n 1, 1) := by decide +kernel
theorem dX9_setMode_41 : decode cX9_setMode 41 = .ok (.if_icmp .eq 27, 3) := by decide +kernel
theorem dX9_setMode_44 : decode cX9_setMode 44 = .ok (.aload_n 0, 1) := by decide +kernel
theorem dX9_setMode_45 : decode cX9_setMode 45 = .ok (.getfield 7, 3) := by decide +kernel
theorem dX9_setMode_48 : decode cX9_setMode 48 = .ok (.bipush 42, 2) := by decide +kernel
theorem dX9_setMode_50 : decode cX9_setMode 50 = .ok (.iconst 0, 1) := by decide +kernel
theorem dX9_setMode_51 : decode cX9_setMode 51 = .ok (.iastore, 1) := by decide +kernel
theorem dX9_setMode_52 : decode cX9_setMode 52 = .ok (.aload_n 0, 1) := by decide +kernel
theorem dX9_setMode_53 : decode cX9_setMode 53 = .ok (.getfield 7, 3) := by decide +kernel
theorem dX9_setMode_56 : decode cX9_setMode 56 = .ok (.bipush 43, 2) := by decide +kernel
theorem dX9_setMode_58 : decode cX9_setMode 58 = .ok (.iconst 0, 1) := by decide +kernel
theorem dX9_setMode_59 : decode cX9_setMode 59 = .ok (.iastore, 1) := by decide +kernel
theorem dX9_setMode_60 : decode cX9_setMode 60 = .ok (.aload_n 0, 1) := by decide +kernel
theorem dX9_setMode_61 : decode cX9_setMode 61 = .ok (.getfield 7, 3) := by decide +kernel
theorem dX9_setMode_64 : decode cX9_setMode 64 = .ok (.bipush 44, 2) := by decide +kernel
theorem dX9_setMode_66 : decode cX9_setMode 66 = .ok (.iconst 0, 1) := by decide +kernel
theorem dX9_setMode_67 : decode cX9_setMode 67 = .ok (.iastore, 1) := by decide +kernel
theorem dX9_setMode_68 : decode cX9_setMode 68 = .ok (.iload_n 2, 1) := by decide +kernel
theorem dX9_setMode_69 : decode cX9_setMode 69 = .ok (.ireturn, 1) := by decide +kernel
set_option maxRecDepth 20000 in
theorem ggX9_clearFault_X9_fails : GoodIn wsX9_clearFault wsX9_fails := goodIn_r _ [6, 7, 18, 19, 20, 21, 22, 23] (by decide +kernel) (by decide +kernel)
set_option maxRecDepth 20000 in
theorem gX9_clearFault_X9_fails : GoodIn wsX9_clearFault (wsV RX9 34 RX9 yX9_fails wsX9_fails) := goodIn_app (goodIn_of _ (by decide +kernel)) ggX9_clearFault_X9_fails
set_option maxRecDepth 20000 in
theorem ggX9_clearFault_X9_becomes : GoodIn wsX9_clearFault wsX9_becomes := goodIn_r _ [11, 1, 12, 13, 14, 5, 15, 7, 16, 17, 18, 19, 20, 21, 22, 23] (by decide +kernel) (by decide +kernel)
set_option maxRecDepth 20000 in
theorem gX9_clearFault_X9_becomes : GoodIn wsX9_clearFault (wsV RX9 30 RX9 yX9_becomes wsX9_becomes) := goodIn_app (goodIn_of _ (by decide +kernel)) ggX9_clearFault_X9_becomes
theorem dX9_clearFault_0 : decode cX9_clearFault 0 = .ok (.aload_n 0, 1) := by decide +kernel
theorem dX9_clearFault_1 : decode cX9_clearFault 1 = .ok (.getfield 7, 3) := by decide +kernel
theorem dX9_clearFault_4 : decode cX9_clearFault 4 = .ok (.bipush 45, 2) := by decide +kernel
theorem dX9_clearFault_6 : decode cX9_clearFault 6 = .ok (.iaload, 1) := by decide +kernel
theorem dX9_clearFault_7 : decode cX9_clearFault 7 = .ok (.ifCond .ne 9, 3) := by decide +kernel
theorem dX9_clearFault_10 : decode cX9_clearFault 10 = .ok (.aload_n 0, 1) := by decide +kernel
theorem dX9_clearFault_11 : decode cX9_clearFault 11 = .ok (.iconst 1, 1) := by decide +kernel
theorem dX9_clearFault_12 : decode cX9_clearFault 12 = .ok (.invokevirtual 34, 3) := by decide +kernel
theorem dX9_clearFault_15 : decode cX9_clearFault 15 = .ok (.ireturn, 1) := by decide +kernel
theorem dX9_clearFault_16 : decode cX9_clearFault 16 = .ok (.aload_n 0, 1) := by decide +kernel
theorem dX9_clearFault_17 : decode cX9_clearFault 17 = .ok (.bipush 45, 2) := by decide +kernel
theorem dX9_clearFault_19 : decode cX9_clearFault 19 = .ok (.iconst 0, 1) := by decide +kernel
theorem dX9_clearFault_20 : decode cX9_clearFault 20 = .ok (.invokevirtual 30, 3) := by decide +kernel
theorem dX9_clearFault_23 : decode cX9_clearFault 23 = .ok (.istore_n 1, 1) := by decide +kernel
theorem dX9_clearFault_24 : decode cX9_clearFault 24 = .ok (.aload_n 0, 1) := by decide +kernel
theorem dX9_clearFault_25 : decode cX9_clearFault 25 = .ok (.getfield 7, 3) := by decide +kernel
theorem dX9_clearFault_28 : decode cX9_clearFault 28 = .ok (.bipush 46, 2) := by decide +kernel
theorem dX9_clearFault_30 : decode cX9_clearFault 30 = .ok (.iconst 0, 1) := by decide +kernel
theorem dX9_clearFault_31 : decode cX9_clearFault 31 = .ok (.iastore, 1) := by decide +kernel
theorem dX9_clearFault_32 : decode cX9_clearFault 32 = .ok (.aload_n 0, 1) := by decide +kernel
theorem dX9_clearFault_33 : decode cX9_clearFault 33 = .ok (.getfield 7, 3) := by decide +kernel
theorem dX9_clearFault_36 : decode cX9_clearFault 36 = .ok (.bipush 47, 2) := by decide +kernel
theorem dX9_clearFault_38 : decode cX9_clearFault 38 = .ok (.iconst 0, 1) := by decide +kernel
theorem dX9_clearFault_39 : decode cX9_clearFault 39 = .ok (.iastore, 1) := by decide +kernel
theorem dX9_clearFault_40 : decode cX9_clearFault 40 = .ok (.iload_n 1, 1) := by decide +kernel
theorem dX9_clearFault_41 : decode cX9_clearFault 41 = .ok (.ireturn, 1) := by decide +kernel
theorem dX9_waits_0 : decode cX9_waits 0 = .ok (.aload_n 0, 1) := by decide +kernel
theorem dX9_waits_1 : decode cX9_waits 1 = .ok (.getfield 7, 3) := by decide +kernel
theorem dX9_waits_4 : decode cX9_waits 4 = .ok (.bipush 48, 2) := by decide +kernel
theorem dX9_waits_6 : decode cX9_waits 6 = .ok (.iaload, 1) := by decide +kernel
theorem dX9_waits_7 : decode cX9_waits 7 = .ok (.istore_n 3, 1) := by decide +kernel
theorem dX9_waits_8 : decode cX9_waits 8 = .ok (.iload_n 3, 1) := by decide +kernel
theorem dX9_waits_9 : decode cX9_waits 9 = .ok (.ifCond .le 76, 3) := by decide +kernel
theorem dX9_waits_12 : decode cX9_waits 12 = .ok (.aload_n 0, 1) := by decide +kernel
theorem dX9_waits_13 : decode cX9_waits 13 = .ok (.getfield 7, 3) := by decide +kernel
theorem dX9_waits_16 : decode cX9_waits 16 = .ok (.bipush 49, 2) := by decide +kernel
theorem dX9_waits_18 : decode cX9_waits 18 = .ok (.iconst 2, 1) := by decide +kernel
theorem dX9_waits_19 : decode cX9_waits 19 = .ok (.iload_n 3, 1) := by decide +kernel
theorem dX9_waits_20 : decode cX9_waits 20 = .ok (.imul, 1) := by decide +kernel
theorem dX9_waits_21 : decode cX9_waits 21 = .ok (.iadd, 1) := by decide +kernel
theorem dX9_waits_22 : decode cX9_waits 22 = .ok (.iconst 2, 1) := by decide +kernel
theorem dX9_waits_23 : decode cX9_waits 23 = .ok (.isub, 1) := by decide +kernel
theorem dX9_waits_24 : decode cX9_waits 24 = .ok (.iaload, 1) := by decide +kernel
theorem dX9_waits_25 : decode cX9_waits 25 = .ok (.iload_n 1, 1) := by decide +kernel
theorem dX9_waits_26 : decode cX9_waits 26 = .ok (.if_icmp .le 59, 3) := by decide +kernel
theorem dX9_waits_29 : decode cX9_waits 29 = .ok (.aload_n 0, 1) := by decide +kernel
theorem dX9_waits_30 : decode cX9_waits 30 = .ok (.getfield 7, 3) := by decide +kernel
theorem dX9_waits_33 : decode cX9_waits 33 = .ok (.bipush 49, 2) := by decide +kernel
theorem dX9_waits_35 : decode cX9_waits 35 = .ok (.iconst 2, 1) := by decide +kernel
theorem dX9_waits_36 : decode cX9_waits 36 = .ok (.iload_n 3, 1) := by decide +kernel
theorem dX9_waits_37 : decode cX9_waits 37 = .ok (.imul, 1) := by decide +kernel
theorem dX9_waits_38 : decode cX9_waits 38 = .ok (.iadd, 1) := by decide +kernel
theorem dX9_waits_39 : decode cX9_waits 39 = .ok (.aload_n 0, 1) := by decide +kernel
theorem dX9_waits_40 : decode cX9_waits 40 = .ok (.getfield 7, 3) := by decide +kernel
theorem dX9_waits_43 : decode cX9_waits 43 = .ok (.bipush 49, 2) := by decide +kernel
theorem dX9_waits_45 : decode cX9_waits 45 = .ok (.iconst 2, 1) := by decide +kernel
theorem dX9_waits_46 : decode cX9_waits 46 = .ok (.iload_n 3, 1) := by decide +kernel
theorem dX9_waits_47 : decode cX9_waits 47 = .ok (.imul, 1) := by decide +kernel
theorem dX9_waits_48 : decode cX9_waits 48 = .ok (.iadd, 1) := by decide +kernel
theorem dX9_waits_49 : decode cX9_waits 49 = .ok (.iconst 2, 1) := by decide +kernel
theorem dX9_waits_50 : decode cX9_waits 50 = .ok (.isub, 1) := by decide +kernel
theorem dX9_waits_51 : decode cX9_waits 51 = .ok (.iaload, 1) := by decide +kernel
theorem dX9_waits_52 : decode cX9_waits 52 = .ok (.iastore, 1) := by decide +kernel
theorem dX9_waits_53 : decode cX9_waits 53 = .ok (.aload_n 0, 1) := by decide +kernel
theorem dX9_waits_54 : decode cX9_waits 54 = .ok (.getfield 7, 3) := by decide +kernel
theorem dX9_waits_57 : decode cX9_waits 57 = .ok (.bipush 49, 2) := by decide +kernel
theorem dX9_waits_59 : decode cX9_waits 59 = .ok (.iconst 2, 1) := by decide +kernel
theorem dX9_waits_60 : decode cX9_waits 60 = .ok (.iload_n 3, 1) := by decide +kernel
theorem dX9_waits_61 : decode cX9_waits 61 = .ok (.imul, 1) := by decide +kernel
theorem dX9_waits_62 : decode cX9_waits 62 = .ok (.iadd, 1) := by decide +kernel
theorem dX9_waits_63 : decode cX9_waits 63 = .ok (.iconst 1, 1) := by decide +kernel
theorem dX9_waits_64 : decode cX9_waits 64 = .ok (.iadd, 1) := by decide +kernel
theorem dX9_waits_65 : decode cX9_waits 65 = .ok (.aload_n 0, 1) := by decide +kernel
theorem dX9_waits_66 : decode cX9_waits 66 = .ok (.getfield 7, 3) := by decide +kernel
theorem dX9_waits_69 : decode cX9_waits 69 = .ok (.bipush 49, 2) := by decide +kernel
theorem dX9_waits_71 : decode cX9_waits 71 = .ok (.iconst 2, 1) := by decide +kernel
theorem dX9_waits_72 : decode cX9_waits 72 = .ok (.iload_n 3, 1) := by decide +kernel
theorem dX9_waits_73 : decode cX9_waits 73 = .ok (.imul, 1) := by decide +kernel
theorem dX9_waits_74 : decode cX9_waits 74 = .ok (.iadd, 1) := by decide +kernel
theorem dX9_waits_75 : decode cX9_waits 75 = .ok (.iconst 1, 1) := by decide +kernel
theorem dX9_waits_76 : decode cX9_waits 76 = .ok (.isub, 1) := by decide +kernel
theorem dX9_waits_77 : decode cX9_waits 77 = .ok (.iaload, 1) := by decide +kernel
theorem dX9_waits_78 : decode cX9_waits 78 = .ok (.iastore, 1) := by decide +kernel
theorem dX9_waits_79 : decode cX9_waits 79 = .ok (.iinc 3 (-1), 3) := by decide +kernel
theorem dX9_waits_82 : decode cX9_waits 82 = .ok (.goto (-74), 3) := by decide +kernel
theorem dX9_waits_85 : decode cX9_waits 85 = .ok (.aload_n 0, 1) := by decide +kernel
theorem dX9_waits_86 : decode cX9_waits 86 = .ok (.getfield 7, 3) := by decide +kernel
theorem dX9_waits_89 : decode cX9_waits 89 = .ok (.bipush 49, 2) := by decide +kernel
theorem dX9_waits_91 : decode cX9_waits 91 = .ok (.iconst 2, 1) := by decide +kernel
theorem dX9_waits_92 : decode cX9_waits 92 = .ok (.iload_n 3, 1) := by decide +kernel
theorem dX9_waits_93 : decode cX9_waits 93 = .ok (.imul, 1) := by decide +kernel
theorem dX9_waits_94 : decode cX9_waits 94 = .ok (.iadd, 1) := by decide +kernel
theorem dX9_waits_95 : decode cX9_waits 95 = .ok (.iload_n 1, 1) := by decide +kernel
theorem dX9_waits_96 : decode cX9_waits 96 = .ok (.iastore, 1) := by decide +kernel
theorem dX9_waits_97 : decode cX9_waits 97 = .ok (.aload_n 0, 1) := by decide +kernel
theorem dX9_waits_98 : decode cX9_waits 98 = .ok (.getfield 7, 3) := by decide +kernel
theorem dX9_waits_101 : decode cX9_waits 101 = .ok (.bipush 49, 2) := by decide +kernel
theorem dX9_waits_103 : decode cX9_waits 103 = .ok (.iconst 2, 1) := by decide +kernel
theorem dX9_waits_104 : decode cX9_waits 104 = .ok (.iload_n 3, 1) := by decide +kernel
theorem dX9_waits_105 : decode cX9_waits 105 = .ok (.imul, 1) := by decide +kernel
theorem dX9_waits_106 : decode cX9_waits 106 = .ok (.iadd, 1) := by decide +kernel
theorem dX9_waits_107 : decode cX9_waits 107 = .ok (.iconst 1, 1) := by decide +kernel
theorem dX9_waits_108 : decode cX9_waits 108 = .ok (.iadd, 1) := by decide +kernel
theorem dX9_waits_109 : decode cX9_waits 109 = .ok (.iload_n 2, 1) := by decide +kernel
theorem dX9_waits_110 : decode cX9_waits 110 = .ok (.iastore, 1) := by decide +kernel
theorem dX9_waits_111 : decode cX9_waits 111 = .ok (.aload_n 0, 1) := by decide +kernel
theorem dX9_waits_112 : decode cX9_waits 112 = .ok (.getfield 7, 3) := by decide +kernel
theorem dX9_waits_115 : decode cX9_waits 115 = .ok (.bipush 48, 2) := by decide +kernel
theorem dX9_waits_117 : decode cX9_waits 117 = .ok (.dup2, 1) := by decide +kernel
theorem dX9_waits_118 : decode cX9_waits 118 = .ok (.iaload, 1) := by decide +kernel
theorem dX9_waits_119 : decode cX9_waits 119 = .ok (.iconst 1, 1) := by decide +kernel
theorem dX9_waits_120 : decode cX9_waits 120 = .ok (.iadd, 1) := by decide +kernel
theorem dX9_waits_121 : decode cX9_waits 121 = .ok (.iastore, 1) := by decide +kernel
theorem dX9_waits_122 : decode cX9_waits 122 = .ok (.return_, 1) := by decide +kernel
set_option maxRecDepth 20000 in
theorem ggX9_schedule_X9_in : GoodIn wsX9_schedule wsX9_in := goodIn_r _ [6] (by decide +kernel) (by decide +kernel)
set_option maxRecDepth 20000 in
theorem gX9_schedule_X9_in : GoodIn wsX9_schedule (va_wsS RX9 26 yX9_in wsX9_in) := goodIn_app (goodIn_of _ (by decide +kernel)) ggX9_schedule_X9_in
set_option maxRecDepth 20000 in
theorem ggX9_schedule_X9_fails : GoodIn wsX9_schedule wsX9_fails := goodIn_r _ [10, 11, 22, 23, 24, 25, 26, 27] (by decide +kernel) (by decide +kernel)
set_option maxRecDepth 20000 in
theorem gX9_schedule_X9_fails : GoodIn wsX9_schedule (wsV RX9 34 RX9 yX9_fails wsX9_fails) := goodIn_app (goodIn_of _ (by decide +kernel)) ggX9_schedule_X9_fails
set_option maxRecDepth 20000 in
theorem ggX9_schedule_X9_save : GoodIn wsX9_schedule wsX9_save := goodIn_r _ [15, 11, 16, 17, 2, 22, 23, 24, 25, 26, 27] (by decide +kernel) (by decide +kernel)
set_option maxRecDepth 20000 in
theorem gX9_schedule_X9_save : GoodIn wsX9_schedule (wsV RX9 23 RX9 yX9_save wsX9_save) := goodIn_app (goodIn_of _ (by decide +kernel)) ggX9_schedule_X9_save
set_option maxRecDepth 20000 in
theorem ggX9_schedule_X9_waits : GoodIn wsX9_schedule wsX9_waits := goodIn_r _ [21, 2, 22, 23, 24, 25, 26, 27] (by decide +kernel) (by decide +kernel)
set_option maxRecDepth 20000 in
theorem gX9_schedule_X9_waits : GoodIn wsX9_schedule (wsV RX9 39 RX9 yX9_waits wsX9_waits) := goodIn_app (goodIn_of _ (by decide +kernel)) ggX9_schedule_X9_waits
theorem dX9_schedule_0 : decode cX9_schedule 0 = .ok (.iload_n 1, 1) := by decide +kernel
theorem dX9_schedule_1 : decode cX9_schedule 1 = .ok (.iconst 1, 1) := by decide +kernel
theorem dX9_schedule_2 : decode cX9_schedule 2 = .ok (.ldc 38, 2) := by decide +kernel
theorem dX9_schedule_4 : decode cX9_schedule 4 = .ok (.invokestatic 26, 3) := by decide +kernel
theorem dX9_schedule_7 : decode cX9_schedule 7 = .ok (.ifCond .eq 13, 3) := by decide +kernel
theorem dX9_schedule_10 : decode cX9_schedule 10 = .ok (.iload_n 2, 1) := by decide +kernel
theorem dX9_schedule_11 : decode cX9_schedule 11 = .ok (.iconst 0, 1) := by decide +kernel
theorem dX9_schedule_12 : decode cX9_schedule 12 = .ok (.bipush 7, 2) := by decide +kernel
theorem dX9_schedule_14 : decode cX9_schedule 14 = .ok (.invokestatic 26, 3) := by decide +kernel
theorem dX9_schedule_17 : decode cX9_schedule 17 = .ok (.ifCond .ne 9, 3) := by decide +kernel
theorem dX9_schedule_20 : decode cX9_schedule 20 = .ok (.aload_n 0, 1) := by decide +kernel
theorem dX9_schedule_21 : decode cX9_schedule 21 = .ok (.iconst 1, 1) := by decide +kernel
theorem dX9_schedule_22 : decode cX9_schedule 22 = .ok (.invokevirtual 34, 3) := by decide +kernel
theorem dX9_schedule_25 : decode cX9_schedule 25 = .ok (.ireturn, 1) := by decide +kernel
theorem dX9_schedule_26 : decode cX9_schedule 26 = .ok (.aload_n 0, 1) := by decide +kernel
theorem dX9_schedule_27 : decode cX9_schedule 27 = .ok (.getfield 7, 3) := by decide +kernel
theorem dX9_schedule_30 : decode cX9_schedule 30 = .ok (.bipush 48, 2) := by decide +kernel
theorem dX9_schedule_32 : decode cX9_schedule 32 = .ok (.iaload, 1) := by decide +kernel
theorem dX9_schedule_33 : decode cX9_schedule 33 = .ok (.bipush 40, 2) := by decide +kernel
theorem dX9_schedule_35 : decode cX9_schedule 35 = .ok (.if_icmp .ne 9, 3) := by decide +kernel
theorem dX9_schedule_38 : decode cX9_schedule 38 = .ok (.aload_n 0, 1) := by decide +kernel
theorem dX9_schedule_39 : decode cX9_schedule 39 = .ok (.iconst 2, 1) := by decide +kernel
theorem dX9_schedule_40 : decode cX9_schedule 40 = .ok (.invokevirtual 34, 3) := by decide +kernel
theorem dX9_schedule_43 : decode cX9_schedule 43 = .ok (.ireturn, 1) := by decide +kernel
theorem dX9_schedule_44 : decode cX9_schedule 44 = .ok (.aload_n 0, 1) := by decide +kernel
theorem dX9_schedule_45 : decode cX9_schedule 45 = .ok (.invokevirtual 23, 3) := by decide +kernel
theorem dX9_schedule_48 : decode cX9_schedule 48 = .ok (.aload_n 0, 1) := by decide +kernel
theorem dX9_schedule_49 : decode cX9_schedule 49 = .ok (.aload_n 0, 1) := by decide +kernel
theorem dX9_schedule_50 : decode cX9_schedule 50 = .ok (.getfield 7, 3) := by decide +kernel
theorem dX9_schedule_53 : decode cX9_schedule 53 = .ok (.iconst 0, 1) := by decide +kernel
theorem dX9_schedule_54 : decode cX9_schedule 54 = .ok (.iaload, 1) := by decide +kernel
theorem dX9_schedule_55 : decode cX9_schedule 55 = .ok (.iload_n 1, 1) := by decide +kernel
theorem dX9_schedule_56 : decode cX9_schedule 56 = .ok (.iadd, 1) := by decide +kernel
theorem dX9_schedule_57 : decode cX9_schedule 57 = .ok (.iload_n 2, 1) := by decide +kernel
theorem dX9_schedule_58 : decode cX9_schedule 58 = .ok (.invokevirtual 39, 3) := by decide +kernel
theorem dX9_schedule_61 : decode cX9_schedule 61 = .ok (.aload_n 0, 1) := by decide +kernel
theorem dX9_schedule_62 : decode cX9_schedule 62 = .ok (.getfield 7, 3) := by decide +kernel
theorem dX9_schedule_65 : decode cX9_schedule 65 = .ok (.bipush 48, 2) := by decide +kernel
theorem dX9_schedule_67 : decode cX9_schedule 67 = .ok (.iaload, 1) := by decide +kernel
theorem dX9_schedule_68 : decode cX9_schedule 68 = .ok (.ireturn, 1) := by decide +kernel
theorem dX9_sectorOf_0 : decode cX9_sectorOf 0 = .ok (.iload_n 0, 1) := by decide +kernel
theorem dX9_sectorOf_1 : decode cX9_sectorOf 1 = .ok (.tableswitch 51 1 6 #[39, 43, 41, 47, 49, 45], 39) := by decide +kernel
theorem dX9_sectorOf_40 : decode cX9_sectorOf 40 = .ok (.iconst 0, 1) := by decide +kernel
theorem dX9_sectorOf_41 : decode cX9_sectorOf 41 = .ok (.ireturn, 1) := by decide +kernel
theorem dX9_sectorOf_42 : decode cX9_sectorOf 42 = .ok (.iconst 1, 1) := by decide +kernel
theorem dX9_sectorOf_43 : decode cX9_sectorOf 43 = .ok (.ireturn, 1) := by decide +kernel
theorem dX9_sectorOf_44 : decode cX9_sectorOf 44 = .ok (.iconst 2, 1) := by decide +kernel
theorem dX9_sectorOf_45 : decode cX9_sectorOf 45 = .ok (.ireturn, 1) := by decide +kernel
theorem dX9_sectorOf_46 : decode cX9_sectorOf 46 = .ok (.iconst 3, 1) := by decide +kernel
theorem dX9_sectorOf_47 : decode cX9_sectorOf 47 = .ok (.ireturn, 1) := by decide +kernel
theorem dX9_sectorOf_48 : decode cX9_sectorOf 48 = .ok (.iconst 4, 1) := by decide +kernel
theorem dX9_sectorOf_49 : decode cX9_sectorOf 49 = .ok (.ireturn, 1) := by decide +kernel
theorem dX9_sectorOf_50 : decode cX9_sectorOf 50 = .ok (.iconst 5, 1) := by decide +kernel
theorem dX9_sectorOf_51 : decode cX9_sectorOf 51 = .ok (.ireturn, 1) := by decide +kernel
theorem dX9_sectorOf_52 : decode cX9_sectorOf 52 = .ok (.iconst (-1), 1) := by decide +kernel
theorem dX9_sectorOf_53 : decode cX9_sectorOf 53 = .ok (.ireturn, 1) := by decide +kernel
theorem dX9_codeOf_0 : decode cX9_codeOf 0 = .ok (.iload_n 0, 1) := by decide +kernel
theorem dX9_codeOf_1 : decode cX9_codeOf 1 = .ok (.ifCond .ne 7, 3) := by decide +kernel
theorem dX9_codeOf_4 : decode cX9_codeOf 4 = .ok (.iconst 1, 1) := by decide +kernel
theorem dX9_codeOf_5 : decode cX9_codeOf 5 = .ok (.goto 41, 3) := by decide +kernel
theorem dX9_codeOf_8 : decode cX9_codeOf 8 = .ok (.iload_n 0, 1) := by decide +kernel
theorem dX9_codeOf_9 : decode cX9_codeOf 9 = .ok (.iconst 1, 1) := by decide +kernel
theorem dX9_codeOf_10 : decode cX9_codeOf 10 = .ok (.if_icmp .ne 7, 3) := by decide +kernel
theorem dX9_codeOf_13 : decode cX9_codeOf 13 = .ok (.iconst 3, 1) := by decide +kernel
theorem dX9_codeOf_14 : decode cX9_codeOf 14 = .ok (.goto 32, 3) := by decide +kernel
theorem dX9_codeOf_17 : decode cX9_codeOf 17 = .ok (.iload_n 0, 1) := by decide +kernel
theorem dX9_codeOf_18 : decode cX9_codeOf 18 = .ok (.iconst 2, 1) := by decide +kernel
theorem dX9_codeOf_19 : decode cX9_codeOf 19 = .ok (.if_icmp .ne 7, 3) := by decide +kernel
theorem dX9_codeOf_22 : decode cX9_codeOf 22 = .ok (.iconst 2, 1) := by decide +kernel
theorem dX9_codeOf_23 : decode cX9_codeOf 23 = .ok (.goto 23, 3) := by decide +kernel
theorem dX9_codeOf_26 : decode cX9_codeOf 26 = .ok (.iload_n 0, 1) := by decide +kernel
theorem dX9_codeOf_27 : decode cX9_codeOf 27 = .ok (.iconst 3, 1) := by decide +kernel
theorem dX9_codeOf_28 : decode cX9_codeOf 28 = .ok (.if_icmp .ne 8, 3) := by decide +kernel
theorem dX9_codeOf_31 : decode cX9_codeOf 31 = .ok (.bipush 6, 2) := by decide +kernel
theorem dX9_codeOf_33 : decode cX9_codeOf 33 = .ok (.goto 13, 3) := by decide +kernel
theorem dX9_codeOf_36 : decode cX9_codeOf 36 = .ok (.iload_n 0, 1) := by decide +kernel
theorem dX9_codeOf_37 : decode cX9_codeOf 37 = .ok (.iconst 4, 1) := by decide +kernel
theorem dX9_codeOf_38 : decode cX9_codeOf 38 = .ok (.if_icmp .ne 7, 3) := by decide +kernel
theorem dX9_codeOf_41 : decode cX9_codeOf 41 = .ok (.iconst 4, 1) := by decide +kernel
theorem dX9_codeOf_42 : decode cX9_codeOf 42 = .ok (.goto 4, 3) := by decide +kernel
theorem dX9_codeOf_45 : decode cX9_codeOf 45 = .ok (.iconst 5, 1) := by decide +kernel
theorem dX9_codeOf_46 : decode cX9_codeOf 46 = .ok (.ireturn, 1) := by decide +kernel
set_option maxRecDepth 20000 in
theorem ggX9_spin_X9_in : GoodIn wsX9_spin wsX9_in := goodIn_r _ [5] (by decide +kernel) (by decide +kernel)
set_option maxRecDepth 20000 in
theorem gX9_spin_X9_in : GoodIn wsX9_spin (va_wsS RX9 26 yX9_in wsX9_in) := goodIn_app (goodIn_of _ (by decide +kernel)) ggX9_spin_X9_in
set_option maxRecDepth 20000 in
theorem ggX9_spin_X9_fails : GoodIn wsX9_spin wsX9_fails := goodIn_r _ [9, 10, 27, 28, 29, 30, 31, 32] (by decide +kernel) (by decide +kernel)
set_option maxRecDepth 20000 in
theorem gX9_spin_X9_fails : GoodIn wsX9_spin (wsV RX9 34 RX9 yX9_fails wsX9_fails) := goodIn_app (goodIn_of _ (by decide +kernel)) ggX9_spin_X9_fails
set_option maxRecDepth 20000 in
theorem ggX9_spin_X9_sectorOf : GoodIn wsX9_spin wsX9_sectorOf := goodIn_r _ [13] (by decide +kernel) (by decide +kernel)
set_option maxRecDepth 20000 in
theorem gX9_spin_X9_sectorOf : GoodIn wsX9_spin (va_wsS RX9 43 yX9_sectorOf wsX9_sectorOf) := goodIn_app (goodIn_of _ (by decide +kernel)) ggX9_spin_X9_sectorOf
set_option maxRecDepth 20000 in
theorem ggX9_spin_X9_save : GoodIn wsX9_spin wsX9_save := goodIn_r _ [17, 10, 18, 19, 1, 27, 28, 29, 30, 31, 32] (by decide +kernel) (by decide +kernel)
set_option maxRecDepth 20000 in
theorem gX9_spin_X9_save : GoodIn wsX9_spin (wsV RX9 23 RX9 yX9_save wsX9_save) := goodIn_app (goodIn_of _ (by decide +kernel)) ggX9_spin_X9_save
set_option maxRecDepth 20000 in
theorem ggX9_spin_X9_codeOf : GoodIn wsX9_spin wsX9_codeOf := goodIn_r _ [22] (by decide +kernel) (by decide +kernel)
set_option maxRecDepth 20000 in
theorem gX9_spin_X9_codeOf : GoodIn wsX9_spin (va_wsS RX9 46 yX9_codeOf wsX9_codeOf) := goodIn_app (goodIn_of _ (by decide +kernel)) ggX9_spin_X9_codeOf
set_option maxRecDepth 20000 in
theorem ggX9_spin_X9_waits : GoodIn wsX9_spin wsX9_waits := goodIn_r _ [26, 1, 27, 28, 29, 30, 31, 32] (by decide +kernel) (by decide +kernel)
set_option maxRecDepth 20000 in
theorem gX9_spin_X9_waits : GoodIn wsX9_spin (wsV RX9 39 RX9 yX9_waits wsX9_waits) := goodIn_app (goodIn_of _ (by decide +kernel)) ggX9_spin_X9_waits
theorem dX9_spin_0 : decode cX9_spin 0 = .ok (.iload_n 1, 1) := by decide +kernel
theorem dX9_spin_1 : decode cX9_spin 1 = .ok (.iconst 1, 1) := by decide +kernel
theorem dX9_spin_2 : decode cX9_spin 2 = .ok (.if_icmp .eq 8, 3) := by decide +kernel
theorem dX9_spin_5 : decode cX9_spin 5 = .ok (.iload_n 1, 1) := by decide +kernel
theorem dX9_spin_6 : decode cX9_spin 6 = .ok (.iconst (-1), 1) := by decide +kernel
theorem dX9_spin_7 : decode cX9_spin 7 = .ok (.if_icmp .ne 24, 3) := by decide +kernel
theorem dX9_spin_10 : decode cX9_spin 10 = .ok (.iload_n 2, 1) := by decide +kernel
theorem dX9_spin_11 : decode cX9_spin 11 = .ok (.iconst 1, 1) := by decide +kernel
theorem dX9_spin_12 : decode cX9_spin 12 = .ok (.sipush 1000, 3) := by decide +kernel
theorem dX9_spin_15 : decode cX9_spin 15 = .ok (.invokestatic 26, 3) := by decide +kernel
theorem dX9_spin_18 : decode cX9_spin 18 = .ok (.ifCond .eq 13, 3) := by decide +kernel
theorem dX9_spin_21 : decode cX9_spin 21 = .ok (.iload_n 3, 1) := by decide +kernel
theorem dX9_spin_22 : decode cX9_spin 22 = .ok (.iconst 1, 1) := by decide +kernel
theorem dX9_spin_23 : decode cX9_spin 23 = .ok (.bipush 40, 2) := by decide +kernel
theorem dX9_spin_25 : decode cX9_spin 25 = .ok (.invokestatic 26, 3) := by decide +kernel
theorem dX9_spin_28 : decode cX9_spin 28 = .ok (.ifCond .ne 9, 3) := by decide +kernel
theorem dX9_spin_31 : decode cX9_spin 31 = .ok (.aload_n 0, 1) := by decide +kernel
theorem dX9_spin_32 : decode cX9_spin 32 = .ok (.iconst 1, 1) := by decide +kernel
theorem dX9_spin_33 : decode cX9_spin 33 = .ok (.invokevirtual 34, 3) := by decide +kernel
theorem dX9_spin_36 : decode cX9_spin 36 = .ok (.ireturn, 1) := by decide +kernel
theorem dX9_spin_37 : decode cX9_spin 37 = .ok (.bipush 49, 2) := by decide +kernel
theorem dX9_spin_39 : decode cX9_spin 39 = .ok (.iconst 2, 1) := by decide +kernel
theorem dX9_spin_40 : decode cX9_spin 40 = .ok (.aload_n 0, 1) := by decide +kernel
theorem dX9_spin_41 : decode cX9_spin 41 = .ok (.getfield 7, 3) := by decide +kernel
theorem dX9_spin_44 : decode cX9_spin 44 = .ok (.bipush 48, 2) := by decide +kernel
theorem dX9_spin_46 : decode cX9_spin 46 = .ok (.iaload, 1) := by decide +kernel
theorem dX9_spin_47 : decode cX9_spin 47 = .ok (.imul, 1) := by decide +kernel
theorem dX9_spin_48 : decode cX9_spin 48 = .ok (.iadd, 1) := by decide +kernel
theorem dX9_spin_49 : decode cX9_spin 49 = .ok (.iconst 2, 1) := by decide +kernel
theorem dX9_spin_50 : decode cX9_spin 50 = .ok (.isub, 1) := by decide +kernel
theorem dX9_spin_51 : decode cX9_spin 51 = .ok (.istore 4, 2) := by decide +kernel
theorem dX9_spin_53 : decode cX9_spin 53 = .ok (.aload_n 0, 1) := by decide +kernel
theorem dX9_spin_54 : decode cX9_spin 54 = .ok (.getfield 7, 3) := by decide +kernel
theorem dX9_spin_57 : decode cX9_spin 57 = .ok (.bipush 48, 2) := by decide +kernel
theorem dX9_spin_59 : decode cX9_spin 59 = .ok (.iaload, 1) := by decide +kernel
theorem dX9_spin_60 : decode cX9_spin 60 = .ok (.ifCond .ne 12, 3) := by decide +kernel
theorem dX9_spin_63 : decode cX9_spin 63 = .ok (.aload_n 0, 1) := by decide +kernel
theorem dX9_spin_64 : decode cX9_spin 64 = .ok (.getfield 7, 3) := by decide +kernel
theorem dX9_spin_67 : decode cX9_spin 67 = .ok (.iconst 0, 1) := by decide +kernel
theorem dX9_spin_68 : decode cX9_spin 68 = .ok (.iaload, 1) := by decide +kernel
theorem dX9_spin_69 : decode cX9_spin 69 = .ok (.goto 10, 3) := by decide +kernel
theorem dX9_spin_72 : decode cX9_spin 72 = .ok (.aload_n 0, 1) := by decide +kernel
theorem dX9_spin_73 : decode cX9_spin 73 = .ok (.getfield 7, 3) := by decide +kernel
theorem dX9_spin_76 : decode cX9_spin 76 = .ok (.iload 4, 2) := by decide +kernel
theorem dX9_spin_78 : decode cX9_spin 78 = .ok (.iaload, 1) := by decide +kernel
theorem dX9_spin_79 : decode cX9_spin 79 = .ok (.istore 5, 2) := by decide +kernel
theorem dX9_spin_81 : decode cX9_spin 81 = .ok (.aload_n 0, 1) := by decide +kernel
theorem dX9_spin_82 : decode cX9_spin 82 = .ok (.getfield 7, 3) := by decide +kernel
theorem dX9_spin_85 : decode cX9_spin 85 = .ok (.bipush 48, 2) := by decide +kernel
theorem dX9_spin_87 : decode cX9_spin 87 = .ok (.iaload, 1) := by decide +kernel
theorem dX9_spin_88 : decode cX9_spin 88 = .ok (.ifCond .ne 13, 3) := by decide +kernel
theorem dX9_spin_91 : decode cX9_spin 91 = .ok (.aload_n 0, 1) := by decide +kernel
theorem dX9_spin_92 : decode cX9_spin 92 = .ok (.getfield 7, 3) := by decide +kernel
theorem dX9_spin_95 : decode cX9_spin 95 = .ok (.bipush 7, 2) := by decide +kernel
theorem dX9_spin_97 : decode cX9_spin 97 = .ok (.iaload, 1) := by decide +kernel
theorem dX9_spin_98 : decode cX9_spin 98 = .ok (.goto 12, 3) := by decide +kernel
theorem dX9_spin_101 : decode cX9_spin 101 = .ok (.aload_n 0, 1) := by decide +kernel
theorem dX9_spin_102 : decode cX9_spin 102 = .ok (.getfield 7, 3) := by decide +kernel
theorem dX9_spin_105 : decode cX9_spin 105 = .ok (.iload 4, 2) := by decide +kernel
theorem dX9_spin_107 : decode cX9_spin 107 = .ok (.iconst 1, 1) := by decide +kernel
theorem dX9_spin_108 : decode cX9_spin 108 = .ok (.iadd, 1) := by decide +kernel
theorem dX9_spin_109 : decode cX9_spin 109 = .ok (.iaload, 1) := by decide +kernel
theorem dX9_spin_110 : decode cX9_spin 110 = .ok (.invokestatic 43, 3) := by decide +kernel
theorem dX9_spin_113 : decode cX9_spin 113 = .ok (.istore 6, 2) := by decide +kernel
theorem dX9_spin_115 : decode cX9_spin 115 = .ok (.aload_n 0, 1) := by decide +kernel
theorem dX9_spin_116 : decode cX9_spin 116 = .ok (.getfield 7, 3) := by decide +kernel
theorem dX9_spin_119 : decode cX9_spin 119 = .ok (.bipush 48, 2) := by decide +kernel
theorem dX9_spin_121 : decode cX9_spin 121 = .ok (.iaload, 1) := by decide +kernel
theorem dX9_spin_122 : decode cX9_spin 122 = .ok (.iload_n 3, 1) := by decide +kernel
theorem dX9_spin_123 : decode cX9_spin 123 = .ok (.iadd, 1) := by decide +kernel
theorem dX9_spin_124 : decode cX9_spin 124 = .ok (.bipush 40, 2) := by decide +kernel
theorem dX9_spin_126 : decode cX9_spin 126 = .ok (.if_icmp .gt 9, 3) := by decide +kernel
theorem dX9_spin_129 : decode cX9_spin 129 = .ok (.iload 6, 2) := by decide +kernel
theorem dX9_spin_131 : decode cX9_spin 131 = .ok (.iconst (-1), 1) := by decide +kernel
theorem dX9_spin_132 : decode cX9_spin 132 = .ok (.if_icmp .ne 9, 3) := by decide +kernel
theorem dX9_spin_135 : decode cX9_spin 135 = .ok (.aload_n 0, 1) := by decide +kernel
theorem dX9_spin_136 : decode cX9_spin 136 = .ok (.iconst 2, 1) := by decide +kernel
theorem dX9_spin_137 : decode cX9_spin 137 = .ok (.invokevirtual 34, 3) := by decide +kernel
theorem dX9_spin_140 : decode cX9_spin 140 = .ok (.ireturn, 1) := by decide +kernel
theorem dX9_spin_141 : decode cX9_spin 141 = .ok (.aload_n 0, 1) := by decide +kernel
theorem dX9_spin_142 : decode cX9_spin 142 = .ok (.invokevirtual 23, 3) := by decide +kernel
theorem dX9_spin_145 : decode cX9_spin 145 = .ok (.iconst 0, 1) := by decide +kernel
theorem dX9_spin_146 : decode cX9_spin 146 = .ok (.istore 7, 2) := by decide +kernel
theorem dX9_spin_148 : decode cX9_spin 148 = .ok (.iload 7, 2) := by decide +kernel
theorem dX9_spin_150 : decode cX9_spin 150 = .ok (.iload_n 3, 1) := by decide +kernel
theorem dX9_spin_151 : decode cX9_spin 151 = .ok (.if_icmp .ge 38, 3) := by decide +kernel
theorem dX9_spin_154 : decode cX9_spin 154 = .ok (.iload 5, 2) := by decide +kernel
theorem dX9_spin_156 : decode cX9_spin 156 = .ok (.iload_n 2, 1) := by decide +kernel
theorem dX9_spin_157 : decode cX9_spin 157 = .ok (.iadd, 1) := by decide +kernel
theorem dX9_spin_158 : decode cX9_spin 158 = .ok (.istore 5, 2) := by decide +kernel
theorem dX9_spin_160 : decode cX9_spin 160 = .ok (.iload 6, 2) := by decide +kernel
theorem dX9_spin_162 : decode cX9_spin 162 = .ok (.iload_n 1, 1) := by decide +kernel
theorem dX9_spin_163 : decode cX9_spin 163 = .ok (.iadd, 1) := by decide +kernel
theorem dX9_spin_164 : decode cX9_spin 164 = .ok (.bipush 6, 2) := by decide +kernel
theorem dX9_spin_166 : decode cX9_spin 166 = .ok (.iadd, 1) := by decide +kernel
theorem dX9_spin_167 : decode cX9_spin 167 = .ok (.bipush 6, 2) := by decide +kernel
theorem dX9_spin_169 : decode cX9_spin 169 = .ok (.irem, 1) := by decide +kernel
theorem dX9_spin_170 : decode cX9_spin 170 = .ok (.istore 6, 2) := by decide +kernel
theorem dX9_spin_172 : decode cX9_spin 172 = .ok (.aload_n 0, 1) := by decide +kernel
theorem dX9_spin_173 : decode cX9_spin 173 = .ok (.iload 5, 2) := by decide +kernel
theorem dX9_spin_175 : decode cX9_spin 175 = .ok (.iload 6, 2) := by decide +kernel
theorem dX9_spin_177 : decode cX9_spin 177 = .ok (.invokestatic 46, 3) := by decide +kernel
theorem dX9_spin_180 : decode cX9_spin 180 = .ok (.invokevirtual 39, 3) := by decide +kernel
theorem dX9_spin_183 : decode cX9_spin 183 = .ok (.iinc 7 1, 3) := by decide +kernel
theorem dX9_spin_186 : decode cX9_spin 186 = .ok (.goto (-38), 3) := by decide +kernel
theorem dX9_spin_189 : decode cX9_spin 189 = .ok (.aload_n 0, 1) := by decide +kernel
theorem dX9_spin_190 : decode cX9_spin 190 = .ok (.getfield 7, 3) := by decide +kernel
theorem dX9_spin_193 : decode cX9_spin 193 = .ok (.bipush 48, 2) := by decide +kernel
theorem dX9_spin_195 : decode cX9_spin 195 = .ok (.iaload, 1) := by decide +kernel
theorem dX9_spin_196 : decode cX9_spin 196 = .ok (.ireturn, 1) := by decide +kernel
theorem dX9_due_0 : decode cX9_due 0 = .ok (.iconst 0, 1) := by decide +kernel
theorem dX9_due_1 : decode cX9_due 1 = .ok (.istore_n 1, 1) := by decide +kernel
theorem dX9_due_2 : decode cX9_due 2 = .ok (.iload_n 1, 1) := by decide +kernel
theorem dX9_due_3 : decode cX9_due 3 = .ok (.aload_n 0, 1) := by decide +kernel
theorem dX9_due_4 : decode cX9_due 4 = .ok (.getfield 7, 3) := by decide +kernel
theorem dX9_due_7 : decode cX9_due 7 = .ok (.bipush 48, 2) := by decide +kernel
theorem dX9_due_9 : decode cX9_due 9 = .ok (.iaload, 1) := by decide +kernel
theorem dX9_due_10 : decode cX9_due 10 = .ok (.if_icmp .ge 49, 3) := by decide +kernel
theorem dX9_due_13 : decode cX9_due 13 = .ok (.aload_n 0, 1) := by decide +kernel
theorem dX9_due_14 : decode cX9_due 14 = .ok (.getfield 7, 3) := by decide +kernel
theorem dX9_due_17 : decode cX9_due 17 = .ok (.bipush 49, 2) := by decide +kernel
theorem dX9_due_19 : decode cX9_due 19 = .ok (.iconst 2, 1) := by decide +kernel
theorem dX9_due_20 : decode cX9_due 20 = .ok (.iload_n 1, 1) := by decide +kernel
theorem dX9_due_21 : decode cX9_due 21 = .ok (.imul, 1) := by decide +kernel
theorem dX9_due_22 : decode cX9_due 22 = .ok (.iadd, 1) := by decide +kernel
theorem dX9_due_23 : decode cX9_due 23 = .ok (.iaload, 1) := by decide +kernel
theorem dX9_due_24 : decode cX9_due 24 = .ok (.aload_n 0, 1) := by decide +kernel
theorem dX9_due_25 : decode cX9_due 25 = .ok (.getfield 7, 3) := by decide +kernel
theorem dX9_due_28 : decode cX9_due 28 = .ok (.iconst 0, 1) := by decide +kernel
theorem dX9_due_29 : decode cX9_due 29 = .ok (.iaload, 1) := by decide +kernel
theorem dX9_due_30 : decode cX9_due 30 = .ok (.if_icmp .ne 29, 3) := by decide +kernel
theorem dX9_due_33 : decode cX9_due 33 = .ok (.aload_n 0, 1) := by decide +kernel
theorem dX9_due_34 : decode cX9_due 34 = .ok (.getfield 7, 3) := by decide +kernel
theorem dX9_due_37 : decode cX9_due 37 = .ok (.bipush 7, 2) := by decide +kernel
theorem dX9_due_39 : decode cX9_due 39 = .ok (.aload_n 0, 1) := by decide +kernel
theorem dX9_due_40 : decode cX9_due 40 = .ok (.getfield 7, 3) := by decide +kernel
theorem dX9_due_43 : decode cX9_due 43 = .ok (.bipush 49, 2) := by decide +kernel
theorem dX9_due_45 : decode cX9_due 45 = .ok (.iconst 2, 1) := by decide +kernel
theorem dX9_due_46 : decode cX9_due 46 = .ok (.iload_n 1, 1) := by decide +kernel
theorem dX9_due_47 : decode cX9_due 47 = .ok (.imul, 1) := by decide +kernel
theorem dX9_due_48 : decode cX9_due 48 = .ok (.iadd, 1) := by decide +kernel
theorem dX9_due_49 : decode cX9_due 49 = .ok (.iconst 1, 1) := by decide +kernel
theorem dX9_due_50 : decode cX9_due 50 = .ok (.iadd, 1) := by decide +kernel
theorem dX9_due_51 : decode cX9_due 51 = .ok (.iaload, 1) := by decide +kernel
theorem dX9_due_52 : decode cX9_due 52 = .ok (.iastore, 1) := by decide +kernel
theorem dX9_due_53 : decode cX9_due 53 = .ok (.iinc 1 1, 3) := by decide +kernel
theorem dX9_due_56 : decode cX9_due 56 = .ok (.goto (-54), 3) := by decide +kernel
theorem dX9_due_59 : decode cX9_due 59 = .ok (.iload_n 1, 1) := by decide +kernel
theorem dX9_due_60 : decode cX9_due 60 = .ok (.ifCond .le 59, 3) := by decide +kernel
theorem dX9_due_63 : decode cX9_due 63 = .ok (.iconst 2, 1) := by decide +kernel
theorem dX9_due_64 : decode cX9_due 64 = .ok (.iload_n 1, 1) := by decide +kernel
theorem dX9_due_65 : decode cX9_due 65 = .ok (.imul, 1) := by decide +kernel
theorem dX9_due_66 : decode cX9_due 66 = .ok (.istore_n 2, 1) := by decide +kernel
theorem dX9_due_67 : decode cX9_due 67 = .ok (.iload_n 2, 1) := by decide +kernel
theorem dX9_due_68 : decode cX9_due 68 = .ok (.iconst 2, 1) := by decide +kernel
theorem dX9_due_69 : decode cX9_due 69 = .ok (.aload_n 0, 1) := by decide +kernel
theorem dX9_due_70 : decode cX9_due 70 = .ok (.getfield 7, 3) := by decide +kernel
theorem dX9_due_73 : decode cX9_due 73 = .ok (.bipush 48, 2) := by decide +kernel
theorem dX9_due_75 : decode cX9_due 75 = .ok (.iaload, 1) := by decide +kernel
theorem dX9_due_76 : decode cX9_due 76 = .ok (.imul, 1) := by decide +kernel
theorem dX9_due_77 : decode cX9_due 77 = .ok (.if_icmp .ge 31, 3) := by decide +kernel
theorem dX9_due_80 : decode cX9_due 80 = .ok (.aload_n 0, 1) := by decide +kernel
theorem dX9_due_81 : decode cX9_due 81 = .ok (.getfield 7, 3) := by decide +kernel
theorem dX9_due_84 : decode cX9_due 84 = .ok (.bipush 49, 2) := by decide +kernel
theorem dX9_due_86 : decode cX9_due 86 = .ok (.iload_n 2, 1) := by decide +kernel
theorem dX9_due_87 : decode cX9_due 87 = .ok (.iadd, 1) := by decide +kernel
theorem dX9_due_88 : decode cX9_due 88 = .ok (.iconst 2, 1) := by decide +kernel
theorem dX9_due_89 : decode cX9_due 89 = .ok (.iload_n 1, 1) := by decide +kernel
theorem dX9_due_90 : decode cX9_due 90 = .ok (.imul, 1) := by decide +kernel
theorem dX9_due_91 : decode cX9_due 91 = .ok (.isub, 1) := by decide +kernel
theorem dX9_due_92 : decode cX9_due 92 = .ok (.aload_n 0, 1) := by decide +kernel
theorem dX9_due_93 : decode cX9_due 93 = .ok (.getfield 7, 3) := by decide +kernel
theorem dX9_due_96 : decode cX9_due 96 = .ok (.bipush 49, 2) := by decide +kernel
theorem dX9_due_98 : decode cX9_due 98 = .ok (.iload_n 2, 1) := by decide +kernel
theorem dX9_due_99 : decode cX9_due 99 = .ok (.iadd, 1) := by decide +kernel
theorem dX9_due_100 : decode cX9_due 100 = .ok (.iaload, 1) := by decide +kernel
theorem dX9_due_101 : decode cX9_due 101 = .ok (.iastore, 1) := by decide +kernel
theorem dX9_due_102 : decode cX9_due 102 = .ok (.iinc 2 1, 3) := by decide +kernel
theorem dX9_due_105 : decode cX9_due 105 = .ok (.goto (-38), 3) := by decide +kernel
theorem dX9_due_108 : decode cX9_due 108 = .ok (.aload_n 0, 1) := by decide +kernel
theorem dX9_due_109 : decode cX9_due 109 = .ok (.getfield 7, 3) := by decide +kernel
theorem dX9_due_112 : decode cX9_due 112 = .ok (.bipush 48, 2) := by decide +kernel
theorem dX9_due_114 : decode cX9_due 114 = .ok (.dup2, 1) := by decide +kernel
theorem dX9_due_115 : decode cX9_due 115 = .ok (.iaload, 1) := by decide +kernel
theorem dX9_due_116 : decode cX9_due 116 = .ok (.iload_n 1, 1) := by decide +kernel
theorem dX9_due_117 : decode cX9_due 117 = .ok (.isub, 1) := by decide +kernel
theorem dX9_due_118 : decode cX9_due 118 = .ok (.iastore, 1) := by decide +kernel
theorem dX9_due_119 : decode cX9_due 119 = .ok (.return_, 1) := by decide +kernel
theorem dX9_filters_0 : decode cX9_filters 0 = .ok (.aload_n 0, 1) := by decide +kernel
theorem dX9_filters_1 : decode cX9_filters 1 = .ok (.getfield 7, 3) := by decide +kernel
theorem dX9_filters_4 : decode cX9_filters 4 = .ok (.bipush 7, 2) := by decide +kernel
theorem dX9_filters_6 : decode cX9_filters 6 = .ok (.iaload, 1) := by decide +kernel
theorem dX9_filters_7 : decode cX9_filters 7 = .ok (.aload_n 0, 1) := by decide +kernel
theorem dX9_filters_8 : decode cX9_filters 8 = .ok (.getfield 7, 3) := by decide +kernel
theorem dX9_filters_11 : decode cX9_filters 11 = .ok (.bipush 8, 2) := by decide +kernel
theorem dX9_filters_13 : decode cX9_filters 13 = .ok (.iaload, 1) := by decide +kernel
theorem dX9_filters_14 : decode cX9_filters 14 = .ok (.if_icmp .ne 13, 3) := by decide +kernel
theorem dX9_filters_17 : decode cX9_filters 17 = .ok (.aload_n 0, 1) := by decide +kernel
theorem dX9_filters_18 : decode cX9_filters 18 = .ok (.getfield 7, 3) := by decide +kernel
theorem dX9_filters_21 : decode cX9_filters 21 = .ok (.bipush 11, 2) := by decide +kernel
theorem dX9_filters_23 : decode cX9_filters 23 = .ok (.iconst 0, 1) := by decide +kernel
theorem dX9_filters_24 : decode cX9_filters 24 = .ok (.iastore, 1) := by decide +kernel
theorem dX9_filters_25 : decode cX9_filters 25 = .ok (.iconst 0, 1) := by decide +kernel
theorem dX9_filters_26 : decode cX9_filters 26 = .ok (.ireturn, 1) := by decide +kernel
theorem dX9_filters_27 : decode cX9_filters 27 = .ok (.aload_n 0, 1) := by decide +kernel
theorem dX9_filters_28 : decode cX9_filters 28 = .ok (.getfield 7, 3) := by decide +kernel
theorem dX9_filters_31 : decode cX9_filters 31 = .ok (.bipush 11, 2) := by decide +kernel
theorem dX9_filters_33 : decode cX9_filters 33 = .ok (.aload_n 0, 1) := by decide +kernel
theorem dX9_filters_34 : decode cX9_filters 34 = .ok (.getfield 7, 3) := by decide +kernel
theorem dX9_filters_37 : decode cX9_filters 37 = .ok (.bipush 7, 2) := by decide +kernel
theorem dX9_filters_39 : decode cX9_filters 39 = .ok (.iaload, 1) := by decide +kernel
theorem dX9_filters_40 : decode cX9_filters 40 = .ok (.aload_n 0, 1) := by decide +kernel
theorem dX9_filters_41 : decode cX9_filters 41 = .ok (.getfield 7, 3) := by decide +kernel
theorem dX9_filters_44 : decode cX9_filters 44 = .ok (.bipush 10, 2) := by decide +kernel
theorem dX9_filters_46 : decode cX9_filters 46 = .ok (.iaload, 1) := by decide +kernel
theorem dX9_filters_47 : decode cX9_filters 47 = .ok (.if_icmp .ne 25, 3) := by decide +kernel
theorem dX9_filters_50 : decode cX9_filters 50 = .ok (.aload_n 0, 1) := by decide +kernel
theorem dX9_filters_51 : decode cX9_filters 51 = .ok (.getfield 7, 3) := by decide +kernel
theorem dX9_filters_54 : decode cX9_filters 54 = .ok (.bipush 11, 2) := by decide +kernel
theorem dX9_filters_56 : decode cX9_filters 56 = .ok (.iaload, 1) := by decide +kernel
theorem dX9_filters_57 : decode cX9_filters 57 = .ok (.ifCond .le 15, 3) := by decide +kernel
theorem dX9_filters_60 : decode cX9_filters 60 = .ok (.aload_n 0, 1) := by decide +kernel
theorem dX9_filters_61 : decode cX9_filters 61 = .ok (.getfield 7, 3) := by decide +kernel
theorem dX9_filters_64 : decode cX9_filters 64 = .ok (.bipush 11, 2) := by decide +kernel
theorem dX9_filters_66 : decode cX9_filters 66 = .ok (.iaload, 1) := by decide +kernel
theorem dX9_filters_67 : decode cX9_filters 67 = .ok (.iconst 1, 1) := by decide +kernel
theorem dX9_filters_68 : decode cX9_filters 68 = .ok (.iadd, 1) := by decide +kernel
theorem dX9_filters_69 : decode cX9_filters 69 = .ok (.goto 4, 3) := by decide +kernel
theorem dX9_filters_72 : decode cX9_filters 72 = .ok (.iconst 1, 1) := by decide +kernel
theorem dX9_filters_73 : decode cX9_filters 73 = .ok (.iastore, 1) := by decide +kernel
theorem dX9_filters_74 : decode cX9_filters 74 = .ok (.aload_n 0, 1) := by decide +kernel
theorem dX9_filters_75 : decode cX9_filters 75 = .ok (.getfield 7, 3) := by decide +kernel
theorem dX9_filters_78 : decode cX9_filters 78 = .ok (.bipush 10, 2) := by decide +kernel
theorem dX9_filters_80 : decode cX9_filters 80 = .ok (.aload_n 0, 1) := by decide +kernel
theorem dX9_filters_81 : decode cX9_filters 81 = .ok (.getfield 7, 3) := by decide +kernel
theorem dX9_filters_84 : decode cX9_filters 84 = .ok (.bipush 7, 2) := by decide +kernel
theorem dX9_filters_86 : decode cX9_filters 86 = .ok (.iaload, 1) := by decide +kernel
theorem dX9_filters_87 : decode cX9_filters 87 = .ok (.iastore, 1) := by decide +kernel
theorem dX9_filters_88 : decode cX9_filters 88 = .ok (.aload_n 0, 1) := by decide +kernel
theorem dX9_filters_89 : decode cX9_filters 89 = .ok (.getfield 7, 3) := by decide +kernel
theorem dX9_filters_92 : decode cX9_filters 92 = .ok (.bipush 11, 2) := by decide +kernel
theorem dX9_filters_94 : decode cX9_filters 94 = .ok (.iaload, 1) := by decide +kernel
theorem dX9_filters_95 : decode cX9_filters 95 = .ok (.aload_n 0, 1) := by decide +kernel
theorem dX9_filters_96 : decode cX9_filters 96 = .ok (.getfield 7, 3) := by decide +kernel
theorem dX9_filters_99 : decode cX9_filters 99 = .ok (.iconst 1, 1) := by decide +kernel
theorem dX9_filters_100 : decode cX9_filters 100 = .ok (.iaload, 1) := by decide +kernel
theorem dX9_filters_101 : decode cX9_filters 101 = .ok (.if_icmp .ge 5, 3) := by decide +kernel
theorem dX9_filters_104 : decode cX9_filters 104 = .ok (.iconst 0, 1) := by decide +kernel
theorem dX9_filters_105 : decode cX9_filters 105 = .ok (.ireturn, 1) := by decide +kernel
theorem dX9_filters_106 : decode cX9_filters 106 = .ok (.aload_n 0, 1) := by decide +kernel
theorem dX9_filters_107 : decode cX9_filters 107 = .ok (.getfield 7, 3) := by decide +kernel
theorem dX9_filters_110 : decode cX9_filters 110 = .ok (.bipush 8, 2) := by decide +kernel
theorem dX9_filters_112 : decode cX9_filters 112 = .ok (.aload_n 0, 1) := by decide +kernel
theorem dX9_filters_113 : decode cX9_filters 113 = .ok (.getfield 7, 3) := by decide +kernel
theorem dX9_filters_116 : decode cX9_filters 116 = .ok (.bipush 7, 2) := by decide +kernel
theorem dX9_filters_118 : decode cX9_filters 118 = .ok (.iaload, 1) := by decide +kernel
theorem dX9_filters_119 : decode cX9_filters 119 = .ok (.iastore, 1) := by decide +kernel
theorem dX9_filters_120 : decode cX9_filters 120 = .ok (.aload_n 0, 1) := by decide +kernel
theorem dX9_filters_121 : decode cX9_filters 121 = .ok (.getfield 7, 3) := by decide +kernel
theorem dX9_filters_124 : decode cX9_filters 124 = .ok (.bipush 11, 2) := by decide +kernel
theorem dX9_filters_126 : decode cX9_filters 126 = .ok (.iconst 0, 1) := by decide +kernel
theorem dX9_filters_127 : decode cX9_filters 127 = .ok (.iastore, 1) := by decide +kernel
theorem dX9_filters_128 : decode cX9_filters 128 = .ok (.iconst 1, 1) := by decide +kernel
theorem dX9_filters_129 : decode cX9_filters 129 = .ok (.ireturn, 1) := by decide +kernel
theorem dX9_forgetsEdges_0 : decode cX9_forgetsEdges 0 = .ok (.aload_n 0, 1) := by decide +kernel
theorem dX9_forgetsEdges_1 : decode cX9_forgetsEdges 1 = .ok (.getfield 7, 3) := by decide +kernel
theorem dX9_forgetsEdges_4 : decode cX9_forgetsEdges 4 = .ok (.bipush 35, 2) := by decide +kernel
theorem dX9_forgetsEdges_6 : decode cX9_forgetsEdges 6 = .ok (.iconst 0, 1) := by decide +kernel
theorem dX9_forgetsEdges_7 : decode cX9_forgetsEdges 7 = .ok (.iastore, 1) := by decide +kernel
theorem dX9_forgetsEdges_8 : decode cX9_forgetsEdges 8 = .ok (.aload_n 0, 1) := by decide +kernel
theorem dX9_forgetsEdges_9 : decode cX9_forgetsEdges 9 = .ok (.getfield 7, 3) := by decide +kernel
theorem dX9_forgetsEdges_12 : decode cX9_forgetsEdges 12 = .ok (.bipush 33, 2) := by decide +kernel
theorem dX9_forgetsEdges_14 : decode cX9_forgetsEdges 14 = .ok (.iconst (-1), 1) := by decide +kernel
theorem dX9_forgetsEdges_15 : decode cX9_forgetsEdges 15 = .ok (.iastore, 1) := by decide +kernel
theorem dX9_forgetsEdges_16 : decode cX9_forgetsEdges 16 = .ok (.return_, 1) := by decide +kernel
theorem dX9_faults_0 : decode cX9_faults 0 = .ok (.aload_n 0, 1) := by decide +kernel
theorem dX9_faults_1 : decode cX9_faults 1 = .ok (.getfield 7, 3) := by decide +kernel
theorem dX9_faults_4 : decode cX9_faults 4 = .ok (.bipush 6, 2) := by decide +kernel
theorem dX9_faults_6 : decode cX9_faults 6 = .ok (.iconst 0, 1) := by decide +kernel
theorem dX9_faults_7 : decode cX9_faults 7 = .ok (.iastore, 1) := by decide +kernel
theorem dX9_faults_8 : decode cX9_faults 8 = .ok (.aload_n 0, 1) := by decide +kernel
theorem dX9_faults_9 : decode cX9_faults 9 = .ok (.getfield 7, 3) := by decide +kernel
theorem dX9_faults_12 : decode cX9_faults 12 = .ok (.bipush 42, 2) := by decide +kernel
theorem dX9_faults_14 : decode cX9_faults 14 = .ok (.iconst 0, 1) := by decide +kernel
theorem dX9_faults_15 : decode cX9_faults 15 = .ok (.iastore, 1) := by decide +kernel
theorem dX9_faults_16 : decode cX9_faults 16 = .ok (.aload_n 0, 1) := by decide +kernel
theorem dX9_faults_17 : decode cX9_faults 17 = .ok (.getfield 7, 3) := by decide +kernel
theorem dX9_faults_20 : decode cX9_faults 20 = .ok (.bipush 43, 2) := by decide +kernel
theorem dX9_faults_22 : decode cX9_faults 22 = .ok (.iconst 0, 1) := by decide +kernel
theorem dX9_faults_23 : decode cX9_faults 23 = .ok (.iastore, 1) := by decide +kernel
theorem dX9_faults_24 : decode cX9_faults 24 = .ok (.aload_n 0, 1) := by decide +kernel
theorem dX9_faults_25 : decode cX9_faults 25 = .ok (.getfield 7, 3) := by decide +kernel
theorem dX9_faults_28 : decode cX9_faults 28 = .ok (.bipush 44, 2) := by decide +kernel
theorem dX9_faults_30 : decode cX9_faults 30 = .ok (.iconst 0, 1) := by decide +kernel
theorem dX9_faults_31 : decode cX9_faults 31 = .ok (.iastore, 1) := by decide +kernel
theorem dX9_faults_32 : decode cX9_faults 32 = .ok (.aload_n 0, 1) := by decide +kernel
theorem dX9_faults_33 : decode cX9_faults 33 = .ok (.getfield 7, 3) := by decide +kernel
theorem dX9_faults_36 : decode cX9_faults 36 = .ok (.bipush 45, 2) := by decide +kernel
theorem dX9_faults_38 : decode cX9_faults 38 = .ok (.iload_n 1, 1) := by decide +kernel
theorem dX9_faults_39 : decode cX9_faults 39 = .ok (.iastore, 1) := by decide +kernel
theorem dX9_faults_40 : decode cX9_faults 40 = .ok (.aload_n 0, 1) := by decide +kernel
theorem dX9_faults_41 : decode cX9_faults 41 = .ok (.getfield 7, 3) := by decide +kernel
theorem dX9_faults_44 : decode cX9_faults 44 = .ok (.bipush 46, 2) := by decide +kernel
theorem dX9_faults_46 : decode cX9_faults 46 = .ok (.aload_n 0, 1) := by decide +kernel
theorem dX9_faults_47 : decode cX9_faults 47 = .ok (.getfield 7, 3) := by decide +kernel
theorem dX9_faults_50 : decode cX9_faults 50 = .ok (.iconst 0, 1) := by decide +kernel
theorem dX9_faults_51 : decode cX9_faults 51 = .ok (.iaload, 1) := by decide +kernel
theorem dX9_faults_52 : decode cX9_faults 52 = .ok (.iastore, 1) := by decide +kernel
theorem dX9_faults_53 : decode cX9_faults 53 = .ok (.aload_n 0, 1) := by decide +kernel
theorem dX9_faults_54 : decode cX9_faults 54 = .ok (.getfield 7, 3) := by decide +kernel
theorem dX9_faults_57 : decode cX9_faults 57 = .ok (.bipush 47, 2) := by decide +kernel
theorem dX9_faults_59 : decode cX9_faults 59 = .ok (.iload_n 2, 1) := by decide +kernel
theorem dX9_faults_60 : decode cX9_faults 60 = .ok (.iastore, 1) := by decide +kernel
theorem dX9_faults_61 : decode cX9_faults 61 = .ok (.aload_n 0, 1) := by decide +kernel
theorem dX9_faults_62 : decode cX9_faults 62 = .ok (.getfield 7, 3) := by decide +kernel
theorem dX9_faults_65 : decode cX9_faults 65 = .ok (.bipush 32, 2) := by decide +kernel
theorem dX9_faults_67 : decode cX9_faults 67 = .ok (.dup2, 1) := by decide +kernel
theorem dX9_faults_68 : decode cX9_faults 68 = .ok (.iaload, 1) := by decide +kernel
theorem dX9_faults_69 : decode cX9_faults 69 = .ok (.iconst 1, 1) := by decide +kernel
theorem dX9_faults_70 : decode cX9_faults 70 = .ok (.iadd, 1) := by decide +kernel
theorem dX9_faults_71 : decode cX9_faults 71 = .ok (.iastore, 1) := by decide +kernel
theorem dX9_faults_72 : decode cX9_faults 72 = .ok (.return_, 1) := by decide +kernel
theorem dX9_isDriven_0 : decode cX9_isDriven 0 = .ok (.aload_n 0, 1) := by decide +kernel
theorem dX9_isDriven_1 : decode cX9_isDriven 1 = .ok (.getfield 7, 3) := by decide +kernel
