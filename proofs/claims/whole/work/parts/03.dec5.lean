theorem dX9_onTicks_20 : decode cX9_onTicks 20 = .ok (.iload_n 1, 1) := by decide +kernel
theorem dX9_onTicks_21 : decode cX9_onTicks 21 = .ok (.iadd, 1) := by decide +kernel
theorem dX9_onTicks_22 : decode cX9_onTicks 22 = .ok (.iaload, 1) := by decide +kernel
theorem dX9_onTicks_23 : decode cX9_onTicks 23 = .ok (.goto 12, 3) := by decide +kernel
theorem dX9_onTicks_26 : decode cX9_onTicks 26 = .ok (.aload_n 0, 1) := by decide +kernel
theorem dX9_onTicks_27 : decode cX9_onTicks 27 = .ok (.getfield 7, 3) := by decide +kernel
theorem dX9_onTicks_30 : decode cX9_onTicks 30 = .ok (.bipush 25, 2) := by decide +kernel
theorem dX9_onTicks_32 : decode cX9_onTicks 32 = .ok (.iload_n 1, 1) := by decide +kernel
theorem dX9_onTicks_33 : decode cX9_onTicks 33 = .ok (.iadd, 1) := by decide +kernel
theorem dX9_onTicks_34 : decode cX9_onTicks 34 = .ok (.iaload, 1) := by decide +kernel
theorem dX9_onTicks_35 : decode cX9_onTicks 35 = .ok (.invokevirtual 95, 3) := by decide +kernel
theorem dX9_onTicks_38 : decode cX9_onTicks 38 = .ok (.goto 8, 3) := by decide +kernel
theorem dX9_onTicks_41 : decode cX9_onTicks 41 = .ok (.aload_n 0, 1) := by decide +kernel
theorem dX9_onTicks_42 : decode cX9_onTicks 42 = .ok (.iconst 1, 1) := by decide +kernel
theorem dX9_onTicks_43 : decode cX9_onTicks 43 = .ok (.invokevirtual 34, 3) := by decide +kernel
theorem dX9_onTicks_46 : decode cX9_onTicks 46 = .ok (.ireturn, 1) := by decide +kernel
set_option maxRecDepth 20000 in
theorem ggX9_position_X9_tells : GoodIn wsX9_position wsX9_tells := goodIn_r _ [6, 7, 8, 9, 10, 11, 12, 13] (by decide +kernel) (by decide +kernel)
set_option maxRecDepth 20000 in
theorem gX9_position_X9_tells : GoodIn wsX9_position (wsV RX9 95 RX9 yX9_tells wsX9_tells) := goodIn_app (goodIn_of _ (by decide +kernel)) ggX9_position_X9_tells
theorem dX9_position_0 : decode cX9_position 0 = .ok (.aload_n 0, 1) := by decide +kernel
theorem dX9_position_1 : decode cX9_position 1 = .ok (.aload_n 0, 1) := by decide +kernel
theorem dX9_position_2 : decode cX9_position 2 = .ok (.getfield 7, 3) := by decide +kernel
theorem dX9_position_5 : decode cX9_position 5 = .ok (.bipush 28, 2) := by decide +kernel
theorem dX9_position_7 : decode cX9_position 7 = .ok (.iaload, 1) := by decide +kernel
theorem dX9_position_8 : decode cX9_position 8 = .ok (.invokevirtual 95, 3) := by decide +kernel
theorem dX9_position_11 : decode cX9_position 11 = .ok (.ireturn, 1) := by decide +kernel
set_option maxRecDepth 20000 in
theorem ggX9_counts_X9_in : GoodIn wsX9_counts wsX9_in := goodIn_r _ [5] (by decide +kernel) (by decide +kernel)
set_option maxRecDepth 20000 in
theorem gX9_counts_X9_in : GoodIn wsX9_counts (va_wsS RX9 26 yX9_in wsX9_in) := goodIn_app (goodIn_of _ (by decide +kernel)) ggX9_counts_X9_in
set_option maxRecDepth 20000 in
theorem ggX9_counts_X9_tells : GoodIn wsX9_counts wsX9_tells := goodIn_r _ [9, 10, 15, 16, 17, 18, 19, 20] (by decide +kernel) (by decide +kernel)
set_option maxRecDepth 20000 in
theorem gX9_counts_X9_tells : GoodIn wsX9_counts (wsV RX9 95 RX9 yX9_tells wsX9_tells) := goodIn_app (goodIn_of _ (by decide +kernel)) ggX9_counts_X9_tells
set_option maxRecDepth 20000 in
theorem ggX9_counts_X9_fails : GoodIn wsX9_counts wsX9_fails := goodIn_r _ [14, 10, 15, 16, 17, 18, 19, 20] (by decide +kernel) (by decide +kernel)
set_option maxRecDepth 20000 in
theorem gX9_counts_X9_fails : GoodIn wsX9_counts (wsV RX9 34 RX9 yX9_fails wsX9_fails) := goodIn_app (goodIn_of _ (by decide +kernel)) ggX9_counts_X9_fails
theorem dX9_counts_0 : decode cX9_counts 0 = .ok (.iload_n 1, 1) := by decide +kernel
theorem dX9_counts_1 : decode cX9_counts 1 = .ok (.iconst 0, 1) := by decide +kernel
theorem dX9_counts_2 : decode cX9_counts 2 = .ok (.iconst 3, 1) := by decide +kernel
theorem dX9_counts_3 : decode cX9_counts 3 = .ok (.invokestatic 26, 3) := by decide +kernel
theorem dX9_counts_6 : decode cX9_counts 6 = .ok (.ifCond .eq 19, 3) := by decide +kernel
theorem dX9_counts_9 : decode cX9_counts 9 = .ok (.aload_n 0, 1) := by decide +kernel
theorem dX9_counts_10 : decode cX9_counts 10 = .ok (.aload_n 0, 1) := by decide +kernel
theorem dX9_counts_11 : decode cX9_counts 11 = .ok (.getfield 7, 3) := by decide +kernel
theorem dX9_counts_14 : decode cX9_counts 14 = .ok (.bipush 29, 2) := by decide +kernel
theorem dX9_counts_16 : decode cX9_counts 16 = .ok (.iload_n 1, 1) := by decide +kernel
theorem dX9_counts_17 : decode cX9_counts 17 = .ok (.iadd, 1) := by decide +kernel
theorem dX9_counts_18 : decode cX9_counts 18 = .ok (.iaload, 1) := by decide +kernel
theorem dX9_counts_19 : decode cX9_counts 19 = .ok (.invokevirtual 95, 3) := by decide +kernel
theorem dX9_counts_22 : decode cX9_counts 22 = .ok (.goto 8, 3) := by decide +kernel
theorem dX9_counts_25 : decode cX9_counts 25 = .ok (.aload_n 0, 1) := by decide +kernel
theorem dX9_counts_26 : decode cX9_counts 26 = .ok (.iconst 1, 1) := by decide +kernel
theorem dX9_counts_27 : decode cX9_counts 27 = .ok (.invokevirtual 34, 3) := by decide +kernel
theorem dX9_counts_30 : decode cX9_counts 30 = .ok (.ireturn, 1) := by decide +kernel
set_option maxRecDepth 20000 in
theorem ggX9_interval_X9_in : GoodIn wsX9_interval wsX9_in := goodIn_r _ [5] (by decide +kernel) (by decide +kernel)
set_option maxRecDepth 20000 in
theorem gX9_interval_X9_in : GoodIn wsX9_interval (va_wsS RX9 26 yX9_in wsX9_in) := goodIn_app (goodIn_of _ (by decide +kernel)) ggX9_interval_X9_in
set_option maxRecDepth 20000 in
theorem ggX9_interval_X9_tells : GoodIn wsX9_interval wsX9_tells := goodIn_r _ [9, 10, 15, 16, 17, 18, 19, 20] (by decide +kernel) (by decide +kernel)
set_option maxRecDepth 20000 in
theorem gX9_interval_X9_tells : GoodIn wsX9_interval (wsV RX9 95 RX9 yX9_tells wsX9_tells) := goodIn_app (goodIn_of _ (by decide +kernel)) ggX9_interval_X9_tells
set_option maxRecDepth 20000 in
theorem ggX9_interval_X9_fails : GoodIn wsX9_interval wsX9_fails := goodIn_r _ [14, 10, 15, 16, 17, 18, 19, 20] (by decide +kernel) (by decide +kernel)
set_option maxRecDepth 20000 in
theorem gX9_interval_X9_fails : GoodIn wsX9_interval (wsV RX9 34 RX9 yX9_fails wsX9_fails) := goodIn_app (goodIn_of _ (by decide +kernel)) ggX9_interval_X9_fails
theorem dX9_interval_0 : decode cX9_interval 0 = .ok (.iload_n 1, 1) := by decide +kernel
theorem dX9_interval_1 : decode cX9_interval 1 = .ok (.iconst 0, 1) := by decide +kernel
theorem dX9_interval_2 : decode cX9_interval 2 = .ok (.aload_n 0, 1) := by decide +kernel
theorem dX9_interval_3 : decode cX9_interval 3 = .ok (.getfield 7, 3) := by decide +kernel
theorem dX9_interval_6 : decode cX9_interval 6 = .ok (.bipush 35, 2) := by decide +kernel
theorem dX9_interval_8 : decode cX9_interval 8 = .ok (.iaload, 1) := by decide +kernel
theorem dX9_interval_9 : decode cX9_interval 9 = .ok (.iconst 1, 1) := by decide +kernel
theorem dX9_interval_10 : decode cX9_interval 10 = .ok (.isub, 1) := by decide +kernel
theorem dX9_interval_11 : decode cX9_interval 11 = .ok (.invokestatic 26, 3) := by decide +kernel
theorem dX9_interval_14 : decode cX9_interval 14 = .ok (.ifCond .eq 19, 3) := by decide +kernel
theorem dX9_interval_17 : decode cX9_interval 17 = .ok (.aload_n 0, 1) := by decide +kernel
theorem dX9_interval_18 : decode cX9_interval 18 = .ok (.aload_n 0, 1) := by decide +kernel
theorem dX9_interval_19 : decode cX9_interval 19 = .ok (.getfield 7, 3) := by decide +kernel
theorem dX9_interval_22 : decode cX9_interval 22 = .ok (.bipush 36, 2) := by decide +kernel
theorem dX9_interval_24 : decode cX9_interval 24 = .ok (.iload_n 1, 1) := by decide +kernel
theorem dX9_interval_25 : decode cX9_interval 25 = .ok (.iadd, 1) := by decide +kernel
theorem dX9_interval_26 : decode cX9_interval 26 = .ok (.iaload, 1) := by decide +kernel
theorem dX9_interval_27 : decode cX9_interval 27 = .ok (.invokevirtual 95, 3) := by decide +kernel
theorem dX9_interval_30 : decode cX9_interval 30 = .ok (.goto 8, 3) := by decide +kernel
theorem dX9_interval_33 : decode cX9_interval 33 = .ok (.aload_n 0, 1) := by decide +kernel
theorem dX9_interval_34 : decode cX9_interval 34 = .ok (.iconst 1, 1) := by decide +kernel
theorem dX9_interval_35 : decode cX9_interval 35 = .ok (.invokevirtual 34, 3) := by decide +kernel
theorem dX9_interval_38 : decode cX9_interval 38 = .ok (.ireturn, 1) := by decide +kernel
theorem dX9_speed_0 : decode cX9_speed 0 = .ok (.aload_n 0, 1) := by decide +kernel
theorem dX9_speed_1 : decode cX9_speed 1 = .ok (.iconst 0, 1) := by decide +kernel
theorem dX9_speed_2 : decode cX9_speed 2 = .ok (.putfield 16, 3) := by decide +kernel
theorem dX9_speed_5 : decode cX9_speed 5 = .ok (.iconst 0, 1) := by decide +kernel
theorem dX9_speed_6 : decode cX9_speed 6 = .ok (.istore_n 1, 1) := by decide +kernel
theorem dX9_speed_7 : decode cX9_speed 7 = .ok (.iconst 0, 1) := by decide +kernel
theorem dX9_speed_8 : decode cX9_speed 8 = .ok (.istore_n 2, 1) := by decide +kernel
theorem dX9_speed_9 : decode cX9_speed 9 = .ok (.iload_n 2, 1) := by decide +kernel
theorem dX9_speed_10 : decode cX9_speed 10 = .ok (.aload_n 0, 1) := by decide +kernel
theorem dX9_speed_11 : decode cX9_speed 11 = .ok (.getfield 7, 3) := by decide +kernel
theorem dX9_speed_14 : decode cX9_speed 14 = .ok (.bipush 35, 2) := by decide +kernel
theorem dX9_speed_16 : decode cX9_speed 16 = .ok (.iaload, 1) := by decide +kernel
theorem dX9_speed_17 : decode cX9_speed 17 = .ok (.if_icmp .ge 21, 3) := by decide +kernel
theorem dX9_speed_20 : decode cX9_speed 20 = .ok (.iload_n 1, 1) := by decide +kernel
theorem dX9_speed_21 : decode cX9_speed 21 = .ok (.aload_n 0, 1) := by decide +kernel
theorem dX9_speed_22 : decode cX9_speed 22 = .ok (.getfield 7, 3) := by decide +kernel
theorem dX9_speed_25 : decode cX9_speed 25 = .ok (.bipush 36, 2) := by decide +kernel
theorem dX9_speed_27 : decode cX9_speed 27 = .ok (.iload_n 2, 1) := by decide +kernel
theorem dX9_speed_28 : decode cX9_speed 28 = .ok (.iadd, 1) := by decide +kernel
theorem dX9_speed_29 : decode cX9_speed 29 = .ok (.iaload, 1) := by decide +kernel
theorem dX9_speed_30 : decode cX9_speed 30 = .ok (.iadd, 1) := by decide +kernel
theorem dX9_speed_31 : decode cX9_speed 31 = .ok (.istore_n 1, 1) := by decide +kernel
theorem dX9_speed_32 : decode cX9_speed 32 = .ok (.iinc 2 1, 3) := by decide +kernel
theorem dX9_speed_35 : decode cX9_speed 35 = .ok (.goto (-26), 3) := by decide +kernel
theorem dX9_speed_38 : decode cX9_speed 38 = .ok (.aload_n 0, 1) := by decide +kernel
theorem dX9_speed_39 : decode cX9_speed 39 = .ok (.getfield 7, 3) := by decide +kernel
theorem dX9_speed_42 : decode cX9_speed 42 = .ok (.bipush 35, 2) := by decide +kernel
theorem dX9_speed_44 : decode cX9_speed 44 = .ok (.iaload, 1) := by decide +kernel
theorem dX9_speed_45 : decode cX9_speed 45 = .ok (.ifCond .ne 7, 3) := by decide +kernel
theorem dX9_speed_48 : decode cX9_speed 48 = .ok (.dconst 0, 1) := by decide +kernel
theorem dX9_speed_49 : decode cX9_speed 49 = .ok (.goto 31, 3) := by decide +kernel
theorem dX9_speed_52 : decode cX9_speed 52 = .ok (.aload_n 0, 1) := by decide +kernel
theorem dX9_speed_53 : decode cX9_speed 53 = .ok (.getfield 7, 3) := by decide +kernel
theorem dX9_speed_56 : decode cX9_speed 56 = .ok (.bipush 34, 2) := by decide +kernel
theorem dX9_speed_58 : decode cX9_speed 58 = .ok (.iaload, 1) := by decide +kernel
theorem dX9_speed_59 : decode cX9_speed 59 = .ok (.i2d, 1) := by decide +kernel
theorem dX9_speed_60 : decode cX9_speed 60 = .ok (.ldc2_w 98, 3) := by decide +kernel
theorem dX9_speed_63 : decode cX9_speed 63 = .ok (.aload_n 0, 1) := by decide +kernel
theorem dX9_speed_64 : decode cX9_speed 64 = .ok (.getfield 7, 3) := by decide +kernel
theorem dX9_speed_67 : decode cX9_speed 67 = .ok (.bipush 35, 2) := by decide +kernel
theorem dX9_speed_69 : decode cX9_speed 69 = .ok (.iaload, 1) := by decide +kernel
theorem dX9_speed_70 : decode cX9_speed 70 = .ok (.i2d, 1) := by decide +kernel
theorem dX9_speed_71 : decode cX9_speed 71 = .ok (.dmul, 1) := by decide +kernel
theorem dX9_speed_72 : decode cX9_speed 72 = .ok (.dmul, 1) := by decide +kernel
theorem dX9_speed_73 : decode cX9_speed 73 = .ok (.ldc2_w 100, 3) := by decide +kernel
theorem dX9_speed_76 : decode cX9_speed 76 = .ok (.iload_n 1, 1) := by decide +kernel
theorem dX9_speed_77 : decode cX9_speed 77 = .ok (.i2d, 1) := by decide +kernel
theorem dX9_speed_78 : decode cX9_speed 78 = .ok (.dmul, 1) := by decide +kernel
theorem dX9_speed_79 : decode cX9_speed 79 = .ok (.ddiv, 1) := by decide +kernel
theorem dX9_speed_80 : decode cX9_speed 80 = .ok (.dreturn, 1) := by decide +kernel
set_option maxRecDepth 20000 in
theorem ggX9_fault_X9_in : GoodIn wsX9_fault wsX9_in := goodIn_r _ [5] (by decide +kernel) (by decide +kernel)
set_option maxRecDepth 20000 in
theorem gX9_fault_X9_in : GoodIn wsX9_fault (va_wsS RX9 26 yX9_in wsX9_in) := goodIn_app (goodIn_of _ (by decide +kernel)) ggX9_fault_X9_in
set_option maxRecDepth 20000 in
theorem ggX9_fault_X9_tells : GoodIn wsX9_fault wsX9_tells := goodIn_r _ [9, 10, 15, 16, 17, 18, 19, 20] (by decide +kernel) (by decide +kernel)
set_option maxRecDepth 20000 in
theorem gX9_fault_X9_tells : GoodIn wsX9_fault (wsV RX9 95 RX9 yX9_tells wsX9_tells) := goodIn_app (goodIn_of _ (by decide +kernel)) ggX9_fault_X9_tells
set_option maxRecDepth 20000 in
theorem ggX9_fault_X9_fails : GoodIn wsX9_fault wsX9_fails := goodIn_r _ [14, 10, 15, 16, 17, 18, 19, 20] (by decide +kernel) (by decide +kernel)
set_option maxRecDepth 20000 in
theorem gX9_fault_X9_fails : GoodIn wsX9_fault (wsV RX9 34 RX9 yX9_fails wsX9_fails) := goodIn_app (goodIn_of _ (by decide +kernel)) ggX9_fault_X9_fails
theorem dX9_fault_0 : decode cX9_fault 0 = .ok (.iload_n 1, 1) := by decide +kernel
theorem dX9_fault_1 : decode cX9_fault 1 = .ok (.iconst 0, 1) := by decide +kernel
theorem dX9_fault_2 : decode cX9_fault 2 = .ok (.iconst 2, 1) := by decide +kernel
theorem dX9_fault_3 : decode cX9_fault 3 = .ok (.invokestatic 26, 3) := by decide +kernel
theorem dX9_fault_6 : decode cX9_fault 6 = .ok (.ifCond .eq 19, 3) := by decide +kernel
theorem dX9_fault_9 : decode cX9_fault 9 = .ok (.aload_n 0, 1) := by decide +kernel
theorem dX9_fault_10 : decode cX9_fault 10 = .ok (.aload_n 0, 1) := by decide +kernel
theorem dX9_fault_11 : decode cX9_fault 11 = .ok (.getfield 7, 3) := by decide +kernel
theorem dX9_fault_14 : decode cX9_fault 14 = .ok (.bipush 45, 2) := by decide +kernel
theorem dX9_fault_16 : decode cX9_fault 16 = .ok (.iload_n 1, 1) := by decide +kernel
theorem dX9_fault_17 : decode cX9_fault 17 = .ok (.iadd, 1) := by decide +kernel
theorem dX9_fault_18 : decode cX9_fault 18 = .ok (.iaload, 1) := by decide +kernel
theorem dX9_fault_19 : decode cX9_fault 19 = .ok (.invokevirtual 95, 3) := by decide +kernel
theorem dX9_fault_22 : decode cX9_fault 22 = .ok (.goto 8, 3) := by decide +kernel
theorem dX9_fault_25 : decode cX9_fault 25 = .ok (.aload_n 0, 1) := by decide +kernel
theorem dX9_fault_26 : decode cX9_fault 26 = .ok (.iconst 1, 1) := by decide +kernel
theorem dX9_fault_27 : decode cX9_fault 27 = .ok (.invokevirtual 34, 3) := by decide +kernel
theorem dX9_fault_30 : decode cX9_fault 30 = .ok (.ireturn, 1) := by decide +kernel
set_option maxRecDepth 20000 in
theorem ggX9_waiting_X9_tells : GoodIn wsX9_waiting wsX9_tells := goodIn_r _ [6, 7, 8, 9, 10, 11, 12, 13] (by decide +kernel) (by decide +kernel)
set_option maxRecDepth 20000 in
theorem gX9_waiting_X9_tells : GoodIn wsX9_waiting (wsV RX9 95 RX9 yX9_tells wsX9_tells) := goodIn_app (goodIn_of _ (by decide +kernel)) ggX9_waiting_X9_tells
theorem dX9_waiting_0 : decode cX9_waiting 0 = .ok (.aload_n 0, 1) := by decide +kernel
theorem dX9_waiting_1 : decode cX9_waiting 1 = .ok (.aload_n 0, 1) := by decide +kernel
theorem dX9_waiting_2 : decode cX9_waiting 2 = .ok (.getfield 7, 3) := by decide +kernel
theorem dX9_waiting_5 : decode cX9_waiting 5 = .ok (.bipush 48, 2) := by decide +kernel
theorem dX9_waiting_7 : decode cX9_waiting 7 = .ok (.iaload, 1) := by decide +kernel
theorem dX9_waiting_8 : decode cX9_waiting 8 = .ok (.invokevirtual 95, 3) := by decide +kernel
theorem dX9_waiting_11 : decode cX9_waiting 11 = .ok (.ireturn, 1) := by decide +kernel
set_option maxRecDepth 20000 in
theorem ggX9_undo_X9_fails : GoodIn wsX9_undo wsX9_fails := goodIn_r _ [8, 9, 14, 15, 16, 17, 18, 19] (by decide +kernel) (by decide +kernel)
set_option maxRecDepth 20000 in
theorem gX9_undo_X9_fails : GoodIn wsX9_undo (wsV RX9 34 RX9 yX9_fails wsX9_fails) := goodIn_app (goodIn_of _ (by decide +kernel)) ggX9_undo_X9_fails
set_option maxRecDepth 20000 in
theorem ggX9_undo_X9_tells : GoodIn wsX9_undo wsX9_tells := goodIn_r _ [13, 9, 14, 15, 16, 17, 18, 19] (by decide +kernel) (by decide +kernel)
set_option maxRecDepth 20000 in
theorem gX9_undo_X9_tells : GoodIn wsX9_undo (wsV RX9 95 RX9 yX9_tells wsX9_tells) := goodIn_app (goodIn_of _ (by decide +kernel)) ggX9_undo_X9_tells
theorem dX9_undo_0 : decode cX9_undo 0 = .ok (.aload_n 0, 1) := by decide +kernel
theorem dX9_undo_1 : decode cX9_undo 1 = .ok (.getfield 20, 3) := by decide +kernel
theorem dX9_undo_4 : decode cX9_undo 4 = .ok (.ifCond .ne 9, 3) := by decide +kernel
theorem dX9_undo_7 : decode cX9_undo 7 = .ok (.aload_n 0, 1) := by decide +kernel
theorem dX9_undo_8 : decode cX9_undo 8 = .ok (.iconst 1, 1) := by decide +kernel
theorem dX9_undo_9 : decode cX9_undo 9 = .ok (.invokevirtual 34, 3) := by decide +kernel
theorem dX9_undo_12 : decode cX9_undo 12 = .ok (.ireturn, 1) := by decide +kernel
theorem dX9_undo_13 : decode cX9_undo 13 = .ok (.aload_n 0, 1) := by decide +kernel
theorem dX9_undo_14 : decode cX9_undo 14 = .ok (.dup, 1) := by decide +kernel
theorem dX9_undo_15 : decode cX9_undo 15 = .ok (.getfield 20, 3) := by decide +kernel
theorem dX9_undo_18 : decode cX9_undo 18 = .ok (.iconst 1, 1) := by decide +kernel
theorem dX9_undo_19 : decode cX9_undo 19 = .ok (.isub, 1) := by decide +kernel
theorem dX9_undo_20 : decode cX9_undo 20 = .ok (.putfield 20, 3) := by decide +kernel
theorem dX9_undo_23 : decode cX9_undo 23 = .ok (.iconst 0, 1) := by decide +kernel
theorem dX9_undo_24 : decode cX9_undo 24 = .ok (.istore_n 1, 1) := by decide +kernel
theorem dX9_undo_25 : decode cX9_undo 25 = .ok (.iload_n 1, 1) := by decide +kernel
theorem dX9_undo_26 : decode cX9_undo 26 = .ok (.sipush 129, 3) := by decide +kernel
theorem dX9_undo_29 : decode cX9_undo 29 = .ok (.if_icmp .ge 30, 3) := by decide +kernel
theorem dX9_undo_32 : decode cX9_undo 32 = .ok (.aload_n 0, 1) := by decide +kernel
theorem dX9_undo_33 : decode cX9_undo 33 = .ok (.getfield 7, 3) := by decide +kernel
theorem dX9_undo_36 : decode cX9_undo 36 = .ok (.iload_n 1, 1) := by decide +kernel
theorem dX9_undo_37 : decode cX9_undo 37 = .ok (.aload_n 0, 1) := by decide +kernel
theorem dX9_undo_38 : decode cX9_undo 38 = .ok (.getfield 13, 3) := by decide +kernel
theorem dX9_undo_41 : decode cX9_undo 41 = .ok (.sipush 129, 3) := by decide +kernel
theorem dX9_undo_44 : decode cX9_undo 44 = .ok (.aload_n 0, 1) := by decide +kernel
theorem dX9_undo_45 : decode cX9_undo 45 = .ok (.getfield 20, 3) := by decide +kernel
theorem dX9_undo_48 : decode cX9_undo 48 = .ok (.imul, 1) := by decide +kernel
theorem dX9_undo_49 : decode cX9_undo 49 = .ok (.iload_n 1, 1) := by decide +kernel
theorem dX9_undo_50 : decode cX9_undo 50 = .ok (.iadd, 1) := by decide +kernel
theorem dX9_undo_51 : decode cX9_undo 51 = .ok (.iaload, 1) := by decide +kernel
theorem dX9_undo_52 : decode cX9_undo 52 = .ok (.iastore, 1) := by decide +kernel
theorem dX9_undo_53 : decode cX9_undo 53 = .ok (.iinc 1 1, 3) := by decide +kernel
theorem dX9_undo_56 : decode cX9_undo 56 = .ok (.goto (-31), 3) := by decide +kernel
theorem dX9_undo_59 : decode cX9_undo 59 = .ok (.aload_n 0, 1) := by decide +kernel
theorem dX9_undo_60 : decode cX9_undo 60 = .ok (.aload_n 0, 1) := by decide +kernel
theorem dX9_undo_61 : decode cX9_undo 61 = .ok (.getfield 20, 3) := by decide +kernel
theorem dX9_undo_64 : decode cX9_undo 64 = .ok (.invokevirtual 95, 3) := by decide +kernel
theorem dX9_undo_67 : decode cX9_undo 67 = .ok (.ireturn, 1) := by decide +kernel
theorem dX9_mixes_0 : decode cX9_mixes 0 = .ok (.iload_n 1, 1) := by decide +kernel
theorem dX9_mixes_1 : decode cX9_mixes 1 = .ok (.istore_n 3, 1) := by decide +kernel
theorem dX9_mixes_2 : decode cX9_mixes 2 = .ok (.iload_n 3, 1) := by decide +kernel
theorem dX9_mixes_3 : decode cX9_mixes 3 = .ok (.iload_n 2, 1) := by decide +kernel
theorem dX9_mixes_4 : decode cX9_mixes 4 = .ok (.if_icmp .gt 29, 3) := by decide +kernel
theorem dX9_mixes_7 : decode cX9_mixes 7 = .ok (.aload_n 0, 1) := by decide +kernel
theorem dX9_mixes_8 : decode cX9_mixes 8 = .ok (.ldc2_w 102, 3) := by decide +kernel
theorem dX9_mixes_11 : decode cX9_mixes 11 = .ok (.aload_n 0, 1) := by decide +kernel
theorem dX9_mixes_12 : decode cX9_mixes 12 = .ok (.getfield 104, 3) := by decide +kernel
theorem dX9_mixes_15 : decode cX9_mixes 15 = .ok (.lmul, 1) := by decide +kernel
theorem dX9_mixes_16 : decode cX9_mixes 16 = .ok (.aload_n 0, 1) := by decide +kernel
theorem dX9_mixes_17 : decode cX9_mixes 17 = .ok (.getfield 7, 3) := by decide +kernel
theorem dX9_mixes_20 : decode cX9_mixes 20 = .ok (.iload_n 3, 1) := by decide +kernel
theorem dX9_mixes_21 : decode cX9_mixes 21 = .ok (.iaload, 1) := by decide +kernel
theorem dX9_mixes_22 : decode cX9_mixes 22 = .ok (.i2l, 1) := by decide +kernel
theorem dX9_mixes_23 : decode cX9_mixes 23 = .ok (.ladd, 1) := by decide +kernel
theorem dX9_mixes_24 : decode cX9_mixes 24 = .ok (.putfield 104, 3) := by decide +kernel
theorem dX9_mixes_27 : decode cX9_mixes 27 = .ok (.iinc 3 1, 3) := by decide +kernel
theorem dX9_mixes_30 : decode cX9_mixes 30 = .ok (.goto (-28), 3) := by decide +kernel
theorem dX9_mixes_33 : decode cX9_mixes 33 = .ok (.return_, 1) := by decide +kernel
set_option maxRecDepth 20000 in
theorem ggX9_digest_X9_mixes : GoodIn wsX9_digest wsX9_mixes := goodIn_r _ [11, 5, 3, 4, 12, 13, 14, 15, 16, 17] (by decide +kernel) (by decide +kernel)
set_option maxRecDepth 20000 in
theorem gX9_digest_X9_mixes : GoodIn wsX9_digest (wsV RX9 110 RX9 yX9_mixes wsX9_mixes) := goodIn_app (goodIn_of _ (by decide +kernel)) ggX9_digest_X9_mixes
theorem dX9_digest_0 : decode cX9_digest 0 = .ok (.aload_n 0, 1) := by decide +kernel
theorem dX9_digest_1 : decode cX9_digest 1 = .ok (.iconst 0, 1) := by decide +kernel
theorem dX9_digest_2 : decode cX9_digest 2 = .ok (.putfield 16, 3) := by decide +kernel
theorem dX9_digest_5 : decode cX9_digest 5 = .ok (.aload_n 0, 1) := by decide +kernel
theorem dX9_digest_6 : decode cX9_digest 6 = .ok (.ldc2_w 108, 3) := by decide +kernel
theorem dX9_digest_9 : decode cX9_digest 9 = .ok (.putfield 104, 3) := by decide +kernel
theorem dX9_digest_12 : decode cX9_digest 12 = .ok (.aload_n 0, 1) := by decide +kernel
theorem dX9_digest_13 : decode cX9_digest 13 = .ok (.iconst 0, 1) := by decide +kernel
theorem dX9_digest_14 : decode cX9_digest 14 = .ok (.bipush 9, 2) := by decide +kernel
theorem dX9_digest_16 : decode cX9_digest 16 = .ok (.invokevirtual 110, 3) := by decide +kernel
theorem dX9_digest_19 : decode cX9_digest 19 = .ok (.aload_n 0, 1) := by decide +kernel
theorem dX9_digest_20 : decode cX9_digest 20 = .ok (.bipush 11, 2) := by decide +kernel
theorem dX9_digest_22 : decode cX9_digest 22 = .ok (.bipush 15, 2) := by decide +kernel
theorem dX9_digest_24 : decode cX9_digest 24 = .ok (.invokevirtual 110, 3) := by decide +kernel
theorem dX9_digest_27 : decode cX9_digest 27 = .ok (.iconst 0, 1) := by decide +kernel
theorem dX9_digest_28 : decode cX9_digest 28 = .ok (.istore_n 1, 1) := by decide +kernel
theorem dX9_digest_29 : decode cX9_digest 29 = .ok (.iload_n 1, 1) := by decide +kernel
theorem dX9_digest_30 : decode cX9_digest 30 = .ok (.iconst 3, 1) := by decide +kernel
theorem dX9_digest_31 : decode cX9_digest 31 = .ok (.if_icmp .ge 33, 3) := by decide +kernel
theorem dX9_digest_34 : decode cX9_digest 34 = .ok (.aload_n 0, 1) := by decide +kernel
theorem dX9_digest_35 : decode cX9_digest 35 = .ok (.bipush 22, 2) := by decide +kernel
theorem dX9_digest_37 : decode cX9_digest 37 = .ok (.iload_n 1, 1) := by decide +kernel
theorem dX9_digest_38 : decode cX9_digest 38 = .ok (.iadd, 1) := by decide +kernel
theorem dX9_digest_39 : decode cX9_digest 39 = .ok (.bipush 22, 2) := by decide +kernel
theorem dX9_digest_41 : decode cX9_digest 41 = .ok (.iload_n 1, 1) := by decide +kernel
theorem dX9_digest_42 : decode cX9_digest 42 = .ok (.iadd, 1) := by decide +kernel
theorem dX9_digest_43 : decode cX9_digest 43 = .ok (.invokevirtual 110, 3) := by decide +kernel
theorem dX9_digest_46 : decode cX9_digest 46 = .ok (.aload_n 0, 1) := by decide +kernel
theorem dX9_digest_47 : decode cX9_digest 47 = .ok (.bipush 25, 2) := by decide +kernel
theorem dX9_digest_49 : decode cX9_digest 49 = .ok (.iload_n 1, 1) := by decide +kernel
theorem dX9_digest_50 : decode cX9_digest 50 = .ok (.iadd, 1) := by decide +kernel
theorem dX9_digest_51 : decode cX9_digest 51 = .ok (.bipush 25, 2) := by decide +kernel
theorem dX9_digest_53 : decode cX9_digest 53 = .ok (.iload_n 1, 1) := by decide +kernel
theorem dX9_digest_54 : decode cX9_digest 54 = .ok (.iadd, 1) := by decide +kernel
theorem dX9_digest_55 : decode cX9_digest 55 = .ok (.invokevirtual 110, 3) := by decide +kernel
theorem dX9_digest_58 : decode cX9_digest 58 = .ok (.iinc 1 1, 3) := by decide +kernel
theorem dX9_digest_61 : decode cX9_digest 61 = .ok (.goto (-32), 3) := by decide +kernel
theorem dX9_digest_64 : decode cX9_digest 64 = .ok (.aload_n 0, 1) := by decide +kernel
theorem dX9_digest_65 : decode cX9_digest 65 = .ok (.bipush 28, 2) := by decide +kernel
theorem dX9_digest_67 : decode cX9_digest 67 = .ok (.bipush 32, 2) := by decide +kernel
theorem dX9_digest_69 : decode cX9_digest 69 = .ok (.invokevirtual 110, 3) := by decide +kernel
theorem dX9_digest_72 : decode cX9_digest 72 = .ok (.aload_n 0, 1) := by decide +kernel
theorem dX9_digest_73 : decode cX9_digest 73 = .ok (.bipush 35, 2) := by decide +kernel
theorem dX9_digest_75 : decode cX9_digest 75 = .ok (.bipush 35, 2) := by decide +kernel
theorem dX9_digest_77 : decode cX9_digest 77 = .ok (.invokevirtual 110, 3) := by decide +kernel
theorem dX9_digest_80 : decode cX9_digest 80 = .ok (.aload_n 0, 1) := by decide +kernel
theorem dX9_digest_81 : decode cX9_digest 81 = .ok (.bipush 36, 2) := by decide +kernel
theorem dX9_digest_83 : decode cX9_digest 83 = .ok (.bipush 36, 2) := by decide +kernel
theorem dX9_digest_85 : decode cX9_digest 85 = .ok (.aload_n 0, 1) := by decide +kernel
theorem dX9_digest_86 : decode cX9_digest 86 = .ok (.getfield 7, 3) := by decide +kernel
theorem dX9_digest_89 : decode cX9_digest 89 = .ok (.bipush 35, 2) := by decide +kernel
theorem dX9_digest_91 : decode cX9_digest 91 = .ok (.iaload, 1) := by decide +kernel
theorem dX9_digest_92 : decode cX9_digest 92 = .ok (.iadd, 1) := by decide +kernel
theorem dX9_digest_93 : decode cX9_digest 93 = .ok (.iconst 1, 1) := by decide +kernel
theorem dX9_digest_94 : decode cX9_digest 94 = .ok (.isub, 1) := by decide +kernel
theorem dX9_digest_95 : decode cX9_digest 95 = .ok (.invokevirtual 110, 3) := by decide +kernel
theorem dX9_digest_98 : decode cX9_digest 98 = .ok (.aload_n 0, 1) := by decide +kernel
theorem dX9_digest_99 : decode cX9_digest 99 = .ok (.bipush 42, 2) := by decide +kernel
theorem dX9_digest_101 : decode cX9_digest 101 = .ok (.bipush 48, 2) := by decide +kernel
theorem dX9_digest_103 : decode cX9_digest 103 = .ok (.invokevirtual 110, 3) := by decide +kernel
theorem dX9_digest_106 : decode cX9_digest 106 = .ok (.aload_n 0, 1) := by decide +kernel
theorem dX9_digest_107 : decode cX9_digest 107 = .ok (.bipush 49, 2) := by decide +kernel
theorem dX9_digest_109 : decode cX9_digest 109 = .ok (.bipush 49, 2) := by decide +kernel
theorem dX9_digest_111 : decode cX9_digest 111 = .ok (.iconst 2, 1) := by decide +kernel
theorem dX9_digest_112 : decode cX9_digest 112 = .ok (.aload_n 0, 1) := by decide +kernel
theorem dX9_digest_113 : decode cX9_digest 113 = .ok (.getfield 7, 3) := by decide +kernel
theorem dX9_digest_116 : decode cX9_digest 116 = .ok (.bipush 48, 2) := by decide +kernel
theorem dX9_digest_118 : decode cX9_digest 118 = .ok (.iaload, 1) := by decide +kernel
theorem dX9_digest_119 : decode cX9_digest 119 = .ok (.imul, 1) := by decide +kernel
theorem dX9_digest_120 : decode cX9_digest 120 = .ok (.iadd, 1) := by decide +kernel
theorem dX9_digest_121 : decode cX9_digest 121 = .ok (.iconst 1, 1) := by decide +kernel
theorem dX9_digest_122 : decode cX9_digest 122 = .ok (.isub, 1) := by decide +kernel
theorem dX9_digest_123 : decode cX9_digest 123 = .ok (.invokevirtual 110, 3) := by decide +kernel
theorem dX9_digest_126 : decode cX9_digest 126 = .ok (.ldc2_w 102, 3) := by decide +kernel
theorem dX9_digest_129 : decode cX9_digest 129 = .ok (.aload_n 0, 1) := by decide +kernel
theorem dX9_digest_130 : decode cX9_digest 130 = .ok (.getfield 104, 3) := by decide +kernel
theorem dX9_digest_133 : decode cX9_digest 133 = .ok (.lmul, 1) := by decide +kernel
theorem dX9_digest_134 : decode cX9_digest 134 = .ok (.aload_n 0, 1) := by decide +kernel
theorem dX9_digest_135 : decode cX9_digest 135 = .ok (.getfield 20, 3) := by decide +kernel
theorem dX9_digest_138 : decode cX9_digest 138 = .ok (.i2l, 1) := by decide +kernel
theorem dX9_digest_139 : decode cX9_digest 139 = .ok (.ladd, 1) := by decide +kernel
theorem dX9_digest_140 : decode cX9_digest 140 = .ok (.lreturn, 1) := by decide +kernel
set_option maxRecDepth 20000 in
theorem ggL_setFilter_X8_setFilter : GoodIn wsL_setFilter wsX8_setFilter := goodIn_ca (goodIn_r _ [6, 7, 8, 9, 10, 11, 12, 5, 13, 14, 15, 16, 17, 18, 19, 20, 21, 22, 23, 24, 25, 26, 27, 28, 29, 30, 31, 32, 33, 34, 35, 36, 37, 38, 39, 40, 41, 42, 43, 44, 45, 46, 47, 48, 49, 50, 51, 52, 53, 54, 55, 56, 57, 58, 59, 60, 61, 62, 63, 64, 65, 66, 67, 68, 69, 70, 71, 72, 73, 74, 75, 76, 77, 78, 79, 80, 81, 82, 83, 84, 85, 86, 87, 88, 89, 90, 91, 92, 93, 94, 95, 96, 97, 98, 99, 100, 101, 102, 103, 104, 105, 106, 107, 108, 109, 110, 111, 112, 113, 114, 115, 116, 117, 118, 119, 120, 121, 122, 123, 124, 125, 126, 127, 128, 129, 130, 131, 132, 133, 134, 135, 136, 137, 138, 139, 140, 141, 142, 143, 144, 145, 146, 147, 148, 149, 150, 151, 152, 153, 154, 155] (by decide +kernel) (by decide +kernel)) (goodIn_sub (fun _ h => List.mem_cons_of_mem _ (List.mem_append_right _ h)) (by decide +kernel))
set_option maxRecDepth 20000 in
theorem gL_setFilter_X8_setFilter : GoodIn wsL_setFilter (wsV RL 7 RX8 yX8_setFilter wsX8_setFilter) := goodIn_app (goodIn_of _ (by decide +kernel)) ggL_setFilter_X8_setFilter
theorem dL_setFilter_0 : decode cL_setFilter 0 = .ok (.aload_n 2, 1) := by decide +kernel
theorem dL_setFilter_1 : decode cL_setFilter 1 = .ok (.iconst 0, 1) := by decide +kernel
theorem dL_setFilter_2 : decode cL_setFilter 2 = .ok (.aload_n 0, 1) := by decide +kernel
theorem dL_setFilter_3 : decode cL_setFilter 3 = .ok (.iload_n 1, 1) := by decide +kernel
theorem dL_setFilter_4 : decode cL_setFilter 4 = .ok (.invokevirtual 7, 3) := by decide +kernel
theorem dL_setFilter_7 : decode cL_setFilter 7 = .ok (.i2l, 1) := by decide +kernel
theorem dL_setFilter_8 : decode cL_setFilter 8 = .ok (.lastore, 1) := by decide +kernel
theorem dL_setFilter_9 : decode cL_setFilter 9 = .ok (.goto 6, 3) := by decide +kernel
theorem dL_setFilter_12 : decode cL_setFilter 12 = .ok (.astore_n 3, 1) := by decide +kernel
theorem dL_setFilter_13 : decode cL_setFilter 13 = .ok (.iconst 1, 1) := by decide +kernel
theorem dL_setFilter_14 : decode cL_setFilter 14 = .ok (.ireturn, 1) := by decide +kernel
theorem dL_setFilter_15 : decode cL_setFilter 15 = .ok (.iconst 0, 1) := by decide +kernel
theorem dL_setFilter_16 : decode cL_setFilter 16 = .ok (.ireturn, 1) := by decide +kernel
set_option maxRecDepth 20000 in
theorem ggL_setPulse_X8_setPulse : GoodIn wsL_setPulse wsX8_setPulse := goodIn_ca (goodIn_r _ [6, 7, 8, 9, 10, 11, 12, 13, 5, 14, 15, 16, 17, 18, 19, 20, 21, 22, 23, 24, 25, 26, 27, 28, 29, 30, 31, 32, 33, 34, 35, 36, 37, 38, 39, 40, 41, 42, 43, 44, 45, 46, 47, 48, 49, 50, 51, 52, 53, 54, 55, 56, 57, 58, 59, 60, 61, 62, 63, 64, 65, 66, 67, 68, 69, 70, 71, 72, 73, 74, 75, 76, 77, 78, 79, 80, 81, 82, 83, 84, 85, 86, 87, 88, 89, 90, 91, 92, 93, 94, 95, 96, 97, 98, 99, 100, 101, 102, 103, 104, 105, 106, 107, 108, 109, 110, 111, 112, 113, 114, 115, 116, 117, 118, 119, 120, 121, 122, 123, 124, 125, 126, 127, 128, 129, 130, 131, 132, 133, 134, 135, 136, 137, 138, 139, 140, 141, 142, 143, 144, 145, 146, 147, 148, 149, 150, 151, 152, 153, 154, 155, 156] (by decide +kernel) (by decide +kernel)) (goodIn_sub (fun _ h => List.mem_cons_of_mem _ (List.mem_append_right _ h)) (by decide +kernel))
set_option maxRecDepth 20000 in
theorem gL_setPulse_X8_setPulse : GoodIn wsL_setPulse (wsV RL 15 RX8 yX8_setPulse wsX8_setPulse) := goodIn_app (goodIn_of _ (by decide +kernel)) ggL_setPulse_X8_setPulse
theorem dL_setPulse_0 : decode cL_setPulse 0 = .ok (.aload_n 3, 1) := by decide +kernel
theorem dL_setPulse_1 : decode cL_setPulse 1 = .ok (.iconst 0, 1) := by decide +kernel
theorem dL_setPulse_2 : decode cL_setPulse 2 = .ok (.aload_n 0, 1) := by decide +kernel
theorem dL_setPulse_3 : decode cL_setPulse 3 = .ok (.iload_n 1, 1) := by decide +kernel
theorem dL_setPulse_4 : decode cL_setPulse 4 = .ok (.iload_n 2, 1) := by decide +kernel
theorem dL_setPulse_5 : decode cL_setPulse 5 = .ok (.invokevirtual 15, 3) := by decide +kernel
theorem dL_setPulse_8 : decode cL_setPulse 8 = .ok (.i2l, 1) := by decide +kernel
theorem dL_setPulse_9 : decode cL_setPulse 9 = .ok (.lastore, 1) := by decide +kernel
theorem dL_setPulse_10 : decode cL_setPulse 10 = .ok (.goto 7, 3) := by decide +kernel
theorem dL_setPulse_13 : decode cL_setPulse 13 = .ok (.astore 4, 2) := by decide +kernel
theorem dL_setPulse_15 : decode cL_setPulse 15 = .ok (.iconst 1, 1) := by decide +kernel
theorem dL_setPulse_16 : decode cL_setPulse 16 = .ok (.ireturn, 1) := by decide +kernel
theorem dL_setPulse_17 : decode cL_setPulse 17 = .ok (.iconst 0, 1) := by decide +kernel
theorem dL_setPulse_18 : decode cL_setPulse 18 = .ok (.ireturn, 1) := by decide +kernel
set_option maxRecDepth 20000 in
theorem ggL_setDeadTime_X8_setDeadTime : GoodIn wsL_setDeadTime wsX8_setDeadTime := goodIn_ca (goodIn_r _ [6, 7, 8, 9, 10, 11, 12, 5, 13, 14, 15, 16, 17, 18, 19, 20, 21, 22, 23, 24, 25, 26, 27, 28, 29, 30, 31, 32, 33, 34, 35, 36, 37, 38, 39, 40, 41, 42, 43, 44, 45, 46, 47, 48, 49, 50, 51, 52, 53, 54, 55, 56, 57, 58, 59, 60, 61, 62, 63, 64, 65, 66, 67, 68, 69, 70, 71, 72, 73, 74, 75, 76, 77, 78, 79, 80, 81, 82, 83, 84, 85, 86, 87, 88, 89, 90, 91, 92, 93, 94, 95, 96, 97, 98, 99, 100, 101, 102, 103, 104, 105, 106, 107, 108, 109, 110, 111, 112, 113, 114, 115, 116, 117, 118, 119, 120, 121, 122, 123, 124, 125, 126, 127, 128, 129, 130, 131, 132, 133, 134, 135, 136, 137, 138, 139, 140, 141, 142, 143, 144, 145, 146, 147, 148, 149, 150, 151, 152, 153, 154, 155] (by decide +kernel) (by decide +kernel)) (goodIn_sub (fun _ h => List.mem_cons_of_mem _ (List.mem_append_right _ h)) (by decide +kernel))
set_option maxRecDepth 20000 in
theorem gL_setDeadTime_X8_setDeadTime : GoodIn wsL_setDeadTime (wsV RL 19 RX8 yX8_setDeadTime wsX8_setDeadTime) := goodIn_app (goodIn_of _ (by decide +kernel)) ggL_setDeadTime_X8_setDeadTime
theorem dL_setDeadTime_0 : decode cL_setDeadTime 0 = .ok (.aload_n 2, 1) := by decide +kernel
theorem dL_setDeadTime_1 : decode cL_setDeadTime 1 = .ok (.iconst 0, 1) := by decide +kernel
theorem dL_setDeadTime_2 : decode cL_setDeadTime 2 = .ok (.aload_n 0, 1) := by decide +kernel
theorem dL_setDeadTime_3 : decode cL_setDeadTime 3 = .ok (.iload_n 1, 1) := by decide +kernel
theorem dL_setDeadTime_4 : decode cL_setDeadTime 4 = .ok (.invokevirtual 19, 3) := by decide +kernel
theorem dL_setDeadTime_7 : decode cL_setDeadTime 7 = .ok (.i2l, 1) := by decide +kernel
theorem dL_setDeadTime_8 : decode cL_setDeadTime 8 = .ok (.lastore, 1) := by decide +kernel
theorem dL_setDeadTime_9 : decode cL_setDeadTime 9 = .ok (.goto 6, 3) := by decide +kernel
theorem dL_setDeadTime_12 : decode cL_setDeadTime 12 = .ok (.astore_n 3, 1) := by decide +kernel
theorem dL_setDeadTime_13 : decode cL_setDeadTime 13 = .ok (.iconst 1, 1) := by decide +kernel
theorem dL_setDeadTime_14 : decode cL_setDeadTime 14 = .ok (.ireturn, 1) := by decide +kernel
theorem dL_setDeadTime_15 : decode cL_setDeadTime 15 = .ok (.iconst 0, 1) := by decide +kernel
theorem dL_setDeadTime_16 : decode cL_setDeadTime 16 = .ok (.ireturn, 1) := by decide +kernel
set_option maxRecDepth 20000 in
theorem ggL_setStall_X8_setStall : GoodIn wsL_setStall wsX8_setStall := goodIn_ca (goodIn_r _ [6, 7, 8, 9, 10, 11, 12, 13, 5, 14, 15, 16, 17, 18, 19, 20, 21, 22, 23, 24, 25, 26, 27, 28, 29, 30, 31, 32, 33, 34, 35, 36, 37, 38, 39, 40, 41, 42, 43, 44, 45, 46, 47, 48, 49, 50, 51, 52, 53, 54, 55, 56, 57, 58, 59, 60, 61, 62, 63, 64, 65, 66, 67, 68, 69, 70, 71, 72, 73, 74, 75, 76, 77, 78, 79, 80, 81, 82, 83, 84, 85, 86, 87, 88, 89, 90, 91, 92, 93, 94, 95, 96, 97, 98, 99, 100, 101, 102, 103, 104, 105, 106, 107, 108, 109, 110, 111, 112, 113, 114, 115, 116, 117, 118, 119, 120, 121, 122, 123, 124, 125, 126, 127, 128, 129, 130, 131, 132, 133, 134, 135, 136, 137, 138, 139, 140, 141, 142, 143, 144, 145, 146, 147, 148, 149, 150, 151, 152, 153, 154, 155, 156] (by decide +kernel) (by decide +kernel)) (goodIn_sub (fun _ h => List.mem_cons_of_mem _ (List.mem_append_right _ h)) (by decide +kernel))
set_option maxRecDepth 20000 in
theorem gL_setStall_X8_setStall : GoodIn wsL_setStall (wsV RL 22 RX8 yX8_setStall wsX8_setStall) := goodIn_app (goodIn_of _ (by decide +kernel)) ggL_setStall_X8_setStall
theorem dL_setStall_0 : decode cL_setStall 0 = .ok (.aload_n 2, 1) := by decide +kernel
theorem dL_setStall_1 : decode cL_setStall 1 = .ok (.iconst 0, 1) := by decide +kernel
theorem dL_setStall_2 : decode cL_setStall 2 = .ok (.aload_n 0, 1) := by decide +kernel
theorem dL_setStall_3 : decode cL_setStall 3 = .ok (.iload_n 1, 1) := by decide +kernel
theorem dL_setStall_4 : decode cL_setStall 4 = .ok (.invokevirtual 22, 3) := by decide +kernel
theorem dL_setStall_7 : decode cL_setStall 7 = .ok (.i2l, 1) := by decide +kernel
theorem dL_setStall_8 : decode cL_setStall 8 = .ok (.lastore, 1) := by decide +kernel
theorem dL_setStall_9 : decode cL_setStall 9 = .ok (.goto 6, 3) := by decide +kernel
theorem dL_setStall_12 : decode cL_setStall 12 = .ok (.astore_n 3, 1) := by decide +kernel
theorem dL_setStall_13 : decode cL_setStall 13 = .ok (.iconst 1, 1) := by decide +kernel
theorem dL_setStall_14 : decode cL_setStall 14 = .ok (.ireturn, 1) := by decide +kernel
theorem dL_setStall_15 : decode cL_setStall 15 = .ok (.iconst 0, 1) := by decide +kernel
theorem dL_setStall_16 : decode cL_setStall 16 = .ok (.ireturn, 1) := by decide +kernel
set_option maxRecDepth 20000 in
theorem ggL_setMode_X8_setMode : GoodIn wsL_setMode wsX8_setMode := goodIn_ca (goodIn_ca (goodIn_r _ [7, 8, 9, 10, 11, 12, 13, 14, 15, 16, 6, 17, 18, 19, 20, 21, 22, 23, 24, 25, 26, 27, 28, 29, 30, 31, 32, 33, 34, 35, 36, 37, 38, 39, 40, 41, 42, 43, 44, 45, 46, 47, 48, 49, 50, 51, 52, 53, 54, 55, 56, 57, 58, 59, 60, 61, 62, 63, 64, 65, 66, 67, 68, 69, 70, 71, 72, 73, 74, 75, 76, 77, 78, 79, 80, 81, 82, 83, 84, 85, 86, 87, 88, 89, 90, 91, 92, 93, 94, 95, 96, 97, 98, 99, 100, 101, 102, 103, 104, 105, 106, 107, 108, 109, 110, 111, 112, 113, 114, 115, 116, 117, 118, 119, 120, 121, 122, 123, 124, 125, 126, 127, 128, 129, 130, 131, 132, 133, 134, 135, 136, 137, 138, 139, 140, 141, 142, 143, 144, 145, 146, 147, 148, 149, 150, 151, 152, 153, 154, 155, 156, 157, 158, 159, 160, 161, 162, 163] (by decide +kernel) (by decide +kernel)) (goodIn_sub (fun _ h => List.mem_cons_of_mem _ (List.mem_append_left _ (List.mem_append_right _ h))) (by decide +kernel))) (goodIn_sub (fun _ h => List.mem_cons_of_mem _ (List.mem_append_right _ h)) (by decide +kernel))
set_option maxRecDepth 20000 in
theorem gL_setMode_X8_setMode : GoodIn wsL_setMode (wsV RL 25 RX8 yX8_setMode wsX8_setMode) := goodIn_app (goodIn_of _ (by decide +kernel)) ggL_setMode_X8_setMode
theorem dL_setMode_0 : decode cL_setMode 0 = .ok (.aload_n 2, 1) := by decide +kernel
theorem dL_setMode_1 : decode cL_setMode 1 = .ok (.iconst 0, 1) := by decide +kernel
theorem dL_setMode_2 : decode cL_setMode 2 = .ok (.aload_n 0, 1) := by decide +kernel
theorem dL_setMode_3 : decode cL_setMode 3 = .ok (.iload_n 1, 1) := by decide +kernel
theorem dL_setMode_4 : decode cL_setMode 4 = .ok (.invokevirtual 25, 3) := by decide +kernel
theorem dL_setMode_7 : decode cL_setMode 7 = .ok (.i2l, 1) := by decide +kernel
theorem dL_setMode_8 : decode cL_setMode 8 = .ok (.lastore, 1) := by decide +kernel
theorem dL_setMode_9 : decode cL_setMode 9 = .ok (.goto 9, 3) := by decide +kernel
theorem dL_setMode_12 : decode cL_setMode 12 = .ok (.astore_n 3, 1) := by decide +kernel
theorem dL_setMode_13 : decode cL_setMode 13 = .ok (.iconst 1, 1) := by decide +kernel
theorem dL_setMode_14 : decode cL_setMode 14 = .ok (.ireturn, 1) := by decide +kernel
theorem dL_setMode_15 : decode cL_setMode 15 = .ok (.astore_n 3, 1) := by decide +kernel
theorem dL_setMode_16 : decode cL_setMode 16 = .ok (.iconst 2, 1) := by decide +kernel
theorem dL_setMode_17 : decode cL_setMode 17 = .ok (.ireturn, 1) := by decide +kernel
theorem dL_setMode_18 : decode cL_setMode 18 = .ok (.iconst 0, 1) := by decide +kernel
theorem dL_setMode_19 : decode cL_setMode 19 = .ok (.ireturn, 1) := by decide +kernel
set_option maxRecDepth 20000 in
theorem ggL_clearFault_X8_clearFault : GoodIn wsL_clearFault wsX8_clearFault := goodIn_ca (goodIn_r _ [6, 7, 8, 9, 10, 11, 12, 13, 14, 15, 16, 17, 18, 19, 20, 21, 22, 23, 24, 25, 26, 27, 28, 29, 30, 31, 32, 33, 34, 35, 36, 37, 38, 39, 40, 41, 42, 43, 44, 45, 46, 47, 48, 49, 50, 51, 52, 53, 54, 55, 56, 57, 58, 59, 60, 61, 62, 63, 64, 65, 66, 67, 68, 69, 70, 71, 72, 73, 74, 75, 76, 77, 78, 79, 80, 81, 82, 83, 84, 85, 86, 87, 88, 89, 90, 91, 92, 93, 94, 95, 96, 97, 98, 99, 100, 101, 102, 103, 104, 105, 106, 107, 108, 109, 110, 111, 112, 113, 114, 115, 116, 117, 118, 119, 120, 121, 122, 123, 124, 125, 126, 127, 128, 129, 130, 131, 132, 133, 134, 135, 136, 137, 138, 139, 140, 141, 142, 143, 144, 145, 146, 147, 148, 149, 150, 151, 152, 153, 154, 155, 156] (by decide +kernel) (by decide +kernel)) (goodIn_sub (fun _ h => List.mem_cons_of_mem _ (List.mem_append_right _ h)) (by decide +kernel))
set_option maxRecDepth 20000 in
theorem gL_clearFault_X8_clearFault : GoodIn wsL_clearFault (wsV RL 30 RX8 yX8_clearFault wsX8_clearFault) := goodIn_app (goodIn_of _ (by decide +kernel)) ggL_clearFault_X8_clearFault
theorem dL_clearFault_0 : decode cL_clearFault 0 = .ok (.aload_n 1, 1) := by decide +kernel
theorem dL_clearFault_1 : decode cL_clearFault 1 = .ok (.iconst 0, 1) := by decide +kernel
theorem dL_clearFault_2 : decode cL_clearFault 2 = .ok (.aload_n 0, 1) := by decide +kernel
theorem dL_clearFault_3 : decode cL_clearFault 3 = .ok (.invokevirtual 30, 3) := by decide +kernel
theorem dL_clearFault_6 : decode cL_clearFault 6 = .ok (.i2l, 1) := by decide +kernel
theorem dL_clearFault_7 : decode cL_clearFault 7 = .ok (.lastore, 1) := by decide +kernel
theorem dL_clearFault_8 : decode cL_clearFault 8 = .ok (.goto 6, 3) := by decide +kernel
theorem dL_clearFault_11 : decode cL_clearFault 11 = .ok (.astore_n 2, 1) := by decide +kernel
theorem dL_clearFault_12 : decode cL_clearFault 12 = .ok (.iconst 1, 1) := by decide +kernel
theorem dL_clearFault_13 : decode cL_clearFault 13 = .ok (.ireturn, 1) := by decide +kernel
theorem dL_clearFault_14 : decode cL_clearFault 14 = .ok (.iconst 0, 1) := by decide +kernel
theorem dL_clearFault_15 : decode cL_clearFault 15 = .ok (.ireturn, 1) := by decide +kernel
set_option maxRecDepth 20000 in
theorem ggL_schedule_X8_schedule : GoodIn wsL_schedule wsX8_schedule := goodIn_ca (goodIn_ca (goodIn_r _ [7, 8, 9, 10, 11, 12, 13, 14, 15, 6, 16, 17, 18, 19, 20, 21, 22, 23, 24, 25, 26, 27, 28, 29, 30, 31, 32, 33, 34, 35, 36, 37, 38, 39, 40, 41, 42, 43, 44, 45, 46, 47, 48, 49, 50, 51, 52, 53, 54, 55, 56, 57, 58, 59, 60, 61, 62, 63, 64, 65, 66, 67, 68, 69, 70, 71, 72, 73, 74, 75, 76, 77, 78, 79, 80, 81, 82, 83, 84, 85, 86, 87, 88, 89, 90, 91, 92, 93, 94, 95, 96, 97, 98, 99, 100, 101, 102, 103, 104, 105, 106, 107, 108, 109, 110, 111, 112, 113, 114, 115, 116, 117, 118, 119, 120, 121, 122, 123, 124, 125, 126, 127, 128, 129, 130, 131, 132, 133, 134, 135, 136, 137, 138, 139, 140, 141, 142, 143, 144, 145, 146, 147, 148, 149, 150, 151, 152, 153, 154, 155, 156, 157, 158, 159, 160, 161, 162, 163, 164, 165, 166, 167, 168] (by decide +kernel) (by decide +kernel)) (goodIn_sub (fun _ h => List.mem_cons_of_mem _ (List.mem_append_left _ (List.mem_append_right _ h))) (by decide +kernel))) (goodIn_sub (fun _ h => List.mem_cons_of_mem _ (List.mem_append_right _ h)) (by decide +kernel))
set_option maxRecDepth 20000 in
theorem gL_schedule_X8_schedule : GoodIn wsL_schedule (wsV RL 34 RX8 yX8_schedule wsX8_schedule) := goodIn_app (goodIn_of _ (by decide +kernel)) ggL_schedule_X8_schedule
theorem dL_schedule_0 : decode cL_schedule 0 = .ok (.aload_n 3, 1) := by decide +kernel
theorem dL_schedule_1 : decode cL_schedule 1 = .ok (.iconst 0, 1) := by decide +kernel
theorem dL_schedule_2 : decode cL_schedule 2 = .ok (.aload_n 0, 1) := by decide +kernel
theorem dL_schedule_3 : decode cL_schedule 3 = .ok (.iload_n 1, 1) := by decide +kernel
theorem dL_schedule_4 : decode cL_schedule 4 = .ok (.iload_n 2, 1) := by decide +kernel
theorem dL_schedule_5 : decode cL_schedule 5 = .ok (.invokevirtual 34, 3) := by decide +kernel
theorem dL_schedule_8 : decode cL_schedule 8 = .ok (.i2l, 1) := by decide +kernel
theorem dL_schedule_9 : decode cL_schedule 9 = .ok (.lastore, 1) := by decide +kernel
theorem dL_schedule_10 : decode cL_schedule 10 = .ok (.goto 11, 3) := by decide +kernel
theorem dL_schedule_13 : decode cL_schedule 13 = .ok (.astore 4, 2) := by decide +kernel
theorem dL_schedule_15 : decode cL_schedule 15 = .ok (.iconst 1, 1) := by decide +kernel
theorem dL_schedule_16 : decode cL_schedule 16 = .ok (.ireturn, 1) := by decide +kernel
theorem dL_schedule_17 : decode cL_schedule 17 = .ok (.astore 4, 2) := by decide +kernel
theorem dL_schedule_19 : decode cL_schedule 19 = .ok (.iconst 2, 1) := by decide +kernel
theorem dL_schedule_20 : decode cL_schedule 20 = .ok (.ireturn, 1) := by decide +kernel
theorem dL_schedule_21 : decode cL_schedule 21 = .ok (.iconst 0, 1) := by decide +kernel
theorem dL_schedule_22 : decode cL_schedule 22 = .ok (.ireturn, 1) := by decide +kernel
set_option maxRecDepth 20000 in
theorem ggL_spin_X8_spin : GoodIn wsL_spin wsX8_spin := goodIn_ca (goodIn_ca (goodIn_r _ [7, 8, 9, 10, 11, 12, 13, 14, 15, 16, 17, 18, 19, 20, 6, 21, 22, 23, 24, 25, 26, 27, 28, 29, 30, 31, 32, 33, 34, 35, 36, 37, 38, 39, 40, 41, 42, 43, 44, 45, 46, 47, 48, 49, 50, 51, 52, 53, 54, 55, 56, 57, 58, 59, 60, 61, 62, 63, 64, 65, 66, 67, 68, 69, 70, 71, 72, 73, 74, 75, 76, 77, 78, 79, 80, 81, 82, 83, 84, 85, 86, 87, 88, 89, 90, 91, 92, 93, 94, 95, 96, 97, 98, 99, 100, 101, 102, 103, 104, 105, 106, 107, 108, 109, 110, 111, 112, 113, 114, 115, 116, 117, 118, 119, 120, 121, 122, 123, 124, 125, 126, 127, 128, 129, 130, 131, 132, 133, 134, 135, 136, 137, 138, 139, 140, 141, 142, 143, 144, 145, 146, 147, 148, 149, 150, 151, 152, 153, 154, 155, 156, 157, 158, 159, 160, 161, 162, 163, 164, 165, 166, 167, 168, 169, 170, 171, 172, 173, 174, 175, 176, 177, 178, 179, 180, 181, 182, 183, 184, 185, 186, 187, 188] (by decide +kernel) (by decide +kernel)) (goodIn_sub (fun _ h => List.mem_cons_of_mem _ (List.mem_append_left _ (List.mem_append_right _ h))) (by decide +kernel))) (goodIn_sub (fun _ h => List.mem_cons_of_mem _ (List.mem_append_right _ h)) (by decide +kernel))
set_option maxRecDepth 20000 in
theorem gL_spin_X8_spin : GoodIn wsL_spin (wsV RL 37 RX8 yX8_spin wsX8_spin) := goodIn_app (goodIn_of _ (by decide +kernel)) ggL_spin_X8_spin
theorem dL_spin_0 : decode cL_spin 0 = .ok (.aload 4, 2) := by decide +kernel
theorem dL_spin_2 : decode cL_spin 2 = .ok (.iconst 0, 1) := by decide +kernel
theorem dL_spin_3 : decode cL_spin 3 = .ok (.aload_n 0, 1) := by decide +kernel
theorem dL_spin_4 : decode cL_spin 4 = .ok (.iload_n 1, 1) := by decide +kernel
theorem dL_spin_5 : decode cL_spin 5 = .ok (.iload_n 2, 1) := by decide +kernel
theorem dL_spin_6 : decode cL_spin 6 = .ok (.iload_n 3, 1) := by decide +kernel
theorem dL_spin_7 : decode cL_spin 7 = .ok (.invokevirtual 37, 3) := by decide +kernel
theorem dL_spin_10 : decode cL_spin 10 = .ok (.i2l, 1) := by decide +kernel
theorem dL_spin_11 : decode cL_spin 11 = .ok (.lastore, 1) := by decide +kernel
theorem dL_spin_12 : decode cL_spin 12 = .ok (.goto 11, 3) := by decide +kernel
theorem dL_spin_15 : decode cL_spin 15 = .ok (.astore 5, 2) := by decide +kernel
theorem dL_spin_17 : decode cL_spin 17 = .ok (.iconst 1, 1) := by decide +kernel
theorem dL_spin_18 : decode cL_spin 18 = .ok (.ireturn, 1) := by decide +kernel
theorem dL_spin_19 : decode cL_spin 19 = .ok (.astore 5, 2) := by decide +kernel
theorem dL_spin_21 : decode cL_spin 21 = .ok (.iconst 2, 1) := by decide +kernel
theorem dL_spin_22 : decode cL_spin 22 = .ok (.ireturn, 1) := by decide +kernel
theorem dL_spin_23 : decode cL_spin 23 = .ok (.iconst 0, 1) := by decide +kernel
theorem dL_spin_24 : decode cL_spin 24 = .ok (.ireturn, 1) := by decide +kernel
set_option maxRecDepth 20000 in
theorem ggL_run_X8_run : GoodIn wsL_run wsX8_run := goodIn_ca (goodIn_r _ [6, 7, 8, 9, 10, 11, 5, 12, 13, 14, 15, 16, 17, 18, 19, 20, 21, 22, 23, 24, 25, 26, 27, 28, 29, 30, 31, 32, 33, 34, 35, 36, 37, 38, 39, 40, 41, 42, 43, 44, 45, 46, 47, 48, 49, 50, 51, 52, 53, 54, 55, 56, 57, 58, 59, 60, 61, 62, 63, 64, 65, 66, 67, 68, 69, 70, 71, 72, 73, 74, 75, 76, 77, 78, 79, 80, 81, 82, 83, 84, 85, 86, 87, 88, 89, 90, 91, 92, 93, 94, 95, 96, 97, 98, 99, 100, 101, 102, 103, 104, 105, 106, 107, 108, 109, 110, 111, 112, 113, 114, 115, 116, 117, 118, 119, 120, 121, 122, 123, 124, 125, 126, 127, 128, 129, 130, 131, 132, 133, 134, 135, 136, 137, 138, 139, 140, 141, 142, 143, 144, 145, 146, 147, 148, 149, 150, 151, 152, 153, 154, 155, 156, 157, 158, 159, 160, 161, 162, 163, 164, 165, 166, 167, 168, 169, 170, 171, 172, 173, 174, 175, 176, 177, 178, 179, 180, 181, 182, 183, 184, 185, 186, 187, 188, 189, 190, 191, 192, 193, 194, 195, 196, 197, 198, 199, 200, 201, 202, 203, 204, 205, 206, 207, 208, 209, 210, 211, 212, 213, 214, 215, 216, 217, 218, 219, 220, 221, 222, 223, 224, 225, 226, 227, 228, 229, 230, 231, 232, 233, 234, 235, 236, 237, 238, 239, 240, 241, 242, 243, 244, 245, 246, 247, 248, 249, 250, 251, 252, 253, 254, 255, 256, 257, 258, 259, 260, 261, 262, 263, 264, 265, 266] (by decide +kernel) (by decide +kernel)) (goodIn_sub (fun _ h => List.mem_cons_of_mem _ (List.mem_append_right _ h)) (by decide +kernel))
set_option maxRecDepth 20000 in
theorem gL_run_X8_run : GoodIn wsL_run (wsV RL 41 RX8 yX8_run wsX8_run) := goodIn_app (goodIn_of _ (by decide +kernel)) ggL_run_X8_run
theorem dL_run_0 : decode cL_run 0 = .ok (.aload_n 2, 1) := by decide +kernel
theorem dL_run_1 : decode cL_run 1 = .ok (.iconst 0, 1) := by decide +kernel
theorem dL_run_2 : decode cL_run 2 = .ok (.aload_n 0, 1) := by decide +kernel
theorem dL_run_3 : decode cL_run 3 = .ok (.iload_n 1, 1) := by decide +kernel
theorem dL_run_4 : decode cL_run 4 = .ok (.invokevirtual 41, 3) := by decide +kernel
theorem dL_run_7 : decode cL_run 7 = .ok (.i2l, 1) := by decide +kernel
theorem dL_run_8 : decode cL_run 8 = .ok (.lastore, 1) := by decide +kernel
theorem dL_run_9 : decode cL_run 9 = .ok (.goto 6, 3) := by decide +kernel
theorem dL_run_12 : decode cL_run 12 = .ok (.astore_n 3, 1) := by decide +kernel
theorem dL_run_13 : decode cL_run 13 = .ok (.iconst 1, 1) := by decide +kernel
theorem dL_run_14 : decode cL_run 14 = .ok (.ireturn, 1) := by decide +kernel
theorem dL_run_15 : decode cL_run 15 = .ok (.iconst 0, 1) := by decide +kernel
theorem dL_run_16 : decode cL_run 16 = .ok (.ireturn, 1) := by decide +kernel
set_option maxRecDepth 20000 in
theorem ggL_sensors_X8_sensors : GoodIn wsL_sensors wsX8_sensors := goodIn_ca (goodIn_r _ [6, 7, 8, 9, 10, 11, 12, 13, 14, 5, 15, 16, 17, 18, 19, 20, 21, 22, 23, 24, 25, 26, 27, 28, 29, 30, 31] (by decide +kernel) (by decide +kernel)) (goodIn_sub (fun _ h => List.mem_cons_of_mem _ (List.mem_append_right _ h)) (by decide +kernel))
set_option maxRecDepth 20000 in
theorem gL_sensors_X8_sensors : GoodIn wsL_sensors (wsV RL 44 RX8 yX8_sensors wsX8_sensors) := goodIn_app (goodIn_of _ (by decide +kernel)) ggL_sensors_X8_sensors
theorem dL_sensors_0 : decode cL_sensors 0 = .ok (.aload_n 2, 1) := by decide +kernel
theorem dL_sensors_1 : decode cL_sensors 1 = .ok (.iconst 0, 1) := by decide +kernel
theorem dL_sensors_2 : decode cL_sensors 2 = .ok (.aload_n 0, 1) := by decide +kernel
theorem dL_sensors_3 : decode cL_sensors 3 = .ok (.iload_n 1, 1) := by decide +kernel
theorem dL_sensors_4 : decode cL_sensors 4 = .ok (.invokevirtual 44, 3) := by decide +kernel
theorem dL_sensors_7 : decode cL_sensors 7 = .ok (.i2l, 1) := by decide +kernel
theorem dL_sensors_8 : decode cL_sensors 8 = .ok (.lastore, 1) := by decide +kernel
theorem dL_sensors_9 : decode cL_sensors 9 = .ok (.goto 6, 3) := by decide +kernel
theorem dL_sensors_12 : decode cL_sensors 12 = .ok (.astore_n 3, 1) := by decide +kernel
theorem dL_sensors_13 : decode cL_sensors 13 = .ok (.iconst 1, 1) := by decide +kernel
theorem dL_sensors_14 : decode cL_sensors 14 = .ok (.ireturn, 1) := by decide +kernel
theorem dL_sensors_15 : decode cL_sensors 15 = .ok (.iconst 0, 1) := by decide +kernel
theorem dL_sensors_16 : decode cL_sensors 16 = .ok (.ireturn, 1) := by decide +kernel
set_option maxRecDepth 20000 in
theorem ggL_leg_X8_leg : GoodIn wsL_leg wsX8_leg := goodIn_ca (goodIn_r _ [6, 7, 8, 9, 10, 11, 5, 12, 13, 14, 15, 16, 17, 18, 19, 20, 21, 22, 23, 24, 25, 26, 27, 28, 29] (by decide +kernel) (by decide +kernel)) (goodIn_sub (fun _ h => List.mem_cons_of_mem _ (List.mem_append_right _ h)) (by decide +kernel))
set_option maxRecDepth 20000 in
theorem gL_leg_X8_leg : GoodIn wsL_leg (wsV RL 47 RX8 yX8_leg wsX8_leg) := goodIn_app (goodIn_of _ (by decide +kernel)) ggL_leg_X8_leg
theorem dL_leg_0 : decode cL_leg 0 = .ok (.aload_n 2, 1) := by decide +kernel
theorem dL_leg_1 : decode cL_leg 1 = .ok (.iconst 0, 1) := by decide +kernel
theorem dL_leg_2 : decode cL_leg 2 = .ok (.aload_n 0, 1) := by decide +kernel
theorem dL_leg_3 : decode cL_leg 3 = .ok (.iload_n 1, 1) := by decide +kernel
theorem dL_leg_4 : decode cL_leg 4 = .ok (.invokevirtual 47, 3) := by decide +kernel
theorem dL_leg_7 : decode cL_leg 7 = .ok (.i2l, 1) := by decide +kernel
theorem dL_leg_8 : decode cL_leg 8 = .ok (.lastore, 1) := by decide +kernel
theorem dL_leg_9 : decode cL_leg 9 = .ok (.goto 6, 3) := by decide +kernel
theorem dL_leg_12 : decode cL_leg 12 = .ok (.astore_n 3, 1) := by decide +kernel
theorem dL_leg_13 : decode cL_leg 13 = .ok (.iconst 1, 1) := by decide +kernel
theorem dL_leg_14 : decode cL_leg 14 = .ok (.ireturn, 1) := by decide +kernel
theorem dL_leg_15 : decode cL_leg 15 = .ok (.iconst 0, 1) := by decide +kernel
theorem dL_leg_16 : decode cL_leg 16 = .ok (.ireturn, 1) := by decide +kernel
set_option maxRecDepth 20000 in
theorem ggL_onTicks_X8_onTicks : GoodIn wsL_onTicks wsX8_onTicks := goodIn_ca (goodIn_r _ [6, 7, 8, 9, 10, 11, 12, 5, 13, 14, 15, 16, 17, 18, 19, 20, 21, 22, 23, 24, 25, 26, 27, 28, 29, 30] (by decide +kernel) (by decide +kernel)) (goodIn_sub (fun _ h => List.mem_cons_of_mem _ (List.mem_append_right _ h)) (by decide +kernel))
set_option maxRecDepth 20000 in
theorem gL_onTicks_X8_onTicks : GoodIn wsL_onTicks (wsV RL 52 RX8 yX8_onTicks wsX8_onTicks) := goodIn_app (goodIn_of _ (by decide +kernel)) ggL_onTicks_X8_onTicks
theorem dL_onTicks_0 : decode cL_onTicks 0 = .ok (.aload_n 3, 1) := by decide +kernel
theorem dL_onTicks_1 : decode cL_onTicks 1 = .ok (.iconst 0, 1) := by decide +kernel
theorem dL_onTicks_2 : decode cL_onTicks 2 = .ok (.aload_n 0, 1) := by decide +kernel
theorem dL_onTicks_3 : decode cL_onTicks 3 = .ok (.iload_n 1, 1) := by decide +kernel
theorem dL_onTicks_4 : decode cL_onTicks 4 = .ok (.iload_n 2, 1) := by decide +kernel
theorem dL_onTicks_5 : decode cL_onTicks 5 = .ok (.invokevirtual 52, 3) := by decide +kernel
theorem dL_onTicks_8 : decode cL_onTicks 8 = .ok (.i2l, 1) := by decide +kernel
theorem dL_onTicks_9 : decode cL_onTicks 9 = .ok (.lastore, 1) := by decide +kernel
theorem dL_onTicks_10 : decode cL_onTicks 10 = .ok (.goto 7, 3) := by decide +kernel
theorem dL_onTicks_13 : decode cL_onTicks 13 = .ok (.astore 4, 2) := by decide +kernel
theorem dL_onTicks_15 : decode cL_onTicks 15 = .ok (.iconst 1, 1) := by decide +kernel
theorem dL_onTicks_16 : decode cL_onTicks 16 = .ok (.ireturn, 1) := by decide +kernel
theorem dL_onTicks_17 : decode cL_onTicks 17 = .ok (.iconst 0, 1) := by decide +kernel
theorem dL_onTicks_18 : decode cL_onTicks 18 = .ok (.ireturn, 1) := by decide +kernel
set_option maxRecDepth 20000 in
theorem ggL_counts_X8_counts : GoodIn wsL_counts wsX8_counts := goodIn_ca (goodIn_r _ [6, 7, 8, 9, 10, 11, 12, 13, 14, 15, 5, 16, 17, 18, 19, 20, 21, 22, 23, 24, 25, 26, 27, 28, 29, 30, 31, 32, 33, 34, 35, 36, 37, 38, 39, 40, 41, 42, 43] (by decide +kernel) (by decide +kernel)) (goodIn_sub (fun _ h => List.mem_cons_of_mem _ (List.mem_append_right _ h)) (by decide +kernel))
set_option maxRecDepth 20000 in
theorem gL_counts_X8_counts : GoodIn wsL_counts (wsV RL 56 RX8 yX8_counts wsX8_counts) := goodIn_app (goodIn_of _ (by decide +kernel)) ggL_counts_X8_counts
theorem dL_counts_0 : decode cL_counts 0 = .ok (.aload_n 2, 1) := by decide +kernel
theorem dL_counts_1 : decode cL_counts 1 = .ok (.iconst 0, 1) := by decide +kernel
theorem dL_counts_2 : decode cL_counts 2 = .ok (.aload_n 0, 1) := by decide +kernel
theorem dL_counts_3 : decode cL_counts 3 = .ok (.iload_n 1, 1) := by decide +kernel
theorem dL_counts_4 : decode cL_counts 4 = .ok (.invokevirtual 56, 3) := by decide +kernel
theorem dL_counts_7 : decode cL_counts 7 = .ok (.i2l, 1) := by decide +kernel
theorem dL_counts_8 : decode cL_counts 8 = .ok (.lastore, 1) := by decide +kernel
theorem dL_counts_9 : decode cL_counts 9 = .ok (.goto 6, 3) := by decide +kernel
theorem dL_counts_12 : decode cL_counts 12 = .ok (.astore_n 3, 1) := by decide +kernel
theorem dL_counts_13 : decode cL_counts 13 = .ok (.iconst 1, 1) := by decide +kernel
theorem dL_counts_14 : decode cL_counts 14 = .ok (.ireturn, 1) := by decide +kernel
theorem dL_counts_15 : decode cL_counts 15 = .ok (.iconst 0, 1) := by decide +kernel
theorem dL_counts_16 : decode cL_counts 16 = .ok (.ireturn, 1) := by decide +kernel
set_option maxRecDepth 20000 in
theorem ggL_interval_X8_interval : GoodIn wsL_interval wsX8_interval := goodIn_ca (goodIn_r _ [6, 7, 8, 9, 10, 11, 12, 13, 14, 15, 16, 17, 18, 19, 20, 21, 22, 23, 24, 25, 26, 27, 28, 29] (by decide +kernel) (by decide +kernel)) (goodIn_sub (fun _ h => List.mem_cons_of_mem _ (List.mem_append_right _ h)) (by decide +kernel))
set_option maxRecDepth 20000 in
theorem gL_interval_X8_interval : GoodIn wsL_interval (wsV RL 59 RX8 yX8_interval wsX8_interval) := goodIn_app (goodIn_of _ (by decide +kernel)) ggL_interval_X8_interval
theorem dL_interval_0 : decode cL_interval 0 = .ok (.aload_n 2, 1) := by decide +kernel
theorem dL_interval_1 : decode cL_interval 1 = .ok (.iconst 0, 1) := by decide +kernel
theorem dL_interval_2 : decode cL_interval 2 = .ok (.aload_n 0, 1) := by decide +kernel
theorem dL_interval_3 : decode cL_interval 3 = .ok (.iload_n 1, 1) := by decide +kernel
theorem dL_interval_4 : decode cL_interval 4 = .ok (.invokevirtual 59, 3) := by decide +kernel
theorem dL_interval_7 : decode cL_interval 7 = .ok (.i2l, 1) := by decide +kernel
theorem dL_interval_8 : decode cL_interval 8 = .ok (.lastore, 1) := by decide +kernel
theorem dL_interval_9 : decode cL_interval 9 = .ok (.goto 6, 3) := by decide +kernel
theorem dL_interval_12 : decode cL_interval 12 = .ok (.astore_n 3, 1) := by decide +kernel
theorem dL_interval_13 : decode cL_interval 13 = .ok (.iconst 1, 1) := by decide +kernel
theorem dL_interval_14 : decode cL_interval 14 = .ok (.ireturn, 1) := by decide +kernel
theorem dL_interval_15 : decode cL_interval 15 = .ok (.iconst 0, 1) := by decide +kernel
theorem dL_interval_16 : decode cL_interval 16 = .ok (.ireturn, 1) := by decide +kernel
set_option maxRecDepth 20000 in
theorem ggL_fault_X8_fault : GoodIn wsL_fault wsX8_fault := goodIn_ca (goodIn_r _ [6, 7, 8, 9, 10, 11, 12, 13, 5, 14, 15, 16, 17, 18, 19, 20, 21, 22, 23, 24, 25, 26, 27, 28, 29, 30, 31, 32, 33] (by decide +kernel) (by decide +kernel)) (goodIn_sub (fun _ h => List.mem_cons_of_mem _ (List.mem_append_right _ h)) (by decide +kernel))
set_option maxRecDepth 20000 in
theorem gL_fault_X8_fault : GoodIn wsL_fault (wsV RL 62 RX8 yX8_fault wsX8_fault) := goodIn_app (goodIn_of _ (by decide +kernel)) ggL_fault_X8_fault
theorem dL_fault_0 : decode cL_fault 0 = .ok (.aload_n 2, 1) := by decide +kernel
theorem dL_fault_1 : decode cL_fault 1 = .ok (.iconst 0, 1) := by decide +kernel
theorem dL_fault_2 : decode cL_fault 2 = .ok (.aload_n 0, 1) := by decide +kernel
theorem dL_fault_3 : decode cL_fault 3 = .ok (.iload_n 1, 1) := by decide +kernel
theorem dL_fault_4 : decode cL_fault 4 = .ok (.invokevirtual 62, 3) := by decide +kernel
theorem dL_fault_7 : decode cL_fault 7 = .ok (.i2l, 1) := by decide +kernel
theorem dL_fault_8 : decode cL_fault 8 = .ok (.lastore, 1) := by decide +kernel
theorem dL_fault_9 : decode cL_fault 9 = .ok (.goto 6, 3) := by decide +kernel
theorem dL_fault_12 : decode cL_fault 12 = .ok (.astore_n 3, 1) := by decide +kernel
theorem dL_fault_13 : decode cL_fault 13 = .ok (.iconst 1, 1) := by decide +kernel
theorem dL_fault_14 : decode cL_fault 14 = .ok (.ireturn, 1) := by decide +kernel
theorem dL_fault_15 : decode cL_fault 15 = .ok (.iconst 0, 1) := by decide +kernel
theorem dL_fault_16 : decode cL_fault 16 = .ok (.ireturn, 1) := by decide +kernel
set_option maxRecDepth 20000 in
theorem ggL_undo_X8_undo : GoodIn wsL_undo wsX8_undo := goodIn_ca (goodIn_r _ [6, 7, 8, 9, 10, 11, 12, 13, 14, 15, 16, 17, 18, 19, 20, 21, 22, 23, 24, 25, 26, 27, 28, 29, 30, 31, 32, 33, 34, 35, 36, 37, 38, 39, 40, 41, 42, 43, 44, 45, 46, 47, 48, 49, 50, 51, 52, 53, 54, 55, 56, 57, 58, 59, 60, 61, 62, 63, 64, 65, 66, 67, 68, 69, 70, 71, 72, 73, 74, 75, 76, 77, 78, 79, 80, 81, 82, 83, 84, 85, 86, 87, 88, 89, 90, 91, 92, 93, 94, 95, 96, 97, 98, 99, 100, 101, 102, 103, 104, 105, 106, 107, 108, 109, 110, 111, 112, 113, 114, 115, 116, 117, 118, 119, 120, 121, 122, 123, 124, 125, 126, 127, 128, 129, 130, 131, 132, 133, 134, 135, 136, 137, 138, 139, 140, 141, 142, 143, 144, 145, 146, 147] (by decide +kernel) (by decide +kernel)) (goodIn_sub (fun _ h => List.mem_cons_of_mem _ (List.mem_append_right _ h)) (by decide +kernel))
set_option maxRecDepth 20000 in
theorem gL_undo_X8_undo : GoodIn wsL_undo (wsV RL 65 RX8 yX8_undo wsX8_undo) := goodIn_app (goodIn_of _ (by decide +kernel)) ggL_undo_X8_undo
theorem dL_undo_0 : decode cL_undo 0 = .ok (.aload_n 1, 1) := by decide +kernel
theorem dL_undo_1 : decode cL_undo 1 = .ok (.iconst 0, 1) := by decide +kernel
theorem dL_undo_2 : decode cL_undo 2 = .ok (.aload_n 0, 1) := by decide +kernel
theorem dL_undo_3 : decode cL_undo 3 = .ok (.invokevirtual 65, 3) := by decide +kernel
theorem dL_undo_6 : decode cL_undo 6 = .ok (.i2l, 1) := by decide +kernel
theorem dL_undo_7 : decode cL_undo 7 = .ok (.lastore, 1) := by decide +kernel
theorem dL_undo_8 : decode cL_undo 8 = .ok (.goto 6, 3) := by decide +kernel
theorem dL_undo_11 : decode cL_undo 11 = .ok (.astore_n 2, 1) := by decide +kernel
theorem dL_undo_12 : decode cL_undo 12 = .ok (.iconst 1, 1) := by decide +kernel
theorem dL_undo_13 : decode cL_undo 13 = .ok (.ireturn, 1) := by decide +kernel
theorem dL_undo_14 : decode cL_undo 14 = .ok (.iconst 0, 1) := by decide +kernel
theorem dL_undo_15 : decode cL_undo 15 = .ok (.ireturn, 1) := by decide +kernel
set_option maxRecDepth 20000 in
theorem ggL_law_X8_init : GoodIn wsL_law wsX8_init := goodIn_r _ [9, 10, 11, 12, 13, 14, 15, 16, 17, 18, 19, 20, 21, 22, 23, 24, 25, 26, 27, 28, 29, 30, 31, 32, 33, 34, 35, 36, 37, 38, 39, 40, 41, 42, 43, 44, 45, 46, 47, 48, 49, 50, 51, 52, 53, 54, 55, 56, 57, 58, 59, 60, 61, 62, 63, 64, 65, 66, 67, 68, 69, 70, 71, 72, 73, 74, 75, 76, 77, 78, 79, 80, 81, 82, 83, 84, 85, 86, 87, 88, 89, 90, 91, 92, 93, 94, 95, 96, 97, 98, 99, 100, 101, 102, 103, 104, 105, 106, 107, 108, 712, 713, 714, 715, 716, 717, 718, 704, 705, 719, 720, 721, 722, 723, 724, 725, 726, 727, 728, 729, 730, 731, 732, 733, 734, 735, 736, 737, 738, 739, 740, 741, 742, 743, 744, 745, 746, 747, 748, 749, 750, 751, 752, 753, 754, 755] (by decide +kernel) (by decide +kernel)
set_option maxRecDepth 20000 in
theorem gL_law_X8_init : GoodIn wsL_law (wsX8_init) := ggL_law_X8_init
set_option maxRecDepth 20000 in
theorem ggL_law_X9_init : GoodIn wsL_law wsX9_init := goodIn_r _ [111, 112, 11, 12, 60, 113, 114, 706, 707, 708, 709, 710, 711] (by decide +kernel) (by decide +kernel)
set_option maxRecDepth 20000 in
theorem gL_law_X9_init : GoodIn wsL_law (wsX9_init) := ggL_law_X9_init
set_option maxRecDepth 20000 in
theorem ggL_law_L_setFilter : GoodIn wsL_law wsL_setFilter := goodIn_ca (goodIn_r _ [118, 119, 120, 121, 122, 2, 123, 20, 16, 124, 125, 126, 127, 128, 129, 130, 131, 132, 133, 19, 134, 108, 107, 135, 136, 137, 138, 139, 140, 141, 15, 142, 24, 28, 32, 36, 40, 44, 48, 143, 144, 145, 27, 146, 52, 53, 54, 55, 56, 147, 148, 149, 31, 150, 61, 151, 152, 153, 154, 62, 63, 155, 156, 157, 35, 158, 67, 68, 69, 70, 71, 159, 160, 161, 39, 162, 75, 76, 77, 78, 79, 163, 80, 81, 82, 164, 165, 166, 43, 167, 86, 87, 88, 89, 90, 91, 92, 93, 168, 169, 170, 47, 171, 97, 98, 172, 99, 100, 101, 102, 704, 705, 712, 713, 714, 715, 716, 717, 718, 721, 722, 723, 724, 725, 719, 720, 726, 727, 728, 729, 730, 731, 732, 733, 734, 735, 736, 737, 738, 739, 740, 741, 742, 743, 744, 745, 746, 747, 748, 749, 750, 751, 752, 753, 754, 755] (by decide +kernel) (by decide +kernel)) (goodIn_sub (fun _ h => List.mem_append_left _ (List.mem_append_left _ (List.mem_append_right _ h))) (by decide +kernel))
set_option maxRecDepth 20000 in
theorem gL_law_L_setFilter : GoodIn wsL_law (va_wsS RL 72 yL_setFilter wsL_setFilter) := goodIn_app (goodIn_of _ (by decide +kernel)) ggL_law_L_setFilter
set_option maxRecDepth 20000 in
theorem ggL_law_X9_setFilter : GoodIn wsL_law wsX9_setFilter := goodIn_r _ [176, 177, 178, 5, 179, 180, 181, 182, 183, 113, 184, 185, 186, 187, 188, 189, 114, 190, 191, 192, 193, 706, 707, 708, 709, 710, 711] (by decide +kernel) (by decide +kernel)
set_option maxRecDepth 20000 in
theorem gL_law_X9_setFilter : GoodIn wsL_law (wsV RL 77 RX9 yX9_setFilter wsX9_setFilter) := goodIn_app (goodIn_of _ (by decide +kernel)) ggL_law_X9_setFilter
set_option maxRecDepth 20000 in
theorem ggL_law_X9_thrown : GoodIn wsL_law wsX9_thrown := goodIn_r _ [197, 188, 706, 707, 708, 709, 710, 711] (by decide +kernel) (by decide +kernel)
set_option maxRecDepth 20000 in
theorem gL_law_X9_thrown : GoodIn wsL_law (wsV RL 78 RX9 yX9_thrown wsX9_thrown) := goodIn_app (goodIn_of _ (by decide +kernel)) ggL_law_X9_thrown
set_option maxRecDepth 20000 in
theorem ggL_law_L_setPulse : GoodIn wsL_law wsL_setPulse := goodIn_ca (goodIn_r _ [200, 119, 201, 202, 203, 2, 204, 20, 16, 124, 205, 206, 126, 127, 128, 129, 130, 131, 132, 133, 19, 134, 108, 107, 135, 136, 137, 138, 139, 140, 141, 15, 142, 24, 28, 32, 36, 40, 44, 48, 143, 144, 145, 27, 146, 52, 53, 54, 55, 56, 147, 148, 149, 31, 150, 61, 151, 152, 153, 154, 62, 63, 155, 156, 157, 35, 158, 67, 68, 69, 70, 71, 159, 160, 161, 39, 162, 75, 76, 77, 78, 79, 163, 80, 81, 82, 164, 165, 166, 43, 167, 86, 87, 88, 89, 90, 91, 92, 93, 168, 169, 170, 47, 171, 97, 98, 172, 99, 100, 101, 102, 704, 705, 712, 713, 714, 715, 716, 717, 718, 721, 722, 723, 724, 725, 719, 720, 726, 727, 728, 729, 730, 731, 732, 733, 734, 735, 736, 737, 738, 739, 740, 741, 742, 743, 744, 745, 746, 747, 748, 749, 750, 751, 752, 753, 754, 755] (by decide +kernel) (by decide +kernel)) (goodIn_sub (fun _ h => List.mem_append_left _ (List.mem_append_left _ (List.mem_append_right _ h))) (by decide +kernel))
set_option maxRecDepth 20000 in
theorem gL_law_L_setPulse : GoodIn wsL_law (va_wsS RL 81 yL_setPulse wsL_setPulse) := goodIn_app (goodIn_of _ (by decide +kernel)) ggL_law_L_setPulse
set_option maxRecDepth 20000 in
theorem ggL_law_X9_setPulse : GoodIn wsL_law wsX9_setPulse := goodIn_r _ [210, 113, 177, 178, 5, 179, 190, 191, 192, 193, 188, 180, 181, 182, 183, 184, 185, 186, 187, 189, 114, 706, 707, 708, 709, 710, 711] (by decide +kernel) (by decide +kernel)
set_option maxRecDepth 20000 in
theorem gL_law_X9_setPulse : GoodIn wsL_law (wsV RL 84 RX9 yX9_setPulse wsX9_setPulse) := goodIn_app (goodIn_of _ (by decide +kernel)) ggL_law_X9_setPulse
set_option maxRecDepth 20000 in
theorem ggL_law_L_setDeadTime : GoodIn wsL_law wsL_setDeadTime := goodIn_ca (goodIn_r _ [213, 119, 214, 215, 216, 2, 217, 20, 16, 124, 218, 126, 127, 128, 129, 130, 131, 132, 133, 19, 134, 108, 107, 135, 136, 137, 138, 139, 140, 141, 15, 142, 24, 28, 32, 36, 40, 44, 48, 143, 144, 145, 27, 146, 52, 53, 54, 55, 56, 147, 148, 149, 31, 150, 61, 151, 152, 153, 154, 62, 63, 155, 156, 157, 35, 158, 67, 68, 69, 70, 71, 159, 160, 161, 39, 162, 75, 76, 77, 78, 79, 163, 80, 81, 82, 164, 165, 166, 43, 167, 86, 87, 88, 89, 90, 91, 92, 93, 168, 169, 170, 47, 171, 97, 98, 172, 99, 100, 101, 102, 704, 705, 712, 713, 714, 715, 716, 717, 718, 721, 722, 723, 724, 725, 719, 720, 726, 727, 728, 729, 730, 731, 732, 733, 734, 735, 736, 737, 738, 739, 740, 741, 742, 743, 744, 745, 746, 747, 748, 749, 750, 751, 752, 753, 754, 755] (by decide +kernel) (by decide +kernel)) (goodIn_sub (fun _ h => List.mem_append_left _ (List.mem_append_left _ (List.mem_append_right _ h))) (by decide +kernel))
set_option maxRecDepth 20000 in
theorem gL_law_L_setDeadTime : GoodIn wsL_law (va_wsS RL 85 yL_setDeadTime wsL_setDeadTime) := goodIn_app (goodIn_of _ (by decide +kernel)) ggL_law_L_setDeadTime
set_option maxRecDepth 20000 in
theorem ggL_law_X9_setDeadTime : GoodIn wsL_law wsX9_setDeadTime := goodIn_r _ [222, 177, 178, 5, 179, 180, 181, 182, 183, 113, 184, 185, 186, 187, 188, 189, 114, 190, 191, 192, 193, 706, 707, 708, 709, 710, 711] (by decide +kernel) (by decide +kernel)
set_option maxRecDepth 20000 in
theorem gL_law_X9_setDeadTime : GoodIn wsL_law (wsV RL 87 RX9 yX9_setDeadTime wsX9_setDeadTime) := goodIn_app (goodIn_of _ (by decide +kernel)) ggL_law_X9_setDeadTime
set_option maxRecDepth 20000 in
theorem ggL_law_L_setStall : GoodIn wsL_law wsL_setStall := goodIn_ca (goodIn_r _ [225, 119, 226, 227, 228, 2, 229, 230, 20, 16, 124, 231, 126, 127, 128, 129, 130, 131, 132, 133, 19, 134, 108, 107, 135, 136, 137, 138, 139, 140, 141, 15, 142, 24, 28, 32, 36, 40, 44, 48, 143, 144, 145, 27, 146, 52, 53, 54, 55, 56, 147, 148, 149, 31, 150, 61, 151, 152, 153, 154, 62, 63, 155, 156, 157, 35, 158, 67, 68, 69, 70, 71, 159, 160, 161, 39, 162, 75, 76, 77, 78, 79, 163, 80, 81, 82, 164, 165, 166, 43, 167, 86, 87, 88, 89, 90, 91, 92, 93, 168, 169, 170, 47, 171, 97, 98, 172, 99, 100, 101, 102, 704, 705, 712, 713, 714, 715, 716, 717, 718, 721, 722, 723, 724, 725, 719, 720, 726, 727, 728, 729, 730, 731, 732, 733, 734, 735, 736, 737, 738, 739, 740, 741, 742, 743, 744, 745, 746, 747, 748, 749, 750, 751, 752, 753, 754, 755] (by decide +kernel) (by decide +kernel)) (goodIn_sub (fun _ h => List.mem_append_left _ (List.mem_append_left _ (List.mem_append_right _ h))) (by decide +kernel))
set_option maxRecDepth 20000 in
theorem gL_law_L_setStall : GoodIn wsL_law (va_wsS RL 88 yL_setStall wsL_setStall) := goodIn_app (goodIn_of _ (by decide +kernel)) ggL_law_L_setStall
set_option maxRecDepth 20000 in
theorem ggL_law_X9_setStall : GoodIn wsL_law wsX9_setStall := goodIn_r _ [235, 236, 177, 178, 5, 179, 180, 181, 182, 183, 113, 184, 185, 186, 187, 188, 189, 114, 190, 191, 192, 193, 706, 707, 708, 709, 710, 711] (by decide +kernel) (by decide +kernel)
set_option maxRecDepth 20000 in
theorem gL_law_X9_setStall : GoodIn wsL_law (wsV RL 90 RX9 yX9_setStall wsX9_setStall) := goodIn_app (goodIn_of _ (by decide +kernel)) ggL_law_X9_setStall
set_option maxRecDepth 20000 in
theorem ggL_law_L_setMode : GoodIn wsL_law wsL_setMode := goodIn_ca (goodIn_ca (goodIn_r _ [239, 119, 240, 241, 242, 243, 2, 244, 245, 246, 16, 247, 248, 20, 249, 126, 127, 128, 129, 130, 131, 132, 133, 19, 134, 108, 107, 135, 136, 137, 138, 139, 140, 141, 15, 142, 24, 28, 32, 36, 40, 44, 48, 143, 144, 145, 27, 146, 52, 53, 54, 55, 56, 147, 148, 149, 31, 150, 61, 151, 152, 153, 154, 62, 63, 155, 156, 157, 35, 158, 67, 68, 69, 70, 71, 159, 160, 161, 39, 162, 75, 76, 77, 78, 79, 163, 80, 81, 82, 164, 165, 166, 43, 167, 86, 87, 88, 89, 90, 91, 92, 93, 168, 169, 170, 47, 171, 97, 98, 172, 99, 100, 101, 102, 250, 251, 252, 253, 704, 705, 712, 713, 714, 715, 716, 717, 718, 742, 743, 744, 745, 746, 747, 748, 749, 719, 720, 721, 722, 723, 724, 725, 726, 727, 728, 729, 730, 731, 732, 733, 734, 735, 736, 737, 738, 739, 740, 741, 750, 751, 752, 753, 754, 755] (by decide +kernel) (by decide +kernel)) (goodIn_sub (fun _ h => List.mem_append_left _ (List.mem_append_right _ h)) (by decide +kernel))) (goodIn_sub (fun _ h => List.mem_append_left _ (List.mem_append_left _ (List.mem_append_right _ h))) (by decide +kernel))
set_option maxRecDepth 20000 in
theorem gL_law_L_setMode : GoodIn wsL_law (va_wsS RL 91 yL_setMode wsL_setMode) := goodIn_app (goodIn_of _ (by decide +kernel)) ggL_law_L_setMode
set_option maxRecDepth 20000 in
theorem ggL_law_X9_setMode : GoodIn wsL_law wsX9_setMode := goodIn_r _ [257, 113, 177, 178, 5, 179, 190, 191, 192, 193, 188, 180, 181, 182, 183, 184, 185, 186, 187, 189, 114, 706, 707, 708, 709, 710, 711] (by decide +kernel) (by decide +kernel)
set_option maxRecDepth 20000 in
theorem gL_law_X9_setMode : GoodIn wsL_law (wsV RL 93 RX9 yX9_setMode wsX9_setMode) := goodIn_app (goodIn_of _ (by decide +kernel)) ggL_law_X9_setMode
set_option maxRecDepth 20000 in
theorem ggL_law_L_clearFault : GoodIn wsL_law wsL_clearFault := goodIn_ca (goodIn_r _ [260, 240, 261, 262, 263, 2, 264, 245, 246, 16, 247, 248, 20, 131, 132, 133, 19, 134, 108, 107, 135, 136, 137, 138, 139, 140, 141, 15, 142, 24, 28, 32, 36, 40, 44, 48, 143, 144, 145, 27, 146, 52, 53, 54, 55, 56, 147, 148, 149, 31, 150, 61, 151, 152, 153, 154, 62, 63, 155, 156, 157, 35, 158, 67, 68, 69, 70, 71, 159, 160, 161, 39, 162, 75, 76, 77, 78, 79, 163, 80, 81, 82, 164, 165, 166, 43, 167, 86, 87, 88, 89, 90, 91, 92, 93, 168, 169, 170, 47, 171, 97, 98, 172, 99, 100, 101, 102, 265, 266, 267, 268, 704, 705, 712, 713, 714, 715, 716, 717, 718, 742, 743, 744, 745, 746, 747, 748, 749, 719, 720, 721, 722, 723, 724, 725, 726, 727, 728, 729, 730, 731, 732, 733, 734, 735, 736, 737, 738, 739, 740, 741, 750, 751, 752, 753, 754, 755] (by decide +kernel) (by decide +kernel)) (goodIn_sub (fun _ h => List.mem_append_left _ (List.mem_append_right _ h)) (by decide +kernel))
set_option maxRecDepth 20000 in
theorem gL_law_L_clearFault : GoodIn wsL_law (va_wsS RL 94 yL_clearFault wsL_clearFault) := goodIn_app (goodIn_of _ (by decide +kernel)) ggL_law_L_clearFault
set_option maxRecDepth 20000 in
theorem ggL_law_X9_clearFault : GoodIn wsL_law wsX9_clearFault := goodIn_r _ [272, 113, 190, 191, 192, 5, 193, 188, 180, 181, 182, 183, 184, 185, 186, 187, 189, 114, 706, 707, 708, 709, 710, 711] (by decide +kernel) (by decide +kernel)
set_option maxRecDepth 20000 in
theorem gL_law_X9_clearFault : GoodIn wsL_law (wsV RL 97 RX9 yX9_clearFault wsX9_clearFault) := goodIn_app (goodIn_of _ (by decide +kernel)) ggL_law_X9_clearFault
set_option maxRecDepth 20000 in
theorem ggL_law_L_schedule : GoodIn wsL_law wsL_schedule := goodIn_ca (goodIn_ca (goodIn_r _ [275, 119, 240, 276, 277, 278, 2, 279, 230, 20, 16, 280, 281, 282, 126, 127, 128, 129, 130, 283, 284, 285, 286, 245, 246, 131, 132, 133, 19, 134, 108, 107, 135, 136, 137, 138, 139, 140, 141, 15, 142, 24, 28, 32, 36, 40, 44, 48, 143, 144, 145, 27, 146, 52, 53, 54, 55, 56, 147, 148, 149, 31, 150, 61, 151, 152, 153, 154, 62, 63, 155, 156, 157, 35, 158, 67, 68, 69, 70, 71, 159, 160, 161, 39, 162, 75, 76, 77, 78, 79, 163, 80, 81, 82, 164, 165, 166, 43, 167, 86, 87, 88, 89, 90, 91, 92, 93, 168, 169, 170, 47, 171, 97, 98, 172, 99, 100, 101, 102, 287, 288, 289, 290, 704, 705, 712, 713, 714, 715, 716, 717, 718, 726, 727, 728, 719, 720, 721, 722, 723, 724, 725, 729, 730, 731, 732, 733, 734, 735, 736, 737, 738, 739, 740, 741, 742, 743, 744, 745, 746, 747, 748, 749, 750, 751, 752, 753, 754, 755] (by decide +kernel) (by decide +kernel)) (goodIn_sub (fun _ h => List.mem_append_left _ (List.mem_append_left _ (List.mem_append_right _ h))) (by decide +kernel))) (goodIn_sub (fun _ h => List.mem_append_left _ (List.mem_append_right _ h)) (by decide +kernel))
set_option maxRecDepth 20000 in
theorem gL_law_L_schedule : GoodIn wsL_law (va_wsS RL 98 yL_schedule wsL_schedule) := goodIn_app (goodIn_of _ (by decide +kernel)) ggL_law_L_schedule
set_option maxRecDepth 20000 in
theorem ggL_law_X9_schedule : GoodIn wsL_law wsX9_schedule := goodIn_r _ [294, 236, 113, 177, 178, 5, 179, 190, 191, 192, 193, 188, 184, 185, 186, 187, 189, 114, 295, 296, 297, 298, 706, 707, 708, 709, 710, 711] (by decide +kernel) (by decide +kernel)
set_option maxRecDepth 20000 in
theorem gL_law_X9_schedule : GoodIn wsL_law (wsV RL 100 RX9 yX9_schedule wsX9_schedule) := goodIn_app (goodIn_of _ (by decide +kernel)) ggL_law_X9_schedule
set_option maxRecDepth 20000 in
theorem ggL_law_L_spin : GoodIn wsL_law wsL_spin := goodIn_ca (goodIn_ca (goodIn_r _ [301, 119, 240, 302, 303, 304, 2, 305, 129, 130, 245, 246, 16, 280, 306, 307, 20, 281, 282, 126, 127, 128, 283, 284, 285, 286, 308, 309, 310, 31, 311, 63, 62, 312, 313, 314, 315, 316, 317, 318, 131, 132, 133, 19, 134, 108, 107, 135, 136, 137, 138, 139, 140, 141, 15, 142, 24, 28, 32, 36, 40, 44, 48, 143, 144, 145, 27, 146, 52, 53, 54, 55, 56, 147, 148, 149, 150, 61, 151, 152, 153, 154, 155, 156, 157, 35, 158, 67, 68, 69, 70, 71, 159, 160, 161, 39, 162, 75, 76, 77, 78, 79, 163, 80, 81, 82, 164, 165, 166, 43, 167, 86, 87, 88, 89, 90, 91, 92, 93, 168, 169, 170, 47, 171, 97, 98, 172, 99, 100, 101, 102, 319, 320, 321, 322, 323, 324, 325, 326, 287, 288, 289, 290, 704, 705, 712, 713, 714, 715, 716, 717, 718, 729, 730, 731, 732, 733, 726, 727, 728, 719, 720, 721, 722, 723, 724, 725, 734, 735, 736, 737, 738, 739, 740, 741, 742, 743, 744, 745, 746, 747, 748, 749, 750, 751, 752, 753, 754, 755] (by decide +kernel) (by decide +kernel)) (goodIn_sub (fun _ h => List.mem_append_left _ (List.mem_append_left _ (List.mem_append_right _ h))) (by decide +kernel))) (goodIn_sub (fun _ h => List.mem_append_left _ (List.mem_append_right _ h)) (by decide +kernel))
set_option maxRecDepth 20000 in
theorem gL_law_L_spin : GoodIn wsL_law (va_wsS RL 101 yL_spin wsL_spin) := goodIn_app (goodIn_of _ (by decide +kernel)) ggL_law_L_spin
set_option maxRecDepth 20000 in
theorem ggL_law_X9_spin : GoodIn wsL_law wsX9_spin := goodIn_r _ [330, 113, 177, 178, 5, 179, 190, 191, 192, 193, 188, 331, 332, 333, 184, 185, 186, 187, 189, 114, 334, 335, 336, 295, 296, 297, 298, 706, 707, 708, 709, 710, 711] (by decide +kernel) (by decide +kernel)
set_option maxRecDepth 20000 in
theorem gL_law_X9_spin : GoodIn wsL_law (wsV RL 104 RX9 yX9_spin wsX9_spin) := goodIn_app (goodIn_of _ (by decide +kernel)) ggL_law_X9_spin
set_option maxRecDepth 20000 in
theorem ggL_law_L_run : GoodIn wsL_law wsL_run := goodIn_ca (goodIn_r _ [339, 119, 340, 341, 342, 2, 343, 20, 16, 281, 126, 127, 128, 129, 130, 131, 132, 133, 19, 134, 108, 107, 135, 136, 137, 138, 139, 140, 141, 15, 142, 24, 28, 32, 36, 40, 44, 48, 143, 144, 145, 27, 146, 52, 53, 54, 55, 56, 147, 148, 149, 31, 150, 61, 151, 152, 153, 154, 62, 63, 155, 156, 157, 35, 158, 67, 68, 69, 70, 71, 159, 160, 161, 39, 162, 75, 76, 77, 78, 79, 163, 80, 81, 82, 164, 165, 166, 43, 167, 86, 87, 88, 89, 90, 91, 92, 93, 168, 169, 170, 47, 171, 97, 98, 172, 99, 100, 101, 102, 344, 345, 346, 347, 348, 349, 350, 351, 352, 353, 354, 355, 356, 357, 358, 359, 360, 361, 362, 363, 364, 365, 313, 314, 315, 316, 317, 318, 366, 367, 368, 369, 370, 371, 372, 373, 374, 375, 376, 377, 378, 379, 380, 381, 382, 383, 384, 385, 386, 387, 388, 389, 390, 391, 392, 393, 394, 395, 396, 397, 398, 251, 252, 253, 399, 400, 401, 402, 403, 404, 405, 406, 407, 408, 409, 410, 411, 412, 413, 414, 415, 416, 417, 418, 419, 420, 421, 422, 423, 424, 425, 426, 427, 428, 429, 430, 431, 432, 433, 434, 435, 436, 437, 438, 439, 440, 441, 442, 443, 444, 445, 446, 704, 705, 712, 713, 714, 715, 716, 717, 718, 719, 720, 721, 722, 723, 724, 725, 726, 727, 728, 729, 730, 731, 732, 733, 734, 735, 736, 737, 738, 739, 740, 741, 742, 743, 744, 745, 746, 747, 748, 749, 750, 751, 752, 753, 754, 755] (by decide +kernel) (by decide +kernel)) (goodIn_sub (fun _ h => List.mem_append_left _ (List.mem_append_left _ (List.mem_append_right _ h))) (by decide +kernel))
set_option maxRecDepth 20000 in
theorem gL_law_L_run : GoodIn wsL_law (va_wsS RL 105 yL_run wsL_run) := goodIn_app (goodIn_of _ (by decide +kernel)) ggL_law_L_run
set_option maxRecDepth 20000 in
theorem ggL_law_X9_run : GoodIn wsL_law wsX9_run := goodIn_r _ [450, 113, 177, 178, 5, 179, 190, 191, 192, 193, 188, 184, 185, 186, 187, 189, 114, 451, 452, 453, 454, 455, 456, 457, 458, 459, 460, 461, 462, 463, 464, 465, 466, 467, 331, 332, 333, 468, 469, 470, 471, 472, 473, 474, 475, 476, 477, 478, 479, 480, 481, 482, 483, 484, 485, 486, 487, 488, 489, 490, 491, 492, 493, 494, 495, 496, 497, 498, 499, 500, 501, 502, 706, 707, 708, 709, 710, 711] (by decide +kernel) (by decide +kernel)
set_option maxRecDepth 20000 in
theorem gL_law_X9_run : GoodIn wsL_law (wsV RL 107 RX9 yX9_run wsX9_run) := goodIn_app (goodIn_of _ (by decide +kernel)) ggL_law_X9_run
set_option maxRecDepth 20000 in
theorem ggL_law_L_sensors : GoodIn wsL_law wsL_sensors := goodIn_ca (goodIn_r _ [505, 119, 506, 507, 508, 2, 509, 16, 306, 307, 510, 511, 512, 126, 127, 128, 129, 130, 704, 705, 712, 713, 714, 715, 716, 717, 718, 729, 730, 731, 732, 733] (by decide +kernel) (by decide +kernel)) (goodIn_sub (fun _ h => List.mem_append_left _ (List.mem_append_left _ (List.mem_append_right _ h))) (by decide +kernel))
set_option maxRecDepth 20000 in
theorem gL_law_L_sensors : GoodIn wsL_law (va_wsS RL 108 yL_sensors wsL_sensors) := goodIn_app (goodIn_of _ (by decide +kernel)) ggL_law_L_sensors
set_option maxRecDepth 20000 in
theorem ggL_law_X9_sensors : GoodIn wsL_law wsX9_sensors := goodIn_r _ [516, 113, 177, 178, 5, 179, 190, 191, 192, 193, 188, 517, 518, 519, 520, 706, 707, 708, 709, 710, 711] (by decide +kernel) (by decide +kernel)
set_option maxRecDepth 20000 in
theorem gL_law_X9_sensors : GoodIn wsL_law (wsV RL 110 RX9 yX9_sensors wsX9_sensors) := goodIn_app (goodIn_of _ (by decide +kernel)) ggL_law_X9_sensors
set_option maxRecDepth 20000 in
theorem ggL_law_X8_mode : GoodIn wsL_law wsX8_mode := goodIn_r _ [524, 16, 247, 249, 704, 705, 712, 713, 714, 715, 716, 717, 718, 742, 743, 744, 745, 746, 747, 748, 749] (by decide +kernel) (by decide +kernel)
set_option maxRecDepth 20000 in
theorem gL_law_X8_mode : GoodIn wsL_law (wsV RL 111 RX8 yX8_mode wsX8_mode) := goodIn_app (goodIn_of _ (by decide +kernel)) ggL_law_X8_mode
set_option maxRecDepth 20000 in
theorem ggL_law_X9_mode : GoodIn wsL_law wsX9_mode := goodIn_r _ [528, 113, 517, 518, 519, 5, 520, 188, 706, 707, 708, 709, 710, 711] (by decide +kernel) (by decide +kernel)
set_option maxRecDepth 20000 in
theorem gL_law_X9_mode : GoodIn wsL_law (wsV RL 114 RX9 yX9_mode wsX9_mode) := goodIn_app (goodIn_of _ (by decide +kernel)) ggL_law_X9_mode
set_option maxRecDepth 20000 in
theorem ggL_law_L_leg : GoodIn wsL_law wsL_leg := goodIn_ca (goodIn_r _ [531, 532, 533, 534, 535, 2, 536, 16, 537, 538, 539, 540, 541, 542, 543, 704, 705, 712, 713, 714, 715, 716, 717, 718, 750, 751, 752, 753, 754, 755] (by decide +kernel) (by decide +kernel)) (goodIn_sub (fun _ h => List.mem_append_right _ h) (by decide +kernel))
set_option maxRecDepth 20000 in
theorem gL_law_L_leg : GoodIn wsL_law (va_wsS RL 115 yL_leg wsL_leg) := goodIn_app (goodIn_of _ (by decide +kernel)) ggL_law_L_leg
set_option maxRecDepth 20000 in
theorem ggL_law_X9_leg : GoodIn wsL_law wsX9_leg := goodIn_r _ [547, 113, 177, 178, 5, 179, 517, 518, 519, 520, 188, 190, 191, 192, 193, 706, 707, 708, 709, 710, 711] (by decide +kernel) (by decide +kernel)
set_option maxRecDepth 20000 in
theorem gL_law_X9_leg : GoodIn wsL_law (wsV RL 117 RX9 yX9_leg wsX9_leg) := goodIn_app (goodIn_of _ (by decide +kernel)) ggL_law_X9_leg
set_option maxRecDepth 20000 in
theorem ggL_law_L_onTicks : GoodIn wsL_law wsL_onTicks := goodIn_ca (goodIn_r _ [550, 532, 551, 552, 553, 2, 554, 16, 537, 555, 556, 539, 540, 541, 542, 543, 704, 705, 712, 713, 714, 715, 716, 717, 718, 750, 751, 752, 753, 754, 755] (by decide +kernel) (by decide +kernel)) (goodIn_sub (fun _ h => List.mem_append_right _ h) (by decide +kernel))
set_option maxRecDepth 20000 in
theorem gL_law_L_onTicks : GoodIn wsL_law (va_wsS RL 118 yL_onTicks wsL_onTicks) := goodIn_app (goodIn_of _ (by decide +kernel)) ggL_law_L_onTicks
set_option maxRecDepth 20000 in
theorem ggL_law_X9_onTicks : GoodIn wsL_law wsX9_onTicks := goodIn_r _ [560, 113, 177, 178, 5, 179, 517, 518, 519, 520, 188, 190, 191, 192, 193, 706, 707, 708, 709, 710, 711] (by decide +kernel) (by decide +kernel)
set_option maxRecDepth 20000 in
theorem gL_law_X9_onTicks : GoodIn wsL_law (wsV RL 121 RX9 yX9_onTicks wsX9_onTicks) := goodIn_app (goodIn_of _ (by decide +kernel)) ggL_law_X9_onTicks
set_option maxRecDepth 20000 in
theorem ggL_law_X8_position : GoodIn wsL_law wsX8_position := goodIn_r _ [564, 16, 565, 566, 704, 705, 712, 713, 714, 715, 716, 717, 718, 734, 735, 736, 737, 738, 739, 740, 741] (by decide +kernel) (by decide +kernel)
set_option maxRecDepth 20000 in
theorem gL_law_X8_position : GoodIn wsL_law (wsV RL 122 RX8 yX8_position wsX8_position) := goodIn_app (goodIn_of _ (by decide +kernel)) ggL_law_X8_position
set_option maxRecDepth 20000 in
theorem ggL_law_X9_position : GoodIn wsL_law wsX9_position := goodIn_r _ [570, 113, 517, 518, 519, 5, 520, 188, 706, 707, 708, 709, 710, 711] (by decide +kernel) (by decide +kernel)
set_option maxRecDepth 20000 in
theorem gL_law_X9_position : GoodIn wsL_law (wsV RL 125 RX9 yX9_position wsX9_position) := goodIn_app (goodIn_of _ (by decide +kernel)) ggL_law_X9_position
set_option maxRecDepth 20000 in
theorem ggL_law_L_counts : GoodIn wsL_law wsL_counts := goodIn_ca (goodIn_r _ [573, 119, 574, 575, 576, 2, 577, 16, 565, 578, 579, 580, 247, 581, 126, 127, 128, 129, 130, 704, 705, 712, 713, 714, 715, 716, 717, 718, 734, 735, 736, 737, 738, 739, 740, 741, 742, 743, 744, 745, 746, 747, 748, 749] (by decide +kernel) (by decide +kernel)) (goodIn_sub (fun _ h => List.mem_append_left _ (List.mem_append_left _ (List.mem_append_right _ h))) (by decide +kernel))
set_option maxRecDepth 20000 in
theorem gL_law_L_counts : GoodIn wsL_law (va_wsS RL 126 yL_counts wsL_counts) := goodIn_app (goodIn_of _ (by decide +kernel)) ggL_law_L_counts
set_option maxRecDepth 20000 in
theorem ggL_law_X9_counts : GoodIn wsL_law wsX9_counts := goodIn_r _ [585, 113, 177, 178, 5, 179, 517, 518, 519, 520, 188, 190, 191, 192, 193, 706, 707, 708, 709, 710, 711] (by decide +kernel) (by decide +kernel)
set_option maxRecDepth 20000 in
theorem gL_law_X9_counts : GoodIn wsL_law (wsV RL 128 RX9 yX9_counts wsX9_counts) := goodIn_app (goodIn_of _ (by decide +kernel)) ggL_law_X9_counts
set_option maxRecDepth 20000 in
theorem ggL_law_L_interval : GoodIn wsL_law wsL_interval := goodIn_ca (goodIn_r _ [588, 532, 589, 590, 591, 2, 592, 542, 543, 16, 565, 593, 594, 704, 705, 712, 713, 714, 715, 716, 717, 718, 734, 735, 736, 737, 738, 739, 740, 741] (by decide +kernel) (by decide +kernel)) (goodIn_sub (fun _ h => List.mem_append_right _ h) (by decide +kernel))
set_option maxRecDepth 20000 in
theorem gL_law_L_interval : GoodIn wsL_law (va_wsS RL 129 yL_interval wsL_interval) := goodIn_app (goodIn_of _ (by decide +kernel)) ggL_law_L_interval
set_option maxRecDepth 20000 in
theorem ggL_law_X9_interval : GoodIn wsL_law wsX9_interval := goodIn_r _ [598, 113, 177, 178, 5, 179, 517, 518, 519, 520, 188, 190, 191, 192, 193, 706, 707, 708, 709, 710, 711] (by decide +kernel) (by decide +kernel)
set_option maxRecDepth 20000 in
theorem gL_law_X9_interval : GoodIn wsL_law (wsV RL 131 RX9 yX9_interval wsX9_interval) := goodIn_app (goodIn_of _ (by decide +kernel)) ggL_law_X9_interval
set_option maxRecDepth 20000 in
theorem ggL_law_X8_speed : GoodIn wsL_law wsX8_speed := goodIn_r _ [602, 16, 565, 603, 604, 605, 39, 606, 80, 79, 82, 607, 608, 704, 705, 712, 713, 714, 715, 716, 717, 718, 734, 735, 736, 737, 738, 739, 740, 741] (by decide +kernel) (by decide +kernel)
set_option maxRecDepth 20000 in
theorem gL_law_X8_speed : GoodIn wsL_law (wsV RL 132 RX8 yX8_speed wsX8_speed) := goodIn_app (goodIn_of _ (by decide +kernel)) ggL_law_X8_speed
set_option maxRecDepth 20000 in
theorem ggL_law_X9_speed : GoodIn wsL_law wsX9_speed := goodIn_r _ [612, 188, 113, 613, 614, 706, 707, 708, 709, 710, 711] (by decide +kernel) (by decide +kernel)
set_option maxRecDepth 20000 in
theorem gL_law_X9_speed : GoodIn wsL_law (wsV RL 136 RX9 yX9_speed wsX9_speed) := goodIn_app (goodIn_of _ (by decide +kernel)) ggL_law_X9_speed
set_option maxRecDepth 20000 in
theorem ggL_law_L_fault : GoodIn wsL_law wsL_fault := goodIn_ca (goodIn_r _ [617, 119, 618, 619, 620, 2, 621, 16, 247, 248, 622, 623, 126, 127, 128, 129, 130, 704, 705, 712, 713, 714, 715, 716, 717, 718, 742, 743, 744, 745, 746, 747, 748, 749] (by decide +kernel) (by decide +kernel)) (goodIn_sub (fun _ h => List.mem_append_left _ (List.mem_append_left _ (List.mem_append_right _ h))) (by decide +kernel))
set_option maxRecDepth 20000 in
theorem gL_law_L_fault : GoodIn wsL_law (va_wsS RL 137 yL_fault wsL_fault) := goodIn_app (goodIn_of _ (by decide +kernel)) ggL_law_L_fault
set_option maxRecDepth 20000 in
theorem ggL_law_X9_fault : GoodIn wsL_law wsX9_fault := goodIn_r _ [627, 113, 177, 178, 5, 179, 517, 518, 519, 520, 188, 190, 191, 192, 193, 706, 707, 708, 709, 710, 711] (by decide +kernel) (by decide +kernel)
set_option maxRecDepth 20000 in
theorem gL_law_X9_fault : GoodIn wsL_law (wsV RL 139 RX9 yX9_fault wsX9_fault) := goodIn_app (goodIn_of _ (by decide +kernel)) ggL_law_X9_fault
set_option maxRecDepth 20000 in
theorem ggL_law_X8_waiting : GoodIn wsL_law wsX8_waiting := goodIn_r _ [631, 16, 280, 282, 704, 705, 712, 713, 714, 715, 716, 717, 718, 726, 727, 728] (by decide +kernel) (by decide +kernel)
set_option maxRecDepth 20000 in
theorem gL_law_X8_waiting : GoodIn wsL_law (wsV RL 140 RX8 yX8_waiting wsX8_waiting) := goodIn_app (goodIn_of _ (by decide +kernel)) ggL_law_X8_waiting
set_option maxRecDepth 20000 in
theorem ggL_law_X9_waiting : GoodIn wsL_law wsX9_waiting := goodIn_r _ [635, 113, 517, 518, 519, 5, 520, 188, 706, 707, 708, 709, 710, 711] (by decide +kernel) (by decide +kernel)
set_option maxRecDepth 20000 in
theorem gL_law_X9_waiting : GoodIn wsL_law (wsV RL 143 RX9 yX9_waiting wsX9_waiting) := goodIn_app (goodIn_of _ (by decide +kernel)) ggL_law_X9_waiting
set_option maxRecDepth 20000 in
theorem ggL_law_L_undo : GoodIn wsL_law wsL_undo := goodIn_ca (goodIn_r _ [638, 240, 639, 640, 641, 2, 642, 245, 246, 20, 643, 16, 644, 645, 646, 19, 647, 108, 107, 139, 140, 141, 15, 142, 24, 28, 32, 36, 40, 44, 48, 143, 144, 145, 27, 146, 52, 53, 54, 55, 56, 147, 148, 149, 31, 150, 61, 151, 152, 153, 154, 62, 63, 155, 156, 157, 35, 158, 67, 68, 69, 70, 71, 159, 160, 161, 39, 162, 75, 76, 77, 78, 79, 163, 80, 81, 82, 164, 165, 166, 43, 167, 86, 87, 88, 89, 90, 91, 92, 93, 168, 169, 170, 47, 171, 97, 98, 172, 99, 100, 101, 102, 704, 705, 719, 720, 712, 713, 714, 715, 716, 717, 718, 721, 722, 723, 724, 725, 726, 727, 728, 729, 730, 731, 732, 733, 734, 735, 736, 737, 738, 739, 740, 741, 742, 743, 744, 745, 746, 747, 748, 749, 750, 751, 752, 753, 754, 755] (by decide +kernel) (by decide +kernel)) (goodIn_sub (fun _ h => List.mem_append_left _ (List.mem_append_right _ h)) (by decide +kernel))
set_option maxRecDepth 20000 in
theorem gL_law_L_undo : GoodIn wsL_law (va_wsS RL 144 yL_undo wsL_undo) := goodIn_app (goodIn_of _ (by decide +kernel)) ggL_law_L_undo
set_option maxRecDepth 20000 in
theorem ggL_law_X9_undo : GoodIn wsL_law wsX9_undo := goodIn_r _ [651, 189, 113, 114, 190, 191, 192, 5, 193, 188, 517, 518, 519, 520, 706, 707, 708, 709, 710, 711] (by decide +kernel) (by decide +kernel)
set_option maxRecDepth 20000 in
theorem gL_law_X9_undo : GoodIn wsL_law (wsV RL 146 RX9 yX9_undo wsX9_undo) := goodIn_app (goodIn_of _ (by decide +kernel)) ggL_law_X9_undo
set_option maxRecDepth 20000 in
theorem ggL_law_X8_digest : GoodIn wsL_law wsX8_digest := goodIn_r _ [655, 656, 16, 281, 124, 247, 249, 306, 537, 565, 581, 280, 20, 643, 657, 658, 2, 659, 660, 661, 662, 663, 27, 664, 52, 53, 54, 55, 56, 665, 666, 667, 35, 668, 67, 68, 69, 71, 669, 670, 671, 47, 672, 97, 98, 99, 100, 673, 674, 675, 39, 676, 75, 76, 77, 78, 677, 678, 679, 680, 80, 79, 681, 682, 683, 43, 684, 87, 88, 89, 685, 686, 687, 688, 91, 92, 93, 689, 690, 691, 31, 692, 63, 61, 62, 704, 705, 712, 713, 714, 715, 716, 717, 718, 742, 743, 744, 745, 746, 747, 748, 749, 719, 720, 721, 722, 723, 724, 725, 729, 730, 731, 732, 733, 750, 751, 752, 753, 754, 755, 734, 735, 736, 737, 738, 739, 740, 741, 726, 727, 728] (by decide +kernel) (by decide +kernel)
set_option maxRecDepth 20000 in
theorem gL_law_X8_digest : GoodIn wsL_law (wsV RL 147 RX8 yX8_digest wsX8_digest) := goodIn_app (goodIn_of _ (by decide +kernel)) ggL_law_X8_digest
set_option maxRecDepth 20000 in
theorem ggL_law_X9_digest : GoodIn wsL_law wsX9_digest := goodIn_r _ [696, 188, 697, 698, 113, 699, 189, 700, 701, 702, 5, 703, 706, 707, 708, 709, 710, 711] (by decide +kernel) (by decide +kernel)
set_option maxRecDepth 20000 in
theorem gL_law_X9_digest : GoodIn wsL_law (wsV RL 151 RX9 yX9_digest wsX9_digest) := goodIn_app (goodIn_of _ (by decide +kernel)) ggL_law_X9_digest
theorem dL_law_0 : decode cL_law 0 = .ok (.new 8, 3) := by decide +kernel
theorem dL_law_3 : decode cL_law 3 = .ok (.dup, 1) := by decide +kernel
theorem dL_law_4 : decode cL_law 4 = .ok (.invokespecial 68, 3) := by decide +kernel
theorem dL_law_7 : decode cL_law 7 = .ok (.astore_n 1, 1) := by decide +kernel
theorem dL_law_8 : decode cL_law 8 = .ok (.new 69, 3) := by decide +kernel
theorem dL_law_11 : decode cL_law 11 = .ok (.dup, 1) := by decide +kernel
theorem dL_law_12 : decode cL_law 12 = .ok (.invokespecial 71, 3) := by decide +kernel
theorem dL_law_15 : decode cL_law 15 = .ok (.astore_n 2, 1) := by decide +kernel
theorem dL_law_16 : decode cL_law 16 = .ok (.iconst 1, 1) := by decide +kernel
theorem dL_law_17 : decode cL_law 17 = .ok (.newarray .long, 2) := by decide +kernel
theorem dL_law_19 : decode cL_law 19 = .ok (.astore_n 3, 1) := by decide +kernel
theorem dL_law_20 : decode cL_law 20 = .ok (.iconst 0, 1) := by decide +kernel
theorem dL_law_21 : decode cL_law 21 = .ok (.istore 4, 2) := by decide +kernel
theorem dL_law_23 : decode cL_law 23 = .ok (.iload 4, 2) := by decide +kernel
theorem dL_law_25 : decode cL_law 25 = .ok (.aload_n 0, 1) := by decide +kernel
theorem dL_law_26 : decode cL_law 26 = .ok (.arraylength, 1) := by decide +kernel
theorem dL_law_27 : decode cL_law 27 = .ok (.iconst 4, 1) := by decide +kernel
theorem dL_law_28 : decode cL_law 28 = .ok (.isub, 1) := by decide +kernel
theorem dL_law_29 : decode cL_law 29 = .ok (.if_icmp .gt 1155, 3) := by decide +kernel
theorem dL_law_32 : decode cL_law 32 = .ok (.aload_n 0, 1) := by decide +kernel
theorem dL_law_33 : decode cL_law 33 = .ok (.iload 4, 2) := by decide +kernel
theorem dL_law_35 : decode cL_law 35 = .ok (.iaload, 1) := by decide +kernel
theorem dL_law_36 : decode cL_law 36 = .ok (.bipush 31, 2) := by decide +kernel
theorem dL_law_38 : decode cL_law 38 = .ok (.iand, 1) := by decide +kernel
theorem dL_law_39 : decode cL_law 39 = .ok (.tableswitch 1139 0 20 #[97, 153, 221, 277, 333, 389, 433, 501, 581, 637, 693, 706, 762, 846, 859, 915, 971, 1012, 1068, 1081, 1125], 97) := by decide +kernel
theorem dL_law_136 : decode cL_law 136 = .ok (.aload_n 1, 1) := by decide +kernel
theorem dL_law_137 : decode cL_law 137 = .ok (.aload_n 0, 1) := by decide +kernel
theorem dL_law_138 : decode cL_law 138 = .ok (.iload 4, 2) := by decide +kernel
theorem dL_law_140 : decode cL_law 140 = .ok (.iconst 1, 1) := by decide +kernel
theorem dL_law_141 : decode cL_law 141 = .ok (.iadd, 1) := by decide +kernel
theorem dL_law_142 : decode cL_law 142 = .ok (.iaload, 1) := by decide +kernel
theorem dL_law_143 : decode cL_law 143 = .ok (.aload_n 3, 1) := by decide +kernel
theorem dL_law_144 : decode cL_law 144 = .ok (.invokestatic 72, 3) := by decide +kernel
theorem dL_law_147 : decode cL_law 147 = .ok (.istore 5, 2) := by decide +kernel
theorem dL_law_149 : decode cL_law 149 = .ok (.aload_n 2, 1) := by decide +kernel
theorem dL_law_150 : decode cL_law 150 = .ok (.aload_n 0, 1) := by decide +kernel
theorem dL_law_151 : decode cL_law 151 = .ok (.iload 4, 2) := by decide +kernel
theorem dL_law_153 : decode cL_law 153 = .ok (.iconst 1, 1) := by decide +kernel
theorem dL_law_154 : decode cL_law 154 = .ok (.iadd, 1) := by decide +kernel
theorem dL_law_155 : decode cL_law 155 = .ok (.iaload, 1) := by decide +kernel
theorem dL_law_156 : decode cL_law 156 = .ok (.invokevirtual 77, 3) := by decide +kernel
theorem dL_law_159 : decode cL_law 159 = .ok (.istore 6, 2) := by decide +kernel
theorem dL_law_161 : decode cL_law 161 = .ok (.aload_n 2, 1) := by decide +kernel
theorem dL_law_162 : decode cL_law 162 = .ok (.invokevirtual 78, 3) := by decide +kernel
theorem dL_law_165 : decode cL_law 165 = .ok (.iload 5, 2) := by decide +kernel
theorem dL_law_167 : decode cL_law 167 = .ok (.if_icmp .eq 5, 3) := by decide +kernel
theorem dL_law_170 : decode cL_law 170 = .ok (.iconst 0, 1) := by decide +kernel
theorem dL_law_171 : decode cL_law 171 = .ok (.ireturn, 1) := by decide +kernel
theorem dL_law_172 : decode cL_law 172 = .ok (.iload 5, 2) := by decide +kernel
theorem dL_law_174 : decode cL_law 174 = .ok (.ifCond .ne 15, 3) := by decide +kernel
theorem dL_law_177 : decode cL_law 177 = .ok (.aload_n 3, 1) := by decide +kernel
