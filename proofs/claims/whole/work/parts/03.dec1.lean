theorem dX3_estimateSpeed_31 : decode cX3_estimateSpeed 31 = .ok (.ifCond .gt 5, 3) := by decide +kernel
theorem dX3_estimateSpeed_34 : decode cX3_estimateSpeed 34 = .ok (.dconst 0, 1) := by decide +kernel
theorem dX3_estimateSpeed_35 : decode cX3_estimateSpeed 35 = .ok (.dreturn, 1) := by decide +kernel
theorem dX3_estimateSpeed_36 : decode cX3_estimateSpeed 36 = .ok (.aload_n 0, 1) := by decide +kernel
theorem dX3_estimateSpeed_37 : decode cX3_estimateSpeed 37 = .ok (.getfield 34, 3) := by decide +kernel
theorem dX3_estimateSpeed_40 : decode cX3_estimateSpeed 40 = .ok (.i2d, 1) := by decide +kernel
theorem dX3_estimateSpeed_41 : decode cX3_estimateSpeed 41 = .ok (.ldc2_w 50, 3) := by decide +kernel
theorem dX3_estimateSpeed_44 : decode cX3_estimateSpeed 44 = .ok (.aload_n 0, 1) := by decide +kernel
theorem dX3_estimateSpeed_45 : decode cX3_estimateSpeed 45 = .ok (.getfield 28, 3) := by decide +kernel
theorem dX3_estimateSpeed_48 : decode cX3_estimateSpeed 48 = .ok (.i2d, 1) := by decide +kernel
theorem dX3_estimateSpeed_49 : decode cX3_estimateSpeed 49 = .ok (.dmul, 1) := by decide +kernel
theorem dX3_estimateSpeed_50 : decode cX3_estimateSpeed 50 = .ok (.dmul, 1) := by decide +kernel
theorem dX3_estimateSpeed_51 : decode cX3_estimateSpeed 51 = .ok (.ldc2_w 52, 3) := by decide +kernel
theorem dX3_estimateSpeed_54 : decode cX3_estimateSpeed 54 = .ok (.lload_n 1, 1) := by decide +kernel
theorem dX3_estimateSpeed_55 : decode cX3_estimateSpeed 55 = .ok (.l2d, 1) := by decide +kernel
theorem dX3_estimateSpeed_56 : decode cX3_estimateSpeed 56 = .ok (.dmul, 1) := by decide +kernel
theorem dX3_estimateSpeed_57 : decode cX3_estimateSpeed 57 = .ok (.ddiv, 1) := by decide +kernel
theorem dX3_estimateSpeed_58 : decode cX3_estimateSpeed 58 = .ok (.dreturn, 1) := by decide +kernel
set_option maxRecDepth 20000 in
theorem ggX3_mixCountsInto_X8_mix : GoodIn wsX3_mixCountsInto wsX8_mix := goodIn_r _ [7, 8] (by decide +kernel) (by decide +kernel)
set_option maxRecDepth 20000 in
theorem gX3_mixCountsInto_X8_mix_n54 : GoodIn wsX3_mixCountsInto (wsX8_mix) := ggX3_mixCountsInto_X8_mix
theorem dX3_mixCountsInto_0 : decode cX3_mixCountsInto 0 = .ok (.lload_n 1, 1) := by decide +kernel
theorem dX3_mixCountsInto_1 : decode cX3_mixCountsInto 1 = .ok (.aload_n 0, 1) := by decide +kernel
theorem dX3_mixCountsInto_2 : decode cX3_mixCountsInto 2 = .ok (.getfield 9, 3) := by decide +kernel
theorem dX3_mixCountsInto_5 : decode cX3_mixCountsInto 5 = .ok (.invokestatic 54, 3) := by decide +kernel
theorem dX3_mixCountsInto_8 : decode cX3_mixCountsInto 8 = .ok (.lstore_n 3, 1) := by decide +kernel
theorem dX3_mixCountsInto_9 : decode cX3_mixCountsInto 9 = .ok (.lload_n 3, 1) := by decide +kernel
theorem dX3_mixCountsInto_10 : decode cX3_mixCountsInto 10 = .ok (.aload_n 0, 1) := by decide +kernel
theorem dX3_mixCountsInto_11 : decode cX3_mixCountsInto 11 = .ok (.getfield 15, 3) := by decide +kernel
theorem dX3_mixCountsInto_14 : decode cX3_mixCountsInto 14 = .ok (.invokestatic 54, 3) := by decide +kernel
theorem dX3_mixCountsInto_17 : decode cX3_mixCountsInto 17 = .ok (.lstore_n 3, 1) := by decide +kernel
theorem dX3_mixCountsInto_18 : decode cX3_mixCountsInto 18 = .ok (.lload_n 3, 1) := by decide +kernel
theorem dX3_mixCountsInto_19 : decode cX3_mixCountsInto 19 = .ok (.aload_n 0, 1) := by decide +kernel
theorem dX3_mixCountsInto_20 : decode cX3_mixCountsInto 20 = .ok (.getfield 18, 3) := by decide +kernel
theorem dX3_mixCountsInto_23 : decode cX3_mixCountsInto 23 = .ok (.invokestatic 54, 3) := by decide +kernel
theorem dX3_mixCountsInto_26 : decode cX3_mixCountsInto 26 = .ok (.lstore_n 3, 1) := by decide +kernel
theorem dX3_mixCountsInto_27 : decode cX3_mixCountsInto 27 = .ok (.lload_n 3, 1) := by decide +kernel
theorem dX3_mixCountsInto_28 : decode cX3_mixCountsInto 28 = .ok (.aload_n 0, 1) := by decide +kernel
theorem dX3_mixCountsInto_29 : decode cX3_mixCountsInto 29 = .ok (.getfield 21, 3) := by decide +kernel
theorem dX3_mixCountsInto_32 : decode cX3_mixCountsInto 32 = .ok (.invokestatic 54, 3) := by decide +kernel
theorem dX3_mixCountsInto_35 : decode cX3_mixCountsInto 35 = .ok (.lreturn, 1) := by decide +kernel
set_option maxRecDepth 20000 in
theorem ggX3_mixIntervalsInto_X8_mix : GoodIn wsX3_mixIntervalsInto wsX8_mix := goodIn_r _ [5, 6] (by decide +kernel) (by decide +kernel)
set_option maxRecDepth 20000 in
theorem gX3_mixIntervalsInto_X8_mix_n54 : GoodIn wsX3_mixIntervalsInto (wsX8_mix) := ggX3_mixIntervalsInto_X8_mix
theorem dX3_mixIntervalsInto_0 : decode cX3_mixIntervalsInto 0 = .ok (.lload_n 1, 1) := by decide +kernel
theorem dX3_mixIntervalsInto_1 : decode cX3_mixIntervalsInto 1 = .ok (.aload_n 0, 1) := by decide +kernel
theorem dX3_mixIntervalsInto_2 : decode cX3_mixIntervalsInto 2 = .ok (.getfield 28, 3) := by decide +kernel
theorem dX3_mixIntervalsInto_5 : decode cX3_mixIntervalsInto 5 = .ok (.invokestatic 54, 3) := by decide +kernel
theorem dX3_mixIntervalsInto_8 : decode cX3_mixIntervalsInto 8 = .ok (.lstore_n 3, 1) := by decide +kernel
theorem dX3_mixIntervalsInto_9 : decode cX3_mixIntervalsInto 9 = .ok (.iconst 0, 1) := by decide +kernel
theorem dX3_mixIntervalsInto_10 : decode cX3_mixIntervalsInto 10 = .ok (.istore 5, 2) := by decide +kernel
theorem dX3_mixIntervalsInto_12 : decode cX3_mixIntervalsInto 12 = .ok (.iload 5, 2) := by decide +kernel
theorem dX3_mixIntervalsInto_14 : decode cX3_mixIntervalsInto 14 = .ok (.aload_n 0, 1) := by decide +kernel
theorem dX3_mixIntervalsInto_15 : decode cX3_mixIntervalsInto 15 = .ok (.getfield 28, 3) := by decide +kernel
theorem dX3_mixIntervalsInto_18 : decode cX3_mixIntervalsInto 18 = .ok (.if_icmp .ge 21, 3) := by decide +kernel
theorem dX3_mixIntervalsInto_21 : decode cX3_mixIntervalsInto 21 = .ok (.lload_n 3, 1) := by decide +kernel
theorem dX3_mixIntervalsInto_22 : decode cX3_mixIntervalsInto 22 = .ok (.aload_n 0, 1) := by decide +kernel
theorem dX3_mixIntervalsInto_23 : decode cX3_mixIntervalsInto 23 = .ok (.getfield 24, 3) := by decide +kernel
theorem dX3_mixIntervalsInto_26 : decode cX3_mixIntervalsInto 26 = .ok (.iload 5, 2) := by decide +kernel
theorem dX3_mixIntervalsInto_28 : decode cX3_mixIntervalsInto 28 = .ok (.iaload, 1) := by decide +kernel
theorem dX3_mixIntervalsInto_29 : decode cX3_mixIntervalsInto 29 = .ok (.invokestatic 54, 3) := by decide +kernel
theorem dX3_mixIntervalsInto_32 : decode cX3_mixIntervalsInto 32 = .ok (.lstore_n 3, 1) := by decide +kernel
theorem dX3_mixIntervalsInto_33 : decode cX3_mixIntervalsInto 33 = .ok (.iinc 5 1, 3) := by decide +kernel
theorem dX3_mixIntervalsInto_36 : decode cX3_mixIntervalsInto 36 = .ok (.goto (-24), 3) := by decide +kernel
theorem dX3_mixIntervalsInto_39 : decode cX3_mixIntervalsInto 39 = .ok (.lload_n 3, 1) := by decide +kernel
theorem dX3_mixIntervalsInto_40 : decode cX3_mixIntervalsInto 40 = .ok (.lreturn, 1) := by decide +kernel
theorem dX4_init_0 : decode cX4_init 0 = .ok (.aload_n 0, 1) := by decide +kernel
theorem dX4_init_1 : decode cX4_init 1 = .ok (.invokespecial 3, 3) := by decide +kernel
theorem dX4_init_4 : decode cX4_init 4 = .ok (.aload_n 0, 1) := by decide +kernel
theorem dX4_init_5 : decode cX4_init 5 = .ok (.bipush 40, 2) := by decide +kernel
theorem dX4_init_7 : decode cX4_init 7 = .ok (.newarray .int, 2) := by decide +kernel
theorem dX4_init_9 : decode cX4_init 9 = .ok (.putfield 9, 3) := by decide +kernel
theorem dX4_init_12 : decode cX4_init 12 = .ok (.aload_n 0, 1) := by decide +kernel
theorem dX4_init_13 : decode cX4_init 13 = .ok (.bipush 40, 2) := by decide +kernel
theorem dX4_init_15 : decode cX4_init 15 = .ok (.newarray .int, 2) := by decide +kernel
theorem dX4_init_17 : decode cX4_init 17 = .ok (.putfield 15, 3) := by decide +kernel
theorem dX4_init_20 : decode cX4_init 20 = .ok (.aload_n 0, 1) := by decide +kernel
theorem dX4_init_21 : decode cX4_init 21 = .ok (.iconst 0, 1) := by decide +kernel
theorem dX4_init_22 : decode cX4_init 22 = .ok (.putfield 18, 3) := by decide +kernel
theorem dX4_init_25 : decode cX4_init 25 = .ok (.return_, 1) := by decide +kernel
theorem dX4_copyFrom_0 : decode cX4_copyFrom 0 = .ok (.aload_n 1, 1) := by decide +kernel
theorem dX4_copyFrom_1 : decode cX4_copyFrom 1 = .ok (.getfield 9, 3) := by decide +kernel
theorem dX4_copyFrom_4 : decode cX4_copyFrom 4 = .ok (.iconst 0, 1) := by decide +kernel
theorem dX4_copyFrom_5 : decode cX4_copyFrom 5 = .ok (.aload_n 0, 1) := by decide +kernel
theorem dX4_copyFrom_6 : decode cX4_copyFrom 6 = .ok (.getfield 9, 3) := by decide +kernel
theorem dX4_copyFrom_9 : decode cX4_copyFrom 9 = .ok (.iconst 0, 1) := by decide +kernel
theorem dX4_copyFrom_10 : decode cX4_copyFrom 10 = .ok (.bipush 40, 2) := by decide +kernel
theorem dX4_copyFrom_12 : decode cX4_copyFrom 12 = .ok (.invokestatic 22, 3) := by decide +kernel
theorem dX4_copyFrom_15 : decode cX4_copyFrom 15 = .ok (.aload_n 1, 1) := by decide +kernel
theorem dX4_copyFrom_16 : decode cX4_copyFrom 16 = .ok (.getfield 15, 3) := by decide +kernel
theorem dX4_copyFrom_19 : decode cX4_copyFrom 19 = .ok (.iconst 0, 1) := by decide +kernel
theorem dX4_copyFrom_20 : decode cX4_copyFrom 20 = .ok (.aload_n 0, 1) := by decide +kernel
theorem dX4_copyFrom_21 : decode cX4_copyFrom 21 = .ok (.getfield 15, 3) := by decide +kernel
theorem dX4_copyFrom_24 : decode cX4_copyFrom 24 = .ok (.iconst 0, 1) := by decide +kernel
theorem dX4_copyFrom_25 : decode cX4_copyFrom 25 = .ok (.bipush 40, 2) := by decide +kernel
theorem dX4_copyFrom_27 : decode cX4_copyFrom 27 = .ok (.invokestatic 22, 3) := by decide +kernel
theorem dX4_copyFrom_30 : decode cX4_copyFrom 30 = .ok (.aload_n 0, 1) := by decide +kernel
theorem dX4_copyFrom_31 : decode cX4_copyFrom 31 = .ok (.aload_n 1, 1) := by decide +kernel
theorem dX4_copyFrom_32 : decode cX4_copyFrom 32 = .ok (.getfield 18, 3) := by decide +kernel
theorem dX4_copyFrom_35 : decode cX4_copyFrom 35 = .ok (.putfield 18, 3) := by decide +kernel
theorem dX4_copyFrom_38 : decode cX4_copyFrom 38 = .ok (.return_, 1) := by decide +kernel
theorem dX4_insert_0 : decode cX4_insert 0 = .ok (.aload_n 0, 1) := by decide +kernel
theorem dX4_insert_1 : decode cX4_insert 1 = .ok (.getfield 18, 3) := by decide +kernel
theorem dX4_insert_4 : decode cX4_insert 4 = .ok (.ifCond .lt 12, 3) := by decide +kernel
theorem dX4_insert_7 : decode cX4_insert 7 = .ok (.aload_n 0, 1) := by decide +kernel
theorem dX4_insert_8 : decode cX4_insert 8 = .ok (.getfield 18, 3) := by decide +kernel
theorem dX4_insert_11 : decode cX4_insert 11 = .ok (.bipush 40, 2) := by decide +kernel
theorem dX4_insert_13 : decode cX4_insert 13 = .ok (.if_icmp .lt 4, 3) := by decide +kernel
theorem dX4_insert_16 : decode cX4_insert 16 = .ok (.return_, 1) := by decide +kernel
theorem dX4_insert_17 : decode cX4_insert 17 = .ok (.aload_n 0, 1) := by decide +kernel
theorem dX4_insert_18 : decode cX4_insert 18 = .ok (.getfield 18, 3) := by decide +kernel
theorem dX4_insert_21 : decode cX4_insert 21 = .ok (.istore_n 3, 1) := by decide +kernel
theorem dX4_insert_22 : decode cX4_insert 22 = .ok (.iload_n 3, 1) := by decide +kernel
theorem dX4_insert_23 : decode cX4_insert 23 = .ok (.ifCond .le 49, 3) := by decide +kernel
theorem dX4_insert_26 : decode cX4_insert 26 = .ok (.aload_n 0, 1) := by decide +kernel
theorem dX4_insert_27 : decode cX4_insert 27 = .ok (.getfield 9, 3) := by decide +kernel
theorem dX4_insert_30 : decode cX4_insert 30 = .ok (.iload_n 3, 1) := by decide +kernel
theorem dX4_insert_31 : decode cX4_insert 31 = .ok (.iconst 1, 1) := by decide +kernel
theorem dX4_insert_32 : decode cX4_insert 32 = .ok (.isub, 1) := by decide +kernel
theorem dX4_insert_33 : decode cX4_insert 33 = .ok (.iaload, 1) := by decide +kernel
theorem dX4_insert_34 : decode cX4_insert 34 = .ok (.iload_n 1, 1) := by decide +kernel
theorem dX4_insert_35 : decode cX4_insert 35 = .ok (.if_icmp .le 37, 3) := by decide +kernel
theorem dX4_insert_38 : decode cX4_insert 38 = .ok (.aload_n 0, 1) := by decide +kernel
theorem dX4_insert_39 : decode cX4_insert 39 = .ok (.getfield 9, 3) := by decide +kernel
theorem dX4_insert_42 : decode cX4_insert 42 = .ok (.iload_n 3, 1) := by decide +kernel
theorem dX4_insert_43 : decode cX4_insert 43 = .ok (.aload_n 0, 1) := by decide +kernel
theorem dX4_insert_44 : decode cX4_insert 44 = .ok (.getfield 9, 3) := by decide +kernel
theorem dX4_insert_47 : decode cX4_insert 47 = .ok (.iload_n 3, 1) := by decide +kernel
theorem dX4_insert_48 : decode cX4_insert 48 = .ok (.iconst 1, 1) := by decide +kernel
theorem dX4_insert_49 : decode cX4_insert 49 = .ok (.isub, 1) := by decide +kernel
theorem dX4_insert_50 : decode cX4_insert 50 = .ok (.iaload, 1) := by decide +kernel
theorem dX4_insert_51 : decode cX4_insert 51 = .ok (.iastore, 1) := by decide +kernel
theorem dX4_insert_52 : decode cX4_insert 52 = .ok (.aload_n 0, 1) := by decide +kernel
theorem dX4_insert_53 : decode cX4_insert 53 = .ok (.getfield 15, 3) := by decide +kernel
theorem dX4_insert_56 : decode cX4_insert 56 = .ok (.iload_n 3, 1) := by decide +kernel
theorem dX4_insert_57 : decode cX4_insert 57 = .ok (.aload_n 0, 1) := by decide +kernel
theorem dX4_insert_58 : decode cX4_insert 58 = .ok (.getfield 15, 3) := by decide +kernel
theorem dX4_insert_61 : decode cX4_insert 61 = .ok (.iload_n 3, 1) := by decide +kernel
theorem dX4_insert_62 : decode cX4_insert 62 = .ok (.iconst 1, 1) := by decide +kernel
theorem dX4_insert_63 : decode cX4_insert 63 = .ok (.isub, 1) := by decide +kernel
theorem dX4_insert_64 : decode cX4_insert 64 = .ok (.iaload, 1) := by decide +kernel
theorem dX4_insert_65 : decode cX4_insert 65 = .ok (.iastore, 1) := by decide +kernel
theorem dX4_insert_66 : decode cX4_insert 66 = .ok (.iinc 3 (-1), 3) := by decide +kernel
theorem dX4_insert_69 : decode cX4_insert 69 = .ok (.goto (-47), 3) := by decide +kernel
theorem dX4_insert_72 : decode cX4_insert 72 = .ok (.aload_n 0, 1) := by decide +kernel
theorem dX4_insert_73 : decode cX4_insert 73 = .ok (.getfield 9, 3) := by decide +kernel
theorem dX4_insert_76 : decode cX4_insert 76 = .ok (.iload_n 3, 1) := by decide +kernel
theorem dX4_insert_77 : decode cX4_insert 77 = .ok (.iload_n 1, 1) := by decide +kernel
theorem dX4_insert_78 : decode cX4_insert 78 = .ok (.iastore, 1) := by decide +kernel
theorem dX4_insert_79 : decode cX4_insert 79 = .ok (.aload_n 0, 1) := by decide +kernel
theorem dX4_insert_80 : decode cX4_insert 80 = .ok (.getfield 15, 3) := by decide +kernel
theorem dX4_insert_83 : decode cX4_insert 83 = .ok (.iload_n 3, 1) := by decide +kernel
theorem dX4_insert_84 : decode cX4_insert 84 = .ok (.iload_n 2, 1) := by decide +kernel
theorem dX4_insert_85 : decode cX4_insert 85 = .ok (.iastore, 1) := by decide +kernel
theorem dX4_insert_86 : decode cX4_insert 86 = .ok (.aload_n 0, 1) := by decide +kernel
theorem dX4_insert_87 : decode cX4_insert 87 = .ok (.dup, 1) := by decide +kernel
theorem dX4_insert_88 : decode cX4_insert 88 = .ok (.getfield 18, 3) := by decide +kernel
theorem dX4_insert_91 : decode cX4_insert 91 = .ok (.iconst 1, 1) := by decide +kernel
theorem dX4_insert_92 : decode cX4_insert 92 = .ok (.iadd, 1) := by decide +kernel
theorem dX4_insert_93 : decode cX4_insert 93 = .ok (.putfield 18, 3) := by decide +kernel
theorem dX4_insert_96 : decode cX4_insert 96 = .ok (.return_, 1) := by decide +kernel
theorem dX4_lastCode_0 : decode cX4_lastCode 0 = .ok (.aload_n 0, 1) := by decide +kernel
theorem dX4_lastCode_1 : decode cX4_lastCode 1 = .ok (.getfield 18, 3) := by decide +kernel
theorem dX4_lastCode_4 : decode cX4_lastCode 4 = .ok (.ifCond .le 17, 3) := by decide +kernel
theorem dX4_lastCode_7 : decode cX4_lastCode 7 = .ok (.aload_n 0, 1) := by decide +kernel
theorem dX4_lastCode_8 : decode cX4_lastCode 8 = .ok (.getfield 15, 3) := by decide +kernel
theorem dX4_lastCode_11 : decode cX4_lastCode 11 = .ok (.aload_n 0, 1) := by decide +kernel
theorem dX4_lastCode_12 : decode cX4_lastCode 12 = .ok (.getfield 18, 3) := by decide +kernel
theorem dX4_lastCode_15 : decode cX4_lastCode 15 = .ok (.iconst 1, 1) := by decide +kernel
theorem dX4_lastCode_16 : decode cX4_lastCode 16 = .ok (.isub, 1) := by decide +kernel
theorem dX4_lastCode_17 : decode cX4_lastCode 17 = .ok (.iaload, 1) := by decide +kernel
theorem dX4_lastCode_18 : decode cX4_lastCode 18 = .ok (.goto 4, 3) := by decide +kernel
theorem dX4_lastCode_21 : decode cX4_lastCode 21 = .ok (.iload_n 1, 1) := by decide +kernel
theorem dX4_lastCode_22 : decode cX4_lastCode 22 = .ok (.ireturn, 1) := by decide +kernel
theorem dX4_lastTick_0 : decode cX4_lastTick 0 = .ok (.aload_n 0, 1) := by decide +kernel
theorem dX4_lastTick_1 : decode cX4_lastTick 1 = .ok (.getfield 18, 3) := by decide +kernel
theorem dX4_lastTick_4 : decode cX4_lastTick 4 = .ok (.ifCond .le 17, 3) := by decide +kernel
theorem dX4_lastTick_7 : decode cX4_lastTick 7 = .ok (.aload_n 0, 1) := by decide +kernel
theorem dX4_lastTick_8 : decode cX4_lastTick 8 = .ok (.getfield 9, 3) := by decide +kernel
theorem dX4_lastTick_11 : decode cX4_lastTick 11 = .ok (.aload_n 0, 1) := by decide +kernel
theorem dX4_lastTick_12 : decode cX4_lastTick 12 = .ok (.getfield 18, 3) := by decide +kernel
theorem dX4_lastTick_15 : decode cX4_lastTick 15 = .ok (.iconst 1, 1) := by decide +kernel
theorem dX4_lastTick_16 : decode cX4_lastTick 16 = .ok (.isub, 1) := by decide +kernel
theorem dX4_lastTick_17 : decode cX4_lastTick 17 = .ok (.iaload, 1) := by decide +kernel
theorem dX4_lastTick_18 : decode cX4_lastTick 18 = .ok (.goto 4, 3) := by decide +kernel
theorem dX4_lastTick_21 : decode cX4_lastTick 21 = .ok (.iload_n 1, 1) := by decide +kernel
theorem dX4_lastTick_22 : decode cX4_lastTick 22 = .ok (.ireturn, 1) := by decide +kernel
theorem dX4_takeDue_0 : decode cX4_takeDue 0 = .ok (.iconst 0, 1) := by decide +kernel
theorem dX4_takeDue_1 : decode cX4_takeDue 1 = .ok (.istore_n 3, 1) := by decide +kernel
theorem dX4_takeDue_2 : decode cX4_takeDue 2 = .ok (.iload_n 3, 1) := by decide +kernel
theorem dX4_takeDue_3 : decode cX4_takeDue 3 = .ok (.aload_n 0, 1) := by decide +kernel
theorem dX4_takeDue_4 : decode cX4_takeDue 4 = .ok (.getfield 18, 3) := by decide +kernel
theorem dX4_takeDue_7 : decode cX4_takeDue 7 = .ok (.if_icmp .ge 19, 3) := by decide +kernel
theorem dX4_takeDue_10 : decode cX4_takeDue 10 = .ok (.aload_n 0, 1) := by decide +kernel
theorem dX4_takeDue_11 : decode cX4_takeDue 11 = .ok (.getfield 9, 3) := by decide +kernel
theorem dX4_takeDue_14 : decode cX4_takeDue 14 = .ok (.iload_n 3, 1) := by decide +kernel
theorem dX4_takeDue_15 : decode cX4_takeDue 15 = .ok (.iaload, 1) := by decide +kernel
theorem dX4_takeDue_16 : decode cX4_takeDue 16 = .ok (.iload_n 1, 1) := by decide +kernel
theorem dX4_takeDue_17 : decode cX4_takeDue 17 = .ok (.if_icmp .gt 9, 3) := by decide +kernel
theorem dX4_takeDue_20 : decode cX4_takeDue 20 = .ok (.iinc 3 1, 3) := by decide +kernel
theorem dX4_takeDue_23 : decode cX4_takeDue 23 = .ok (.goto (-21), 3) := by decide +kernel
theorem dX4_takeDue_26 : decode cX4_takeDue 26 = .ok (.iload_n 3, 1) := by decide +kernel
theorem dX4_takeDue_27 : decode cX4_takeDue 27 = .ok (.ifCond .ne 5, 3) := by decide +kernel
theorem dX4_takeDue_30 : decode cX4_takeDue 30 = .ok (.iload_n 2, 1) := by decide +kernel
theorem dX4_takeDue_31 : decode cX4_takeDue 31 = .ok (.ireturn, 1) := by decide +kernel
theorem dX4_takeDue_32 : decode cX4_takeDue 32 = .ok (.aload_n 0, 1) := by decide +kernel
theorem dX4_takeDue_33 : decode cX4_takeDue 33 = .ok (.getfield 15, 3) := by decide +kernel
theorem dX4_takeDue_36 : decode cX4_takeDue 36 = .ok (.iload_n 3, 1) := by decide +kernel
theorem dX4_takeDue_37 : decode cX4_takeDue 37 = .ok (.iconst 1, 1) := by decide +kernel
theorem dX4_takeDue_38 : decode cX4_takeDue 38 = .ok (.isub, 1) := by decide +kernel
theorem dX4_takeDue_39 : decode cX4_takeDue 39 = .ok (.iaload, 1) := by decide +kernel
theorem dX4_takeDue_40 : decode cX4_takeDue 40 = .ok (.istore 4, 2) := by decide +kernel
theorem dX4_takeDue_42 : decode cX4_takeDue 42 = .ok (.iload_n 3, 1) := by decide +kernel
theorem dX4_takeDue_43 : decode cX4_takeDue 43 = .ok (.istore 5, 2) := by decide +kernel
theorem dX4_takeDue_45 : decode cX4_takeDue 45 = .ok (.iload 5, 2) := by decide +kernel
theorem dX4_takeDue_47 : decode cX4_takeDue 47 = .ok (.aload_n 0, 1) := by decide +kernel
theorem dX4_takeDue_48 : decode cX4_takeDue 48 = .ok (.getfield 18, 3) := by decide +kernel
theorem dX4_takeDue_51 : decode cX4_takeDue 51 = .ok (.if_icmp .ge 41, 3) := by decide +kernel
theorem dX4_takeDue_54 : decode cX4_takeDue 54 = .ok (.aload_n 0, 1) := by decide +kernel
theorem dX4_takeDue_55 : decode cX4_takeDue 55 = .ok (.getfield 9, 3) := by decide +kernel
theorem dX4_takeDue_58 : decode cX4_takeDue 58 = .ok (.iload 5, 2) := by decide +kernel
theorem dX4_takeDue_60 : decode cX4_takeDue 60 = .ok (.iload_n 3, 1) := by decide +kernel
theorem dX4_takeDue_61 : decode cX4_takeDue 61 = .ok (.isub, 1) := by decide +kernel
theorem dX4_takeDue_62 : decode cX4_takeDue 62 = .ok (.aload_n 0, 1) := by decide +kernel
theorem dX4_takeDue_63 : decode cX4_takeDue 63 = .ok (.getfield 9, 3) := by decide +kernel
theorem dX4_takeDue_66 : decode cX4_takeDue 66 = .ok (.iload 5, 2) := by decide +kernel
theorem dX4_takeDue_68 : decode cX4_takeDue 68 = .ok (.iaload, 1) := by decide +kernel
theorem dX4_takeDue_69 : decode cX4_takeDue 69 = .ok (.iastore, 1) := by decide +kernel
theorem dX4_takeDue_70 : decode cX4_takeDue 70 = .ok (.aload_n 0, 1) := by decide +kernel
theorem dX4_takeDue_71 : decode cX4_takeDue 71 = .ok (.getfield 15, 3) := by decide +kernel
theorem dX4_takeDue_74 : decode cX4_takeDue 74 = .ok (.iload 5, 2) := by decide +kernel
theorem dX4_takeDue_76 : decode cX4_takeDue 76 = .ok (.iload_n 3, 1) := by decide +kernel
theorem dX4_takeDue_77 : decode cX4_takeDue 77 = .ok (.isub, 1) := by decide +kernel
theorem dX4_takeDue_78 : decode cX4_takeDue 78 = .ok (.aload_n 0, 1) := by decide +kernel
theorem dX4_takeDue_79 : decode cX4_takeDue 79 = .ok (.getfield 15, 3) := by decide +kernel
theorem dX4_takeDue_82 : decode cX4_takeDue 82 = .ok (.iload 5, 2) := by decide +kernel
theorem dX4_takeDue_84 : decode cX4_takeDue 84 = .ok (.iaload, 1) := by decide +kernel
theorem dX4_takeDue_85 : decode cX4_takeDue 85 = .ok (.iastore, 1) := by decide +kernel
theorem dX4_takeDue_86 : decode cX4_takeDue 86 = .ok (.iinc 5 1, 3) := by decide +kernel
theorem dX4_takeDue_89 : decode cX4_takeDue 89 = .ok (.goto (-44), 3) := by decide +kernel
theorem dX4_takeDue_92 : decode cX4_takeDue 92 = .ok (.aload_n 0, 1) := by decide +kernel
theorem dX4_takeDue_93 : decode cX4_takeDue 93 = .ok (.dup, 1) := by decide +kernel
theorem dX4_takeDue_94 : decode cX4_takeDue 94 = .ok (.getfield 18, 3) := by decide +kernel
theorem dX4_takeDue_97 : decode cX4_takeDue 97 = .ok (.iload_n 3, 1) := by decide +kernel
theorem dX4_takeDue_98 : decode cX4_takeDue 98 = .ok (.isub, 1) := by decide +kernel
theorem dX4_takeDue_99 : decode cX4_takeDue 99 = .ok (.putfield 18, 3) := by decide +kernel
theorem dX4_takeDue_102 : decode cX4_takeDue 102 = .ok (.iload 4, 2) := by decide +kernel
theorem dX4_takeDue_104 : decode cX4_takeDue 104 = .ok (.ireturn, 1) := by decide +kernel
set_option maxRecDepth 20000 in
theorem ggX4_mixInto_X8_mix : GoodIn wsX4_mixInto wsX8_mix := goodIn_r _ [6, 7] (by decide +kernel) (by decide +kernel)
set_option maxRecDepth 20000 in
theorem gX4_mixInto_X8_mix_n28 : GoodIn wsX4_mixInto (wsX8_mix) := ggX4_mixInto_X8_mix
theorem dX4_mixInto_0 : decode cX4_mixInto 0 = .ok (.lload_n 1, 1) := by decide +kernel
theorem dX4_mixInto_1 : decode cX4_mixInto 1 = .ok (.aload_n 0, 1) := by decide +kernel
theorem dX4_mixInto_2 : decode cX4_mixInto 2 = .ok (.getfield 18, 3) := by decide +kernel
theorem dX4_mixInto_5 : decode cX4_mixInto 5 = .ok (.invokestatic 28, 3) := by decide +kernel
theorem dX4_mixInto_8 : decode cX4_mixInto 8 = .ok (.lstore_n 3, 1) := by decide +kernel
theorem dX4_mixInto_9 : decode cX4_mixInto 9 = .ok (.iconst 0, 1) := by decide +kernel
theorem dX4_mixInto_10 : decode cX4_mixInto 10 = .ok (.istore 5, 2) := by decide +kernel
theorem dX4_mixInto_12 : decode cX4_mixInto 12 = .ok (.iload 5, 2) := by decide +kernel
theorem dX4_mixInto_14 : decode cX4_mixInto 14 = .ok (.aload_n 0, 1) := by decide +kernel
theorem dX4_mixInto_15 : decode cX4_mixInto 15 = .ok (.getfield 18, 3) := by decide +kernel
theorem dX4_mixInto_18 : decode cX4_mixInto 18 = .ok (.if_icmp .ge 33, 3) := by decide +kernel
theorem dX4_mixInto_21 : decode cX4_mixInto 21 = .ok (.lload_n 3, 1) := by decide +kernel
theorem dX4_mixInto_22 : decode cX4_mixInto 22 = .ok (.aload_n 0, 1) := by decide +kernel
theorem dX4_mixInto_23 : decode cX4_mixInto 23 = .ok (.getfield 9, 3) := by decide +kernel
theorem dX4_mixInto_26 : decode cX4_mixInto 26 = .ok (.iload 5, 2) := by decide +kernel
theorem dX4_mixInto_28 : decode cX4_mixInto 28 = .ok (.iaload, 1) := by decide +kernel
theorem dX4_mixInto_29 : decode cX4_mixInto 29 = .ok (.invokestatic 28, 3) := by decide +kernel
theorem dX4_mixInto_32 : decode cX4_mixInto 32 = .ok (.lstore_n 3, 1) := by decide +kernel
theorem dX4_mixInto_33 : decode cX4_mixInto 33 = .ok (.lload_n 3, 1) := by decide +kernel
theorem dX4_mixInto_34 : decode cX4_mixInto 34 = .ok (.aload_n 0, 1) := by decide +kernel
theorem dX4_mixInto_35 : decode cX4_mixInto 35 = .ok (.getfield 15, 3) := by decide +kernel
theorem dX4_mixInto_38 : decode cX4_mixInto 38 = .ok (.iload 5, 2) := by decide +kernel
theorem dX4_mixInto_40 : decode cX4_mixInto 40 = .ok (.iaload, 1) := by decide +kernel
theorem dX4_mixInto_41 : decode cX4_mixInto 41 = .ok (.invokestatic 28, 3) := by decide +kernel
theorem dX4_mixInto_44 : decode cX4_mixInto 44 = .ok (.lstore_n 3, 1) := by decide +kernel
theorem dX4_mixInto_45 : decode cX4_mixInto 45 = .ok (.iinc 5 1, 3) := by decide +kernel
theorem dX4_mixInto_48 : decode cX4_mixInto 48 = .ok (.goto (-36), 3) := by decide +kernel
theorem dX4_mixInto_51 : decode cX4_mixInto 51 = .ok (.lload_n 3, 1) := by decide +kernel
theorem dX4_mixInto_52 : decode cX4_mixInto 52 = .ok (.lreturn, 1) := by decide +kernel
theorem dX5_init_0 : decode cX5_init 0 = .ok (.aload_n 0, 1) := by decide +kernel
theorem dX5_init_1 : decode cX5_init 1 = .ok (.invokespecial 1, 3) := by decide +kernel
theorem dX5_init_4 : decode cX5_init 4 = .ok (.aload_n 0, 1) := by decide +kernel
theorem dX5_init_5 : decode cX5_init 5 = .ok (.iconst 1, 1) := by decide +kernel
theorem dX5_init_6 : decode cX5_init 6 = .ok (.putfield 7, 3) := by decide +kernel
theorem dX5_init_9 : decode cX5_init 9 = .ok (.aload_n 0, 1) := by decide +kernel
theorem dX5_init_10 : decode cX5_init 10 = .ok (.iconst 1, 1) := by decide +kernel
theorem dX5_init_11 : decode cX5_init 11 = .ok (.putfield 13, 3) := by decide +kernel
theorem dX5_init_14 : decode cX5_init 14 = .ok (.aload_n 0, 1) := by decide +kernel
theorem dX5_init_15 : decode cX5_init 15 = .ok (.iconst 0, 1) := by decide +kernel
theorem dX5_init_16 : decode cX5_init 16 = .ok (.putfield 16, 3) := by decide +kernel
theorem dX5_init_19 : decode cX5_init 19 = .ok (.aload_n 0, 1) := by decide +kernel
theorem dX5_init_20 : decode cX5_init 20 = .ok (.iconst 1, 1) := by decide +kernel
theorem dX5_init_21 : decode cX5_init 21 = .ok (.putfield 19, 3) := by decide +kernel
theorem dX5_init_24 : decode cX5_init 24 = .ok (.aload_n 0, 1) := by decide +kernel
theorem dX5_init_25 : decode cX5_init 25 = .ok (.iconst 0, 1) := by decide +kernel
theorem dX5_init_26 : decode cX5_init 26 = .ok (.putfield 22, 3) := by decide +kernel
theorem dX5_init_29 : decode cX5_init 29 = .ok (.return_, 1) := by decide +kernel
theorem dX5_copyFrom_0 : decode cX5_copyFrom 0 = .ok (.aload_n 0, 1) := by decide +kernel
theorem dX5_copyFrom_1 : decode cX5_copyFrom 1 = .ok (.aload_n 1, 1) := by decide +kernel
theorem dX5_copyFrom_2 : decode cX5_copyFrom 2 = .ok (.getfield 7, 3) := by decide +kernel
theorem dX5_copyFrom_5 : decode cX5_copyFrom 5 = .ok (.putfield 7, 3) := by decide +kernel
theorem dX5_copyFrom_8 : decode cX5_copyFrom 8 = .ok (.aload_n 0, 1) := by decide +kernel
theorem dX5_copyFrom_9 : decode cX5_copyFrom 9 = .ok (.aload_n 1, 1) := by decide +kernel
theorem dX5_copyFrom_10 : decode cX5_copyFrom 10 = .ok (.getfield 13, 3) := by decide +kernel
theorem dX5_copyFrom_13 : decode cX5_copyFrom 13 = .ok (.putfield 13, 3) := by decide +kernel
theorem dX5_copyFrom_16 : decode cX5_copyFrom 16 = .ok (.aload_n 0, 1) := by decide +kernel
theorem dX5_copyFrom_17 : decode cX5_copyFrom 17 = .ok (.aload_n 1, 1) := by decide +kernel
theorem dX5_copyFrom_18 : decode cX5_copyFrom 18 = .ok (.getfield 16, 3) := by decide +kernel
theorem dX5_copyFrom_21 : decode cX5_copyFrom 21 = .ok (.putfield 16, 3) := by decide +kernel
theorem dX5_copyFrom_24 : decode cX5_copyFrom 24 = .ok (.aload_n 0, 1) := by decide +kernel
theorem dX5_copyFrom_25 : decode cX5_copyFrom 25 = .ok (.aload_n 1, 1) := by decide +kernel
theorem dX5_copyFrom_26 : decode cX5_copyFrom 26 = .ok (.getfield 19, 3) := by decide +kernel
theorem dX5_copyFrom_29 : decode cX5_copyFrom 29 = .ok (.putfield 19, 3) := by decide +kernel
theorem dX5_copyFrom_32 : decode cX5_copyFrom 32 = .ok (.aload_n 0, 1) := by decide +kernel
theorem dX5_copyFrom_33 : decode cX5_copyFrom 33 = .ok (.aload_n 1, 1) := by decide +kernel
theorem dX5_copyFrom_34 : decode cX5_copyFrom 34 = .ok (.getfield 22, 3) := by decide +kernel
theorem dX5_copyFrom_37 : decode cX5_copyFrom 37 = .ok (.putfield 22, 3) := by decide +kernel
theorem dX5_copyFrom_40 : decode cX5_copyFrom 40 = .ok (.return_, 1) := by decide +kernel
theorem dX5_filterRaw_0 : decode cX5_filterRaw 0 = .ok (.aload_n 0, 1) := by decide +kernel
theorem dX5_filterRaw_1 : decode cX5_filterRaw 1 = .ok (.getfield 7, 3) := by decide +kernel
theorem dX5_filterRaw_4 : decode cX5_filterRaw 4 = .ok (.aload_n 0, 1) := by decide +kernel
theorem dX5_filterRaw_5 : decode cX5_filterRaw 5 = .ok (.getfield 13, 3) := by decide +kernel
theorem dX5_filterRaw_8 : decode cX5_filterRaw 8 = .ok (.if_icmp .ne 10, 3) := by decide +kernel
theorem dX5_filterRaw_11 : decode cX5_filterRaw 11 = .ok (.aload_n 0, 1) := by decide +kernel
theorem dX5_filterRaw_12 : decode cX5_filterRaw 12 = .ok (.iconst 0, 1) := by decide +kernel
theorem dX5_filterRaw_13 : decode cX5_filterRaw 13 = .ok (.putfield 22, 3) := by decide +kernel
theorem dX5_filterRaw_16 : decode cX5_filterRaw 16 = .ok (.iconst 0, 1) := by decide +kernel
theorem dX5_filterRaw_17 : decode cX5_filterRaw 17 = .ok (.ireturn, 1) := by decide +kernel
theorem dX5_filterRaw_18 : decode cX5_filterRaw 18 = .ok (.aload_n 0, 1) := by decide +kernel
theorem dX5_filterRaw_19 : decode cX5_filterRaw 19 = .ok (.getfield 7, 3) := by decide +kernel
theorem dX5_filterRaw_22 : decode cX5_filterRaw 22 = .ok (.aload_n 0, 1) := by decide +kernel
theorem dX5_filterRaw_23 : decode cX5_filterRaw 23 = .ok (.getfield 19, 3) := by decide +kernel
theorem dX5_filterRaw_26 : decode cX5_filterRaw 26 = .ok (.if_icmp .ne 23, 3) := by decide +kernel
theorem dX5_filterRaw_29 : decode cX5_filterRaw 29 = .ok (.aload_n 0, 1) := by decide +kernel
theorem dX5_filterRaw_30 : decode cX5_filterRaw 30 = .ok (.getfield 22, 3) := by decide +kernel
theorem dX5_filterRaw_33 : decode cX5_filterRaw 33 = .ok (.ifCond .le 16, 3) := by decide +kernel
theorem dX5_filterRaw_36 : decode cX5_filterRaw 36 = .ok (.aload_n 0, 1) := by decide +kernel
theorem dX5_filterRaw_37 : decode cX5_filterRaw 37 = .ok (.dup, 1) := by decide +kernel
theorem dX5_filterRaw_38 : decode cX5_filterRaw 38 = .ok (.getfield 22, 3) := by decide +kernel
theorem dX5_filterRaw_41 : decode cX5_filterRaw 41 = .ok (.iconst 1, 1) := by decide +kernel
theorem dX5_filterRaw_42 : decode cX5_filterRaw 42 = .ok (.iadd, 1) := by decide +kernel
theorem dX5_filterRaw_43 : decode cX5_filterRaw 43 = .ok (.putfield 22, 3) := by decide +kernel
theorem dX5_filterRaw_46 : decode cX5_filterRaw 46 = .ok (.goto 16, 3) := by decide +kernel
theorem dX5_filterRaw_49 : decode cX5_filterRaw 49 = .ok (.aload_n 0, 1) := by decide +kernel
theorem dX5_filterRaw_50 : decode cX5_filterRaw 50 = .ok (.aload_n 0, 1) := by decide +kernel
theorem dX5_filterRaw_51 : decode cX5_filterRaw 51 = .ok (.getfield 7, 3) := by decide +kernel
theorem dX5_filterRaw_54 : decode cX5_filterRaw 54 = .ok (.putfield 19, 3) := by decide +kernel
theorem dX5_filterRaw_57 : decode cX5_filterRaw 57 = .ok (.aload_n 0, 1) := by decide +kernel
theorem dX5_filterRaw_58 : decode cX5_filterRaw 58 = .ok (.iconst 1, 1) := by decide +kernel
theorem dX5_filterRaw_59 : decode cX5_filterRaw 59 = .ok (.putfield 22, 3) := by decide +kernel
theorem dX5_filterRaw_62 : decode cX5_filterRaw 62 = .ok (.aload_n 0, 1) := by decide +kernel
theorem dX5_filterRaw_63 : decode cX5_filterRaw 63 = .ok (.getfield 22, 3) := by decide +kernel
theorem dX5_filterRaw_66 : decode cX5_filterRaw 66 = .ok (.iload_n 1, 1) := by decide +kernel
theorem dX5_filterRaw_67 : decode cX5_filterRaw 67 = .ok (.if_icmp .ge 5, 3) := by decide +kernel
theorem dX5_filterRaw_70 : decode cX5_filterRaw 70 = .ok (.iconst 0, 1) := by decide +kernel
theorem dX5_filterRaw_71 : decode cX5_filterRaw 71 = .ok (.ireturn, 1) := by decide +kernel
theorem dX5_filterRaw_72 : decode cX5_filterRaw 72 = .ok (.aload_n 0, 1) := by decide +kernel
theorem dX5_filterRaw_73 : decode cX5_filterRaw 73 = .ok (.aload_n 0, 1) := by decide +kernel
theorem dX5_filterRaw_74 : decode cX5_filterRaw 74 = .ok (.getfield 7, 3) := by decide +kernel
theorem dX5_filterRaw_77 : decode cX5_filterRaw 77 = .ok (.putfield 13, 3) := by decide +kernel
theorem dX5_filterRaw_80 : decode cX5_filterRaw 80 = .ok (.aload_n 0, 1) := by decide +kernel
theorem dX5_filterRaw_81 : decode cX5_filterRaw 81 = .ok (.iconst 0, 1) := by decide +kernel
theorem dX5_filterRaw_82 : decode cX5_filterRaw 82 = .ok (.putfield 22, 3) := by decide +kernel
theorem dX5_filterRaw_85 : decode cX5_filterRaw 85 = .ok (.iconst 1, 1) := by decide +kernel
theorem dX5_filterRaw_86 : decode cX5_filterRaw 86 = .ok (.ireturn, 1) := by decide +kernel
set_option maxRecDepth 20000 in
theorem ggX5_mixInto_X8_mix : GoodIn wsX5_mixInto wsX8_mix := goodIn_r _ [7, 8] (by decide +kernel) (by decide +kernel)
set_option maxRecDepth 20000 in
theorem gX5_mixInto_X8_mix_n25 : GoodIn wsX5_mixInto (wsX8_mix) := ggX5_mixInto_X8_mix
theorem dX5_mixInto_0 : decode cX5_mixInto 0 = .ok (.lload_n 1, 1) := by decide +kernel
theorem dX5_mixInto_1 : decode cX5_mixInto 1 = .ok (.aload_n 0, 1) := by decide +kernel
theorem dX5_mixInto_2 : decode cX5_mixInto 2 = .ok (.getfield 7, 3) := by decide +kernel
theorem dX5_mixInto_5 : decode cX5_mixInto 5 = .ok (.invokestatic 25, 3) := by decide +kernel
theorem dX5_mixInto_8 : decode cX5_mixInto 8 = .ok (.lstore_n 3, 1) := by decide +kernel
theorem dX5_mixInto_9 : decode cX5_mixInto 9 = .ok (.lload_n 3, 1) := by decide +kernel
theorem dX5_mixInto_10 : decode cX5_mixInto 10 = .ok (.aload_n 0, 1) := by decide +kernel
theorem dX5_mixInto_11 : decode cX5_mixInto 11 = .ok (.getfield 13, 3) := by decide +kernel
theorem dX5_mixInto_14 : decode cX5_mixInto 14 = .ok (.invokestatic 25, 3) := by decide +kernel
theorem dX5_mixInto_17 : decode cX5_mixInto 17 = .ok (.lstore_n 3, 1) := by decide +kernel
theorem dX5_mixInto_18 : decode cX5_mixInto 18 = .ok (.lload_n 3, 1) := by decide +kernel
theorem dX5_mixInto_19 : decode cX5_mixInto 19 = .ok (.aload_n 0, 1) := by decide +kernel
theorem dX5_mixInto_20 : decode cX5_mixInto 20 = .ok (.getfield 16, 3) := by decide +kernel
theorem dX5_mixInto_23 : decode cX5_mixInto 23 = .ok (.invokestatic 25, 3) := by decide +kernel
theorem dX5_mixInto_26 : decode cX5_mixInto 26 = .ok (.lstore_n 3, 1) := by decide +kernel
theorem dX5_mixInto_27 : decode cX5_mixInto 27 = .ok (.lload_n 3, 1) := by decide +kernel
theorem dX5_mixInto_28 : decode cX5_mixInto 28 = .ok (.aload_n 0, 1) := by decide +kernel
theorem dX5_mixInto_29 : decode cX5_mixInto 29 = .ok (.getfield 22, 3) := by decide +kernel
theorem dX5_mixInto_32 : decode cX5_mixInto 32 = .ok (.invokestatic 25, 3) := by decide +kernel
theorem dX5_mixInto_35 : decode cX5_mixInto 35 = .ok (.lreturn, 1) := by decide +kernel
theorem dX6_init_0 : decode cX6_init 0 = .ok (.aload_n 0, 1) := by decide +kernel
theorem dX6_init_1 : decode cX6_init 1 = .ok (.invokespecial 1, 3) := by decide +kernel
theorem dX6_init_4 : decode cX6_init 4 = .ok (.aload_n 0, 1) := by decide +kernel
theorem dX6_init_5 : decode cX6_init 5 = .ok (.iconst 3, 1) := by decide +kernel
theorem dX6_init_6 : decode cX6_init 6 = .ok (.putfield 7, 3) := by decide +kernel
theorem dX6_init_9 : decode cX6_init 9 = .ok (.aload_n 0, 1) := by decide +kernel
theorem dX6_init_10 : decode cX6_init 10 = .ok (.bipush 10, 2) := by decide +kernel
theorem dX6_init_12 : decode cX6_init 12 = .ok (.putfield 13, 3) := by decide +kernel
theorem dX6_init_15 : decode cX6_init 15 = .ok (.aload_n 0, 1) := by decide +kernel
theorem dX6_init_16 : decode cX6_init 16 = .ok (.bipush 50, 2) := by decide +kernel
theorem dX6_init_18 : decode cX6_init 18 = .ok (.putfield 16, 3) := by decide +kernel
theorem dX6_init_21 : decode cX6_init 21 = .ok (.aload_n 0, 1) := by decide +kernel
theorem dX6_init_22 : decode cX6_init 22 = .ok (.iconst 2, 1) := by decide +kernel
theorem dX6_init_23 : decode cX6_init 23 = .ok (.putfield 19, 3) := by decide +kernel
theorem dX6_init_26 : decode cX6_init 26 = .ok (.aload_n 0, 1) := by decide +kernel
theorem dX6_init_27 : decode cX6_init 27 = .ok (.sipush 500, 3) := by decide +kernel
theorem dX6_init_30 : decode cX6_init 30 = .ok (.putfield 22, 3) := by decide +kernel
theorem dX6_init_33 : decode cX6_init 33 = .ok (.return_, 1) := by decide +kernel
theorem dX6_copyFrom_0 : decode cX6_copyFrom 0 = .ok (.aload_n 0, 1) := by decide +kernel
theorem dX6_copyFrom_1 : decode cX6_copyFrom 1 = .ok (.aload_n 1, 1) := by decide +kernel
theorem dX6_copyFrom_2 : decode cX6_copyFrom 2 = .ok (.getfield 7, 3) := by decide +kernel
theorem dX6_copyFrom_5 : decode cX6_copyFrom 5 = .ok (.putfield 7, 3) := by decide +kernel
theorem dX6_copyFrom_8 : decode cX6_copyFrom 8 = .ok (.aload_n 0, 1) := by decide +kernel
theorem dX6_copyFrom_9 : decode cX6_copyFrom 9 = .ok (.aload_n 1, 1) := by decide +kernel
theorem dX6_copyFrom_10 : decode cX6_copyFrom 10 = .ok (.getfield 13, 3) := by decide +kernel
theorem dX6_copyFrom_13 : decode cX6_copyFrom 13 = .ok (.putfield 13, 3) := by decide +kernel
theorem dX6_copyFrom_16 : decode cX6_copyFrom 16 = .ok (.aload_n 0, 1) := by decide +kernel
theorem dX6_copyFrom_17 : decode cX6_copyFrom 17 = .ok (.aload_n 1, 1) := by decide +kernel
theorem dX6_copyFrom_18 : decode cX6_copyFrom 18 = .ok (.getfield 16, 3) := by decide +kernel
theorem dX6_copyFrom_21 : decode cX6_copyFrom 21 = .ok (.putfield 16, 3) := by decide +kernel
theorem dX6_copyFrom_24 : decode cX6_copyFrom 24 = .ok (.aload_n 0, 1) := by decide +kernel
theorem dX6_copyFrom_25 : decode cX6_copyFrom 25 = .ok (.aload_n 1, 1) := by decide +kernel
theorem dX6_copyFrom_26 : decode cX6_copyFrom 26 = .ok (.getfield 19, 3) := by decide +kernel
theorem dX6_copyFrom_29 : decode cX6_copyFrom 29 = .ok (.putfield 19, 3) := by decide +kernel
theorem dX6_copyFrom_32 : decode cX6_copyFrom 32 = .ok (.aload_n 0, 1) := by decide +kernel
theorem dX6_copyFrom_33 : decode cX6_copyFrom 33 = .ok (.aload_n 1, 1) := by decide +kernel
theorem dX6_copyFrom_34 : decode cX6_copyFrom 34 = .ok (.getfield 22, 3) := by decide +kernel
theorem dX6_copyFrom_37 : decode cX6_copyFrom 37 = .ok (.putfield 22, 3) := by decide +kernel
theorem dX6_copyFrom_40 : decode cX6_copyFrom 40 = .ok (.return_, 1) := by decide +kernel
set_option maxRecDepth 20000 in
theorem ggX6_mixInto_X8_mix : GoodIn wsX6_mixInto wsX8_mix := goodIn_r _ [8, 9] (by decide +kernel) (by decide +kernel)
set_option maxRecDepth 20000 in
theorem gX6_mixInto_X8_mix_n25 : GoodIn wsX6_mixInto (wsX8_mix) := ggX6_mixInto_X8_mix
theorem dX6_mixInto_0 : decode cX6_mixInto 0 = .ok (.lload_n 1, 1) := by decide +kernel
theorem dX6_mixInto_1 : decode cX6_mixInto 1 = .ok (.aload_n 0, 1) := by decide +kernel
theorem dX6_mixInto_2 : decode cX6_mixInto 2 = .ok (.getfield 7, 3) := by decide +kernel
theorem dX6_mixInto_5 : decode cX6_mixInto 5 = .ok (.invokestatic 25, 3) := by decide +kernel
theorem dX6_mixInto_8 : decode cX6_mixInto 8 = .ok (.lstore_n 3, 1) := by decide +kernel
theorem dX6_mixInto_9 : decode cX6_mixInto 9 = .ok (.lload_n 3, 1) := by decide +kernel
theorem dX6_mixInto_10 : decode cX6_mixInto 10 = .ok (.aload_n 0, 1) := by decide +kernel
theorem dX6_mixInto_11 : decode cX6_mixInto 11 = .ok (.getfield 13, 3) := by decide +kernel
theorem dX6_mixInto_14 : decode cX6_mixInto 14 = .ok (.invokestatic 25, 3) := by decide +kernel
theorem dX6_mixInto_17 : decode cX6_mixInto 17 = .ok (.lstore_n 3, 1) := by decide +kernel
theorem dX6_mixInto_18 : decode cX6_mixInto 18 = .ok (.lload_n 3, 1) := by decide +kernel
theorem dX6_mixInto_19 : decode cX6_mixInto 19 = .ok (.aload_n 0, 1) := by decide +kernel
theorem dX6_mixInto_20 : decode cX6_mixInto 20 = .ok (.getfield 16, 3) := by decide +kernel
theorem dX6_mixInto_23 : decode cX6_mixInto 23 = .ok (.invokestatic 25, 3) := by decide +kernel
theorem dX6_mixInto_26 : decode cX6_mixInto 26 = .ok (.lstore_n 3, 1) := by decide +kernel
theorem dX6_mixInto_27 : decode cX6_mixInto 27 = .ok (.lload_n 3, 1) := by decide +kernel
theorem dX6_mixInto_28 : decode cX6_mixInto 28 = .ok (.aload_n 0, 1) := by decide +kernel
theorem dX6_mixInto_29 : decode cX6_mixInto 29 = .ok (.getfield 19, 3) := by decide +kernel
theorem dX6_mixInto_32 : decode cX6_mixInto 32 = .ok (.invokestatic 25, 3) := by decide +kernel
theorem dX6_mixInto_35 : decode cX6_mixInto 35 = .ok (.lstore_n 3, 1) := by decide +kernel
theorem dX6_mixInto_36 : decode cX6_mixInto 36 = .ok (.lload_n 3, 1) := by decide +kernel
theorem dX6_mixInto_37 : decode cX6_mixInto 37 = .ok (.aload_n 0, 1) := by decide +kernel
theorem dX6_mixInto_38 : decode cX6_mixInto 38 = .ok (.getfield 22, 3) := by decide +kernel
theorem dX6_mixInto_41 : decode cX6_mixInto 41 = .ok (.invokestatic 25, 3) := by decide +kernel
theorem dX6_mixInto_44 : decode cX6_mixInto 44 = .ok (.lreturn, 1) := by decide +kernel
set_option maxRecDepth 20000 in
theorem ggX7_init_X6_init : GoodIn wsX7_init wsX6_init := goodIn_r _ [30, 31, 2, 3, 32, 33, 34, 35, 36, 90, 91, 92, 93, 94] (by decide +kernel) (by decide +kernel)
set_option maxRecDepth 20000 in
theorem gX7_init_X6_init_n17 : GoodIn wsX7_init (wsX6_init) := ggX7_init_X6_init
set_option maxRecDepth 20000 in
theorem ggX7_init_X4_init : GoodIn wsX7_init wsX4_init := goodIn_r _ [38, 39, 2, 3, 40, 41, 42, 43, 95, 96, 97] (by decide +kernel) (by decide +kernel)
set_option maxRecDepth 20000 in
theorem gX7_init_X4_init_n24 : GoodIn wsX7_init (wsX4_init) := ggX7_init_X4_init
set_option maxRecDepth 20000 in
theorem ggX7_init_X5_init : GoodIn wsX7_init wsX5_init := goodIn_r _ [45, 46, 2, 3, 47, 48, 49, 50, 51, 98, 99, 100, 101, 102] (by decide +kernel) (by decide +kernel)
set_option maxRecDepth 20000 in
theorem gX7_init_X5_init_n31 : GoodIn wsX7_init (wsX5_init) := ggX7_init_X5_init
set_option maxRecDepth 20000 in
theorem ggX7_init_X3_init : GoodIn wsX7_init wsX3_init := goodIn_r _ [53, 54, 2, 3, 55, 56, 57, 58, 40, 59, 60, 61, 62, 103, 104, 105, 106, 107, 108, 109, 110] (by decide +kernel) (by decide +kernel)
set_option maxRecDepth 20000 in
theorem gX7_init_X3_init_n38 : GoodIn wsX7_init (wsX3_init) := ggX7_init_X3_init
set_option maxRecDepth 20000 in
theorem ggX7_init_X1_init : GoodIn wsX7_init wsX1_init := goodIn_r _ [64, 65, 2, 3, 66, 67, 68, 69, 70, 71, 72, 73, 111, 112, 113, 114, 115, 116, 117, 118] (by decide +kernel) (by decide +kernel)
set_option maxRecDepth 20000 in
theorem gX7_init_X1_init_n45 : GoodIn wsX7_init (wsX1_init) := ggX7_init_X1_init
set_option maxRecDepth 20000 in
theorem ggX7_init_X0_init : GoodIn wsX7_init wsX0_init := goodIn_r _ [75, 76, 2, 3, 77, 40, 78, 79, 80, 81, 82, 119, 120, 121, 122, 123, 124] (by decide +kernel) (by decide +kernel)
set_option maxRecDepth 20000 in
theorem gX7_init_X0_init_n52 : GoodIn wsX7_init (wsX0_init) := ggX7_init_X0_init
theorem dX7_init_0 : decode cX7_init 0 = .ok (.aload_n 0, 1) := by decide +kernel
theorem dX7_init_1 : decode cX7_init 1 = .ok (.invokespecial 3, 3) := by decide +kernel
theorem dX7_init_4 : decode cX7_init 4 = .ok (.aload_n 0, 1) := by decide +kernel
theorem dX7_init_5 : decode cX7_init 5 = .ok (.iconst 0, 1) := by decide +kernel
theorem dX7_init_6 : decode cX7_init 6 = .ok (.putfield 9, 3) := by decide +kernel
theorem dX7_init_9 : decode cX7_init 9 = .ok (.aload_n 0, 1) := by decide +kernel
theorem dX7_init_10 : decode cX7_init 10 = .ok (.new 15, 3) := by decide +kernel
theorem dX7_init_13 : decode cX7_init 13 = .ok (.dup, 1) := by decide +kernel
theorem dX7_init_14 : decode cX7_init 14 = .ok (.invokespecial 17, 3) := by decide +kernel
theorem dX7_init_17 : decode cX7_init 17 = .ok (.putfield 18, 3) := by decide +kernel
theorem dX7_init_20 : decode cX7_init 20 = .ok (.aload_n 0, 1) := by decide +kernel
theorem dX7_init_21 : decode cX7_init 21 = .ok (.new 22, 3) := by decide +kernel
theorem dX7_init_24 : decode cX7_init 24 = .ok (.dup, 1) := by decide +kernel
theorem dX7_init_25 : decode cX7_init 25 = .ok (.invokespecial 24, 3) := by decide +kernel
theorem dX7_init_28 : decode cX7_init 28 = .ok (.putfield 25, 3) := by decide +kernel
theorem dX7_init_31 : decode cX7_init 31 = .ok (.aload_n 0, 1) := by decide +kernel
theorem dX7_init_32 : decode cX7_init 32 = .ok (.new 29, 3) := by decide +kernel
theorem dX7_init_35 : decode cX7_init 35 = .ok (.dup, 1) := by decide +kernel
theorem dX7_init_36 : decode cX7_init 36 = .ok (.invokespecial 31, 3) := by decide +kernel
theorem dX7_init_39 : decode cX7_init 39 = .ok (.putfield 32, 3) := by decide +kernel
theorem dX7_init_42 : decode cX7_init 42 = .ok (.aload_n 0, 1) := by decide +kernel
theorem dX7_init_43 : decode cX7_init 43 = .ok (.new 36, 3) := by decide +kernel
theorem dX7_init_46 : decode cX7_init 46 = .ok (.dup, 1) := by decide +kernel
theorem dX7_init_47 : decode cX7_init 47 = .ok (.invokespecial 38, 3) := by decide +kernel
theorem dX7_init_50 : decode cX7_init 50 = .ok (.putfield 39, 3) := by decide +kernel
theorem dX7_init_53 : decode cX7_init 53 = .ok (.aload_n 0, 1) := by decide +kernel
theorem dX7_init_54 : decode cX7_init 54 = .ok (.new 43, 3) := by decide +kernel
theorem dX7_init_57 : decode cX7_init 57 = .ok (.dup, 1) := by decide +kernel
theorem dX7_init_58 : decode cX7_init 58 = .ok (.invokespecial 45, 3) := by decide +kernel
theorem dX7_init_61 : decode cX7_init 61 = .ok (.putfield 46, 3) := by decide +kernel
theorem dX7_init_64 : decode cX7_init 64 = .ok (.aload_n 0, 1) := by decide +kernel
theorem dX7_init_65 : decode cX7_init 65 = .ok (.new 50, 3) := by decide +kernel
theorem dX7_init_68 : decode cX7_init 68 = .ok (.dup, 1) := by decide +kernel
theorem dX7_init_69 : decode cX7_init 69 = .ok (.invokespecial 52, 3) := by decide +kernel
theorem dX7_init_72 : decode cX7_init 72 = .ok (.putfield 53, 3) := by decide +kernel
theorem dX7_init_75 : decode cX7_init 75 = .ok (.return_, 1) := by decide +kernel
set_option maxRecDepth 20000 in
theorem ggX7_copyFrom_X6_copyFrom : GoodIn wsX7_copyFrom wsX6_copyFrom := goodIn_r _ [12, 13, 14, 15, 16, 17, 86, 87, 88, 89, 90] (by decide +kernel) (by decide +kernel)
set_option maxRecDepth 20000 in
theorem gX7_copyFrom_X6_copyFrom : GoodIn wsX7_copyFrom (wsV RX7 57 RX6 yX6_copyFrom wsX6_copyFrom) := goodIn_app (goodIn_of _ (by decide +kernel)) ggX7_copyFrom_X6_copyFrom
set_option maxRecDepth 20000 in
theorem ggX7_copyFrom_X4_copyFrom : GoodIn wsX7_copyFrom wsX4_copyFrom := goodIn_r _ [22, 23, 24, 25, 26, 27, 28, 29, 91, 92, 93] (by decide +kernel) (by decide +kernel)
set_option maxRecDepth 20000 in
theorem gX7_copyFrom_X4_copyFrom : GoodIn wsX7_copyFrom (wsV RX7 61 RX4 yX4_copyFrom wsX4_copyFrom) := goodIn_app (goodIn_of _ (by decide +kernel)) ggX7_copyFrom_X4_copyFrom
set_option maxRecDepth 20000 in
theorem ggX7_copyFrom_X5_copyFrom : GoodIn wsX7_copyFrom wsX5_copyFrom := goodIn_r _ [34, 35, 36, 37, 38, 39, 94, 95, 96, 97, 98] (by decide +kernel) (by decide +kernel)
set_option maxRecDepth 20000 in
theorem gX7_copyFrom_X5_copyFrom : GoodIn wsX7_copyFrom (wsV RX7 64 RX5 yX5_copyFrom wsX5_copyFrom) := goodIn_app (goodIn_of _ (by decide +kernel)) ggX7_copyFrom_X5_copyFrom
set_option maxRecDepth 20000 in
theorem ggX7_copyFrom_X3_copyFrom : GoodIn wsX7_copyFrom wsX3_copyFrom := goodIn_r _ [44, 45, 46, 47, 48, 49, 50, 25, 26, 27, 51, 52, 53, 99, 100, 101, 102, 103, 104, 105, 106] (by decide +kernel) (by decide +kernel)
set_option maxRecDepth 20000 in
theorem gX7_copyFrom_X3_copyFrom : GoodIn wsX7_copyFrom (wsV RX7 67 RX3 yX3_copyFrom wsX3_copyFrom) := goodIn_app (goodIn_of _ (by decide +kernel)) ggX7_copyFrom_X3_copyFrom
set_option maxRecDepth 20000 in
theorem ggX7_copyFrom_X1_copyFrom : GoodIn wsX7_copyFrom wsX1_copyFrom := goodIn_r _ [58, 59, 60, 61, 62, 63, 64, 65, 66, 107, 108, 109, 110, 111, 112, 113, 114] (by decide +kernel) (by decide +kernel)
set_option maxRecDepth 20000 in
theorem gX7_copyFrom_X1_copyFrom : GoodIn wsX7_copyFrom (wsV RX7 70 RX1 yX1_copyFrom wsX1_copyFrom) := goodIn_app (goodIn_of _ (by decide +kernel)) ggX7_copyFrom_X1_copyFrom
set_option maxRecDepth 20000 in
theorem ggX7_copyFrom_X0_copyFrom : GoodIn wsX7_copyFrom wsX0_copyFrom := goodIn_r _ [71, 72, 73, 74, 25, 26, 27, 75, 76, 77, 78, 115, 116, 117, 118, 119, 120] (by decide +kernel) (by decide +kernel)
set_option maxRecDepth 20000 in
theorem gX7_copyFrom_X0_copyFrom : GoodIn wsX7_copyFrom (wsV RX7 73 RX0 yX0_copyFrom wsX0_copyFrom) := goodIn_app (goodIn_of _ (by decide +kernel)) ggX7_copyFrom_X0_copyFrom
theorem dX7_copyFrom_0 : decode cX7_copyFrom 0 = .ok (.aload_n 0, 1) := by decide +kernel
theorem dX7_copyFrom_1 : decode cX7_copyFrom 1 = .ok (.aload_n 1, 1) := by decide +kernel
theorem dX7_copyFrom_2 : decode cX7_copyFrom 2 = .ok (.getfield 9, 3) := by decide +kernel
theorem dX7_copyFrom_5 : decode cX7_copyFrom 5 = .ok (.putfield 9, 3) := by decide +kernel
theorem dX7_copyFrom_8 : decode cX7_copyFrom 8 = .ok (.aload_n 0, 1) := by decide +kernel
theorem dX7_copyFrom_9 : decode cX7_copyFrom 9 = .ok (.getfield 18, 3) := by decide +kernel
theorem dX7_copyFrom_12 : decode cX7_copyFrom 12 = .ok (.aload_n 1, 1) := by decide +kernel
theorem dX7_copyFrom_13 : decode cX7_copyFrom 13 = .ok (.getfield 18, 3) := by decide +kernel
theorem dX7_copyFrom_16 : decode cX7_copyFrom 16 = .ok (.invokevirtual 57, 3) := by decide +kernel
theorem dX7_copyFrom_19 : decode cX7_copyFrom 19 = .ok (.aload_n 0, 1) := by decide +kernel
theorem dX7_copyFrom_20 : decode cX7_copyFrom 20 = .ok (.getfield 25, 3) := by decide +kernel
theorem dX7_copyFrom_23 : decode cX7_copyFrom 23 = .ok (.aload_n 1, 1) := by decide +kernel
theorem dX7_copyFrom_24 : decode cX7_copyFrom 24 = .ok (.getfield 25, 3) := by decide +kernel
theorem dX7_copyFrom_27 : decode cX7_copyFrom 27 = .ok (.invokevirtual 61, 3) := by decide +kernel
theorem dX7_copyFrom_30 : decode cX7_copyFrom 30 = .ok (.aload_n 0, 1) := by decide +kernel
theorem dX7_copyFrom_31 : decode cX7_copyFrom 31 = .ok (.getfield 32, 3) := by decide +kernel
theorem dX7_copyFrom_34 : decode cX7_copyFrom 34 = .ok (.aload_n 1, 1) := by decide +kernel
theorem dX7_copyFrom_35 : decode cX7_copyFrom 35 = .ok (.getfield 32, 3) := by decide +kernel
theorem dX7_copyFrom_38 : decode cX7_copyFrom 38 = .ok (.invokevirtual 64, 3) := by decide +kernel
theorem dX7_copyFrom_41 : decode cX7_copyFrom 41 = .ok (.aload_n 0, 1) := by decide +kernel
theorem dX7_copyFrom_42 : decode cX7_copyFrom 42 = .ok (.getfield 39, 3) := by decide +kernel
theorem dX7_copyFrom_45 : decode cX7_copyFrom 45 = .ok (.aload_n 1, 1) := by decide +kernel
theorem dX7_copyFrom_46 : decode cX7_copyFrom 46 = .ok (.getfield 39, 3) := by decide +kernel
theorem dX7_copyFrom_49 : decode cX7_copyFrom 49 = .ok (.invokevirtual 67, 3) := by decide +kernel
theorem dX7_copyFrom_52 : decode cX7_copyFrom 52 = .ok (.aload_n 0, 1) := by decide +kernel
theorem dX7_copyFrom_53 : decode cX7_copyFrom 53 = .ok (.getfield 46, 3) := by decide +kernel
theorem dX7_copyFrom_56 : decode cX7_copyFrom 56 = .ok (.aload_n 1, 1) := by decide +kernel
theorem dX7_copyFrom_57 : decode cX7_copyFrom 57 = .ok (.getfield 46, 3) := by decide +kernel
theorem dX7_copyFrom_60 : decode cX7_copyFrom 60 = .ok (.invokevirtual 70, 3) := by decide +kernel
theorem dX7_copyFrom_63 : decode cX7_copyFrom 63 = .ok (.aload_n 0, 1) := by decide +kernel
theorem dX7_copyFrom_64 : decode cX7_copyFrom 64 = .ok (.getfield 53, 3) := by decide +kernel
theorem dX7_copyFrom_67 : decode cX7_copyFrom 67 = .ok (.aload_n 1, 1) := by decide +kernel
theorem dX7_copyFrom_68 : decode cX7_copyFrom 68 = .ok (.getfield 53, 3) := by decide +kernel
theorem dX7_copyFrom_71 : decode cX7_copyFrom 71 = .ok (.invokevirtual 73, 3) := by decide +kernel
theorem dX7_copyFrom_74 : decode cX7_copyFrom 74 = .ok (.return_, 1) := by decide +kernel
set_option maxRecDepth 20000 in
theorem ggX7_passTick_X4_takeDue : GoodIn wsX7_passTick wsX4_takeDue := goodIn_r _ [16, 17, 18, 19, 177, 178, 179] (by decide +kernel) (by decide +kernel)
set_option maxRecDepth 20000 in
theorem gX7_passTick_X4_takeDue : GoodIn wsX7_passTick (wsV RX7 79 RX4 yX4_takeDue wsX4_takeDue) := goodIn_app (goodIn_of _ (by decide +kernel)) ggX7_passTick_X4_takeDue
set_option maxRecDepth 20000 in
theorem ggX7_passTick_X5_filterRaw : GoodIn wsX7_passTick wsX5_filterRaw := goodIn_r _ [24, 25, 26, 27, 28, 159, 160, 161, 162, 163] (by decide +kernel) (by decide +kernel)
set_option maxRecDepth 20000 in
theorem gX7_passTick_X5_filterRaw : GoodIn wsX7_passTick (wsV RX7 86 RX5 yX5_filterRaw wsX5_filterRaw) := goodIn_app (goodIn_of _ (by decide +kernel)) ggX7_passTick_X5_filterRaw
set_option maxRecDepth 20000 in
theorem ggX7_passTick_X7_followAcceptedCode : GoodIn wsX7_passTick wsX7_followAcceptedCode := goodIn_r _ [33, 2, 11, 34, 35, 1, 9, 36, 37, 38, 39, 40, 41, 42, 43, 44, 45, 46, 47, 48, 49, 50, 51, 52, 53, 54, 55, 56, 57, 58, 59, 60, 61, 62, 63, 64, 65, 66, 67, 68, 69, 70, 71, 72, 73, 74, 75, 76, 77, 78, 79, 80, 81, 82, 83, 84, 85, 86, 87, 88, 89, 90, 91, 92, 93, 94, 95, 96, 152, 153, 154, 155, 156, 157, 158, 159, 160, 161, 162, 163, 180, 181, 182, 183, 184, 185, 186, 187, 169, 170, 171, 172, 173, 174, 175, 176] (by decide +kernel) (by decide +kernel)
set_option maxRecDepth 20000 in
theorem gX7_passTick_X7_followAcceptedCode : GoodIn wsX7_passTick (wsV RX7 90 RX7 yX7_followAcceptedCode wsX7_followAcceptedCode) := goodIn_app (goodIn_of _ (by decide +kernel)) ggX7_passTick_X7_followAcceptedCode
set_option maxRecDepth 20000 in
theorem ggX7_passTick_X7_watchTimes : GoodIn wsX7_passTick wsX7_watchTimes := goodIn_r _ [100, 9, 101, 102, 2, 11, 103, 80, 81, 75, 82, 77, 104, 105, 106, 32, 107, 1, 34, 108, 84, 85, 86, 87, 88, 89, 90, 91, 92, 93, 94, 78, 95, 96, 109, 110, 111, 112, 5, 113, 114, 35, 115, 152, 153, 154, 155, 156, 157, 158, 169, 170, 171, 172, 173, 174, 175, 176, 159, 160, 161, 162, 163, 164, 165, 166, 167, 168, 180, 181, 182, 183, 184, 185, 186, 187] (by decide +kernel) (by decide +kernel)
set_option maxRecDepth 20000 in
theorem gX7_passTick_X7_watchTimes : GoodIn wsX7_passTick (wsV RX7 94 RX7 yX7_watchTimes wsX7_watchTimes) := goodIn_app (goodIn_of _ (by decide +kernel)) ggX7_passTick_X7_watchTimes
set_option maxRecDepth 20000 in
theorem ggX7_passTick_X0_advancePulse : GoodIn wsX7_passTick wsX0_advancePulse := goodIn_r _ [120, 121, 188, 189, 190, 191, 192, 193] (by decide +kernel) (by decide +kernel)
set_option maxRecDepth 20000 in
theorem gX7_passTick_X0_advancePulse : GoodIn wsX7_passTick (wsV RX7 101 RX0 yX0_advancePulse wsX0_advancePulse) := goodIn_app (goodIn_of _ (by decide +kernel)) ggX7_passTick_X0_advancePulse
set_option maxRecDepth 20000 in
theorem ggX7_passTick_X0_setLegs : GoodIn wsX7_passTick wsX0_setLegs := goodIn_r _ [125, 126, 127, 128, 129, 119, 130, 121, 131, 132, 133, 134, 135, 41, 37, 42, 136, 137, 138, 139, 140, 141, 142, 143, 144, 145, 146, 147, 148, 149, 150, 151, 164, 165, 166, 167, 168, 188, 189, 190, 191, 192, 193] (by decide +kernel) (by decide +kernel)
set_option maxRecDepth 20000 in
theorem gX7_passTick_X0_setLegs : GoodIn wsX7_passTick (wsV RX7 111 RX0 yX0_setLegs wsX0_setLegs) := goodIn_app (goodIn_of _ (by decide +kernel)) ggX7_passTick_X0_setLegs
theorem dX7_passTick_0 : decode cX7_passTick 0 = .ok (.aload_n 0, 1) := by decide +kernel
theorem dX7_passTick_1 : decode cX7_passTick 1 = .ok (.dup, 1) := by decide +kernel
theorem dX7_passTick_2 : decode cX7_passTick 2 = .ok (.getfield 9, 3) := by decide +kernel
theorem dX7_passTick_5 : decode cX7_passTick 5 = .ok (.iconst 1, 1) := by decide +kernel
theorem dX7_passTick_6 : decode cX7_passTick 6 = .ok (.iadd, 1) := by decide +kernel
theorem dX7_passTick_7 : decode cX7_passTick 7 = .ok (.putfield 9, 3) := by decide +kernel
theorem dX7_passTick_10 : decode cX7_passTick 10 = .ok (.aload_n 0, 1) := by decide +kernel
theorem dX7_passTick_11 : decode cX7_passTick 11 = .ok (.getfield 32, 3) := by decide +kernel
theorem dX7_passTick_14 : decode cX7_passTick 14 = .ok (.aload_n 0, 1) := by decide +kernel
theorem dX7_passTick_15 : decode cX7_passTick 15 = .ok (.getfield 25, 3) := by decide +kernel
theorem dX7_passTick_18 : decode cX7_passTick 18 = .ok (.aload_n 0, 1) := by decide +kernel
theorem dX7_passTick_19 : decode cX7_passTick 19 = .ok (.getfield 9, 3) := by decide +kernel
theorem dX7_passTick_22 : decode cX7_passTick 22 = .ok (.aload_n 0, 1) := by decide +kernel
theorem dX7_passTick_23 : decode cX7_passTick 23 = .ok (.getfield 32, 3) := by decide +kernel
theorem dX7_passTick_26 : decode cX7_passTick 26 = .ok (.getfield 76, 3) := by decide +kernel
theorem dX7_passTick_29 : decode cX7_passTick 29 = .ok (.invokevirtual 79, 3) := by decide +kernel
theorem dX7_passTick_32 : decode cX7_passTick 32 = .ok (.putfield 76, 3) := by decide +kernel
theorem dX7_passTick_35 : decode cX7_passTick 35 = .ok (.aload_n 0, 1) := by decide +kernel
theorem dX7_passTick_36 : decode cX7_passTick 36 = .ok (.getfield 32, 3) := by decide +kernel
theorem dX7_passTick_39 : decode cX7_passTick 39 = .ok (.aload_n 0, 1) := by decide +kernel
theorem dX7_passTick_40 : decode cX7_passTick 40 = .ok (.getfield 18, 3) := by decide +kernel
theorem dX7_passTick_43 : decode cX7_passTick 43 = .ok (.getfield 83, 3) := by decide +kernel
theorem dX7_passTick_46 : decode cX7_passTick 46 = .ok (.invokevirtual 86, 3) := by decide +kernel
theorem dX7_passTick_49 : decode cX7_passTick 49 = .ok (.istore_n 1, 1) := by decide +kernel
theorem dX7_passTick_50 : decode cX7_passTick 50 = .ok (.iload_n 1, 1) := by decide +kernel
theorem dX7_passTick_51 : decode cX7_passTick 51 = .ok (.ifCond .eq 14, 3) := by decide +kernel
theorem dX7_passTick_54 : decode cX7_passTick 54 = .ok (.aload_n 0, 1) := by decide +kernel
theorem dX7_passTick_55 : decode cX7_passTick 55 = .ok (.invokevirtual 90, 3) := by decide +kernel
theorem dX7_passTick_58 : decode cX7_passTick 58 = .ok (.ifCond .eq 7, 3) := by decide +kernel
theorem dX7_passTick_61 : decode cX7_passTick 61 = .ok (.iconst 1, 1) := by decide +kernel
theorem dX7_passTick_62 : decode cX7_passTick 62 = .ok (.goto 4, 3) := by decide +kernel
theorem dX7_passTick_65 : decode cX7_passTick 65 = .ok (.iconst 0, 1) := by decide +kernel
theorem dX7_passTick_66 : decode cX7_passTick 66 = .ok (.istore_n 2, 1) := by decide +kernel
theorem dX7_passTick_67 : decode cX7_passTick 67 = .ok (.aload_n 0, 1) := by decide +kernel
theorem dX7_passTick_68 : decode cX7_passTick 68 = .ok (.iload_n 2, 1) := by decide +kernel
theorem dX7_passTick_69 : decode cX7_passTick 69 = .ok (.invokevirtual 94, 3) := by decide +kernel
theorem dX7_passTick_72 : decode cX7_passTick 72 = .ok (.aload_n 0, 1) := by decide +kernel
theorem dX7_passTick_73 : decode cX7_passTick 73 = .ok (.getfield 53, 3) := by decide +kernel
theorem dX7_passTick_76 : decode cX7_passTick 76 = .ok (.aload_n 0, 1) := by decide +kernel
theorem dX7_passTick_77 : decode cX7_passTick 77 = .ok (.getfield 18, 3) := by decide +kernel
theorem dX7_passTick_80 : decode cX7_passTick 80 = .ok (.getfield 98, 3) := by decide +kernel
theorem dX7_passTick_83 : decode cX7_passTick 83 = .ok (.invokevirtual 101, 3) := by decide +kernel
theorem dX7_passTick_86 : decode cX7_passTick 86 = .ok (.aload_n 0, 1) := by decide +kernel
theorem dX7_passTick_87 : decode cX7_passTick 87 = .ok (.getfield 53, 3) := by decide +kernel
theorem dX7_passTick_90 : decode cX7_passTick 90 = .ok (.aload_n 0, 1) := by decide +kernel
theorem dX7_passTick_91 : decode cX7_passTick 91 = .ok (.getfield 46, 3) := by decide +kernel
theorem dX7_passTick_94 : decode cX7_passTick 94 = .ok (.getfield 105, 3) := by decide +kernel
theorem dX7_passTick_97 : decode cX7_passTick 97 = .ok (.aload_n 0, 1) := by decide +kernel
theorem dX7_passTick_98 : decode cX7_passTick 98 = .ok (.getfield 32, 3) := by decide +kernel
theorem dX7_passTick_101 : decode cX7_passTick 101 = .ok (.getfield 108, 3) := by decide +kernel
theorem dX7_passTick_104 : decode cX7_passTick 104 = .ok (.aload_n 0, 1) := by decide +kernel
theorem dX7_passTick_105 : decode cX7_passTick 105 = .ok (.getfield 18, 3) := by decide +kernel
theorem dX7_passTick_108 : decode cX7_passTick 108 = .ok (.aload_n 0, 1) := by decide +kernel
theorem dX7_passTick_109 : decode cX7_passTick 109 = .ok (.getfield 9, 3) := by decide +kernel
theorem dX7_passTick_112 : decode cX7_passTick 112 = .ok (.invokevirtual 111, 3) := by decide +kernel
theorem dX7_passTick_115 : decode cX7_passTick 115 = .ok (.return_, 1) := by decide +kernel
set_option maxRecDepth 20000 in
theorem ggX7_followAcceptedCode_X8_sectorOf : GoodIn wsX7_followAcceptedCode wsX8_sectorOf := goodIn_r _ [9, 10, 11, 12, 8, 13] (by decide +kernel) (by decide +kernel)
set_option maxRecDepth 20000 in
theorem gX7_followAcceptedCode_X8_sectorOf_n118 : GoodIn wsX7_followAcceptedCode (wsX8_sectorOf) := ggX7_followAcceptedCode_X8_sectorOf
set_option maxRecDepth 20000 in
theorem ggX7_followAcceptedCode_X3_addIllegalCode : GoodIn wsX7_followAcceptedCode wsX3_addIllegalCode := goodIn_r _ [18, 19, 20, 21, 22, 17, 23, 24, 25, 80, 81, 82, 83, 84, 85, 86, 87] (by decide +kernel) (by decide +kernel)
set_option maxRecDepth 20000 in
theorem gX7_followAcceptedCode_X3_addIllegalCode : GoodIn wsX7_followAcceptedCode (wsV RX7 122 RX3 yX3_addIllegalCode wsX3_addIllegalCode) := goodIn_app (goodIn_of _ (by decide +kernel)) ggX7_followAcceptedCode_X3_addIllegalCode
set_option maxRecDepth 20000 in
theorem ggX7_followAcceptedCode_X3_addSkip : GoodIn wsX7_followAcceptedCode wsX3_addSkip := goodIn_r _ [29, 30, 20, 21, 22, 17, 23, 24, 25, 80, 81, 82, 83, 84, 85, 86, 87] (by decide +kernel) (by decide +kernel)
set_option maxRecDepth 20000 in
theorem gX7_followAcceptedCode_X3_addSkip : GoodIn wsX7_followAcceptedCode (wsV RX7 125 RX3 yX3_addSkip wsX3_addSkip) := goodIn_app (goodIn_of _ (by decide +kernel)) ggX7_followAcceptedCode_X3_addSkip
set_option maxRecDepth 20000 in
theorem ggX7_followAcceptedCode_X3_addEdge : GoodIn wsX7_followAcceptedCode wsX3_addEdge := goodIn_r _ [34, 35, 36, 25, 37, 24, 38, 39, 40, 17, 41, 42, 80, 81, 82, 83, 84, 85, 86, 87] (by decide +kernel) (by decide +kernel)
set_option maxRecDepth 20000 in
theorem gX7_followAcceptedCode_X3_addEdge : GoodIn wsX7_followAcceptedCode (wsV RX7 128 RX3 yX3_addEdge wsX3_addEdge) := goodIn_app (goodIn_of _ (by decide +kernel)) ggX7_followAcceptedCode_X3_addEdge
set_option maxRecDepth 20000 in
theorem ggX7_followAcceptedCode_X1_judgeEdge : GoodIn wsX7_followAcceptedCode wsX1_judgeEdge := goodIn_r _ [47, 48, 49, 50, 51, 52, 46, 53, 54, 55, 56, 57, 58, 59, 60, 61, 62, 63, 64, 65, 66, 67, 88, 89, 90, 91, 92, 93, 94, 95] (by decide +kernel) (by decide +kernel)
set_option maxRecDepth 20000 in
theorem gX7_followAcceptedCode_X1_judgeEdge : GoodIn wsX7_followAcceptedCode (wsV RX7 132 RX1 yX1_judgeEdge wsX1_judgeEdge) := goodIn_app (goodIn_of _ (by decide +kernel)) ggX7_followAcceptedCode_X1_judgeEdge
theorem dX7_followAcceptedCode_0 : decode cX7_followAcceptedCode 0 = .ok (.aload_n 0, 1) := by decide +kernel
theorem dX7_followAcceptedCode_1 : decode cX7_followAcceptedCode 1 = .ok (.getfield 32, 3) := by decide +kernel
theorem dX7_followAcceptedCode_4 : decode cX7_followAcceptedCode 4 = .ok (.getfield 108, 3) := by decide +kernel
theorem dX7_followAcceptedCode_7 : decode cX7_followAcceptedCode 7 = .ok (.istore_n 1, 1) := by decide +kernel
theorem dX7_followAcceptedCode_8 : decode cX7_followAcceptedCode 8 = .ok (.aload_n 0, 1) := by decide +kernel
theorem dX7_followAcceptedCode_9 : decode cX7_followAcceptedCode 9 = .ok (.getfield 32, 3) := by decide +kernel
theorem dX7_followAcceptedCode_12 : decode cX7_followAcceptedCode 12 = .ok (.getfield 115, 3) := by decide +kernel
theorem dX7_followAcceptedCode_15 : decode cX7_followAcceptedCode 15 = .ok (.invokestatic 118, 3) := by decide +kernel
theorem dX7_followAcceptedCode_18 : decode cX7_followAcceptedCode 18 = .ok (.istore_n 2, 1) := by decide +kernel
theorem dX7_followAcceptedCode_19 : decode cX7_followAcceptedCode 19 = .ok (.aload_n 0, 1) := by decide +kernel
theorem dX7_followAcceptedCode_20 : decode cX7_followAcceptedCode 20 = .ok (.getfield 32, 3) := by decide +kernel
theorem dX7_followAcceptedCode_23 : decode cX7_followAcceptedCode 23 = .ok (.iload_n 2, 1) := by decide +kernel
theorem dX7_followAcceptedCode_24 : decode cX7_followAcceptedCode 24 = .ok (.putfield 108, 3) := by decide +kernel
theorem dX7_followAcceptedCode_27 : decode cX7_followAcceptedCode 27 = .ok (.iload_n 2, 1) := by decide +kernel
theorem dX7_followAcceptedCode_28 : decode cX7_followAcceptedCode 28 = .ok (.iconst (-1), 1) := by decide +kernel
theorem dX7_followAcceptedCode_29 : decode cX7_followAcceptedCode 29 = .ok (.if_icmp .ne 12, 3) := by decide +kernel
theorem dX7_followAcceptedCode_32 : decode cX7_followAcceptedCode 32 = .ok (.aload_n 0, 1) := by decide +kernel
theorem dX7_followAcceptedCode_33 : decode cX7_followAcceptedCode 33 = .ok (.getfield 39, 3) := by decide +kernel
theorem dX7_followAcceptedCode_36 : decode cX7_followAcceptedCode 36 = .ok (.invokevirtual 122, 3) := by decide +kernel
theorem dX7_followAcceptedCode_39 : decode cX7_followAcceptedCode 39 = .ok (.iconst 0, 1) := by decide +kernel
theorem dX7_followAcceptedCode_40 : decode cX7_followAcceptedCode 40 = .ok (.ireturn, 1) := by decide +kernel
theorem dX7_followAcceptedCode_41 : decode cX7_followAcceptedCode 41 = .ok (.iload_n 1, 1) := by decide +kernel
theorem dX7_followAcceptedCode_42 : decode cX7_followAcceptedCode 42 = .ok (.iconst (-1), 1) := by decide +kernel
theorem dX7_followAcceptedCode_43 : decode cX7_followAcceptedCode 43 = .ok (.if_icmp .eq 8, 3) := by decide +kernel
theorem dX7_followAcceptedCode_46 : decode cX7_followAcceptedCode 46 = .ok (.iload_n 1, 1) := by decide +kernel
theorem dX7_followAcceptedCode_47 : decode cX7_followAcceptedCode 47 = .ok (.iload_n 2, 1) := by decide +kernel
theorem dX7_followAcceptedCode_48 : decode cX7_followAcceptedCode 48 = .ok (.if_icmp .ne 5, 3) := by decide +kernel
theorem dX7_followAcceptedCode_51 : decode cX7_followAcceptedCode 51 = .ok (.iconst 0, 1) := by decide +kernel
theorem dX7_followAcceptedCode_52 : decode cX7_followAcceptedCode 52 = .ok (.ireturn, 1) := by decide +kernel
theorem dX7_followAcceptedCode_53 : decode cX7_followAcceptedCode 53 = .ok (.iload_n 2, 1) := by decide +kernel
theorem dX7_followAcceptedCode_54 : decode cX7_followAcceptedCode 54 = .ok (.iload_n 1, 1) := by decide +kernel
theorem dX7_followAcceptedCode_55 : decode cX7_followAcceptedCode 55 = .ok (.isub, 1) := by decide +kernel
theorem dX7_followAcceptedCode_56 : decode cX7_followAcceptedCode 56 = .ok (.bipush 6, 2) := by decide +kernel
theorem dX7_followAcceptedCode_58 : decode cX7_followAcceptedCode 58 = .ok (.iadd, 1) := by decide +kernel
theorem dX7_followAcceptedCode_59 : decode cX7_followAcceptedCode 59 = .ok (.bipush 6, 2) := by decide +kernel
theorem dX7_followAcceptedCode_61 : decode cX7_followAcceptedCode 61 = .ok (.irem, 1) := by decide +kernel
theorem dX7_followAcceptedCode_62 : decode cX7_followAcceptedCode 62 = .ok (.istore_n 3, 1) := by decide +kernel
theorem dX7_followAcceptedCode_63 : decode cX7_followAcceptedCode 63 = .ok (.iload_n 3, 1) := by decide +kernel
theorem dX7_followAcceptedCode_64 : decode cX7_followAcceptedCode 64 = .ok (.iconst 1, 1) := by decide +kernel
theorem dX7_followAcceptedCode_65 : decode cX7_followAcceptedCode 65 = .ok (.if_icmp .eq 17, 3) := by decide +kernel
theorem dX7_followAcceptedCode_68 : decode cX7_followAcceptedCode 68 = .ok (.iload_n 3, 1) := by decide +kernel
theorem dX7_followAcceptedCode_69 : decode cX7_followAcceptedCode 69 = .ok (.iconst 5, 1) := by decide +kernel
theorem dX7_followAcceptedCode_70 : decode cX7_followAcceptedCode 70 = .ok (.if_icmp .eq 12, 3) := by decide +kernel
theorem dX7_followAcceptedCode_73 : decode cX7_followAcceptedCode 73 = .ok (.aload_n 0, 1) := by decide +kernel
theorem dX7_followAcceptedCode_74 : decode cX7_followAcceptedCode 74 = .ok (.getfield 39, 3) := by decide +kernel
theorem dX7_followAcceptedCode_77 : decode cX7_followAcceptedCode 77 = .ok (.invokevirtual 125, 3) := by decide +kernel
theorem dX7_followAcceptedCode_80 : decode cX7_followAcceptedCode 80 = .ok (.iconst 0, 1) := by decide +kernel
theorem dX7_followAcceptedCode_81 : decode cX7_followAcceptedCode 81 = .ok (.ireturn, 1) := by decide +kernel
theorem dX7_followAcceptedCode_82 : decode cX7_followAcceptedCode 82 = .ok (.iload_n 3, 1) := by decide +kernel
theorem dX7_followAcceptedCode_83 : decode cX7_followAcceptedCode 83 = .ok (.iconst 1, 1) := by decide +kernel
theorem dX7_followAcceptedCode_84 : decode cX7_followAcceptedCode 84 = .ok (.if_icmp .ne 7, 3) := by decide +kernel
theorem dX7_followAcceptedCode_87 : decode cX7_followAcceptedCode 87 = .ok (.iconst 1, 1) := by decide +kernel
theorem dX7_followAcceptedCode_88 : decode cX7_followAcceptedCode 88 = .ok (.goto 4, 3) := by decide +kernel
theorem dX7_followAcceptedCode_91 : decode cX7_followAcceptedCode 91 = .ok (.iconst (-1), 1) := by decide +kernel
theorem dX7_followAcceptedCode_92 : decode cX7_followAcceptedCode 92 = .ok (.istore 4, 2) := by decide +kernel
theorem dX7_followAcceptedCode_94 : decode cX7_followAcceptedCode 94 = .ok (.aload_n 0, 1) := by decide +kernel
theorem dX7_followAcceptedCode_95 : decode cX7_followAcceptedCode 95 = .ok (.getfield 39, 3) := by decide +kernel
theorem dX7_followAcceptedCode_98 : decode cX7_followAcceptedCode 98 = .ok (.iload 4, 2) := by decide +kernel
theorem dX7_followAcceptedCode_100 : decode cX7_followAcceptedCode 100 = .ok (.aload_n 0, 1) := by decide +kernel
theorem dX7_followAcceptedCode_101 : decode cX7_followAcceptedCode 101 = .ok (.getfield 9, 3) := by decide +kernel
theorem dX7_followAcceptedCode_104 : decode cX7_followAcceptedCode 104 = .ok (.invokevirtual 128, 3) := by decide +kernel
theorem dX7_followAcceptedCode_107 : decode cX7_followAcceptedCode 107 = .ok (.aload_n 0, 1) := by decide +kernel
theorem dX7_followAcceptedCode_108 : decode cX7_followAcceptedCode 108 = .ok (.getfield 46, 3) := by decide +kernel
theorem dX7_followAcceptedCode_111 : decode cX7_followAcceptedCode 111 = .ok (.iload 4, 2) := by decide +kernel
theorem dX7_followAcceptedCode_113 : decode cX7_followAcceptedCode 113 = .ok (.aload_n 0, 1) := by decide +kernel
theorem dX7_followAcceptedCode_114 : decode cX7_followAcceptedCode 114 = .ok (.getfield 9, 3) := by decide +kernel
theorem dX7_followAcceptedCode_117 : decode cX7_followAcceptedCode 117 = .ok (.iload_n 2, 1) := by decide +kernel
theorem dX7_followAcceptedCode_118 : decode cX7_followAcceptedCode 118 = .ok (.invokevirtual 132, 3) := by decide +kernel
theorem dX7_followAcceptedCode_121 : decode cX7_followAcceptedCode 121 = .ok (.iconst 1, 1) := by decide +kernel
theorem dX7_followAcceptedCode_122 : decode cX7_followAcceptedCode 122 = .ok (.ireturn, 1) := by decide +kernel
set_option maxRecDepth 20000 in
theorem ggX7_watchTimes_X1_isDriving : GoodIn wsX7_watchTimes wsX1_isDriving := goodIn_r _ [10, 11, 50, 51, 52, 53, 54, 55, 56, 57] (by decide +kernel) (by decide +kernel)
set_option maxRecDepth 20000 in
theorem gX7_watchTimes_X1_isDriving : GoodIn wsX7_watchTimes (wsV RX7 136 RX1 yX1_isDriving wsX1_isDriving) := goodIn_app (goodIn_of _ (by decide +kernel)) ggX7_watchTimes_X1_isDriving
set_option maxRecDepth 20000 in
theorem ggX7_watchTimes_X7_watchIllegalTime : GoodIn wsX7_watchTimes wsX7_watchIllegalTime := goodIn_r _ [16, 1, 2, 17, 4, 18, 19, 20, 21, 9, 22, 23, 24, 25, 26, 27, 28, 29, 30, 11, 31, 32, 33, 43, 44, 45, 46, 47, 48, 49, 50, 51, 52, 53, 54, 55, 56, 57, 58, 59, 60, 61, 62] (by decide +kernel) (by decide +kernel)
set_option maxRecDepth 20000 in
theorem gX7_watchTimes_X7_watchIllegalTime : GoodIn wsX7_watchTimes (wsV RX7 145 RX7 yX7_watchIllegalTime wsX7_watchIllegalTime) := goodIn_app (goodIn_of _ (by decide +kernel)) ggX7_watchTimes_X7_watchIllegalTime
set_option maxRecDepth 20000 in
theorem ggX7_watchTimes_X7_watchIdleTime : GoodIn wsX7_watchTimes wsX7_watchIdleTime := goodIn_r _ [37, 1, 38, 39, 3, 40, 17, 41, 42, 19, 20, 21, 9, 22, 23, 24, 25, 26, 27, 28, 29, 30, 11, 31, 32, 33, 43, 44, 45, 46, 47, 48, 49, 63, 64, 65, 66, 67, 50, 51, 52, 53, 54, 55, 56, 57, 68, 69, 70, 71, 72, 73, 74, 75] (by decide +kernel) (by decide +kernel)
set_option maxRecDepth 20000 in
theorem gX7_watchTimes_X7_watchIdleTime : GoodIn wsX7_watchTimes (wsV RX7 148 RX7 yX7_watchIdleTime wsX7_watchIdleTime) := goodIn_app (goodIn_of _ (by decide +kernel)) ggX7_watchTimes_X7_watchIdleTime
theorem dX7_watchTimes_0 : decode cX7_watchTimes 0 = .ok (.aload_n 0, 1) := by decide +kernel
theorem dX7_watchTimes_1 : decode cX7_watchTimes 1 = .ok (.getfield 46, 3) := by decide +kernel
theorem dX7_watchTimes_4 : decode cX7_watchTimes 4 = .ok (.invokevirtual 136, 3) := by decide +kernel
theorem dX7_watchTimes_7 : decode cX7_watchTimes 7 = .ok (.ifCond .ne 22, 3) := by decide +kernel
theorem dX7_watchTimes_10 : decode cX7_watchTimes 10 = .ok (.aload_n 0, 1) := by decide +kernel
theorem dX7_watchTimes_11 : decode cX7_watchTimes 11 = .ok (.getfield 46, 3) := by decide +kernel
theorem dX7_watchTimes_14 : decode cX7_watchTimes 14 = .ok (.iconst 0, 1) := by decide +kernel
theorem dX7_watchTimes_15 : decode cX7_watchTimes 15 = .ok (.putfield 139, 3) := by decide +kernel
theorem dX7_watchTimes_18 : decode cX7_watchTimes 18 = .ok (.aload_n 0, 1) := by decide +kernel
theorem dX7_watchTimes_19 : decode cX7_watchTimes 19 = .ok (.getfield 46, 3) := by decide +kernel
theorem dX7_watchTimes_22 : decode cX7_watchTimes 22 = .ok (.iconst 0, 1) := by decide +kernel
theorem dX7_watchTimes_23 : decode cX7_watchTimes 23 = .ok (.putfield 142, 3) := by decide +kernel
theorem dX7_watchTimes_26 : decode cX7_watchTimes 26 = .ok (.goto 34, 3) := by decide +kernel
theorem dX7_watchTimes_29 : decode cX7_watchTimes 29 = .ok (.aload_n 0, 1) := by decide +kernel
theorem dX7_watchTimes_30 : decode cX7_watchTimes 30 = .ok (.getfield 32, 3) := by decide +kernel
theorem dX7_watchTimes_33 : decode cX7_watchTimes 33 = .ok (.getfield 108, 3) := by decide +kernel
theorem dX7_watchTimes_36 : decode cX7_watchTimes 36 = .ok (.iconst (-1), 1) := by decide +kernel
theorem dX7_watchTimes_37 : decode cX7_watchTimes 37 = .ok (.if_icmp .ne 10, 3) := by decide +kernel
theorem dX7_watchTimes_40 : decode cX7_watchTimes 40 = .ok (.aload_n 0, 1) := by decide +kernel
theorem dX7_watchTimes_41 : decode cX7_watchTimes 41 = .ok (.invokevirtual 145, 3) := by decide +kernel
theorem dX7_watchTimes_44 : decode cX7_watchTimes 44 = .ok (.goto 16, 3) := by decide +kernel
theorem dX7_watchTimes_47 : decode cX7_watchTimes 47 = .ok (.aload_n 0, 1) := by decide +kernel
theorem dX7_watchTimes_48 : decode cX7_watchTimes 48 = .ok (.getfield 46, 3) := by decide +kernel
theorem dX7_watchTimes_51 : decode cX7_watchTimes 51 = .ok (.iconst 0, 1) := by decide +kernel
theorem dX7_watchTimes_52 : decode cX7_watchTimes 52 = .ok (.putfield 139, 3) := by decide +kernel
theorem dX7_watchTimes_55 : decode cX7_watchTimes 55 = .ok (.aload_n 0, 1) := by decide +kernel
theorem dX7_watchTimes_56 : decode cX7_watchTimes 56 = .ok (.iload_n 1, 1) := by decide +kernel
theorem dX7_watchTimes_57 : decode cX7_watchTimes 57 = .ok (.invokevirtual 148, 3) := by decide +kernel
theorem dX7_watchTimes_60 : decode cX7_watchTimes 60 = .ok (.return_, 1) := by decide +kernel
set_option maxRecDepth 20000 in
theorem ggX7_watchIllegalTime_X1_raiseFault : GoodIn wsX7_watchIllegalTime wsX1_raiseFault := goodIn_r _ [10, 11, 12, 13, 14, 15, 16, 17, 9, 18, 19, 20, 21, 22, 30, 31, 32, 33, 34, 35, 36, 37] (by decide +kernel) (by decide +kernel)
set_option maxRecDepth 20000 in
theorem gX7_watchIllegalTime_X1_raiseFault : GoodIn wsX7_watchIllegalTime (wsV RX7 151 RX1 yX1_raiseFault wsX1_raiseFault) := goodIn_app (goodIn_of _ (by decide +kernel)) ggX7_watchIllegalTime_X1_raiseFault
theorem dX7_watchIllegalTime_0 : decode cX7_watchIllegalTime 0 = .ok (.aload_n 0, 1) := by decide +kernel
theorem dX7_watchIllegalTime_1 : decode cX7_watchIllegalTime 1 = .ok (.getfield 46, 3) := by decide +kernel
theorem dX7_watchIllegalTime_4 : decode cX7_watchIllegalTime 4 = .ok (.dup, 1) := by decide +kernel
theorem dX7_watchIllegalTime_5 : decode cX7_watchIllegalTime 5 = .ok (.getfield 139, 3) := by decide +kernel
theorem dX7_watchIllegalTime_8 : decode cX7_watchIllegalTime 8 = .ok (.iconst 1, 1) := by decide +kernel
theorem dX7_watchIllegalTime_9 : decode cX7_watchIllegalTime 9 = .ok (.iadd, 1) := by decide +kernel
theorem dX7_watchIllegalTime_10 : decode cX7_watchIllegalTime 10 = .ok (.putfield 139, 3) := by decide +kernel
theorem dX7_watchIllegalTime_13 : decode cX7_watchIllegalTime 13 = .ok (.aload_n 0, 1) := by decide +kernel
theorem dX7_watchIllegalTime_14 : decode cX7_watchIllegalTime 14 = .ok (.getfield 46, 3) := by decide +kernel
theorem dX7_watchIllegalTime_17 : decode cX7_watchIllegalTime 17 = .ok (.getfield 139, 3) := by decide +kernel
theorem dX7_watchIllegalTime_20 : decode cX7_watchIllegalTime 20 = .ok (.bipush 20, 2) := by decide +kernel
theorem dX7_watchIllegalTime_22 : decode cX7_watchIllegalTime 22 = .ok (.if_icmp .lt 22, 3) := by decide +kernel
theorem dX7_watchIllegalTime_25 : decode cX7_watchIllegalTime 25 = .ok (.aload_n 0, 1) := by decide +kernel
theorem dX7_watchIllegalTime_26 : decode cX7_watchIllegalTime 26 = .ok (.getfield 46, 3) := by decide +kernel
theorem dX7_watchIllegalTime_29 : decode cX7_watchIllegalTime 29 = .ok (.iconst 1, 1) := by decide +kernel
theorem dX7_watchIllegalTime_30 : decode cX7_watchIllegalTime 30 = .ok (.aload_n 0, 1) := by decide +kernel
theorem dX7_watchIllegalTime_31 : decode cX7_watchIllegalTime 31 = .ok (.getfield 9, 3) := by decide +kernel
theorem dX7_watchIllegalTime_34 : decode cX7_watchIllegalTime 34 = .ok (.aload_n 0, 1) := by decide +kernel
theorem dX7_watchIllegalTime_35 : decode cX7_watchIllegalTime 35 = .ok (.getfield 32, 3) := by decide +kernel
theorem dX7_watchIllegalTime_38 : decode cX7_watchIllegalTime 38 = .ok (.getfield 115, 3) := by decide +kernel
theorem dX7_watchIllegalTime_41 : decode cX7_watchIllegalTime 41 = .ok (.invokevirtual 151, 3) := by decide +kernel
theorem dX7_watchIllegalTime_44 : decode cX7_watchIllegalTime 44 = .ok (.return_, 1) := by decide +kernel
set_option maxRecDepth 20000 in
theorem ggX7_watchIdleTime_X1_raiseFault : GoodIn wsX7_watchIdleTime wsX1_raiseFault := goodIn_r _ [13, 14, 15, 16, 17, 18, 19, 20, 12, 21, 22, 23, 24, 25, 38, 39, 40, 41, 42, 43, 44, 45] (by decide +kernel) (by decide +kernel)
set_option maxRecDepth 20000 in
theorem gX7_watchIdleTime_X1_raiseFault : GoodIn wsX7_watchIdleTime (wsV RX7 151 RX1 yX1_raiseFault wsX1_raiseFault) := goodIn_app (goodIn_of _ (by decide +kernel)) ggX7_watchIdleTime_X1_raiseFault
theorem dX7_watchIdleTime_0 : decode cX7_watchIdleTime 0 = .ok (.aload_n 0, 1) := by decide +kernel
theorem dX7_watchIdleTime_1 : decode cX7_watchIdleTime 1 = .ok (.getfield 46, 3) := by decide +kernel
theorem dX7_watchIdleTime_4 : decode cX7_watchIdleTime 4 = .ok (.iload_n 1, 1) := by decide +kernel
theorem dX7_watchIdleTime_5 : decode cX7_watchIdleTime 5 = .ok (.ifCond .ne 13, 3) := by decide +kernel
theorem dX7_watchIdleTime_8 : decode cX7_watchIdleTime 8 = .ok (.aload_n 0, 1) := by decide +kernel
theorem dX7_watchIdleTime_9 : decode cX7_watchIdleTime 9 = .ok (.getfield 18, 3) := by decide +kernel
theorem dX7_watchIdleTime_12 : decode cX7_watchIdleTime 12 = .ok (.getfield 154, 3) := by decide +kernel
theorem dX7_watchIdleTime_15 : decode cX7_watchIdleTime 15 = .ok (.ifCond .ne 7, 3) := by decide +kernel
theorem dX7_watchIdleTime_18 : decode cX7_watchIdleTime 18 = .ok (.iconst 0, 1) := by decide +kernel
theorem dX7_watchIdleTime_19 : decode cX7_watchIdleTime 19 = .ok (.goto 12, 3) := by decide +kernel
theorem dX7_watchIdleTime_22 : decode cX7_watchIdleTime 22 = .ok (.aload_n 0, 1) := by decide +kernel
theorem dX7_watchIdleTime_23 : decode cX7_watchIdleTime 23 = .ok (.getfield 46, 3) := by decide +kernel
theorem dX7_watchIdleTime_26 : decode cX7_watchIdleTime 26 = .ok (.getfield 142, 3) := by decide +kernel
theorem dX7_watchIdleTime_29 : decode cX7_watchIdleTime 29 = .ok (.iconst 1, 1) := by decide +kernel
theorem dX7_watchIdleTime_30 : decode cX7_watchIdleTime 30 = .ok (.iadd, 1) := by decide +kernel
theorem dX7_watchIdleTime_31 : decode cX7_watchIdleTime 31 = .ok (.putfield 142, 3) := by decide +kernel
theorem dX7_watchIdleTime_34 : decode cX7_watchIdleTime 34 = .ok (.aload_n 0, 1) := by decide +kernel
theorem dX7_watchIdleTime_35 : decode cX7_watchIdleTime 35 = .ok (.getfield 46, 3) := by decide +kernel
theorem dX7_watchIdleTime_38 : decode cX7_watchIdleTime 38 = .ok (.getfield 142, 3) := by decide +kernel
theorem dX7_watchIdleTime_41 : decode cX7_watchIdleTime 41 = .ok (.aload_n 0, 1) := by decide +kernel
theorem dX7_watchIdleTime_42 : decode cX7_watchIdleTime 42 = .ok (.getfield 18, 3) := by decide +kernel
theorem dX7_watchIdleTime_45 : decode cX7_watchIdleTime 45 = .ok (.getfield 157, 3) := by decide +kernel
theorem dX7_watchIdleTime_48 : decode cX7_watchIdleTime 48 = .ok (.if_icmp .lt 22, 3) := by decide +kernel
theorem dX7_watchIdleTime_51 : decode cX7_watchIdleTime 51 = .ok (.aload_n 0, 1) := by decide +kernel
theorem dX7_watchIdleTime_52 : decode cX7_watchIdleTime 52 = .ok (.getfield 46, 3) := by decide +kernel
theorem dX7_watchIdleTime_55 : decode cX7_watchIdleTime 55 = .ok (.iconst 3, 1) := by decide +kernel
theorem dX7_watchIdleTime_56 : decode cX7_watchIdleTime 56 = .ok (.aload_n 0, 1) := by decide +kernel
theorem dX7_watchIdleTime_57 : decode cX7_watchIdleTime 57 = .ok (.getfield 9, 3) := by decide +kernel
theorem dX7_watchIdleTime_60 : decode cX7_watchIdleTime 60 = .ok (.aload_n 0, 1) := by decide +kernel
