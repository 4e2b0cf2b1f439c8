theorem dX0_init_0 : decode cX0_init 0 = .ok (.aload_n 0, 1) := by decide +kernel
theorem dX0_init_1 : decode cX0_init 1 = .ok (.invokespecial 3, 3) := by decide +kernel
theorem dX0_init_4 : decode cX0_init 4 = .ok (.aload_n 0, 1) := by decide +kernel
theorem dX0_init_5 : decode cX0_init 5 = .ok (.iconst 0, 1) := by decide +kernel
theorem dX0_init_6 : decode cX0_init 6 = .ok (.putfield 9, 3) := by decide +kernel
theorem dX0_init_9 : decode cX0_init 9 = .ok (.aload_n 0, 1) := by decide +kernel
theorem dX0_init_10 : decode cX0_init 10 = .ok (.iconst 3, 1) := by decide +kernel
theorem dX0_init_11 : decode cX0_init 11 = .ok (.newarray .int, 2) := by decide +kernel
theorem dX0_init_13 : decode cX0_init 13 = .ok (.putfield 15, 3) := by decide +kernel
theorem dX0_init_16 : decode cX0_init 16 = .ok (.aload_n 0, 1) := by decide +kernel
theorem dX0_init_17 : decode cX0_init 17 = .ok (.iconst 3, 1) := by decide +kernel
theorem dX0_init_18 : decode cX0_init 18 = .ok (.newarray .int, 2) := by decide +kernel
theorem dX0_init_20 : decode cX0_init 20 = .ok (.putfield 19, 3) := by decide +kernel
theorem dX0_init_23 : decode cX0_init 23 = .ok (.aload_n 0, 1) := by decide +kernel
theorem dX0_init_24 : decode cX0_init 24 = .ok (.iconst 3, 1) := by decide +kernel
theorem dX0_init_25 : decode cX0_init 25 = .ok (.newarray .int, 2) := by decide +kernel
theorem dX0_init_27 : decode cX0_init 27 = .ok (.putfield 22, 3) := by decide +kernel
theorem dX0_init_30 : decode cX0_init 30 = .ok (.aload_n 0, 1) := by decide +kernel
theorem dX0_init_31 : decode cX0_init 31 = .ok (.iconst 3, 1) := by decide +kernel
theorem dX0_init_32 : decode cX0_init 32 = .ok (.newarray .int, 2) := by decide +kernel
theorem dX0_init_34 : decode cX0_init 34 = .ok (.dup, 1) := by decide +kernel
theorem dX0_init_35 : decode cX0_init 35 = .ok (.iconst 0, 1) := by decide +kernel
theorem dX0_init_36 : decode cX0_init 36 = .ok (.sipush (-1000), 3) := by decide +kernel
theorem dX0_init_39 : decode cX0_init 39 = .ok (.iastore, 1) := by decide +kernel
theorem dX0_init_40 : decode cX0_init 40 = .ok (.dup, 1) := by decide +kernel
theorem dX0_init_41 : decode cX0_init 41 = .ok (.iconst 1, 1) := by decide +kernel
theorem dX0_init_42 : decode cX0_init 42 = .ok (.sipush (-1000), 3) := by decide +kernel
theorem dX0_init_45 : decode cX0_init 45 = .ok (.iastore, 1) := by decide +kernel
theorem dX0_init_46 : decode cX0_init 46 = .ok (.dup, 1) := by decide +kernel
theorem dX0_init_47 : decode cX0_init 47 = .ok (.iconst 2, 1) := by decide +kernel
theorem dX0_init_48 : decode cX0_init 48 = .ok (.sipush (-1000), 3) := by decide +kernel
theorem dX0_init_51 : decode cX0_init 51 = .ok (.iastore, 1) := by decide +kernel
theorem dX0_init_52 : decode cX0_init 52 = .ok (.putfield 25, 3) := by decide +kernel
theorem dX0_init_55 : decode cX0_init 55 = .ok (.aload_n 0, 1) := by decide +kernel
theorem dX0_init_56 : decode cX0_init 56 = .ok (.iconst 3, 1) := by decide +kernel
theorem dX0_init_57 : decode cX0_init 57 = .ok (.newarray .int, 2) := by decide +kernel
theorem dX0_init_59 : decode cX0_init 59 = .ok (.dup, 1) := by decide +kernel
theorem dX0_init_60 : decode cX0_init 60 = .ok (.iconst 0, 1) := by decide +kernel
theorem dX0_init_61 : decode cX0_init 61 = .ok (.sipush (-1000), 3) := by decide +kernel
theorem dX0_init_64 : decode cX0_init 64 = .ok (.iastore, 1) := by decide +kernel
theorem dX0_init_65 : decode cX0_init 65 = .ok (.dup, 1) := by decide +kernel
theorem dX0_init_66 : decode cX0_init 66 = .ok (.iconst 1, 1) := by decide +kernel
theorem dX0_init_67 : decode cX0_init 67 = .ok (.sipush (-1000), 3) := by decide +kernel
theorem dX0_init_70 : decode cX0_init 70 = .ok (.iastore, 1) := by decide +kernel
theorem dX0_init_71 : decode cX0_init 71 = .ok (.dup, 1) := by decide +kernel
theorem dX0_init_72 : decode cX0_init 72 = .ok (.iconst 2, 1) := by decide +kernel
theorem dX0_init_73 : decode cX0_init 73 = .ok (.sipush (-1000), 3) := by decide +kernel
theorem dX0_init_76 : decode cX0_init 76 = .ok (.iastore, 1) := by decide +kernel
theorem dX0_init_77 : decode cX0_init 77 = .ok (.putfield 28, 3) := by decide +kernel
theorem dX0_init_80 : decode cX0_init 80 = .ok (.return_, 1) := by decide +kernel
theorem dX0_copyFrom_0 : decode cX0_copyFrom 0 = .ok (.aload_n 0, 1) := by decide +kernel
theorem dX0_copyFrom_1 : decode cX0_copyFrom 1 = .ok (.aload_n 1, 1) := by decide +kernel
theorem dX0_copyFrom_2 : decode cX0_copyFrom 2 = .ok (.getfield 9, 3) := by decide +kernel
theorem dX0_copyFrom_5 : decode cX0_copyFrom 5 = .ok (.putfield 9, 3) := by decide +kernel
theorem dX0_copyFrom_8 : decode cX0_copyFrom 8 = .ok (.aload_n 1, 1) := by decide +kernel
theorem dX0_copyFrom_9 : decode cX0_copyFrom 9 = .ok (.getfield 15, 3) := by decide +kernel
theorem dX0_copyFrom_12 : decode cX0_copyFrom 12 = .ok (.iconst 0, 1) := by decide +kernel
theorem dX0_copyFrom_13 : decode cX0_copyFrom 13 = .ok (.aload_n 0, 1) := by decide +kernel
theorem dX0_copyFrom_14 : decode cX0_copyFrom 14 = .ok (.getfield 15, 3) := by decide +kernel
theorem dX0_copyFrom_17 : decode cX0_copyFrom 17 = .ok (.iconst 0, 1) := by decide +kernel
theorem dX0_copyFrom_18 : decode cX0_copyFrom 18 = .ok (.iconst 3, 1) := by decide +kernel
theorem dX0_copyFrom_19 : decode cX0_copyFrom 19 = .ok (.invokestatic 31, 3) := by decide +kernel
theorem dX0_copyFrom_22 : decode cX0_copyFrom 22 = .ok (.aload_n 1, 1) := by decide +kernel
theorem dX0_copyFrom_23 : decode cX0_copyFrom 23 = .ok (.getfield 19, 3) := by decide +kernel
theorem dX0_copyFrom_26 : decode cX0_copyFrom 26 = .ok (.iconst 0, 1) := by decide +kernel
theorem dX0_copyFrom_27 : decode cX0_copyFrom 27 = .ok (.aload_n 0, 1) := by decide +kernel
theorem dX0_copyFrom_28 : decode cX0_copyFrom 28 = .ok (.getfield 19, 3) := by decide +kernel
theorem dX0_copyFrom_31 : decode cX0_copyFrom 31 = .ok (.iconst 0, 1) := by decide +kernel
theorem dX0_copyFrom_32 : decode cX0_copyFrom 32 = .ok (.iconst 3, 1) := by decide +kernel
theorem dX0_copyFrom_33 : decode cX0_copyFrom 33 = .ok (.invokestatic 31, 3) := by decide +kernel
theorem dX0_copyFrom_36 : decode cX0_copyFrom 36 = .ok (.aload_n 1, 1) := by decide +kernel
theorem dX0_copyFrom_37 : decode cX0_copyFrom 37 = .ok (.getfield 22, 3) := by decide +kernel
theorem dX0_copyFrom_40 : decode cX0_copyFrom 40 = .ok (.iconst 0, 1) := by decide +kernel
theorem dX0_copyFrom_41 : decode cX0_copyFrom 41 = .ok (.aload_n 0, 1) := by decide +kernel
theorem dX0_copyFrom_42 : decode cX0_copyFrom 42 = .ok (.getfield 22, 3) := by decide +kernel
theorem dX0_copyFrom_45 : decode cX0_copyFrom 45 = .ok (.iconst 0, 1) := by decide +kernel
theorem dX0_copyFrom_46 : decode cX0_copyFrom 46 = .ok (.iconst 3, 1) := by decide +kernel
theorem dX0_copyFrom_47 : decode cX0_copyFrom 47 = .ok (.invokestatic 31, 3) := by decide +kernel
theorem dX0_copyFrom_50 : decode cX0_copyFrom 50 = .ok (.aload_n 1, 1) := by decide +kernel
theorem dX0_copyFrom_51 : decode cX0_copyFrom 51 = .ok (.getfield 25, 3) := by decide +kernel
theorem dX0_copyFrom_54 : decode cX0_copyFrom 54 = .ok (.iconst 0, 1) := by decide +kernel
theorem dX0_copyFrom_55 : decode cX0_copyFrom 55 = .ok (.aload_n 0, 1) := by decide +kernel
theorem dX0_copyFrom_56 : decode cX0_copyFrom 56 = .ok (.getfield 25, 3) := by decide +kernel
theorem dX0_copyFrom_59 : decode cX0_copyFrom 59 = .ok (.iconst 0, 1) := by decide +kernel
theorem dX0_copyFrom_60 : decode cX0_copyFrom 60 = .ok (.iconst 3, 1) := by decide +kernel
theorem dX0_copyFrom_61 : decode cX0_copyFrom 61 = .ok (.invokestatic 31, 3) := by decide +kernel
theorem dX0_copyFrom_64 : decode cX0_copyFrom 64 = .ok (.aload_n 1, 1) := by decide +kernel
theorem dX0_copyFrom_65 : decode cX0_copyFrom 65 = .ok (.getfield 28, 3) := by decide +kernel
theorem dX0_copyFrom_68 : decode cX0_copyFrom 68 = .ok (.iconst 0, 1) := by decide +kernel
theorem dX0_copyFrom_69 : decode cX0_copyFrom 69 = .ok (.aload_n 0, 1) := by decide +kernel
theorem dX0_copyFrom_70 : decode cX0_copyFrom 70 = .ok (.getfield 28, 3) := by decide +kernel
theorem dX0_copyFrom_73 : decode cX0_copyFrom 73 = .ok (.iconst 0, 1) := by decide +kernel
theorem dX0_copyFrom_74 : decode cX0_copyFrom 74 = .ok (.iconst 3, 1) := by decide +kernel
theorem dX0_copyFrom_75 : decode cX0_copyFrom 75 = .ok (.invokestatic 31, 3) := by decide +kernel
theorem dX0_copyFrom_78 : decode cX0_copyFrom 78 = .ok (.return_, 1) := by decide +kernel
theorem dX0_advancePulse_0 : decode cX0_advancePulse 0 = .ok (.aload_n 0, 1) := by decide +kernel
theorem dX0_advancePulse_1 : decode cX0_advancePulse 1 = .ok (.dup, 1) := by decide +kernel
theorem dX0_advancePulse_2 : decode cX0_advancePulse 2 = .ok (.getfield 9, 3) := by decide +kernel
theorem dX0_advancePulse_5 : decode cX0_advancePulse 5 = .ok (.iconst 1, 1) := by decide +kernel
theorem dX0_advancePulse_6 : decode cX0_advancePulse 6 = .ok (.iadd, 1) := by decide +kernel
theorem dX0_advancePulse_7 : decode cX0_advancePulse 7 = .ok (.putfield 9, 3) := by decide +kernel
theorem dX0_advancePulse_10 : decode cX0_advancePulse 10 = .ok (.aload_n 0, 1) := by decide +kernel
theorem dX0_advancePulse_11 : decode cX0_advancePulse 11 = .ok (.getfield 9, 3) := by decide +kernel
theorem dX0_advancePulse_14 : decode cX0_advancePulse 14 = .ok (.iload_n 1, 1) := by decide +kernel
theorem dX0_advancePulse_15 : decode cX0_advancePulse 15 = .ok (.if_icmp .lt 8, 3) := by decide +kernel
theorem dX0_advancePulse_18 : decode cX0_advancePulse 18 = .ok (.aload_n 0, 1) := by decide +kernel
theorem dX0_advancePulse_19 : decode cX0_advancePulse 19 = .ok (.iconst 0, 1) := by decide +kernel
theorem dX0_advancePulse_20 : decode cX0_advancePulse 20 = .ok (.putfield 9, 3) := by decide +kernel
theorem dX0_advancePulse_23 : decode cX0_advancePulse 23 = .ok (.return_, 1) := by decide +kernel
theorem dX0_isPulseOn_0 : decode cX0_isPulseOn 0 = .ok (.aload_n 0, 1) := by decide +kernel
theorem dX0_isPulseOn_1 : decode cX0_isPulseOn 1 = .ok (.getfield 9, 3) := by decide +kernel
theorem dX0_isPulseOn_4 : decode cX0_isPulseOn 4 = .ok (.aload_n 1, 1) := by decide +kernel
theorem dX0_isPulseOn_5 : decode cX0_isPulseOn 5 = .ok (.getfield 37, 3) := by decide +kernel
theorem dX0_isPulseOn_8 : decode cX0_isPulseOn 8 = .ok (.aload_n 1, 1) := by decide +kernel
theorem dX0_isPulseOn_9 : decode cX0_isPulseOn 9 = .ok (.getfield 42, 3) := by decide +kernel
theorem dX0_isPulseOn_12 : decode cX0_isPulseOn 12 = .ok (.imul, 1) := by decide +kernel
theorem dX0_isPulseOn_13 : decode cX0_isPulseOn 13 = .ok (.bipush 100, 2) := by decide +kernel
theorem dX0_isPulseOn_15 : decode cX0_isPulseOn 15 = .ok (.idiv, 1) := by decide +kernel
theorem dX0_isPulseOn_16 : decode cX0_isPulseOn 16 = .ok (.if_icmp .ge 7, 3) := by decide +kernel
theorem dX0_isPulseOn_19 : decode cX0_isPulseOn 19 = .ok (.iconst 1, 1) := by decide +kernel
theorem dX0_isPulseOn_20 : decode cX0_isPulseOn 20 = .ok (.goto 4, 3) := by decide +kernel
theorem dX0_isPulseOn_23 : decode cX0_isPulseOn 23 = .ok (.iconst 0, 1) := by decide +kernel
theorem dX0_isPulseOn_24 : decode cX0_isPulseOn 24 = .ok (.ireturn, 1) := by decide +kernel
set_option maxRecDepth 20000 in
theorem ggX0_setLegs_X0_isPulseOn : GoodIn wsX0_setLegs wsX0_isPulseOn := goodIn_r _ [6, 7, 8, 9, 37, 38, 39, 40, 41, 42, 32, 33, 34, 35, 36] (by decide +kernel) (by decide +kernel)
set_option maxRecDepth 20000 in
theorem gX0_setLegs_X0_isPulseOn : GoodIn wsX0_setLegs (wsV RX0 45 RX0 yX0_isPulseOn wsX0_isPulseOn) := goodIn_app (goodIn_of _ (by decide +kernel)) ggX0_setLegs_X0_isPulseOn
set_option maxRecDepth 20000 in
theorem ggX0_setLegs_X0_wantedLeg : GoodIn wsX0_setLegs wsX0_wantedLeg := goodIn_r _ [12, 13, 14, 15, 16, 17, 5, 18] (by decide +kernel) (by decide +kernel)
set_option maxRecDepth 20000 in
theorem gX0_setLegs_X0_wantedLeg : GoodIn wsX0_setLegs (va_wsS RX0 49 yX0_wantedLeg wsX0_wantedLeg) := goodIn_app (goodIn_of _ (by decide +kernel)) ggX0_setLegs_X0_wantedLeg
set_option maxRecDepth 20000 in
theorem ggX0_setLegs_X0_afterDeadTime : GoodIn wsX0_setLegs wsX0_afterDeadTime := goodIn_r _ [22, 23, 24, 37, 38, 39, 40, 41, 42] (by decide +kernel) (by decide +kernel)
set_option maxRecDepth 20000 in
theorem gX0_setLegs_X0_afterDeadTime : GoodIn wsX0_setLegs (wsV RX0 56 RX0 yX0_afterDeadTime wsX0_afterDeadTime) := goodIn_app (goodIn_of _ (by decide +kernel)) ggX0_setLegs_X0_afterDeadTime
set_option maxRecDepth 20000 in
theorem ggX0_setLegs_X0_switchLeg : GoodIn wsX0_setLegs wsX0_switchLeg := goodIn_r _ [28, 29, 30, 24, 31, 23, 37, 38, 39, 40, 41, 42] (by decide +kernel) (by decide +kernel)
set_option maxRecDepth 20000 in
theorem gX0_setLegs_X0_switchLeg : GoodIn wsX0_setLegs (wsV RX0 60 RX0 yX0_switchLeg wsX0_switchLeg) := goodIn_app (goodIn_of _ (by decide +kernel)) ggX0_setLegs_X0_switchLeg
theorem dX0_setLegs_0 : decode cX0_setLegs 0 = .ok (.aload_n 0, 1) := by decide +kernel
theorem dX0_setLegs_1 : decode cX0_setLegs 1 = .ok (.aload_n 3, 1) := by decide +kernel
theorem dX0_setLegs_2 : decode cX0_setLegs 2 = .ok (.invokevirtual 45, 3) := by decide +kernel
theorem dX0_setLegs_5 : decode cX0_setLegs 5 = .ok (.istore 5, 2) := by decide +kernel
theorem dX0_setLegs_7 : decode cX0_setLegs 7 = .ok (.iconst 0, 1) := by decide +kernel
theorem dX0_setLegs_8 : decode cX0_setLegs 8 = .ok (.istore 6, 2) := by decide +kernel
theorem dX0_setLegs_10 : decode cX0_setLegs 10 = .ok (.iload 6, 2) := by decide +kernel
theorem dX0_setLegs_12 : decode cX0_setLegs 12 = .ok (.iconst 3, 1) := by decide +kernel
theorem dX0_setLegs_13 : decode cX0_setLegs 13 = .ok (.if_icmp .ge 42, 3) := by decide +kernel
theorem dX0_setLegs_16 : decode cX0_setLegs 16 = .ok (.iload 6, 2) := by decide +kernel
theorem dX0_setLegs_18 : decode cX0_setLegs 18 = .ok (.iload_n 1, 1) := by decide +kernel
theorem dX0_setLegs_19 : decode cX0_setLegs 19 = .ok (.iload_n 2, 1) := by decide +kernel
theorem dX0_setLegs_20 : decode cX0_setLegs 20 = .ok (.iload 5, 2) := by decide +kernel
theorem dX0_setLegs_22 : decode cX0_setLegs 22 = .ok (.invokestatic 49, 3) := by decide +kernel
theorem dX0_setLegs_25 : decode cX0_setLegs 25 = .ok (.istore 7, 2) := by decide +kernel
theorem dX0_setLegs_27 : decode cX0_setLegs 27 = .ok (.aload_n 0, 1) := by decide +kernel
theorem dX0_setLegs_28 : decode cX0_setLegs 28 = .ok (.iload 6, 2) := by decide +kernel
theorem dX0_setLegs_30 : decode cX0_setLegs 30 = .ok (.aload_n 0, 1) := by decide +kernel
theorem dX0_setLegs_31 : decode cX0_setLegs 31 = .ok (.iload 6, 2) := by decide +kernel
theorem dX0_setLegs_33 : decode cX0_setLegs 33 = .ok (.iload 7, 2) := by decide +kernel
theorem dX0_setLegs_35 : decode cX0_setLegs 35 = .ok (.iload 4, 2) := by decide +kernel
theorem dX0_setLegs_37 : decode cX0_setLegs 37 = .ok (.aload_n 3, 1) := by decide +kernel
theorem dX0_setLegs_38 : decode cX0_setLegs 38 = .ok (.getfield 53, 3) := by decide +kernel
theorem dX0_setLegs_41 : decode cX0_setLegs 41 = .ok (.invokevirtual 56, 3) := by decide +kernel
theorem dX0_setLegs_44 : decode cX0_setLegs 44 = .ok (.iload 4, 2) := by decide +kernel
theorem dX0_setLegs_46 : decode cX0_setLegs 46 = .ok (.invokevirtual 60, 3) := by decide +kernel
theorem dX0_setLegs_49 : decode cX0_setLegs 49 = .ok (.iinc 6 1, 3) := by decide +kernel
theorem dX0_setLegs_52 : decode cX0_setLegs 52 = .ok (.goto (-42), 3) := by decide +kernel
theorem dX0_setLegs_55 : decode cX0_setLegs 55 = .ok (.return_, 1) := by decide +kernel
set_option maxRecDepth 20000 in
theorem ggX0_wantedLeg_X8_entry : GoodIn wsX0_wantedLeg wsX8_entry := goodIn_r _ [3] (by decide +kernel) (by decide +kernel)
set_option maxRecDepth 20000 in
theorem gX0_wantedLeg_X8_entry_n67 : GoodIn wsX0_wantedLeg (wsX8_entry) := ggX0_wantedLeg_X8_entry
set_option maxRecDepth 20000 in
theorem ggX0_wantedLeg_X0_drivenLeg : GoodIn wsX0_wantedLeg wsX0_drivenLeg := goodIn_r _ [7] (by decide +kernel) (by decide +kernel)
set_option maxRecDepth 20000 in
theorem gX0_wantedLeg_X0_drivenLeg : GoodIn wsX0_wantedLeg (va_wsS RX0 74 yX0_drivenLeg wsX0_drivenLeg) := goodIn_app (goodIn_of _ (by decide +kernel)) ggX0_wantedLeg_X0_drivenLeg
theorem dX0_wantedLeg_0 : decode cX0_wantedLeg 0 = .ok (.getstatic 64, 3) := by decide +kernel
theorem dX0_wantedLeg_3 : decode cX0_wantedLeg 3 = .ok (.iload_n 2, 1) := by decide +kernel
theorem dX0_wantedLeg_4 : decode cX0_wantedLeg 4 = .ok (.invokestatic 67, 3) := by decide +kernel
theorem dX0_wantedLeg_7 : decode cX0_wantedLeg 7 = .ok (.istore 4, 2) := by decide +kernel
theorem dX0_wantedLeg_9 : decode cX0_wantedLeg 9 = .ok (.getstatic 71, 3) := by decide +kernel
theorem dX0_wantedLeg_12 : decode cX0_wantedLeg 12 = .ok (.iload_n 2, 1) := by decide +kernel
theorem dX0_wantedLeg_13 : decode cX0_wantedLeg 13 = .ok (.invokestatic 67, 3) := by decide +kernel
theorem dX0_wantedLeg_16 : decode cX0_wantedLeg 16 = .ok (.istore 5, 2) := by decide +kernel
theorem dX0_wantedLeg_18 : decode cX0_wantedLeg 18 = .ok (.iload_n 1, 1) := by decide +kernel
theorem dX0_wantedLeg_19 : decode cX0_wantedLeg 19 = .ok (.tableswitch 73 1 4 #[29, 39, 49, 51], 29) := by decide +kernel
theorem dX0_wantedLeg_48 : decode cX0_wantedLeg 48 = .ok (.iload_n 0, 1) := by decide +kernel
theorem dX0_wantedLeg_49 : decode cX0_wantedLeg 49 = .ok (.iload 4, 2) := by decide +kernel
theorem dX0_wantedLeg_51 : decode cX0_wantedLeg 51 = .ok (.iload 5, 2) := by decide +kernel
theorem dX0_wantedLeg_53 : decode cX0_wantedLeg 53 = .ok (.iload_n 3, 1) := by decide +kernel
theorem dX0_wantedLeg_54 : decode cX0_wantedLeg 54 = .ok (.invokestatic 74, 3) := by decide +kernel
theorem dX0_wantedLeg_57 : decode cX0_wantedLeg 57 = .ok (.ireturn, 1) := by decide +kernel
theorem dX0_wantedLeg_58 : decode cX0_wantedLeg 58 = .ok (.iload_n 0, 1) := by decide +kernel
theorem dX0_wantedLeg_59 : decode cX0_wantedLeg 59 = .ok (.iload 5, 2) := by decide +kernel
theorem dX0_wantedLeg_61 : decode cX0_wantedLeg 61 = .ok (.iload 4, 2) := by decide +kernel
theorem dX0_wantedLeg_63 : decode cX0_wantedLeg 63 = .ok (.iload_n 3, 1) := by decide +kernel
theorem dX0_wantedLeg_64 : decode cX0_wantedLeg 64 = .ok (.invokestatic 74, 3) := by decide +kernel
theorem dX0_wantedLeg_67 : decode cX0_wantedLeg 67 = .ok (.ireturn, 1) := by decide +kernel
theorem dX0_wantedLeg_68 : decode cX0_wantedLeg 68 = .ok (.iconst (-1), 1) := by decide +kernel
theorem dX0_wantedLeg_69 : decode cX0_wantedLeg 69 = .ok (.ireturn, 1) := by decide +kernel
theorem dX0_wantedLeg_70 : decode cX0_wantedLeg 70 = .ok (.iload_n 3, 1) := by decide +kernel
theorem dX0_wantedLeg_71 : decode cX0_wantedLeg 71 = .ok (.ifCond .eq 19, 3) := by decide +kernel
theorem dX0_wantedLeg_74 : decode cX0_wantedLeg 74 = .ok (.iload_n 0, 1) := by decide +kernel
theorem dX0_wantedLeg_75 : decode cX0_wantedLeg 75 = .ok (.iload 4, 2) := by decide +kernel
theorem dX0_wantedLeg_77 : decode cX0_wantedLeg 77 = .ok (.if_icmp .eq 9, 3) := by decide +kernel
theorem dX0_wantedLeg_80 : decode cX0_wantedLeg 80 = .ok (.iload_n 0, 1) := by decide +kernel
theorem dX0_wantedLeg_81 : decode cX0_wantedLeg 81 = .ok (.iload 5, 2) := by decide +kernel
theorem dX0_wantedLeg_83 : decode cX0_wantedLeg 83 = .ok (.if_icmp .ne 7, 3) := by decide +kernel
theorem dX0_wantedLeg_86 : decode cX0_wantedLeg 86 = .ok (.iconst (-1), 1) := by decide +kernel
theorem dX0_wantedLeg_87 : decode cX0_wantedLeg 87 = .ok (.goto 4, 3) := by decide +kernel
theorem dX0_wantedLeg_90 : decode cX0_wantedLeg 90 = .ok (.iconst 0, 1) := by decide +kernel
theorem dX0_wantedLeg_91 : decode cX0_wantedLeg 91 = .ok (.ireturn, 1) := by decide +kernel
theorem dX0_wantedLeg_92 : decode cX0_wantedLeg 92 = .ok (.iconst 0, 1) := by decide +kernel
theorem dX0_wantedLeg_93 : decode cX0_wantedLeg 93 = .ok (.ireturn, 1) := by decide +kernel
theorem dX0_drivenLeg_0 : decode cX0_drivenLeg 0 = .ok (.iload_n 0, 1) := by decide +kernel
theorem dX0_drivenLeg_1 : decode cX0_drivenLeg 1 = .ok (.iload_n 2, 1) := by decide +kernel
theorem dX0_drivenLeg_2 : decode cX0_drivenLeg 2 = .ok (.if_icmp .ne 5, 3) := by decide +kernel
theorem dX0_drivenLeg_5 : decode cX0_drivenLeg 5 = .ok (.iconst (-1), 1) := by decide +kernel
theorem dX0_drivenLeg_6 : decode cX0_drivenLeg 6 = .ok (.ireturn, 1) := by decide +kernel
theorem dX0_drivenLeg_7 : decode cX0_drivenLeg 7 = .ok (.iload_n 0, 1) := by decide +kernel
theorem dX0_drivenLeg_8 : decode cX0_drivenLeg 8 = .ok (.iload_n 1, 1) := by decide +kernel
theorem dX0_drivenLeg_9 : decode cX0_drivenLeg 9 = .ok (.if_icmp .ne 11, 3) := by decide +kernel
theorem dX0_drivenLeg_12 : decode cX0_drivenLeg 12 = .ok (.iload_n 3, 1) := by decide +kernel
theorem dX0_drivenLeg_13 : decode cX0_drivenLeg 13 = .ok (.ifCond .eq 7, 3) := by decide +kernel
theorem dX0_drivenLeg_16 : decode cX0_drivenLeg 16 = .ok (.iconst 1, 1) := by decide +kernel
theorem dX0_drivenLeg_17 : decode cX0_drivenLeg 17 = .ok (.goto 4, 3) := by decide +kernel
theorem dX0_drivenLeg_20 : decode cX0_drivenLeg 20 = .ok (.iconst 0, 1) := by decide +kernel
theorem dX0_drivenLeg_21 : decode cX0_drivenLeg 21 = .ok (.ireturn, 1) := by decide +kernel
theorem dX0_afterDeadTime_0 : decode cX0_afterDeadTime 0 = .ok (.iload_n 2, 1) := by decide +kernel
theorem dX0_afterDeadTime_1 : decode cX0_afterDeadTime 1 = .ok (.iconst 1, 1) := by decide +kernel
theorem dX0_afterDeadTime_2 : decode cX0_afterDeadTime 2 = .ok (.if_icmp .ne 18, 3) := by decide +kernel
theorem dX0_afterDeadTime_5 : decode cX0_afterDeadTime 5 = .ok (.iload_n 3, 1) := by decide +kernel
theorem dX0_afterDeadTime_6 : decode cX0_afterDeadTime 6 = .ok (.aload_n 0, 1) := by decide +kernel
theorem dX0_afterDeadTime_7 : decode cX0_afterDeadTime 7 = .ok (.getfield 28, 3) := by decide +kernel
theorem dX0_afterDeadTime_10 : decode cX0_afterDeadTime 10 = .ok (.iload_n 1, 1) := by decide +kernel
theorem dX0_afterDeadTime_11 : decode cX0_afterDeadTime 11 = .ok (.iaload, 1) := by decide +kernel
theorem dX0_afterDeadTime_12 : decode cX0_afterDeadTime 12 = .ok (.isub, 1) := by decide +kernel
theorem dX0_afterDeadTime_13 : decode cX0_afterDeadTime 13 = .ok (.iload 4, 2) := by decide +kernel
theorem dX0_afterDeadTime_15 : decode cX0_afterDeadTime 15 = .ok (.if_icmp .gt 5, 3) := by decide +kernel
theorem dX0_afterDeadTime_18 : decode cX0_afterDeadTime 18 = .ok (.iconst 0, 1) := by decide +kernel
theorem dX0_afterDeadTime_19 : decode cX0_afterDeadTime 19 = .ok (.ireturn, 1) := by decide +kernel
theorem dX0_afterDeadTime_20 : decode cX0_afterDeadTime 20 = .ok (.iload_n 2, 1) := by decide +kernel
theorem dX0_afterDeadTime_21 : decode cX0_afterDeadTime 21 = .ok (.iconst (-1), 1) := by decide +kernel
theorem dX0_afterDeadTime_22 : decode cX0_afterDeadTime 22 = .ok (.if_icmp .ne 18, 3) := by decide +kernel
theorem dX0_afterDeadTime_25 : decode cX0_afterDeadTime 25 = .ok (.iload_n 3, 1) := by decide +kernel
theorem dX0_afterDeadTime_26 : decode cX0_afterDeadTime 26 = .ok (.aload_n 0, 1) := by decide +kernel
theorem dX0_afterDeadTime_27 : decode cX0_afterDeadTime 27 = .ok (.getfield 25, 3) := by decide +kernel
theorem dX0_afterDeadTime_30 : decode cX0_afterDeadTime 30 = .ok (.iload_n 1, 1) := by decide +kernel
theorem dX0_afterDeadTime_31 : decode cX0_afterDeadTime 31 = .ok (.iaload, 1) := by decide +kernel
theorem dX0_afterDeadTime_32 : decode cX0_afterDeadTime 32 = .ok (.isub, 1) := by decide +kernel
theorem dX0_afterDeadTime_33 : decode cX0_afterDeadTime 33 = .ok (.iload 4, 2) := by decide +kernel
theorem dX0_afterDeadTime_35 : decode cX0_afterDeadTime 35 = .ok (.if_icmp .gt 5, 3) := by decide +kernel
theorem dX0_afterDeadTime_38 : decode cX0_afterDeadTime 38 = .ok (.iconst 0, 1) := by decide +kernel
theorem dX0_afterDeadTime_39 : decode cX0_afterDeadTime 39 = .ok (.ireturn, 1) := by decide +kernel
theorem dX0_afterDeadTime_40 : decode cX0_afterDeadTime 40 = .ok (.iload_n 2, 1) := by decide +kernel
theorem dX0_afterDeadTime_41 : decode cX0_afterDeadTime 41 = .ok (.ireturn, 1) := by decide +kernel
theorem dX0_switchLeg_0 : decode cX0_switchLeg 0 = .ok (.aload_n 0, 1) := by decide +kernel
theorem dX0_switchLeg_1 : decode cX0_switchLeg 1 = .ok (.getfield 15, 3) := by decide +kernel
theorem dX0_switchLeg_4 : decode cX0_switchLeg 4 = .ok (.iload_n 1, 1) := by decide +kernel
theorem dX0_switchLeg_5 : decode cX0_switchLeg 5 = .ok (.iload_n 2, 1) := by decide +kernel
theorem dX0_switchLeg_6 : decode cX0_switchLeg 6 = .ok (.iastore, 1) := by decide +kernel
theorem dX0_switchLeg_7 : decode cX0_switchLeg 7 = .ok (.iload_n 2, 1) := by decide +kernel
theorem dX0_switchLeg_8 : decode cX0_switchLeg 8 = .ok (.iconst 1, 1) := by decide +kernel
theorem dX0_switchLeg_9 : decode cX0_switchLeg 9 = .ok (.if_icmp .ne 23, 3) := by decide +kernel
theorem dX0_switchLeg_12 : decode cX0_switchLeg 12 = .ok (.aload_n 0, 1) := by decide +kernel
theorem dX0_switchLeg_13 : decode cX0_switchLeg 13 = .ok (.getfield 19, 3) := by decide +kernel
theorem dX0_switchLeg_16 : decode cX0_switchLeg 16 = .ok (.iload_n 1, 1) := by decide +kernel
theorem dX0_switchLeg_17 : decode cX0_switchLeg 17 = .ok (.dup2, 1) := by decide +kernel
theorem dX0_switchLeg_18 : decode cX0_switchLeg 18 = .ok (.iaload, 1) := by decide +kernel
theorem dX0_switchLeg_19 : decode cX0_switchLeg 19 = .ok (.iconst 1, 1) := by decide +kernel
theorem dX0_switchLeg_20 : decode cX0_switchLeg 20 = .ok (.iadd, 1) := by decide +kernel
theorem dX0_switchLeg_21 : decode cX0_switchLeg 21 = .ok (.iastore, 1) := by decide +kernel
theorem dX0_switchLeg_22 : decode cX0_switchLeg 22 = .ok (.aload_n 0, 1) := by decide +kernel
theorem dX0_switchLeg_23 : decode cX0_switchLeg 23 = .ok (.getfield 25, 3) := by decide +kernel
theorem dX0_switchLeg_26 : decode cX0_switchLeg 26 = .ok (.iload_n 1, 1) := by decide +kernel
theorem dX0_switchLeg_27 : decode cX0_switchLeg 27 = .ok (.iload_n 3, 1) := by decide +kernel
theorem dX0_switchLeg_28 : decode cX0_switchLeg 28 = .ok (.iastore, 1) := by decide +kernel
theorem dX0_switchLeg_29 : decode cX0_switchLeg 29 = .ok (.goto 25, 3) := by decide +kernel
theorem dX0_switchLeg_32 : decode cX0_switchLeg 32 = .ok (.iload_n 2, 1) := by decide +kernel
theorem dX0_switchLeg_33 : decode cX0_switchLeg 33 = .ok (.iconst (-1), 1) := by decide +kernel
theorem dX0_switchLeg_34 : decode cX0_switchLeg 34 = .ok (.if_icmp .ne 20, 3) := by decide +kernel
theorem dX0_switchLeg_37 : decode cX0_switchLeg 37 = .ok (.aload_n 0, 1) := by decide +kernel
theorem dX0_switchLeg_38 : decode cX0_switchLeg 38 = .ok (.getfield 22, 3) := by decide +kernel
theorem dX0_switchLeg_41 : decode cX0_switchLeg 41 = .ok (.iload_n 1, 1) := by decide +kernel
theorem dX0_switchLeg_42 : decode cX0_switchLeg 42 = .ok (.dup2, 1) := by decide +kernel
theorem dX0_switchLeg_43 : decode cX0_switchLeg 43 = .ok (.iaload, 1) := by decide +kernel
theorem dX0_switchLeg_44 : decode cX0_switchLeg 44 = .ok (.iconst 1, 1) := by decide +kernel
theorem dX0_switchLeg_45 : decode cX0_switchLeg 45 = .ok (.iadd, 1) := by decide +kernel
theorem dX0_switchLeg_46 : decode cX0_switchLeg 46 = .ok (.iastore, 1) := by decide +kernel
theorem dX0_switchLeg_47 : decode cX0_switchLeg 47 = .ok (.aload_n 0, 1) := by decide +kernel
theorem dX0_switchLeg_48 : decode cX0_switchLeg 48 = .ok (.getfield 28, 3) := by decide +kernel
theorem dX0_switchLeg_51 : decode cX0_switchLeg 51 = .ok (.iload_n 1, 1) := by decide +kernel
theorem dX0_switchLeg_52 : decode cX0_switchLeg 52 = .ok (.iload_n 3, 1) := by decide +kernel
theorem dX0_switchLeg_53 : decode cX0_switchLeg 53 = .ok (.iastore, 1) := by decide +kernel
theorem dX0_switchLeg_54 : decode cX0_switchLeg 54 = .ok (.return_, 1) := by decide +kernel
set_option maxRecDepth 20000 in
theorem ggX0_mixInto_X8_mix : GoodIn wsX0_mixInto wsX8_mix := goodIn_r _ [7, 8] (by decide +kernel) (by decide +kernel)
set_option maxRecDepth 20000 in
theorem gX0_mixInto_X8_mix_n77 : GoodIn wsX0_mixInto (wsX8_mix) := ggX0_mixInto_X8_mix
theorem dX0_mixInto_0 : decode cX0_mixInto 0 = .ok (.lload_n 1, 1) := by decide +kernel
theorem dX0_mixInto_1 : decode cX0_mixInto 1 = .ok (.aload_n 0, 1) := by decide +kernel
theorem dX0_mixInto_2 : decode cX0_mixInto 2 = .ok (.getfield 9, 3) := by decide +kernel
theorem dX0_mixInto_5 : decode cX0_mixInto 5 = .ok (.invokestatic 77, 3) := by decide +kernel
theorem dX0_mixInto_8 : decode cX0_mixInto 8 = .ok (.lstore_n 3, 1) := by decide +kernel
theorem dX0_mixInto_9 : decode cX0_mixInto 9 = .ok (.iconst 0, 1) := by decide +kernel
theorem dX0_mixInto_10 : decode cX0_mixInto 10 = .ok (.istore 5, 2) := by decide +kernel
theorem dX0_mixInto_12 : decode cX0_mixInto 12 = .ok (.iload 5, 2) := by decide +kernel
theorem dX0_mixInto_14 : decode cX0_mixInto 14 = .ok (.iconst 3, 1) := by decide +kernel
theorem dX0_mixInto_15 : decode cX0_mixInto 15 = .ok (.if_icmp .ge 21, 3) := by decide +kernel
theorem dX0_mixInto_18 : decode cX0_mixInto 18 = .ok (.lload_n 3, 1) := by decide +kernel
theorem dX0_mixInto_19 : decode cX0_mixInto 19 = .ok (.aload_n 0, 1) := by decide +kernel
theorem dX0_mixInto_20 : decode cX0_mixInto 20 = .ok (.getfield 15, 3) := by decide +kernel
theorem dX0_mixInto_23 : decode cX0_mixInto 23 = .ok (.iload 5, 2) := by decide +kernel
theorem dX0_mixInto_25 : decode cX0_mixInto 25 = .ok (.iaload, 1) := by decide +kernel
theorem dX0_mixInto_26 : decode cX0_mixInto 26 = .ok (.invokestatic 77, 3) := by decide +kernel
theorem dX0_mixInto_29 : decode cX0_mixInto 29 = .ok (.lstore_n 3, 1) := by decide +kernel
theorem dX0_mixInto_30 : decode cX0_mixInto 30 = .ok (.iinc 5 1, 3) := by decide +kernel
theorem dX0_mixInto_33 : decode cX0_mixInto 33 = .ok (.goto (-21), 3) := by decide +kernel
theorem dX0_mixInto_36 : decode cX0_mixInto 36 = .ok (.iconst 0, 1) := by decide +kernel
theorem dX0_mixInto_37 : decode cX0_mixInto 37 = .ok (.istore 5, 2) := by decide +kernel
theorem dX0_mixInto_39 : decode cX0_mixInto 39 = .ok (.iload 5, 2) := by decide +kernel
theorem dX0_mixInto_41 : decode cX0_mixInto 41 = .ok (.iconst 3, 1) := by decide +kernel
theorem dX0_mixInto_42 : decode cX0_mixInto 42 = .ok (.if_icmp .ge 33, 3) := by decide +kernel
theorem dX0_mixInto_45 : decode cX0_mixInto 45 = .ok (.lload_n 3, 1) := by decide +kernel
theorem dX0_mixInto_46 : decode cX0_mixInto 46 = .ok (.aload_n 0, 1) := by decide +kernel
theorem dX0_mixInto_47 : decode cX0_mixInto 47 = .ok (.getfield 19, 3) := by decide +kernel
theorem dX0_mixInto_50 : decode cX0_mixInto 50 = .ok (.iload 5, 2) := by decide +kernel
theorem dX0_mixInto_52 : decode cX0_mixInto 52 = .ok (.iaload, 1) := by decide +kernel
theorem dX0_mixInto_53 : decode cX0_mixInto 53 = .ok (.invokestatic 77, 3) := by decide +kernel
theorem dX0_mixInto_56 : decode cX0_mixInto 56 = .ok (.lstore_n 3, 1) := by decide +kernel
theorem dX0_mixInto_57 : decode cX0_mixInto 57 = .ok (.lload_n 3, 1) := by decide +kernel
theorem dX0_mixInto_58 : decode cX0_mixInto 58 = .ok (.aload_n 0, 1) := by decide +kernel
theorem dX0_mixInto_59 : decode cX0_mixInto 59 = .ok (.getfield 22, 3) := by decide +kernel
theorem dX0_mixInto_62 : decode cX0_mixInto 62 = .ok (.iload 5, 2) := by decide +kernel
theorem dX0_mixInto_64 : decode cX0_mixInto 64 = .ok (.iaload, 1) := by decide +kernel
theorem dX0_mixInto_65 : decode cX0_mixInto 65 = .ok (.invokestatic 77, 3) := by decide +kernel
theorem dX0_mixInto_68 : decode cX0_mixInto 68 = .ok (.lstore_n 3, 1) := by decide +kernel
theorem dX0_mixInto_69 : decode cX0_mixInto 69 = .ok (.iinc 5 1, 3) := by decide +kernel
theorem dX0_mixInto_72 : decode cX0_mixInto 72 = .ok (.goto (-33), 3) := by decide +kernel
theorem dX0_mixInto_75 : decode cX0_mixInto 75 = .ok (.lload_n 3, 1) := by decide +kernel
theorem dX0_mixInto_76 : decode cX0_mixInto 76 = .ok (.lreturn, 1) := by decide +kernel
theorem dX1_init_0 : decode cX1_init 0 = .ok (.aload_n 0, 1) := by decide +kernel
theorem dX1_init_1 : decode cX1_init 1 = .ok (.invokespecial 3, 3) := by decide +kernel
theorem dX1_init_4 : decode cX1_init 4 = .ok (.aload_n 0, 1) := by decide +kernel
theorem dX1_init_5 : decode cX1_init 5 = .ok (.iconst 0, 1) := by decide +kernel
theorem dX1_init_6 : decode cX1_init 6 = .ok (.putfield 9, 3) := by decide +kernel
theorem dX1_init_9 : decode cX1_init 9 = .ok (.aload_n 0, 1) := by decide +kernel
theorem dX1_init_10 : decode cX1_init 10 = .ok (.iconst 0, 1) := by decide +kernel
theorem dX1_init_11 : decode cX1_init 11 = .ok (.putfield 15, 3) := by decide +kernel
theorem dX1_init_14 : decode cX1_init 14 = .ok (.aload_n 0, 1) := by decide +kernel
theorem dX1_init_15 : decode cX1_init 15 = .ok (.iconst 0, 1) := by decide +kernel
theorem dX1_init_16 : decode cX1_init 16 = .ok (.putfield 18, 3) := by decide +kernel
theorem dX1_init_19 : decode cX1_init 19 = .ok (.aload_n 0, 1) := by decide +kernel
theorem dX1_init_20 : decode cX1_init 20 = .ok (.iconst 0, 1) := by decide +kernel
theorem dX1_init_21 : decode cX1_init 21 = .ok (.putfield 21, 3) := by decide +kernel
theorem dX1_init_24 : decode cX1_init 24 = .ok (.aload_n 0, 1) := by decide +kernel
theorem dX1_init_25 : decode cX1_init 25 = .ok (.iconst 0, 1) := by decide +kernel
theorem dX1_init_26 : decode cX1_init 26 = .ok (.putfield 24, 3) := by decide +kernel
theorem dX1_init_29 : decode cX1_init 29 = .ok (.aload_n 0, 1) := by decide +kernel
theorem dX1_init_30 : decode cX1_init 30 = .ok (.iconst 0, 1) := by decide +kernel
theorem dX1_init_31 : decode cX1_init 31 = .ok (.putfield 27, 3) := by decide +kernel
theorem dX1_init_34 : decode cX1_init 34 = .ok (.aload_n 0, 1) := by decide +kernel
theorem dX1_init_35 : decode cX1_init 35 = .ok (.iconst 0, 1) := by decide +kernel
theorem dX1_init_36 : decode cX1_init 36 = .ok (.putfield 30, 3) := by decide +kernel
theorem dX1_init_39 : decode cX1_init 39 = .ok (.aload_n 0, 1) := by decide +kernel
theorem dX1_init_40 : decode cX1_init 40 = .ok (.iconst 0, 1) := by decide +kernel
theorem dX1_init_41 : decode cX1_init 41 = .ok (.putfield 33, 3) := by decide +kernel
theorem dX1_init_44 : decode cX1_init 44 = .ok (.return_, 1) := by decide +kernel
theorem dX1_copyFrom_0 : decode cX1_copyFrom 0 = .ok (.aload_n 0, 1) := by decide +kernel
theorem dX1_copyFrom_1 : decode cX1_copyFrom 1 = .ok (.aload_n 1, 1) := by decide +kernel
theorem dX1_copyFrom_2 : decode cX1_copyFrom 2 = .ok (.getfield 9, 3) := by decide +kernel
theorem dX1_copyFrom_5 : decode cX1_copyFrom 5 = .ok (.putfield 9, 3) := by decide +kernel
theorem dX1_copyFrom_8 : decode cX1_copyFrom 8 = .ok (.aload_n 0, 1) := by decide +kernel
theorem dX1_copyFrom_9 : decode cX1_copyFrom 9 = .ok (.aload_n 1, 1) := by decide +kernel
theorem dX1_copyFrom_10 : decode cX1_copyFrom 10 = .ok (.getfield 15, 3) := by decide +kernel
theorem dX1_copyFrom_13 : decode cX1_copyFrom 13 = .ok (.putfield 15, 3) := by decide +kernel
theorem dX1_copyFrom_16 : decode cX1_copyFrom 16 = .ok (.aload_n 0, 1) := by decide +kernel
theorem dX1_copyFrom_17 : decode cX1_copyFrom 17 = .ok (.aload_n 1, 1) := by decide +kernel
theorem dX1_copyFrom_18 : decode cX1_copyFrom 18 = .ok (.getfield 18, 3) := by decide +kernel
theorem dX1_copyFrom_21 : decode cX1_copyFrom 21 = .ok (.putfield 18, 3) := by decide +kernel
theorem dX1_copyFrom_24 : decode cX1_copyFrom 24 = .ok (.aload_n 0, 1) := by decide +kernel
theorem dX1_copyFrom_25 : decode cX1_copyFrom 25 = .ok (.aload_n 1, 1) := by decide +kernel
theorem dX1_copyFrom_26 : decode cX1_copyFrom 26 = .ok (.getfield 21, 3) := by decide +kernel
theorem dX1_copyFrom_29 : decode cX1_copyFrom 29 = .ok (.putfield 21, 3) := by decide +kernel
theorem dX1_copyFrom_32 : decode cX1_copyFrom 32 = .ok (.aload_n 0, 1) := by decide +kernel
theorem dX1_copyFrom_33 : decode cX1_copyFrom 33 = .ok (.aload_n 1, 1) := by decide +kernel
theorem dX1_copyFrom_34 : decode cX1_copyFrom 34 = .ok (.getfield 24, 3) := by decide +kernel
theorem dX1_copyFrom_37 : decode cX1_copyFrom 37 = .ok (.putfield 24, 3) := by decide +kernel
theorem dX1_copyFrom_40 : decode cX1_copyFrom 40 = .ok (.aload_n 0, 1) := by decide +kernel
theorem dX1_copyFrom_41 : decode cX1_copyFrom 41 = .ok (.aload_n 1, 1) := by decide +kernel
theorem dX1_copyFrom_42 : decode cX1_copyFrom 42 = .ok (.getfield 27, 3) := by decide +kernel
theorem dX1_copyFrom_45 : decode cX1_copyFrom 45 = .ok (.putfield 27, 3) := by decide +kernel
theorem dX1_copyFrom_48 : decode cX1_copyFrom 48 = .ok (.aload_n 0, 1) := by decide +kernel
theorem dX1_copyFrom_49 : decode cX1_copyFrom 49 = .ok (.aload_n 1, 1) := by decide +kernel
theorem dX1_copyFrom_50 : decode cX1_copyFrom 50 = .ok (.getfield 30, 3) := by decide +kernel
theorem dX1_copyFrom_53 : decode cX1_copyFrom 53 = .ok (.putfield 30, 3) := by decide +kernel
theorem dX1_copyFrom_56 : decode cX1_copyFrom 56 = .ok (.aload_n 0, 1) := by decide +kernel
theorem dX1_copyFrom_57 : decode cX1_copyFrom 57 = .ok (.aload_n 1, 1) := by decide +kernel
theorem dX1_copyFrom_58 : decode cX1_copyFrom 58 = .ok (.getfield 33, 3) := by decide +kernel
theorem dX1_copyFrom_61 : decode cX1_copyFrom 61 = .ok (.putfield 33, 3) := by decide +kernel
theorem dX1_copyFrom_64 : decode cX1_copyFrom 64 = .ok (.return_, 1) := by decide +kernel
theorem dX1_isDriving_0 : decode cX1_isDriving 0 = .ok (.aload_n 0, 1) := by decide +kernel
theorem dX1_isDriving_1 : decode cX1_isDriving 1 = .ok (.getfield 9, 3) := by decide +kernel
theorem dX1_isDriving_4 : decode cX1_isDriving 4 = .ok (.iconst 1, 1) := by decide +kernel
theorem dX1_isDriving_5 : decode cX1_isDriving 5 = .ok (.if_icmp .eq 11, 3) := by decide +kernel
theorem dX1_isDriving_8 : decode cX1_isDriving 8 = .ok (.aload_n 0, 1) := by decide +kernel
theorem dX1_isDriving_9 : decode cX1_isDriving 9 = .ok (.getfield 9, 3) := by decide +kernel
theorem dX1_isDriving_12 : decode cX1_isDriving 12 = .ok (.iconst 2, 1) := by decide +kernel
theorem dX1_isDriving_13 : decode cX1_isDriving 13 = .ok (.if_icmp .ne 7, 3) := by decide +kernel
theorem dX1_isDriving_16 : decode cX1_isDriving 16 = .ok (.iconst 1, 1) := by decide +kernel
theorem dX1_isDriving_17 : decode cX1_isDriving 17 = .ok (.goto 4, 3) := by decide +kernel
theorem dX1_isDriving_20 : decode cX1_isDriving 20 = .ok (.iconst 0, 1) := by decide +kernel
theorem dX1_isDriving_21 : decode cX1_isDriving 21 = .ok (.ireturn, 1) := by decide +kernel
theorem dX1_enterMode_0 : decode cX1_enterMode 0 = .ok (.aload_n 0, 1) := by decide +kernel
theorem dX1_enterMode_1 : decode cX1_enterMode 1 = .ok (.iload_n 1, 1) := by decide +kernel
theorem dX1_enterMode_2 : decode cX1_enterMode 2 = .ok (.putfield 9, 3) := by decide +kernel
theorem dX1_enterMode_5 : decode cX1_enterMode 5 = .ok (.aload_n 0, 1) := by decide +kernel
theorem dX1_enterMode_6 : decode cX1_enterMode 6 = .ok (.iconst 0, 1) := by decide +kernel
theorem dX1_enterMode_7 : decode cX1_enterMode 7 = .ok (.putfield 15, 3) := by decide +kernel
theorem dX1_enterMode_10 : decode cX1_enterMode 10 = .ok (.aload_n 0, 1) := by decide +kernel
theorem dX1_enterMode_11 : decode cX1_enterMode 11 = .ok (.iconst 0, 1) := by decide +kernel
theorem dX1_enterMode_12 : decode cX1_enterMode 12 = .ok (.putfield 18, 3) := by decide +kernel
theorem dX1_enterMode_15 : decode cX1_enterMode 15 = .ok (.aload_n 0, 1) := by decide +kernel
theorem dX1_enterMode_16 : decode cX1_enterMode 16 = .ok (.iconst 0, 1) := by decide +kernel
theorem dX1_enterMode_17 : decode cX1_enterMode 17 = .ok (.putfield 21, 3) := by decide +kernel
theorem dX1_enterMode_20 : decode cX1_enterMode 20 = .ok (.return_, 1) := by decide +kernel
set_option maxRecDepth 20000 in
theorem ggX1_raiseFault_X1_enterMode : GoodIn wsX1_raiseFault wsX1_enterMode := goodIn_r _ [9, 10, 11, 12, 13, 14, 15, 16, 17, 18, 19, 20, 21] (by decide +kernel) (by decide +kernel)
set_option maxRecDepth 20000 in
theorem gX1_raiseFault_X1_enterMode : GoodIn wsX1_raiseFault (wsV RX1 36 RX1 yX1_enterMode wsX1_enterMode) := goodIn_app (goodIn_of _ (by decide +kernel)) ggX1_raiseFault_X1_enterMode
theorem dX1_raiseFault_0 : decode cX1_raiseFault 0 = .ok (.aload_n 0, 1) := by decide +kernel
theorem dX1_raiseFault_1 : decode cX1_raiseFault 1 = .ok (.iconst 0, 1) := by decide +kernel
theorem dX1_raiseFault_2 : decode cX1_raiseFault 2 = .ok (.invokevirtual 36, 3) := by decide +kernel
theorem dX1_raiseFault_5 : decode cX1_raiseFault 5 = .ok (.aload_n 0, 1) := by decide +kernel
theorem dX1_raiseFault_6 : decode cX1_raiseFault 6 = .ok (.dup, 1) := by decide +kernel
theorem dX1_raiseFault_7 : decode cX1_raiseFault 7 = .ok (.getfield 24, 3) := by decide +kernel
theorem dX1_raiseFault_10 : decode cX1_raiseFault 10 = .ok (.iconst 1, 1) := by decide +kernel
theorem dX1_raiseFault_11 : decode cX1_raiseFault 11 = .ok (.iadd, 1) := by decide +kernel
theorem dX1_raiseFault_12 : decode cX1_raiseFault 12 = .ok (.putfield 24, 3) := by decide +kernel
theorem dX1_raiseFault_15 : decode cX1_raiseFault 15 = .ok (.aload_n 0, 1) := by decide +kernel
theorem dX1_raiseFault_16 : decode cX1_raiseFault 16 = .ok (.iload_n 1, 1) := by decide +kernel
theorem dX1_raiseFault_17 : decode cX1_raiseFault 17 = .ok (.putfield 27, 3) := by decide +kernel
theorem dX1_raiseFault_20 : decode cX1_raiseFault 20 = .ok (.aload_n 0, 1) := by decide +kernel
theorem dX1_raiseFault_21 : decode cX1_raiseFault 21 = .ok (.iload_n 2, 1) := by decide +kernel
theorem dX1_raiseFault_22 : decode cX1_raiseFault 22 = .ok (.putfield 30, 3) := by decide +kernel
theorem dX1_raiseFault_25 : decode cX1_raiseFault 25 = .ok (.aload_n 0, 1) := by decide +kernel
theorem dX1_raiseFault_26 : decode cX1_raiseFault 26 = .ok (.iload_n 3, 1) := by decide +kernel
theorem dX1_raiseFault_27 : decode cX1_raiseFault 27 = .ok (.putfield 33, 3) := by decide +kernel
theorem dX1_raiseFault_30 : decode cX1_raiseFault 30 = .ok (.return_, 1) := by decide +kernel
theorem dX1_forgetFault_0 : decode cX1_forgetFault 0 = .ok (.aload_n 0, 1) := by decide +kernel
theorem dX1_forgetFault_1 : decode cX1_forgetFault 1 = .ok (.iconst 0, 1) := by decide +kernel
theorem dX1_forgetFault_2 : decode cX1_forgetFault 2 = .ok (.putfield 27, 3) := by decide +kernel
theorem dX1_forgetFault_5 : decode cX1_forgetFault 5 = .ok (.aload_n 0, 1) := by decide +kernel
theorem dX1_forgetFault_6 : decode cX1_forgetFault 6 = .ok (.iconst 0, 1) := by decide +kernel
theorem dX1_forgetFault_7 : decode cX1_forgetFault 7 = .ok (.putfield 30, 3) := by decide +kernel
theorem dX1_forgetFault_10 : decode cX1_forgetFault 10 = .ok (.aload_n 0, 1) := by decide +kernel
theorem dX1_forgetFault_11 : decode cX1_forgetFault 11 = .ok (.iconst 0, 1) := by decide +kernel
theorem dX1_forgetFault_12 : decode cX1_forgetFault 12 = .ok (.putfield 33, 3) := by decide +kernel
theorem dX1_forgetFault_15 : decode cX1_forgetFault 15 = .ok (.return_, 1) := by decide +kernel
set_option maxRecDepth 20000 in
theorem ggX1_judgeEdge_X1_isDriving : GoodIn wsX1_judgeEdge wsX1_isDriving := goodIn_r _ [7, 1, 22, 23, 24, 25, 26, 27, 28, 29] (by decide +kernel) (by decide +kernel)
set_option maxRecDepth 20000 in
theorem gX1_judgeEdge_X1_isDriving : GoodIn wsX1_judgeEdge (wsV RX1 40 RX1 yX1_isDriving wsX1_isDriving) := goodIn_app (goodIn_of _ (by decide +kernel)) ggX1_judgeEdge_X1_isDriving
set_option maxRecDepth 20000 in
theorem ggX1_judgeEdge_X1_raiseFault : GoodIn wsX1_judgeEdge wsX1_raiseFault := goodIn_r _ [11, 12, 13, 14, 15, 16, 17, 18, 6, 19, 1, 2, 20, 21, 22, 23, 24, 25, 26, 27, 28, 29] (by decide +kernel) (by decide +kernel)
set_option maxRecDepth 20000 in
theorem gX1_judgeEdge_X1_raiseFault : GoodIn wsX1_judgeEdge (wsV RX1 44 RX1 yX1_raiseFault wsX1_raiseFault) := goodIn_app (goodIn_of _ (by decide +kernel)) ggX1_judgeEdge_X1_raiseFault
theorem dX1_judgeEdge_0 : decode cX1_judgeEdge 0 = .ok (.aload_n 0, 1) := by decide +kernel
theorem dX1_judgeEdge_1 : decode cX1_judgeEdge 1 = .ok (.invokevirtual 40, 3) := by decide +kernel
theorem dX1_judgeEdge_4 : decode cX1_judgeEdge 4 = .ok (.ifCond .ne 4, 3) := by decide +kernel
theorem dX1_judgeEdge_7 : decode cX1_judgeEdge 7 = .ok (.return_, 1) := by decide +kernel
theorem dX1_judgeEdge_8 : decode cX1_judgeEdge 8 = .ok (.aload_n 0, 1) := by decide +kernel
theorem dX1_judgeEdge_9 : decode cX1_judgeEdge 9 = .ok (.getfield 9, 3) := by decide +kernel
theorem dX1_judgeEdge_12 : decode cX1_judgeEdge 12 = .ok (.iconst 1, 1) := by decide +kernel
theorem dX1_judgeEdge_13 : decode cX1_judgeEdge 13 = .ok (.if_icmp .ne 7, 3) := by decide +kernel
theorem dX1_judgeEdge_16 : decode cX1_judgeEdge 16 = .ok (.iconst 1, 1) := by decide +kernel
theorem dX1_judgeEdge_17 : decode cX1_judgeEdge 17 = .ok (.goto 4, 3) := by decide +kernel
theorem dX1_judgeEdge_20 : decode cX1_judgeEdge 20 = .ok (.iconst (-1), 1) := by decide +kernel
theorem dX1_judgeEdge_21 : decode cX1_judgeEdge 21 = .ok (.istore 4, 2) := by decide +kernel
theorem dX1_judgeEdge_23 : decode cX1_judgeEdge 23 = .ok (.aload_n 0, 1) := by decide +kernel
theorem dX1_judgeEdge_24 : decode cX1_judgeEdge 24 = .ok (.iload_n 1, 1) := by decide +kernel
theorem dX1_judgeEdge_25 : decode cX1_judgeEdge 25 = .ok (.iload 4, 2) := by decide +kernel
theorem dX1_judgeEdge_27 : decode cX1_judgeEdge 27 = .ok (.if_icmp .ne 7, 3) := by decide +kernel
theorem dX1_judgeEdge_30 : decode cX1_judgeEdge 30 = .ok (.iconst 0, 1) := by decide +kernel
theorem dX1_judgeEdge_31 : decode cX1_judgeEdge 31 = .ok (.goto 9, 3) := by decide +kernel
theorem dX1_judgeEdge_34 : decode cX1_judgeEdge 34 = .ok (.aload_n 0, 1) := by decide +kernel
theorem dX1_judgeEdge_35 : decode cX1_judgeEdge 35 = .ok (.getfield 15, 3) := by decide +kernel
theorem dX1_judgeEdge_38 : decode cX1_judgeEdge 38 = .ok (.iconst 1, 1) := by decide +kernel
theorem dX1_judgeEdge_39 : decode cX1_judgeEdge 39 = .ok (.iadd, 1) := by decide +kernel
theorem dX1_judgeEdge_40 : decode cX1_judgeEdge 40 = .ok (.putfield 15, 3) := by decide +kernel
theorem dX1_judgeEdge_43 : decode cX1_judgeEdge 43 = .ok (.aload_n 0, 1) := by decide +kernel
theorem dX1_judgeEdge_44 : decode cX1_judgeEdge 44 = .ok (.getfield 15, 3) := by decide +kernel
theorem dX1_judgeEdge_47 : decode cX1_judgeEdge 47 = .ok (.iconst 3, 1) := by decide +kernel
theorem dX1_judgeEdge_48 : decode cX1_judgeEdge 48 = .ok (.if_icmp .lt 10, 3) := by decide +kernel
theorem dX1_judgeEdge_51 : decode cX1_judgeEdge 51 = .ok (.aload_n 0, 1) := by decide +kernel
theorem dX1_judgeEdge_52 : decode cX1_judgeEdge 52 = .ok (.iconst 2, 1) := by decide +kernel
theorem dX1_judgeEdge_53 : decode cX1_judgeEdge 53 = .ok (.iload_n 2, 1) := by decide +kernel
theorem dX1_judgeEdge_54 : decode cX1_judgeEdge 54 = .ok (.iload_n 3, 1) := by decide +kernel
theorem dX1_judgeEdge_55 : decode cX1_judgeEdge 55 = .ok (.invokevirtual 44, 3) := by decide +kernel
theorem dX1_judgeEdge_58 : decode cX1_judgeEdge 58 = .ok (.return_, 1) := by decide +kernel
set_option maxRecDepth 20000 in
theorem ggX1_mixTimesInto_X8_mix : GoodIn wsX1_mixTimesInto wsX8_mix := goodIn_r _ [6, 7] (by decide +kernel) (by decide +kernel)
set_option maxRecDepth 20000 in
theorem gX1_mixTimesInto_X8_mix_n48 : GoodIn wsX1_mixTimesInto (wsX8_mix) := ggX1_mixTimesInto_X8_mix
theorem dX1_mixTimesInto_0 : decode cX1_mixTimesInto 0 = .ok (.lload_n 1, 1) := by decide +kernel
theorem dX1_mixTimesInto_1 : decode cX1_mixTimesInto 1 = .ok (.aload_n 0, 1) := by decide +kernel
theorem dX1_mixTimesInto_2 : decode cX1_mixTimesInto 2 = .ok (.getfield 15, 3) := by decide +kernel
theorem dX1_mixTimesInto_5 : decode cX1_mixTimesInto 5 = .ok (.invokestatic 48, 3) := by decide +kernel
theorem dX1_mixTimesInto_8 : decode cX1_mixTimesInto 8 = .ok (.lstore_n 3, 1) := by decide +kernel
theorem dX1_mixTimesInto_9 : decode cX1_mixTimesInto 9 = .ok (.lload_n 3, 1) := by decide +kernel
theorem dX1_mixTimesInto_10 : decode cX1_mixTimesInto 10 = .ok (.aload_n 0, 1) := by decide +kernel
theorem dX1_mixTimesInto_11 : decode cX1_mixTimesInto 11 = .ok (.getfield 18, 3) := by decide +kernel
theorem dX1_mixTimesInto_14 : decode cX1_mixTimesInto 14 = .ok (.invokestatic 48, 3) := by decide +kernel
theorem dX1_mixTimesInto_17 : decode cX1_mixTimesInto 17 = .ok (.lstore_n 3, 1) := by decide +kernel
theorem dX1_mixTimesInto_18 : decode cX1_mixTimesInto 18 = .ok (.lload_n 3, 1) := by decide +kernel
theorem dX1_mixTimesInto_19 : decode cX1_mixTimesInto 19 = .ok (.aload_n 0, 1) := by decide +kernel
theorem dX1_mixTimesInto_20 : decode cX1_mixTimesInto 20 = .ok (.getfield 21, 3) := by decide +kernel
theorem dX1_mixTimesInto_23 : decode cX1_mixTimesInto 23 = .ok (.invokestatic 48, 3) := by decide +kernel
theorem dX1_mixTimesInto_26 : decode cX1_mixTimesInto 26 = .ok (.lreturn, 1) := by decide +kernel
set_option maxRecDepth 20000 in
theorem ggX1_mixFaultInto_X8_mix : GoodIn wsX1_mixFaultInto wsX8_mix := goodIn_r _ [6, 7] (by decide +kernel) (by decide +kernel)
set_option maxRecDepth 20000 in
theorem gX1_mixFaultInto_X8_mix_n48 : GoodIn wsX1_mixFaultInto (wsX8_mix) := ggX1_mixFaultInto_X8_mix
theorem dX1_mixFaultInto_0 : decode cX1_mixFaultInto 0 = .ok (.lload_n 1, 1) := by decide +kernel
theorem dX1_mixFaultInto_1 : decode cX1_mixFaultInto 1 = .ok (.aload_n 0, 1) := by decide +kernel
theorem dX1_mixFaultInto_2 : decode cX1_mixFaultInto 2 = .ok (.getfield 27, 3) := by decide +kernel
theorem dX1_mixFaultInto_5 : decode cX1_mixFaultInto 5 = .ok (.invokestatic 48, 3) := by decide +kernel
theorem dX1_mixFaultInto_8 : decode cX1_mixFaultInto 8 = .ok (.lstore_n 3, 1) := by decide +kernel
theorem dX1_mixFaultInto_9 : decode cX1_mixFaultInto 9 = .ok (.lload_n 3, 1) := by decide +kernel
theorem dX1_mixFaultInto_10 : decode cX1_mixFaultInto 10 = .ok (.aload_n 0, 1) := by decide +kernel
theorem dX1_mixFaultInto_11 : decode cX1_mixFaultInto 11 = .ok (.getfield 30, 3) := by decide +kernel
theorem dX1_mixFaultInto_14 : decode cX1_mixFaultInto 14 = .ok (.invokestatic 48, 3) := by decide +kernel
theorem dX1_mixFaultInto_17 : decode cX1_mixFaultInto 17 = .ok (.lstore_n 3, 1) := by decide +kernel
theorem dX1_mixFaultInto_18 : decode cX1_mixFaultInto 18 = .ok (.lload_n 3, 1) := by decide +kernel
theorem dX1_mixFaultInto_19 : decode cX1_mixFaultInto 19 = .ok (.aload_n 0, 1) := by decide +kernel
theorem dX1_mixFaultInto_20 : decode cX1_mixFaultInto 20 = .ok (.getfield 33, 3) := by decide +kernel
theorem dX1_mixFaultInto_23 : decode cX1_mixFaultInto 23 = .ok (.invokestatic 48, 3) := by decide +kernel
theorem dX1_mixFaultInto_26 : decode cX1_mixFaultInto 26 = .ok (.lreturn, 1) := by decide +kernel
set_option maxRecDepth 20000 in
theorem ggX2_init_X7_init : GoodIn wsX2_init wsX7_init := goodIn_r _ [10, 11, 2, 3, 12, 13, 14, 15, 16, 17, 18, 19, 20, 21, 22, 23, 24, 25, 26, 27, 28, 29, 30, 31, 32, 33, 34, 35, 36, 37, 38, 39, 40, 41, 42, 43, 44, 45, 46, 47, 48, 49, 50, 51, 52, 53, 54, 55, 56, 57, 58, 59, 60, 61, 62, 63, 64, 65, 66, 67, 68, 69, 70, 71, 72, 73, 74, 75, 76, 77, 78, 79, 80, 81, 82, 83, 84, 85, 86, 87, 88, 89, 90, 91, 92, 93, 94, 95, 96, 97, 100, 101, 102, 103, 104, 105, 106, 107, 108, 109, 110, 111, 112, 113, 114, 115, 116, 117, 118, 119, 120, 121, 122, 123, 124, 125, 126, 127, 128, 129, 130, 131, 132, 133, 134] (by decide +kernel) (by decide +kernel)
set_option maxRecDepth 20000 in
theorem gX2_init_X7_init_n11 : GoodIn wsX2_init (wsX7_init) := ggX2_init_X7_init
theorem dX2_init_0 : decode cX2_init 0 = .ok (.aload_n 0, 1) := by decide +kernel
theorem dX2_init_1 : decode cX2_init 1 = .ok (.invokespecial 3, 3) := by decide +kernel
theorem dX2_init_4 : decode cX2_init 4 = .ok (.aload_n 0, 1) := by decide +kernel
theorem dX2_init_5 : decode cX2_init 5 = .ok (.iconst 4, 1) := by decide +kernel
theorem dX2_init_6 : decode cX2_init 6 = .ok (.anewarray 9, 3) := by decide +kernel
theorem dX2_init_9 : decode cX2_init 9 = .ok (.dup, 1) := by decide +kernel
theorem dX2_init_10 : decode cX2_init 10 = .ok (.iconst 0, 1) := by decide +kernel
theorem dX2_init_11 : decode cX2_init 11 = .ok (.new 9, 3) := by decide +kernel
theorem dX2_init_14 : decode cX2_init 14 = .ok (.dup, 1) := by decide +kernel
theorem dX2_init_15 : decode cX2_init 15 = .ok (.invokespecial 11, 3) := by decide +kernel
theorem dX2_init_18 : decode cX2_init 18 = .ok (.aastore, 1) := by decide +kernel
theorem dX2_init_19 : decode cX2_init 19 = .ok (.dup, 1) := by decide +kernel
theorem dX2_init_20 : decode cX2_init 20 = .ok (.iconst 1, 1) := by decide +kernel
theorem dX2_init_21 : decode cX2_init 21 = .ok (.new 9, 3) := by decide +kernel
theorem dX2_init_24 : decode cX2_init 24 = .ok (.dup, 1) := by decide +kernel
theorem dX2_init_25 : decode cX2_init 25 = .ok (.invokespecial 11, 3) := by decide +kernel
theorem dX2_init_28 : decode cX2_init 28 = .ok (.aastore, 1) := by decide +kernel
theorem dX2_init_29 : decode cX2_init 29 = .ok (.dup, 1) := by decide +kernel
theorem dX2_init_30 : decode cX2_init 30 = .ok (.iconst 2, 1) := by decide +kernel
theorem dX2_init_31 : decode cX2_init 31 = .ok (.new 9, 3) := by decide +kernel
theorem dX2_init_34 : decode cX2_init 34 = .ok (.dup, 1) := by decide +kernel
theorem dX2_init_35 : decode cX2_init 35 = .ok (.invokespecial 11, 3) := by decide +kernel
theorem dX2_init_38 : decode cX2_init 38 = .ok (.aastore, 1) := by decide +kernel
theorem dX2_init_39 : decode cX2_init 39 = .ok (.dup, 1) := by decide +kernel
theorem dX2_init_40 : decode cX2_init 40 = .ok (.iconst 3, 1) := by decide +kernel
theorem dX2_init_41 : decode cX2_init 41 = .ok (.new 9, 3) := by decide +kernel
theorem dX2_init_44 : decode cX2_init 44 = .ok (.dup, 1) := by decide +kernel
theorem dX2_init_45 : decode cX2_init 45 = .ok (.invokespecial 11, 3) := by decide +kernel
theorem dX2_init_48 : decode cX2_init 48 = .ok (.aastore, 1) := by decide +kernel
theorem dX2_init_49 : decode cX2_init 49 = .ok (.putfield 12, 3) := by decide +kernel
theorem dX2_init_52 : decode cX2_init 52 = .ok (.aload_n 0, 1) := by decide +kernel
theorem dX2_init_53 : decode cX2_init 53 = .ok (.iconst 0, 1) := by decide +kernel
theorem dX2_init_54 : decode cX2_init 54 = .ok (.putfield 18, 3) := by decide +kernel
theorem dX2_init_57 : decode cX2_init 57 = .ok (.return_, 1) := by decide +kernel
set_option maxRecDepth 20000 in
theorem ggX2_save_X2_dropOldest : GoodIn wsX2_save wsX2_dropOldest := goodIn_r _ [7, 2, 1, 91, 92] (by decide +kernel) (by decide +kernel)
set_option maxRecDepth 20000 in
theorem gX2_save_X2_dropOldest : GoodIn wsX2_save (wsV RX2 22 RX2 yX2_dropOldest wsX2_dropOldest) := goodIn_app (goodIn_of _ (by decide +kernel)) ggX2_save_X2_dropOldest
set_option maxRecDepth 20000 in
theorem ggX2_save_X7_copyFrom : GoodIn wsX2_save wsX7_copyFrom := goodIn_r _ [12, 13, 14, 15, 16, 17, 18, 19, 20, 21, 22, 23, 24, 25, 26, 27, 28, 29, 30, 31, 32, 33, 34, 35, 36, 37, 38, 39, 40, 41, 42, 43, 44, 45, 46, 47, 48, 49, 50, 51, 52, 53, 54, 55, 56, 57, 58, 59, 60, 61, 62, 63, 64, 65, 66, 67, 68, 69, 70, 71, 72, 73, 74, 75, 76, 77, 78, 79, 80, 81, 82, 83, 84, 85, 86, 87, 88, 89, 90, 93, 94, 95, 96, 97, 98, 99, 100, 101, 102, 103, 104, 105, 106, 107, 108, 109, 110, 111, 112, 113, 114, 115, 116, 117, 118, 119, 120, 121, 122, 123, 124, 125, 126, 127, 128, 129, 130, 131, 132, 133, 134] (by decide +kernel) (by decide +kernel)
set_option maxRecDepth 20000 in
theorem gX2_save_X7_copyFrom : GoodIn wsX2_save (wsV RX2 25 RX7 yX7_copyFrom wsX7_copyFrom) := goodIn_app (goodIn_of _ (by decide +kernel)) ggX2_save_X7_copyFrom
theorem dX2_save_0 : decode cX2_save 0 = .ok (.aload_n 0, 1) := by decide +kernel
theorem dX2_save_1 : decode cX2_save 1 = .ok (.getfield 18, 3) := by decide +kernel
theorem dX2_save_4 : decode cX2_save 4 = .ok (.iconst 4, 1) := by decide +kernel
theorem dX2_save_5 : decode cX2_save 5 = .ok (.if_icmp .lt 7, 3) := by decide +kernel
theorem dX2_save_8 : decode cX2_save 8 = .ok (.aload_n 0, 1) := by decide +kernel
theorem dX2_save_9 : decode cX2_save 9 = .ok (.invokevirtual 22, 3) := by decide +kernel
theorem dX2_save_12 : decode cX2_save 12 = .ok (.aload_n 0, 1) := by decide +kernel
theorem dX2_save_13 : decode cX2_save 13 = .ok (.getfield 12, 3) := by decide +kernel
theorem dX2_save_16 : decode cX2_save 16 = .ok (.aload_n 0, 1) := by decide +kernel
theorem dX2_save_17 : decode cX2_save 17 = .ok (.getfield 18, 3) := by decide +kernel
theorem dX2_save_20 : decode cX2_save 20 = .ok (.aaload, 1) := by decide +kernel
theorem dX2_save_21 : decode cX2_save 21 = .ok (.aload_n 1, 1) := by decide +kernel
theorem dX2_save_22 : decode cX2_save 22 = .ok (.invokevirtual 25, 3) := by decide +kernel
theorem dX2_save_25 : decode cX2_save 25 = .ok (.aload_n 0, 1) := by decide +kernel
theorem dX2_save_26 : decode cX2_save 26 = .ok (.dup, 1) := by decide +kernel
theorem dX2_save_27 : decode cX2_save 27 = .ok (.getfield 18, 3) := by decide +kernel
theorem dX2_save_30 : decode cX2_save 30 = .ok (.iconst 1, 1) := by decide +kernel
theorem dX2_save_31 : decode cX2_save 31 = .ok (.iadd, 1) := by decide +kernel
theorem dX2_save_32 : decode cX2_save 32 = .ok (.putfield 18, 3) := by decide +kernel
theorem dX2_save_35 : decode cX2_save 35 = .ok (.return_, 1) := by decide +kernel
theorem dX2_dropOldest_0 : decode cX2_dropOldest 0 = .ok (.aload_n 0, 1) := by decide +kernel
theorem dX2_dropOldest_1 : decode cX2_dropOldest 1 = .ok (.getfield 12, 3) := by decide +kernel
theorem dX2_dropOldest_4 : decode cX2_dropOldest 4 = .ok (.iconst 0, 1) := by decide +kernel
theorem dX2_dropOldest_5 : decode cX2_dropOldest 5 = .ok (.aaload, 1) := by decide +kernel
theorem dX2_dropOldest_6 : decode cX2_dropOldest 6 = .ok (.astore_n 1, 1) := by decide +kernel
theorem dX2_dropOldest_7 : decode cX2_dropOldest 7 = .ok (.iconst 1, 1) := by decide +kernel
theorem dX2_dropOldest_8 : decode cX2_dropOldest 8 = .ok (.istore_n 2, 1) := by decide +kernel
theorem dX2_dropOldest_9 : decode cX2_dropOldest 9 = .ok (.iload_n 2, 1) := by decide +kernel
theorem dX2_dropOldest_10 : decode cX2_dropOldest 10 = .ok (.iconst 4, 1) := by decide +kernel
theorem dX2_dropOldest_11 : decode cX2_dropOldest 11 = .ok (.if_icmp .ge 23, 3) := by decide +kernel
theorem dX2_dropOldest_14 : decode cX2_dropOldest 14 = .ok (.aload_n 0, 1) := by decide +kernel
theorem dX2_dropOldest_15 : decode cX2_dropOldest 15 = .ok (.getfield 12, 3) := by decide +kernel
theorem dX2_dropOldest_18 : decode cX2_dropOldest 18 = .ok (.iload_n 2, 1) := by decide +kernel
theorem dX2_dropOldest_19 : decode cX2_dropOldest 19 = .ok (.iconst 1, 1) := by decide +kernel
theorem dX2_dropOldest_20 : decode cX2_dropOldest 20 = .ok (.isub, 1) := by decide +kernel
theorem dX2_dropOldest_21 : decode cX2_dropOldest 21 = .ok (.aload_n 0, 1) := by decide +kernel
theorem dX2_dropOldest_22 : decode cX2_dropOldest 22 = .ok (.getfield 12, 3) := by decide +kernel
theorem dX2_dropOldest_25 : decode cX2_dropOldest 25 = .ok (.iload_n 2, 1) := by decide +kernel
theorem dX2_dropOldest_26 : decode cX2_dropOldest 26 = .ok (.aaload, 1) := by decide +kernel
theorem dX2_dropOldest_27 : decode cX2_dropOldest 27 = .ok (.aastore, 1) := by decide +kernel
theorem dX2_dropOldest_28 : decode cX2_dropOldest 28 = .ok (.iinc 2 1, 3) := by decide +kernel
theorem dX2_dropOldest_31 : decode cX2_dropOldest 31 = .ok (.goto (-22), 3) := by decide +kernel
theorem dX2_dropOldest_34 : decode cX2_dropOldest 34 = .ok (.aload_n 0, 1) := by decide +kernel
theorem dX2_dropOldest_35 : decode cX2_dropOldest 35 = .ok (.getfield 12, 3) := by decide +kernel
theorem dX2_dropOldest_38 : decode cX2_dropOldest 38 = .ok (.iconst 3, 1) := by decide +kernel
theorem dX2_dropOldest_39 : decode cX2_dropOldest 39 = .ok (.aload_n 1, 1) := by decide +kernel
theorem dX2_dropOldest_40 : decode cX2_dropOldest 40 = .ok (.aastore, 1) := by decide +kernel
theorem dX2_dropOldest_41 : decode cX2_dropOldest 41 = .ok (.aload_n 0, 1) := by decide +kernel
theorem dX2_dropOldest_42 : decode cX2_dropOldest 42 = .ok (.iconst 3, 1) := by decide +kernel
theorem dX2_dropOldest_43 : decode cX2_dropOldest 43 = .ok (.putfield 18, 3) := by decide +kernel
theorem dX2_dropOldest_46 : decode cX2_dropOldest 46 = .ok (.return_, 1) := by decide +kernel
set_option maxRecDepth 20000 in
theorem ggX2_restore_X7_copyFrom : GoodIn wsX2_restore wsX7_copyFrom := goodIn_r _ [7, 8, 9, 10, 11, 12, 13, 14, 15, 16, 17, 18, 19, 20, 21, 22, 23, 24, 25, 26, 27, 28, 29, 30, 31, 32, 33, 34, 35, 36, 37, 38, 39, 40, 41, 42, 43, 44, 45, 46, 47, 48, 49, 50, 51, 52, 53, 54, 55, 56, 57, 58, 59, 60, 61, 62, 63, 64, 65, 66, 67, 68, 69, 70, 71, 72, 73, 74, 75, 76, 77, 78, 79, 80, 81, 82, 83, 84, 85, 88, 89, 90, 91, 92, 93, 94, 95, 96, 97, 98, 99, 100, 101, 102, 103, 104, 105, 106, 107, 108, 109, 110, 111, 112, 113, 114, 115, 116, 117, 118, 119, 120, 121, 122, 123, 124, 125, 126, 127, 128, 129] (by decide +kernel) (by decide +kernel)
set_option maxRecDepth 20000 in
theorem gX2_restore_X7_copyFrom : GoodIn wsX2_restore (wsV RX2 25 RX7 yX7_copyFrom wsX7_copyFrom) := goodIn_app (goodIn_of _ (by decide +kernel)) ggX2_restore_X7_copyFrom
theorem dX2_restore_0 : decode cX2_restore 0 = .ok (.aload_n 0, 1) := by decide +kernel
theorem dX2_restore_1 : decode cX2_restore 1 = .ok (.getfield 18, 3) := by decide +kernel
theorem dX2_restore_4 : decode cX2_restore 4 = .ok (.ifCond .gt 4, 3) := by decide +kernel
theorem dX2_restore_7 : decode cX2_restore 7 = .ok (.return_, 1) := by decide +kernel
theorem dX2_restore_8 : decode cX2_restore 8 = .ok (.aload_n 0, 1) := by decide +kernel
theorem dX2_restore_9 : decode cX2_restore 9 = .ok (.dup, 1) := by decide +kernel
theorem dX2_restore_10 : decode cX2_restore 10 = .ok (.getfield 18, 3) := by decide +kernel
theorem dX2_restore_13 : decode cX2_restore 13 = .ok (.iconst 1, 1) := by decide +kernel
theorem dX2_restore_14 : decode cX2_restore 14 = .ok (.isub, 1) := by decide +kernel
theorem dX2_restore_15 : decode cX2_restore 15 = .ok (.putfield 18, 3) := by decide +kernel
theorem dX2_restore_18 : decode cX2_restore 18 = .ok (.aload_n 1, 1) := by decide +kernel
theorem dX2_restore_19 : decode cX2_restore 19 = .ok (.aload_n 0, 1) := by decide +kernel
theorem dX2_restore_20 : decode cX2_restore 20 = .ok (.getfield 12, 3) := by decide +kernel
theorem dX2_restore_23 : decode cX2_restore 23 = .ok (.aload_n 0, 1) := by decide +kernel
theorem dX2_restore_24 : decode cX2_restore 24 = .ok (.getfield 18, 3) := by decide +kernel
theorem dX2_restore_27 : decode cX2_restore 27 = .ok (.aaload, 1) := by decide +kernel
theorem dX2_restore_28 : decode cX2_restore 28 = .ok (.invokevirtual 25, 3) := by decide +kernel
theorem dX2_restore_31 : decode cX2_restore 31 = .ok (.return_, 1) := by decide +kernel
theorem dX3_init_0 : decode cX3_init 0 = .ok (.aload_n 0, 1) := by decide +kernel
theorem dX3_init_1 : decode cX3_init 1 = .ok (.invokespecial 3, 3) := by decide +kernel
theorem dX3_init_4 : decode cX3_init 4 = .ok (.aload_n 0, 1) := by decide +kernel
theorem dX3_init_5 : decode cX3_init 5 = .ok (.iconst 0, 1) := by decide +kernel
theorem dX3_init_6 : decode cX3_init 6 = .ok (.putfield 9, 3) := by decide +kernel
theorem dX3_init_9 : decode cX3_init 9 = .ok (.aload_n 0, 1) := by decide +kernel
theorem dX3_init_10 : decode cX3_init 10 = .ok (.iconst 0, 1) := by decide +kernel
theorem dX3_init_11 : decode cX3_init 11 = .ok (.putfield 15, 3) := by decide +kernel
theorem dX3_init_14 : decode cX3_init 14 = .ok (.aload_n 0, 1) := by decide +kernel
theorem dX3_init_15 : decode cX3_init 15 = .ok (.iconst 0, 1) := by decide +kernel
theorem dX3_init_16 : decode cX3_init 16 = .ok (.putfield 18, 3) := by decide +kernel
theorem dX3_init_19 : decode cX3_init 19 = .ok (.aload_n 0, 1) := by decide +kernel
theorem dX3_init_20 : decode cX3_init 20 = .ok (.iconst 0, 1) := by decide +kernel
theorem dX3_init_21 : decode cX3_init 21 = .ok (.putfield 21, 3) := by decide +kernel
theorem dX3_init_24 : decode cX3_init 24 = .ok (.aload_n 0, 1) := by decide +kernel
theorem dX3_init_25 : decode cX3_init 25 = .ok (.bipush 6, 2) := by decide +kernel
theorem dX3_init_27 : decode cX3_init 27 = .ok (.newarray .int, 2) := by decide +kernel
theorem dX3_init_29 : decode cX3_init 29 = .ok (.putfield 24, 3) := by decide +kernel
theorem dX3_init_32 : decode cX3_init 32 = .ok (.aload_n 0, 1) := by decide +kernel
theorem dX3_init_33 : decode cX3_init 33 = .ok (.iconst 0, 1) := by decide +kernel
theorem dX3_init_34 : decode cX3_init 34 = .ok (.putfield 28, 3) := by decide +kernel
theorem dX3_init_37 : decode cX3_init 37 = .ok (.aload_n 0, 1) := by decide +kernel
theorem dX3_init_38 : decode cX3_init 38 = .ok (.iconst 0, 1) := by decide +kernel
theorem dX3_init_39 : decode cX3_init 39 = .ok (.putfield 31, 3) := by decide +kernel
theorem dX3_init_42 : decode cX3_init 42 = .ok (.aload_n 0, 1) := by decide +kernel
theorem dX3_init_43 : decode cX3_init 43 = .ok (.iconst 0, 1) := by decide +kernel
theorem dX3_init_44 : decode cX3_init 44 = .ok (.putfield 34, 3) := by decide +kernel
theorem dX3_init_47 : decode cX3_init 47 = .ok (.return_, 1) := by decide +kernel
theorem dX3_copyFrom_0 : decode cX3_copyFrom 0 = .ok (.aload_n 0, 1) := by decide +kernel
theorem dX3_copyFrom_1 : decode cX3_copyFrom 1 = .ok (.aload_n 1, 1) := by decide +kernel
theorem dX3_copyFrom_2 : decode cX3_copyFrom 2 = .ok (.getfield 9, 3) := by decide +kernel
theorem dX3_copyFrom_5 : decode cX3_copyFrom 5 = .ok (.putfield 9, 3) := by decide +kernel
theorem dX3_copyFrom_8 : decode cX3_copyFrom 8 = .ok (.aload_n 0, 1) := by decide +kernel
theorem dX3_copyFrom_9 : decode cX3_copyFrom 9 = .ok (.aload_n 1, 1) := by decide +kernel
theorem dX3_copyFrom_10 : decode cX3_copyFrom 10 = .ok (.getfield 15, 3) := by decide +kernel
theorem dX3_copyFrom_13 : decode cX3_copyFrom 13 = .ok (.putfield 15, 3) := by decide +kernel
theorem dX3_copyFrom_16 : decode cX3_copyFrom 16 = .ok (.aload_n 0, 1) := by decide +kernel
theorem dX3_copyFrom_17 : decode cX3_copyFrom 17 = .ok (.aload_n 1, 1) := by decide +kernel
theorem dX3_copyFrom_18 : decode cX3_copyFrom 18 = .ok (.getfield 18, 3) := by decide +kernel
theorem dX3_copyFrom_21 : decode cX3_copyFrom 21 = .ok (.putfield 18, 3) := by decide +kernel
theorem dX3_copyFrom_24 : decode cX3_copyFrom 24 = .ok (.aload_n 0, 1) := by decide +kernel
theorem dX3_copyFrom_25 : decode cX3_copyFrom 25 = .ok (.aload_n 1, 1) := by decide +kernel
theorem dX3_copyFrom_26 : decode cX3_copyFrom 26 = .ok (.getfield 21, 3) := by decide +kernel
theorem dX3_copyFrom_29 : decode cX3_copyFrom 29 = .ok (.putfield 21, 3) := by decide +kernel
theorem dX3_copyFrom_32 : decode cX3_copyFrom 32 = .ok (.aload_n 1, 1) := by decide +kernel
theorem dX3_copyFrom_33 : decode cX3_copyFrom 33 = .ok (.getfield 24, 3) := by decide +kernel
theorem dX3_copyFrom_36 : decode cX3_copyFrom 36 = .ok (.iconst 0, 1) := by decide +kernel
theorem dX3_copyFrom_37 : decode cX3_copyFrom 37 = .ok (.aload_n 0, 1) := by decide +kernel
theorem dX3_copyFrom_38 : decode cX3_copyFrom 38 = .ok (.getfield 24, 3) := by decide +kernel
theorem dX3_copyFrom_41 : decode cX3_copyFrom 41 = .ok (.iconst 0, 1) := by decide +kernel
theorem dX3_copyFrom_42 : decode cX3_copyFrom 42 = .ok (.bipush 6, 2) := by decide +kernel
theorem dX3_copyFrom_44 : decode cX3_copyFrom 44 = .ok (.invokestatic 37, 3) := by decide +kernel
theorem dX3_copyFrom_47 : decode cX3_copyFrom 47 = .ok (.aload_n 0, 1) := by decide +kernel
theorem dX3_copyFrom_48 : decode cX3_copyFrom 48 = .ok (.aload_n 1, 1) := by decide +kernel
theorem dX3_copyFrom_49 : decode cX3_copyFrom 49 = .ok (.getfield 28, 3) := by decide +kernel
theorem dX3_copyFrom_52 : decode cX3_copyFrom 52 = .ok (.putfield 28, 3) := by decide +kernel
theorem dX3_copyFrom_55 : decode cX3_copyFrom 55 = .ok (.aload_n 0, 1) := by decide +kernel
theorem dX3_copyFrom_56 : decode cX3_copyFrom 56 = .ok (.aload_n 1, 1) := by decide +kernel
theorem dX3_copyFrom_57 : decode cX3_copyFrom 57 = .ok (.getfield 31, 3) := by decide +kernel
theorem dX3_copyFrom_60 : decode cX3_copyFrom 60 = .ok (.putfield 31, 3) := by decide +kernel
theorem dX3_copyFrom_63 : decode cX3_copyFrom 63 = .ok (.aload_n 0, 1) := by decide +kernel
theorem dX3_copyFrom_64 : decode cX3_copyFrom 64 = .ok (.aload_n 1, 1) := by decide +kernel
theorem dX3_copyFrom_65 : decode cX3_copyFrom 65 = .ok (.getfield 34, 3) := by decide +kernel
theorem dX3_copyFrom_68 : decode cX3_copyFrom 68 = .ok (.putfield 34, 3) := by decide +kernel
theorem dX3_copyFrom_71 : decode cX3_copyFrom 71 = .ok (.return_, 1) := by decide +kernel
set_option maxRecDepth 20000 in
theorem ggX3_addIllegalCode_X3_forgetEdge : GoodIn wsX3_addIllegalCode wsX3_forgetEdge := goodIn_r _ [6, 7, 8, 9, 10, 11, 12, 13, 14, 15, 16] (by decide +kernel) (by decide +kernel)
set_option maxRecDepth 20000 in
theorem gX3_addIllegalCode_X3_forgetEdge : GoodIn wsX3_addIllegalCode (wsV RX3 43 RX3 yX3_forgetEdge wsX3_forgetEdge) := goodIn_app (goodIn_of _ (by decide +kernel)) ggX3_addIllegalCode_X3_forgetEdge
theorem dX3_addIllegalCode_0 : decode cX3_addIllegalCode 0 = .ok (.aload_n 0, 1) := by decide +kernel
theorem dX3_addIllegalCode_1 : decode cX3_addIllegalCode 1 = .ok (.dup, 1) := by decide +kernel
theorem dX3_addIllegalCode_2 : decode cX3_addIllegalCode 2 = .ok (.getfield 15, 3) := by decide +kernel
theorem dX3_addIllegalCode_5 : decode cX3_addIllegalCode 5 = .ok (.iconst 1, 1) := by decide +kernel
theorem dX3_addIllegalCode_6 : decode cX3_addIllegalCode 6 = .ok (.iadd, 1) := by decide +kernel
theorem dX3_addIllegalCode_7 : decode cX3_addIllegalCode 7 = .ok (.putfield 15, 3) := by decide +kernel
theorem dX3_addIllegalCode_10 : decode cX3_addIllegalCode 10 = .ok (.aload_n 0, 1) := by decide +kernel
theorem dX3_addIllegalCode_11 : decode cX3_addIllegalCode 11 = .ok (.invokevirtual 43, 3) := by decide +kernel
theorem dX3_addIllegalCode_14 : decode cX3_addIllegalCode 14 = .ok (.return_, 1) := by decide +kernel
set_option maxRecDepth 20000 in
theorem ggX3_addSkip_X3_forgetEdge : GoodIn wsX3_addSkip wsX3_forgetEdge := goodIn_r _ [6, 7, 8, 9, 10, 11, 12, 13, 14, 15, 16] (by decide +kernel) (by decide +kernel)
set_option maxRecDepth 20000 in
theorem gX3_addSkip_X3_forgetEdge : GoodIn wsX3_addSkip (wsV RX3 43 RX3 yX3_forgetEdge wsX3_forgetEdge) := goodIn_app (goodIn_of _ (by decide +kernel)) ggX3_addSkip_X3_forgetEdge
theorem dX3_addSkip_0 : decode cX3_addSkip 0 = .ok (.aload_n 0, 1) := by decide +kernel
theorem dX3_addSkip_1 : decode cX3_addSkip 1 = .ok (.dup, 1) := by decide +kernel
theorem dX3_addSkip_2 : decode cX3_addSkip 2 = .ok (.getfield 18, 3) := by decide +kernel
theorem dX3_addSkip_5 : decode cX3_addSkip 5 = .ok (.iconst 1, 1) := by decide +kernel
theorem dX3_addSkip_6 : decode cX3_addSkip 6 = .ok (.iadd, 1) := by decide +kernel
theorem dX3_addSkip_7 : decode cX3_addSkip 7 = .ok (.putfield 18, 3) := by decide +kernel
theorem dX3_addSkip_10 : decode cX3_addSkip 10 = .ok (.aload_n 0, 1) := by decide +kernel
theorem dX3_addSkip_11 : decode cX3_addSkip 11 = .ok (.invokevirtual 43, 3) := by decide +kernel
theorem dX3_addSkip_14 : decode cX3_addSkip 14 = .ok (.return_, 1) := by decide +kernel
set_option maxRecDepth 20000 in
theorem ggX3_addEdge_X3_appendInterval : GoodIn wsX3_addEdge wsX3_appendInterval := goodIn_r _ [10, 5, 11, 12, 13, 14, 15, 16, 17, 18, 19] (by decide +kernel) (by decide +kernel)
set_option maxRecDepth 20000 in
theorem gX3_addEdge_X3_appendInterval : GoodIn wsX3_addEdge (wsV RX3 46 RX3 yX3_appendInterval wsX3_appendInterval) := goodIn_app (goodIn_of _ (by decide +kernel)) ggX3_addEdge_X3_appendInterval
theorem dX3_addEdge_0 : decode cX3_addEdge 0 = .ok (.aload_n 0, 1) := by decide +kernel
theorem dX3_addEdge_1 : decode cX3_addEdge 1 = .ok (.dup, 1) := by decide +kernel
theorem dX3_addEdge_2 : decode cX3_addEdge 2 = .ok (.getfield 21, 3) := by decide +kernel
theorem dX3_addEdge_5 : decode cX3_addEdge 5 = .ok (.iconst 1, 1) := by decide +kernel
theorem dX3_addEdge_6 : decode cX3_addEdge 6 = .ok (.iadd, 1) := by decide +kernel
theorem dX3_addEdge_7 : decode cX3_addEdge 7 = .ok (.putfield 21, 3) := by decide +kernel
theorem dX3_addEdge_10 : decode cX3_addEdge 10 = .ok (.aload_n 0, 1) := by decide +kernel
theorem dX3_addEdge_11 : decode cX3_addEdge 11 = .ok (.dup, 1) := by decide +kernel
theorem dX3_addEdge_12 : decode cX3_addEdge 12 = .ok (.getfield 9, 3) := by decide +kernel
theorem dX3_addEdge_15 : decode cX3_addEdge 15 = .ok (.iload_n 1, 1) := by decide +kernel
theorem dX3_addEdge_16 : decode cX3_addEdge 16 = .ok (.iadd, 1) := by decide +kernel
theorem dX3_addEdge_17 : decode cX3_addEdge 17 = .ok (.putfield 9, 3) := by decide +kernel
theorem dX3_addEdge_20 : decode cX3_addEdge 20 = .ok (.iload_n 1, 1) := by decide +kernel
theorem dX3_addEdge_21 : decode cX3_addEdge 21 = .ok (.aload_n 0, 1) := by decide +kernel
theorem dX3_addEdge_22 : decode cX3_addEdge 22 = .ok (.getfield 34, 3) := by decide +kernel
theorem dX3_addEdge_25 : decode cX3_addEdge 25 = .ok (.if_icmp .ne 16, 3) := by decide +kernel
theorem dX3_addEdge_28 : decode cX3_addEdge 28 = .ok (.aload_n 0, 1) := by decide +kernel
theorem dX3_addEdge_29 : decode cX3_addEdge 29 = .ok (.iload_n 2, 1) := by decide +kernel
theorem dX3_addEdge_30 : decode cX3_addEdge 30 = .ok (.aload_n 0, 1) := by decide +kernel
theorem dX3_addEdge_31 : decode cX3_addEdge 31 = .ok (.getfield 31, 3) := by decide +kernel
theorem dX3_addEdge_34 : decode cX3_addEdge 34 = .ok (.isub, 1) := by decide +kernel
theorem dX3_addEdge_35 : decode cX3_addEdge 35 = .ok (.invokevirtual 46, 3) := by decide +kernel
theorem dX3_addEdge_38 : decode cX3_addEdge 38 = .ok (.goto 8, 3) := by decide +kernel
theorem dX3_addEdge_41 : decode cX3_addEdge 41 = .ok (.aload_n 0, 1) := by decide +kernel
theorem dX3_addEdge_42 : decode cX3_addEdge 42 = .ok (.iconst 0, 1) := by decide +kernel
theorem dX3_addEdge_43 : decode cX3_addEdge 43 = .ok (.putfield 28, 3) := by decide +kernel
theorem dX3_addEdge_46 : decode cX3_addEdge 46 = .ok (.aload_n 0, 1) := by decide +kernel
theorem dX3_addEdge_47 : decode cX3_addEdge 47 = .ok (.iload_n 1, 1) := by decide +kernel
theorem dX3_addEdge_48 : decode cX3_addEdge 48 = .ok (.putfield 34, 3) := by decide +kernel
theorem dX3_addEdge_51 : decode cX3_addEdge 51 = .ok (.aload_n 0, 1) := by decide +kernel
theorem dX3_addEdge_52 : decode cX3_addEdge 52 = .ok (.iload_n 2, 1) := by decide +kernel
theorem dX3_addEdge_53 : decode cX3_addEdge 53 = .ok (.putfield 31, 3) := by decide +kernel
theorem dX3_addEdge_56 : decode cX3_addEdge 56 = .ok (.return_, 1) := by decide +kernel
theorem dX3_forgetEdge_0 : decode cX3_forgetEdge 0 = .ok (.aload_n 0, 1) := by decide +kernel
theorem dX3_forgetEdge_1 : decode cX3_forgetEdge 1 = .ok (.iconst 0, 1) := by decide +kernel
theorem dX3_forgetEdge_2 : decode cX3_forgetEdge 2 = .ok (.putfield 28, 3) := by decide +kernel
theorem dX3_forgetEdge_5 : decode cX3_forgetEdge 5 = .ok (.aload_n 0, 1) := by decide +kernel
theorem dX3_forgetEdge_6 : decode cX3_forgetEdge 6 = .ok (.iconst 0, 1) := by decide +kernel
theorem dX3_forgetEdge_7 : decode cX3_forgetEdge 7 = .ok (.putfield 34, 3) := by decide +kernel
theorem dX3_forgetEdge_10 : decode cX3_forgetEdge 10 = .ok (.return_, 1) := by decide +kernel
theorem dX3_appendInterval_0 : decode cX3_appendInterval 0 = .ok (.aload_n 0, 1) := by decide +kernel
theorem dX3_appendInterval_1 : decode cX3_appendInterval 1 = .ok (.getfield 28, 3) := by decide +kernel
theorem dX3_appendInterval_4 : decode cX3_appendInterval 4 = .ok (.bipush 6, 2) := by decide +kernel
theorem dX3_appendInterval_6 : decode cX3_appendInterval 6 = .ok (.if_icmp .lt 36, 3) := by decide +kernel
theorem dX3_appendInterval_9 : decode cX3_appendInterval 9 = .ok (.iconst 1, 1) := by decide +kernel
theorem dX3_appendInterval_10 : decode cX3_appendInterval 10 = .ok (.istore_n 2, 1) := by decide +kernel
theorem dX3_appendInterval_11 : decode cX3_appendInterval 11 = .ok (.iload_n 2, 1) := by decide +kernel
theorem dX3_appendInterval_12 : decode cX3_appendInterval 12 = .ok (.bipush 6, 2) := by decide +kernel
theorem dX3_appendInterval_14 : decode cX3_appendInterval 14 = .ok (.if_icmp .ge 23, 3) := by decide +kernel
theorem dX3_appendInterval_17 : decode cX3_appendInterval 17 = .ok (.aload_n 0, 1) := by decide +kernel
theorem dX3_appendInterval_18 : decode cX3_appendInterval 18 = .ok (.getfield 24, 3) := by decide +kernel
theorem dX3_appendInterval_21 : decode cX3_appendInterval 21 = .ok (.iload_n 2, 1) := by decide +kernel
theorem dX3_appendInterval_22 : decode cX3_appendInterval 22 = .ok (.iconst 1, 1) := by decide +kernel
theorem dX3_appendInterval_23 : decode cX3_appendInterval 23 = .ok (.isub, 1) := by decide +kernel
theorem dX3_appendInterval_24 : decode cX3_appendInterval 24 = .ok (.aload_n 0, 1) := by decide +kernel
theorem dX3_appendInterval_25 : decode cX3_appendInterval 25 = .ok (.getfield 24, 3) := by decide +kernel
theorem dX3_appendInterval_28 : decode cX3_appendInterval 28 = .ok (.iload_n 2, 1) := by decide +kernel
theorem dX3_appendInterval_29 : decode cX3_appendInterval 29 = .ok (.iaload, 1) := by decide +kernel
theorem dX3_appendInterval_30 : decode cX3_appendInterval 30 = .ok (.iastore, 1) := by decide +kernel
theorem dX3_appendInterval_31 : decode cX3_appendInterval 31 = .ok (.iinc 2 1, 3) := by decide +kernel
theorem dX3_appendInterval_34 : decode cX3_appendInterval 34 = .ok (.goto (-23), 3) := by decide +kernel
theorem dX3_appendInterval_37 : decode cX3_appendInterval 37 = .ok (.aload_n 0, 1) := by decide +kernel
theorem dX3_appendInterval_38 : decode cX3_appendInterval 38 = .ok (.iconst 5, 1) := by decide +kernel
theorem dX3_appendInterval_39 : decode cX3_appendInterval 39 = .ok (.putfield 28, 3) := by decide +kernel
theorem dX3_appendInterval_42 : decode cX3_appendInterval 42 = .ok (.aload_n 0, 1) := by decide +kernel
theorem dX3_appendInterval_43 : decode cX3_appendInterval 43 = .ok (.getfield 24, 3) := by decide +kernel
theorem dX3_appendInterval_46 : decode cX3_appendInterval 46 = .ok (.aload_n 0, 1) := by decide +kernel
theorem dX3_appendInterval_47 : decode cX3_appendInterval 47 = .ok (.getfield 28, 3) := by decide +kernel
theorem dX3_appendInterval_50 : decode cX3_appendInterval 50 = .ok (.iload_n 1, 1) := by decide +kernel
theorem dX3_appendInterval_51 : decode cX3_appendInterval 51 = .ok (.iastore, 1) := by decide +kernel
theorem dX3_appendInterval_52 : decode cX3_appendInterval 52 = .ok (.aload_n 0, 1) := by decide +kernel
theorem dX3_appendInterval_53 : decode cX3_appendInterval 53 = .ok (.dup, 1) := by decide +kernel
theorem dX3_appendInterval_54 : decode cX3_appendInterval 54 = .ok (.getfield 28, 3) := by decide +kernel
theorem dX3_appendInterval_57 : decode cX3_appendInterval 57 = .ok (.iconst 1, 1) := by decide +kernel
theorem dX3_appendInterval_58 : decode cX3_appendInterval 58 = .ok (.iadd, 1) := by decide +kernel
theorem dX3_appendInterval_59 : decode cX3_appendInterval 59 = .ok (.putfield 28, 3) := by decide +kernel
theorem dX3_appendInterval_62 : decode cX3_appendInterval 62 = .ok (.return_, 1) := by decide +kernel
theorem dX3_estimateSpeed_0 : decode cX3_estimateSpeed 0 = .ok (.lconst 0, 1) := by decide +kernel
theorem dX3_estimateSpeed_1 : decode cX3_estimateSpeed 1 = .ok (.lstore_n 1, 1) := by decide +kernel
theorem dX3_estimateSpeed_2 : decode cX3_estimateSpeed 2 = .ok (.iconst 0, 1) := by decide +kernel
theorem dX3_estimateSpeed_3 : decode cX3_estimateSpeed 3 = .ok (.istore_n 3, 1) := by decide +kernel
theorem dX3_estimateSpeed_4 : decode cX3_estimateSpeed 4 = .ok (.iload_n 3, 1) := by decide +kernel
theorem dX3_estimateSpeed_5 : decode cX3_estimateSpeed 5 = .ok (.aload_n 0, 1) := by decide +kernel
theorem dX3_estimateSpeed_6 : decode cX3_estimateSpeed 6 = .ok (.getfield 28, 3) := by decide +kernel
theorem dX3_estimateSpeed_9 : decode cX3_estimateSpeed 9 = .ok (.if_icmp .ge 19, 3) := by decide +kernel
theorem dX3_estimateSpeed_12 : decode cX3_estimateSpeed 12 = .ok (.lload_n 1, 1) := by decide +kernel
theorem dX3_estimateSpeed_13 : decode cX3_estimateSpeed 13 = .ok (.aload_n 0, 1) := by decide +kernel
theorem dX3_estimateSpeed_14 : decode cX3_estimateSpeed 14 = .ok (.getfield 24, 3) := by decide +kernel
theorem dX3_estimateSpeed_17 : decode cX3_estimateSpeed 17 = .ok (.iload_n 3, 1) := by decide +kernel
theorem dX3_estimateSpeed_18 : decode cX3_estimateSpeed 18 = .ok (.iaload, 1) := by decide +kernel
theorem dX3_estimateSpeed_19 : decode cX3_estimateSpeed 19 = .ok (.i2l, 1) := by decide +kernel
theorem dX3_estimateSpeed_20 : decode cX3_estimateSpeed 20 = .ok (.ladd, 1) := by decide +kernel
theorem dX3_estimateSpeed_21 : decode cX3_estimateSpeed 21 = .ok (.lstore_n 1, 1) := by decide +kernel
theorem dX3_estimateSpeed_22 : decode cX3_estimateSpeed 22 = .ok (.iinc 3 1, 3) := by decide +kernel
theorem dX3_estimateSpeed_25 : decode cX3_estimateSpeed 25 = .ok (.goto (-21), 3) := by decide +kernel
theorem dX3_estimateSpeed_28 : decode cX3_estimateSpeed 28 = .ok (.lload_n 1, 1) := by decide +kernel
theorem dX3_estimateSpeed_29 : decode cX3_estimateSpeed 29 = .ok (.lconst 0, 1) := by decide +kernel
theorem dX3_estimateSpeed_30 : decode cX3_estimateSpeed 30 = .ok (.lcmp, 1) := by decide +kernel
