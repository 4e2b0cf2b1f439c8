theorem dX9_isDriven_4 : decode cX9_isDriven 4 = .ok (.bipush 6, 2) := by decide +kernel
theorem dX9_isDriven_6 : decode cX9_isDriven 6 = .ok (.iaload, 1) := by decide +kernel
theorem dX9_isDriven_7 : decode cX9_isDriven 7 = .ok (.iconst 1, 1) := by decide +kernel
theorem dX9_isDriven_8 : decode cX9_isDriven 8 = .ok (.if_icmp .eq 14, 3) := by decide +kernel
theorem dX9_isDriven_11 : decode cX9_isDriven 11 = .ok (.aload_n 0, 1) := by decide +kernel
theorem dX9_isDriven_12 : decode cX9_isDriven 12 = .ok (.getfield 7, 3) := by decide +kernel
theorem dX9_isDriven_15 : decode cX9_isDriven 15 = .ok (.bipush 6, 2) := by decide +kernel
theorem dX9_isDriven_17 : decode cX9_isDriven 17 = .ok (.iaload, 1) := by decide +kernel
theorem dX9_isDriven_18 : decode cX9_isDriven 18 = .ok (.iconst 2, 1) := by decide +kernel
theorem dX9_isDriven_19 : decode cX9_isDriven 19 = .ok (.if_icmp .ne 7, 3) := by decide +kernel
theorem dX9_isDriven_22 : decode cX9_isDriven 22 = .ok (.iconst 1, 1) := by decide +kernel
theorem dX9_isDriven_23 : decode cX9_isDriven 23 = .ok (.goto 4, 3) := by decide +kernel
theorem dX9_isDriven_26 : decode cX9_isDriven 26 = .ok (.iconst 0, 1) := by decide +kernel
theorem dX9_isDriven_27 : decode cX9_isDriven 27 = .ok (.ireturn, 1) := by decide +kernel
set_option maxRecDepth 20000 in
theorem ggX9_accepts_X9_sectorOf : GoodIn wsX9_accepts wsX9_sectorOf := goodIn_r _ [5] (by decide +kernel) (by decide +kernel)
set_option maxRecDepth 20000 in
theorem gX9_accepts_X9_sectorOf : GoodIn wsX9_accepts (va_wsS RX9 43 yX9_sectorOf wsX9_sectorOf) := goodIn_app (goodIn_of _ (by decide +kernel)) ggX9_accepts_X9_sectorOf
set_option maxRecDepth 20000 in
theorem ggX9_accepts_X9_forgetsEdges : GoodIn wsX9_accepts wsX9_forgetsEdges := goodIn_r _ [9, 1, 27, 28, 29, 30, 31, 32] (by decide +kernel) (by decide +kernel)
set_option maxRecDepth 20000 in
theorem gX9_accepts_X9_forgetsEdges : GoodIn wsX9_accepts (wsV RX9 49 RX9 yX9_forgetsEdges wsX9_forgetsEdges) := goodIn_app (goodIn_of _ (by decide +kernel)) ggX9_accepts_X9_forgetsEdges
set_option maxRecDepth 20000 in
theorem ggX9_accepts_X9_turns : GoodIn wsX9_accepts wsX9_turns := goodIn_r _ [13, 14, 1, 15, 16, 17, 4, 18, 19, 20, 21, 22, 23, 24, 25, 26, 27, 28, 29, 30, 31, 32] (by decide +kernel) (by decide +kernel)
set_option maxRecDepth 20000 in
theorem gX9_accepts_X9_turns : GoodIn wsX9_accepts (wsV RX9 52 RX9 yX9_turns wsX9_turns) := goodIn_app (goodIn_of _ (by decide +kernel)) ggX9_accepts_X9_turns
theorem dX9_accepts_0 : decode cX9_accepts 0 = .ok (.aload_n 0, 1) := by decide +kernel
theorem dX9_accepts_1 : decode cX9_accepts 1 = .ok (.getfield 7, 3) := by decide +kernel
theorem dX9_accepts_4 : decode cX9_accepts 4 = .ok (.bipush 8, 2) := by decide +kernel
theorem dX9_accepts_6 : decode cX9_accepts 6 = .ok (.iaload, 1) := by decide +kernel
theorem dX9_accepts_7 : decode cX9_accepts 7 = .ok (.invokestatic 43, 3) := by decide +kernel
theorem dX9_accepts_10 : decode cX9_accepts 10 = .ok (.istore_n 1, 1) := by decide +kernel
theorem dX9_accepts_11 : decode cX9_accepts 11 = .ok (.aload_n 0, 1) := by decide +kernel
theorem dX9_accepts_12 : decode cX9_accepts 12 = .ok (.getfield 7, 3) := by decide +kernel
theorem dX9_accepts_15 : decode cX9_accepts 15 = .ok (.bipush 9, 2) := by decide +kernel
theorem dX9_accepts_17 : decode cX9_accepts 17 = .ok (.iaload, 1) := by decide +kernel
theorem dX9_accepts_18 : decode cX9_accepts 18 = .ok (.istore_n 2, 1) := by decide +kernel
theorem dX9_accepts_19 : decode cX9_accepts 19 = .ok (.aload_n 0, 1) := by decide +kernel
theorem dX9_accepts_20 : decode cX9_accepts 20 = .ok (.getfield 7, 3) := by decide +kernel
theorem dX9_accepts_23 : decode cX9_accepts 23 = .ok (.bipush 9, 2) := by decide +kernel
theorem dX9_accepts_25 : decode cX9_accepts 25 = .ok (.iload_n 1, 1) := by decide +kernel
theorem dX9_accepts_26 : decode cX9_accepts 26 = .ok (.iastore, 1) := by decide +kernel
theorem dX9_accepts_27 : decode cX9_accepts 27 = .ok (.iload_n 1, 1) := by decide +kernel
theorem dX9_accepts_28 : decode cX9_accepts 28 = .ok (.iconst (-1), 1) := by decide +kernel
theorem dX9_accepts_29 : decode cX9_accepts 29 = .ok (.if_icmp .ne 19, 3) := by decide +kernel
theorem dX9_accepts_32 : decode cX9_accepts 32 = .ok (.aload_n 0, 1) := by decide +kernel
theorem dX9_accepts_33 : decode cX9_accepts 33 = .ok (.getfield 7, 3) := by decide +kernel
theorem dX9_accepts_36 : decode cX9_accepts 36 = .ok (.bipush 29, 2) := by decide +kernel
theorem dX9_accepts_38 : decode cX9_accepts 38 = .ok (.dup2, 1) := by decide +kernel
theorem dX9_accepts_39 : decode cX9_accepts 39 = .ok (.iaload, 1) := by decide +kernel
theorem dX9_accepts_40 : decode cX9_accepts 40 = .ok (.iconst 1, 1) := by decide +kernel
theorem dX9_accepts_41 : decode cX9_accepts 41 = .ok (.iadd, 1) := by decide +kernel
theorem dX9_accepts_42 : decode cX9_accepts 42 = .ok (.iastore, 1) := by decide +kernel
theorem dX9_accepts_43 : decode cX9_accepts 43 = .ok (.aload_n 0, 1) := by decide +kernel
theorem dX9_accepts_44 : decode cX9_accepts 44 = .ok (.invokevirtual 49, 3) := by decide +kernel
theorem dX9_accepts_47 : decode cX9_accepts 47 = .ok (.return_, 1) := by decide +kernel
theorem dX9_accepts_48 : decode cX9_accepts 48 = .ok (.iload_n 2, 1) := by decide +kernel
theorem dX9_accepts_49 : decode cX9_accepts 49 = .ok (.iconst (-1), 1) := by decide +kernel
theorem dX9_accepts_50 : decode cX9_accepts 50 = .ok (.if_icmp .ne 7, 3) := by decide +kernel
theorem dX9_accepts_53 : decode cX9_accepts 53 = .ok (.iconst 0, 1) := by decide +kernel
theorem dX9_accepts_54 : decode cX9_accepts 54 = .ok (.goto 12, 3) := by decide +kernel
theorem dX9_accepts_57 : decode cX9_accepts 57 = .ok (.iload_n 1, 1) := by decide +kernel
theorem dX9_accepts_58 : decode cX9_accepts 58 = .ok (.iload_n 2, 1) := by decide +kernel
theorem dX9_accepts_59 : decode cX9_accepts 59 = .ok (.isub, 1) := by decide +kernel
theorem dX9_accepts_60 : decode cX9_accepts 60 = .ok (.bipush 6, 2) := by decide +kernel
theorem dX9_accepts_62 : decode cX9_accepts 62 = .ok (.iadd, 1) := by decide +kernel
theorem dX9_accepts_63 : decode cX9_accepts 63 = .ok (.bipush 6, 2) := by decide +kernel
theorem dX9_accepts_65 : decode cX9_accepts 65 = .ok (.irem, 1) := by decide +kernel
theorem dX9_accepts_66 : decode cX9_accepts 66 = .ok (.istore_n 3, 1) := by decide +kernel
theorem dX9_accepts_67 : decode cX9_accepts 67 = .ok (.iload_n 3, 1) := by decide +kernel
theorem dX9_accepts_68 : decode cX9_accepts 68 = .ok (.iconst 1, 1) := by decide +kernel
theorem dX9_accepts_69 : decode cX9_accepts 69 = .ok (.if_icmp .eq 8, 3) := by decide +kernel
theorem dX9_accepts_72 : decode cX9_accepts 72 = .ok (.iload_n 3, 1) := by decide +kernel
theorem dX9_accepts_73 : decode cX9_accepts 73 = .ok (.iconst 5, 1) := by decide +kernel
theorem dX9_accepts_74 : decode cX9_accepts 74 = .ok (.if_icmp .ne 20, 3) := by decide +kernel
theorem dX9_accepts_77 : decode cX9_accepts 77 = .ok (.aload_n 0, 1) := by decide +kernel
theorem dX9_accepts_78 : decode cX9_accepts 78 = .ok (.iload_n 3, 1) := by decide +kernel
theorem dX9_accepts_79 : decode cX9_accepts 79 = .ok (.iconst 1, 1) := by decide +kernel
theorem dX9_accepts_80 : decode cX9_accepts 80 = .ok (.if_icmp .ne 7, 3) := by decide +kernel
theorem dX9_accepts_83 : decode cX9_accepts 83 = .ok (.iconst 1, 1) := by decide +kernel
theorem dX9_accepts_84 : decode cX9_accepts 84 = .ok (.goto 4, 3) := by decide +kernel
theorem dX9_accepts_87 : decode cX9_accepts 87 = .ok (.iconst (-1), 1) := by decide +kernel
theorem dX9_accepts_88 : decode cX9_accepts 88 = .ok (.invokevirtual 52, 3) := by decide +kernel
theorem dX9_accepts_91 : decode cX9_accepts 91 = .ok (.goto 22, 3) := by decide +kernel
theorem dX9_accepts_94 : decode cX9_accepts 94 = .ok (.iload_n 3, 1) := by decide +kernel
theorem dX9_accepts_95 : decode cX9_accepts 95 = .ok (.ifCond .eq 18, 3) := by decide +kernel
theorem dX9_accepts_98 : decode cX9_accepts 98 = .ok (.aload_n 0, 1) := by decide +kernel
theorem dX9_accepts_99 : decode cX9_accepts 99 = .ok (.getfield 7, 3) := by decide +kernel
theorem dX9_accepts_102 : decode cX9_accepts 102 = .ok (.bipush 30, 2) := by decide +kernel
theorem dX9_accepts_104 : decode cX9_accepts 104 = .ok (.dup2, 1) := by decide +kernel
theorem dX9_accepts_105 : decode cX9_accepts 105 = .ok (.iaload, 1) := by decide +kernel
theorem dX9_accepts_106 : decode cX9_accepts 106 = .ok (.iconst 1, 1) := by decide +kernel
theorem dX9_accepts_107 : decode cX9_accepts 107 = .ok (.iadd, 1) := by decide +kernel
theorem dX9_accepts_108 : decode cX9_accepts 108 = .ok (.iastore, 1) := by decide +kernel
theorem dX9_accepts_109 : decode cX9_accepts 109 = .ok (.aload_n 0, 1) := by decide +kernel
theorem dX9_accepts_110 : decode cX9_accepts 110 = .ok (.invokevirtual 49, 3) := by decide +kernel
theorem dX9_accepts_113 : decode cX9_accepts 113 = .ok (.return_, 1) := by decide +kernel
set_option maxRecDepth 20000 in
theorem ggX9_turns_X9_addsInterval : GoodIn wsX9_turns wsX9_addsInterval := goodIn_r _ [7, 2, 16, 17, 18, 19, 20, 21] (by decide +kernel) (by decide +kernel)
set_option maxRecDepth 20000 in
theorem gX9_turns_X9_addsInterval : GoodIn wsX9_turns (wsV RX9 60 RX9 yX9_addsInterval wsX9_addsInterval) := goodIn_app (goodIn_of _ (by decide +kernel)) ggX9_turns_X9_addsInterval
set_option maxRecDepth 20000 in
theorem ggX9_turns_X9_isDriven : GoodIn wsX9_turns wsX9_isDriven := goodIn_r _ [11, 2, 16, 17, 18, 19, 20, 21] (by decide +kernel) (by decide +kernel)
set_option maxRecDepth 20000 in
theorem gX9_turns_X9_isDriven : GoodIn wsX9_turns (wsV RX9 63 RX9 yX9_isDriven wsX9_isDriven) := goodIn_app (goodIn_of _ (by decide +kernel)) ggX9_turns_X9_isDriven
set_option maxRecDepth 20000 in
theorem ggX9_turns_X9_faults : GoodIn wsX9_turns wsX9_faults := goodIn_r _ [15, 2, 16, 17, 18, 19, 20, 21] (by decide +kernel) (by decide +kernel)
set_option maxRecDepth 20000 in
theorem gX9_turns_X9_faults : GoodIn wsX9_turns (wsV RX9 67 RX9 yX9_faults wsX9_faults) := goodIn_app (goodIn_of _ (by decide +kernel)) ggX9_turns_X9_faults
theorem dX9_turns_0 : decode cX9_turns 0 = .ok (.aload_n 0, 1) := by decide +kernel
theorem dX9_turns_1 : decode cX9_turns 1 = .ok (.iconst 1, 1) := by decide +kernel
theorem dX9_turns_2 : decode cX9_turns 2 = .ok (.putfield 56, 3) := by decide +kernel
theorem dX9_turns_5 : decode cX9_turns 5 = .ok (.aload_n 0, 1) := by decide +kernel
theorem dX9_turns_6 : decode cX9_turns 6 = .ok (.getfield 7, 3) := by decide +kernel
theorem dX9_turns_9 : decode cX9_turns 9 = .ok (.bipush 31, 2) := by decide +kernel
theorem dX9_turns_11 : decode cX9_turns 11 = .ok (.dup2, 1) := by decide +kernel
theorem dX9_turns_12 : decode cX9_turns 12 = .ok (.iaload, 1) := by decide +kernel
theorem dX9_turns_13 : decode cX9_turns 13 = .ok (.iconst 1, 1) := by decide +kernel
theorem dX9_turns_14 : decode cX9_turns 14 = .ok (.iadd, 1) := by decide +kernel
theorem dX9_turns_15 : decode cX9_turns 15 = .ok (.iastore, 1) := by decide +kernel
theorem dX9_turns_16 : decode cX9_turns 16 = .ok (.aload_n 0, 1) := by decide +kernel
theorem dX9_turns_17 : decode cX9_turns 17 = .ok (.getfield 7, 3) := by decide +kernel
theorem dX9_turns_20 : decode cX9_turns 20 = .ok (.bipush 28, 2) := by decide +kernel
theorem dX9_turns_22 : decode cX9_turns 22 = .ok (.dup2, 1) := by decide +kernel
theorem dX9_turns_23 : decode cX9_turns 23 = .ok (.iaload, 1) := by decide +kernel
theorem dX9_turns_24 : decode cX9_turns 24 = .ok (.iload_n 1, 1) := by decide +kernel
theorem dX9_turns_25 : decode cX9_turns 25 = .ok (.iadd, 1) := by decide +kernel
theorem dX9_turns_26 : decode cX9_turns 26 = .ok (.iastore, 1) := by decide +kernel
theorem dX9_turns_27 : decode cX9_turns 27 = .ok (.aload_n 0, 1) := by decide +kernel
theorem dX9_turns_28 : decode cX9_turns 28 = .ok (.getfield 7, 3) := by decide +kernel
theorem dX9_turns_31 : decode cX9_turns 31 = .ok (.bipush 33, 2) := by decide +kernel
theorem dX9_turns_33 : decode cX9_turns 33 = .ok (.iaload, 1) := by decide +kernel
theorem dX9_turns_34 : decode cX9_turns 34 = .ok (.iconst (-1), 1) := by decide +kernel
theorem dX9_turns_35 : decode cX9_turns 35 = .ok (.if_icmp .eq 14, 3) := by decide +kernel
theorem dX9_turns_38 : decode cX9_turns 38 = .ok (.aload_n 0, 1) := by decide +kernel
theorem dX9_turns_39 : decode cX9_turns 39 = .ok (.getfield 7, 3) := by decide +kernel
theorem dX9_turns_42 : decode cX9_turns 42 = .ok (.bipush 34, 2) := by decide +kernel
theorem dX9_turns_44 : decode cX9_turns 44 = .ok (.iaload, 1) := by decide +kernel
theorem dX9_turns_45 : decode cX9_turns 45 = .ok (.iload_n 1, 1) := by decide +kernel
theorem dX9_turns_46 : decode cX9_turns 46 = .ok (.if_icmp .eq 14, 3) := by decide +kernel
theorem dX9_turns_49 : decode cX9_turns 49 = .ok (.aload_n 0, 1) := by decide +kernel
theorem dX9_turns_50 : decode cX9_turns 50 = .ok (.getfield 7, 3) := by decide +kernel
theorem dX9_turns_53 : decode cX9_turns 53 = .ok (.bipush 35, 2) := by decide +kernel
theorem dX9_turns_55 : decode cX9_turns 55 = .ok (.iconst 0, 1) := by decide +kernel
theorem dX9_turns_56 : decode cX9_turns 56 = .ok (.iastore, 1) := by decide +kernel
theorem dX9_turns_57 : decode cX9_turns 57 = .ok (.goto 21, 3) := by decide +kernel
theorem dX9_turns_60 : decode cX9_turns 60 = .ok (.aload_n 0, 1) := by decide +kernel
theorem dX9_turns_61 : decode cX9_turns 61 = .ok (.aload_n 0, 1) := by decide +kernel
theorem dX9_turns_62 : decode cX9_turns 62 = .ok (.getfield 7, 3) := by decide +kernel
theorem dX9_turns_65 : decode cX9_turns 65 = .ok (.iconst 0, 1) := by decide +kernel
theorem dX9_turns_66 : decode cX9_turns 66 = .ok (.iaload, 1) := by decide +kernel
theorem dX9_turns_67 : decode cX9_turns 67 = .ok (.aload_n 0, 1) := by decide +kernel
theorem dX9_turns_68 : decode cX9_turns 68 = .ok (.getfield 7, 3) := by decide +kernel
theorem dX9_turns_71 : decode cX9_turns 71 = .ok (.bipush 33, 2) := by decide +kernel
theorem dX9_turns_73 : decode cX9_turns 73 = .ok (.iaload, 1) := by decide +kernel
theorem dX9_turns_74 : decode cX9_turns 74 = .ok (.isub, 1) := by decide +kernel
theorem dX9_turns_75 : decode cX9_turns 75 = .ok (.invokevirtual 60, 3) := by decide +kernel
theorem dX9_turns_78 : decode cX9_turns 78 = .ok (.aload_n 0, 1) := by decide +kernel
theorem dX9_turns_79 : decode cX9_turns 79 = .ok (.getfield 7, 3) := by decide +kernel
theorem dX9_turns_82 : decode cX9_turns 82 = .ok (.bipush 33, 2) := by decide +kernel
theorem dX9_turns_84 : decode cX9_turns 84 = .ok (.aload_n 0, 1) := by decide +kernel
theorem dX9_turns_85 : decode cX9_turns 85 = .ok (.getfield 7, 3) := by decide +kernel
theorem dX9_turns_88 : decode cX9_turns 88 = .ok (.iconst 0, 1) := by decide +kernel
theorem dX9_turns_89 : decode cX9_turns 89 = .ok (.iaload, 1) := by decide +kernel
theorem dX9_turns_90 : decode cX9_turns 90 = .ok (.iastore, 1) := by decide +kernel
theorem dX9_turns_91 : decode cX9_turns 91 = .ok (.aload_n 0, 1) := by decide +kernel
theorem dX9_turns_92 : decode cX9_turns 92 = .ok (.getfield 7, 3) := by decide +kernel
theorem dX9_turns_95 : decode cX9_turns 95 = .ok (.bipush 34, 2) := by decide +kernel
theorem dX9_turns_97 : decode cX9_turns 97 = .ok (.iload_n 1, 1) := by decide +kernel
theorem dX9_turns_98 : decode cX9_turns 98 = .ok (.iastore, 1) := by decide +kernel
theorem dX9_turns_99 : decode cX9_turns 99 = .ok (.aload_n 0, 1) := by decide +kernel
theorem dX9_turns_100 : decode cX9_turns 100 = .ok (.invokevirtual 63, 3) := by decide +kernel
theorem dX9_turns_103 : decode cX9_turns 103 = .ok (.ifCond .eq 66, 3) := by decide +kernel
theorem dX9_turns_106 : decode cX9_turns 106 = .ok (.aload_n 0, 1) := by decide +kernel
theorem dX9_turns_107 : decode cX9_turns 107 = .ok (.getfield 7, 3) := by decide +kernel
theorem dX9_turns_110 : decode cX9_turns 110 = .ok (.bipush 42, 2) := by decide +kernel
theorem dX9_turns_112 : decode cX9_turns 112 = .ok (.iload_n 1, 1) := by decide +kernel
theorem dX9_turns_113 : decode cX9_turns 113 = .ok (.aload_n 0, 1) := by decide +kernel
theorem dX9_turns_114 : decode cX9_turns 114 = .ok (.getfield 7, 3) := by decide +kernel
theorem dX9_turns_117 : decode cX9_turns 117 = .ok (.bipush 6, 2) := by decide +kernel
theorem dX9_turns_119 : decode cX9_turns 119 = .ok (.iaload, 1) := by decide +kernel
theorem dX9_turns_120 : decode cX9_turns 120 = .ok (.iconst 1, 1) := by decide +kernel
theorem dX9_turns_121 : decode cX9_turns 121 = .ok (.if_icmp .ne 7, 3) := by decide +kernel
theorem dX9_turns_124 : decode cX9_turns 124 = .ok (.iconst 1, 1) := by decide +kernel
theorem dX9_turns_125 : decode cX9_turns 125 = .ok (.goto 4, 3) := by decide +kernel
theorem dX9_turns_128 : decode cX9_turns 128 = .ok (.iconst (-1), 1) := by decide +kernel
theorem dX9_turns_129 : decode cX9_turns 129 = .ok (.if_icmp .ne 7, 3) := by decide +kernel
theorem dX9_turns_132 : decode cX9_turns 132 = .ok (.iconst 0, 1) := by decide +kernel
theorem dX9_turns_133 : decode cX9_turns 133 = .ok (.goto 12, 3) := by decide +kernel
theorem dX9_turns_136 : decode cX9_turns 136 = .ok (.aload_n 0, 1) := by decide +kernel
theorem dX9_turns_137 : decode cX9_turns 137 = .ok (.getfield 7, 3) := by decide +kernel
theorem dX9_turns_140 : decode cX9_turns 140 = .ok (.bipush 42, 2) := by decide +kernel
theorem dX9_turns_142 : decode cX9_turns 142 = .ok (.iaload, 1) := by decide +kernel
theorem dX9_turns_143 : decode cX9_turns 143 = .ok (.iconst 1, 1) := by decide +kernel
theorem dX9_turns_144 : decode cX9_turns 144 = .ok (.iadd, 1) := by decide +kernel
theorem dX9_turns_145 : decode cX9_turns 145 = .ok (.iastore, 1) := by decide +kernel
theorem dX9_turns_146 : decode cX9_turns 146 = .ok (.aload_n 0, 1) := by decide +kernel
theorem dX9_turns_147 : decode cX9_turns 147 = .ok (.getfield 7, 3) := by decide +kernel
theorem dX9_turns_150 : decode cX9_turns 150 = .ok (.bipush 42, 2) := by decide +kernel
theorem dX9_turns_152 : decode cX9_turns 152 = .ok (.iaload, 1) := by decide +kernel
theorem dX9_turns_153 : decode cX9_turns 153 = .ok (.iconst 3, 1) := by decide +kernel
theorem dX9_turns_154 : decode cX9_turns 154 = .ok (.if_icmp .ne 15, 3) := by decide +kernel
theorem dX9_turns_157 : decode cX9_turns 157 = .ok (.aload_n 0, 1) := by decide +kernel
theorem dX9_turns_158 : decode cX9_turns 158 = .ok (.iconst 2, 1) := by decide +kernel
theorem dX9_turns_159 : decode cX9_turns 159 = .ok (.aload_n 0, 1) := by decide +kernel
theorem dX9_turns_160 : decode cX9_turns 160 = .ok (.getfield 7, 3) := by decide +kernel
theorem dX9_turns_163 : decode cX9_turns 163 = .ok (.bipush 9, 2) := by decide +kernel
theorem dX9_turns_165 : decode cX9_turns 165 = .ok (.iaload, 1) := by decide +kernel
theorem dX9_turns_166 : decode cX9_turns 166 = .ok (.invokevirtual 67, 3) := by decide +kernel
theorem dX9_turns_169 : decode cX9_turns 169 = .ok (.return_, 1) := by decide +kernel
theorem dX9_addsInterval_0 : decode cX9_addsInterval 0 = .ok (.aload_n 0, 1) := by decide +kernel
theorem dX9_addsInterval_1 : decode cX9_addsInterval 1 = .ok (.getfield 7, 3) := by decide +kernel
theorem dX9_addsInterval_4 : decode cX9_addsInterval 4 = .ok (.bipush 35, 2) := by decide +kernel
theorem dX9_addsInterval_6 : decode cX9_addsInterval 6 = .ok (.iaload, 1) := by decide +kernel
theorem dX9_addsInterval_7 : decode cX9_addsInterval 7 = .ok (.bipush 6, 2) := by decide +kernel
theorem dX9_addsInterval_9 : decode cX9_addsInterval 9 = .ok (.if_icmp .ne 47, 3) := by decide +kernel
theorem dX9_addsInterval_12 : decode cX9_addsInterval 12 = .ok (.iconst 0, 1) := by decide +kernel
theorem dX9_addsInterval_13 : decode cX9_addsInterval 13 = .ok (.istore_n 2, 1) := by decide +kernel
theorem dX9_addsInterval_14 : decode cX9_addsInterval 14 = .ok (.iload_n 2, 1) := by decide +kernel
theorem dX9_addsInterval_15 : decode cX9_addsInterval 15 = .ok (.iconst 5, 1) := by decide +kernel
theorem dX9_addsInterval_16 : decode cX9_addsInterval 16 = .ok (.if_icmp .ge 29, 3) := by decide +kernel
theorem dX9_addsInterval_19 : decode cX9_addsInterval 19 = .ok (.aload_n 0, 1) := by decide +kernel
theorem dX9_addsInterval_20 : decode cX9_addsInterval 20 = .ok (.getfield 7, 3) := by decide +kernel
theorem dX9_addsInterval_23 : decode cX9_addsInterval 23 = .ok (.bipush 36, 2) := by decide +kernel
theorem dX9_addsInterval_25 : decode cX9_addsInterval 25 = .ok (.iload_n 2, 1) := by decide +kernel
theorem dX9_addsInterval_26 : decode cX9_addsInterval 26 = .ok (.iadd, 1) := by decide +kernel
theorem dX9_addsInterval_27 : decode cX9_addsInterval 27 = .ok (.aload_n 0, 1) := by decide +kernel
theorem dX9_addsInterval_28 : decode cX9_addsInterval 28 = .ok (.getfield 7, 3) := by decide +kernel
theorem dX9_addsInterval_31 : decode cX9_addsInterval 31 = .ok (.bipush 36, 2) := by decide +kernel
theorem dX9_addsInterval_33 : decode cX9_addsInterval 33 = .ok (.iload_n 2, 1) := by decide +kernel
theorem dX9_addsInterval_34 : decode cX9_addsInterval 34 = .ok (.iadd, 1) := by decide +kernel
theorem dX9_addsInterval_35 : decode cX9_addsInterval 35 = .ok (.iconst 1, 1) := by decide +kernel
theorem dX9_addsInterval_36 : decode cX9_addsInterval 36 = .ok (.iadd, 1) := by decide +kernel
theorem dX9_addsInterval_37 : decode cX9_addsInterval 37 = .ok (.iaload, 1) := by decide +kernel
theorem dX9_addsInterval_38 : decode cX9_addsInterval 38 = .ok (.iastore, 1) := by decide +kernel
theorem dX9_addsInterval_39 : decode cX9_addsInterval 39 = .ok (.iinc 2 1, 3) := by decide +kernel
theorem dX9_addsInterval_42 : decode cX9_addsInterval 42 = .ok (.goto (-28), 3) := by decide +kernel
theorem dX9_addsInterval_45 : decode cX9_addsInterval 45 = .ok (.aload_n 0, 1) := by decide +kernel
theorem dX9_addsInterval_46 : decode cX9_addsInterval 46 = .ok (.getfield 7, 3) := by decide +kernel
theorem dX9_addsInterval_49 : decode cX9_addsInterval 49 = .ok (.bipush 35, 2) := by decide +kernel
theorem dX9_addsInterval_51 : decode cX9_addsInterval 51 = .ok (.dup2, 1) := by decide +kernel
theorem dX9_addsInterval_52 : decode cX9_addsInterval 52 = .ok (.iaload, 1) := by decide +kernel
theorem dX9_addsInterval_53 : decode cX9_addsInterval 53 = .ok (.iconst 1, 1) := by decide +kernel
theorem dX9_addsInterval_54 : decode cX9_addsInterval 54 = .ok (.isub, 1) := by decide +kernel
theorem dX9_addsInterval_55 : decode cX9_addsInterval 55 = .ok (.iastore, 1) := by decide +kernel
theorem dX9_addsInterval_56 : decode cX9_addsInterval 56 = .ok (.aload_n 0, 1) := by decide +kernel
theorem dX9_addsInterval_57 : decode cX9_addsInterval 57 = .ok (.getfield 7, 3) := by decide +kernel
theorem dX9_addsInterval_60 : decode cX9_addsInterval 60 = .ok (.bipush 36, 2) := by decide +kernel
theorem dX9_addsInterval_62 : decode cX9_addsInterval 62 = .ok (.aload_n 0, 1) := by decide +kernel
theorem dX9_addsInterval_63 : decode cX9_addsInterval 63 = .ok (.getfield 7, 3) := by decide +kernel
theorem dX9_addsInterval_66 : decode cX9_addsInterval 66 = .ok (.bipush 35, 2) := by decide +kernel
theorem dX9_addsInterval_68 : decode cX9_addsInterval 68 = .ok (.iaload, 1) := by decide +kernel
theorem dX9_addsInterval_69 : decode cX9_addsInterval 69 = .ok (.iadd, 1) := by decide +kernel
theorem dX9_addsInterval_70 : decode cX9_addsInterval 70 = .ok (.iload_n 1, 1) := by decide +kernel
theorem dX9_addsInterval_71 : decode cX9_addsInterval 71 = .ok (.iastore, 1) := by decide +kernel
theorem dX9_addsInterval_72 : decode cX9_addsInterval 72 = .ok (.aload_n 0, 1) := by decide +kernel
theorem dX9_addsInterval_73 : decode cX9_addsInterval 73 = .ok (.getfield 7, 3) := by decide +kernel
theorem dX9_addsInterval_76 : decode cX9_addsInterval 76 = .ok (.bipush 35, 2) := by decide +kernel
theorem dX9_addsInterval_78 : decode cX9_addsInterval 78 = .ok (.dup2, 1) := by decide +kernel
theorem dX9_addsInterval_79 : decode cX9_addsInterval 79 = .ok (.iaload, 1) := by decide +kernel
theorem dX9_addsInterval_80 : decode cX9_addsInterval 80 = .ok (.iconst 1, 1) := by decide +kernel
theorem dX9_addsInterval_81 : decode cX9_addsInterval 81 = .ok (.iadd, 1) := by decide +kernel
theorem dX9_addsInterval_82 : decode cX9_addsInterval 82 = .ok (.iastore, 1) := by decide +kernel
theorem dX9_addsInterval_83 : decode cX9_addsInterval 83 = .ok (.return_, 1) := by decide +kernel
set_option maxRecDepth 20000 in
theorem ggX9_watches_X9_isDriven : GoodIn wsX9_watches wsX9_isDriven := goodIn_r _ [7, 1, 15, 16, 17, 18, 19, 20] (by decide +kernel) (by decide +kernel)
set_option maxRecDepth 20000 in
theorem gX9_watches_X9_isDriven : GoodIn wsX9_watches (wsV RX9 63 RX9 yX9_isDriven wsX9_isDriven) := goodIn_app (goodIn_of _ (by decide +kernel)) ggX9_watches_X9_isDriven
set_option maxRecDepth 20000 in
theorem ggX9_watches_X9_sectorOf : GoodIn wsX9_watches wsX9_sectorOf := goodIn_r _ [10] (by decide +kernel) (by decide +kernel)
set_option maxRecDepth 20000 in
theorem gX9_watches_X9_sectorOf : GoodIn wsX9_watches (va_wsS RX9 43 yX9_sectorOf wsX9_sectorOf) := goodIn_app (goodIn_of _ (by decide +kernel)) ggX9_watches_X9_sectorOf
set_option maxRecDepth 20000 in
theorem ggX9_watches_X9_faults : GoodIn wsX9_watches wsX9_faults := goodIn_r _ [14, 1, 15, 16, 17, 18, 19, 20] (by decide +kernel) (by decide +kernel)
set_option maxRecDepth 20000 in
theorem gX9_watches_X9_faults : GoodIn wsX9_watches (wsV RX9 67 RX9 yX9_faults wsX9_faults) := goodIn_app (goodIn_of _ (by decide +kernel)) ggX9_watches_X9_faults
theorem dX9_watches_0 : decode cX9_watches 0 = .ok (.aload_n 0, 1) := by decide +kernel
theorem dX9_watches_1 : decode cX9_watches 1 = .ok (.invokevirtual 63, 3) := by decide +kernel
theorem dX9_watches_4 : decode cX9_watches 4 = .ok (.ifCond .ne 22, 3) := by decide +kernel
theorem dX9_watches_7 : decode cX9_watches 7 = .ok (.aload_n 0, 1) := by decide +kernel
theorem dX9_watches_8 : decode cX9_watches 8 = .ok (.getfield 7, 3) := by decide +kernel
theorem dX9_watches_11 : decode cX9_watches 11 = .ok (.bipush 43, 2) := by decide +kernel
theorem dX9_watches_13 : decode cX9_watches 13 = .ok (.iconst 0, 1) := by decide +kernel
theorem dX9_watches_14 : decode cX9_watches 14 = .ok (.iastore, 1) := by decide +kernel
theorem dX9_watches_15 : decode cX9_watches 15 = .ok (.aload_n 0, 1) := by decide +kernel
theorem dX9_watches_16 : decode cX9_watches 16 = .ok (.getfield 7, 3) := by decide +kernel
theorem dX9_watches_19 : decode cX9_watches 19 = .ok (.bipush 44, 2) := by decide +kernel
theorem dX9_watches_21 : decode cX9_watches 21 = .ok (.iconst 0, 1) := by decide +kernel
theorem dX9_watches_22 : decode cX9_watches 22 = .ok (.iastore, 1) := by decide +kernel
theorem dX9_watches_23 : decode cX9_watches 23 = .ok (.goto 127, 3) := by decide +kernel
theorem dX9_watches_26 : decode cX9_watches 26 = .ok (.aload_n 0, 1) := by decide +kernel
theorem dX9_watches_27 : decode cX9_watches 27 = .ok (.getfield 7, 3) := by decide +kernel
theorem dX9_watches_30 : decode cX9_watches 30 = .ok (.bipush 8, 2) := by decide +kernel
theorem dX9_watches_32 : decode cX9_watches 32 = .ok (.iaload, 1) := by decide +kernel
theorem dX9_watches_33 : decode cX9_watches 33 = .ok (.invokestatic 43, 3) := by decide +kernel
theorem dX9_watches_36 : decode cX9_watches 36 = .ok (.iconst (-1), 1) := by decide +kernel
theorem dX9_watches_37 : decode cX9_watches 37 = .ok (.if_icmp .ne 41, 3) := by decide +kernel
theorem dX9_watches_40 : decode cX9_watches 40 = .ok (.aload_n 0, 1) := by decide +kernel
theorem dX9_watches_41 : decode cX9_watches 41 = .ok (.getfield 7, 3) := by decide +kernel
theorem dX9_watches_44 : decode cX9_watches 44 = .ok (.bipush 43, 2) := by decide +kernel
theorem dX9_watches_46 : decode cX9_watches 46 = .ok (.dup2, 1) := by decide +kernel
theorem dX9_watches_47 : decode cX9_watches 47 = .ok (.iaload, 1) := by decide +kernel
theorem dX9_watches_48 : decode cX9_watches 48 = .ok (.iconst 1, 1) := by decide +kernel
theorem dX9_watches_49 : decode cX9_watches 49 = .ok (.iadd, 1) := by decide +kernel
theorem dX9_watches_50 : decode cX9_watches 50 = .ok (.iastore, 1) := by decide +kernel
theorem dX9_watches_51 : decode cX9_watches 51 = .ok (.aload_n 0, 1) := by decide +kernel
theorem dX9_watches_52 : decode cX9_watches 52 = .ok (.getfield 7, 3) := by decide +kernel
theorem dX9_watches_55 : decode cX9_watches 55 = .ok (.bipush 43, 2) := by decide +kernel
theorem dX9_watches_57 : decode cX9_watches 57 = .ok (.iaload, 1) := by decide +kernel
theorem dX9_watches_58 : decode cX9_watches 58 = .ok (.bipush 20, 2) := by decide +kernel
theorem dX9_watches_60 : decode cX9_watches 60 = .ok (.if_icmp .ne 90, 3) := by decide +kernel
theorem dX9_watches_63 : decode cX9_watches 63 = .ok (.aload_n 0, 1) := by decide +kernel
theorem dX9_watches_64 : decode cX9_watches 64 = .ok (.iconst 1, 1) := by decide +kernel
theorem dX9_watches_65 : decode cX9_watches 65 = .ok (.aload_n 0, 1) := by decide +kernel
theorem dX9_watches_66 : decode cX9_watches 66 = .ok (.getfield 7, 3) := by decide +kernel
theorem dX9_watches_69 : decode cX9_watches 69 = .ok (.bipush 8, 2) := by decide +kernel
theorem dX9_watches_71 : decode cX9_watches 71 = .ok (.iaload, 1) := by decide +kernel
theorem dX9_watches_72 : decode cX9_watches 72 = .ok (.invokevirtual 67, 3) := by decide +kernel
theorem dX9_watches_75 : decode cX9_watches 75 = .ok (.goto 75, 3) := by decide +kernel
theorem dX9_watches_78 : decode cX9_watches 78 = .ok (.aload_n 0, 1) := by decide +kernel
theorem dX9_watches_79 : decode cX9_watches 79 = .ok (.getfield 7, 3) := by decide +kernel
theorem dX9_watches_82 : decode cX9_watches 82 = .ok (.bipush 43, 2) := by decide +kernel
theorem dX9_watches_84 : decode cX9_watches 84 = .ok (.iconst 0, 1) := by decide +kernel
theorem dX9_watches_85 : decode cX9_watches 85 = .ok (.iastore, 1) := by decide +kernel
theorem dX9_watches_86 : decode cX9_watches 86 = .ok (.aload_n 0, 1) := by decide +kernel
theorem dX9_watches_87 : decode cX9_watches 87 = .ok (.getfield 7, 3) := by decide +kernel
theorem dX9_watches_90 : decode cX9_watches 90 = .ok (.bipush 44, 2) := by decide +kernel
theorem dX9_watches_92 : decode cX9_watches 92 = .ok (.aload_n 0, 1) := by decide +kernel
theorem dX9_watches_93 : decode cX9_watches 93 = .ok (.getfield 7, 3) := by decide +kernel
theorem dX9_watches_96 : decode cX9_watches 96 = .ok (.iconst 3, 1) := by decide +kernel
theorem dX9_watches_97 : decode cX9_watches 97 = .ok (.iaload, 1) := by decide +kernel
theorem dX9_watches_98 : decode cX9_watches 98 = .ok (.ifCond .eq 10, 3) := by decide +kernel
theorem dX9_watches_101 : decode cX9_watches 101 = .ok (.aload_n 0, 1) := by decide +kernel
theorem dX9_watches_102 : decode cX9_watches 102 = .ok (.getfield 56, 3) := by decide +kernel
theorem dX9_watches_105 : decode cX9_watches 105 = .ok (.ifCond .eq 7, 3) := by decide +kernel
theorem dX9_watches_108 : decode cX9_watches 108 = .ok (.iconst 0, 1) := by decide +kernel
theorem dX9_watches_109 : decode cX9_watches 109 = .ok (.goto 12, 3) := by decide +kernel
theorem dX9_watches_112 : decode cX9_watches 112 = .ok (.aload_n 0, 1) := by decide +kernel
theorem dX9_watches_113 : decode cX9_watches 113 = .ok (.getfield 7, 3) := by decide +kernel
theorem dX9_watches_116 : decode cX9_watches 116 = .ok (.bipush 44, 2) := by decide +kernel
theorem dX9_watches_118 : decode cX9_watches 118 = .ok (.iaload, 1) := by decide +kernel
theorem dX9_watches_119 : decode cX9_watches 119 = .ok (.iconst 1, 1) := by decide +kernel
theorem dX9_watches_120 : decode cX9_watches 120 = .ok (.iadd, 1) := by decide +kernel
theorem dX9_watches_121 : decode cX9_watches 121 = .ok (.iastore, 1) := by decide +kernel
theorem dX9_watches_122 : decode cX9_watches 122 = .ok (.aload_n 0, 1) := by decide +kernel
theorem dX9_watches_123 : decode cX9_watches 123 = .ok (.getfield 7, 3) := by decide +kernel
theorem dX9_watches_126 : decode cX9_watches 126 = .ok (.bipush 44, 2) := by decide +kernel
theorem dX9_watches_128 : decode cX9_watches 128 = .ok (.iaload, 1) := by decide +kernel
theorem dX9_watches_129 : decode cX9_watches 129 = .ok (.aload_n 0, 1) := by decide +kernel
theorem dX9_watches_130 : decode cX9_watches 130 = .ok (.getfield 7, 3) := by decide +kernel
theorem dX9_watches_133 : decode cX9_watches 133 = .ok (.iconst 5, 1) := by decide +kernel
theorem dX9_watches_134 : decode cX9_watches 134 = .ok (.iaload, 1) := by decide +kernel
theorem dX9_watches_135 : decode cX9_watches 135 = .ok (.if_icmp .lt 15, 3) := by decide +kernel
theorem dX9_watches_138 : decode cX9_watches 138 = .ok (.aload_n 0, 1) := by decide +kernel
theorem dX9_watches_139 : decode cX9_watches 139 = .ok (.iconst 3, 1) := by decide +kernel
theorem dX9_watches_140 : decode cX9_watches 140 = .ok (.aload_n 0, 1) := by decide +kernel
theorem dX9_watches_141 : decode cX9_watches 141 = .ok (.getfield 7, 3) := by decide +kernel
theorem dX9_watches_144 : decode cX9_watches 144 = .ok (.bipush 28, 2) := by decide +kernel
theorem dX9_watches_146 : decode cX9_watches 146 = .ok (.iaload, 1) := by decide +kernel
theorem dX9_watches_147 : decode cX9_watches 147 = .ok (.invokevirtual 67, 3) := by decide +kernel
theorem dX9_watches_150 : decode cX9_watches 150 = .ok (.return_, 1) := by decide +kernel
theorem dX9_legOf_0 : decode cX9_legOf 0 = .ok (.iload_n 0, 1) := by decide +kernel
theorem dX9_legOf_1 : decode cX9_legOf 1 = .ok (.ifCond .ne 7, 3) := by decide +kernel
theorem dX9_legOf_4 : decode cX9_legOf 4 = .ok (.iconst 1, 1) := by decide +kernel
theorem dX9_legOf_5 : decode cX9_legOf 5 = .ok (.goto 44, 3) := by decide +kernel
theorem dX9_legOf_8 : decode cX9_legOf 8 = .ok (.iload_n 0, 1) := by decide +kernel
theorem dX9_legOf_9 : decode cX9_legOf 9 = .ok (.iconst 1, 1) := by decide +kernel
theorem dX9_legOf_10 : decode cX9_legOf 10 = .ok (.if_icmp .ne 7, 3) := by decide +kernel
theorem dX9_legOf_13 : decode cX9_legOf 13 = .ok (.iconst 2, 1) := by decide +kernel
theorem dX9_legOf_14 : decode cX9_legOf 14 = .ok (.goto 35, 3) := by decide +kernel
theorem dX9_legOf_17 : decode cX9_legOf 17 = .ok (.iload_n 0, 1) := by decide +kernel
theorem dX9_legOf_18 : decode cX9_legOf 18 = .ok (.iconst 2, 1) := by decide +kernel
theorem dX9_legOf_19 : decode cX9_legOf 19 = .ok (.if_icmp .ne 8, 3) := by decide +kernel
theorem dX9_legOf_22 : decode cX9_legOf 22 = .ok (.bipush 12, 2) := by decide +kernel
theorem dX9_legOf_24 : decode cX9_legOf 24 = .ok (.goto 25, 3) := by decide +kernel
theorem dX9_legOf_27 : decode cX9_legOf 27 = .ok (.iload_n 0, 1) := by decide +kernel
theorem dX9_legOf_28 : decode cX9_legOf 28 = .ok (.iconst 3, 1) := by decide +kernel
theorem dX9_legOf_29 : decode cX9_legOf 29 = .ok (.if_icmp .ne 8, 3) := by decide +kernel
theorem dX9_legOf_32 : decode cX9_legOf 32 = .ok (.bipush 10, 2) := by decide +kernel
theorem dX9_legOf_34 : decode cX9_legOf 34 = .ok (.goto 15, 3) := by decide +kernel
theorem dX9_legOf_37 : decode cX9_legOf 37 = .ok (.iload_n 0, 1) := by decide +kernel
theorem dX9_legOf_38 : decode cX9_legOf 38 = .ok (.iconst 4, 1) := by decide +kernel
theorem dX9_legOf_39 : decode cX9_legOf 39 = .ok (.if_icmp .ne 8, 3) := by decide +kernel
theorem dX9_legOf_42 : decode cX9_legOf 42 = .ok (.bipush 20, 2) := by decide +kernel
theorem dX9_legOf_44 : decode cX9_legOf 44 = .ok (.goto 5, 3) := by decide +kernel
theorem dX9_legOf_47 : decode cX9_legOf 47 = .ok (.bipush 21, 2) := by decide +kernel
theorem dX9_legOf_49 : decode cX9_legOf 49 = .ok (.istore_n 2, 1) := by decide +kernel
theorem dX9_legOf_50 : decode cX9_legOf 50 = .ok (.iload_n 1, 1) := by decide +kernel
theorem dX9_legOf_51 : decode cX9_legOf 51 = .ok (.ifCond .eq 10, 3) := by decide +kernel
theorem dX9_legOf_54 : decode cX9_legOf 54 = .ok (.iload_n 2, 1) := by decide +kernel
theorem dX9_legOf_55 : decode cX9_legOf 55 = .ok (.bipush 10, 2) := by decide +kernel
theorem dX9_legOf_57 : decode cX9_legOf 57 = .ok (.idiv, 1) := by decide +kernel
theorem dX9_legOf_58 : decode cX9_legOf 58 = .ok (.goto 7, 3) := by decide +kernel
theorem dX9_legOf_61 : decode cX9_legOf 61 = .ok (.iload_n 2, 1) := by decide +kernel
theorem dX9_legOf_62 : decode cX9_legOf 62 = .ok (.bipush 10, 2) := by decide +kernel
theorem dX9_legOf_64 : decode cX9_legOf 64 = .ok (.irem, 1) := by decide +kernel
theorem dX9_legOf_65 : decode cX9_legOf 65 = .ok (.ireturn, 1) := by decide +kernel
set_option maxRecDepth 20000 in
theorem ggX9_should_X9_legOf : GoodIn wsX9_should wsX9_legOf := goodIn_r _ [5] (by decide +kernel) (by decide +kernel)
set_option maxRecDepth 20000 in
theorem gX9_should_X9_legOf : GoodIn wsX9_should (va_wsS RX9 70 yX9_legOf wsX9_legOf) := goodIn_app (goodIn_of _ (by decide +kernel)) ggX9_should_X9_legOf
theorem dX9_should_0 : decode cX9_should 0 = .ok (.aload_n 0, 1) := by decide +kernel
theorem dX9_should_1 : decode cX9_should 1 = .ok (.getfield 7, 3) := by decide +kernel
theorem dX9_should_4 : decode cX9_should 4 = .ok (.bipush 6, 2) := by decide +kernel
theorem dX9_should_6 : decode cX9_should 6 = .ok (.iaload, 1) := by decide +kernel
theorem dX9_should_7 : decode cX9_should 7 = .ok (.iconst 3, 1) := by decide +kernel
theorem dX9_should_8 : decode cX9_should 8 = .ok (.if_icmp .ne 5, 3) := by decide +kernel
theorem dX9_should_11 : decode cX9_should 11 = .ok (.iconst (-1), 1) := by decide +kernel
theorem dX9_should_12 : decode cX9_should 12 = .ok (.ireturn, 1) := by decide +kernel
theorem dX9_should_13 : decode cX9_should 13 = .ok (.aload_n 0, 1) := by decide +kernel
theorem dX9_should_14 : decode cX9_should 14 = .ok (.getfield 7, 3) := by decide +kernel
theorem dX9_should_17 : decode cX9_should 17 = .ok (.bipush 6, 2) := by decide +kernel
theorem dX9_should_19 : decode cX9_should 19 = .ok (.iaload, 1) := by decide +kernel
theorem dX9_should_20 : decode cX9_should 20 = .ok (.ifCond .eq 14, 3) := by decide +kernel
theorem dX9_should_23 : decode cX9_should 23 = .ok (.aload_n 0, 1) := by decide +kernel
theorem dX9_should_24 : decode cX9_should 24 = .ok (.getfield 7, 3) := by decide +kernel
theorem dX9_should_27 : decode cX9_should 27 = .ok (.bipush 9, 2) := by decide +kernel
theorem dX9_should_29 : decode cX9_should 29 = .ok (.iaload, 1) := by decide +kernel
theorem dX9_should_30 : decode cX9_should 30 = .ok (.iconst (-1), 1) := by decide +kernel
theorem dX9_should_31 : decode cX9_should 31 = .ok (.if_icmp .ne 5, 3) := by decide +kernel
theorem dX9_should_34 : decode cX9_should 34 = .ok (.iconst 0, 1) := by decide +kernel
theorem dX9_should_35 : decode cX9_should 35 = .ok (.ireturn, 1) := by decide +kernel
theorem dX9_should_36 : decode cX9_should 36 = .ok (.aload_n 0, 1) := by decide +kernel
theorem dX9_should_37 : decode cX9_should 37 = .ok (.getfield 7, 3) := by decide +kernel
theorem dX9_should_40 : decode cX9_should 40 = .ok (.bipush 12, 2) := by decide +kernel
theorem dX9_should_42 : decode cX9_should 42 = .ok (.iaload, 1) := by decide +kernel
theorem dX9_should_43 : decode cX9_should 43 = .ok (.aload_n 0, 1) := by decide +kernel
theorem dX9_should_44 : decode cX9_should 44 = .ok (.getfield 7, 3) := by decide +kernel
theorem dX9_should_47 : decode cX9_should 47 = .ok (.iconst 2, 1) := by decide +kernel
theorem dX9_should_48 : decode cX9_should 48 = .ok (.iaload, 1) := by decide +kernel
theorem dX9_should_49 : decode cX9_should 49 = .ok (.aload_n 0, 1) := by decide +kernel
theorem dX9_should_50 : decode cX9_should 50 = .ok (.getfield 7, 3) := by decide +kernel
theorem dX9_should_53 : decode cX9_should 53 = .ok (.iconst 3, 1) := by decide +kernel
theorem dX9_should_54 : decode cX9_should 54 = .ok (.iaload, 1) := by decide +kernel
theorem dX9_should_55 : decode cX9_should 55 = .ok (.imul, 1) := by decide +kernel
theorem dX9_should_56 : decode cX9_should 56 = .ok (.bipush 100, 2) := by decide +kernel
theorem dX9_should_58 : decode cX9_should 58 = .ok (.idiv, 1) := by decide +kernel
theorem dX9_should_59 : decode cX9_should 59 = .ok (.if_icmp .ge 7, 3) := by decide +kernel
theorem dX9_should_62 : decode cX9_should 62 = .ok (.iconst 1, 1) := by decide +kernel
theorem dX9_should_63 : decode cX9_should 63 = .ok (.goto 4, 3) := by decide +kernel
theorem dX9_should_66 : decode cX9_should 66 = .ok (.iconst 0, 1) := by decide +kernel
theorem dX9_should_67 : decode cX9_should 67 = .ok (.istore_n 2, 1) := by decide +kernel
theorem dX9_should_68 : decode cX9_should 68 = .ok (.iload_n 1, 1) := by decide +kernel
theorem dX9_should_69 : decode cX9_should 69 = .ok (.aload_n 0, 1) := by decide +kernel
theorem dX9_should_70 : decode cX9_should 70 = .ok (.getfield 7, 3) := by decide +kernel
theorem dX9_should_73 : decode cX9_should 73 = .ok (.bipush 9, 2) := by decide +kernel
theorem dX9_should_75 : decode cX9_should 75 = .ok (.iaload, 1) := by decide +kernel
theorem dX9_should_76 : decode cX9_should 76 = .ok (.aload_n 0, 1) := by decide +kernel
theorem dX9_should_77 : decode cX9_should 77 = .ok (.getfield 7, 3) := by decide +kernel
theorem dX9_should_80 : decode cX9_should 80 = .ok (.bipush 6, 2) := by decide +kernel
theorem dX9_should_82 : decode cX9_should 82 = .ok (.iaload, 1) := by decide +kernel
theorem dX9_should_83 : decode cX9_should 83 = .ok (.iconst 2, 1) := by decide +kernel
theorem dX9_should_84 : decode cX9_should 84 = .ok (.if_icmp .eq 7, 3) := by decide +kernel
theorem dX9_should_87 : decode cX9_should 87 = .ok (.iconst 1, 1) := by decide +kernel
theorem dX9_should_88 : decode cX9_should 88 = .ok (.goto 4, 3) := by decide +kernel
theorem dX9_should_91 : decode cX9_should 91 = .ok (.iconst 0, 1) := by decide +kernel
theorem dX9_should_92 : decode cX9_should 92 = .ok (.invokestatic 70, 3) := by decide +kernel
theorem dX9_should_95 : decode cX9_should 95 = .ok (.if_icmp .ne 7, 3) := by decide +kernel
theorem dX9_should_98 : decode cX9_should 98 = .ok (.iconst 1, 1) := by decide +kernel
theorem dX9_should_99 : decode cX9_should 99 = .ok (.goto 4, 3) := by decide +kernel
theorem dX9_should_102 : decode cX9_should 102 = .ok (.iconst 0, 1) := by decide +kernel
theorem dX9_should_103 : decode cX9_should 103 = .ok (.istore_n 3, 1) := by decide +kernel
theorem dX9_should_104 : decode cX9_should 104 = .ok (.iload_n 1, 1) := by decide +kernel
theorem dX9_should_105 : decode cX9_should 105 = .ok (.aload_n 0, 1) := by decide +kernel
theorem dX9_should_106 : decode cX9_should 106 = .ok (.getfield 7, 3) := by decide +kernel
theorem dX9_should_109 : decode cX9_should 109 = .ok (.bipush 9, 2) := by decide +kernel
theorem dX9_should_111 : decode cX9_should 111 = .ok (.iaload, 1) := by decide +kernel
theorem dX9_should_112 : decode cX9_should 112 = .ok (.aload_n 0, 1) := by decide +kernel
theorem dX9_should_113 : decode cX9_should 113 = .ok (.getfield 7, 3) := by decide +kernel
theorem dX9_should_116 : decode cX9_should 116 = .ok (.bipush 6, 2) := by decide +kernel
theorem dX9_should_118 : decode cX9_should 118 = .ok (.iaload, 1) := by decide +kernel
theorem dX9_should_119 : decode cX9_should 119 = .ok (.iconst 2, 1) := by decide +kernel
theorem dX9_should_120 : decode cX9_should 120 = .ok (.if_icmp .ne 7, 3) := by decide +kernel
theorem dX9_should_123 : decode cX9_should 123 = .ok (.iconst 1, 1) := by decide +kernel
theorem dX9_should_124 : decode cX9_should 124 = .ok (.goto 4, 3) := by decide +kernel
theorem dX9_should_127 : decode cX9_should 127 = .ok (.iconst 0, 1) := by decide +kernel
theorem dX9_should_128 : decode cX9_should 128 = .ok (.invokestatic 70, 3) := by decide +kernel
theorem dX9_should_131 : decode cX9_should 131 = .ok (.if_icmp .ne 7, 3) := by decide +kernel
theorem dX9_should_134 : decode cX9_should 134 = .ok (.iconst 1, 1) := by decide +kernel
theorem dX9_should_135 : decode cX9_should 135 = .ok (.goto 4, 3) := by decide +kernel
theorem dX9_should_138 : decode cX9_should 138 = .ok (.iconst 0, 1) := by decide +kernel
theorem dX9_should_139 : decode cX9_should 139 = .ok (.istore 4, 2) := by decide +kernel
theorem dX9_should_141 : decode cX9_should 141 = .ok (.aload_n 0, 1) := by decide +kernel
theorem dX9_should_142 : decode cX9_should 142 = .ok (.getfield 7, 3) := by decide +kernel
theorem dX9_should_145 : decode cX9_should 145 = .ok (.bipush 6, 2) := by decide +kernel
theorem dX9_should_147 : decode cX9_should 147 = .ok (.iaload, 1) := by decide +kernel
theorem dX9_should_148 : decode cX9_should 148 = .ok (.iconst 4, 1) := by decide +kernel
theorem dX9_should_149 : decode cX9_should 149 = .ok (.if_icmp .ne 22, 3) := by decide +kernel
theorem dX9_should_152 : decode cX9_should 152 = .ok (.iload_n 3, 1) := by decide +kernel
theorem dX9_should_153 : decode cX9_should 153 = .ok (.ifCond .ne 8, 3) := by decide +kernel
theorem dX9_should_156 : decode cX9_should 156 = .ok (.iload 4, 2) := by decide +kernel
theorem dX9_should_158 : decode cX9_should 158 = .ok (.ifCond .eq 11, 3) := by decide +kernel
theorem dX9_should_161 : decode cX9_should 161 = .ok (.iload_n 2, 1) := by decide +kernel
theorem dX9_should_162 : decode cX9_should 162 = .ok (.ifCond .eq 7, 3) := by decide +kernel
theorem dX9_should_165 : decode cX9_should 165 = .ok (.iconst (-1), 1) := by decide +kernel
theorem dX9_should_166 : decode cX9_should 166 = .ok (.goto 4, 3) := by decide +kernel
theorem dX9_should_169 : decode cX9_should 169 = .ok (.iconst 0, 1) := by decide +kernel
theorem dX9_should_170 : decode cX9_should 170 = .ok (.ireturn, 1) := by decide +kernel
theorem dX9_should_171 : decode cX9_should 171 = .ok (.iload_n 3, 1) := by decide +kernel
theorem dX9_should_172 : decode cX9_should 172 = .ok (.ifCond .eq 15, 3) := by decide +kernel
theorem dX9_should_175 : decode cX9_should 175 = .ok (.iload_n 2, 1) := by decide +kernel
theorem dX9_should_176 : decode cX9_should 176 = .ok (.ifCond .eq 7, 3) := by decide +kernel
theorem dX9_should_179 : decode cX9_should 179 = .ok (.iconst 1, 1) := by decide +kernel
theorem dX9_should_180 : decode cX9_should 180 = .ok (.goto 17, 3) := by decide +kernel
theorem dX9_should_183 : decode cX9_should 183 = .ok (.iconst 0, 1) := by decide +kernel
theorem dX9_should_184 : decode cX9_should 184 = .ok (.goto 13, 3) := by decide +kernel
theorem dX9_should_187 : decode cX9_should 187 = .ok (.iload 4, 2) := by decide +kernel
theorem dX9_should_189 : decode cX9_should 189 = .ok (.ifCond .eq 7, 3) := by decide +kernel
theorem dX9_should_192 : decode cX9_should 192 = .ok (.iconst (-1), 1) := by decide +kernel
theorem dX9_should_193 : decode cX9_should 193 = .ok (.goto 4, 3) := by decide +kernel
theorem dX9_should_196 : decode cX9_should 196 = .ok (.iconst 0, 1) := by decide +kernel
theorem dX9_should_197 : decode cX9_should 197 = .ok (.ireturn, 1) := by decide +kernel
set_option maxRecDepth 20000 in
theorem ggX9_switches_X9_should : GoodIn wsX9_switches wsX9_should := goodIn_r _ [6, 1, 7, 8, 5, 9, 10, 11, 12, 13, 14, 15] (by decide +kernel) (by decide +kernel)
set_option maxRecDepth 20000 in
theorem gX9_switches_X9_should : GoodIn wsX9_switches (wsV RX9 74 RX9 yX9_should wsX9_should) := goodIn_app (goodIn_of _ (by decide +kernel)) ggX9_switches_X9_should
theorem dX9_switches_0 : decode cX9_switches 0 = .ok (.iconst 0, 1) := by decide +kernel
theorem dX9_switches_1 : decode cX9_switches 1 = .ok (.istore_n 1, 1) := by decide +kernel
theorem dX9_switches_2 : decode cX9_switches 2 = .ok (.iload_n 1, 1) := by decide +kernel
theorem dX9_switches_3 : decode cX9_switches 3 = .ok (.iconst 3, 1) := by decide +kernel
theorem dX9_switches_4 : decode cX9_switches 4 = .ok (.if_icmp .ge 157, 3) := by decide +kernel
theorem dX9_switches_7 : decode cX9_switches 7 = .ok (.aload_n 0, 1) := by decide +kernel
theorem dX9_switches_8 : decode cX9_switches 8 = .ok (.iload_n 1, 1) := by decide +kernel
theorem dX9_switches_9 : decode cX9_switches 9 = .ok (.invokevirtual 74, 3) := by decide +kernel
theorem dX9_switches_12 : decode cX9_switches 12 = .ok (.istore_n 2, 1) := by decide +kernel
theorem dX9_switches_13 : decode cX9_switches 13 = .ok (.iload_n 2, 1) := by decide +kernel
theorem dX9_switches_14 : decode cX9_switches 14 = .ok (.iconst 1, 1) := by decide +kernel
theorem dX9_switches_15 : decode cX9_switches 15 = .ok (.if_icmp .ne 28, 3) := by decide +kernel
theorem dX9_switches_18 : decode cX9_switches 18 = .ok (.aload_n 0, 1) := by decide +kernel
theorem dX9_switches_19 : decode cX9_switches 19 = .ok (.getfield 7, 3) := by decide +kernel
theorem dX9_switches_22 : decode cX9_switches 22 = .ok (.iconst 0, 1) := by decide +kernel
theorem dX9_switches_23 : decode cX9_switches 23 = .ok (.iaload, 1) := by decide +kernel
theorem dX9_switches_24 : decode cX9_switches 24 = .ok (.aload_n 0, 1) := by decide +kernel
theorem dX9_switches_25 : decode cX9_switches 25 = .ok (.getfield 7, 3) := by decide +kernel
theorem dX9_switches_28 : decode cX9_switches 28 = .ok (.bipush 19, 2) := by decide +kernel
theorem dX9_switches_30 : decode cX9_switches 30 = .ok (.iload_n 1, 1) := by decide +kernel
theorem dX9_switches_31 : decode cX9_switches 31 = .ok (.iadd, 1) := by decide +kernel
theorem dX9_switches_32 : decode cX9_switches 32 = .ok (.iaload, 1) := by decide +kernel
theorem dX9_switches_33 : decode cX9_switches 33 = .ok (.isub, 1) := by decide +kernel
theorem dX9_switches_34 : decode cX9_switches 34 = .ok (.aload_n 0, 1) := by decide +kernel
theorem dX9_switches_35 : decode cX9_switches 35 = .ok (.getfield 7, 3) := by decide +kernel
theorem dX9_switches_38 : decode cX9_switches 38 = .ok (.iconst 4, 1) := by decide +kernel
theorem dX9_switches_39 : decode cX9_switches 39 = .ok (.iaload, 1) := by decide +kernel
theorem dX9_switches_40 : decode cX9_switches 40 = .ok (.if_icmp .le 33, 3) := by decide +kernel
theorem dX9_switches_43 : decode cX9_switches 43 = .ok (.iload_n 2, 1) := by decide +kernel
theorem dX9_switches_44 : decode cX9_switches 44 = .ok (.iconst (-1), 1) := by decide +kernel
theorem dX9_switches_45 : decode cX9_switches 45 = .ok (.if_icmp .ne 32, 3) := by decide +kernel
theorem dX9_switches_48 : decode cX9_switches 48 = .ok (.aload_n 0, 1) := by decide +kernel
theorem dX9_switches_49 : decode cX9_switches 49 = .ok (.getfield 7, 3) := by decide +kernel
theorem dX9_switches_52 : decode cX9_switches 52 = .ok (.iconst 0, 1) := by decide +kernel
theorem dX9_switches_53 : decode cX9_switches 53 = .ok (.iaload, 1) := by decide +kernel
theorem dX9_switches_54 : decode cX9_switches 54 = .ok (.aload_n 0, 1) := by decide +kernel
theorem dX9_switches_55 : decode cX9_switches 55 = .ok (.getfield 7, 3) := by decide +kernel
theorem dX9_switches_58 : decode cX9_switches 58 = .ok (.bipush 16, 2) := by decide +kernel
theorem dX9_switches_60 : decode cX9_switches 60 = .ok (.iload_n 1, 1) := by decide +kernel
theorem dX9_switches_61 : decode cX9_switches 61 = .ok (.iadd, 1) := by decide +kernel
theorem dX9_switches_62 : decode cX9_switches 62 = .ok (.iaload, 1) := by decide +kernel
theorem dX9_switches_63 : decode cX9_switches 63 = .ok (.isub, 1) := by decide +kernel
theorem dX9_switches_64 : decode cX9_switches 64 = .ok (.aload_n 0, 1) := by decide +kernel
theorem dX9_switches_65 : decode cX9_switches 65 = .ok (.getfield 7, 3) := by decide +kernel
theorem dX9_switches_68 : decode cX9_switches 68 = .ok (.iconst 4, 1) := by decide +kernel
theorem dX9_switches_69 : decode cX9_switches 69 = .ok (.iaload, 1) := by decide +kernel
theorem dX9_switches_70 : decode cX9_switches 70 = .ok (.if_icmp .gt 7, 3) := by decide +kernel
theorem dX9_switches_73 : decode cX9_switches 73 = .ok (.iconst 0, 1) := by decide +kernel
theorem dX9_switches_74 : decode cX9_switches 74 = .ok (.goto 4, 3) := by decide +kernel
theorem dX9_switches_77 : decode cX9_switches 77 = .ok (.iload_n 2, 1) := by decide +kernel
theorem dX9_switches_78 : decode cX9_switches 78 = .ok (.istore_n 2, 1) := by decide +kernel
theorem dX9_switches_79 : decode cX9_switches 79 = .ok (.aload_n 0, 1) := by decide +kernel
theorem dX9_switches_80 : decode cX9_switches 80 = .ok (.getfield 7, 3) := by decide +kernel
theorem dX9_switches_83 : decode cX9_switches 83 = .ok (.bipush 13, 2) := by decide +kernel
theorem dX9_switches_85 : decode cX9_switches 85 = .ok (.iload_n 1, 1) := by decide +kernel
theorem dX9_switches_86 : decode cX9_switches 86 = .ok (.iadd, 1) := by decide +kernel
theorem dX9_switches_87 : decode cX9_switches 87 = .ok (.iload_n 2, 1) := by decide +kernel
theorem dX9_switches_88 : decode cX9_switches 88 = .ok (.iastore, 1) := by decide +kernel
theorem dX9_switches_89 : decode cX9_switches 89 = .ok (.iload_n 2, 1) := by decide +kernel
theorem dX9_switches_90 : decode cX9_switches 90 = .ok (.iconst 1, 1) := by decide +kernel
theorem dX9_switches_91 : decode cX9_switches 91 = .ok (.if_icmp .ne 31, 3) := by decide +kernel
theorem dX9_switches_94 : decode cX9_switches 94 = .ok (.aload_n 0, 1) := by decide +kernel
theorem dX9_switches_95 : decode cX9_switches 95 = .ok (.getfield 7, 3) := by decide +kernel
theorem dX9_switches_98 : decode cX9_switches 98 = .ok (.bipush 16, 2) := by decide +kernel
theorem dX9_switches_100 : decode cX9_switches 100 = .ok (.iload_n 1, 1) := by decide +kernel
theorem dX9_switches_101 : decode cX9_switches 101 = .ok (.iadd, 1) := by decide +kernel
theorem dX9_switches_102 : decode cX9_switches 102 = .ok (.aload_n 0, 1) := by decide +kernel
theorem dX9_switches_103 : decode cX9_switches 103 = .ok (.getfield 7, 3) := by decide +kernel
theorem dX9_switches_106 : decode cX9_switches 106 = .ok (.iconst 0, 1) := by decide +kernel
theorem dX9_switches_107 : decode cX9_switches 107 = .ok (.iaload, 1) := by decide +kernel
theorem dX9_switches_108 : decode cX9_switches 108 = .ok (.iastore, 1) := by decide +kernel
theorem dX9_switches_109 : decode cX9_switches 109 = .ok (.aload_n 0, 1) := by decide +kernel
theorem dX9_switches_110 : decode cX9_switches 110 = .ok (.getfield 7, 3) := by decide +kernel
theorem dX9_switches_113 : decode cX9_switches 113 = .ok (.bipush 22, 2) := by decide +kernel
theorem dX9_switches_115 : decode cX9_switches 115 = .ok (.iload_n 1, 1) := by decide +kernel
theorem dX9_switches_116 : decode cX9_switches 116 = .ok (.iadd, 1) := by decide +kernel
theorem dX9_switches_117 : decode cX9_switches 117 = .ok (.dup2, 1) := by decide +kernel
theorem dX9_switches_118 : decode cX9_switches 118 = .ok (.iaload, 1) := by decide +kernel
theorem dX9_switches_119 : decode cX9_switches 119 = .ok (.iconst 1, 1) := by decide +kernel
theorem dX9_switches_120 : decode cX9_switches 120 = .ok (.iadd, 1) := by decide +kernel
theorem dX9_switches_121 : decode cX9_switches 121 = .ok (.iastore, 1) := by decide +kernel
theorem dX9_switches_122 : decode cX9_switches 122 = .ok (.iload_n 2, 1) := by decide +kernel
theorem dX9_switches_123 : decode cX9_switches 123 = .ok (.iconst (-1), 1) := by decide +kernel
theorem dX9_switches_124 : decode cX9_switches 124 = .ok (.if_icmp .ne 31, 3) := by decide +kernel
theorem dX9_switches_127 : decode cX9_switches 127 = .ok (.aload_n 0, 1) := by decide +kernel
theorem dX9_switches_128 : decode cX9_switches 128 = .ok (.getfield 7, 3) := by decide +kernel
theorem dX9_switches_131 : decode cX9_switches 131 = .ok (.bipush 19, 2) := by decide +kernel
theorem dX9_switches_133 : decode cX9_switches 133 = .ok (.iload_n 1, 1) := by decide +kernel
theorem dX9_switches_134 : decode cX9_switches 134 = .ok (.iadd, 1) := by decide +kernel
theorem dX9_switches_135 : decode cX9_switches 135 = .ok (.aload_n 0, 1) := by decide +kernel
theorem dX9_switches_136 : decode cX9_switches 136 = .ok (.getfield 7, 3) := by decide +kernel
theorem dX9_switches_139 : decode cX9_switches 139 = .ok (.iconst 0, 1) := by decide +kernel
theorem dX9_switches_140 : decode cX9_switches 140 = .ok (.iaload, 1) := by decide +kernel
theorem dX9_switches_141 : decode cX9_switches 141 = .ok (.iastore, 1) := by decide +kernel
theorem dX9_switches_142 : decode cX9_switches 142 = .ok (.aload_n 0, 1) := by decide +kernel
theorem dX9_switches_143 : decode cX9_switches 143 = .ok (.getfield 7, 3) := by decide +kernel
theorem dX9_switches_146 : decode cX9_switches 146 = .ok (.bipush 25, 2) := by decide +kernel
theorem dX9_switches_148 : decode cX9_switches 148 = .ok (.iload_n 1, 1) := by decide +kernel
theorem dX9_switches_149 : decode cX9_switches 149 = .ok (.iadd, 1) := by decide +kernel
theorem dX9_switches_150 : decode cX9_switches 150 = .ok (.dup2, 1) := by decide +kernel
theorem dX9_switches_151 : decode cX9_switches 151 = .ok (.iaload, 1) := by decide +kernel
theorem dX9_switches_152 : decode cX9_switches 152 = .ok (.iconst 1, 1) := by decide +kernel
theorem dX9_switches_153 : decode cX9_switches 153 = .ok (.iadd, 1) := by decide +kernel
theorem dX9_switches_154 : decode cX9_switches 154 = .ok (.iastore, 1) := by decide +kernel
theorem dX9_switches_155 : decode cX9_switches 155 = .ok (.iinc 1 1, 3) := by decide +kernel
theorem dX9_switches_158 : decode cX9_switches 158 = .ok (.goto (-156), 3) := by decide +kernel
theorem dX9_switches_161 : decode cX9_switches 161 = .ok (.return_, 1) := by decide +kernel
set_option maxRecDepth 20000 in
theorem ggX9_tick_X9_due : GoodIn wsX9_tick wsX9_due := goodIn_r _ [7, 1, 54, 55, 56, 57, 58, 59] (by decide +kernel) (by decide +kernel)
set_option maxRecDepth 20000 in
theorem gX9_tick_X9_due : GoodIn wsX9_tick (wsV RX9 77 RX9 yX9_due wsX9_due) := goodIn_app (goodIn_of _ (by decide +kernel)) ggX9_tick_X9_due
set_option maxRecDepth 20000 in
theorem ggX9_tick_X9_filters : GoodIn wsX9_tick wsX9_filters := goodIn_r _ [11, 1, 54, 55, 56, 57, 58, 59] (by decide +kernel) (by decide +kernel)
set_option maxRecDepth 20000 in
theorem gX9_tick_X9_filters : GoodIn wsX9_tick (wsV RX9 80 RX9 yX9_filters wsX9_filters) := goodIn_app (goodIn_of _ (by decide +kernel)) ggX9_tick_X9_filters
set_option maxRecDepth 20000 in
theorem ggX9_tick_X9_accepts : GoodIn wsX9_tick wsX9_accepts := goodIn_r _ [15, 1, 16, 17, 6, 18, 19, 20, 21, 22, 23, 24, 25, 26, 2, 27, 28, 29, 30, 31, 32, 33, 34, 35, 36, 37, 38, 54, 55, 56, 57, 58, 59] (by decide +kernel) (by decide +kernel)
set_option maxRecDepth 20000 in
theorem gX9_tick_X9_accepts : GoodIn wsX9_tick (wsV RX9 83 RX9 yX9_accepts wsX9_accepts) := goodIn_app (goodIn_of _ (by decide +kernel)) ggX9_tick_X9_accepts
set_option maxRecDepth 20000 in
theorem ggX9_tick_X9_watches : GoodIn wsX9_tick wsX9_watches := goodIn_r _ [42, 1, 2, 31, 32, 33, 6, 34, 16, 17, 18, 35, 36, 37, 38, 54, 55, 56, 57, 58, 59] (by decide +kernel) (by decide +kernel)
set_option maxRecDepth 20000 in
theorem gX9_tick_X9_watches : GoodIn wsX9_tick (wsV RX9 86 RX9 yX9_watches wsX9_watches) := goodIn_app (goodIn_of _ (by decide +kernel)) ggX9_tick_X9_watches
set_option maxRecDepth 20000 in
theorem ggX9_tick_X9_switches : GoodIn wsX9_tick wsX9_switches := goodIn_r _ [46, 1, 47, 48, 49, 6, 50, 51, 52, 53, 54, 55, 56, 57, 58, 59] (by decide +kernel) (by decide +kernel)
set_option maxRecDepth 20000 in
theorem gX9_tick_X9_switches : GoodIn wsX9_tick (wsV RX9 89 RX9 yX9_switches wsX9_switches) := goodIn_app (goodIn_of _ (by decide +kernel)) ggX9_tick_X9_switches
theorem dX9_tick_0 : decode cX9_tick 0 = .ok (.aload_n 0, 1) := by decide +kernel
theorem dX9_tick_1 : decode cX9_tick 1 = .ok (.getfield 7, 3) := by decide +kernel
theorem dX9_tick_4 : decode cX9_tick 4 = .ok (.iconst 0, 1) := by decide +kernel
theorem dX9_tick_5 : decode cX9_tick 5 = .ok (.dup2, 1) := by decide +kernel
theorem dX9_tick_6 : decode cX9_tick 6 = .ok (.iaload, 1) := by decide +kernel
theorem dX9_tick_7 : decode cX9_tick 7 = .ok (.iconst 1, 1) := by decide +kernel
theorem dX9_tick_8 : decode cX9_tick 8 = .ok (.iadd, 1) := by decide +kernel
theorem dX9_tick_9 : decode cX9_tick 9 = .ok (.iastore, 1) := by decide +kernel
theorem dX9_tick_10 : decode cX9_tick 10 = .ok (.aload_n 0, 1) := by decide +kernel
theorem dX9_tick_11 : decode cX9_tick 11 = .ok (.iconst 0, 1) := by decide +kernel
theorem dX9_tick_12 : decode cX9_tick 12 = .ok (.putfield 56, 3) := by decide +kernel
theorem dX9_tick_15 : decode cX9_tick 15 = .ok (.aload_n 0, 1) := by decide +kernel
theorem dX9_tick_16 : decode cX9_tick 16 = .ok (.invokevirtual 77, 3) := by decide +kernel
theorem dX9_tick_19 : decode cX9_tick 19 = .ok (.aload_n 0, 1) := by decide +kernel
theorem dX9_tick_20 : decode cX9_tick 20 = .ok (.invokevirtual 80, 3) := by decide +kernel
theorem dX9_tick_23 : decode cX9_tick 23 = .ok (.ifCond .eq 7, 3) := by decide +kernel
theorem dX9_tick_26 : decode cX9_tick 26 = .ok (.aload_n 0, 1) := by decide +kernel
theorem dX9_tick_27 : decode cX9_tick 27 = .ok (.invokevirtual 83, 3) := by decide +kernel
theorem dX9_tick_30 : decode cX9_tick 30 = .ok (.aload_n 0, 1) := by decide +kernel
theorem dX9_tick_31 : decode cX9_tick 31 = .ok (.invokevirtual 86, 3) := by decide +kernel
theorem dX9_tick_34 : decode cX9_tick 34 = .ok (.aload_n 0, 1) := by decide +kernel
theorem dX9_tick_35 : decode cX9_tick 35 = .ok (.getfield 7, 3) := by decide +kernel
theorem dX9_tick_38 : decode cX9_tick 38 = .ok (.bipush 12, 2) := by decide +kernel
theorem dX9_tick_40 : decode cX9_tick 40 = .ok (.aload_n 0, 1) := by decide +kernel
theorem dX9_tick_41 : decode cX9_tick 41 = .ok (.getfield 7, 3) := by decide +kernel
theorem dX9_tick_44 : decode cX9_tick 44 = .ok (.bipush 12, 2) := by decide +kernel
theorem dX9_tick_46 : decode cX9_tick 46 = .ok (.iaload, 1) := by decide +kernel
theorem dX9_tick_47 : decode cX9_tick 47 = .ok (.iconst 1, 1) := by decide +kernel
theorem dX9_tick_48 : decode cX9_tick 48 = .ok (.iadd, 1) := by decide +kernel
theorem dX9_tick_49 : decode cX9_tick 49 = .ok (.aload_n 0, 1) := by decide +kernel
theorem dX9_tick_50 : decode cX9_tick 50 = .ok (.getfield 7, 3) := by decide +kernel
theorem dX9_tick_53 : decode cX9_tick 53 = .ok (.iconst 2, 1) := by decide +kernel
theorem dX9_tick_54 : decode cX9_tick 54 = .ok (.iaload, 1) := by decide +kernel
theorem dX9_tick_55 : decode cX9_tick 55 = .ok (.if_icmp .lt 7, 3) := by decide +kernel
theorem dX9_tick_58 : decode cX9_tick 58 = .ok (.iconst 0, 1) := by decide +kernel
theorem dX9_tick_59 : decode cX9_tick 59 = .ok (.goto 12, 3) := by decide +kernel
theorem dX9_tick_62 : decode cX9_tick 62 = .ok (.aload_n 0, 1) := by decide +kernel
theorem dX9_tick_63 : decode cX9_tick 63 = .ok (.getfield 7, 3) := by decide +kernel
theorem dX9_tick_66 : decode cX9_tick 66 = .ok (.bipush 12, 2) := by decide +kernel
theorem dX9_tick_68 : decode cX9_tick 68 = .ok (.iaload, 1) := by decide +kernel
theorem dX9_tick_69 : decode cX9_tick 69 = .ok (.iconst 1, 1) := by decide +kernel
theorem dX9_tick_70 : decode cX9_tick 70 = .ok (.iadd, 1) := by decide +kernel
theorem dX9_tick_71 : decode cX9_tick 71 = .ok (.iastore, 1) := by decide +kernel
theorem dX9_tick_72 : decode cX9_tick 72 = .ok (.aload_n 0, 1) := by decide +kernel
theorem dX9_tick_73 : decode cX9_tick 73 = .ok (.invokevirtual 89, 3) := by decide +kernel
theorem dX9_tick_76 : decode cX9_tick 76 = .ok (.return_, 1) := by decide +kernel
set_option maxRecDepth 20000 in
theorem ggX9_run_X9_in : GoodIn wsX9_run wsX9_in := goodIn_r _ [5] (by decide +kernel) (by decide +kernel)
set_option maxRecDepth 20000 in
theorem gX9_run_X9_in : GoodIn wsX9_run (va_wsS RX9 26 yX9_in wsX9_in) := goodIn_app (goodIn_of _ (by decide +kernel)) ggX9_run_X9_in
set_option maxRecDepth 20000 in
theorem ggX9_run_X9_fails : GoodIn wsX9_run wsX9_fails := goodIn_r _ [9, 10, 72, 73, 74, 75, 76, 77] (by decide +kernel) (by decide +kernel)
set_option maxRecDepth 20000 in
theorem gX9_run_X9_fails : GoodIn wsX9_run (wsV RX9 34 RX9 yX9_fails wsX9_fails) := goodIn_app (goodIn_of _ (by decide +kernel)) ggX9_run_X9_fails
set_option maxRecDepth 20000 in
theorem ggX9_run_X9_save : GoodIn wsX9_run wsX9_save := goodIn_r _ [14, 10, 15, 16, 1, 72, 73, 74, 75, 76, 77] (by decide +kernel) (by decide +kernel)
set_option maxRecDepth 20000 in
theorem gX9_run_X9_save : GoodIn wsX9_run (wsV RX9 23 RX9 yX9_save wsX9_save) := goodIn_app (goodIn_of _ (by decide +kernel)) ggX9_run_X9_save
set_option maxRecDepth 20000 in
theorem ggX9_run_X9_tick : GoodIn wsX9_run wsX9_tick := goodIn_r _ [20, 1, 21, 22, 23, 24, 4, 25, 26, 27, 28, 29, 30, 31, 32, 33, 34, 35, 36, 37, 38, 39, 40, 41, 42, 43, 44, 45, 46, 47, 48, 49, 50, 51, 52, 53, 54, 55, 56, 57, 58, 59, 60, 61, 62, 63, 64, 65, 66, 67, 68, 69, 70, 71, 72, 73, 74, 75, 76, 77] (by decide +kernel) (by decide +kernel)
set_option maxRecDepth 20000 in
theorem gX9_run_X9_tick : GoodIn wsX9_run (wsV RX9 92 RX9 yX9_tick wsX9_tick) := goodIn_app (goodIn_of _ (by decide +kernel)) ggX9_run_X9_tick
theorem dX9_run_0 : decode cX9_run 0 = .ok (.iload_n 1, 1) := by decide +kernel
theorem dX9_run_1 : decode cX9_run 1 = .ok (.iconst 0, 1) := by decide +kernel
theorem dX9_run_2 : decode cX9_run 2 = .ok (.sipush 5000, 3) := by decide +kernel
theorem dX9_run_5 : decode cX9_run 5 = .ok (.invokestatic 26, 3) := by decide +kernel
theorem dX9_run_8 : decode cX9_run 8 = .ok (.ifCond .ne 9, 3) := by decide +kernel
theorem dX9_run_11 : decode cX9_run 11 = .ok (.aload_n 0, 1) := by decide +kernel
theorem dX9_run_12 : decode cX9_run 12 = .ok (.iconst 1, 1) := by decide +kernel
theorem dX9_run_13 : decode cX9_run 13 = .ok (.invokevirtual 34, 3) := by decide +kernel
theorem dX9_run_16 : decode cX9_run 16 = .ok (.ireturn, 1) := by decide +kernel
theorem dX9_run_17 : decode cX9_run 17 = .ok (.aload_n 0, 1) := by decide +kernel
theorem dX9_run_18 : decode cX9_run 18 = .ok (.invokevirtual 23, 3) := by decide +kernel
theorem dX9_run_21 : decode cX9_run 21 = .ok (.iconst 0, 1) := by decide +kernel
theorem dX9_run_22 : decode cX9_run 22 = .ok (.istore_n 2, 1) := by decide +kernel
theorem dX9_run_23 : decode cX9_run 23 = .ok (.iload_n 2, 1) := by decide +kernel
theorem dX9_run_24 : decode cX9_run 24 = .ok (.iload_n 1, 1) := by decide +kernel
theorem dX9_run_25 : decode cX9_run 25 = .ok (.if_icmp .ge 13, 3) := by decide +kernel
theorem dX9_run_28 : decode cX9_run 28 = .ok (.aload_n 0, 1) := by decide +kernel
theorem dX9_run_29 : decode cX9_run 29 = .ok (.invokevirtual 92, 3) := by decide +kernel
theorem dX9_run_32 : decode cX9_run 32 = .ok (.iinc 2 1, 3) := by decide +kernel
theorem dX9_run_35 : decode cX9_run 35 = .ok (.goto (-12), 3) := by decide +kernel
theorem dX9_run_38 : decode cX9_run 38 = .ok (.aload_n 0, 1) := by decide +kernel
theorem dX9_run_39 : decode cX9_run 39 = .ok (.getfield 7, 3) := by decide +kernel
theorem dX9_run_42 : decode cX9_run 42 = .ok (.iconst 0, 1) := by decide +kernel
theorem dX9_run_43 : decode cX9_run 43 = .ok (.iaload, 1) := by decide +kernel
theorem dX9_run_44 : decode cX9_run 44 = .ok (.ireturn, 1) := by decide +kernel
theorem dX9_tells_0 : decode cX9_tells 0 = .ok (.aload_n 0, 1) := by decide +kernel
theorem dX9_tells_1 : decode cX9_tells 1 = .ok (.iconst 0, 1) := by decide +kernel
theorem dX9_tells_2 : decode cX9_tells 2 = .ok (.putfield 16, 3) := by decide +kernel
theorem dX9_tells_5 : decode cX9_tells 5 = .ok (.iload_n 1, 1) := by decide +kernel
theorem dX9_tells_6 : decode cX9_tells 6 = .ok (.ireturn, 1) := by decide +kernel
set_option maxRecDepth 20000 in
theorem ggX9_sensors_X9_in : GoodIn wsX9_sensors wsX9_in := goodIn_r _ [5] (by decide +kernel) (by decide +kernel)
set_option maxRecDepth 20000 in
theorem gX9_sensors_X9_in : GoodIn wsX9_sensors (va_wsS RX9 26 yX9_in wsX9_in) := goodIn_app (goodIn_of _ (by decide +kernel)) ggX9_sensors_X9_in
set_option maxRecDepth 20000 in
theorem ggX9_sensors_X9_fails : GoodIn wsX9_sensors wsX9_fails := goodIn_r _ [9, 10, 15, 16, 17, 18, 19, 20] (by decide +kernel) (by decide +kernel)
set_option maxRecDepth 20000 in
theorem gX9_sensors_X9_fails : GoodIn wsX9_sensors (wsV RX9 34 RX9 yX9_fails wsX9_fails) := goodIn_app (goodIn_of _ (by decide +kernel)) ggX9_sensors_X9_fails
set_option maxRecDepth 20000 in
theorem ggX9_sensors_X9_tells : GoodIn wsX9_sensors wsX9_tells := goodIn_r _ [14, 10, 15, 16, 17, 18, 19, 20] (by decide +kernel) (by decide +kernel)
set_option maxRecDepth 20000 in
theorem gX9_sensors_X9_tells : GoodIn wsX9_sensors (wsV RX9 95 RX9 yX9_tells wsX9_tells) := goodIn_app (goodIn_of _ (by decide +kernel)) ggX9_sensors_X9_tells
theorem dX9_sensors_0 : decode cX9_sensors 0 = .ok (.iload_n 1, 1) := by decide +kernel
theorem dX9_sensors_1 : decode cX9_sensors 1 = .ok (.iconst 0, 1) := by decide +kernel
theorem dX9_sensors_2 : decode cX9_sensors 2 = .ok (.iconst 3, 1) := by decide +kernel
theorem dX9_sensors_3 : decode cX9_sensors 3 = .ok (.invokestatic 26, 3) := by decide +kernel
theorem dX9_sensors_6 : decode cX9_sensors 6 = .ok (.ifCond .ne 9, 3) := by decide +kernel
theorem dX9_sensors_9 : decode cX9_sensors 9 = .ok (.aload_n 0, 1) := by decide +kernel
theorem dX9_sensors_10 : decode cX9_sensors 10 = .ok (.iconst 1, 1) := by decide +kernel
theorem dX9_sensors_11 : decode cX9_sensors 11 = .ok (.invokevirtual 34, 3) := by decide +kernel
theorem dX9_sensors_14 : decode cX9_sensors 14 = .ok (.ireturn, 1) := by decide +kernel
theorem dX9_sensors_15 : decode cX9_sensors 15 = .ok (.aload_n 0, 1) := by decide +kernel
theorem dX9_sensors_16 : decode cX9_sensors 16 = .ok (.iload_n 1, 1) := by decide +kernel
theorem dX9_sensors_17 : decode cX9_sensors 17 = .ok (.ifCond .ne 13, 3) := by decide +kernel
theorem dX9_sensors_20 : decode cX9_sensors 20 = .ok (.aload_n 0, 1) := by decide +kernel
theorem dX9_sensors_21 : decode cX9_sensors 21 = .ok (.getfield 7, 3) := by decide +kernel
theorem dX9_sensors_24 : decode cX9_sensors 24 = .ok (.bipush 7, 2) := by decide +kernel
theorem dX9_sensors_26 : decode cX9_sensors 26 = .ok (.iaload, 1) := by decide +kernel
theorem dX9_sensors_27 : decode cX9_sensors 27 = .ok (.goto 40, 3) := by decide +kernel
theorem dX9_sensors_30 : decode cX9_sensors 30 = .ok (.iload_n 1, 1) := by decide +kernel
theorem dX9_sensors_31 : decode cX9_sensors 31 = .ok (.iconst 1, 1) := by decide +kernel
theorem dX9_sensors_32 : decode cX9_sensors 32 = .ok (.if_icmp .ne 13, 3) := by decide +kernel
theorem dX9_sensors_35 : decode cX9_sensors 35 = .ok (.aload_n 0, 1) := by decide +kernel
theorem dX9_sensors_36 : decode cX9_sensors 36 = .ok (.getfield 7, 3) := by decide +kernel
theorem dX9_sensors_39 : decode cX9_sensors 39 = .ok (.bipush 8, 2) := by decide +kernel
theorem dX9_sensors_41 : decode cX9_sensors 41 = .ok (.iaload, 1) := by decide +kernel
theorem dX9_sensors_42 : decode cX9_sensors 42 = .ok (.goto 25, 3) := by decide +kernel
theorem dX9_sensors_45 : decode cX9_sensors 45 = .ok (.iload_n 1, 1) := by decide +kernel
theorem dX9_sensors_46 : decode cX9_sensors 46 = .ok (.iconst 2, 1) := by decide +kernel
theorem dX9_sensors_47 : decode cX9_sensors 47 = .ok (.if_icmp .ne 13, 3) := by decide +kernel
theorem dX9_sensors_50 : decode cX9_sensors 50 = .ok (.aload_n 0, 1) := by decide +kernel
theorem dX9_sensors_51 : decode cX9_sensors 51 = .ok (.getfield 7, 3) := by decide +kernel
theorem dX9_sensors_54 : decode cX9_sensors 54 = .ok (.bipush 9, 2) := by decide +kernel
theorem dX9_sensors_56 : decode cX9_sensors 56 = .ok (.iaload, 1) := by decide +kernel
theorem dX9_sensors_57 : decode cX9_sensors 57 = .ok (.goto 10, 3) := by decide +kernel
theorem dX9_sensors_60 : decode cX9_sensors 60 = .ok (.aload_n 0, 1) := by decide +kernel
theorem dX9_sensors_61 : decode cX9_sensors 61 = .ok (.getfield 7, 3) := by decide +kernel
theorem dX9_sensors_64 : decode cX9_sensors 64 = .ok (.bipush 11, 2) := by decide +kernel
theorem dX9_sensors_66 : decode cX9_sensors 66 = .ok (.iaload, 1) := by decide +kernel
theorem dX9_sensors_67 : decode cX9_sensors 67 = .ok (.invokevirtual 95, 3) := by decide +kernel
theorem dX9_sensors_70 : decode cX9_sensors 70 = .ok (.ireturn, 1) := by decide +kernel
set_option maxRecDepth 20000 in
theorem ggX9_mode_X9_tells : GoodIn wsX9_mode wsX9_tells := goodIn_r _ [6, 7, 8, 9, 10, 11, 12, 13] (by decide +kernel) (by decide +kernel)
set_option maxRecDepth 20000 in
theorem gX9_mode_X9_tells : GoodIn wsX9_mode (wsV RX9 95 RX9 yX9_tells wsX9_tells) := goodIn_app (goodIn_of _ (by decide +kernel)) ggX9_mode_X9_tells
theorem dX9_mode_0 : decode cX9_mode 0 = .ok (.aload_n 0, 1) := by decide +kernel
theorem dX9_mode_1 : decode cX9_mode 1 = .ok (.aload_n 0, 1) := by decide +kernel
theorem dX9_mode_2 : decode cX9_mode 2 = .ok (.getfield 7, 3) := by decide +kernel
theorem dX9_mode_5 : decode cX9_mode 5 = .ok (.bipush 6, 2) := by decide +kernel
theorem dX9_mode_7 : decode cX9_mode 7 = .ok (.iaload, 1) := by decide +kernel
theorem dX9_mode_8 : decode cX9_mode 8 = .ok (.invokevirtual 95, 3) := by decide +kernel
theorem dX9_mode_11 : decode cX9_mode 11 = .ok (.ireturn, 1) := by decide +kernel
set_option maxRecDepth 20000 in
theorem ggX9_leg_X9_in : GoodIn wsX9_leg wsX9_in := goodIn_r _ [5] (by decide +kernel) (by decide +kernel)
set_option maxRecDepth 20000 in
theorem gX9_leg_X9_in : GoodIn wsX9_leg (va_wsS RX9 26 yX9_in wsX9_in) := goodIn_app (goodIn_of _ (by decide +kernel)) ggX9_leg_X9_in
set_option maxRecDepth 20000 in
theorem ggX9_leg_X9_tells : GoodIn wsX9_leg wsX9_tells := goodIn_r _ [9, 10, 15, 16, 17, 18, 19, 20] (by decide +kernel) (by decide +kernel)
set_option maxRecDepth 20000 in
theorem gX9_leg_X9_tells : GoodIn wsX9_leg (wsV RX9 95 RX9 yX9_tells wsX9_tells) := goodIn_app (goodIn_of _ (by decide +kernel)) ggX9_leg_X9_tells
set_option maxRecDepth 20000 in
theorem ggX9_leg_X9_fails : GoodIn wsX9_leg wsX9_fails := goodIn_r _ [14, 10, 15, 16, 17, 18, 19, 20] (by decide +kernel) (by decide +kernel)
set_option maxRecDepth 20000 in
theorem gX9_leg_X9_fails : GoodIn wsX9_leg (wsV RX9 34 RX9 yX9_fails wsX9_fails) := goodIn_app (goodIn_of _ (by decide +kernel)) ggX9_leg_X9_fails
theorem dX9_leg_0 : decode cX9_leg 0 = .ok (.iload_n 1, 1) := by decide +kernel
theorem dX9_leg_1 : decode cX9_leg 1 = .ok (.iconst 0, 1) := by decide +kernel
theorem dX9_leg_2 : decode cX9_leg 2 = .ok (.iconst 2, 1) := by decide +kernel
theorem dX9_leg_3 : decode cX9_leg 3 = .ok (.invokestatic 26, 3) := by decide +kernel
theorem dX9_leg_6 : decode cX9_leg 6 = .ok (.ifCond .eq 19, 3) := by decide +kernel
theorem dX9_leg_9 : decode cX9_leg 9 = .ok (.aload_n 0, 1) := by decide +kernel
theorem dX9_leg_10 : decode cX9_leg 10 = .ok (.aload_n 0, 1) := by decide +kernel
theorem dX9_leg_11 : decode cX9_leg 11 = .ok (.getfield 7, 3) := by decide +kernel
theorem dX9_leg_14 : decode cX9_leg 14 = .ok (.bipush 13, 2) := by decide +kernel
theorem dX9_leg_16 : decode cX9_leg 16 = .ok (.iload_n 1, 1) := by decide +kernel
theorem dX9_leg_17 : decode cX9_leg 17 = .ok (.iadd, 1) := by decide +kernel
theorem dX9_leg_18 : decode cX9_leg 18 = .ok (.iaload, 1) := by decide +kernel
theorem dX9_leg_19 : decode cX9_leg 19 = .ok (.invokevirtual 95, 3) := by decide +kernel
theorem dX9_leg_22 : decode cX9_leg 22 = .ok (.goto 8, 3) := by decide +kernel
theorem dX9_leg_25 : decode cX9_leg 25 = .ok (.aload_n 0, 1) := by decide +kernel
theorem dX9_leg_26 : decode cX9_leg 26 = .ok (.iconst 1, 1) := by decide +kernel
theorem dX9_leg_27 : decode cX9_leg 27 = .ok (.invokevirtual 34, 3) := by decide +kernel
theorem dX9_leg_30 : decode cX9_leg 30 = .ok (.ireturn, 1) := by decide +kernel
set_option maxRecDepth 20000 in
theorem ggX9_onTicks_X9_in : GoodIn wsX9_onTicks wsX9_in := goodIn_r _ [5] (by decide +kernel) (by decide +kernel)
set_option maxRecDepth 20000 in
theorem gX9_onTicks_X9_in : GoodIn wsX9_onTicks (va_wsS RX9 26 yX9_in wsX9_in) := goodIn_app (goodIn_of _ (by decide +kernel)) ggX9_onTicks_X9_in
set_option maxRecDepth 20000 in
theorem ggX9_onTicks_X9_tells : GoodIn wsX9_onTicks wsX9_tells := goodIn_r _ [9, 10, 15, 16, 17, 18, 19, 20] (by decide +kernel) (by decide +kernel)
set_option maxRecDepth 20000 in
theorem gX9_onTicks_X9_tells : GoodIn wsX9_onTicks (wsV RX9 95 RX9 yX9_tells wsX9_tells) := goodIn_app (goodIn_of _ (by decide +kernel)) ggX9_onTicks_X9_tells
set_option maxRecDepth 20000 in
theorem ggX9_onTicks_X9_fails : GoodIn wsX9_onTicks wsX9_fails := goodIn_r _ [14, 10, 15, 16, 17, 18, 19, 20] (by decide +kernel) (by decide +kernel)
set_option maxRecDepth 20000 in
theorem gX9_onTicks_X9_fails : GoodIn wsX9_onTicks (wsV RX9 34 RX9 yX9_fails wsX9_fails) := goodIn_app (goodIn_of _ (by decide +kernel)) ggX9_onTicks_X9_fails
theorem dX9_onTicks_0 : decode cX9_onTicks 0 = .ok (.iload_n 1, 1) := by decide +kernel
theorem dX9_onTicks_1 : decode cX9_onTicks 1 = .ok (.iconst 0, 1) := by decide +kernel
theorem dX9_onTicks_2 : decode cX9_onTicks 2 = .ok (.iconst 2, 1) := by decide +kernel
theorem dX9_onTicks_3 : decode cX9_onTicks 3 = .ok (.invokestatic 26, 3) := by decide +kernel
theorem dX9_onTicks_6 : decode cX9_onTicks 6 = .ok (.ifCond .eq 35, 3) := by decide +kernel
theorem dX9_onTicks_9 : decode cX9_onTicks 9 = .ok (.aload_n 0, 1) := by decide +kernel
theorem dX9_onTicks_10 : decode cX9_onTicks 10 = .ok (.iload_n 2, 1) := by decide +kernel
theorem dX9_onTicks_11 : decode cX9_onTicks 11 = .ok (.ifCond .eq 15, 3) := by decide +kernel
theorem dX9_onTicks_14 : decode cX9_onTicks 14 = .ok (.aload_n 0, 1) := by decide +kernel
theorem dX9_onTicks_15 : decode cX9_onTicks 15 = .ok (.getfield 7, 3) := by decide +kernel
theorem dX9_onTicks_18 : decode cX9_onTicks 18 = .ok (.bipush 22, 2) := by decide +kernel
