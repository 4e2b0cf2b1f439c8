theorem dX7_watchIdleTime_61 : decode cX7_watchIdleTime 61 = .ok (.getfield 39, 3) := by decide +kernel
theorem dX7_watchIdleTime_64 : decode cX7_watchIdleTime 64 = .ok (.getfield 160, 3) := by decide +kernel
theorem dX7_watchIdleTime_67 : decode cX7_watchIdleTime 67 = .ok (.invokevirtual 151, 3) := by decide +kernel
theorem dX7_watchIdleTime_70 : decode cX7_watchIdleTime 70 = .ok (.return_, 1) := by decide +kernel
set_option maxRecDepth 20000 in
theorem ggX8_init_X7_init : GoodIn wsX8_init wsX7_init := goodIn_r _ [13, 14, 2, 3, 15, 16, 17, 18, 19, 20, 21, 22, 23, 24, 25, 26, 27, 28, 29, 30, 31, 32, 33, 34, 35, 36, 37, 38, 39, 40, 41, 42, 43, 44, 45, 46, 47, 48, 49, 50, 51, 52, 53, 54, 55, 56, 57, 58, 59, 60, 61, 62, 63, 64, 65, 66, 67, 68, 69, 70, 71, 72, 73, 74, 75, 76, 77, 78, 79, 80, 81, 82, 83, 84, 85, 86, 87, 88, 89, 90, 91, 92, 93, 100, 101, 102, 103, 104, 105, 106, 111, 112, 113, 114, 115, 116, 117, 118, 119, 120, 121, 122, 123, 124, 125, 126, 127, 128, 129, 130, 131, 132, 133, 134, 135, 136, 137, 138, 139, 140, 141, 142, 143, 144, 145] (by decide +kernel) (by decide +kernel)
set_option maxRecDepth 20000 in
theorem gX8_init_X7_init_n9 : GoodIn wsX8_init (wsX7_init) := ggX8_init_X7_init
set_option maxRecDepth 20000 in
theorem ggX8_init_X2_init : GoodIn wsX8_init wsX2_init := goodIn_r _ [95, 96, 2, 3, 97, 5, 6, 98, 99, 12, 13, 14, 15, 16, 17, 18, 19, 20, 21, 22, 23, 24, 25, 26, 27, 28, 29, 30, 31, 32, 33, 34, 35, 36, 37, 38, 39, 40, 41, 42, 43, 44, 45, 46, 47, 48, 49, 50, 51, 52, 53, 54, 55, 56, 57, 58, 59, 60, 61, 62, 63, 64, 65, 66, 67, 68, 69, 70, 71, 72, 73, 74, 75, 76, 77, 78, 79, 80, 81, 82, 83, 84, 85, 86, 87, 88, 89, 90, 91, 92, 93, 100, 101, 102, 103, 104, 105, 106, 109, 110, 111, 112, 113, 114, 115, 116, 117, 118, 119, 120, 121, 122, 123, 124, 125, 126, 127, 128, 129, 130, 131, 132, 133, 134, 135, 136, 137, 138, 139, 140, 141, 142, 143, 144, 145] (by decide +kernel) (by decide +kernel)
set_option maxRecDepth 20000 in
theorem gX8_init_X2_init_n18 : GoodIn wsX8_init (wsX2_init) := ggX8_init_X2_init
theorem dX8_init_0 : decode cX8_init 0 = .ok (.aload_n 0, 1) := by decide +kernel
theorem dX8_init_1 : decode cX8_init 1 = .ok (.invokespecial 1, 3) := by decide +kernel
theorem dX8_init_4 : decode cX8_init 4 = .ok (.aload_n 0, 1) := by decide +kernel
theorem dX8_init_5 : decode cX8_init 5 = .ok (.new 7, 3) := by decide +kernel
theorem dX8_init_8 : decode cX8_init 8 = .ok (.dup, 1) := by decide +kernel
theorem dX8_init_9 : decode cX8_init 9 = .ok (.invokespecial 9, 3) := by decide +kernel
theorem dX8_init_12 : decode cX8_init 12 = .ok (.putfield 10, 3) := by decide +kernel
theorem dX8_init_15 : decode cX8_init 15 = .ok (.aload_n 0, 1) := by decide +kernel
theorem dX8_init_16 : decode cX8_init 16 = .ok (.new 16, 3) := by decide +kernel
theorem dX8_init_19 : decode cX8_init 19 = .ok (.dup, 1) := by decide +kernel
theorem dX8_init_20 : decode cX8_init 20 = .ok (.invokespecial 18, 3) := by decide +kernel
theorem dX8_init_23 : decode cX8_init 23 = .ok (.putfield 19, 3) := by decide +kernel
theorem dX8_init_26 : decode cX8_init 26 = .ok (.return_, 1) := by decide +kernel
set_option maxRecDepth 20000 in
theorem ggX8_setFilter_X8_requireRange : GoodIn wsX8_setFilter wsX8_requireRange := goodIn_ca (goodIn_r _ [8, 9, 10] (by decide +kernel) (by decide +kernel)) (goodIn_sub (fun _ h => List.mem_cons_of_mem _ (List.mem_append_right _ h)) (by decide +kernel))
set_option maxRecDepth 20000 in
theorem gX8_setFilter_X8_requireRange : GoodIn wsX8_setFilter (va_wsS RX8 23 yX8_requireRange wsX8_requireRange) := goodIn_app (goodIn_of _ (by decide +kernel)) ggX8_setFilter_X8_requireRange
set_option maxRecDepth 20000 in
theorem ggX8_setFilter_X2_save : GoodIn wsX8_setFilter wsX2_save := goodIn_r _ [15, 16, 17, 18, 19, 20, 14, 21, 22, 23, 24, 25, 26, 27, 28, 29, 30, 31, 32, 33, 34, 35, 36, 37, 38, 39, 40, 41, 42, 43, 44, 45, 46, 47, 48, 49, 50, 51, 52, 53, 54, 55, 56, 57, 58, 59, 60, 61, 62, 63, 64, 65, 66, 67, 68, 69, 70, 71, 72, 73, 74, 75, 76, 77, 78, 79, 80, 81, 82, 83, 84, 85, 86, 87, 88, 89, 90, 91, 92, 93, 94, 95, 96, 97, 98, 99, 100, 101, 102, 103, 104, 119, 120, 107, 108, 109, 110, 111, 112, 113, 114, 115, 116, 117, 118, 121, 122, 123, 124, 125, 126, 127, 128, 129, 130, 131, 132, 133, 134, 135, 136, 137, 138, 139, 140, 141, 142, 143, 144, 145, 146, 147, 148, 149, 150] (by decide +kernel) (by decide +kernel)
set_option maxRecDepth 20000 in
theorem gX8_setFilter_X2_save : GoodIn wsX8_setFilter (wsV RX8 27 RX2 yX2_save wsX2_save) := goodIn_app (goodIn_of _ (by decide +kernel)) ggX8_setFilter_X2_save
theorem dX8_setFilter_0 : decode cX8_setFilter 0 = .ok (.iload_n 1, 1) := by decide +kernel
theorem dX8_setFilter_1 : decode cX8_setFilter 1 = .ok (.iconst 1, 1) := by decide +kernel
theorem dX8_setFilter_2 : decode cX8_setFilter 2 = .ok (.bipush 50, 2) := by decide +kernel
theorem dX8_setFilter_4 : decode cX8_setFilter 4 = .ok (.invokestatic 23, 3) := by decide +kernel
theorem dX8_setFilter_7 : decode cX8_setFilter 7 = .ok (.aload_n 0, 1) := by decide +kernel
theorem dX8_setFilter_8 : decode cX8_setFilter 8 = .ok (.getfield 19, 3) := by decide +kernel
theorem dX8_setFilter_11 : decode cX8_setFilter 11 = .ok (.aload_n 0, 1) := by decide +kernel
theorem dX8_setFilter_12 : decode cX8_setFilter 12 = .ok (.getfield 10, 3) := by decide +kernel
theorem dX8_setFilter_15 : decode cX8_setFilter 15 = .ok (.invokevirtual 27, 3) := by decide +kernel
theorem dX8_setFilter_18 : decode cX8_setFilter 18 = .ok (.aload_n 0, 1) := by decide +kernel
theorem dX8_setFilter_19 : decode cX8_setFilter 19 = .ok (.getfield 10, 3) := by decide +kernel
theorem dX8_setFilter_22 : decode cX8_setFilter 22 = .ok (.getfield 31, 3) := by decide +kernel
theorem dX8_setFilter_25 : decode cX8_setFilter 25 = .ok (.getfield 35, 3) := by decide +kernel
theorem dX8_setFilter_28 : decode cX8_setFilter 28 = .ok (.istore_n 2, 1) := by decide +kernel
theorem dX8_setFilter_29 : decode cX8_setFilter 29 = .ok (.aload_n 0, 1) := by decide +kernel
theorem dX8_setFilter_30 : decode cX8_setFilter 30 = .ok (.getfield 10, 3) := by decide +kernel
theorem dX8_setFilter_33 : decode cX8_setFilter 33 = .ok (.getfield 31, 3) := by decide +kernel
theorem dX8_setFilter_36 : decode cX8_setFilter 36 = .ok (.iload_n 1, 1) := by decide +kernel
theorem dX8_setFilter_37 : decode cX8_setFilter 37 = .ok (.putfield 35, 3) := by decide +kernel
theorem dX8_setFilter_40 : decode cX8_setFilter 40 = .ok (.iload_n 2, 1) := by decide +kernel
theorem dX8_setFilter_41 : decode cX8_setFilter 41 = .ok (.ireturn, 1) := by decide +kernel
set_option maxRecDepth 20000 in
theorem ggX8_setPulse_X8_requireRange : GoodIn wsX8_setPulse wsX8_requireRange := goodIn_ca (goodIn_r _ [9, 10, 11] (by decide +kernel) (by decide +kernel)) (goodIn_sub (fun _ h => List.mem_cons_of_mem _ (List.mem_append_right _ h)) (by decide +kernel))
set_option maxRecDepth 20000 in
theorem gX8_setPulse_X8_requireRange : GoodIn wsX8_setPulse (va_wsS RX8 23 yX8_requireRange wsX8_requireRange) := goodIn_app (goodIn_of _ (by decide +kernel)) ggX8_setPulse_X8_requireRange
set_option maxRecDepth 20000 in
theorem ggX8_setPulse_X2_save : GoodIn wsX8_setPulse wsX2_save := goodIn_r _ [16, 17, 18, 19, 20, 21, 15, 22, 23, 24, 25, 26, 27, 28, 29, 30, 31, 32, 33, 34, 35, 36, 37, 38, 39, 40, 41, 42, 43, 44, 45, 46, 47, 48, 49, 50, 51, 52, 53, 54, 55, 56, 57, 58, 59, 60, 61, 62, 63, 64, 65, 66, 67, 68, 69, 70, 71, 72, 73, 74, 75, 76, 77, 78, 79, 80, 81, 82, 83, 84, 85, 86, 87, 88, 89, 90, 91, 92, 93, 94, 95, 96, 97, 98, 99, 100, 101, 102, 103, 104, 105, 120, 121, 108, 109, 110, 111, 112, 113, 114, 115, 116, 117, 118, 119, 122, 123, 124, 125, 126, 127, 128, 129, 130, 131, 132, 133, 134, 135, 136, 137, 138, 139, 140, 141, 142, 143, 144, 145, 146, 147, 148, 149, 150, 151] (by decide +kernel) (by decide +kernel)
set_option maxRecDepth 20000 in
theorem gX8_setPulse_X2_save : GoodIn wsX8_setPulse (wsV RX8 27 RX2 yX2_save wsX2_save) := goodIn_app (goodIn_of _ (by decide +kernel)) ggX8_setPulse_X2_save
theorem dX8_setPulse_0 : decode cX8_setPulse 0 = .ok (.iload_n 1, 1) := by decide +kernel
theorem dX8_setPulse_1 : decode cX8_setPulse 1 = .ok (.iconst 4, 1) := by decide +kernel
theorem dX8_setPulse_2 : decode cX8_setPulse 2 = .ok (.bipush 100, 2) := by decide +kernel
theorem dX8_setPulse_4 : decode cX8_setPulse 4 = .ok (.invokestatic 23, 3) := by decide +kernel
theorem dX8_setPulse_7 : decode cX8_setPulse 7 = .ok (.iload_n 2, 1) := by decide +kernel
theorem dX8_setPulse_8 : decode cX8_setPulse 8 = .ok (.iconst 0, 1) := by decide +kernel
theorem dX8_setPulse_9 : decode cX8_setPulse 9 = .ok (.bipush 100, 2) := by decide +kernel
theorem dX8_setPulse_11 : decode cX8_setPulse 11 = .ok (.invokestatic 23, 3) := by decide +kernel
theorem dX8_setPulse_14 : decode cX8_setPulse 14 = .ok (.aload_n 0, 1) := by decide +kernel
theorem dX8_setPulse_15 : decode cX8_setPulse 15 = .ok (.getfield 19, 3) := by decide +kernel
theorem dX8_setPulse_18 : decode cX8_setPulse 18 = .ok (.aload_n 0, 1) := by decide +kernel
theorem dX8_setPulse_19 : decode cX8_setPulse 19 = .ok (.getfield 10, 3) := by decide +kernel
theorem dX8_setPulse_22 : decode cX8_setPulse 22 = .ok (.invokevirtual 27, 3) := by decide +kernel
theorem dX8_setPulse_25 : decode cX8_setPulse 25 = .ok (.aload_n 0, 1) := by decide +kernel
theorem dX8_setPulse_26 : decode cX8_setPulse 26 = .ok (.getfield 10, 3) := by decide +kernel
theorem dX8_setPulse_29 : decode cX8_setPulse 29 = .ok (.getfield 31, 3) := by decide +kernel
theorem dX8_setPulse_32 : decode cX8_setPulse 32 = .ok (.getfield 41, 3) := by decide +kernel
theorem dX8_setPulse_35 : decode cX8_setPulse 35 = .ok (.istore_n 3, 1) := by decide +kernel
theorem dX8_setPulse_36 : decode cX8_setPulse 36 = .ok (.aload_n 0, 1) := by decide +kernel
theorem dX8_setPulse_37 : decode cX8_setPulse 37 = .ok (.getfield 10, 3) := by decide +kernel
theorem dX8_setPulse_40 : decode cX8_setPulse 40 = .ok (.getfield 31, 3) := by decide +kernel
theorem dX8_setPulse_43 : decode cX8_setPulse 43 = .ok (.iload_n 1, 1) := by decide +kernel
theorem dX8_setPulse_44 : decode cX8_setPulse 44 = .ok (.putfield 44, 3) := by decide +kernel
theorem dX8_setPulse_47 : decode cX8_setPulse 47 = .ok (.aload_n 0, 1) := by decide +kernel
theorem dX8_setPulse_48 : decode cX8_setPulse 48 = .ok (.getfield 10, 3) := by decide +kernel
theorem dX8_setPulse_51 : decode cX8_setPulse 51 = .ok (.getfield 31, 3) := by decide +kernel
theorem dX8_setPulse_54 : decode cX8_setPulse 54 = .ok (.iload_n 2, 1) := by decide +kernel
theorem dX8_setPulse_55 : decode cX8_setPulse 55 = .ok (.putfield 41, 3) := by decide +kernel
theorem dX8_setPulse_58 : decode cX8_setPulse 58 = .ok (.iload_n 3, 1) := by decide +kernel
theorem dX8_setPulse_59 : decode cX8_setPulse 59 = .ok (.ireturn, 1) := by decide +kernel
set_option maxRecDepth 20000 in
theorem ggX8_setDeadTime_X8_requireRange : GoodIn wsX8_setDeadTime wsX8_requireRange := goodIn_ca (goodIn_r _ [8, 9, 10] (by decide +kernel) (by decide +kernel)) (goodIn_sub (fun _ h => List.mem_cons_of_mem _ (List.mem_append_right _ h)) (by decide +kernel))
set_option maxRecDepth 20000 in
theorem gX8_setDeadTime_X8_requireRange : GoodIn wsX8_setDeadTime (va_wsS RX8 23 yX8_requireRange wsX8_requireRange) := goodIn_app (goodIn_of _ (by decide +kernel)) ggX8_setDeadTime_X8_requireRange
set_option maxRecDepth 20000 in
theorem ggX8_setDeadTime_X2_save : GoodIn wsX8_setDeadTime wsX2_save := goodIn_r _ [15, 16, 17, 18, 19, 20, 14, 21, 22, 23, 24, 25, 26, 27, 28, 29, 30, 31, 32, 33, 34, 35, 36, 37, 38, 39, 40, 41, 42, 43, 44, 45, 46, 47, 48, 49, 50, 51, 52, 53, 54, 55, 56, 57, 58, 59, 60, 61, 62, 63, 64, 65, 66, 67, 68, 69, 70, 71, 72, 73, 74, 75, 76, 77, 78, 79, 80, 81, 82, 83, 84, 85, 86, 87, 88, 89, 90, 91, 92, 93, 94, 95, 96, 97, 98, 99, 100, 101, 102, 103, 104, 119, 120, 107, 108, 109, 110, 111, 112, 113, 114, 115, 116, 117, 118, 121, 122, 123, 124, 125, 126, 127, 128, 129, 130, 131, 132, 133, 134, 135, 136, 137, 138, 139, 140, 141, 142, 143, 144, 145, 146, 147, 148, 149, 150] (by decide +kernel) (by decide +kernel)
set_option maxRecDepth 20000 in
theorem gX8_setDeadTime_X2_save : GoodIn wsX8_setDeadTime (wsV RX8 27 RX2 yX2_save wsX2_save) := goodIn_app (goodIn_of _ (by decide +kernel)) ggX8_setDeadTime_X2_save
theorem dX8_setDeadTime_0 : decode cX8_setDeadTime 0 = .ok (.iload_n 1, 1) := by decide +kernel
theorem dX8_setDeadTime_1 : decode cX8_setDeadTime 1 = .ok (.iconst 0, 1) := by decide +kernel
theorem dX8_setDeadTime_2 : decode cX8_setDeadTime 2 = .ok (.bipush 20, 2) := by decide +kernel
theorem dX8_setDeadTime_4 : decode cX8_setDeadTime 4 = .ok (.invokestatic 23, 3) := by decide +kernel
theorem dX8_setDeadTime_7 : decode cX8_setDeadTime 7 = .ok (.aload_n 0, 1) := by decide +kernel
theorem dX8_setDeadTime_8 : decode cX8_setDeadTime 8 = .ok (.getfield 19, 3) := by decide +kernel
theorem dX8_setDeadTime_11 : decode cX8_setDeadTime 11 = .ok (.aload_n 0, 1) := by decide +kernel
theorem dX8_setDeadTime_12 : decode cX8_setDeadTime 12 = .ok (.getfield 10, 3) := by decide +kernel
theorem dX8_setDeadTime_15 : decode cX8_setDeadTime 15 = .ok (.invokevirtual 27, 3) := by decide +kernel
theorem dX8_setDeadTime_18 : decode cX8_setDeadTime 18 = .ok (.aload_n 0, 1) := by decide +kernel
theorem dX8_setDeadTime_19 : decode cX8_setDeadTime 19 = .ok (.getfield 10, 3) := by decide +kernel
theorem dX8_setDeadTime_22 : decode cX8_setDeadTime 22 = .ok (.getfield 31, 3) := by decide +kernel
theorem dX8_setDeadTime_25 : decode cX8_setDeadTime 25 = .ok (.getfield 47, 3) := by decide +kernel
theorem dX8_setDeadTime_28 : decode cX8_setDeadTime 28 = .ok (.istore_n 2, 1) := by decide +kernel
theorem dX8_setDeadTime_29 : decode cX8_setDeadTime 29 = .ok (.aload_n 0, 1) := by decide +kernel
theorem dX8_setDeadTime_30 : decode cX8_setDeadTime 30 = .ok (.getfield 10, 3) := by decide +kernel
theorem dX8_setDeadTime_33 : decode cX8_setDeadTime 33 = .ok (.getfield 31, 3) := by decide +kernel
theorem dX8_setDeadTime_36 : decode cX8_setDeadTime 36 = .ok (.iload_n 1, 1) := by decide +kernel
theorem dX8_setDeadTime_37 : decode cX8_setDeadTime 37 = .ok (.putfield 47, 3) := by decide +kernel
theorem dX8_setDeadTime_40 : decode cX8_setDeadTime 40 = .ok (.iload_n 2, 1) := by decide +kernel
theorem dX8_setDeadTime_41 : decode cX8_setDeadTime 41 = .ok (.ireturn, 1) := by decide +kernel
set_option maxRecDepth 20000 in
theorem ggX8_setStall_X8_requireRange : GoodIn wsX8_setStall wsX8_requireRange := goodIn_ca (goodIn_r _ [9, 10, 11] (by decide +kernel) (by decide +kernel)) (goodIn_sub (fun _ h => List.mem_cons_of_mem _ (List.mem_append_right _ h)) (by decide +kernel))
set_option maxRecDepth 20000 in
theorem gX8_setStall_X8_requireRange : GoodIn wsX8_setStall (va_wsS RX8 23 yX8_requireRange wsX8_requireRange) := goodIn_app (goodIn_of _ (by decide +kernel)) ggX8_setStall_X8_requireRange
set_option maxRecDepth 20000 in
theorem ggX8_setStall_X2_save : GoodIn wsX8_setStall wsX2_save := goodIn_r _ [16, 17, 18, 19, 20, 21, 15, 22, 23, 24, 25, 26, 27, 28, 29, 30, 31, 32, 33, 34, 35, 36, 37, 38, 39, 40, 41, 42, 43, 44, 45, 46, 47, 48, 49, 50, 51, 52, 53, 54, 55, 56, 57, 58, 59, 60, 61, 62, 63, 64, 65, 66, 67, 68, 69, 70, 71, 72, 73, 74, 75, 76, 77, 78, 79, 80, 81, 82, 83, 84, 85, 86, 87, 88, 89, 90, 91, 92, 93, 94, 95, 96, 97, 98, 99, 100, 101, 102, 103, 104, 105, 120, 121, 108, 109, 110, 111, 112, 113, 114, 115, 116, 117, 118, 119, 122, 123, 124, 125, 126, 127, 128, 129, 130, 131, 132, 133, 134, 135, 136, 137, 138, 139, 140, 141, 142, 143, 144, 145, 146, 147, 148, 149, 150, 151] (by decide +kernel) (by decide +kernel)
set_option maxRecDepth 20000 in
theorem gX8_setStall_X2_save : GoodIn wsX8_setStall (wsV RX8 27 RX2 yX2_save wsX2_save) := goodIn_app (goodIn_of _ (by decide +kernel)) ggX8_setStall_X2_save
theorem dX8_setStall_0 : decode cX8_setStall 0 = .ok (.iload_n 1, 1) := by decide +kernel
theorem dX8_setStall_1 : decode cX8_setStall 1 = .ok (.bipush 10, 2) := by decide +kernel
theorem dX8_setStall_3 : decode cX8_setStall 3 = .ok (.ldc 50, 2) := by decide +kernel
theorem dX8_setStall_5 : decode cX8_setStall 5 = .ok (.invokestatic 23, 3) := by decide +kernel
theorem dX8_setStall_8 : decode cX8_setStall 8 = .ok (.aload_n 0, 1) := by decide +kernel
theorem dX8_setStall_9 : decode cX8_setStall 9 = .ok (.getfield 19, 3) := by decide +kernel
theorem dX8_setStall_12 : decode cX8_setStall 12 = .ok (.aload_n 0, 1) := by decide +kernel
theorem dX8_setStall_13 : decode cX8_setStall 13 = .ok (.getfield 10, 3) := by decide +kernel
theorem dX8_setStall_16 : decode cX8_setStall 16 = .ok (.invokevirtual 27, 3) := by decide +kernel
theorem dX8_setStall_19 : decode cX8_setStall 19 = .ok (.aload_n 0, 1) := by decide +kernel
theorem dX8_setStall_20 : decode cX8_setStall 20 = .ok (.getfield 10, 3) := by decide +kernel
theorem dX8_setStall_23 : decode cX8_setStall 23 = .ok (.getfield 31, 3) := by decide +kernel
theorem dX8_setStall_26 : decode cX8_setStall 26 = .ok (.getfield 51, 3) := by decide +kernel
theorem dX8_setStall_29 : decode cX8_setStall 29 = .ok (.istore_n 2, 1) := by decide +kernel
theorem dX8_setStall_30 : decode cX8_setStall 30 = .ok (.aload_n 0, 1) := by decide +kernel
theorem dX8_setStall_31 : decode cX8_setStall 31 = .ok (.getfield 10, 3) := by decide +kernel
theorem dX8_setStall_34 : decode cX8_setStall 34 = .ok (.getfield 31, 3) := by decide +kernel
theorem dX8_setStall_37 : decode cX8_setStall 37 = .ok (.iload_n 1, 1) := by decide +kernel
theorem dX8_setStall_38 : decode cX8_setStall 38 = .ok (.putfield 51, 3) := by decide +kernel
theorem dX8_setStall_41 : decode cX8_setStall 41 = .ok (.iload_n 2, 1) := by decide +kernel
theorem dX8_setStall_42 : decode cX8_setStall 42 = .ok (.ireturn, 1) := by decide +kernel
set_option maxRecDepth 20000 in
theorem ggX8_setMode_X8_requireRange : GoodIn wsX8_setMode wsX8_requireRange := goodIn_ca (goodIn_r _ [11, 12, 13] (by decide +kernel) (by decide +kernel)) (goodIn_sub (fun _ h => List.mem_cons_of_mem _ (List.mem_append_right _ h)) (by decide +kernel))
set_option maxRecDepth 20000 in
theorem gX8_setMode_X8_requireRange : GoodIn wsX8_setMode (va_wsS RX8 23 yX8_requireRange wsX8_requireRange) := goodIn_app (goodIn_of _ (by decide +kernel)) ggX8_setMode_X8_requireRange
set_option maxRecDepth 20000 in
theorem ggX8_setMode_X2_save : GoodIn wsX8_setMode wsX2_save := goodIn_r _ [18, 19, 20, 21, 22, 23, 17, 24, 25, 26, 27, 28, 29, 30, 31, 32, 33, 34, 35, 36, 37, 38, 39, 40, 41, 42, 43, 44, 45, 46, 47, 48, 49, 50, 51, 52, 53, 54, 55, 56, 57, 58, 59, 60, 61, 62, 63, 64, 65, 66, 67, 68, 69, 70, 71, 72, 73, 74, 75, 76, 77, 78, 79, 80, 81, 82, 83, 84, 85, 86, 87, 88, 89, 90, 91, 92, 93, 94, 95, 96, 97, 98, 99, 100, 101, 102, 103, 104, 105, 106, 107, 129, 130, 114, 115, 116, 117, 118, 119, 120, 131, 132, 133, 134, 135, 136, 137, 138, 139, 140, 141, 142, 143, 144, 145, 146, 147, 148, 149, 150, 151, 121, 122, 123, 124, 125, 126, 127, 128, 152, 153, 154, 155, 156, 157] (by decide +kernel) (by decide +kernel)
set_option maxRecDepth 20000 in
theorem gX8_setMode_X2_save : GoodIn wsX8_setMode (wsV RX8 27 RX2 yX2_save wsX2_save) := goodIn_app (goodIn_of _ (by decide +kernel)) ggX8_setMode_X2_save
set_option maxRecDepth 20000 in
theorem ggX8_setMode_X1_enterMode : GoodIn wsX8_setMode wsX1_enterMode := goodIn_r _ [111, 88, 89, 90, 91, 121, 122, 123, 124, 125, 126, 127, 128] (by decide +kernel) (by decide +kernel)
set_option maxRecDepth 20000 in
theorem gX8_setMode_X1_enterMode : GoodIn wsX8_setMode (wsV RX8 73 RX1 yX1_enterMode wsX1_enterMode) := goodIn_app (goodIn_of _ (by decide +kernel)) ggX8_setMode_X1_enterMode
theorem dX8_setMode_0 : decode cX8_setMode 0 = .ok (.iload_n 1, 1) := by decide +kernel
theorem dX8_setMode_1 : decode cX8_setMode 1 = .ok (.iconst 0, 1) := by decide +kernel
theorem dX8_setMode_2 : decode cX8_setMode 2 = .ok (.iconst 4, 1) := by decide +kernel
theorem dX8_setMode_3 : decode cX8_setMode 3 = .ok (.invokestatic 23, 3) := by decide +kernel
theorem dX8_setMode_6 : decode cX8_setMode 6 = .ok (.aload_n 0, 1) := by decide +kernel
theorem dX8_setMode_7 : decode cX8_setMode 7 = .ok (.getfield 10, 3) := by decide +kernel
theorem dX8_setMode_10 : decode cX8_setMode 10 = .ok (.getfield 54, 3) := by decide +kernel
theorem dX8_setMode_13 : decode cX8_setMode 13 = .ok (.getfield 58, 3) := by decide +kernel
theorem dX8_setMode_16 : decode cX8_setMode 16 = .ok (.ifCond .eq 13, 3) := by decide +kernel
theorem dX8_setMode_19 : decode cX8_setMode 19 = .ok (.new 63, 3) := by decide +kernel
theorem dX8_setMode_22 : decode cX8_setMode 22 = .ok (.dup, 1) := by decide +kernel
theorem dX8_setMode_23 : decode cX8_setMode 23 = .ok (.ldc 65, 2) := by decide +kernel
theorem dX8_setMode_25 : decode cX8_setMode 25 = .ok (.invokespecial 67, 3) := by decide +kernel
theorem dX8_setMode_28 : decode cX8_setMode 28 = .ok (.athrow, 1) := by decide +kernel
theorem dX8_setMode_29 : decode cX8_setMode 29 = .ok (.aload_n 0, 1) := by decide +kernel
theorem dX8_setMode_30 : decode cX8_setMode 30 = .ok (.getfield 19, 3) := by decide +kernel
theorem dX8_setMode_33 : decode cX8_setMode 33 = .ok (.aload_n 0, 1) := by decide +kernel
theorem dX8_setMode_34 : decode cX8_setMode 34 = .ok (.getfield 10, 3) := by decide +kernel
theorem dX8_setMode_37 : decode cX8_setMode 37 = .ok (.invokevirtual 27, 3) := by decide +kernel
theorem dX8_setMode_40 : decode cX8_setMode 40 = .ok (.aload_n 0, 1) := by decide +kernel
theorem dX8_setMode_41 : decode cX8_setMode 41 = .ok (.getfield 10, 3) := by decide +kernel
theorem dX8_setMode_44 : decode cX8_setMode 44 = .ok (.getfield 54, 3) := by decide +kernel
theorem dX8_setMode_47 : decode cX8_setMode 47 = .ok (.getfield 70, 3) := by decide +kernel
theorem dX8_setMode_50 : decode cX8_setMode 50 = .ok (.istore_n 2, 1) := by decide +kernel
theorem dX8_setMode_51 : decode cX8_setMode 51 = .ok (.iload_n 1, 1) := by decide +kernel
theorem dX8_setMode_52 : decode cX8_setMode 52 = .ok (.iload_n 2, 1) := by decide +kernel
theorem dX8_setMode_53 : decode cX8_setMode 53 = .ok (.if_icmp .eq 14, 3) := by decide +kernel
theorem dX8_setMode_56 : decode cX8_setMode 56 = .ok (.aload_n 0, 1) := by decide +kernel
theorem dX8_setMode_57 : decode cX8_setMode 57 = .ok (.getfield 10, 3) := by decide +kernel
theorem dX8_setMode_60 : decode cX8_setMode 60 = .ok (.getfield 54, 3) := by decide +kernel
theorem dX8_setMode_63 : decode cX8_setMode 63 = .ok (.iload_n 1, 1) := by decide +kernel
theorem dX8_setMode_64 : decode cX8_setMode 64 = .ok (.invokevirtual 73, 3) := by decide +kernel
theorem dX8_setMode_67 : decode cX8_setMode 67 = .ok (.iload_n 2, 1) := by decide +kernel
theorem dX8_setMode_68 : decode cX8_setMode 68 = .ok (.ireturn, 1) := by decide +kernel
set_option maxRecDepth 20000 in
theorem ggX8_clearFault_X2_save : GoodIn wsX8_clearFault wsX2_save := goodIn_r _ [11, 12, 13, 14, 15, 16, 10, 17, 18, 19, 20, 21, 22, 23, 24, 25, 26, 27, 28, 29, 30, 31, 32, 33, 34, 35, 36, 37, 38, 39, 40, 41, 42, 43, 44, 45, 46, 47, 48, 49, 50, 51, 52, 53, 54, 55, 56, 57, 58, 59, 60, 61, 62, 63, 64, 65, 66, 67, 68, 69, 70, 71, 72, 73, 74, 75, 76, 77, 78, 79, 80, 81, 82, 83, 84, 85, 86, 87, 88, 89, 90, 91, 92, 93, 94, 95, 96, 97, 98, 99, 100, 122, 123, 107, 108, 109, 110, 111, 112, 113, 124, 125, 126, 127, 128, 129, 130, 131, 132, 133, 134, 135, 136, 137, 138, 139, 140, 141, 142, 143, 144, 114, 115, 116, 117, 118, 119, 120, 121, 145, 146, 147, 148, 149, 150] (by decide +kernel) (by decide +kernel)
set_option maxRecDepth 20000 in
theorem gX8_clearFault_X2_save : GoodIn wsX8_clearFault (wsV RX8 27 RX2 yX2_save wsX2_save) := goodIn_app (goodIn_of _ (by decide +kernel)) ggX8_clearFault_X2_save
set_option maxRecDepth 20000 in
theorem ggX8_clearFault_X1_forgetFault : GoodIn wsX8_clearFault wsX1_forgetFault := goodIn_r _ [104, 86, 87, 88, 114, 115, 116, 117, 118, 119, 120, 121] (by decide +kernel) (by decide +kernel)
set_option maxRecDepth 20000 in
theorem gX8_clearFault_X1_forgetFault : GoodIn wsX8_clearFault (wsV RX8 79 RX1 yX1_forgetFault wsX1_forgetFault) := goodIn_app (goodIn_of _ (by decide +kernel)) ggX8_clearFault_X1_forgetFault
theorem dX8_clearFault_0 : decode cX8_clearFault 0 = .ok (.aload_n 0, 1) := by decide +kernel
theorem dX8_clearFault_1 : decode cX8_clearFault 1 = .ok (.getfield 10, 3) := by decide +kernel
theorem dX8_clearFault_4 : decode cX8_clearFault 4 = .ok (.getfield 54, 3) := by decide +kernel
theorem dX8_clearFault_7 : decode cX8_clearFault 7 = .ok (.getfield 58, 3) := by decide +kernel
theorem dX8_clearFault_10 : decode cX8_clearFault 10 = .ok (.ifCond .ne 13, 3) := by decide +kernel
theorem dX8_clearFault_13 : decode cX8_clearFault 13 = .ok (.new 63, 3) := by decide +kernel
theorem dX8_clearFault_16 : decode cX8_clearFault 16 = .ok (.dup, 1) := by decide +kernel
theorem dX8_clearFault_17 : decode cX8_clearFault 17 = .ok (.ldc 77, 2) := by decide +kernel
theorem dX8_clearFault_19 : decode cX8_clearFault 19 = .ok (.invokespecial 67, 3) := by decide +kernel
theorem dX8_clearFault_22 : decode cX8_clearFault 22 = .ok (.athrow, 1) := by decide +kernel
theorem dX8_clearFault_23 : decode cX8_clearFault 23 = .ok (.aload_n 0, 1) := by decide +kernel
theorem dX8_clearFault_24 : decode cX8_clearFault 24 = .ok (.getfield 19, 3) := by decide +kernel
theorem dX8_clearFault_27 : decode cX8_clearFault 27 = .ok (.aload_n 0, 1) := by decide +kernel
theorem dX8_clearFault_28 : decode cX8_clearFault 28 = .ok (.getfield 10, 3) := by decide +kernel
theorem dX8_clearFault_31 : decode cX8_clearFault 31 = .ok (.invokevirtual 27, 3) := by decide +kernel
theorem dX8_clearFault_34 : decode cX8_clearFault 34 = .ok (.aload_n 0, 1) := by decide +kernel
theorem dX8_clearFault_35 : decode cX8_clearFault 35 = .ok (.getfield 10, 3) := by decide +kernel
theorem dX8_clearFault_38 : decode cX8_clearFault 38 = .ok (.getfield 54, 3) := by decide +kernel
theorem dX8_clearFault_41 : decode cX8_clearFault 41 = .ok (.getfield 58, 3) := by decide +kernel
theorem dX8_clearFault_44 : decode cX8_clearFault 44 = .ok (.istore_n 1, 1) := by decide +kernel
theorem dX8_clearFault_45 : decode cX8_clearFault 45 = .ok (.aload_n 0, 1) := by decide +kernel
theorem dX8_clearFault_46 : decode cX8_clearFault 46 = .ok (.getfield 10, 3) := by decide +kernel
theorem dX8_clearFault_49 : decode cX8_clearFault 49 = .ok (.getfield 54, 3) := by decide +kernel
theorem dX8_clearFault_52 : decode cX8_clearFault 52 = .ok (.invokevirtual 79, 3) := by decide +kernel
theorem dX8_clearFault_55 : decode cX8_clearFault 55 = .ok (.iload_n 1, 1) := by decide +kernel
theorem dX8_clearFault_56 : decode cX8_clearFault 56 = .ok (.ireturn, 1) := by decide +kernel
set_option maxRecDepth 20000 in
theorem ggX8_schedule_X8_requireRange : GoodIn wsX8_schedule wsX8_requireRange := goodIn_ca (goodIn_r _ [10, 11, 12] (by decide +kernel) (by decide +kernel)) (goodIn_sub (fun _ h => List.mem_cons_of_mem _ (List.mem_append_left _ (List.mem_append_right _ h))) (by decide +kernel))
set_option maxRecDepth 20000 in
theorem gX8_schedule_X8_requireRange : GoodIn wsX8_schedule (va_wsS RX8 23 yX8_requireRange wsX8_requireRange) := goodIn_app (goodIn_of _ (by decide +kernel)) ggX8_schedule_X8_requireRange
set_option maxRecDepth 20000 in
theorem ggX8_schedule_X8_requireRoom : GoodIn wsX8_schedule wsX8_requireRoom := goodIn_ca (goodIn_r _ [16, 17, 18, 3, 4, 6, 117, 118, 119, 120, 121, 122, 123, 124, 125, 126, 127, 128] (by decide +kernel) (by decide +kernel)) (goodIn_sub (fun _ h => List.mem_cons_of_mem _ (List.mem_append_right _ h)) (by decide +kernel))
set_option maxRecDepth 20000 in
theorem gX8_schedule_X8_requireRoom : GoodIn wsX8_schedule (wsV RX8 82 RX8 yX8_requireRoom wsX8_requireRoom) := goodIn_app (goodIn_of _ (by decide +kernel)) ggX8_schedule_X8_requireRoom
set_option maxRecDepth 20000 in
theorem ggX8_schedule_X2_save : GoodIn wsX8_schedule wsX2_save := goodIn_r _ [23, 24, 25, 26, 27, 28, 22, 29, 30, 31, 32, 33, 34, 35, 36, 37, 38, 39, 40, 41, 42, 43, 44, 45, 46, 47, 48, 49, 50, 51, 52, 53, 54, 55, 56, 57, 58, 59, 60, 61, 62, 63, 64, 65, 66, 67, 68, 69, 70, 71, 72, 73, 74, 75, 76, 77, 78, 79, 80, 81, 82, 83, 84, 85, 86, 87, 88, 89, 90, 91, 92, 93, 94, 95, 96, 97, 98, 99, 100, 101, 102, 103, 104, 105, 106, 107, 108, 109, 110, 111, 112, 129, 130, 119, 120, 121, 122, 123, 124, 125, 131, 132, 133, 134, 135, 126, 127, 128, 136, 137, 138, 139, 140, 141, 142, 143, 144, 145, 146, 147, 148, 149, 150, 151, 152, 153, 154, 155, 156, 157, 158, 159, 160, 161, 162] (by decide +kernel) (by decide +kernel)
set_option maxRecDepth 20000 in
theorem gX8_schedule_X2_save : GoodIn wsX8_schedule (wsV RX8 27 RX2 yX2_save wsX2_save) := goodIn_app (goodIn_of _ (by decide +kernel)) ggX8_schedule_X2_save
set_option maxRecDepth 20000 in
theorem ggX8_schedule_X4_insert : GoodIn wsX8_schedule wsX4_insert := goodIn_r _ [116, 63, 57, 62, 126, 127, 128] (by decide +kernel) (by decide +kernel)
set_option maxRecDepth 20000 in
theorem gX8_schedule_X4_insert : GoodIn wsX8_schedule (wsV RX8 92 RX4 yX4_insert wsX4_insert) := goodIn_app (goodIn_of _ (by decide +kernel)) ggX8_schedule_X4_insert
theorem dX8_schedule_0 : decode cX8_schedule 0 = .ok (.iload_n 1, 1) := by decide +kernel
theorem dX8_schedule_1 : decode cX8_schedule 1 = .ok (.iconst 1, 1) := by decide +kernel
theorem dX8_schedule_2 : decode cX8_schedule 2 = .ok (.ldc 50, 2) := by decide +kernel
theorem dX8_schedule_4 : decode cX8_schedule 4 = .ok (.invokestatic 23, 3) := by decide +kernel
theorem dX8_schedule_7 : decode cX8_schedule 7 = .ok (.iload_n 2, 1) := by decide +kernel
theorem dX8_schedule_8 : decode cX8_schedule 8 = .ok (.iconst 0, 1) := by decide +kernel
theorem dX8_schedule_9 : decode cX8_schedule 9 = .ok (.bipush 7, 2) := by decide +kernel
theorem dX8_schedule_11 : decode cX8_schedule 11 = .ok (.invokestatic 23, 3) := by decide +kernel
theorem dX8_schedule_14 : decode cX8_schedule 14 = .ok (.aload_n 0, 1) := by decide +kernel
theorem dX8_schedule_15 : decode cX8_schedule 15 = .ok (.iconst 1, 1) := by decide +kernel
theorem dX8_schedule_16 : decode cX8_schedule 16 = .ok (.invokevirtual 82, 3) := by decide +kernel
theorem dX8_schedule_19 : decode cX8_schedule 19 = .ok (.aload_n 0, 1) := by decide +kernel
theorem dX8_schedule_20 : decode cX8_schedule 20 = .ok (.getfield 19, 3) := by decide +kernel
theorem dX8_schedule_23 : decode cX8_schedule 23 = .ok (.aload_n 0, 1) := by decide +kernel
theorem dX8_schedule_24 : decode cX8_schedule 24 = .ok (.getfield 10, 3) := by decide +kernel
theorem dX8_schedule_27 : decode cX8_schedule 27 = .ok (.invokevirtual 27, 3) := by decide +kernel
theorem dX8_schedule_30 : decode cX8_schedule 30 = .ok (.aload_n 0, 1) := by decide +kernel
theorem dX8_schedule_31 : decode cX8_schedule 31 = .ok (.getfield 10, 3) := by decide +kernel
theorem dX8_schedule_34 : decode cX8_schedule 34 = .ok (.getfield 85, 3) := by decide +kernel
theorem dX8_schedule_37 : decode cX8_schedule 37 = .ok (.aload_n 0, 1) := by decide +kernel
theorem dX8_schedule_38 : decode cX8_schedule 38 = .ok (.getfield 10, 3) := by decide +kernel
theorem dX8_schedule_41 : decode cX8_schedule 41 = .ok (.getfield 89, 3) := by decide +kernel
theorem dX8_schedule_44 : decode cX8_schedule 44 = .ok (.iload_n 1, 1) := by decide +kernel
theorem dX8_schedule_45 : decode cX8_schedule 45 = .ok (.iadd, 1) := by decide +kernel
theorem dX8_schedule_46 : decode cX8_schedule 46 = .ok (.iload_n 2, 1) := by decide +kernel
theorem dX8_schedule_47 : decode cX8_schedule 47 = .ok (.invokevirtual 92, 3) := by decide +kernel
theorem dX8_schedule_50 : decode cX8_schedule 50 = .ok (.aload_n 0, 1) := by decide +kernel
theorem dX8_schedule_51 : decode cX8_schedule 51 = .ok (.getfield 10, 3) := by decide +kernel
theorem dX8_schedule_54 : decode cX8_schedule 54 = .ok (.getfield 85, 3) := by decide +kernel
theorem dX8_schedule_57 : decode cX8_schedule 57 = .ok (.getfield 98, 3) := by decide +kernel
theorem dX8_schedule_60 : decode cX8_schedule 60 = .ok (.ireturn, 1) := by decide +kernel
set_option maxRecDepth 20000 in
theorem ggX8_spin_X8_requireRange : GoodIn wsX8_spin wsX8_requireRange := goodIn_ca (goodIn_r _ [15, 1, 2] (by decide +kernel) (by decide +kernel)) (goodIn_sub (fun _ h => List.mem_cons_of_mem _ (List.mem_append_left _ (List.mem_append_right _ h))) (by decide +kernel))
set_option maxRecDepth 20000 in
theorem gX8_spin_X8_requireRange : GoodIn wsX8_spin (va_wsS RX8 23 yX8_requireRange wsX8_requireRange) := goodIn_app (goodIn_of _ (by decide +kernel)) ggX8_spin_X8_requireRange
set_option maxRecDepth 20000 in
theorem ggX8_spin_X8_requireRoom : GoodIn wsX8_spin wsX8_requireRoom := goodIn_ca (goodIn_r _ [19, 3, 4, 5, 6, 11, 137, 138, 139, 140, 141, 142, 143, 144, 145, 151, 152, 153] (by decide +kernel) (by decide +kernel)) (goodIn_sub (fun _ h => List.mem_cons_of_mem _ (List.mem_append_right _ h)) (by decide +kernel))
set_option maxRecDepth 20000 in
theorem gX8_spin_X8_requireRoom : GoodIn wsX8_spin (wsV RX8 82 RX8 yX8_requireRoom wsX8_requireRoom) := goodIn_app (goodIn_of _ (by decide +kernel)) ggX8_spin_X8_requireRoom
set_option maxRecDepth 20000 in
theorem ggX8_spin_X4_lastCode : GoodIn wsX8_spin wsX4_lastCode := goodIn_r _ [24, 25, 26, 151, 152, 153] (by decide +kernel) (by decide +kernel)
set_option maxRecDepth 20000 in
theorem gX8_spin_X4_lastCode : GoodIn wsX8_spin (wsV RX8 115 RX4 yX4_lastCode wsX4_lastCode) := goodIn_app (goodIn_of _ (by decide +kernel)) ggX8_spin_X4_lastCode
set_option maxRecDepth 20000 in
theorem ggX8_spin_X8_sectorOf : GoodIn wsX8_spin wsX8_sectorOf := goodIn_r _ [29, 30, 31, 32, 14, 33] (by decide +kernel) (by decide +kernel)
set_option maxRecDepth 20000 in
theorem gX8_spin_X8_sectorOf : GoodIn wsX8_spin (va_wsS RX8 119 yX8_sectorOf wsX8_sectorOf) := goodIn_app (goodIn_of _ (by decide +kernel)) ggX8_spin_X8_sectorOf
set_option maxRecDepth 20000 in
theorem ggX8_spin_X2_save : GoodIn wsX8_spin wsX2_save := goodIn_r _ [38, 39, 40, 41, 42, 43, 37, 44, 45, 46, 47, 48, 49, 50, 51, 52, 53, 54, 55, 56, 57, 58, 59, 60, 61, 62, 63, 64, 65, 66, 67, 68, 69, 23, 70, 71, 72, 73, 74, 75, 26, 25, 76, 77, 78, 79, 80, 81, 82, 83, 84, 85, 86, 87, 88, 89, 90, 91, 92, 93, 94, 95, 96, 97, 98, 99, 100, 101, 102, 103, 104, 105, 106, 107, 108, 109, 110, 111, 112, 113, 114, 115, 116, 117, 118, 119, 120, 121, 122, 123, 124, 154, 155, 139, 140, 141, 142, 143, 144, 145, 156, 157, 158, 159, 160, 151, 152, 153, 146, 147, 148, 149, 150, 161, 162, 163, 164, 165, 166, 167, 168, 169, 170, 171, 172, 173, 174, 175, 176, 177, 178, 179, 180, 181, 182] (by decide +kernel) (by decide +kernel)
set_option maxRecDepth 20000 in
theorem gX8_spin_X2_save : GoodIn wsX8_spin (wsV RX8 27 RX2 yX2_save wsX2_save) := goodIn_app (goodIn_of _ (by decide +kernel)) ggX8_spin_X2_save
set_option maxRecDepth 20000 in
theorem ggX8_spin_X4_lastTick : GoodIn wsX8_spin wsX4_lastTick := goodIn_r _ [128, 25, 71, 151, 152, 153] (by decide +kernel) (by decide +kernel)
set_option maxRecDepth 20000 in
theorem gX8_spin_X4_lastTick : GoodIn wsX8_spin (wsV RX8 124 RX4 yX4_lastTick wsX4_lastTick) := goodIn_app (goodIn_of _ (by decide +kernel)) ggX8_spin_X4_lastTick
set_option maxRecDepth 20000 in
theorem ggX8_spin_X8_codeOf : GoodIn wsX8_spin wsX8_codeOf := goodIn_r _ [131, 132, 31, 32, 14, 33] (by decide +kernel) (by decide +kernel)
set_option maxRecDepth 20000 in
theorem gX8_spin_X8_codeOf : GoodIn wsX8_spin (va_wsS RX8 127 yX8_codeOf wsX8_codeOf) := goodIn_app (goodIn_of _ (by decide +kernel)) ggX8_spin_X8_codeOf
set_option maxRecDepth 20000 in
theorem ggX8_spin_X4_insert : GoodIn wsX8_spin wsX4_insert := goodIn_r _ [136, 25, 71, 26, 151, 152, 153] (by decide +kernel) (by decide +kernel)
set_option maxRecDepth 20000 in
theorem gX8_spin_X4_insert : GoodIn wsX8_spin (wsV RX8 92 RX4 yX4_insert wsX4_insert) := goodIn_app (goodIn_of _ (by decide +kernel)) ggX8_spin_X4_insert
theorem dX8_spin_0 : decode cX8_spin 0 = .ok (.iload_n 1, 1) := by decide +kernel
theorem dX8_spin_1 : decode cX8_spin 1 = .ok (.iconst 1, 1) := by decide +kernel
theorem dX8_spin_2 : decode cX8_spin 2 = .ok (.if_icmp .eq 18, 3) := by decide +kernel
theorem dX8_spin_5 : decode cX8_spin 5 = .ok (.iload_n 1, 1) := by decide +kernel
theorem dX8_spin_6 : decode cX8_spin 6 = .ok (.iconst (-1), 1) := by decide +kernel
theorem dX8_spin_7 : decode cX8_spin 7 = .ok (.if_icmp .eq 13, 3) := by decide +kernel
theorem dX8_spin_10 : decode cX8_spin 10 = .ok (.new 101, 3) := by decide +kernel
theorem dX8_spin_13 : decode cX8_spin 13 = .ok (.dup, 1) := by decide +kernel
theorem dX8_spin_14 : decode cX8_spin 14 = .ok (.ldc 103, 2) := by decide +kernel
theorem dX8_spin_16 : decode cX8_spin 16 = .ok (.invokespecial 105, 3) := by decide +kernel
theorem dX8_spin_19 : decode cX8_spin 19 = .ok (.athrow, 1) := by decide +kernel
theorem dX8_spin_20 : decode cX8_spin 20 = .ok (.iload_n 2, 1) := by decide +kernel
theorem dX8_spin_21 : decode cX8_spin 21 = .ok (.iconst 1, 1) := by decide +kernel
theorem dX8_spin_22 : decode cX8_spin 22 = .ok (.sipush 1000, 3) := by decide +kernel
theorem dX8_spin_25 : decode cX8_spin 25 = .ok (.invokestatic 23, 3) := by decide +kernel
theorem dX8_spin_28 : decode cX8_spin 28 = .ok (.iload_n 3, 1) := by decide +kernel
theorem dX8_spin_29 : decode cX8_spin 29 = .ok (.iconst 1, 1) := by decide +kernel
theorem dX8_spin_30 : decode cX8_spin 30 = .ok (.bipush 40, 2) := by decide +kernel
theorem dX8_spin_32 : decode cX8_spin 32 = .ok (.invokestatic 23, 3) := by decide +kernel
theorem dX8_spin_35 : decode cX8_spin 35 = .ok (.aload_n 0, 1) := by decide +kernel
theorem dX8_spin_36 : decode cX8_spin 36 = .ok (.iload_n 3, 1) := by decide +kernel
theorem dX8_spin_37 : decode cX8_spin 37 = .ok (.invokevirtual 82, 3) := by decide +kernel
theorem dX8_spin_40 : decode cX8_spin 40 = .ok (.aload_n 0, 1) := by decide +kernel
theorem dX8_spin_41 : decode cX8_spin 41 = .ok (.getfield 10, 3) := by decide +kernel
theorem dX8_spin_44 : decode cX8_spin 44 = .ok (.getfield 85, 3) := by decide +kernel
theorem dX8_spin_47 : decode cX8_spin 47 = .ok (.aload_n 0, 1) := by decide +kernel
theorem dX8_spin_48 : decode cX8_spin 48 = .ok (.getfield 10, 3) := by decide +kernel
theorem dX8_spin_51 : decode cX8_spin 51 = .ok (.getfield 106, 3) := by decide +kernel
theorem dX8_spin_54 : decode cX8_spin 54 = .ok (.getfield 110, 3) := by decide +kernel
theorem dX8_spin_57 : decode cX8_spin 57 = .ok (.invokevirtual 115, 3) := by decide +kernel
theorem dX8_spin_60 : decode cX8_spin 60 = .ok (.invokestatic 119, 3) := by decide +kernel
theorem dX8_spin_63 : decode cX8_spin 63 = .ok (.istore 4, 2) := by decide +kernel
theorem dX8_spin_65 : decode cX8_spin 65 = .ok (.iload 4, 2) := by decide +kernel
theorem dX8_spin_67 : decode cX8_spin 67 = .ok (.iconst (-1), 1) := by decide +kernel
theorem dX8_spin_68 : decode cX8_spin 68 = .ok (.if_icmp .ne 13, 3) := by decide +kernel
theorem dX8_spin_71 : decode cX8_spin 71 = .ok (.new 63, 3) := by decide +kernel
theorem dX8_spin_74 : decode cX8_spin 74 = .ok (.dup, 1) := by decide +kernel
theorem dX8_spin_75 : decode cX8_spin 75 = .ok (.ldc 122, 2) := by decide +kernel
theorem dX8_spin_77 : decode cX8_spin 77 = .ok (.invokespecial 67, 3) := by decide +kernel
theorem dX8_spin_80 : decode cX8_spin 80 = .ok (.athrow, 1) := by decide +kernel
theorem dX8_spin_81 : decode cX8_spin 81 = .ok (.aload_n 0, 1) := by decide +kernel
theorem dX8_spin_82 : decode cX8_spin 82 = .ok (.getfield 19, 3) := by decide +kernel
theorem dX8_spin_85 : decode cX8_spin 85 = .ok (.aload_n 0, 1) := by decide +kernel
theorem dX8_spin_86 : decode cX8_spin 86 = .ok (.getfield 10, 3) := by decide +kernel
theorem dX8_spin_89 : decode cX8_spin 89 = .ok (.invokevirtual 27, 3) := by decide +kernel
theorem dX8_spin_92 : decode cX8_spin 92 = .ok (.aload_n 0, 1) := by decide +kernel
theorem dX8_spin_93 : decode cX8_spin 93 = .ok (.getfield 10, 3) := by decide +kernel
theorem dX8_spin_96 : decode cX8_spin 96 = .ok (.getfield 85, 3) := by decide +kernel
theorem dX8_spin_99 : decode cX8_spin 99 = .ok (.aload_n 0, 1) := by decide +kernel
theorem dX8_spin_100 : decode cX8_spin 100 = .ok (.getfield 10, 3) := by decide +kernel
theorem dX8_spin_103 : decode cX8_spin 103 = .ok (.getfield 89, 3) := by decide +kernel
theorem dX8_spin_106 : decode cX8_spin 106 = .ok (.invokevirtual 124, 3) := by decide +kernel
theorem dX8_spin_109 : decode cX8_spin 109 = .ok (.istore 5, 2) := by decide +kernel
theorem dX8_spin_111 : decode cX8_spin 111 = .ok (.iconst 0, 1) := by decide +kernel
theorem dX8_spin_112 : decode cX8_spin 112 = .ok (.istore 6, 2) := by decide +kernel
theorem dX8_spin_114 : decode cX8_spin 114 = .ok (.iload 6, 2) := by decide +kernel
theorem dX8_spin_116 : decode cX8_spin 116 = .ok (.iload_n 3, 1) := by decide +kernel
theorem dX8_spin_117 : decode cX8_spin 117 = .ok (.if_icmp .ge 44, 3) := by decide +kernel
theorem dX8_spin_120 : decode cX8_spin 120 = .ok (.iload 4, 2) := by decide +kernel
theorem dX8_spin_122 : decode cX8_spin 122 = .ok (.iload_n 1, 1) := by decide +kernel
theorem dX8_spin_123 : decode cX8_spin 123 = .ok (.iadd, 1) := by decide +kernel
theorem dX8_spin_124 : decode cX8_spin 124 = .ok (.bipush 6, 2) := by decide +kernel
theorem dX8_spin_126 : decode cX8_spin 126 = .ok (.iadd, 1) := by decide +kernel
theorem dX8_spin_127 : decode cX8_spin 127 = .ok (.bipush 6, 2) := by decide +kernel
theorem dX8_spin_129 : decode cX8_spin 129 = .ok (.irem, 1) := by decide +kernel
theorem dX8_spin_130 : decode cX8_spin 130 = .ok (.istore 4, 2) := by decide +kernel
theorem dX8_spin_132 : decode cX8_spin 132 = .ok (.iload 5, 2) := by decide +kernel
theorem dX8_spin_134 : decode cX8_spin 134 = .ok (.iload_n 2, 1) := by decide +kernel
theorem dX8_spin_135 : decode cX8_spin 135 = .ok (.iadd, 1) := by decide +kernel
theorem dX8_spin_136 : decode cX8_spin 136 = .ok (.istore 5, 2) := by decide +kernel
theorem dX8_spin_138 : decode cX8_spin 138 = .ok (.aload_n 0, 1) := by decide +kernel
theorem dX8_spin_139 : decode cX8_spin 139 = .ok (.getfield 10, 3) := by decide +kernel
theorem dX8_spin_142 : decode cX8_spin 142 = .ok (.getfield 85, 3) := by decide +kernel
theorem dX8_spin_145 : decode cX8_spin 145 = .ok (.iload 5, 2) := by decide +kernel
theorem dX8_spin_147 : decode cX8_spin 147 = .ok (.iload 4, 2) := by decide +kernel
theorem dX8_spin_149 : decode cX8_spin 149 = .ok (.invokestatic 127, 3) := by decide +kernel
theorem dX8_spin_152 : decode cX8_spin 152 = .ok (.invokevirtual 92, 3) := by decide +kernel
theorem dX8_spin_155 : decode cX8_spin 155 = .ok (.iinc 6 1, 3) := by decide +kernel
theorem dX8_spin_158 : decode cX8_spin 158 = .ok (.goto (-44), 3) := by decide +kernel
theorem dX8_spin_161 : decode cX8_spin 161 = .ok (.aload_n 0, 1) := by decide +kernel
theorem dX8_spin_162 : decode cX8_spin 162 = .ok (.getfield 10, 3) := by decide +kernel
theorem dX8_spin_165 : decode cX8_spin 165 = .ok (.getfield 85, 3) := by decide +kernel
theorem dX8_spin_168 : decode cX8_spin 168 = .ok (.getfield 98, 3) := by decide +kernel
theorem dX8_spin_171 : decode cX8_spin 171 = .ok (.ireturn, 1) := by decide +kernel
set_option maxRecDepth 20000 in
theorem ggX8_run_X8_requireRange : GoodIn wsX8_run wsX8_requireRange := goodIn_ca (goodIn_r _ [7, 8, 9] (by decide +kernel) (by decide +kernel)) (goodIn_sub (fun _ h => List.mem_cons_of_mem _ (List.mem_append_right _ h)) (by decide +kernel))
set_option maxRecDepth 20000 in
theorem gX8_run_X8_requireRange : GoodIn wsX8_run (va_wsS RX8 23 yX8_requireRange wsX8_requireRange) := goodIn_app (goodIn_of _ (by decide +kernel)) ggX8_run_X8_requireRange
set_option maxRecDepth 20000 in
theorem ggX8_run_X2_save : GoodIn wsX8_run wsX2_save := goodIn_r _ [14, 15, 16, 17, 18, 19, 13, 20, 21, 22, 23, 24, 25, 26, 27, 28, 29, 30, 31, 32, 33, 34, 35, 36, 37, 38, 39, 40, 41, 42, 43, 44, 45, 46, 47, 48, 49, 50, 51, 52, 53, 54, 55, 56, 57, 58, 59, 60, 61, 62, 63, 64, 65, 66, 67, 68, 69, 70, 71, 72, 73, 74, 75, 76, 77, 78, 79, 80, 81, 82, 83, 84, 85, 86, 87, 88, 89, 90, 91, 92, 93, 94, 95, 96, 97, 98, 99, 100, 101, 102, 103, 225, 226, 218, 219, 220, 221, 222, 223, 224, 227, 228, 229, 230, 231, 232, 233, 234, 235, 236, 237, 238, 239, 240, 241, 242, 243, 244, 245, 246, 247, 248, 249, 250, 251, 252, 253, 254, 255, 256, 257, 258, 259, 260, 261] (by decide +kernel) (by decide +kernel)
set_option maxRecDepth 20000 in
theorem gX8_run_X2_save : GoodIn wsX8_run (wsV RX8 27 RX2 yX2_save wsX2_save) := goodIn_app (goodIn_of _ (by decide +kernel)) ggX8_run_X2_save
set_option maxRecDepth 20000 in
theorem ggX8_run_X7_passTick : GoodIn wsX8_run wsX7_passTick := goodIn_r _ [107, 26, 29, 28, 108, 27, 109, 32, 110, 31, 111, 112, 113, 114, 115, 46, 116, 54, 48, 53, 117, 118, 119, 58, 120, 60, 61, 64, 63, 121, 122, 123, 24, 124, 125, 30, 126, 6, 127, 128, 129, 130, 131, 132, 133, 134, 68, 135, 71, 136, 137, 138, 139, 76, 78, 140, 141, 142, 143, 72, 144, 145, 146, 147, 73, 70, 77, 148, 149, 150, 151, 74, 152, 153, 154, 82, 155, 84, 85, 156, 157, 158, 159, 160, 161, 162, 163, 88, 89, 90, 91, 164, 165, 166, 167, 86, 87, 168, 169, 170, 171, 172, 173, 174, 175, 176, 177, 178, 179, 180, 181, 182, 183, 184, 185, 186, 187, 188, 189, 95, 190, 97, 191, 192, 193, 194, 195, 196, 197, 198, 199, 200, 201, 202, 203, 204, 205, 206, 207, 208, 209, 210, 211, 103, 102, 212, 213, 214, 215, 98, 100, 101, 218, 219, 220, 221, 222, 223, 224, 235, 236, 237, 238, 239, 227, 228, 229, 230, 231, 248, 249, 250, 251, 252, 253, 254, 255, 232, 233, 234, 240, 241, 242, 243, 244, 245, 246, 247, 256, 257, 258, 259, 260, 261] (by decide +kernel) (by decide +kernel)
set_option maxRecDepth 20000 in
theorem gX8_run_X7_passTick : GoodIn wsX8_run (wsV RX8 130 RX7 yX7_passTick wsX7_passTick) := goodIn_app (goodIn_of _ (by decide +kernel)) ggX8_run_X7_passTick
theorem dX8_run_0 : decode cX8_run 0 = .ok (.iload_n 1, 1) := by decide +kernel
theorem dX8_run_1 : decode cX8_run 1 = .ok (.iconst 0, 1) := by decide +kernel
theorem dX8_run_2 : decode cX8_run 2 = .ok (.sipush 5000, 3) := by decide +kernel
theorem dX8_run_5 : decode cX8_run 5 = .ok (.invokestatic 23, 3) := by decide +kernel
theorem dX8_run_8 : decode cX8_run 8 = .ok (.aload_n 0, 1) := by decide +kernel
theorem dX8_run_9 : decode cX8_run 9 = .ok (.getfield 19, 3) := by decide +kernel
theorem dX8_run_12 : decode cX8_run 12 = .ok (.aload_n 0, 1) := by decide +kernel
theorem dX8_run_13 : decode cX8_run 13 = .ok (.getfield 10, 3) := by decide +kernel
theorem dX8_run_16 : decode cX8_run 16 = .ok (.invokevirtual 27, 3) := by decide +kernel
theorem dX8_run_19 : decode cX8_run 19 = .ok (.iconst 0, 1) := by decide +kernel
theorem dX8_run_20 : decode cX8_run 20 = .ok (.istore_n 2, 1) := by decide +kernel
theorem dX8_run_21 : decode cX8_run 21 = .ok (.iload_n 2, 1) := by decide +kernel
theorem dX8_run_22 : decode cX8_run 22 = .ok (.iload_n 1, 1) := by decide +kernel
theorem dX8_run_23 : decode cX8_run 23 = .ok (.if_icmp .ge 16, 3) := by decide +kernel
theorem dX8_run_26 : decode cX8_run 26 = .ok (.aload_n 0, 1) := by decide +kernel
theorem dX8_run_27 : decode cX8_run 27 = .ok (.getfield 10, 3) := by decide +kernel
theorem dX8_run_30 : decode cX8_run 30 = .ok (.invokevirtual 130, 3) := by decide +kernel
theorem dX8_run_33 : decode cX8_run 33 = .ok (.iinc 2 1, 3) := by decide +kernel
theorem dX8_run_36 : decode cX8_run 36 = .ok (.goto (-15), 3) := by decide +kernel
theorem dX8_run_39 : decode cX8_run 39 = .ok (.aload_n 0, 1) := by decide +kernel
theorem dX8_run_40 : decode cX8_run 40 = .ok (.getfield 10, 3) := by decide +kernel
theorem dX8_run_43 : decode cX8_run 43 = .ok (.getfield 89, 3) := by decide +kernel
theorem dX8_run_46 : decode cX8_run 46 = .ok (.ireturn, 1) := by decide +kernel
set_option maxRecDepth 20000 in
theorem ggX8_sensors_X8_requireRange : GoodIn wsX8_sensors wsX8_requireRange := goodIn_ca (goodIn_r _ [10, 11, 12] (by decide +kernel) (by decide +kernel)) (goodIn_sub (fun _ h => List.mem_cons_of_mem _ (List.mem_append_right _ h)) (by decide +kernel))
set_option maxRecDepth 20000 in
theorem gX8_sensors_X8_requireRange : GoodIn wsX8_sensors (va_wsS RX8 23 yX8_requireRange wsX8_requireRange) := goodIn_app (goodIn_of _ (by decide +kernel)) ggX8_sensors_X8_requireRange
theorem dX8_sensors_0 : decode cX8_sensors 0 = .ok (.iload_n 1, 1) := by decide +kernel
theorem dX8_sensors_1 : decode cX8_sensors 1 = .ok (.iconst 0, 1) := by decide +kernel
theorem dX8_sensors_2 : decode cX8_sensors 2 = .ok (.iconst 3, 1) := by decide +kernel
theorem dX8_sensors_3 : decode cX8_sensors 3 = .ok (.invokestatic 23, 3) := by decide +kernel
theorem dX8_sensors_6 : decode cX8_sensors 6 = .ok (.iload_n 1, 1) := by decide +kernel
theorem dX8_sensors_7 : decode cX8_sensors 7 = .ok (.tableswitch 58 0 2 #[25, 36, 47], 25) := by decide +kernel
theorem dX8_sensors_32 : decode cX8_sensors 32 = .ok (.aload_n 0, 1) := by decide +kernel
theorem dX8_sensors_33 : decode cX8_sensors 33 = .ok (.getfield 10, 3) := by decide +kernel
theorem dX8_sensors_36 : decode cX8_sensors 36 = .ok (.getfield 106, 3) := by decide +kernel
theorem dX8_sensors_39 : decode cX8_sensors 39 = .ok (.getfield 110, 3) := by decide +kernel
theorem dX8_sensors_42 : decode cX8_sensors 42 = .ok (.ireturn, 1) := by decide +kernel
theorem dX8_sensors_43 : decode cX8_sensors 43 = .ok (.aload_n 0, 1) := by decide +kernel
theorem dX8_sensors_44 : decode cX8_sensors 44 = .ok (.getfield 10, 3) := by decide +kernel
theorem dX8_sensors_47 : decode cX8_sensors 47 = .ok (.getfield 106, 3) := by decide +kernel
theorem dX8_sensors_50 : decode cX8_sensors 50 = .ok (.getfield 133, 3) := by decide +kernel
theorem dX8_sensors_53 : decode cX8_sensors 53 = .ok (.ireturn, 1) := by decide +kernel
theorem dX8_sensors_54 : decode cX8_sensors 54 = .ok (.aload_n 0, 1) := by decide +kernel
theorem dX8_sensors_55 : decode cX8_sensors 55 = .ok (.getfield 10, 3) := by decide +kernel
theorem dX8_sensors_58 : decode cX8_sensors 58 = .ok (.getfield 106, 3) := by decide +kernel
theorem dX8_sensors_61 : decode cX8_sensors 61 = .ok (.getfield 136, 3) := by decide +kernel
theorem dX8_sensors_64 : decode cX8_sensors 64 = .ok (.ireturn, 1) := by decide +kernel
theorem dX8_sensors_65 : decode cX8_sensors 65 = .ok (.aload_n 0, 1) := by decide +kernel
theorem dX8_sensors_66 : decode cX8_sensors 66 = .ok (.getfield 10, 3) := by decide +kernel
theorem dX8_sensors_69 : decode cX8_sensors 69 = .ok (.getfield 106, 3) := by decide +kernel
theorem dX8_sensors_72 : decode cX8_sensors 72 = .ok (.getfield 139, 3) := by decide +kernel
theorem dX8_sensors_75 : decode cX8_sensors 75 = .ok (.ireturn, 1) := by decide +kernel
theorem dX8_mode_0 : decode cX8_mode 0 = .ok (.aload_n 0, 1) := by decide +kernel
theorem dX8_mode_1 : decode cX8_mode 1 = .ok (.getfield 10, 3) := by decide +kernel
theorem dX8_mode_4 : decode cX8_mode 4 = .ok (.getfield 54, 3) := by decide +kernel
theorem dX8_mode_7 : decode cX8_mode 7 = .ok (.getfield 70, 3) := by decide +kernel
theorem dX8_mode_10 : decode cX8_mode 10 = .ok (.ireturn, 1) := by decide +kernel
set_option maxRecDepth 20000 in
theorem ggX8_leg_X8_requireLeg : GoodIn wsX8_leg wsX8_requireLeg := goodIn_ca (goodIn_r _ [7, 8, 9] (by decide +kernel) (by decide +kernel)) (goodIn_sub (fun _ h => List.mem_cons_of_mem _ (List.mem_append_right _ h)) (by decide +kernel))
set_option maxRecDepth 20000 in
theorem gX8_leg_X8_requireLeg : GoodIn wsX8_leg (va_wsS RX8 142 yX8_requireLeg wsX8_requireLeg) := goodIn_app (goodIn_of _ (by decide +kernel)) ggX8_leg_X8_requireLeg
theorem dX8_leg_0 : decode cX8_leg 0 = .ok (.iload_n 1, 1) := by decide +kernel
theorem dX8_leg_1 : decode cX8_leg 1 = .ok (.invokestatic 142, 3) := by decide +kernel
theorem dX8_leg_4 : decode cX8_leg 4 = .ok (.aload_n 0, 1) := by decide +kernel
theorem dX8_leg_5 : decode cX8_leg 5 = .ok (.getfield 10, 3) := by decide +kernel
theorem dX8_leg_8 : decode cX8_leg 8 = .ok (.getfield 145, 3) := by decide +kernel
theorem dX8_leg_11 : decode cX8_leg 11 = .ok (.getfield 149, 3) := by decide +kernel
theorem dX8_leg_14 : decode cX8_leg 14 = .ok (.iload_n 1, 1) := by decide +kernel
theorem dX8_leg_15 : decode cX8_leg 15 = .ok (.iaload, 1) := by decide +kernel
theorem dX8_leg_16 : decode cX8_leg 16 = .ok (.ireturn, 1) := by decide +kernel
set_option maxRecDepth 20000 in
theorem ggX8_onTicks_X8_requireLeg : GoodIn wsX8_onTicks wsX8_requireLeg := goodIn_ca (goodIn_r _ [8, 9, 10] (by decide +kernel) (by decide +kernel)) (goodIn_sub (fun _ h => List.mem_cons_of_mem _ (List.mem_append_right _ h)) (by decide +kernel))
set_option maxRecDepth 20000 in
theorem gX8_onTicks_X8_requireLeg : GoodIn wsX8_onTicks (va_wsS RX8 142 yX8_requireLeg wsX8_requireLeg) := goodIn_app (goodIn_of _ (by decide +kernel)) ggX8_onTicks_X8_requireLeg
theorem dX8_onTicks_0 : decode cX8_onTicks 0 = .ok (.iload_n 1, 1) := by decide +kernel
theorem dX8_onTicks_1 : decode cX8_onTicks 1 = .ok (.invokestatic 142, 3) := by decide +kernel
theorem dX8_onTicks_4 : decode cX8_onTicks 4 = .ok (.iload_n 2, 1) := by decide +kernel
theorem dX8_onTicks_5 : decode cX8_onTicks 5 = .ok (.ifCond .eq 18, 3) := by decide +kernel
theorem dX8_onTicks_8 : decode cX8_onTicks 8 = .ok (.aload_n 0, 1) := by decide +kernel
theorem dX8_onTicks_9 : decode cX8_onTicks 9 = .ok (.getfield 10, 3) := by decide +kernel
theorem dX8_onTicks_12 : decode cX8_onTicks 12 = .ok (.getfield 145, 3) := by decide +kernel
theorem dX8_onTicks_15 : decode cX8_onTicks 15 = .ok (.getfield 155, 3) := by decide +kernel
theorem dX8_onTicks_18 : decode cX8_onTicks 18 = .ok (.iload_n 1, 1) := by decide +kernel
theorem dX8_onTicks_19 : decode cX8_onTicks 19 = .ok (.iaload, 1) := by decide +kernel
theorem dX8_onTicks_20 : decode cX8_onTicks 20 = .ok (.goto 15, 3) := by decide +kernel
theorem dX8_onTicks_23 : decode cX8_onTicks 23 = .ok (.aload_n 0, 1) := by decide +kernel
theorem dX8_onTicks_24 : decode cX8_onTicks 24 = .ok (.getfield 10, 3) := by decide +kernel
theorem dX8_onTicks_27 : decode cX8_onTicks 27 = .ok (.getfield 145, 3) := by decide +kernel
theorem dX8_onTicks_30 : decode cX8_onTicks 30 = .ok (.getfield 158, 3) := by decide +kernel
theorem dX8_onTicks_33 : decode cX8_onTicks 33 = .ok (.iload_n 1, 1) := by decide +kernel
theorem dX8_onTicks_34 : decode cX8_onTicks 34 = .ok (.iaload, 1) := by decide +kernel
theorem dX8_onTicks_35 : decode cX8_onTicks 35 = .ok (.ireturn, 1) := by decide +kernel
theorem dX8_position_0 : decode cX8_position 0 = .ok (.aload_n 0, 1) := by decide +kernel
theorem dX8_position_1 : decode cX8_position 1 = .ok (.getfield 10, 3) := by decide +kernel
theorem dX8_position_4 : decode cX8_position 4 = .ok (.getfield 161, 3) := by decide +kernel
theorem dX8_position_7 : decode cX8_position 7 = .ok (.getfield 165, 3) := by decide +kernel
theorem dX8_position_10 : decode cX8_position 10 = .ok (.ireturn, 1) := by decide +kernel
set_option maxRecDepth 20000 in
theorem ggX8_counts_X8_requireRange : GoodIn wsX8_counts wsX8_requireRange := goodIn_ca (goodIn_r _ [11, 12, 13] (by decide +kernel) (by decide +kernel)) (goodIn_sub (fun _ h => List.mem_cons_of_mem _ (List.mem_append_right _ h)) (by decide +kernel))
set_option maxRecDepth 20000 in
theorem gX8_counts_X8_requireRange : GoodIn wsX8_counts (va_wsS RX8 23 yX8_requireRange wsX8_requireRange) := goodIn_app (goodIn_of _ (by decide +kernel)) ggX8_counts_X8_requireRange
theorem dX8_counts_0 : decode cX8_counts 0 = .ok (.iload_n 1, 1) := by decide +kernel
theorem dX8_counts_1 : decode cX8_counts 1 = .ok (.iconst 0, 1) := by decide +kernel
theorem dX8_counts_2 : decode cX8_counts 2 = .ok (.iconst 3, 1) := by decide +kernel
theorem dX8_counts_3 : decode cX8_counts 3 = .ok (.invokestatic 23, 3) := by decide +kernel
theorem dX8_counts_6 : decode cX8_counts 6 = .ok (.iload_n 1, 1) := by decide +kernel
theorem dX8_counts_7 : decode cX8_counts 7 = .ok (.tableswitch 58 0 2 #[25, 36, 47], 25) := by decide +kernel
theorem dX8_counts_32 : decode cX8_counts 32 = .ok (.aload_n 0, 1) := by decide +kernel
theorem dX8_counts_33 : decode cX8_counts 33 = .ok (.getfield 10, 3) := by decide +kernel
theorem dX8_counts_36 : decode cX8_counts 36 = .ok (.getfield 161, 3) := by decide +kernel
theorem dX8_counts_39 : decode cX8_counts 39 = .ok (.getfield 170, 3) := by decide +kernel
theorem dX8_counts_42 : decode cX8_counts 42 = .ok (.ireturn, 1) := by decide +kernel
theorem dX8_counts_43 : decode cX8_counts 43 = .ok (.aload_n 0, 1) := by decide +kernel
theorem dX8_counts_44 : decode cX8_counts 44 = .ok (.getfield 10, 3) := by decide +kernel
theorem dX8_counts_47 : decode cX8_counts 47 = .ok (.getfield 161, 3) := by decide +kernel
theorem dX8_counts_50 : decode cX8_counts 50 = .ok (.getfield 173, 3) := by decide +kernel
theorem dX8_counts_53 : decode cX8_counts 53 = .ok (.ireturn, 1) := by decide +kernel
theorem dX8_counts_54 : decode cX8_counts 54 = .ok (.aload_n 0, 1) := by decide +kernel
theorem dX8_counts_55 : decode cX8_counts 55 = .ok (.getfield 10, 3) := by decide +kernel
theorem dX8_counts_58 : decode cX8_counts 58 = .ok (.getfield 161, 3) := by decide +kernel
theorem dX8_counts_61 : decode cX8_counts 61 = .ok (.getfield 176, 3) := by decide +kernel
theorem dX8_counts_64 : decode cX8_counts 64 = .ok (.ireturn, 1) := by decide +kernel
theorem dX8_counts_65 : decode cX8_counts 65 = .ok (.aload_n 0, 1) := by decide +kernel
theorem dX8_counts_66 : decode cX8_counts 66 = .ok (.getfield 10, 3) := by decide +kernel
theorem dX8_counts_69 : decode cX8_counts 69 = .ok (.getfield 54, 3) := by decide +kernel
theorem dX8_counts_72 : decode cX8_counts 72 = .ok (.getfield 179, 3) := by decide +kernel
theorem dX8_counts_75 : decode cX8_counts 75 = .ok (.ireturn, 1) := by decide +kernel
theorem dX8_interval_0 : decode cX8_interval 0 = .ok (.iload_n 1, 1) := by decide +kernel
theorem dX8_interval_1 : decode cX8_interval 1 = .ok (.ifCond .lt 17, 3) := by decide +kernel
theorem dX8_interval_4 : decode cX8_interval 4 = .ok (.iload_n 1, 1) := by decide +kernel
theorem dX8_interval_5 : decode cX8_interval 5 = .ok (.aload_n 0, 1) := by decide +kernel
theorem dX8_interval_6 : decode cX8_interval 6 = .ok (.getfield 10, 3) := by decide +kernel
theorem dX8_interval_9 : decode cX8_interval 9 = .ok (.getfield 161, 3) := by decide +kernel
theorem dX8_interval_12 : decode cX8_interval 12 = .ok (.getfield 182, 3) := by decide +kernel
theorem dX8_interval_15 : decode cX8_interval 15 = .ok (.if_icmp .lt 13, 3) := by decide +kernel
theorem dX8_interval_18 : decode cX8_interval 18 = .ok (.new 185, 3) := by decide +kernel
theorem dX8_interval_21 : decode cX8_interval 21 = .ok (.dup, 1) := by decide +kernel
theorem dX8_interval_22 : decode cX8_interval 22 = .ok (.ldc 187, 2) := by decide +kernel
theorem dX8_interval_24 : decode cX8_interval 24 = .ok (.invokespecial 189, 3) := by decide +kernel
theorem dX8_interval_27 : decode cX8_interval 27 = .ok (.athrow, 1) := by decide +kernel
theorem dX8_interval_28 : decode cX8_interval 28 = .ok (.aload_n 0, 1) := by decide +kernel
theorem dX8_interval_29 : decode cX8_interval 29 = .ok (.getfield 10, 3) := by decide +kernel
theorem dX8_interval_32 : decode cX8_interval 32 = .ok (.getfield 161, 3) := by decide +kernel
theorem dX8_interval_35 : decode cX8_interval 35 = .ok (.getfield 190, 3) := by decide +kernel
theorem dX8_interval_38 : decode cX8_interval 38 = .ok (.iload_n 1, 1) := by decide +kernel
theorem dX8_interval_39 : decode cX8_interval 39 = .ok (.iaload, 1) := by decide +kernel
theorem dX8_interval_40 : decode cX8_interval 40 = .ok (.ireturn, 1) := by decide +kernel
set_option maxRecDepth 20000 in
theorem ggX8_speed_X3_estimateSpeed : GoodIn wsX8_speed wsX3_estimateSpeed := goodIn_r _ [7, 8, 9, 10, 11, 12, 22, 23, 24, 25, 26, 27, 28, 29] (by decide +kernel) (by decide +kernel)
set_option maxRecDepth 20000 in
theorem gX8_speed_X3_estimateSpeed : GoodIn wsX8_speed (wsV RX8 193 RX3 yX3_estimateSpeed wsX3_estimateSpeed) := goodIn_app (goodIn_of _ (by decide +kernel)) ggX8_speed_X3_estimateSpeed
theorem dX8_speed_0 : decode cX8_speed 0 = .ok (.aload_n 0, 1) := by decide +kernel
theorem dX8_speed_1 : decode cX8_speed 1 = .ok (.getfield 10, 3) := by decide +kernel
theorem dX8_speed_4 : decode cX8_speed 4 = .ok (.getfield 161, 3) := by decide +kernel
theorem dX8_speed_7 : decode cX8_speed 7 = .ok (.invokevirtual 193, 3) := by decide +kernel
theorem dX8_speed_10 : decode cX8_speed 10 = .ok (.dreturn, 1) := by decide +kernel
set_option maxRecDepth 20000 in
theorem ggX8_fault_X8_requireRange : GoodIn wsX8_fault wsX8_requireRange := goodIn_ca (goodIn_r _ [9, 10, 11] (by decide +kernel) (by decide +kernel)) (goodIn_sub (fun _ h => List.mem_cons_of_mem _ (List.mem_append_right _ h)) (by decide +kernel))
set_option maxRecDepth 20000 in
theorem gX8_fault_X8_requireRange : GoodIn wsX8_fault (va_wsS RX8 23 yX8_requireRange wsX8_requireRange) := goodIn_app (goodIn_of _ (by decide +kernel)) ggX8_fault_X8_requireRange
theorem dX8_fault_0 : decode cX8_fault 0 = .ok (.iload_n 1, 1) := by decide +kernel
theorem dX8_fault_1 : decode cX8_fault 1 = .ok (.iconst 0, 1) := by decide +kernel
theorem dX8_fault_2 : decode cX8_fault 2 = .ok (.iconst 2, 1) := by decide +kernel
theorem dX8_fault_3 : decode cX8_fault 3 = .ok (.invokestatic 23, 3) := by decide +kernel
theorem dX8_fault_6 : decode cX8_fault 6 = .ok (.iload_n 1, 1) := by decide +kernel
theorem dX8_fault_7 : decode cX8_fault 7 = .ok (.lookupswitch 47 #[(0, 25), (1, 36)], 25) := by decide +kernel
theorem dX8_fault_32 : decode cX8_fault 32 = .ok (.aload_n 0, 1) := by decide +kernel
theorem dX8_fault_33 : decode cX8_fault 33 = .ok (.getfield 10, 3) := by decide +kernel
theorem dX8_fault_36 : decode cX8_fault 36 = .ok (.getfield 54, 3) := by decide +kernel
theorem dX8_fault_39 : decode cX8_fault 39 = .ok (.getfield 58, 3) := by decide +kernel
theorem dX8_fault_42 : decode cX8_fault 42 = .ok (.ireturn, 1) := by decide +kernel
theorem dX8_fault_43 : decode cX8_fault 43 = .ok (.aload_n 0, 1) := by decide +kernel
theorem dX8_fault_44 : decode cX8_fault 44 = .ok (.getfield 10, 3) := by decide +kernel
theorem dX8_fault_47 : decode cX8_fault 47 = .ok (.getfield 54, 3) := by decide +kernel
theorem dX8_fault_50 : decode cX8_fault 50 = .ok (.getfield 197, 3) := by decide +kernel
theorem dX8_fault_53 : decode cX8_fault 53 = .ok (.ireturn, 1) := by decide +kernel
theorem dX8_fault_54 : decode cX8_fault 54 = .ok (.aload_n 0, 1) := by decide +kernel
theorem dX8_fault_55 : decode cX8_fault 55 = .ok (.getfield 10, 3) := by decide +kernel
theorem dX8_fault_58 : decode cX8_fault 58 = .ok (.getfield 54, 3) := by decide +kernel
theorem dX8_fault_61 : decode cX8_fault 61 = .ok (.getfield 200, 3) := by decide +kernel
theorem dX8_fault_64 : decode cX8_fault 64 = .ok (.ireturn, 1) := by decide +kernel
theorem dX8_waiting_0 : decode cX8_waiting 0 = .ok (.aload_n 0, 1) := by decide +kernel
theorem dX8_waiting_1 : decode cX8_waiting 1 = .ok (.getfield 10, 3) := by decide +kernel
theorem dX8_waiting_4 : decode cX8_waiting 4 = .ok (.getfield 85, 3) := by decide +kernel
theorem dX8_waiting_7 : decode cX8_waiting 7 = .ok (.getfield 98, 3) := by decide +kernel
theorem dX8_waiting_10 : decode cX8_waiting 10 = .ok (.ireturn, 1) := by decide +kernel
set_option maxRecDepth 20000 in
theorem ggX8_undo_X2_restore : GoodIn wsX8_undo wsX2_restore := goodIn_r _ [10, 11, 12, 13, 14, 15, 16, 17, 18, 19, 20, 21, 22, 23, 24, 25, 26, 27, 28, 29, 30, 31, 32, 33, 34, 35, 36, 37, 38, 39, 40, 41, 42, 43, 44, 45, 46, 47, 48, 49, 50, 51, 52, 53, 54, 55, 56, 57, 58, 59, 60, 61, 62, 63, 64, 65, 66, 67, 68, 69, 70, 71, 72, 73, 74, 75, 76, 77, 78, 79, 80, 81, 82, 83, 84, 85, 86, 87, 88, 89, 90, 91, 92, 93, 94, 95, 98, 99, 100, 101, 102, 103, 104, 105, 106, 107, 108, 109, 110, 111, 112, 113, 114, 115, 116, 117, 118, 119, 120, 121, 122, 123, 124, 125, 126, 127, 128, 129, 130, 131, 132, 133, 134, 135, 136, 137, 138, 139, 140, 141] (by decide +kernel) (by decide +kernel)
set_option maxRecDepth 20000 in
theorem gX8_undo_X2_restore : GoodIn wsX8_undo (wsV RX8 208 RX2 yX2_restore wsX2_restore) := goodIn_app (goodIn_of _ (by decide +kernel)) ggX8_undo_X2_restore
theorem dX8_undo_0 : decode cX8_undo 0 = .ok (.aload_n 0, 1) := by decide +kernel
theorem dX8_undo_1 : decode cX8_undo 1 = .ok (.getfield 19, 3) := by decide +kernel
theorem dX8_undo_4 : decode cX8_undo 4 = .ok (.getfield 203, 3) := by decide +kernel
theorem dX8_undo_7 : decode cX8_undo 7 = .ok (.ifCond .ne 13, 3) := by decide +kernel
theorem dX8_undo_10 : decode cX8_undo 10 = .ok (.new 63, 3) := by decide +kernel
theorem dX8_undo_13 : decode cX8_undo 13 = .ok (.dup, 1) := by decide +kernel
theorem dX8_undo_14 : decode cX8_undo 14 = .ok (.ldc 206, 2) := by decide +kernel
theorem dX8_undo_16 : decode cX8_undo 16 = .ok (.invokespecial 67, 3) := by decide +kernel
theorem dX8_undo_19 : decode cX8_undo 19 = .ok (.athrow, 1) := by decide +kernel
theorem dX8_undo_20 : decode cX8_undo 20 = .ok (.aload_n 0, 1) := by decide +kernel
theorem dX8_undo_21 : decode cX8_undo 21 = .ok (.getfield 19, 3) := by decide +kernel
theorem dX8_undo_24 : decode cX8_undo 24 = .ok (.aload_n 0, 1) := by decide +kernel
theorem dX8_undo_25 : decode cX8_undo 25 = .ok (.getfield 10, 3) := by decide +kernel
theorem dX8_undo_28 : decode cX8_undo 28 = .ok (.invokevirtual 208, 3) := by decide +kernel
theorem dX8_undo_31 : decode cX8_undo 31 = .ok (.aload_n 0, 1) := by decide +kernel
theorem dX8_undo_32 : decode cX8_undo 32 = .ok (.getfield 19, 3) := by decide +kernel
theorem dX8_undo_35 : decode cX8_undo 35 = .ok (.getfield 203, 3) := by decide +kernel
theorem dX8_undo_38 : decode cX8_undo 38 = .ok (.ireturn, 1) := by decide +kernel
set_option maxRecDepth 20000 in
theorem ggX8_digest_X8_mix : GoodIn wsX8_digest wsX8_mix := goodIn_r _ [17, 18] (by decide +kernel) (by decide +kernel)
set_option maxRecDepth 20000 in
theorem gX8_digest_X8_mix : GoodIn wsX8_digest (va_wsS RX8 213 yX8_mix wsX8_mix) := goodIn_app (goodIn_of _ (by decide +kernel)) ggX8_digest_X8_mix
set_option maxRecDepth 20000 in
theorem ggX8_digest_X6_mixInto : GoodIn wsX8_digest wsX6_mixInto := goodIn_r _ [23, 24, 25, 26, 27, 28, 15, 16, 17, 18, 104, 105, 106, 107, 108] (by decide +kernel) (by decide +kernel)
set_option maxRecDepth 20000 in
theorem gX8_digest_X6_mixInto : GoodIn wsX8_digest (wsV RX8 217 RX6 yX6_mixInto wsX6_mixInto) := goodIn_app (goodIn_of _ (by decide +kernel)) ggX8_digest_X6_mixInto
set_option maxRecDepth 20000 in
theorem ggX8_digest_X5_mixInto : GoodIn wsX8_digest wsX5_mixInto := goodIn_r _ [33, 34, 35, 36, 37, 15, 16, 17, 18, 109, 110, 111, 112, 113] (by decide +kernel) (by decide +kernel)
set_option maxRecDepth 20000 in
theorem gX8_digest_X5_mixInto : GoodIn wsX8_digest (wsV RX8 221 RX5 yX5_mixInto wsX5_mixInto) := goodIn_app (goodIn_of _ (by decide +kernel)) ggX8_digest_X5_mixInto
set_option maxRecDepth 20000 in
theorem ggX8_digest_X0_mixInto : GoodIn wsX8_digest wsX0_mixInto := goodIn_r _ [42, 43, 44, 45, 46, 15, 16, 17, 18, 114, 115, 116, 117, 118, 119] (by decide +kernel) (by decide +kernel)
set_option maxRecDepth 20000 in
theorem gX8_digest_X0_mixInto : GoodIn wsX8_digest (wsV RX8 222 RX0 yX0_mixInto wsX0_mixInto) := goodIn_app (goodIn_of _ (by decide +kernel)) ggX8_digest_X0_mixInto
set_option maxRecDepth 20000 in
theorem ggX8_digest_X3_mixCountsInto : GoodIn wsX8_digest wsX3_mixCountsInto := goodIn_r _ [51, 52, 53, 54, 55, 15, 16, 17, 18, 120, 121, 122, 123, 124, 125, 126, 127] (by decide +kernel) (by decide +kernel)
set_option maxRecDepth 20000 in
theorem gX8_digest_X3_mixCountsInto : GoodIn wsX8_digest (wsV RX8 223 RX3 yX3_mixCountsInto wsX3_mixCountsInto) := goodIn_app (goodIn_of _ (by decide +kernel)) ggX8_digest_X3_mixCountsInto
set_option maxRecDepth 20000 in
theorem ggX8_digest_X3_mixIntervalsInto : GoodIn wsX8_digest wsX3_mixIntervalsInto := goodIn_r _ [59, 60, 61, 15, 16, 17, 18, 120, 121, 122, 123, 124, 125, 126, 127] (by decide +kernel) (by decide +kernel)
set_option maxRecDepth 20000 in
theorem gX8_digest_X3_mixIntervalsInto : GoodIn wsX8_digest (wsV RX8 226 RX3 yX3_mixIntervalsInto wsX3_mixIntervalsInto) := goodIn_app (goodIn_of _ (by decide +kernel)) ggX8_digest_X3_mixIntervalsInto
set_option maxRecDepth 20000 in
theorem ggX8_digest_X1_mixTimesInto : GoodIn wsX8_digest wsX1_mixTimesInto := goodIn_r _ [66, 67, 68, 69, 15, 16, 17, 18, 94, 95, 96, 97, 98, 99, 100, 101] (by decide +kernel) (by decide +kernel)
set_option maxRecDepth 20000 in
theorem gX8_digest_X1_mixTimesInto : GoodIn wsX8_digest (wsV RX8 229 RX1 yX1_mixTimesInto wsX1_mixTimesInto) := goodIn_app (goodIn_of _ (by decide +kernel)) ggX8_digest_X1_mixTimesInto
set_option maxRecDepth 20000 in
theorem ggX8_digest_X1_mixFaultInto : GoodIn wsX8_digest wsX1_mixFaultInto := goodIn_r _ [73, 74, 75, 76, 15, 16, 17, 18, 94, 95, 96, 97, 98, 99, 100, 101] (by decide +kernel) (by decide +kernel)
set_option maxRecDepth 20000 in
theorem gX8_digest_X1_mixFaultInto : GoodIn wsX8_digest (wsV RX8 232 RX1 yX1_mixFaultInto wsX1_mixFaultInto) := goodIn_app (goodIn_of _ (by decide +kernel)) ggX8_digest_X1_mixFaultInto
set_option maxRecDepth 20000 in
theorem ggX8_digest_X4_mixInto : GoodIn wsX8_digest wsX4_mixInto := goodIn_r _ [81, 82, 83, 84, 15, 16, 17, 18, 128, 129, 130] (by decide +kernel) (by decide +kernel)
set_option maxRecDepth 20000 in
theorem gX8_digest_X4_mixInto : GoodIn wsX8_digest (wsV RX8 235 RX4 yX4_mixInto wsX4_mixInto) := goodIn_app (goodIn_of _ (by decide +kernel)) ggX8_digest_X4_mixInto
theorem dX8_digest_0 : decode cX8_digest 0 = .ok (.ldc2_w 211, 3) := by decide +kernel
theorem dX8_digest_3 : decode cX8_digest 3 = .ok (.aload_n 0, 1) := by decide +kernel
theorem dX8_digest_4 : decode cX8_digest 4 = .ok (.getfield 10, 3) := by decide +kernel
theorem dX8_digest_7 : decode cX8_digest 7 = .ok (.getfield 89, 3) := by decide +kernel
theorem dX8_digest_10 : decode cX8_digest 10 = .ok (.invokestatic 213, 3) := by decide +kernel
theorem dX8_digest_13 : decode cX8_digest 13 = .ok (.lstore_n 1, 1) := by decide +kernel
theorem dX8_digest_14 : decode cX8_digest 14 = .ok (.aload_n 0, 1) := by decide +kernel
theorem dX8_digest_15 : decode cX8_digest 15 = .ok (.getfield 10, 3) := by decide +kernel
theorem dX8_digest_18 : decode cX8_digest 18 = .ok (.getfield 31, 3) := by decide +kernel
theorem dX8_digest_21 : decode cX8_digest 21 = .ok (.lload_n 1, 1) := by decide +kernel
theorem dX8_digest_22 : decode cX8_digest 22 = .ok (.invokevirtual 217, 3) := by decide +kernel
theorem dX8_digest_25 : decode cX8_digest 25 = .ok (.lstore_n 1, 1) := by decide +kernel
theorem dX8_digest_26 : decode cX8_digest 26 = .ok (.lload_n 1, 1) := by decide +kernel
theorem dX8_digest_27 : decode cX8_digest 27 = .ok (.aload_n 0, 1) := by decide +kernel
theorem dX8_digest_28 : decode cX8_digest 28 = .ok (.getfield 10, 3) := by decide +kernel
theorem dX8_digest_31 : decode cX8_digest 31 = .ok (.getfield 54, 3) := by decide +kernel
theorem dX8_digest_34 : decode cX8_digest 34 = .ok (.getfield 70, 3) := by decide +kernel
theorem dX8_digest_37 : decode cX8_digest 37 = .ok (.invokestatic 213, 3) := by decide +kernel
theorem dX8_digest_40 : decode cX8_digest 40 = .ok (.lstore_n 1, 1) := by decide +kernel
theorem dX8_digest_41 : decode cX8_digest 41 = .ok (.aload_n 0, 1) := by decide +kernel
theorem dX8_digest_42 : decode cX8_digest 42 = .ok (.getfield 10, 3) := by decide +kernel
theorem dX8_digest_45 : decode cX8_digest 45 = .ok (.getfield 106, 3) := by decide +kernel
theorem dX8_digest_48 : decode cX8_digest 48 = .ok (.lload_n 1, 1) := by decide +kernel
theorem dX8_digest_49 : decode cX8_digest 49 = .ok (.invokevirtual 221, 3) := by decide +kernel
theorem dX8_digest_52 : decode cX8_digest 52 = .ok (.lstore_n 1, 1) := by decide +kernel
theorem dX8_digest_53 : decode cX8_digest 53 = .ok (.aload_n 0, 1) := by decide +kernel
theorem dX8_digest_54 : decode cX8_digest 54 = .ok (.getfield 10, 3) := by decide +kernel
theorem dX8_digest_57 : decode cX8_digest 57 = .ok (.getfield 145, 3) := by decide +kernel
theorem dX8_digest_60 : decode cX8_digest 60 = .ok (.lload_n 1, 1) := by decide +kernel
theorem dX8_digest_61 : decode cX8_digest 61 = .ok (.invokevirtual 222, 3) := by decide +kernel
theorem dX8_digest_64 : decode cX8_digest 64 = .ok (.lstore_n 1, 1) := by decide +kernel
theorem dX8_digest_65 : decode cX8_digest 65 = .ok (.aload_n 0, 1) := by decide +kernel
theorem dX8_digest_66 : decode cX8_digest 66 = .ok (.getfield 10, 3) := by decide +kernel
theorem dX8_digest_69 : decode cX8_digest 69 = .ok (.getfield 161, 3) := by decide +kernel
theorem dX8_digest_72 : decode cX8_digest 72 = .ok (.lload_n 1, 1) := by decide +kernel
theorem dX8_digest_73 : decode cX8_digest 73 = .ok (.invokevirtual 223, 3) := by decide +kernel
theorem dX8_digest_76 : decode cX8_digest 76 = .ok (.lstore_n 1, 1) := by decide +kernel
theorem dX8_digest_77 : decode cX8_digest 77 = .ok (.lload_n 1, 1) := by decide +kernel
theorem dX8_digest_78 : decode cX8_digest 78 = .ok (.aload_n 0, 1) := by decide +kernel
theorem dX8_digest_79 : decode cX8_digest 79 = .ok (.getfield 10, 3) := by decide +kernel
theorem dX8_digest_82 : decode cX8_digest 82 = .ok (.getfield 54, 3) := by decide +kernel
theorem dX8_digest_85 : decode cX8_digest 85 = .ok (.getfield 179, 3) := by decide +kernel
theorem dX8_digest_88 : decode cX8_digest 88 = .ok (.invokestatic 213, 3) := by decide +kernel
theorem dX8_digest_91 : decode cX8_digest 91 = .ok (.lstore_n 1, 1) := by decide +kernel
theorem dX8_digest_92 : decode cX8_digest 92 = .ok (.aload_n 0, 1) := by decide +kernel
theorem dX8_digest_93 : decode cX8_digest 93 = .ok (.getfield 10, 3) := by decide +kernel
theorem dX8_digest_96 : decode cX8_digest 96 = .ok (.getfield 161, 3) := by decide +kernel
theorem dX8_digest_99 : decode cX8_digest 99 = .ok (.lload_n 1, 1) := by decide +kernel
theorem dX8_digest_100 : decode cX8_digest 100 = .ok (.invokevirtual 226, 3) := by decide +kernel
theorem dX8_digest_103 : decode cX8_digest 103 = .ok (.lstore_n 1, 1) := by decide +kernel
theorem dX8_digest_104 : decode cX8_digest 104 = .ok (.aload_n 0, 1) := by decide +kernel
theorem dX8_digest_105 : decode cX8_digest 105 = .ok (.getfield 10, 3) := by decide +kernel
theorem dX8_digest_108 : decode cX8_digest 108 = .ok (.getfield 54, 3) := by decide +kernel
theorem dX8_digest_111 : decode cX8_digest 111 = .ok (.lload_n 1, 1) := by decide +kernel
theorem dX8_digest_112 : decode cX8_digest 112 = .ok (.invokevirtual 229, 3) := by decide +kernel
theorem dX8_digest_115 : decode cX8_digest 115 = .ok (.lstore_n 1, 1) := by decide +kernel
theorem dX8_digest_116 : decode cX8_digest 116 = .ok (.aload_n 0, 1) := by decide +kernel
theorem dX8_digest_117 : decode cX8_digest 117 = .ok (.getfield 10, 3) := by decide +kernel
theorem dX8_digest_120 : decode cX8_digest 120 = .ok (.getfield 54, 3) := by decide +kernel
theorem dX8_digest_123 : decode cX8_digest 123 = .ok (.lload_n 1, 1) := by decide +kernel
theorem dX8_digest_124 : decode cX8_digest 124 = .ok (.invokevirtual 232, 3) := by decide +kernel
theorem dX8_digest_127 : decode cX8_digest 127 = .ok (.lstore_n 1, 1) := by decide +kernel
theorem dX8_digest_128 : decode cX8_digest 128 = .ok (.aload_n 0, 1) := by decide +kernel
theorem dX8_digest_129 : decode cX8_digest 129 = .ok (.getfield 10, 3) := by decide +kernel
theorem dX8_digest_132 : decode cX8_digest 132 = .ok (.getfield 85, 3) := by decide +kernel
theorem dX8_digest_135 : decode cX8_digest 135 = .ok (.lload_n 1, 1) := by decide +kernel
theorem dX8_digest_136 : decode cX8_digest 136 = .ok (.invokevirtual 235, 3) := by decide +kernel
theorem dX8_digest_139 : decode cX8_digest 139 = .ok (.lstore_n 1, 1) := by decide +kernel
theorem dX8_digest_140 : decode cX8_digest 140 = .ok (.lload_n 1, 1) := by decide +kernel
theorem dX8_digest_141 : decode cX8_digest 141 = .ok (.aload_n 0, 1) := by decide +kernel
theorem dX8_digest_142 : decode cX8_digest 142 = .ok (.getfield 19, 3) := by decide +kernel
theorem dX8_digest_145 : decode cX8_digest 145 = .ok (.getfield 203, 3) := by decide +kernel
theorem dX8_digest_148 : decode cX8_digest 148 = .ok (.invokestatic 213, 3) := by decide +kernel
theorem dX8_digest_151 : decode cX8_digest 151 = .ok (.lreturn, 1) := by decide +kernel
theorem dX8_requireRoom_0 : decode cX8_requireRoom 0 = .ok (.iload_n 1, 1) := by decide +kernel
theorem dX8_requireRoom_1 : decode cX8_requireRoom 1 = .ok (.bipush 40, 2) := by decide +kernel
theorem dX8_requireRoom_3 : decode cX8_requireRoom 3 = .ok (.aload_n 0, 1) := by decide +kernel
theorem dX8_requireRoom_4 : decode cX8_requireRoom 4 = .ok (.getfield 10, 3) := by decide +kernel
theorem dX8_requireRoom_7 : decode cX8_requireRoom 7 = .ok (.getfield 85, 3) := by decide +kernel
theorem dX8_requireRoom_10 : decode cX8_requireRoom 10 = .ok (.getfield 98, 3) := by decide +kernel
theorem dX8_requireRoom_13 : decode cX8_requireRoom 13 = .ok (.isub, 1) := by decide +kernel
theorem dX8_requireRoom_14 : decode cX8_requireRoom 14 = .ok (.if_icmp .le 13, 3) := by decide +kernel
theorem dX8_requireRoom_17 : decode cX8_requireRoom 17 = .ok (.new 63, 3) := by decide +kernel
theorem dX8_requireRoom_20 : decode cX8_requireRoom 20 = .ok (.dup, 1) := by decide +kernel
theorem dX8_requireRoom_21 : decode cX8_requireRoom 21 = .ok (.ldc 236, 2) := by decide +kernel
theorem dX8_requireRoom_23 : decode cX8_requireRoom 23 = .ok (.invokespecial 67, 3) := by decide +kernel
theorem dX8_requireRoom_26 : decode cX8_requireRoom 26 = .ok (.athrow, 1) := by decide +kernel
theorem dX8_requireRoom_27 : decode cX8_requireRoom 27 = .ok (.return_, 1) := by decide +kernel
theorem dX8_requireRange_0 : decode cX8_requireRange 0 = .ok (.iload_n 0, 1) := by decide +kernel
theorem dX8_requireRange_1 : decode cX8_requireRange 1 = .ok (.iload_n 1, 1) := by decide +kernel
theorem dX8_requireRange_2 : decode cX8_requireRange 2 = .ok (.if_icmp .lt 8, 3) := by decide +kernel
theorem dX8_requireRange_5 : decode cX8_requireRange 5 = .ok (.iload_n 0, 1) := by decide +kernel
theorem dX8_requireRange_6 : decode cX8_requireRange 6 = .ok (.iload_n 2, 1) := by decide +kernel
theorem dX8_requireRange_7 : decode cX8_requireRange 7 = .ok (.if_icmp .le 13, 3) := by decide +kernel
theorem dX8_requireRange_10 : decode cX8_requireRange 10 = .ok (.new 101, 3) := by decide +kernel
theorem dX8_requireRange_13 : decode cX8_requireRange 13 = .ok (.dup, 1) := by decide +kernel
theorem dX8_requireRange_14 : decode cX8_requireRange 14 = .ok (.ldc 238, 2) := by decide +kernel
theorem dX8_requireRange_16 : decode cX8_requireRange 16 = .ok (.invokespecial 105, 3) := by decide +kernel
theorem dX8_requireRange_19 : decode cX8_requireRange 19 = .ok (.athrow, 1) := by decide +kernel
theorem dX8_requireRange_20 : decode cX8_requireRange 20 = .ok (.return_, 1) := by decide +kernel
theorem dX8_requireLeg_0 : decode cX8_requireLeg 0 = .ok (.iload_n 0, 1) := by decide +kernel
theorem dX8_requireLeg_1 : decode cX8_requireLeg 1 = .ok (.ifCond .lt 8, 3) := by decide +kernel
theorem dX8_requireLeg_4 : decode cX8_requireLeg 4 = .ok (.iload_n 0, 1) := by decide +kernel
theorem dX8_requireLeg_5 : decode cX8_requireLeg 5 = .ok (.iconst 3, 1) := by decide +kernel
theorem dX8_requireLeg_6 : decode cX8_requireLeg 6 = .ok (.if_icmp .lt 13, 3) := by decide +kernel
theorem dX8_requireLeg_9 : decode cX8_requireLeg 9 = .ok (.new 185, 3) := by decide +kernel
theorem dX8_requireLeg_12 : decode cX8_requireLeg 12 = .ok (.dup, 1) := by decide +kernel
theorem dX8_requireLeg_13 : decode cX8_requireLeg 13 = .ok (.ldc 240, 2) := by decide +kernel
theorem dX8_requireLeg_15 : decode cX8_requireLeg 15 = .ok (.invokespecial 189, 3) := by decide +kernel
theorem dX8_requireLeg_18 : decode cX8_requireLeg 18 = .ok (.athrow, 1) := by decide +kernel
theorem dX8_requireLeg_19 : decode cX8_requireLeg 19 = .ok (.return_, 1) := by decide +kernel
set_option maxRecDepth 20000 in
theorem ggX8_sectorOf_X8_entry : GoodIn wsX8_sectorOf wsX8_entry := goodIn_r _ [5] (by decide +kernel) (by decide +kernel)
set_option maxRecDepth 20000 in
theorem gX8_sectorOf_X8_entry : GoodIn wsX8_sectorOf (va_wsS RX8 245 yX8_entry wsX8_entry) := goodIn_app (goodIn_of _ (by decide +kernel)) ggX8_sectorOf_X8_entry
theorem dX8_sectorOf_0 : decode cX8_sectorOf 0 = .ok (.getstatic 242, 3) := by decide +kernel
theorem dX8_sectorOf_3 : decode cX8_sectorOf 3 = .ok (.iload_n 0, 1) := by decide +kernel
theorem dX8_sectorOf_4 : decode cX8_sectorOf 4 = .ok (.invokestatic 245, 3) := by decide +kernel
theorem dX8_sectorOf_7 : decode cX8_sectorOf 7 = .ok (.ireturn, 1) := by decide +kernel
set_option maxRecDepth 20000 in
theorem ggX8_codeOf_X8_entry : GoodIn wsX8_codeOf wsX8_entry := goodIn_r _ [5] (by decide +kernel) (by decide +kernel)
set_option maxRecDepth 20000 in
theorem gX8_codeOf_X8_entry : GoodIn wsX8_codeOf (va_wsS RX8 245 yX8_entry wsX8_entry) := goodIn_app (goodIn_of _ (by decide +kernel)) ggX8_codeOf_X8_entry
theorem dX8_codeOf_0 : decode cX8_codeOf 0 = .ok (.getstatic 249, 3) := by decide +kernel
theorem dX8_codeOf_3 : decode cX8_codeOf 3 = .ok (.iload_n 0, 1) := by decide +kernel
theorem dX8_codeOf_4 : decode cX8_codeOf 4 = .ok (.invokestatic 245, 3) := by decide +kernel
theorem dX8_codeOf_7 : decode cX8_codeOf 7 = .ok (.ireturn, 1) := by decide +kernel
theorem dX8_entry_0 : decode cX8_entry 0 = .ok (.iload_n 1, 1) := by decide +kernel
theorem dX8_entry_1 : decode cX8_entry 1 = .ok (.ifCond .lt 15, 3) := by decide +kernel
theorem dX8_entry_4 : decode cX8_entry 4 = .ok (.iload_n 1, 1) := by decide +kernel
theorem dX8_entry_5 : decode cX8_entry 5 = .ok (.aload_n 0, 1) := by decide +kernel
theorem dX8_entry_6 : decode cX8_entry 6 = .ok (.arraylength, 1) := by decide +kernel
theorem dX8_entry_7 : decode cX8_entry 7 = .ok (.if_icmp .ge 9, 3) := by decide +kernel
theorem dX8_entry_10 : decode cX8_entry 10 = .ok (.aload_n 0, 1) := by decide +kernel
theorem dX8_entry_11 : decode cX8_entry 11 = .ok (.iload_n 1, 1) := by decide +kernel
theorem dX8_entry_12 : decode cX8_entry 12 = .ok (.iaload, 1) := by decide +kernel
theorem dX8_entry_13 : decode cX8_entry 13 = .ok (.goto 4, 3) := by decide +kernel
theorem dX8_entry_16 : decode cX8_entry 16 = .ok (.iconst (-1), 1) := by decide +kernel
theorem dX8_entry_17 : decode cX8_entry 17 = .ok (.ireturn, 1) := by decide +kernel
theorem dX8_mix_0 : decode cX8_mix 0 = .ok (.ldc2_w 252, 3) := by decide +kernel
theorem dX8_mix_3 : decode cX8_mix 3 = .ok (.lload_n 0, 1) := by decide +kernel
theorem dX8_mix_4 : decode cX8_mix 4 = .ok (.lmul, 1) := by decide +kernel
theorem dX8_mix_5 : decode cX8_mix 5 = .ok (.iload_n 2, 1) := by decide +kernel
theorem dX8_mix_6 : decode cX8_mix 6 = .ok (.i2l, 1) := by decide +kernel
theorem dX8_mix_7 : decode cX8_mix 7 = .ok (.ladd, 1) := by decide +kernel
theorem dX8_mix_8 : decode cX8_mix 8 = .ok (.lreturn, 1) := by decide +kernel
theorem dX9_init_0 : decode cX9_init 0 = .ok (.aload_n 0, 1) := by decide +kernel
theorem dX9_init_1 : decode cX9_init 1 = .ok (.invokespecial 1, 3) := by decide +kernel
theorem dX9_init_4 : decode cX9_init 4 = .ok (.aload_n 0, 1) := by decide +kernel
theorem dX9_init_5 : decode cX9_init 5 = .ok (.sipush 129, 3) := by decide +kernel
theorem dX9_init_8 : decode cX9_init 8 = .ok (.newarray .int, 2) := by decide +kernel
theorem dX9_init_10 : decode cX9_init 10 = .ok (.putfield 7, 3) := by decide +kernel
theorem dX9_init_13 : decode cX9_init 13 = .ok (.aload_n 0, 1) := by decide +kernel
theorem dX9_init_14 : decode cX9_init 14 = .ok (.sipush 516, 3) := by decide +kernel
theorem dX9_init_17 : decode cX9_init 17 = .ok (.newarray .int, 2) := by decide +kernel
theorem dX9_init_19 : decode cX9_init 19 = .ok (.putfield 13, 3) := by decide +kernel
theorem dX9_init_22 : decode cX9_init 22 = .ok (.aload_n 0, 1) := by decide +kernel
theorem dX9_init_23 : decode cX9_init 23 = .ok (.getfield 7, 3) := by decide +kernel
theorem dX9_init_26 : decode cX9_init 26 = .ok (.iconst 1, 1) := by decide +kernel
theorem dX9_init_27 : decode cX9_init 27 = .ok (.iconst 3, 1) := by decide +kernel
theorem dX9_init_28 : decode cX9_init 28 = .ok (.iastore, 1) := by decide +kernel
theorem dX9_init_29 : decode cX9_init 29 = .ok (.aload_n 0, 1) := by decide +kernel
theorem dX9_init_30 : decode cX9_init 30 = .ok (.getfield 7, 3) := by decide +kernel
theorem dX9_init_33 : decode cX9_init 33 = .ok (.iconst 2, 1) := by decide +kernel
theorem dX9_init_34 : decode cX9_init 34 = .ok (.bipush 10, 2) := by decide +kernel
theorem dX9_init_36 : decode cX9_init 36 = .ok (.iastore, 1) := by decide +kernel
theorem dX9_init_37 : decode cX9_init 37 = .ok (.aload_n 0, 1) := by decide +kernel
theorem dX9_init_38 : decode cX9_init 38 = .ok (.getfield 7, 3) := by decide +kernel
theorem dX9_init_41 : decode cX9_init 41 = .ok (.iconst 3, 1) := by decide +kernel
theorem dX9_init_42 : decode cX9_init 42 = .ok (.bipush 50, 2) := by decide +kernel
theorem dX9_init_44 : decode cX9_init 44 = .ok (.iastore, 1) := by decide +kernel
theorem dX9_init_45 : decode cX9_init 45 = .ok (.aload_n 0, 1) := by decide +kernel
theorem dX9_init_46 : decode cX9_init 46 = .ok (.getfield 7, 3) := by decide +kernel
theorem dX9_init_49 : decode cX9_init 49 = .ok (.iconst 4, 1) := by decide +kernel
theorem dX9_init_50 : decode cX9_init 50 = .ok (.iconst 2, 1) := by decide +kernel
theorem dX9_init_51 : decode cX9_init 51 = .ok (.iastore, 1) := by decide +kernel
theorem dX9_init_52 : decode cX9_init 52 = .ok (.aload_n 0, 1) := by decide +kernel
theorem dX9_init_53 : decode cX9_init 53 = .ok (.getfield 7, 3) := by decide +kernel
theorem dX9_init_56 : decode cX9_init 56 = .ok (.iconst 5, 1) := by decide +kernel
theorem dX9_init_57 : decode cX9_init 57 = .ok (.sipush 500, 3) := by decide +kernel
theorem dX9_init_60 : decode cX9_init 60 = .ok (.iastore, 1) := by decide +kernel
theorem dX9_init_61 : decode cX9_init 61 = .ok (.aload_n 0, 1) := by decide +kernel
theorem dX9_init_62 : decode cX9_init 62 = .ok (.getfield 7, 3) := by decide +kernel
theorem dX9_init_65 : decode cX9_init 65 = .ok (.bipush 7, 2) := by decide +kernel
theorem dX9_init_67 : decode cX9_init 67 = .ok (.iconst 1, 1) := by decide +kernel
theorem dX9_init_68 : decode cX9_init 68 = .ok (.iastore, 1) := by decide +kernel
theorem dX9_init_69 : decode cX9_init 69 = .ok (.aload_n 0, 1) := by decide +kernel
theorem dX9_init_70 : decode cX9_init 70 = .ok (.getfield 7, 3) := by decide +kernel
theorem dX9_init_73 : decode cX9_init 73 = .ok (.bipush 8, 2) := by decide +kernel
theorem dX9_init_75 : decode cX9_init 75 = .ok (.iconst 1, 1) := by decide +kernel
theorem dX9_init_76 : decode cX9_init 76 = .ok (.iastore, 1) := by decide +kernel
theorem dX9_init_77 : decode cX9_init 77 = .ok (.iconst 0, 1) := by decide +kernel
theorem dX9_init_78 : decode cX9_init 78 = .ok (.istore_n 1, 1) := by decide +kernel
theorem dX9_init_79 : decode cX9_init 79 = .ok (.iload_n 1, 1) := by decide +kernel
theorem dX9_init_80 : decode cX9_init 80 = .ok (.iconst 3, 1) := by decide +kernel
theorem dX9_init_81 : decode cX9_init 81 = .ok (.if_icmp .ge 33, 3) := by decide +kernel
theorem dX9_init_84 : decode cX9_init 84 = .ok (.aload_n 0, 1) := by decide +kernel
theorem dX9_init_85 : decode cX9_init 85 = .ok (.getfield 7, 3) := by decide +kernel
theorem dX9_init_88 : decode cX9_init 88 = .ok (.bipush 16, 2) := by decide +kernel
theorem dX9_init_90 : decode cX9_init 90 = .ok (.iload_n 1, 1) := by decide +kernel
