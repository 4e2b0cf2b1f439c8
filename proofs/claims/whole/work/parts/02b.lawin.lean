set_option maxRecDepth 20000 in
theorem in_wsL_law0_r1 : ∀ w ∈ wsL_law0_r1, w ∈ lw_tbl := fun w h => (goodIn_p wsL_law0_r1 [42, 45, 50] (by decide +kernel) (by decide +kernel) w h).1
set_option maxRecDepth 20000 in
theorem in_wsL_law0_r2 : ∀ w ∈ wsL_law0_r2, w ∈ lw_tbl := fun w h => (goodIn_p wsL_law0_r2 [] (by decide +kernel) (by decide +kernel) w h).1
set_option maxRecDepth 20000 in
theorem in_wsL_law0_r3 : ∀ w ∈ wsL_law0_r3, w ∈ lw_tbl := fun w h => (goodIn_p wsL_law0_r3 [56, 90, 108] (by decide +kernel) (by decide +kernel) w h).1
set_option maxRecDepth 20000 in
theorem in_wsL_law0_r4 : ∀ w ∈ wsL_law0_r4, w ∈ lw_tbl := fun w h => (goodIn_p wsL_law0_r4 [137, 175, 214] (by decide +kernel) (by decide +kernel) w h).1
set_option maxRecDepth 20000 in
theorem in_wsL_law0_r5 : ∀ w ∈ wsL_law0_r5, w ∈ lw_tbl := fun w h => (goodIn_p wsL_law0_r5 [271, 769] (by decide +kernel) (by decide +kernel) w h).1
set_option maxRecDepth 20000 in
theorem in_wsL_law0_r6 : ∀ w ∈ wsL_law0_r6, w ∈ lw_tbl := fun w h => (goodIn_p wsL_law0_r6 [367, 370, 442, 446, 450] (by decide +kernel) (by decide +kernel) w h).1
set_option maxRecDepth 20000 in
theorem in_wsL_law0_r7 : ∀ w ∈ wsL_law0_r7, w ∈ lw_tbl := fun w h => (goodIn_p wsL_law0_r7 [454, 458, 465, 469, 474] (by decide +kernel) (by decide +kernel) w h).1
set_option maxRecDepth 20000 in
theorem in_wsL_law0_r8 : ∀ w ∈ wsL_law0_r8, w ∈ lw_tbl := fun w h => (goodIn_p wsL_law0_r8 [478, 797, 800, 804, 808] (by decide +kernel) (by decide +kernel) w h).1
set_option maxRecDepth 20000 in
theorem in_wsL_law0_r9 : ∀ w ∈ wsL_law0_r9, w ∈ lw_tbl := fun w h => (goodIn_p wsL_law0_r9 [812, 793, 486, 816] (by decide +kernel) (by decide +kernel) w h).1
set_option maxRecDepth 20000 in
theorem in_wsL_law0_r10 : ∀ w ∈ wsL_law0_r10, w ∈ lw_tbl := fun w h => (goodIn_p wsL_law0_r10 [493, 820, 500, 824] (by decide +kernel) (by decide +kernel) w h).1
set_option maxRecDepth 20000 in
theorem in_wsL_law0_r11 : ∀ w ∈ wsL_law0_r11, w ∈ lw_tbl := fun w h => (goodIn_p wsL_law0_r11 [509, 529, 829] (by decide +kernel) (by decide +kernel) w h).1
set_option maxRecDepth 20000 in
theorem in_wsL_law0_r12 : ∀ w ∈ wsL_law0_r12, w ∈ lw_tbl := fun w h => (goodIn_p wsL_law0_r12 [536, 541, 833, 548, 552] (by decide +kernel) (by decide +kernel) w h).1
set_option maxRecDepth 20000 in
theorem in_wsL_law0_r13 : ∀ w ∈ wsL_law0_r13, w ∈ lw_tbl := fun w h => (goodIn_p wsL_law0_r13 [557, 837, 841, 564, 569] (by decide +kernel) (by decide +kernel) w h).1
set_option maxRecDepth 20000 in
theorem in_wsL_law0_r14 : ∀ w ∈ wsL_law0_r14, w ∈ lw_tbl := fun w h => (goodIn_p wsL_law0_r14 [572, 577, 582, 585, 845, 848] (by decide +kernel) (by decide +kernel) w h).1
set_option maxRecDepth 20000 in
theorem in_wsL_law0_r15 : ∀ w ∈ wsL_law0_r15, w ∈ lw_tbl := fun w h => (goodIn_p wsL_law0_r15 [851, 594, 598, 602] (by decide +kernel) (by decide +kernel) w h).1
set_option maxRecDepth 20000 in
theorem in_wsL_law0_r16 : ∀ w ∈ wsL_law0_r16, w ∈ lw_tbl := fun w h => (goodIn_p wsL_law0_r16 [606, 610, 615, 619, 623, 627] (by decide +kernel) (by decide +kernel) w h).1
set_option maxRecDepth 20000 in
theorem in_wsL_law0_r17 : ∀ w ∈ wsL_law0_r17, w ∈ lw_tbl := fun w h => (goodIn_p wsL_law0_r17 [631, 635, 639, 643, 648] (by decide +kernel) (by decide +kernel) w h).1
set_option maxRecDepth 20000 in
theorem in_wsL_law0_r18 : ∀ w ∈ wsL_law0_r18, w ∈ lw_tbl := fun w h => (goodIn_p wsL_law0_r18 [653, 658, 662, 666, 670] (by decide +kernel) (by decide +kernel) w h).1
set_option maxRecDepth 20000 in
theorem in_wsL_law0_r19 : ∀ w ∈ wsL_law0_r19, w ∈ lw_tbl := fun w h => (goodIn_p wsL_law0_r19 [673, 681, 685, 689, 855, 859] (by decide +kernel) (by decide +kernel) w h).1
set_option maxRecDepth 20000 in
theorem in_wsL_law0_r20 : ∀ w ∈ wsL_law0_r20, w ∈ lw_tbl := fun w h => (goodIn_p wsL_law0_r20 [863, 867, 871, 875, 879, 883] (by decide +kernel) (by decide +kernel) w h).1
set_option maxRecDepth 20000 in
theorem in_wsL_law0_r21 : ∀ w ∈ wsL_law0_r21, w ∈ lw_tbl := fun w h => (goodIn_p wsL_law0_r21 [887, 891, 895, 899, 903, 906] (by decide +kernel) (by decide +kernel) w h).1
set_option maxRecDepth 20000 in
theorem in_wsL_law0_r22 : ∀ w ∈ wsL_law0_r22, w ∈ lw_tbl := fun w h => (goodIn_p wsL_law0_r22 [696, 910, 914, 294] (by decide +kernel) (by decide +kernel) w h).1
set_option maxRecDepth 20000 in
theorem in_wsL_law0_r23 : ∀ w ∈ wsL_law0_r23, w ∈ lw_tbl := fun w h => (goodIn_p wsL_law0_r23 [918, 704, 707, 922] (by decide +kernel) (by decide +kernel) w h).1
set_option maxRecDepth 20000 in
theorem in_wsL_law0_r24 : ∀ w ∈ wsL_law0_r24, w ∈ lw_tbl := fun w h => (goodIn_p wsL_law0_r24 [730, 926, 298, 930] (by decide +kernel) (by decide +kernel) w h).1
set_option maxRecDepth 20000 in
theorem in_wsL_law0_r25 : ∀ w ∈ wsL_law0_r25, w ∈ lw_tbl := fun w h => (goodIn_p wsL_law0_r25 [737, 934, 744, 938] (by decide +kernel) (by decide +kernel) w h).1
set_option maxRecDepth 20000 in
theorem in_wsL_law0_r26 : ∀ w ∈ wsL_law0_r26, w ∈ lw_tbl := fun w h => (goodIn_p wsL_law0_r26 [302, 306, 942, 752] (by decide +kernel) (by decide +kernel) w h).1
set_option maxRecDepth 20000 in
theorem in_wsL_law0_r27 : ∀ w ∈ wsL_law0_r27, w ∈ lw_tbl := fun w h => (goodIn_p wsL_law0_r27 [948, 312, 952, 759, 764] (by decide +kernel) (by decide +kernel) w h).1
set_option maxRecDepth 20000 in
theorem in_wsL_law0_r28 : ∀ w ∈ wsL_law0_r28, w ∈ lw_tbl := fun w h => (goodIn_p wsL_law0_r28 [956, 316, 320, 325, 330] (by decide +kernel) (by decide +kernel) w h).1
set_option maxRecDepth 20000 in
theorem in_wsL_law0_r29 : ∀ w ∈ wsL_law0_r29, w ∈ lw_tbl := fun w h => (goodIn_p wsL_law0_r29 [335, 340, 345, 349, 354, 358] (by decide +kernel) (by decide +kernel) w h).1
set_option maxRecDepth 20000 in
theorem in_wsL_law0_r30 : ∀ w ∈ wsL_law0_r30, w ∈ lw_tbl := fun w h => (goodIn_p wsL_law0_r30 [960, 965] (by decide +kernel) (by decide +kernel) w h).1
theorem in_wsX00 : ∀ w ∈ wsX00, w ∈ lw_tbl := by decide +kernel
theorem in_wsX10 : ∀ w ∈ wsX10, w ∈ lw_tbl := by decide +kernel
theorem in_wsX20 : ∀ w ∈ wsX20, w ∈ lw_tbl := by decide +kernel
theorem in_wsX30 : ∀ w ∈ wsX30, w ∈ lw_tbl := by decide +kernel
theorem in_wsX40 : ∀ w ∈ wsX40, w ∈ lw_tbl := by decide +kernel
theorem in_wsX50 : ∀ w ∈ wsX50, w ∈ lw_tbl := by decide +kernel
theorem in_wsX60 : ∀ w ∈ wsX60, w ∈ lw_tbl := by decide +kernel
theorem in_wsX70 : ∀ w ∈ wsX70, w ∈ lw_tbl := by decide +kernel
theorem in_wsX80 : ∀ w ∈ wsX80, w ∈ lw_tbl := by decide +kernel
theorem in_wsX90 : ∀ w ∈ wsX90, w ∈ lw_tbl := by decide +kernel
theorem in_nil9 : ∀ w ∈ ([] : List Cond), w ∈ lw_tbl := fun _ h => nomatch h
theorem wsL_law_in0 : ∀ w ∈ wsL_law0, w ∈ lw_tbl := by
  show ∀ w ∈ (wsL_law0_r1 ++ (wsL_law0_r2 ++ (wsL_law0_r3 ++ (wsL_law0_r4 ++ (wsL_law0_r5 ++ (wsL_law0_r6 ++ (wsL_law0_r7 ++ (wsL_law0_r8 ++ (wsL_law0_r9 ++ (wsL_law0_r10 ++ (wsL_law0_r11 ++ (wsL_law0_r12 ++ (wsL_law0_r13 ++ (wsL_law0_r14 ++ (wsL_law0_r15 ++ (wsL_law0_r16 ++ (wsL_law0_r17 ++ (wsL_law0_r18 ++ (wsL_law0_r19 ++ (wsL_law0_r20 ++ (wsL_law0_r21 ++ (wsL_law0_r22 ++ (wsL_law0_r23 ++ (wsL_law0_r24 ++ (wsL_law0_r25 ++ (wsL_law0_r26 ++ (wsL_law0_r27 ++ (wsL_law0_r28 ++ (wsL_law0_r29 ++ wsL_law0_r30))))))))))))))))))))))))))))) ++ wsX80 ++ wsX90 ++ wsX70 ++ wsX20 ++ wsX60 ++ wsX40 ++ wsX50 ++ wsX30 ++ wsX10 ++ wsX00 ++ ([] : List Cond), w ∈ lw_tbl
  exact (List.forall_mem_append.mpr ⟨(List.forall_mem_append.mpr ⟨(List.forall_mem_append.mpr ⟨(List.forall_mem_append.mpr ⟨(List.forall_mem_append.mpr ⟨(List.forall_mem_append.mpr ⟨(List.forall_mem_append.mpr ⟨(List.forall_mem_append.mpr ⟨(List.forall_mem_append.mpr ⟨(List.forall_mem_append.mpr ⟨(List.forall_mem_append.mpr ⟨(List.forall_mem_append.mpr ⟨in_wsL_law0_r1, (List.forall_mem_append.mpr ⟨in_wsL_law0_r2, (List.forall_mem_append.mpr ⟨in_wsL_law0_r3, (List.forall_mem_append.mpr ⟨in_wsL_law0_r4, (List.forall_mem_append.mpr ⟨in_wsL_law0_r5, (List.forall_mem_append.mpr ⟨in_wsL_law0_r6, (List.forall_mem_append.mpr ⟨in_wsL_law0_r7, (List.forall_mem_append.mpr ⟨in_wsL_law0_r8, (List.forall_mem_append.mpr ⟨in_wsL_law0_r9, (List.forall_mem_append.mpr ⟨in_wsL_law0_r10, (List.forall_mem_append.mpr ⟨in_wsL_law0_r11, (List.forall_mem_append.mpr ⟨in_wsL_law0_r12, (List.forall_mem_append.mpr ⟨in_wsL_law0_r13, (List.forall_mem_append.mpr ⟨in_wsL_law0_r14, (List.forall_mem_append.mpr ⟨in_wsL_law0_r15, (List.forall_mem_append.mpr ⟨in_wsL_law0_r16, (List.forall_mem_append.mpr ⟨in_wsL_law0_r17, (List.forall_mem_append.mpr ⟨in_wsL_law0_r18, (List.forall_mem_append.mpr ⟨in_wsL_law0_r19, (List.forall_mem_append.mpr ⟨in_wsL_law0_r20, (List.forall_mem_append.mpr ⟨in_wsL_law0_r21, (List.forall_mem_append.mpr ⟨in_wsL_law0_r22, (List.forall_mem_append.mpr ⟨in_wsL_law0_r23, (List.forall_mem_append.mpr ⟨in_wsL_law0_r24, (List.forall_mem_append.mpr ⟨in_wsL_law0_r25, (List.forall_mem_append.mpr ⟨in_wsL_law0_r26, (List.forall_mem_append.mpr ⟨in_wsL_law0_r27, (List.forall_mem_append.mpr ⟨in_wsL_law0_r28, (List.forall_mem_append.mpr ⟨in_wsL_law0_r29, in_wsL_law0_r30⟩)⟩)⟩)⟩)⟩)⟩)⟩)⟩)⟩)⟩)⟩)⟩)⟩)⟩)⟩)⟩)⟩)⟩)⟩)⟩)⟩)⟩)⟩)⟩)⟩)⟩)⟩)⟩)⟩), in_wsX80⟩), in_wsX90⟩), in_wsX70⟩), in_wsX20⟩), in_wsX60⟩), in_wsX40⟩), in_wsX50⟩), in_wsX30⟩), in_wsX10⟩), in_wsX00⟩), in_nil9⟩)
