def LP_X3_estimateSpeed : Nat → Int32 → Int32 → Int32 → Int32 → Int32 → Int32 → Int32 → (Nat → Int32) → Nat → Int64 → (Nat) × (Int64)
  | 0, _, _, _, _, _, _, _, _, i, h => (i, h)
  | n + 1, f0, f1, f2, f3, z, f6, f7, iv, i, h =>
    if z ≤ nI i then
      (i, h)
    else
      LP_X3_estimateSpeed n f0 f1 f2 f3 z f6 f7 iv (i + 1) (h + ((iv i).toInt64))
set_option maxHeartbeats 4000000 in
set_option maxRecDepth 100000 in
theorem lps_X3_estimateSpeed {p : Program} (l : Launch) {e : Env} {R : Room} {s : State} {m : MethodId} {args : Array Value} {below : List Frame} {meth : Method} {c : Code} {A : Nat → Prop} {cells slots : Nat} {Q : State → Prop} (D : va_G) (cI cJ cS : ClassId) (hx : p.tables.exec = Jvm.exec) (hb : c.code = cX3_estimateSpeed) (hml : c.maxLocals = 4) (hown : s.vm.findClass RX3 = some m.cls) (hts : ∀ w ∈ wsX3_estimateSpeed, w.before args s = true) (hK : va_K D vwCl (tyz cI cJ cS) s) (hA : ∀ q, s.heap.size ≤ q → A q) (hG : gG A s s.heap) : ∀ (n : Nat) (h0 : Nat) (a0 : Nat) (f0 : Int32) (f1 : Int32) (f2 : Int32) (f3 : Int32) (z : Int32) (f6 : Int32) (f7 : Int32) (iv : Nat → Int32) (i : Nat) (h : Int64) (H : Heap) (locs : List Loc) (ls : Array Slot), (vp_in z 7) → (i ≤ tn z) → (tn z < i + n) → va_P D vwCl [(h0, .inr (3, [.int f0, .int f1, .int f2, .int f3, .ref a0, .int z, .int f6, .int f7])), (a0, .inl (cI, 6, .inl iv))] H → va_D A [(h0, .inr (3, [.int f0, .int f1, .int f2, .int f3, .ref a0, .int z, .int f6, .int f7])), (a0, .inl (cI, 6, .inl iv))] → va_S A s.heap H locs → lv_has ls 4 [(0, .ref h0), (1, .long h), (3, .int (nI i))] → (∀ (y : (Nat) × (Int64)) (H : Heap) (locs : List Loc) (ls : Array Slot), y = LP_X3_estimateSpeed n f0 f1 f2 f3 z f6 f7 iv i h → va_P D vwCl [(h0, .inr (3, [.int f0, .int f1, .int f2, .int f3, .ref a0, .int z, .int f6, .int f7])), (a0, .inl (cI, 6, .inl iv))] H → va_D A [(h0, .inr (3, [.int f0, .int f1, .int f2, .int f3, .ref a0, .int z, .int f6, .int f7])), (a0, .inl (cI, 6, .inl iv))] → va_S A s.heap H locs → lv_has ls 4 [(0, .ref h0), (1, .long y.2), (3, .int (nI y.1))] → W p l e R s m args below meth c H locs cells slots Q (F0 m 28 ls [])) → W p l e R s m args below meth c H locs cells slots Q (F0 m 4 ls []) := by
  have hk_28 := hts (.fieldLink RX3 28 "HallCommutator$Motion" "intervalCount" "I") (by decide +kernel)
  have hk_24 := hts (.fieldLink RX3 24 "HallCommutator$Motion" "intervals" "[I") (by decide +kernel)
  have hiX3 : ∀ w ∈ u_ws RX3 TX3 8, w ∈ wsX3_estimateSpeed := by decide +kernel
  intro n
  induction n with
  | zero =>
    intro h0 a0 f0 f1 f2 f3 z f6 f7 iv i h H locs ls hz hi hm
    exact absurd hm (by omega)
  | succ n ih =>
    intro h0 a0 f0 f1 f2 f3 z f6 f7 iv i h H locs ls hz hi hm hP hD hS hl kk
    refine lv_iload_n hx hb dX3_estimateSpeed_4 rfl (lv_at hl 2 rfl) ?_
    refine lv_aload_n hx hb dX3_estimateSpeed_5 rfl (lv_at hl 0 rfl) ?_
    refine va_get (D := D) (ci := 3) (v := .int z) (C := RX3) (T := TX3) (N := 8) hx hb hts hiX3 hown hK hP 0 rfl rfl 5 (by decide) hk_28 (fun _ h9 => h9) rfl dX3_estimateSpeed_6 ?_
    refine lv_icmp_ge (tgt := 28) hx hb dX3_estimateSpeed_9 (by decide) (fun c_1 => ?_) (fun c_1 => ?_)
    · skip
      exact kk (i, h) _ _ _ (by simp only [LP_X3_estimateSpeed, if_pos c_1]) (hP.subm [0, 1] rfl) (hD.sub [0, 1] rfl rfl) hS (lv_sub hl [0, 1, 2] rfl)
    · skip
      refine lv_lload_n hx hb dX3_estimateSpeed_12 rfl (lv_at hl 1 rfl) ?_
      refine lv_aload_n hx hb dX3_estimateSpeed_13 rfl (lv_at hl 0 rfl) ?_
      refine va_get (D := D) (ci := 3) (v := .ref a0) (C := RX3) (T := TX3) (N := 8) hx hb hts hiX3 hown hK hP 0 rfl rfl 4 (by decide) hk_24 (fun _ h9 => h9) rfl dX3_estimateSpeed_14 ?_
      refine lv_iload_n hx hb dX3_estimateSpeed_17 rfl (lv_at hl 2 rfl) ?_
      refine my_iald hx hb hK hP 1 0 rfl rfl i (rfl) (by have := nz_lt hz hi c_1; have := tn_lt hz; omega) (by decide) dX3_estimateSpeed_18 ?_
      refine lv_i2l hx hb dX3_estimateSpeed_19 rfl ?_
      refine lv_ladd hx hb dX3_estimateSpeed_20 ?_
      refine lv_lstore_n (lv' := [(1, .long (h + ((iv i).toInt64))), (0, .ref h0), (3, .int (nI i))]) hx hb dX3_estimateSpeed_21 rfl hl (by decide) rfl (fun ls hl => ?_)
      refine lv_iinc (v := nI (i + 1)) (lv' := [(3, .int (nI (i + 1))), (1, .long (h + ((iv i).toInt64))), (0, .ref h0)]) hx hb dX3_estimateSpeed_22 hl (k := 2) rfl (nI_1 _) (by decide) rfl (fun ls hl => ?_)
      refine lv_goto (tgt := 4) hx hb dX3_estimateSpeed_25 (by decide) ?_
      exact ih h0 a0 f0 f1 f2 f3 z f6 f7 iv (i + 1) (h + ((iv i).toInt64)) _ _ _ (hz) (nz_lt hz hi c_1) (by omega) (hP.subm [0, 1] rfl) (hD.sub [0, 1] rfl rfl) hS (lv_sub hl [2, 1, 0] rfl) (fun y H locs ls hy => kk y H locs ls (by rw [hy]; simp only [LP_X3_estimateSpeed, if_neg c_1]))
theorem spd_nz {z f0 f1 f2 f3 f6 f7 : Int32} {iv : Nat → Int32} {y0 : Nat} {y1 : Int64} (h : (y0, y1) = LP_X3_estimateSpeed 7 f0 f1 f2 f3 z f6 f7 iv 0 0) (c : (0 : Int32) < lg_cmp y1 0) : ¬ z = 0 := by
  intro e
  subst e
  have h1 : y1 = (0 : Int64) := by
    have := congrArg Prod.snd h
    simp only [LP_X3_estimateSpeed] at this
    rw [if_pos (by decide)] at this
    exact this
  subst h1
  exact absurd c (by decide)
def F_X3_estimateSpeed (f0 : Int32) (f1 : Int32) (f2 : Int32) (f3 : Int32) (z : Int32) (f6 : Int32) (f7 : Int32) (iv : Nat → Int32) : UInt64 :=
  let q1 := LP_X3_estimateSpeed 7 f0 f1 f2 f3 z f6 f7 iv 0 (0 : Int64)
  if (0 : Int32) < lg_cmp q1.2 (0 : Int64) then
    FP.ddiv (FP.dmul (FP.i2d f7) (FP.dmul bM (FP.i2d z))) (FP.dmul bS (FP.l2d q1.2))
  else
    FP.dconst0
set_option maxHeartbeats 4000000 in
set_option maxRecDepth 100000 in
theorem met_X3_estimateSpeed (l : Launch) (D : va_G) (cI cJ cS : ClassId) (h0 : Nat) (a0 : Nat) (f0 : Int32) (f1 : Int32) (f2 : Int32) (f3 : Int32) (z : Int32) (f6 : Int32) (f7 : Int32) (iv : Nat → Int32) (hz : vp_in z 7) (hd : f7 = 1 ∨ f7 = -1 ∨ z = 0) : ∀ sz : Nat, Met l yX3_estimateSpeed wsX3_estimateSpeed ({ frames := 0, cells := 0, slots := 0, locals := 0 } : Room) (va_Pc [.ref h0] (cPre D (tyz cI cJ cS) ([(h0, .inr (3, [.int f0, .int f1, .int f2, .int f3, .ref a0, .int z, .int f6, .int f7])), (a0, .inl (cI, 6, .inl iv))]) sz)) (va_Qd (fun (r : UInt64) (_ : Unit) => r = F_X3_estimateSpeed f0 f1 f2 f3 z f6 f7 iv) (fun u => cPost D (tyz cI cJ cS) (va_A ([(h0, .inr (3, [.int f0, .int f1, .int f2, .int f3, .ref a0, .int z, .int f6, .int f7])), (a0, .inl (cI, 6, .inl iv))]) sz) ([(h0, .inr (3, [.int f0, .int f1, .int f2, .int f3, .ref a0, .int z, .int f6, .int f7])), (a0, .inl (cI, 6, .inl iv))])) (va_A ([(h0, .inr (3, [.int f0, .int f1, .int f2, .int f3, .ref a0, .int z, .int f6, .int f7])), (a0, .inl (cI, 6, .inl iv))]) sz)) 0 0 (va_A ([(h0, .inr (3, [.int f0, .int f1, .int f2, .int f3, .ref a0, .int z, .int f6, .int f7])), (a0, .inl (cI, 6, .inl iv))]) sz) := by
  refine my_met (QC := fun A => (va_Qd (fun (r : UInt64) (_ : Unit) => r = F_X3_estimateSpeed f0 f1 f2 f3 z f6 f7 iv) (fun u => cPost D (tyz cI cJ cS) A ([(h0, .inr (3, [.int f0, .int f1, .int f2, .int f3, .ref a0, .int z, .int f6, .int f7])), (a0, .inl (cI, 6, .inl iv))])) A)) (cc := cX3_estimateSpeed) (maxL := 4) (ret := (some .double)) (by decide) rfl (Nat.le_of_ble_eq_true rfl) ?_
  intro p e s m below meth c ls A hx hb hml hr hts hown hlocks hname hK hP hD hS hA hG hl
  have hown : s.vm.findClass RX3 = some m.cls := hown
  have hl : lv_has ls 4 [(0, .ref h0)] := hl
  have hP : va_P D vwCl [(h0, .inr (3, [.int f0, .int f1, .int f2, .int f3, .ref a0, .int z, .int f6, .int f7])), (a0, .inl (cI, 6, .inl iv))] s.heap := hP
  have hD : va_D A [(h0, .inr (3, [.int f0, .int f1, .int f2, .int f3, .ref a0, .int z, .int f6, .int f7])), (a0, .inl (cI, 6, .inl iv))] := hD
  have hiX3 : ∀ w ∈ u_ws RX3 TX3 8, w ∈ wsX3_estimateSpeed := by decide +kernel
  have hk_28 := hts (.fieldLink RX3 28 "HallCommutator$Motion" "intervalCount" "I") (by decide +kernel)
  have hk_34 := hts (.fieldLink RX3 34 "HallCommutator$Motion" "edgeDirection" "I") (by decide +kernel)
  refine lv_lconst (v := 0) hx hb dX3_estimateSpeed_0 (by decide) ?_
  refine lv_lstore_n (lv' := [(1, .long (0 : Int64)), (0, .ref h0)]) hx hb dX3_estimateSpeed_1 rfl hl (by decide) rfl (fun ls hl => ?_)
  refine lv_iconst (v := 0) hx hb dX3_estimateSpeed_2 (by decide) ?_
  refine lv_istore_n (lv' := [(3, .int (0 : Int32)), (1, .long (0 : Int64)), (0, .ref h0)]) hx hb dX3_estimateSpeed_3 rfl hl (by decide) rfl (fun ls hl => ?_)
  refine lps_X3_estimateSpeed l D cI cJ cS hx hb hml hown hts hK hA hG 7 h0 a0 f0 f1 f2 f3 z f6 f7 iv 0 (0 : Int64) _ _ _ (hz) (Nat.zero_le _) (by have := tn_lt hz; omega) (hP.subm [0, 1] rfl) (hD.sub [0, 1] rfl rfl) hS (lv_sub hl [2, 1, 0] rfl) (fun y_1 H locs ls hw_1 hP hD hS hl => ?_)
  obtain ⟨y_1_0, y_1_1⟩ := y_1
  have hl : lv_has ls 4 [(0, .ref h0), (1, .long y_1_1), (3, .int (nI y_1_0))] := hl
  have hP : va_P D vwCl [(h0, .inr (3, [.int f0, .int f1, .int f2, .int f3, .ref a0, .int z, .int f6, .int f7])), (a0, .inl (cI, 6, .inl iv))] H := hP
  have hD : va_D A [(h0, .inr (3, [.int f0, .int f1, .int f2, .int f3, .ref a0, .int z, .int f6, .int f7])), (a0, .inl (cI, 6, .inl iv))] := hD
  refine lv_lload_n hx hb dX3_estimateSpeed_28 rfl (lv_at hl 1 rfl) ?_
  refine lv_lconst (v := 0) hx hb dX3_estimateSpeed_29 (by decide) ?_
  refine W.lcmp hx hb dX3_estimateSpeed_30 ?_
  refine lv_if_gt (tgt := 36) hx hb dX3_estimateSpeed_31 (by decide) (fun c_2 => ?_) (fun c_2 => ?_)
  · skip
    refine lv_aload_n hx hb dX3_estimateSpeed_36 rfl (lv_at hl 0 rfl) ?_
    refine va_get (D := D) (ci := 3) (v := .int f7) (C := RX3) (T := TX3) (N := 8) hx hb hts hiX3 hown hK hP 0 rfl rfl 7 (by decide) hk_34 (fun _ h9 => h9) rfl dX3_estimateSpeed_37 ?_
    refine lv_i2d hx hb dX3_estimateSpeed_40 ?_
    refine lv_ldc2d (v := bM) hx hb hown (hts (.constantDouble RX3 50 bM) (by decide +kernel)) dX3_estimateSpeed_41 ?_
    refine lv_aload_n hx hb dX3_estimateSpeed_44 rfl (lv_at hl 0 rfl) ?_
    refine va_get (D := D) (ci := 3) (v := .int z) (C := RX3) (T := TX3) (N := 8) hx hb hts hiX3 hown hK hP 0 rfl rfl 5 (by decide) hk_28 (fun _ h9 => h9) rfl dX3_estimateSpeed_45 ?_
    refine lv_i2d hx hb dX3_estimateSpeed_48 ?_
    refine lv_dmul hx hb dX3_estimateSpeed_49 (spd1 _) ?_
    refine lv_dmul hx hb dX3_estimateSpeed_50 (spd2 hz (spd_nz hw_1 c_2) (spd_or (spd_nz hw_1 c_2) hd)) ?_
    refine lv_ldc2d (v := bS) hx hb hown (hts (.constantDouble RX3 52 bS) (by decide +kernel)) dX3_estimateSpeed_51 ?_
    refine lv_lload_n hx hb dX3_estimateSpeed_54 rfl (lv_at hl 1 rfl) ?_
    refine lv_l2d hx hb dX3_estimateSpeed_55 ?_
    refine lv_dmul hx hb dX3_estimateSpeed_56 (n64_of (spd3 _)) ?_
    refine lv_ddiv hx hb dX3_estimateSpeed_57 (spd4 hz (spd_nz hw_1 c_2) (spd_or (spd_nz hw_1 c_2) hd) (spd3 _)) ?_
    exact my_dret hx hb hr hlocks hK hP hD hS () (by show FP.ddiv (FP.dmul (FP.i2d f7) (FP.dmul bM (FP.i2d z))) (FP.dmul bS (FP.l2d y_1_1)) = F_X3_estimateSpeed f0 f1 f2 f3 z f6 f7 iv; simp only [F_X3_estimateSpeed, if_pos c_2, ← hw_1]) [0, 1] rfl rfl dX3_estimateSpeed_58
  · skip
    refine lv_dconst0 hx hb dX3_estimateSpeed_34 ?_
    exact my_dret hx hb hr hlocks hK hP hD hS () (by show FP.dconst0 = F_X3_estimateSpeed f0 f1 f2 f3 z f6 f7 iv; simp only [F_X3_estimateSpeed, if_neg c_2, ← hw_1]) [0, 1] rfl rfl dX3_estimateSpeed_35
def F_X8_speed (v : Nat → Int32) (a : Nat → Nat → Int32) : UInt64 :=
  let q1 := F_X3_estimateSpeed (v 28) (v 29) (v 30) (v 31) (v 35) (v 33) (v 34) (a 2)
  q1
set_option maxHeartbeats 4000000 in
set_option maxRecDepth 100000 in
theorem met_X8_speed (l : Launch) (D : va_G) (cI cJ cS : ClassId) (h0 : Nat) (hH : Nat) (hs : Nat) (g : Nat → Nat) (v : Nat → Int32) (a : Nat → Nat → Int32) (cn : Nat) (gs : Nat → Nat → Nat) (vs : Nat → Nat → Int32) (bs : Nat → Nat → Nat → Int32) (hz : vp_in (v 35) 7) (hd : v 34 = 1 ∨ v 34 = -1 ∨ v 35 = 0) : ∀ sz : Nat, Met l yX8_speed wsX8_speed ({ frames := 1, cells := 0, slots := 0, locals := 23 } : Room) (va_Pc [.ref h0] (cPre D (tyz cI cJ cS) (hcw h0 hH hs cn gs vs bs g v a cI cS) sz)) (va_Qd (fun (r : UInt64) (_ : Unit) => r = F_X8_speed v a) (fun u => cPost D (tyz cI cJ cS) (va_A (hcw h0 hH hs cn gs vs bs g v a cI cS) sz) (hcw h0 hH hs cn gs vs bs g v a cI cS)) (va_A (hcw h0 hH hs cn gs vs bs g v a cI cS) sz)) 0 0 (va_A (hcw h0 hH hs cn gs vs bs g v a cI cS) sz) := by
  refine my_met (QC := fun A => (va_Qd (fun (r : UInt64) (_ : Unit) => r = F_X8_speed v a) (fun u => cPost D (tyz cI cJ cS) A (hcw h0 hH hs cn gs vs bs g v a cI cS)) A)) (cc := cX8_speed) (maxL := 1) (ret := (some .double)) (by decide) rfl (Nat.le_of_ble_eq_true rfl) ?_
  intro p e s m below meth c ls A hx hb hml hr hts hown hlocks hname hK hP hD hS hA hG hl
  have hown : s.vm.findClass RX8 = some m.cls := hown
  have hl : lv_has ls 1 [(0, .ref h0)] := hl
  have hP : va_P D vwCl ([(h0, .inr (8, [.ref (g 0), .ref hH])), ((g 0), .inr (7, [.int (v 0), .ref (g 1), .ref (g 2), .ref (g 3), .ref (g 4), .ref (g 5), .ref (g 6)])), ((g 1), .inr (6, [.int (v 1), .int (v 2), .int (v 3), .int (v 4), .int (v 5)])), ((g 2), .inr (4, [.ref (g 7), .ref (g 8), .int (v 48)])), ((g 3), .inr (5, [.int (v 7), .int (v 8), .int (v 9), .int (v 10), .int (v 11)])), ((g 4), .inr (3, [.int (v 28), .int (v 29), .int (v 30), .int (v 31), .ref (g 9), .int (v 35), .int (v 33), .int (v 34)])), ((g 5), .inr (1, [.int (v 6), .int (v 42), .int (v 43), .int (v 44), .int (v 32), .int (v 45), .int (v 46), .int (v 47)])), ((g 6), .inr (0, [.int (v 12), .ref (g 10), .ref (g 11), .ref (g 12), .ref (g 13), .ref (g 14)])), ((g 7), .inl (cI, 40, .inl (a 0))), ((g 8), .inl (cI, 40, .inl (a 1))), ((g 9), .inl (cI, 6, .inl (a 2))), ((g 10), .inl (cI, 3, .inl (a 3))), ((g 11), .inl (cI, 3, .inl (a 4))), ((g 12), .inl (cI, 3, .inl (a 5))), ((g 13), .inl (cI, 3, .inl (a 6))), ((g 14), .inl (cI, 3, .inl (a 7))), (hH, .inr (2, [.ref hs, .int (nI cn)])), (hs, .inl (cS, 4, .inr (.inr (.inr (.inr (svf gs))))))] ++ hsts gs vs bs cI) s.heap := hP
  have hD : va_D A ([(h0, .inr (8, [.ref (g 0), .ref hH])), ((g 0), .inr (7, [.int (v 0), .ref (g 1), .ref (g 2), .ref (g 3), .ref (g 4), .ref (g 5), .ref (g 6)])), ((g 1), .inr (6, [.int (v 1), .int (v 2), .int (v 3), .int (v 4), .int (v 5)])), ((g 2), .inr (4, [.ref (g 7), .ref (g 8), .int (v 48)])), ((g 3), .inr (5, [.int (v 7), .int (v 8), .int (v 9), .int (v 10), .int (v 11)])), ((g 4), .inr (3, [.int (v 28), .int (v 29), .int (v 30), .int (v 31), .ref (g 9), .int (v 35), .int (v 33), .int (v 34)])), ((g 5), .inr (1, [.int (v 6), .int (v 42), .int (v 43), .int (v 44), .int (v 32), .int (v 45), .int (v 46), .int (v 47)])), ((g 6), .inr (0, [.int (v 12), .ref (g 10), .ref (g 11), .ref (g 12), .ref (g 13), .ref (g 14)])), ((g 7), .inl (cI, 40, .inl (a 0))), ((g 8), .inl (cI, 40, .inl (a 1))), ((g 9), .inl (cI, 6, .inl (a 2))), ((g 10), .inl (cI, 3, .inl (a 3))), ((g 11), .inl (cI, 3, .inl (a 4))), ((g 12), .inl (cI, 3, .inl (a 5))), ((g 13), .inl (cI, 3, .inl (a 6))), ((g 14), .inl (cI, 3, .inl (a 7))), (hH, .inr (2, [.ref hs, .int (nI cn)])), (hs, .inl (cS, 4, .inr (.inr (.inr (.inr (svf gs))))))] ++ hsts gs vs bs cI) := hD
  have hiX7 : ∀ w ∈ u_ws RX7 TX7 7, w ∈ wsX8_speed := by decide +kernel
  have hiX8 : ∀ w ∈ u_ws RX8 TX8 2, w ∈ wsX8_speed := by decide +kernel
  have hk_10 := hts (.fieldLink RX8 10 "HallCommutator" "now" "LHallCommutator$State;") (by decide +kernel)
  have hk_161 := hts (.fieldLink RX8 161 "HallCommutator$State" "motion" "LHallCommutator$Motion;") (by decide +kernel)
  refine lv_aload_n hx hb dX8_speed_0 rfl (lv_at hl 0 rfl) ?_
  refine va_get (D := D) (ci := 8) (v := .ref (g 0)) (C := RX8) (T := TX8) (N := 2) hx hb hts hiX8 hown hK hP 0 rfl rfl 0 (by decide) hk_10 (fun _ h9 => h9) rfl dX8_speed_1 ?_
  refine va_get (D := D) (ci := 7) (v := .ref (g 4)) (C := RX7) (T := TX7) (N := 7) hx hb hts hiX7 hown hK hP 1 rfl rfl 4 (by decide) hk_161 (fun _ h9 => h9) rfl dX8_speed_4 ?_
  refine my_callV_d (As := []) (rest := []) (wc := [((g 4), .inr (3, [.int (v 28), .int (v 29), .int (v 30), .int (v 31), .ref (g 9), .int (v 35), .int (v 33), .int (v 34)])), ((g 9), .inl (cI, 6, .inl (a 2)))]) (wr := ([(h0, .inr (8, [.ref (g 0), .ref hH])), ((g 0), .inr (7, [.int (v 0), .ref (g 1), .ref (g 2), .ref (g 3), .ref (g 4), .ref (g 5), .ref (g 6)])), ((g 1), .inr (6, [.int (v 1), .int (v 2), .int (v 3), .int (v 4), .int (v 5)])), ((g 2), .inr (4, [.ref (g 7), .ref (g 8), .int (v 48)])), ((g 3), .inr (5, [.int (v 7), .int (v 8), .int (v 9), .int (v 10), .int (v 11)])), ((g 5), .inr (1, [.int (v 6), .int (v 42), .int (v 43), .int (v 44), .int (v 32), .int (v 45), .int (v 46), .int (v 47)])), ((g 6), .inr (0, [.int (v 12), .ref (g 10), .ref (g 11), .ref (g 12), .ref (g 13), .ref (g 14)])), ((g 7), .inl (cI, 40, .inl (a 0))), ((g 8), .inl (cI, 40, .inl (a 1))), ((g 10), .inl (cI, 3, .inl (a 3))), ((g 11), .inl (cI, 3, .inl (a 4))), ((g 12), .inl (cI, 3, .inl (a 5))), ((g 13), .inl (cI, 3, .inl (a 6))), ((g 14), .inl (cI, 3, .inl (a 7))), (hH, .inr (2, [.ref hs, .int (nI cn)])), (hs, .inl (cS, 4, .inr (.inr (.inr (.inr (svf gs))))))] ++ hsts gs vs bs cI)) ⟨hx, hb, hml, hown, hts⟩ (met_X3_estimateSpeed l D cI cJ cS (g 4) (g 9) (v 28) (v 29) (v 30) (v 31) (v 35) (v 33) (v 34) (a 2) (hz) (hd) _) (cwV 0 hts gX8_speed_X3_estimateSpeed rfl rfl rfl (by decide +kernel) ⟨Nat.le_of_ble_eq_true rfl, Nat.le_of_ble_eq_true rfl⟩) hK hP hD hS hA hG [5, 10] [0, 1, 2, 3, 4, 6, 7, 8, 9, 11, 12, 13, 14, 15, 16, 17, 18, 19, 20, 21, 22, 23, 24, 25, 26, 27, 28, 29, 30, 31, 32, 33, 34, 35, 36, 37, 38, 39, 40, 41, 42, 43, 44, 45, 46, 47, 48, 49, 50, 51, 52, 53, 54, 55, 56, 57, 58, 59, 60, 61, 62, 63, 64, 65, 66, 67, 68, 69, 70, 71, 72, 73, 74, 75, 76, 77] rfl rfl rfl rfl (by decide) 0 rfl rfl rfl hl.1 (Nat.le_of_ble_eq_true rfl) rfl dX8_speed_7 ⟨Nat.le_of_ble_eq_true rfl, Nat.le_of_ble_eq_true rfl⟩ (fun r_1 _ H locs hw_1 hP hD hS => ?_)
  have hP : va_P D vwCl ([(h0, .inr (8, [.ref (g 0), .ref hH])), ((g 0), .inr (7, [.int (v 0), .ref (g 1), .ref (g 2), .ref (g 3), .ref (g 4), .ref (g 5), .ref (g 6)])), ((g 1), .inr (6, [.int (v 1), .int (v 2), .int (v 3), .int (v 4), .int (v 5)])), ((g 2), .inr (4, [.ref (g 7), .ref (g 8), .int (v 48)])), ((g 3), .inr (5, [.int (v 7), .int (v 8), .int (v 9), .int (v 10), .int (v 11)])), ((g 5), .inr (1, [.int (v 6), .int (v 42), .int (v 43), .int (v 44), .int (v 32), .int (v 45), .int (v 46), .int (v 47)])), ((g 6), .inr (0, [.int (v 12), .ref (g 10), .ref (g 11), .ref (g 12), .ref (g 13), .ref (g 14)])), ((g 7), .inl (cI, 40, .inl (a 0))), ((g 8), .inl (cI, 40, .inl (a 1))), ((g 10), .inl (cI, 3, .inl (a 3))), ((g 11), .inl (cI, 3, .inl (a 4))), ((g 12), .inl (cI, 3, .inl (a 5))), ((g 13), .inl (cI, 3, .inl (a 6))), ((g 14), .inl (cI, 3, .inl (a 7))), (hH, .inr (2, [.ref hs, .int (nI cn)])), (hs, .inl (cS, 4, .inr (.inr (.inr (.inr (svf gs)))))), ((g 4), .inr (3, [.int (v 28), .int (v 29), .int (v 30), .int (v 31), .ref (g 9), .int (v 35), .int (v 33), .int (v 34)])), ((g 9), .inl (cI, 6, .inl (a 2)))] ++ hsts gs vs bs cI) H := hP.subm [0, 1, 2, 3, 4, 5, 6, 7, 8, 9, 10, 11, 12, 13, 14, 15, 76, 77, 16, 17, 18, 19, 20, 21, 22, 23, 24, 25, 26, 27, 28, 29, 30, 31, 32, 33, 34, 35, 36, 37, 38, 39, 40, 41, 42, 43, 44, 45, 46, 47, 48, 49, 50, 51, 52, 53, 54, 55, 56, 57, 58, 59, 60, 61, 62, 63, 64, 65, 66, 67, 68, 69, 70, 71, 72, 73, 74, 75] rfl
  have hD : va_D A ([(h0, .inr (8, [.ref (g 0), .ref hH])), ((g 0), .inr (7, [.int (v 0), .ref (g 1), .ref (g 2), .ref (g 3), .ref (g 4), .ref (g 5), .ref (g 6)])), ((g 1), .inr (6, [.int (v 1), .int (v 2), .int (v 3), .int (v 4), .int (v 5)])), ((g 2), .inr (4, [.ref (g 7), .ref (g 8), .int (v 48)])), ((g 3), .inr (5, [.int (v 7), .int (v 8), .int (v 9), .int (v 10), .int (v 11)])), ((g 5), .inr (1, [.int (v 6), .int (v 42), .int (v 43), .int (v 44), .int (v 32), .int (v 45), .int (v 46), .int (v 47)])), ((g 6), .inr (0, [.int (v 12), .ref (g 10), .ref (g 11), .ref (g 12), .ref (g 13), .ref (g 14)])), ((g 7), .inl (cI, 40, .inl (a 0))), ((g 8), .inl (cI, 40, .inl (a 1))), ((g 10), .inl (cI, 3, .inl (a 3))), ((g 11), .inl (cI, 3, .inl (a 4))), ((g 12), .inl (cI, 3, .inl (a 5))), ((g 13), .inl (cI, 3, .inl (a 6))), ((g 14), .inl (cI, 3, .inl (a 7))), (hH, .inr (2, [.ref hs, .int (nI cn)])), (hs, .inl (cS, 4, .inr (.inr (.inr (.inr (svf gs)))))), ((g 4), .inr (3, [.int (v 28), .int (v 29), .int (v 30), .int (v 31), .ref (g 9), .int (v 35), .int (v 33), .int (v 34)])), ((g 9), .inl (cI, 6, .inl (a 2)))] ++ hsts gs vs bs cI) := hD.sub [0, 1, 2, 3, 4, 5, 6, 7, 8, 9, 10, 11, 12, 13, 14, 15, 76, 77, 16, 17, 18, 19, 20, 21, 22, 23, 24, 25, 26, 27, 28, 29, 30, 31, 32, 33, 34, 35, 36, 37, 38, 39, 40, 41, 42, 43, 44, 45, 46, 47, 48, 49, 50, 51, 52, 53, 54, 55, 56, 57, 58, 59, 60, 61, 62, 63, 64, 65, 66, 67, 68, 69, 70, 71, 72, 73, 74, 75] rfl rfl
  exact my_dret hx hb hr hlocks hK hP hD hS () (by show r_1 = F_X8_speed v a; simp only [F_X8_speed, ← hw_1]) [0, 1, 2, 3, 4, 16, 5, 6, 7, 8, 17, 9, 10, 11, 12, 13, 14, 15, 18, 19, 20, 21, 22, 23, 24, 25, 26, 27, 28, 29, 30, 31, 32, 33, 34, 35, 36, 37, 38, 39, 40, 41, 42, 43, 44, 45, 46, 47, 48, 49, 50, 51, 52, 53, 54, 55, 56, 57, 58, 59, 60, 61, 62, 63, 64, 65, 66, 67, 68, 69, 70, 71, 72, 73, 74, 75, 76, 77] rfl rfl dX8_speed_10
def LP_X9_speed : Nat → Int32 → Int32 → Int32 → Int64 → (Nat → Int32) → (Nat → Int32) → Nat → Int32 → (Nat) × (Int32)
  | 0, _, _, _, _, _, _, i, sm => (i, sm)
  | n + 1, np, th, ed, hh, w, pf, i, sm =>
    if w 35 ≤ nI i then
      (i, sm)
    else
      LP_X9_speed n np th ed hh w pf (i + 1) (sm + (w (36 + i)))
set_option maxHeartbeats 4000000 in
set_option maxRecDepth 100000 in
theorem lps_X9_speed {p : Program} (l : Launch) {e : Env} {R : Room} {s : State} {m : MethodId} {args : Array Value} {below : List Frame} {meth : Method} {c : Code} {A : Nat → Prop} {cells slots : Nat} {Q : State → Prop} (D : va_G) (cI cJ cS : ClassId) (hx : p.tables.exec = Jvm.exec) (hb : c.code = cX9_speed) (hml : c.maxLocals = 3) (hown : s.vm.findClass RX9 = some m.cls) (hts : ∀ w ∈ wsX9_speed, w.before args s = true) (hK : va_K D vwCl (tyz cI cJ cS) s) (hA : ∀ q, s.heap.size ≤ q → A q) (hG : gG A s s.heap) : ∀ (n : Nat) (h0 : Nat) (a0 : Nat) (b0 : Nat) (np : Int32) (th : Int32) (ed : Int32) (hh : Int64) (w : Nat → Int32) (pf : Nat → Int32) (i : Nat) (sm : Int32) (H : Heap) (locs : List Loc) (ls : Array Slot), (vp_in (w 35) 7) → (i ≤ tn (w 35)) → (tn (w 35) < i + n) → va_P D vwCl [(h0, .inr (9, [.ref a0, .ref b0, .int np, .int th, .int ed, .long hh])), (a0, .inl (cI, 129, .inl w)), (b0, .inl (cI, 516, .inl pf))] H → va_D A [(h0, .inr (9, [.ref a0, .ref b0, .int np, .int th, .int ed, .long hh])), (a0, .inl (cI, 129, .inl w)), (b0, .inl (cI, 516, .inl pf))] → va_S A s.heap H locs → lv_has ls 3 [(0, .ref h0), (1, .int sm), (2, .int (nI i))] → (∀ (y : (Nat) × (Int32)) (H : Heap) (locs : List Loc) (ls : Array Slot), y = LP_X9_speed n np th ed hh w pf i sm → va_P D vwCl [(h0, .inr (9, [.ref a0, .ref b0, .int np, .int th, .int ed, .long hh])), (a0, .inl (cI, 129, .inl w)), (b0, .inl (cI, 516, .inl pf))] H → va_D A [(h0, .inr (9, [.ref a0, .ref b0, .int np, .int th, .int ed, .long hh])), (a0, .inl (cI, 129, .inl w)), (b0, .inl (cI, 516, .inl pf))] → va_S A s.heap H locs → lv_has ls 3 [(0, .ref h0), (1, .int y.2), (2, .int (nI y.1))] → W p l e R s m args below meth c H locs cells slots Q (F0 m 38 ls [])) → W p l e R s m args below meth c H locs cells slots Q (F0 m 9 ls []) := by
  have hk_7 := hts (.fieldLink RX9 7 "HallCommutatorModel" "s" "[I") (by decide +kernel)
  have hiX9 : ∀ w ∈ u_ws RX9 TX9 6, w ∈ wsX9_speed := by decide +kernel
  intro n
  induction n with
  | zero =>
    intro h0 a0 b0 np th ed hh w pf i sm H locs ls hz hi hm
    exact absurd hm (by omega)
  | succ n ih =>
    intro h0 a0 b0 np th ed hh w pf i sm H locs ls hz hi hm hP hD hS hl kk
    refine lv_iload_n hx hb dX9_speed_9 rfl (lv_at hl 2 rfl) ?_
    refine lv_aload_n hx hb dX9_speed_10 rfl (lv_at hl 0 rfl) ?_
    refine va_get (D := D) (ci := 9) (v := .ref a0) (C := RX9) (T := TX9) (N := 6) hx hb hts hiX9 hown hK hP 0 rfl rfl 0 (by decide) hk_7 (fun _ h9 => h9) rfl dX9_speed_11 ?_
    refine lv_bipush (v := 35) hx hb dX9_speed_14 (by decide) ?_
    refine my_iald hx hb hK hP 1 0 rfl rfl 35 (rfl) (by decide) (by decide) dX9_speed_16 ?_
    refine lv_icmp_ge (tgt := 38) hx hb dX9_speed_17 (by decide) (fun c_1 => ?_) (fun c_1 => ?_)
    · skip
      exact kk (i, sm) _ _ _ (by simp only [LP_X9_speed, if_pos c_1]) (hP.subm [0, 1, 2] rfl) (hD.sub [0, 1, 2] rfl rfl) hS (lv_sub hl [0, 1, 2] rfl)
    · skip
      refine lv_iload_n hx hb dX9_speed_20 rfl (lv_at hl 1 rfl) ?_
      refine lv_aload_n hx hb dX9_speed_21 rfl (lv_at hl 0 rfl) ?_
      refine va_get (D := D) (ci := 9) (v := .ref a0) (C := RX9) (T := TX9) (N := 6) hx hb hts hiX9 hown hK hP 0 rfl rfl 0 (by decide) hk_7 (fun _ h9 => h9) rfl dX9_speed_22 ?_
      refine lv_bipush (v := 36) hx hb dX9_speed_25 (by decide) ?_
      refine lv_iload_n hx hb dX9_speed_27 rfl (lv_at hl 2 rfl) ?_
      refine my_iaddN hx hb 36 i rfl rfl dX9_speed_28 ?_
      refine my_iald hx hb hK hP 1 0 rfl rfl (36 + i) (rfl) (by have := nz_lt hz hi c_1; have := tn_lt hz; omega) (by decide) dX9_speed_29 ?_
      refine lv_iadd hx hb dX9_speed_30 ?_
      refine lv_istore_n (lv' := [(1, .int (sm + (w (36 + i)))), (0, .ref h0), (2, .int (nI i))]) hx hb dX9_speed_31 rfl hl (by decide) rfl (fun ls hl => ?_)
      refine lv_iinc (v := nI (i + 1)) (lv' := [(2, .int (nI (i + 1))), (1, .int (sm + (w (36 + i)))), (0, .ref h0)]) hx hb dX9_speed_32 hl (k := 2) rfl (nI_1 _) (by decide) rfl (fun ls hl => ?_)
      refine lv_goto (tgt := 9) hx hb dX9_speed_35 (by decide) ?_
      exact ih h0 a0 b0 np th ed hh w pf (i + 1) (sm + (w (36 + i))) _ _ _ (hz) (nz_lt hz hi c_1) (by omega) (hP.subm [0, 1, 2] rfl) (hD.sub [0, 1, 2] rfl rfl) hS (lv_sub hl [2, 1, 0] rfl) (fun y H locs ls hy => kk y H locs ls (by rw [hy]; simp only [LP_X9_speed, if_neg c_1]))
def F_X9_speed (np : Int32) (th : Int32) (ed : Int32) (hh : Int64) (w : Nat → Int32) (pf : Nat → Int32) : UInt64 × Int32 :=
  let q1 := LP_X9_speed 7 np (0 : Int32) ed hh w pf 0 (0 : Int32)
  if w 35 = (0 : Int32) then
    (FP.dconst0, ((0 : Int32)))
  else
    (FP.ddiv (FP.dmul (FP.i2d (w 34)) (FP.dmul bM (FP.i2d (w 35)))) (FP.dmul bS (FP.i2d q1.2)), ((0 : Int32)))
set_option maxHeartbeats 4000000 in
set_option maxRecDepth 100000 in
theorem met_X9_speed (l : Launch) (D : va_G) (cI cJ cS : ClassId) (h0 : Nat) (a0 : Nat) (b0 : Nat) (np : Int32) (th : Int32) (ed : Int32) (hh : Int64) (w : Nat → Int32) (pf : Nat → Int32) (hz : vp_in (w 35) 7) (hd : w 34 = 1 ∨ w 34 = -1 ∨ w 35 = 0) : ∀ sz : Nat, Met l yX9_speed wsX9_speed ({ frames := 0, cells := 0, slots := 0, locals := 0 } : Room) (va_Pc [.ref h0] (cPre D (tyz cI cJ cS) ([(h0, .inr (9, [.ref a0, .ref b0, .int np, .int th, .int ed, .long hh])), (a0, .inl (cI, 129, .inl w)), (b0, .inl (cI, 516, .inl pf))]) sz)) (va_Qd (fun (r : UInt64) (u : Int32) => (r, u) = F_X9_speed np th ed hh w pf) (fun u => cPost D (tyz cI cJ cS) (va_A ([(h0, .inr (9, [.ref a0, .ref b0, .int np, .int th, .int ed, .long hh])), (a0, .inl (cI, 129, .inl w)), (b0, .inl (cI, 516, .inl pf))]) sz) ([(h0, .inr (9, [.ref a0, .ref b0, .int np, .int u, .int ed, .long hh])), (a0, .inl (cI, 129, .inl w)), (b0, .inl (cI, 516, .inl pf))])) (va_A ([(h0, .inr (9, [.ref a0, .ref b0, .int np, .int th, .int ed, .long hh])), (a0, .inl (cI, 129, .inl w)), (b0, .inl (cI, 516, .inl pf))]) sz)) 0 0 (va_A ([(h0, .inr (9, [.ref a0, .ref b0, .int np, .int th, .int ed, .long hh])), (a0, .inl (cI, 129, .inl w)), (b0, .inl (cI, 516, .inl pf))]) sz) := by
  refine my_met (QC := fun A => (va_Qd (fun (r : UInt64) (u : Int32) => (r, u) = F_X9_speed np th ed hh w pf) (fun u => cPost D (tyz cI cJ cS) A ([(h0, .inr (9, [.ref a0, .ref b0, .int np, .int u, .int ed, .long hh])), (a0, .inl (cI, 129, .inl w)), (b0, .inl (cI, 516, .inl pf))])) A)) (cc := cX9_speed) (maxL := 3) (ret := (some .double)) (by decide) rfl (Nat.le_of_ble_eq_true rfl) ?_
  intro p e s m below meth c ls A hx hb hml hr hts hown hlocks hname hK hP hD hS hA hG hl
  have hown : s.vm.findClass RX9 = some m.cls := hown
  have hl : lv_has ls 3 [(0, .ref h0)] := hl
  have hP : va_P D vwCl [(h0, .inr (9, [.ref a0, .ref b0, .int np, .int th, .int ed, .long hh])), (a0, .inl (cI, 129, .inl w)), (b0, .inl (cI, 516, .inl pf))] s.heap := hP
  have hD : va_D A [(h0, .inr (9, [.ref a0, .ref b0, .int np, .int th, .int ed, .long hh])), (a0, .inl (cI, 129, .inl w)), (b0, .inl (cI, 516, .inl pf))] := hD
  have hiX9 : ∀ w ∈ u_ws RX9 TX9 6, w ∈ wsX9_speed := by decide +kernel
  have hk_16 := hts (.fieldLink RX9 16 "HallCommutatorModel" "thrown" "I") (by decide +kernel)
  have hk_7 := hts (.fieldLink RX9 7 "HallCommutatorModel" "s" "[I") (by decide +kernel)
  refine lv_aload_n hx hb dX9_speed_0 rfl (lv_at hl 0 rfl) ?_
  refine lv_iconst (v := 0) hx hb dX9_speed_1 (by decide) ?_
  refine va_put (D := D) (ci := 9) (v := .int (0 : Int32)) (ty := .int) (C := RX9) (T := TX9) (N := 6) hx hb hts hiX9 tyX9 tyX9_ok nmX9 hown hK hP hD hS 0 rfl rfl 3 (by decide) hk_16 (fun _ h9 => h9) rfl (by decide +kernel) rfl rfl (Nat.le_of_ble_eq_true rfl) dX9_speed_2 (fun H locs hP hD hS => ?_)
  have hP : va_P D vwCl [(h0, .inr (9, [.ref a0, .ref b0, .int np, .int (0 : Int32), .int ed, .long hh])), (a0, .inl (cI, 129, .inl w)), (b0, .inl (cI, 516, .inl pf))] H := hP
  have hD : va_D A [(h0, .inr (9, [.ref a0, .ref b0, .int np, .int (0 : Int32), .int ed, .long hh])), (a0, .inl (cI, 129, .inl w)), (b0, .inl (cI, 516, .inl pf))] := hD
  refine lv_iconst (v := 0) hx hb dX9_speed_5 (by decide) ?_
  refine lv_istore_n (lv' := [(1, .int (0 : Int32)), (0, .ref h0)]) hx hb dX9_speed_6 rfl hl (by decide) rfl (fun ls hl => ?_)
  refine lv_iconst (v := 0) hx hb dX9_speed_7 (by decide) ?_
  refine lv_istore_n (lv' := [(2, .int (0 : Int32)), (1, .int (0 : Int32)), (0, .ref h0)]) hx hb dX9_speed_8 rfl hl (by decide) rfl (fun ls hl => ?_)
  refine lps_X9_speed l D cI cJ cS hx hb hml hown hts hK hA hG 7 h0 a0 b0 np (0 : Int32) ed hh w pf 0 (0 : Int32) _ _ _ (hz) (Nat.zero_le _) (by have := tn_lt hz; omega) (hP.subm [0, 1, 2] rfl) (hD.sub [0, 1, 2] rfl rfl) hS (lv_sub hl [2, 1, 0] rfl) (fun y_1 H locs ls hw_1 hP hD hS hl => ?_)
  obtain ⟨y_1_0, y_1_1⟩ := y_1
  have hl : lv_has ls 3 [(0, .ref h0), (1, .int y_1_1), (2, .int (nI y_1_0))] := hl
  have hP : va_P D vwCl [(h0, .inr (9, [.ref a0, .ref b0, .int np, .int (0 : Int32), .int ed, .long hh])), (a0, .inl (cI, 129, .inl w)), (b0, .inl (cI, 516, .inl pf))] H := hP
  have hD : va_D A [(h0, .inr (9, [.ref a0, .ref b0, .int np, .int (0 : Int32), .int ed, .long hh])), (a0, .inl (cI, 129, .inl w)), (b0, .inl (cI, 516, .inl pf))] := hD
  refine lv_aload_n hx hb dX9_speed_38 rfl (lv_at hl 0 rfl) ?_
  refine va_get (D := D) (ci := 9) (v := .ref a0) (C := RX9) (T := TX9) (N := 6) hx hb hts hiX9 hown hK hP 0 rfl rfl 0 (by decide) hk_7 (fun _ h9 => h9) rfl dX9_speed_39 ?_
  refine lv_bipush (v := 35) hx hb dX9_speed_42 (by decide) ?_
  refine my_iald hx hb hK hP 1 0 rfl rfl 35 (rfl) (by decide) (by decide) dX9_speed_44 ?_
  refine lv_if_ne (tgt := 52) hx hb dX9_speed_45 (by decide) (fun c_2 => ?_) (fun c_2 => ?_)
  · skip
    refine lv_aload_n hx hb dX9_speed_52 rfl (lv_at hl 0 rfl) ?_
    refine va_get (D := D) (ci := 9) (v := .ref a0) (C := RX9) (T := TX9) (N := 6) hx hb hts hiX9 hown hK hP 0 rfl rfl 0 (by decide) hk_7 (fun _ h9 => h9) rfl dX9_speed_53 ?_
    refine lv_bipush (v := 34) hx hb dX9_speed_56 (by decide) ?_
    refine my_iald hx hb hK hP 1 0 rfl rfl 34 (rfl) (by decide) (by decide) dX9_speed_58 ?_
    refine lv_i2d hx hb dX9_speed_59 ?_
    refine lv_ldc2d (v := bM) hx hb hown (hts (.constantDouble RX9 98 bM) (by decide +kernel)) dX9_speed_60 ?_
    refine lv_aload_n hx hb dX9_speed_63 rfl (lv_at hl 0 rfl) ?_
    refine va_get (D := D) (ci := 9) (v := .ref a0) (C := RX9) (T := TX9) (N := 6) hx hb hts hiX9 hown hK hP 0 rfl rfl 0 (by decide) hk_7 (fun _ h9 => h9) rfl dX9_speed_64 ?_
    refine lv_bipush (v := 35) hx hb dX9_speed_67 (by decide) ?_
    refine my_iald hx hb hK hP 1 0 rfl rfl 35 (rfl) (by decide) (by decide) dX9_speed_69 ?_
    refine lv_i2d hx hb dX9_speed_70 ?_
    refine lv_dmul hx hb dX9_speed_71 (spd1 _) ?_
    refine lv_dmul hx hb dX9_speed_72 (spd2 hz c_2 (spd_or c_2 hd)) ?_
    refine lv_ldc2d (v := bS) hx hb hown (hts (.constantDouble RX9 100 bS) (by decide +kernel)) dX9_speed_73 ?_
    refine lv_iload_n hx hb dX9_speed_76 rfl (lv_at hl 1 rfl) ?_
    refine lv_i2d hx hb dX9_speed_77 ?_
    refine lv_dmul hx hb dX9_speed_78 (n64_of (spd3i _)) ?_
    refine lv_ddiv hx hb dX9_speed_79 (spd4 hz c_2 (spd_or c_2 hd) (spd3i _)) ?_
    exact my_dret hx hb hr hlocks hK hP hD hS ((0 : Int32)) (by show (FP.ddiv (FP.dmul (FP.i2d (w 34)) (FP.dmul bM (FP.i2d (w 35)))) (FP.dmul bS (FP.i2d y_1_1)), ((0 : Int32))) = F_X9_speed np th ed hh w pf; simp only [F_X9_speed, if_neg c_2, ← hw_1]) [0, 1, 2] rfl rfl dX9_speed_80
  · skip
    refine lv_dconst0 hx hb dX9_speed_48 ?_
    refine lv_goto (tgt := 80) hx hb dX9_speed_49 (by decide) ?_
    exact my_dret hx hb hr hlocks hK hP hD hS ((0 : Int32)) (by show (FP.dconst0, ((0 : Int32))) = F_X9_speed np th ed hh w pf; simp only [F_X9_speed, if_pos c_2, ← hw_1]) [0, 1, 2] rfl rfl dX9_speed_80
