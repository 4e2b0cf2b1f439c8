def F_X4_copyFrom (z : Int32) (tk : Nat → Int32) (cd : Nat → Int32) (y : Int32) (tj : Nat → Int32) (cj : Nat → Int32) : Int32 × (Nat → Int32) × (Nat → Int32) :=
  (y, va_cpy tj tk 0 0 40, va_cpy cj cd 0 0 40)
set_option maxHeartbeats 4000000 in
set_option maxRecDepth 100000 in
theorem met_X4_copyFrom (l : Launch) (D : va_G) (cI cJ cS : ClassId) (h0 : Nat) (h1 : Nat) (a0 : Nat) (b0 : Nat) (a1 : Nat) (b1 : Nat) (z : Int32) (tk : Nat → Int32) (cd : Nat → Int32) (y : Int32) (tj : Nat → Int32) (cj : Nat → Int32)  : ∀ sz : Nat, Met l yX4_copyFrom wsX4_copyFrom ({ frames := 1, cells := 0, slots := 0, locals := 60 } : Room) (va_Pc [.ref h0, .ref h1] (cPre D (tyz cI cJ cS) ([(h0, .inr (4, [.ref a0, .ref b0, .int z])), (a0, .inl (cI, 40, .inl tk)), (b0, .inl (cI, 40, .inl cd)), (h1, .inr (4, [.ref a1, .ref b1, .int y])), (a1, .inl (cI, 40, .inl tj)), (b1, .inl (cI, 40, .inl cj))]) sz)) (va_Qv (fun (u : Int32 × (Nat → Int32) × (Nat → Int32)) => u = F_X4_copyFrom z tk cd y tj cj) (fun u => cPost D (tyz cI cJ cS) (va_A ([(h0, .inr (4, [.ref a0, .ref b0, .int z])), (a0, .inl (cI, 40, .inl tk)), (b0, .inl (cI, 40, .inl cd)), (h1, .inr (4, [.ref a1, .ref b1, .int y])), (a1, .inl (cI, 40, .inl tj)), (b1, .inl (cI, 40, .inl cj))]) sz) ([(h0, .inr (4, [.ref a0, .ref b0, .int u.1])), (a0, .inl (cI, 40, .inl u.2.1)), (b0, .inl (cI, 40, .inl u.2.2)), (h1, .inr (4, [.ref a1, .ref b1, .int y])), (a1, .inl (cI, 40, .inl tj)), (b1, .inl (cI, 40, .inl cj))])) (va_A ([(h0, .inr (4, [.ref a0, .ref b0, .int z])), (a0, .inl (cI, 40, .inl tk)), (b0, .inl (cI, 40, .inl cd)), (h1, .inr (4, [.ref a1, .ref b1, .int y])), (a1, .inl (cI, 40, .inl tj)), (b1, .inl (cI, 40, .inl cj))]) sz)) 0 0 (va_A ([(h0, .inr (4, [.ref a0, .ref b0, .int z])), (a0, .inl (cI, 40, .inl tk)), (b0, .inl (cI, 40, .inl cd)), (h1, .inr (4, [.ref a1, .ref b1, .int y])), (a1, .inl (cI, 40, .inl tj)), (b1, .inl (cI, 40, .inl cj))]) sz) := by
  refine my_met (QC := fun A => (va_Qv (fun (u : Int32 × (Nat → Int32) × (Nat → Int32)) => u = F_X4_copyFrom z tk cd y tj cj) (fun u => cPost D (tyz cI cJ cS) A ([(h0, .inr (4, [.ref a0, .ref b0, .int u.1])), (a0, .inl (cI, 40, .inl u.2.1)), (b0, .inl (cI, 40, .inl u.2.2)), (h1, .inr (4, [.ref a1, .ref b1, .int y])), (a1, .inl (cI, 40, .inl tj)), (b1, .inl (cI, 40, .inl cj))])) A)) (cc := cX4_copyFrom) (maxL := 2) (ret := none) (by decide) rfl (Nat.le_of_ble_eq_true rfl) ?_
  intro p e s m below meth c ls A hx hb hml hr hts hown hlocks hname hK hP hD hS hA hG hl
  have hown : s.vm.findClass RX4 = some m.cls := hown
  have hl : lv_has ls 2 [(0, .ref h0), (1, .ref h1)] := hl
  have hP : va_P D vwCl [(h0, .inr (4, [.ref a0, .ref b0, .int z])), (a0, .inl (cI, 40, .inl tk)), (b0, .inl (cI, 40, .inl cd)), (h1, .inr (4, [.ref a1, .ref b1, .int y])), (a1, .inl (cI, 40, .inl tj)), (b1, .inl (cI, 40, .inl cj))] s.heap := hP
  have hD : va_D A [(h0, .inr (4, [.ref a0, .ref b0, .int z])), (a0, .inl (cI, 40, .inl tk)), (b0, .inl (cI, 40, .inl cd)), (h1, .inr (4, [.ref a1, .ref b1, .int y])), (a1, .inl (cI, 40, .inl tj)), (b1, .inl (cI, 40, .inl cj))] := hD
  have hiX4 : ∀ w ∈ u_ws RX4 TX4 3, w ∈ wsX4_copyFrom := by decide +kernel
  have hk_15 := hts (.fieldLink RX4 15 "HallCommutator$Queue" "codes" "[I") (by decide +kernel)
  have hk_18 := hts (.fieldLink RX4 18 "HallCommutator$Queue" "size" "I") (by decide +kernel)
  have hk_9 := hts (.fieldLink RX4 9 "HallCommutator$Queue" "ticks" "[I") (by decide +kernel)
  refine lv_aload_n hx hb dX4_copyFrom_0 rfl (lv_at hl 1 rfl) ?_
  refine va_get (D := D) (ci := 4) (v := .ref a1) (C := RX4) (T := TX4) (N := 3) hx hb hts hiX4 hown hK hP 3 rfl rfl 0 (by decide) hk_9 (fun _ h9 => h9) rfl dX4_copyFrom_1 ?_
  refine lv_iconst (v := 0) hx hb dX4_copyFrom_4 (by decide) ?_
  refine lv_aload_n hx hb dX4_copyFrom_5 rfl (lv_at hl 0 rfl) ?_
  refine va_get (D := D) (ci := 4) (v := .ref a0) (C := RX4) (T := TX4) (N := 3) hx hb hts hiX4 hown hK hP 0 rfl rfl 0 (by decide) hk_9 (fun _ h9 => h9) rfl dX4_copyFrom_6 ?_
  refine lv_iconst (v := 0) hx hb dX4_copyFrom_9 (by decide) ?_
  refine lv_bipush (v := 40) hx hb dX4_copyFrom_10 (by decide) ?_
  refine va_copyi (ty := .int) hx hb (by rw [hml]; exact hl.1.symm) hown (hts (.methodLink RX4 22 arraycopyName) (by decide +kernel)) (hts (.native arraycopyName) (by decide +kernel)) (hts (.static arraycopyName) (by decide +kernel)) (hts (.initialized "java/lang/System") (by decide +kernel)) hK hP hD hS 4 1 0 0 rfl rfl rfl rfl rfl (by decide) (by decide) (by decide) (by decide) (by decide) (fun _ _ => rfl) (Nat.le_of_ble_eq_true rfl) (Nat.le_of_ble_eq_true rfl) dX4_copyFrom_12 (fun H locs hP hD hS => ?_)
  have hP : va_P D vwCl [(h0, .inr (4, [.ref a0, .ref b0, .int z])), (a0, .inl (cI, 40, .inl (va_cpy tj tk 0 0 40))), (b0, .inl (cI, 40, .inl cd)), (h1, .inr (4, [.ref a1, .ref b1, .int y])), (a1, .inl (cI, 40, .inl tj)), (b1, .inl (cI, 40, .inl cj))] H := hP
  have hD : va_D A [(h0, .inr (4, [.ref a0, .ref b0, .int z])), (a0, .inl (cI, 40, .inl (va_cpy tj tk 0 0 40))), (b0, .inl (cI, 40, .inl cd)), (h1, .inr (4, [.ref a1, .ref b1, .int y])), (a1, .inl (cI, 40, .inl tj)), (b1, .inl (cI, 40, .inl cj))] := hD
  refine lv_aload_n hx hb dX4_copyFrom_15 rfl (lv_at hl 1 rfl) ?_
  refine va_get (D := D) (ci := 4) (v := .ref b1) (C := RX4) (T := TX4) (N := 3) hx hb hts hiX4 hown hK hP 3 rfl rfl 1 (by decide) hk_15 (fun _ h9 => h9) rfl dX4_copyFrom_16 ?_
  refine lv_iconst (v := 0) hx hb dX4_copyFrom_19 (by decide) ?_
  refine lv_aload_n hx hb dX4_copyFrom_20 rfl (lv_at hl 0 rfl) ?_
  refine va_get (D := D) (ci := 4) (v := .ref b0) (C := RX4) (T := TX4) (N := 3) hx hb hts hiX4 hown hK hP 0 rfl rfl 1 (by decide) hk_15 (fun _ h9 => h9) rfl dX4_copyFrom_21 ?_
  refine lv_iconst (v := 0) hx hb dX4_copyFrom_24 (by decide) ?_
  refine lv_bipush (v := 40) hx hb dX4_copyFrom_25 (by decide) ?_
  refine va_copyi (ty := .int) hx hb (by rw [hml]; exact hl.1.symm) hown (hts (.methodLink RX4 22 arraycopyName) (by decide +kernel)) (hts (.native arraycopyName) (by decide +kernel)) (hts (.static arraycopyName) (by decide +kernel)) (hts (.initialized "java/lang/System") (by decide +kernel)) hK hP hD hS 5 2 0 0 rfl rfl rfl rfl rfl (by decide) (by decide) (by decide) (by decide) (by decide) (fun _ _ => rfl) (Nat.le_of_ble_eq_true rfl) (Nat.le_of_ble_eq_true rfl) dX4_copyFrom_27 (fun H locs hP hD hS => ?_)
  have hP : va_P D vwCl [(h0, .inr (4, [.ref a0, .ref b0, .int z])), (a0, .inl (cI, 40, .inl (va_cpy tj tk 0 0 40))), (b0, .inl (cI, 40, .inl (va_cpy cj cd 0 0 40))), (h1, .inr (4, [.ref a1, .ref b1, .int y])), (a1, .inl (cI, 40, .inl tj)), (b1, .inl (cI, 40, .inl cj))] H := hP
  have hD : va_D A [(h0, .inr (4, [.ref a0, .ref b0, .int z])), (a0, .inl (cI, 40, .inl (va_cpy tj tk 0 0 40))), (b0, .inl (cI, 40, .inl (va_cpy cj cd 0 0 40))), (h1, .inr (4, [.ref a1, .ref b1, .int y])), (a1, .inl (cI, 40, .inl tj)), (b1, .inl (cI, 40, .inl cj))] := hD
  refine lv_aload_n hx hb dX4_copyFrom_30 rfl (lv_at hl 0 rfl) ?_
  refine lv_aload_n hx hb dX4_copyFrom_31 rfl (lv_at hl 1 rfl) ?_
  refine va_get (D := D) (ci := 4) (v := .int y) (C := RX4) (T := TX4) (N := 3) hx hb hts hiX4 hown hK hP 3 rfl rfl 2 (by decide) hk_18 (fun _ h9 => h9) rfl dX4_copyFrom_32 ?_
  refine va_put (D := D) (ci := 4) (v := .int y) (ty := .int) (C := RX4) (T := TX4) (N := 3) hx hb hts hiX4 tyX4 tyX4_ok nmX4 hown hK hP hD hS 0 rfl rfl 2 (by decide) hk_18 (fun _ h9 => h9) rfl (by decide +kernel) rfl rfl (Nat.le_of_ble_eq_true rfl) dX4_copyFrom_35 (fun H locs hP hD hS => ?_)
  have hP : va_P D vwCl [(h0, .inr (4, [.ref a0, .ref b0, .int y])), (a0, .inl (cI, 40, .inl (va_cpy tj tk 0 0 40))), (b0, .inl (cI, 40, .inl (va_cpy cj cd 0 0 40))), (h1, .inr (4, [.ref a1, .ref b1, .int y])), (a1, .inl (cI, 40, .inl tj)), (b1, .inl (cI, 40, .inl cj))] H := hP
  have hD : va_D A [(h0, .inr (4, [.ref a0, .ref b0, .int y])), (a0, .inl (cI, 40, .inl (va_cpy tj tk 0 0 40))), (b0, .inl (cI, 40, .inl (va_cpy cj cd 0 0 40))), (h1, .inr (4, [.ref a1, .ref b1, .int y])), (a1, .inl (cI, 40, .inl tj)), (b1, .inl (cI, 40, .inl cj))] := hD
  exact my_vret hx hb hr hlocks hK hP hD hS (y, va_cpy tj tk 0 0 40, va_cpy cj cd 0 0 40) (by show (y, va_cpy tj tk 0 0 40, va_cpy cj cd 0 0 40) = F_X4_copyFrom z tk cd y tj cj; simp only [F_X4_copyFrom]) [0, 1, 2, 3, 4, 5] rfl rfl dX4_copyFrom_38
def F_X4_lastCode (z : Int32) (tk : Nat → Int32) (cd : Nat → Int32) (t : Int32) : Int32 :=
  if z ≤ (0 : Int32) then
    t
  else
    cd (tn z - 1)
set_option maxHeartbeats 4000000 in
set_option maxRecDepth 100000 in
theorem met_X4_lastCode (l : Launch) (D : va_G) (cI cJ cS : ClassId) (h0 : Nat) (a0 : Nat) (b0 : Nat) (z : Int32) (tk : Nat → Int32) (cd : Nat → Int32) (t : Int32) (hz : vp_in z 41) : ∀ sz : Nat, Met l yX4_lastCode wsX4_lastCode ({ frames := 0, cells := 0, slots := 0, locals := 0 } : Room) (va_Pc [.ref h0, .int t] (cPre D (tyz cI cJ cS) ([(h0, .inr (4, [.ref a0, .ref b0, .int z])), (a0, .inl (cI, 40, .inl tk)), (b0, .inl (cI, 40, .inl cd))]) sz)) (va_Qi (fun (r : Int32) (_ : Unit) => r = F_X4_lastCode z tk cd t) (fun u => cPost D (tyz cI cJ cS) (va_A ([(h0, .inr (4, [.ref a0, .ref b0, .int z])), (a0, .inl (cI, 40, .inl tk)), (b0, .inl (cI, 40, .inl cd))]) sz) ([(h0, .inr (4, [.ref a0, .ref b0, .int z])), (a0, .inl (cI, 40, .inl tk)), (b0, .inl (cI, 40, .inl cd))])) (va_A ([(h0, .inr (4, [.ref a0, .ref b0, .int z])), (a0, .inl (cI, 40, .inl tk)), (b0, .inl (cI, 40, .inl cd))]) sz)) 0 0 (va_A ([(h0, .inr (4, [.ref a0, .ref b0, .int z])), (a0, .inl (cI, 40, .inl tk)), (b0, .inl (cI, 40, .inl cd))]) sz) := by
  refine my_met (QC := fun A => (va_Qi (fun (r : Int32) (_ : Unit) => r = F_X4_lastCode z tk cd t) (fun u => cPost D (tyz cI cJ cS) A ([(h0, .inr (4, [.ref a0, .ref b0, .int z])), (a0, .inl (cI, 40, .inl tk)), (b0, .inl (cI, 40, .inl cd))])) A)) (cc := cX4_lastCode) (maxL := 2) (ret := (some .int)) (by decide) rfl (Nat.le_of_ble_eq_true rfl) ?_
  intro p e s m below meth c ls A hx hb hml hr hts hown hlocks hname hK hP hD hS hA hG hl
  have hown : s.vm.findClass RX4 = some m.cls := hown
  have hl : lv_has ls 2 [(0, .ref h0), (1, .int t)] := hl
  have hP : va_P D vwCl [(h0, .inr (4, [.ref a0, .ref b0, .int z])), (a0, .inl (cI, 40, .inl tk)), (b0, .inl (cI, 40, .inl cd))] s.heap := hP
  have hD : va_D A [(h0, .inr (4, [.ref a0, .ref b0, .int z])), (a0, .inl (cI, 40, .inl tk)), (b0, .inl (cI, 40, .inl cd))] := hD
  have hiX4 : ∀ w ∈ u_ws RX4 TX4 3, w ∈ wsX4_lastCode := by decide +kernel
  have hk_15 := hts (.fieldLink RX4 15 "HallCommutator$Queue" "codes" "[I") (by decide +kernel)
  have hk_18 := hts (.fieldLink RX4 18 "HallCommutator$Queue" "size" "I") (by decide +kernel)
  refine lv_aload_n hx hb dX4_lastCode_0 rfl (lv_at hl 0 rfl) ?_
  refine va_get (D := D) (ci := 4) (v := .int z) (C := RX4) (T := TX4) (N := 3) hx hb hts hiX4 hown hK hP 0 rfl rfl 2 (by decide) hk_18 (fun _ h9 => h9) rfl dX4_lastCode_1 ?_
  refine lv_if_le (tgt := 21) hx hb dX4_lastCode_4 (by decide) (fun c_1 => ?_) (fun c_1 => ?_)
  · skip
    refine lv_iload_n hx hb dX4_lastCode_21 rfl (lv_at hl 1 rfl) ?_
    exact my_iret hx hb hr rfl hlocks hK hP hD hS () (by show t = F_X4_lastCode z tk cd t; simp only [F_X4_lastCode, if_pos c_1]) [0, 1, 2] rfl rfl dX4_lastCode_22
  · skip
    refine lv_aload_n hx hb dX4_lastCode_7 rfl (lv_at hl 0 rfl) ?_
    refine va_get (D := D) (ci := 4) (v := .ref b0) (C := RX4) (T := TX4) (N := 3) hx hb hts hiX4 hown hK hP 0 rfl rfl 1 (by decide) hk_15 (fun _ h9 => h9) rfl dX4_lastCode_8 ?_
    refine lv_aload_n hx hb dX4_lastCode_11 rfl (lv_at hl 0 rfl) ?_
    refine va_get (D := D) (ci := 4) (v := .int z) (C := RX4) (T := TX4) (N := 3) hx hb hts hiX4 hown hK hP 0 rfl rfl 2 (by decide) hk_18 (fun _ h9 => h9) rfl dX4_lastCode_12 ?_
    refine lv_iconst (v := 1) hx hb dX4_lastCode_15 (by decide) ?_
    refine lv_isub hx hb dX4_lastCode_16 ?_
    refine my_iald hx hb hK hP 2 0 rfl rfl (tn z - 1) (tn_pred hz (Int32.not_le.mp c_1)) (by have := tn_lt hz; omega) (by decide) dX4_lastCode_17 ?_
    refine lv_goto (tgt := 22) hx hb dX4_lastCode_18 (by decide) ?_
    exact my_iret hx hb hr rfl hlocks hK hP hD hS () (by show cd (tn z - 1) = F_X4_lastCode z tk cd t; simp only [F_X4_lastCode, if_neg c_1]) [0, 1, 2] rfl rfl dX4_lastCode_22
def F_X4_lastTick (z : Int32) (tk : Nat → Int32) (cd : Nat → Int32) (t : Int32) : Int32 :=
  if z ≤ (0 : Int32) then
    t
  else
    tk (tn z - 1)
set_option maxHeartbeats 4000000 in
set_option maxRecDepth 100000 in
theorem met_X4_lastTick (l : Launch) (D : va_G) (cI cJ cS : ClassId) (h0 : Nat) (a0 : Nat) (b0 : Nat) (z : Int32) (tk : Nat → Int32) (cd : Nat → Int32) (t : Int32) (hz : vp_in z 41) : ∀ sz : Nat, Met l yX4_lastTick wsX4_lastTick ({ frames := 0, cells := 0, slots := 0, locals := 0 } : Room) (va_Pc [.ref h0, .int t] (cPre D (tyz cI cJ cS) ([(h0, .inr (4, [.ref a0, .ref b0, .int z])), (a0, .inl (cI, 40, .inl tk)), (b0, .inl (cI, 40, .inl cd))]) sz)) (va_Qi (fun (r : Int32) (_ : Unit) => r = F_X4_lastTick z tk cd t) (fun u => cPost D (tyz cI cJ cS) (va_A ([(h0, .inr (4, [.ref a0, .ref b0, .int z])), (a0, .inl (cI, 40, .inl tk)), (b0, .inl (cI, 40, .inl cd))]) sz) ([(h0, .inr (4, [.ref a0, .ref b0, .int z])), (a0, .inl (cI, 40, .inl tk)), (b0, .inl (cI, 40, .inl cd))])) (va_A ([(h0, .inr (4, [.ref a0, .ref b0, .int z])), (a0, .inl (cI, 40, .inl tk)), (b0, .inl (cI, 40, .inl cd))]) sz)) 0 0 (va_A ([(h0, .inr (4, [.ref a0, .ref b0, .int z])), (a0, .inl (cI, 40, .inl tk)), (b0, .inl (cI, 40, .inl cd))]) sz) := by
  refine my_met (QC := fun A => (va_Qi (fun (r : Int32) (_ : Unit) => r = F_X4_lastTick z tk cd t) (fun u => cPost D (tyz cI cJ cS) A ([(h0, .inr (4, [.ref a0, .ref b0, .int z])), (a0, .inl (cI, 40, .inl tk)), (b0, .inl (cI, 40, .inl cd))])) A)) (cc := cX4_lastTick) (maxL := 2) (ret := (some .int)) (by decide) rfl (Nat.le_of_ble_eq_true rfl) ?_
  intro p e s m below meth c ls A hx hb hml hr hts hown hlocks hname hK hP hD hS hA hG hl
  have hown : s.vm.findClass RX4 = some m.cls := hown
  have hl : lv_has ls 2 [(0, .ref h0), (1, .int t)] := hl
  have hP : va_P D vwCl [(h0, .inr (4, [.ref a0, .ref b0, .int z])), (a0, .inl (cI, 40, .inl tk)), (b0, .inl (cI, 40, .inl cd))] s.heap := hP
  have hD : va_D A [(h0, .inr (4, [.ref a0, .ref b0, .int z])), (a0, .inl (cI, 40, .inl tk)), (b0, .inl (cI, 40, .inl cd))] := hD
  have hiX4 : ∀ w ∈ u_ws RX4 TX4 3, w ∈ wsX4_lastTick := by decide +kernel
  have hk_18 := hts (.fieldLink RX4 18 "HallCommutator$Queue" "size" "I") (by decide +kernel)
  have hk_9 := hts (.fieldLink RX4 9 "HallCommutator$Queue" "ticks" "[I") (by decide +kernel)
  refine lv_aload_n hx hb dX4_lastTick_0 rfl (lv_at hl 0 rfl) ?_
  refine va_get (D := D) (ci := 4) (v := .int z) (C := RX4) (T := TX4) (N := 3) hx hb hts hiX4 hown hK hP 0 rfl rfl 2 (by decide) hk_18 (fun _ h9 => h9) rfl dX4_lastTick_1 ?_
  refine lv_if_le (tgt := 21) hx hb dX4_lastTick_4 (by decide) (fun c_1 => ?_) (fun c_1 => ?_)
  · skip
    refine lv_iload_n hx hb dX4_lastTick_21 rfl (lv_at hl 1 rfl) ?_
    exact my_iret hx hb hr rfl hlocks hK hP hD hS () (by show t = F_X4_lastTick z tk cd t; simp only [F_X4_lastTick, if_pos c_1]) [0, 1, 2] rfl rfl dX4_lastTick_22
  · skip
    refine lv_aload_n hx hb dX4_lastTick_7 rfl (lv_at hl 0 rfl) ?_
    refine va_get (D := D) (ci := 4) (v := .ref a0) (C := RX4) (T := TX4) (N := 3) hx hb hts hiX4 hown hK hP 0 rfl rfl 0 (by decide) hk_9 (fun _ h9 => h9) rfl dX4_lastTick_8 ?_
    refine lv_aload_n hx hb dX4_lastTick_11 rfl (lv_at hl 0 rfl) ?_
    refine va_get (D := D) (ci := 4) (v := .int z) (C := RX4) (T := TX4) (N := 3) hx hb hts hiX4 hown hK hP 0 rfl rfl 2 (by decide) hk_18 (fun _ h9 => h9) rfl dX4_lastTick_12 ?_
    refine lv_iconst (v := 1) hx hb dX4_lastTick_15 (by decide) ?_
    refine lv_isub hx hb dX4_lastTick_16 ?_
    refine my_iald hx hb hK hP 1 0 rfl rfl (tn z - 1) (tn_pred hz (Int32.not_le.mp c_1)) (by have := tn_lt hz; omega) (by decide) dX4_lastTick_17 ?_
    refine lv_goto (tgt := 22) hx hb dX4_lastTick_18 (by decide) ?_
    exact my_iret hx hb hr rfl hlocks hK hP hD hS () (by show tk (tn z - 1) = F_X4_lastTick z tk cd t; simp only [F_X4_lastTick, if_neg c_1]) [0, 1, 2] rfl rfl dX4_lastTick_22
def LP_X4_mixInto : Nat → Int32 → (Nat → Int32) → (Nat → Int32) → Nat → Int64 → (Nat) × (Int64)
  | 0, _, _, _, i, h => (i, h)
  | n + 1, z, tk, cd, i, h =>
    if z ≤ nI i then
      (i, h)
    else
      let q2 := F_X8_mix h (tk i)
      let q3 := F_X8_mix q2 (cd i)
      LP_X4_mixInto n z tk cd (i + 1) q3
set_option maxHeartbeats 4000000 in
set_option maxRecDepth 100000 in
theorem lps_X4_mixInto {p : Program} (l : Launch) {e : Env} {R : Room} {s : State} {m : MethodId} {args : Array Value} {below : List Frame} {meth : Method} {c : Code} {A : Nat → Prop} {cells slots : Nat} {Q : State → Prop} (D : va_G) (cI cJ cS : ClassId) (hx : p.tables.exec = Jvm.exec) (hb : c.code = cX4_mixInto) (hml : c.maxLocals = 6) (hown : s.vm.findClass RX4 = some m.cls) (hts : ∀ w ∈ wsX4_mixInto, w.before args s = true) (hK : va_K D vwCl (tyz cI cJ cS) s) (hA : ∀ q, s.heap.size ≤ q → A q) (hG : gG A s s.heap) (hR1 : 1 ≤ R.frames) (hR2 : 22 ≤ R.locals) (hRc : cells ≤ R.cells) (hRs : slots ≤ R.slots) : ∀ (n : Nat) (h0 : Nat) (a0 : Nat) (b0 : Nat) (z : Int32) (tk : Nat → Int32) (cd : Nat → Int32) (i : Nat) (h : Int64) (H : Heap) (locs : List Loc) (ls : Array Slot), (vp_in z 41) → (i ≤ tn z) → (tn z < i + n) → va_P D vwCl [(h0, .inr (4, [.ref a0, .ref b0, .int z])), (a0, .inl (cI, 40, .inl tk)), (b0, .inl (cI, 40, .inl cd))] H → va_D A [(h0, .inr (4, [.ref a0, .ref b0, .int z])), (a0, .inl (cI, 40, .inl tk)), (b0, .inl (cI, 40, .inl cd))] → va_S A s.heap H locs → lv_has ls 6 [(0, .ref h0), (3, .long h), (5, .int (nI i))] → (∀ (y : (Nat) × (Int64)) (H : Heap) (locs : List Loc) (ls : Array Slot), y = LP_X4_mixInto n z tk cd i h → va_P D vwCl [(h0, .inr (4, [.ref a0, .ref b0, .int z])), (a0, .inl (cI, 40, .inl tk)), (b0, .inl (cI, 40, .inl cd))] H → va_D A [(h0, .inr (4, [.ref a0, .ref b0, .int z])), (a0, .inl (cI, 40, .inl tk)), (b0, .inl (cI, 40, .inl cd))] → va_S A s.heap H locs → lv_has ls 6 [(0, .ref h0), (3, .long y.2), (5, .int (nI y.1))] → W p l e R s m args below meth c H locs cells slots Q (F0 m 51 ls [])) → W p l e R s m args below meth c H locs cells slots Q (F0 m 12 ls []) := by
  have hk_9 := hts (.fieldLink RX4 9 "HallCommutator$Queue" "ticks" "[I") (by decide +kernel)
  have hk_18 := hts (.fieldLink RX4 18 "HallCommutator$Queue" "size" "I") (by decide +kernel)
  have hk_15 := hts (.fieldLink RX4 15 "HallCommutator$Queue" "codes" "[I") (by decide +kernel)
  have hiX4 : ∀ w ∈ u_ws RX4 TX4 3, w ∈ wsX4_mixInto := by decide +kernel
  intro n
  induction n with
  | zero =>
    intro h0 a0 b0 z tk cd i h H locs ls hz hi hm
    exact absurd hm (by omega)
  | succ n ih =>
    intro h0 a0 b0 z tk cd i h H locs ls hz hi hm hP hD hS hl kk
    refine lv_iload hx hb dX4_mixInto_12 (lv_at hl 2 rfl) ?_
    refine lv_aload_n hx hb dX4_mixInto_14 rfl (lv_at hl 0 rfl) ?_
    refine va_get (D := D) (ci := 4) (v := .int z) (C := RX4) (T := TX4) (N := 3) hx hb hts hiX4 hown hK hP 0 rfl rfl 2 (by decide) hk_18 (fun _ h9 => h9) rfl dX4_mixInto_15 ?_
    refine lv_icmp_ge (tgt := 51) hx hb dX4_mixInto_18 (by decide) (fun c_1 => ?_) (fun c_1 => ?_)
    · skip
      exact kk (i, h) _ _ _ (by simp only [LP_X4_mixInto, if_pos c_1]) (hP.subm [0, 1, 2] rfl) (hD.sub [0, 1, 2] rfl rfl) hS (lv_sub hl [0, 1, 2] rfl)
    · skip
      refine lv_lload_n hx hb dX4_mixInto_21 rfl (lv_at hl 1 rfl) ?_
      refine lv_aload_n hx hb dX4_mixInto_22 rfl (lv_at hl 0 rfl) ?_
      refine va_get (D := D) (ci := 4) (v := .ref a0) (C := RX4) (T := TX4) (N := 3) hx hb hts hiX4 hown hK hP 0 rfl rfl 0 (by decide) hk_9 (fun _ h9 => h9) rfl dX4_mixInto_23 ?_
      refine lv_iload hx hb dX4_mixInto_26 (lv_at hl 2 rfl) ?_
      refine my_iald hx hb hK hP 1 0 rfl rfl i (rfl) (by have := nz_lt hz hi c_1; have := tn_lt hz; omega) (by decide) dX4_mixInto_28 ?_
      refine my_callSN_l (As := [.long h, .int (tk i)]) (rest := []) (wc := []) (wr := [(h0, .inr (4, [.ref a0, .ref b0, .int z])), (a0, .inl (cI, 40, .inl tk)), (b0, .inl (cI, 40, .inl cd))]) ⟨hx, hb, hml, hown, hts⟩ (met_X8_mix l D cI cJ cS h (tk i) _) ⟨va_cnB 2 hts gX4_mixInto_X8_mix_n28 rfl rfl rfl (hG.1.1 (RX4, 28, yX8_mix, "HallCommutator") (by decide +kernel)) (hts (.initialized RX8) (by decide +kernel)) (by decide +kernel) ⟨Nat.le_trans (Nat.le_of_ble_eq_true rfl) hR1, Nat.le_trans (Nat.le_of_ble_eq_true rfl) hR2⟩, hts (.static yX8_mix) (by decide +kernel), trivial⟩ hK hP hD hS hA hG [] [0, 1, 2] rfl rfl rfl rfl (by decide) rfl hl.1 (Nat.le_of_ble_eq_true rfl) rfl dX4_mixInto_29 ⟨hRc, hRs⟩ (fun r_2 _ H locs hw_2 hP hD hS => ?_)
      have hP : va_P D vwCl [(h0, .inr (4, [.ref a0, .ref b0, .int z])), (a0, .inl (cI, 40, .inl tk)), (b0, .inl (cI, 40, .inl cd))] H := hP
      have hD : va_D A [(h0, .inr (4, [.ref a0, .ref b0, .int z])), (a0, .inl (cI, 40, .inl tk)), (b0, .inl (cI, 40, .inl cd))] := hD
      refine lv_lstore_n (lv' := [(3, .long r_2), (0, .ref h0), (5, .int (nI i))]) hx hb dX4_mixInto_32 rfl hl (by decide) rfl (fun ls hl => ?_)
      refine lv_lload_n hx hb dX4_mixInto_33 rfl (lv_at hl 0 rfl) ?_
      refine lv_aload_n hx hb dX4_mixInto_34 rfl (lv_at hl 1 rfl) ?_
      refine va_get (D := D) (ci := 4) (v := .ref b0) (C := RX4) (T := TX4) (N := 3) hx hb hts hiX4 hown hK hP 0 rfl rfl 1 (by decide) hk_15 (fun _ h9 => h9) rfl dX4_mixInto_35 ?_
      refine lv_iload hx hb dX4_mixInto_38 (lv_at hl 2 rfl) ?_
      refine my_iald hx hb hK hP 2 0 rfl rfl i (rfl) (by have := nz_lt hz hi c_1; have := tn_lt hz; omega) (by decide) dX4_mixInto_40 ?_
      refine my_callSN_l (As := [.long r_2, .int (cd i)]) (rest := []) (wc := []) (wr := [(h0, .inr (4, [.ref a0, .ref b0, .int z])), (a0, .inl (cI, 40, .inl tk)), (b0, .inl (cI, 40, .inl cd))]) ⟨hx, hb, hml, hown, hts⟩ (met_X8_mix l D cI cJ cS r_2 (cd i) _) ⟨va_cnB 2 hts gX4_mixInto_X8_mix_n28 rfl rfl rfl (hG.1.1 (RX4, 28, yX8_mix, "HallCommutator") (by decide +kernel)) (hts (.initialized RX8) (by decide +kernel)) (by decide +kernel) ⟨Nat.le_trans (Nat.le_of_ble_eq_true rfl) hR1, Nat.le_trans (Nat.le_of_ble_eq_true rfl) hR2⟩, hts (.static yX8_mix) (by decide +kernel), trivial⟩ hK hP hD hS hA hG [] [0, 1, 2] rfl rfl rfl rfl (by decide) rfl hl.1 (Nat.le_of_ble_eq_true rfl) rfl dX4_mixInto_41 ⟨hRc, hRs⟩ (fun r_3 _ H locs hw_3 hP hD hS => ?_)
      have hP : va_P D vwCl [(h0, .inr (4, [.ref a0, .ref b0, .int z])), (a0, .inl (cI, 40, .inl tk)), (b0, .inl (cI, 40, .inl cd))] H := hP
      have hD : va_D A [(h0, .inr (4, [.ref a0, .ref b0, .int z])), (a0, .inl (cI, 40, .inl tk)), (b0, .inl (cI, 40, .inl cd))] := hD
      refine lv_lstore_n (lv' := [(3, .long r_3), (0, .ref h0), (5, .int (nI i))]) hx hb dX4_mixInto_44 rfl hl (by decide) rfl (fun ls hl => ?_)
      refine lv_iinc (v := nI (i + 1)) (lv' := [(5, .int (nI (i + 1))), (3, .long r_3), (0, .ref h0)]) hx hb dX4_mixInto_45 hl (k := 2) rfl (nI_1 _) (by decide) rfl (fun ls hl => ?_)
      refine lv_goto (tgt := 12) hx hb dX4_mixInto_48 (by decide) ?_
      exact ih h0 a0 b0 z tk cd (i + 1) r_3 _ _ _ (hz) (nz_lt hz hi c_1) (by omega) (hP.subm [0, 1, 2] rfl) (hD.sub [0, 1, 2] rfl rfl) hS (lv_sub hl [2, 1, 0] rfl) (fun y H locs ls hy => kk y H locs ls (by rw [hy]; simp only [LP_X4_mixInto, if_neg c_1, ← hw_2, ← hw_3]))
def F_X4_mixInto (x : Int64) (z : Int32) (tk : Nat → Int32) (cd : Nat → Int32) : Int64 :=
  let q1 := F_X8_mix x z
  let q2 := LP_X4_mixInto 41 z tk cd 0 q1
  q2.2
set_option maxHeartbeats 4000000 in
set_option maxRecDepth 100000 in
theorem met_X4_mixInto (l : Launch) (D : va_G) (cI cJ cS : ClassId) (h0 : Nat) (a0 : Nat) (b0 : Nat) (x : Int64) (z : Int32) (tk : Nat → Int32) (cd : Nat → Int32) (hz : vp_in z 41) : ∀ sz : Nat, Met l yX4_mixInto wsX4_mixInto ({ frames := 1, cells := 0, slots := 0, locals := 22 } : Room) (va_Pc [.ref h0, .long x] (cPre D (tyz cI cJ cS) ([(h0, .inr (4, [.ref a0, .ref b0, .int z])), (a0, .inl (cI, 40, .inl tk)), (b0, .inl (cI, 40, .inl cd))]) sz)) (va_Ql (fun (r : Int64) (_ : Unit) => r = F_X4_mixInto x z tk cd) (fun u => cPost D (tyz cI cJ cS) (va_A ([(h0, .inr (4, [.ref a0, .ref b0, .int z])), (a0, .inl (cI, 40, .inl tk)), (b0, .inl (cI, 40, .inl cd))]) sz) ([(h0, .inr (4, [.ref a0, .ref b0, .int z])), (a0, .inl (cI, 40, .inl tk)), (b0, .inl (cI, 40, .inl cd))])) (va_A ([(h0, .inr (4, [.ref a0, .ref b0, .int z])), (a0, .inl (cI, 40, .inl tk)), (b0, .inl (cI, 40, .inl cd))]) sz)) 0 0 (va_A ([(h0, .inr (4, [.ref a0, .ref b0, .int z])), (a0, .inl (cI, 40, .inl tk)), (b0, .inl (cI, 40, .inl cd))]) sz) := by
  refine my_met (QC := fun A => (va_Ql (fun (r : Int64) (_ : Unit) => r = F_X4_mixInto x z tk cd) (fun u => cPost D (tyz cI cJ cS) A ([(h0, .inr (4, [.ref a0, .ref b0, .int z])), (a0, .inl (cI, 40, .inl tk)), (b0, .inl (cI, 40, .inl cd))])) A)) (cc := cX4_mixInto) (maxL := 6) (ret := (some .long)) (by decide) rfl (Nat.le_of_ble_eq_true rfl) ?_
  intro p e s m below meth c ls A hx hb hml hr hts hown hlocks hname hK hP hD hS hA hG hl
  have hown : s.vm.findClass RX4 = some m.cls := hown
  have hl : lv_has ls 6 [(0, .ref h0), (1, .long x)] := hl
  have hP : va_P D vwCl [(h0, .inr (4, [.ref a0, .ref b0, .int z])), (a0, .inl (cI, 40, .inl tk)), (b0, .inl (cI, 40, .inl cd))] s.heap := hP
  have hD : va_D A [(h0, .inr (4, [.ref a0, .ref b0, .int z])), (a0, .inl (cI, 40, .inl tk)), (b0, .inl (cI, 40, .inl cd))] := hD
  have hiX4 : ∀ w ∈ u_ws RX4 TX4 3, w ∈ wsX4_mixInto := by decide +kernel
  have hk_18 := hts (.fieldLink RX4 18 "HallCommutator$Queue" "size" "I") (by decide +kernel)
  refine lv_lload_n hx hb dX4_mixInto_0 rfl (lv_at hl 1 rfl) ?_
  refine lv_aload_n hx hb dX4_mixInto_1 rfl (lv_at hl 0 rfl) ?_
  refine va_get (D := D) (ci := 4) (v := .int z) (C := RX4) (T := TX4) (N := 3) hx hb hts hiX4 hown hK hP 0 rfl rfl 2 (by decide) hk_18 (fun _ h9 => h9) rfl dX4_mixInto_2 ?_
  refine my_callSN_l (As := [.long x, .int z]) (rest := []) (wc := []) (wr := [(h0, .inr (4, [.ref a0, .ref b0, .int z])), (a0, .inl (cI, 40, .inl tk)), (b0, .inl (cI, 40, .inl cd))]) ⟨hx, hb, hml, hown, hts⟩ (met_X8_mix l D cI cJ cS x z _) ⟨va_cnB 2 hts gX4_mixInto_X8_mix_n28 rfl rfl rfl (hG.1.1 (RX4, 28, yX8_mix, "HallCommutator") (by decide +kernel)) (hts (.initialized RX8) (by decide +kernel)) (by decide +kernel) ⟨Nat.le_of_ble_eq_true rfl, Nat.le_of_ble_eq_true rfl⟩, hts (.static yX8_mix) (by decide +kernel), trivial⟩ hK hP hD hS hA hG [] [0, 1, 2] rfl rfl rfl rfl (by decide) rfl hl.1 (Nat.le_of_ble_eq_true rfl) rfl dX4_mixInto_5 ⟨Nat.le_of_ble_eq_true rfl, Nat.le_of_ble_eq_true rfl⟩ (fun r_1 _ H locs hw_1 hP hD hS => ?_)
  have hP : va_P D vwCl [(h0, .inr (4, [.ref a0, .ref b0, .int z])), (a0, .inl (cI, 40, .inl tk)), (b0, .inl (cI, 40, .inl cd))] H := hP
  have hD : va_D A [(h0, .inr (4, [.ref a0, .ref b0, .int z])), (a0, .inl (cI, 40, .inl tk)), (b0, .inl (cI, 40, .inl cd))] := hD
  refine lv_lstore_n (lv' := [(3, .long r_1), (0, .ref h0), (1, .long x)]) hx hb dX4_mixInto_8 rfl hl (by decide) rfl (fun ls hl => ?_)
  refine lv_iconst (v := 0) hx hb dX4_mixInto_9 (by decide) ?_
  refine lv_istore (lv' := [(5, .int (0 : Int32)), (3, .long r_1), (0, .ref h0), (1, .long x)]) hx hb dX4_mixInto_10 hl (by decide) rfl (fun ls hl => ?_)
  refine lps_X4_mixInto l D cI cJ cS hx hb hml hown hts hK hA hG (Nat.le_of_ble_eq_true rfl) (Nat.le_of_ble_eq_true rfl) (Nat.le_of_ble_eq_true rfl) (Nat.le_of_ble_eq_true rfl) 41 h0 a0 b0 z tk cd 0 r_1 _ _ _ (hz) (Nat.zero_le _) (by have := tn_lt hz; omega) (hP.subm [0, 1, 2] rfl) (hD.sub [0, 1, 2] rfl rfl) hS (lv_sub hl [2, 1, 0] rfl) (fun y_2 H locs ls hw_2 hP hD hS hl => ?_)
  obtain ⟨y_2_0, y_2_1⟩ := y_2
  have hl : lv_has ls 6 [(0, .ref h0), (3, .long y_2_1), (5, .int (nI y_2_0))] := hl
  have hP : va_P D vwCl [(h0, .inr (4, [.ref a0, .ref b0, .int z])), (a0, .inl (cI, 40, .inl tk)), (b0, .inl (cI, 40, .inl cd))] H := hP
  have hD : va_D A [(h0, .inr (4, [.ref a0, .ref b0, .int z])), (a0, .inl (cI, 40, .inl tk)), (b0, .inl (cI, 40, .inl cd))] := hD
  refine lv_lload_n hx hb dX4_mixInto_51 rfl (lv_at hl 1 rfl) ?_
  exact my_lret hx hb hr hlocks hK hP hD hS () (by show y_2_1 = F_X4_mixInto x z tk cd; simp only [F_X4_mixInto, ← hw_1, ← hw_2]) [0, 1, 2] rfl rfl dX4_mixInto_52
def LP_X4_insert : Nat → Int32 → (Nat → Int32) → (Nat → Int32) → Int32 → Int32 → Nat → (Nat) × (Nat → Int32) × (Nat → Int32)
  | 0, _, tk, cd, _, _, i => (i, tk, cd)
  | n + 1, z, tk, cd, t, b, i =>
    if nI i ≤ (0 : Int32) then
      (i, tk, cd)
    else
      if tk (i - 1) ≤ t then
        (i, tk, cd)
      else
        LP_X4_insert n z (upd tk i (tk (i - 1))) (upd cd i (cd (i - 1))) t b (i - 1)
set_option maxHeartbeats 4000000 in
set_option maxRecDepth 100000 in
theorem lps_X4_insert {p : Program} (l : Launch) {e : Env} {R : Room} {s : State} {m : MethodId} {args : Array Value} {below : List Frame} {meth : Method} {c : Code} {A : Nat → Prop} {cells slots : Nat} {Q : State → Prop} (D : va_G) (cI cJ cS : ClassId) (hx : p.tables.exec = Jvm.exec) (hb : c.code = cX4_insert) (hml : c.maxLocals = 4) (hown : s.vm.findClass RX4 = some m.cls) (hts : ∀ w ∈ wsX4_insert, w.before args s = true) (hK : va_K D vwCl (tyz cI cJ cS) s) (hA : ∀ q, s.heap.size ≤ q → A q) (hG : gG A s s.heap) : ∀ (n : Nat) (h0 : Nat) (a0 : Nat) (b0 : Nat) (z : Int32) (tk : Nat → Int32) (cd : Nat → Int32) (t : Int32) (b : Int32) (i : Nat) (H : Heap) (locs : List Loc) (ls : Array Slot), (i < 40) → (i < n) → va_P D vwCl [(h0, .inr (4, [.ref a0, .ref b0, .int z])), (a0, .inl (cI, 40, .inl tk)), (b0, .inl (cI, 40, .inl cd))] H → va_D A [(h0, .inr (4, [.ref a0, .ref b0, .int z])), (a0, .inl (cI, 40, .inl tk)), (b0, .inl (cI, 40, .inl cd))] → va_S A s.heap H locs → lv_has ls 4 [(0, .ref h0), (1, .int t), (2, .int b), (3, .int (nI i))] → (∀ (y : (Nat) × (Nat → Int32) × (Nat → Int32)) (H : Heap) (locs : List Loc) (ls : Array Slot), y = LP_X4_insert n z tk cd t b i → (y.1 < 40) → va_P D vwCl [(h0, .inr (4, [.ref a0, .ref b0, .int z])), (a0, .inl (cI, 40, .inl y.2.1)), (b0, .inl (cI, 40, .inl y.2.2))] H → va_D A [(h0, .inr (4, [.ref a0, .ref b0, .int z])), (a0, .inl (cI, 40, .inl y.2.1)), (b0, .inl (cI, 40, .inl y.2.2))] → va_S A s.heap H locs → lv_has ls 4 [(0, .ref h0), (1, .int t), (2, .int b), (3, .int (nI y.1))] → W p l e R s m args below meth c H locs cells slots Q (F0 m 72 ls [])) → W p l e R s m args below meth c H locs cells slots Q (F0 m 22 ls []) := by
  have hk_9 := hts (.fieldLink RX4 9 "HallCommutator$Queue" "ticks" "[I") (by decide +kernel)
  have hk_15 := hts (.fieldLink RX4 15 "HallCommutator$Queue" "codes" "[I") (by decide +kernel)
  have hiX4 : ∀ w ∈ u_ws RX4 TX4 3, w ∈ wsX4_insert := by decide +kernel
  intro n
  induction n with
  | zero =>
    intro h0 a0 b0 z tk cd t b i H locs ls hi hm
    exact absurd hm (by omega)
  | succ n ih =>
    intro h0 a0 b0 z tk cd t b i H locs ls hi hm hP hD hS hl kk
    refine lv_iload_n hx hb dX4_insert_22 rfl (lv_at hl 3 rfl) ?_
    refine lv_if_le (tgt := 72) hx hb dX4_insert_23 (by decide) (fun c_1 => ?_) (fun c_1 => ?_)
    · skip
      exact kk (i, tk, cd) _ _ _ (by simp only [LP_X4_insert, if_pos c_1]) (hi) (hP.subm [0, 1, 2] rfl) (hD.sub [0, 1, 2] rfl rfl) hS (lv_sub hl [0, 1, 2, 3] rfl)
    · skip
      refine lv_aload_n hx hb dX4_insert_26 rfl (lv_at hl 0 rfl) ?_
      refine va_get (D := D) (ci := 4) (v := .ref a0) (C := RX4) (T := TX4) (N := 3) hx hb hts hiX4 hown hK hP 0 rfl rfl 0 (by decide) hk_9 (fun _ h9 => h9) rfl dX4_insert_27 ?_
      refine lv_iload_n hx hb dX4_insert_30 rfl (lv_at hl 3 rfl) ?_
      refine lv_iconst (v := 1) hx hb dX4_insert_31 (by decide) ?_
      refine my_isubN hx hb i 1 rfl rfl (nI_p0 c_1) dX4_insert_32 ?_
      refine my_iald hx hb hK hP 1 0 rfl rfl (i - 1) (rfl) (by omega) (by decide) dX4_insert_33 ?_
      refine lv_iload_n hx hb dX4_insert_34 rfl (lv_at hl 1 rfl) ?_
      refine lv_icmp_le (tgt := 72) hx hb dX4_insert_35 (by decide) (fun c_2 => ?_) (fun c_2 => ?_)
      · skip
        exact kk (i, tk, cd) _ _ _ (by simp only [LP_X4_insert, if_neg c_1, if_pos c_2]) (hi) (hP.subm [0, 1, 2] rfl) (hD.sub [0, 1, 2] rfl rfl) hS (lv_sub hl [0, 1, 2, 3] rfl)
      · skip
        refine lv_aload_n hx hb dX4_insert_38 rfl (lv_at hl 0 rfl) ?_
        refine va_get (D := D) (ci := 4) (v := .ref a0) (C := RX4) (T := TX4) (N := 3) hx hb hts hiX4 hown hK hP 0 rfl rfl 0 (by decide) hk_9 (fun _ h9 => h9) rfl dX4_insert_39 ?_
        refine lv_iload_n hx hb dX4_insert_42 rfl (lv_at hl 3 rfl) ?_
        refine lv_aload_n hx hb dX4_insert_43 rfl (lv_at hl 0 rfl) ?_
        refine va_get (D := D) (ci := 4) (v := .ref a0) (C := RX4) (T := TX4) (N := 3) hx hb hts hiX4 hown hK hP 0 rfl rfl 0 (by decide) hk_9 (fun _ h9 => h9) rfl dX4_insert_44 ?_
        refine lv_iload_n hx hb dX4_insert_47 rfl (lv_at hl 3 rfl) ?_
        refine lv_iconst (v := 1) hx hb dX4_insert_48 (by decide) ?_
        refine my_isubN hx hb i 1 rfl rfl (nI_p0 c_1) dX4_insert_49 ?_
        refine my_iald hx hb hK hP 1 0 rfl rfl (i - 1) (rfl) (by omega) (by decide) dX4_insert_50 ?_
        refine my_iast hx hb hK hP hD hS 1 0 rfl rfl i (rfl) (hi) (by decide) dX4_insert_51 (fun H locs hP hD hS => ?_)
        have hP : va_P D vwCl [(h0, .inr (4, [.ref a0, .ref b0, .int z])), (a0, .inl (cI, 40, .inl (upd tk i (tk (i - 1))))), (b0, .inl (cI, 40, .inl cd))] H := hP
        have hD : va_D A [(h0, .inr (4, [.ref a0, .ref b0, .int z])), (a0, .inl (cI, 40, .inl (upd tk i (tk (i - 1))))), (b0, .inl (cI, 40, .inl cd))] := hD
        refine lv_aload_n hx hb dX4_insert_52 rfl (lv_at hl 0 rfl) ?_
        refine va_get (D := D) (ci := 4) (v := .ref b0) (C := RX4) (T := TX4) (N := 3) hx hb hts hiX4 hown hK hP 0 rfl rfl 1 (by decide) hk_15 (fun _ h9 => h9) rfl dX4_insert_53 ?_
        refine lv_iload_n hx hb dX4_insert_56 rfl (lv_at hl 3 rfl) ?_
        refine lv_aload_n hx hb dX4_insert_57 rfl (lv_at hl 0 rfl) ?_
        refine va_get (D := D) (ci := 4) (v := .ref b0) (C := RX4) (T := TX4) (N := 3) hx hb hts hiX4 hown hK hP 0 rfl rfl 1 (by decide) hk_15 (fun _ h9 => h9) rfl dX4_insert_58 ?_
        refine lv_iload_n hx hb dX4_insert_61 rfl (lv_at hl 3 rfl) ?_
        refine lv_iconst (v := 1) hx hb dX4_insert_62 (by decide) ?_
        refine my_isubN hx hb i 1 rfl rfl (nI_p0 c_1) dX4_insert_63 ?_
        refine my_iald hx hb hK hP 2 0 rfl rfl (i - 1) (rfl) (by omega) (by decide) dX4_insert_64 ?_
        refine my_iast hx hb hK hP hD hS 2 0 rfl rfl i (rfl) (hi) (by decide) dX4_insert_65 (fun H locs hP hD hS => ?_)
        have hP : va_P D vwCl [(h0, .inr (4, [.ref a0, .ref b0, .int z])), (a0, .inl (cI, 40, .inl (upd tk i (tk (i - 1))))), (b0, .inl (cI, 40, .inl (upd cd i (cd (i - 1)))))] H := hP
        have hD : va_D A [(h0, .inr (4, [.ref a0, .ref b0, .int z])), (a0, .inl (cI, 40, .inl (upd tk i (tk (i - 1))))), (b0, .inl (cI, 40, .inl (upd cd i (cd (i - 1)))))] := hD
        refine lv_iinc (v := nI (i - 1)) (lv' := [(3, .int (nI (i - 1))), (0, .ref h0), (1, .int t), (2, .int b)]) hx hb dX4_insert_66 hl (k := 3) rfl (nI_m1 (nI_p0 c_1)) (by decide) rfl (fun ls hl => ?_)
        refine lv_goto (tgt := 22) hx hb dX4_insert_69 (by decide) ?_
        exact ih h0 a0 b0 z (upd tk i (tk (i - 1))) (upd cd i (cd (i - 1))) t b (i - 1) _ _ _ (by have := nI_p0 c_1; omega) (by have := nI_p0 c_1; omega) (hP.subm [0, 1, 2] rfl) (hD.sub [0, 1, 2] rfl rfl) hS (lv_sub hl [1, 2, 3, 0] rfl) (fun y H locs ls hy => kk y H locs ls (by rw [hy]; simp only [LP_X4_insert, if_neg c_1, if_neg c_2]))
def F_X4_insert (z : Int32) (tk : Nat → Int32) (cd : Nat → Int32) (t : Int32) (b : Int32) : Int32 × (Nat → Int32) × (Nat → Int32) :=
  if z < (0 : Int32) then
    (z, tk, cd)
  else
    if z < (40 : Int32) then
      let q3 := LP_X4_insert 41 z tk cd t b (tn z)
      (z + (1 : Int32), upd q3.2.1 q3.1 t, upd q3.2.2 q3.1 b)
    else
      (z, tk, cd)
set_option maxHeartbeats 4000000 in
set_option maxRecDepth 100000 in
theorem met_X4_insert (l : Launch) (D : va_G) (cI cJ cS : ClassId) (h0 : Nat) (a0 : Nat) (b0 : Nat) (z : Int32) (tk : Nat → Int32) (cd : Nat → Int32) (t : Int32) (b : Int32) (hz : vp_in z 41) : ∀ sz : Nat, Met l yX4_insert wsX4_insert ({ frames := 0, cells := 0, slots := 0, locals := 0 } : Room) (va_Pc [.ref h0, .int t, .int b] (cPre D (tyz cI cJ cS) ([(h0, .inr (4, [.ref a0, .ref b0, .int z])), (a0, .inl (cI, 40, .inl tk)), (b0, .inl (cI, 40, .inl cd))]) sz)) (va_Qv (fun (u : Int32 × (Nat → Int32) × (Nat → Int32)) => u = F_X4_insert z tk cd t b) (fun u => cPost D (tyz cI cJ cS) (va_A ([(h0, .inr (4, [.ref a0, .ref b0, .int z])), (a0, .inl (cI, 40, .inl tk)), (b0, .inl (cI, 40, .inl cd))]) sz) ([(h0, .inr (4, [.ref a0, .ref b0, .int u.1])), (a0, .inl (cI, 40, .inl u.2.1)), (b0, .inl (cI, 40, .inl u.2.2))])) (va_A ([(h0, .inr (4, [.ref a0, .ref b0, .int z])), (a0, .inl (cI, 40, .inl tk)), (b0, .inl (cI, 40, .inl cd))]) sz)) 0 0 (va_A ([(h0, .inr (4, [.ref a0, .ref b0, .int z])), (a0, .inl (cI, 40, .inl tk)), (b0, .inl (cI, 40, .inl cd))]) sz) := by
  refine my_met (QC := fun A => (va_Qv (fun (u : Int32 × (Nat → Int32) × (Nat → Int32)) => u = F_X4_insert z tk cd t b) (fun u => cPost D (tyz cI cJ cS) A ([(h0, .inr (4, [.ref a0, .ref b0, .int u.1])), (a0, .inl (cI, 40, .inl u.2.1)), (b0, .inl (cI, 40, .inl u.2.2))])) A)) (cc := cX4_insert) (maxL := 4) (ret := none) (by decide) rfl (Nat.le_of_ble_eq_true rfl) ?_
  intro p e s m below meth c ls A hx hb hml hr hts hown hlocks hname hK hP hD hS hA hG hl
  have hown : s.vm.findClass RX4 = some m.cls := hown
  have hl : lv_has ls 4 [(0, .ref h0), (1, .int t), (2, .int b)] := hl
  have hP : va_P D vwCl [(h0, .inr (4, [.ref a0, .ref b0, .int z])), (a0, .inl (cI, 40, .inl tk)), (b0, .inl (cI, 40, .inl cd))] s.heap := hP
  have hD : va_D A [(h0, .inr (4, [.ref a0, .ref b0, .int z])), (a0, .inl (cI, 40, .inl tk)), (b0, .inl (cI, 40, .inl cd))] := hD
  have hiX4 : ∀ w ∈ u_ws RX4 TX4 3, w ∈ wsX4_insert := by decide +kernel
  have hk_15 := hts (.fieldLink RX4 15 "HallCommutator$Queue" "codes" "[I") (by decide +kernel)
  have hk_18 := hts (.fieldLink RX4 18 "HallCommutator$Queue" "size" "I") (by decide +kernel)
  have hk_9 := hts (.fieldLink RX4 9 "HallCommutator$Queue" "ticks" "[I") (by decide +kernel)
  refine lv_aload_n hx hb dX4_insert_0 rfl (lv_at hl 0 rfl) ?_
  refine va_get (D := D) (ci := 4) (v := .int z) (C := RX4) (T := TX4) (N := 3) hx hb hts hiX4 hown hK hP 0 rfl rfl 2 (by decide) hk_18 (fun _ h9 => h9) rfl dX4_insert_1 ?_
  refine lv_if_lt (tgt := 16) hx hb dX4_insert_4 (by decide) (fun c_1 => ?_) (fun c_1 => ?_)
  · skip
    exact my_vret hx hb hr hlocks hK hP hD hS (z, tk, cd) (by show (z, tk, cd) = F_X4_insert z tk cd t b; simp only [F_X4_insert, if_pos c_1]) [0, 1, 2] rfl rfl dX4_insert_16
  · skip
    refine lv_aload_n hx hb dX4_insert_7 rfl (lv_at hl 0 rfl) ?_
    refine va_get (D := D) (ci := 4) (v := .int z) (C := RX4) (T := TX4) (N := 3) hx hb hts hiX4 hown hK hP 0 rfl rfl 2 (by decide) hk_18 (fun _ h9 => h9) rfl dX4_insert_8 ?_
    refine lv_bipush (v := 40) hx hb dX4_insert_11 (by decide) ?_
    refine lv_icmp_lt (tgt := 17) hx hb dX4_insert_13 (by decide) (fun c_2 => ?_) (fun c_2 => ?_)
    · skip
      refine lv_aload_n hx hb dX4_insert_17 rfl (lv_at hl 0 rfl) ?_
      refine va_get (D := D) (ci := 4) (v := .int z) (C := RX4) (T := TX4) (N := 3) hx hb hts hiX4 hown hK hP 0 rfl rfl 2 (by decide) hk_18 (fun _ h9 => h9) rfl dX4_insert_18 ?_
      refine W.eq (g2 := F0 m 21 ls [.int (nI (tn z))]) (by rw [← tn_eq hz]) ?_
      refine lv_istore_n (lv' := [(3, .int (nI (tn z))), (0, .ref h0), (1, .int t), (2, .int b)]) hx hb dX4_insert_21 rfl hl (by decide) rfl (fun ls hl => ?_)
      refine lps_X4_insert l D cI cJ cS hx hb hml hown hts hK hA hG 41 h0 a0 b0 z tk cd t b (tn z) _ _ _ (tn_lt_lt 40 hz (by decide) c_2) (by have := tn_lt hz; omega) (hP.subm [0, 1, 2] rfl) (hD.sub [0, 1, 2] rfl rfl) hS (lv_sub hl [1, 2, 3, 0] rfl) (fun y_3 H locs ls hw_3 hq_3_h1 hP hD hS hl => ?_)
      obtain ⟨y_3_0, y_3_1, y_3_2⟩ := y_3
      have hq_3_h1 : y_3_0 < 40 := hq_3_h1
      have hl : lv_has ls 4 [(0, .ref h0), (1, .int t), (2, .int b), (3, .int (nI y_3_0))] := hl
      have hP : va_P D vwCl [(h0, .inr (4, [.ref a0, .ref b0, .int z])), (a0, .inl (cI, 40, .inl y_3_1)), (b0, .inl (cI, 40, .inl y_3_2))] H := hP
      have hD : va_D A [(h0, .inr (4, [.ref a0, .ref b0, .int z])), (a0, .inl (cI, 40, .inl y_3_1)), (b0, .inl (cI, 40, .inl y_3_2))] := hD
      refine lv_aload_n hx hb dX4_insert_72 rfl (lv_at hl 0 rfl) ?_
      refine va_get (D := D) (ci := 4) (v := .ref a0) (C := RX4) (T := TX4) (N := 3) hx hb hts hiX4 hown hK hP 0 rfl rfl 0 (by decide) hk_9 (fun _ h9 => h9) rfl dX4_insert_73 ?_
      refine lv_iload_n hx hb dX4_insert_76 rfl (lv_at hl 3 rfl) ?_
      refine lv_iload_n hx hb dX4_insert_77 rfl (lv_at hl 1 rfl) ?_
      refine my_iast hx hb hK hP hD hS 1 0 rfl rfl y_3_0 (rfl) (hq_3_h1) (by decide) dX4_insert_78 (fun H locs hP hD hS => ?_)
      have hP : va_P D vwCl [(h0, .inr (4, [.ref a0, .ref b0, .int z])), (a0, .inl (cI, 40, .inl (upd y_3_1 y_3_0 t))), (b0, .inl (cI, 40, .inl y_3_2))] H := hP
      have hD : va_D A [(h0, .inr (4, [.ref a0, .ref b0, .int z])), (a0, .inl (cI, 40, .inl (upd y_3_1 y_3_0 t))), (b0, .inl (cI, 40, .inl y_3_2))] := hD
      refine lv_aload_n hx hb dX4_insert_79 rfl (lv_at hl 0 rfl) ?_
      refine va_get (D := D) (ci := 4) (v := .ref b0) (C := RX4) (T := TX4) (N := 3) hx hb hts hiX4 hown hK hP 0 rfl rfl 1 (by decide) hk_15 (fun _ h9 => h9) rfl dX4_insert_80 ?_
      refine lv_iload_n hx hb dX4_insert_83 rfl (lv_at hl 3 rfl) ?_
      refine lv_iload_n hx hb dX4_insert_84 rfl (lv_at hl 2 rfl) ?_
      refine my_iast hx hb hK hP hD hS 2 0 rfl rfl y_3_0 (rfl) (hq_3_h1) (by decide) dX4_insert_85 (fun H locs hP hD hS => ?_)
      have hP : va_P D vwCl [(h0, .inr (4, [.ref a0, .ref b0, .int z])), (a0, .inl (cI, 40, .inl (upd y_3_1 y_3_0 t))), (b0, .inl (cI, 40, .inl (upd y_3_2 y_3_0 b)))] H := hP
      have hD : va_D A [(h0, .inr (4, [.ref a0, .ref b0, .int z])), (a0, .inl (cI, 40, .inl (upd y_3_1 y_3_0 t))), (b0, .inl (cI, 40, .inl (upd y_3_2 y_3_0 b)))] := hD
      refine lv_aload_n hx hb dX4_insert_86 rfl (lv_at hl 0 rfl) ?_
      refine lv_dup hx hb dX4_insert_87 rfl ?_
      refine va_get (D := D) (ci := 4) (v := .int z) (C := RX4) (T := TX4) (N := 3) hx hb hts hiX4 hown hK hP 0 rfl rfl 2 (by decide) hk_18 (fun _ h9 => h9) rfl dX4_insert_88 ?_
      refine lv_iconst (v := 1) hx hb dX4_insert_91 (by decide) ?_
      refine lv_iadd hx hb dX4_insert_92 ?_
      refine va_put (D := D) (ci := 4) (v := .int (z + (1 : Int32))) (ty := .int) (C := RX4) (T := TX4) (N := 3) hx hb hts hiX4 tyX4 tyX4_ok nmX4 hown hK hP hD hS 0 rfl rfl 2 (by decide) hk_18 (fun _ h9 => h9) rfl (by decide +kernel) rfl rfl (Nat.le_of_ble_eq_true rfl) dX4_insert_93 (fun H locs hP hD hS => ?_)
      have hP : va_P D vwCl [(h0, .inr (4, [.ref a0, .ref b0, .int (z + (1 : Int32))])), (a0, .inl (cI, 40, .inl (upd y_3_1 y_3_0 t))), (b0, .inl (cI, 40, .inl (upd y_3_2 y_3_0 b)))] H := hP
      have hD : va_D A [(h0, .inr (4, [.ref a0, .ref b0, .int (z + (1 : Int32))])), (a0, .inl (cI, 40, .inl (upd y_3_1 y_3_0 t))), (b0, .inl (cI, 40, .inl (upd y_3_2 y_3_0 b)))] := hD
      exact my_vret hx hb hr hlocks hK hP hD hS (z + (1 : Int32), upd y_3_1 y_3_0 t, upd y_3_2 y_3_0 b) (by show (z + (1 : Int32), upd y_3_1 y_3_0 t, upd y_3_2 y_3_0 b) = F_X4_insert z tk cd t b; simp only [F_X4_insert, if_neg c_1, if_pos c_2, ← hw_3]) [0, 1, 2] rfl rfl dX4_insert_96
    · skip
      exact my_vret hx hb hr hlocks hK hP hD hS (z, tk, cd) (by show (z, tk, cd) = F_X4_insert z tk cd t b; simp only [F_X4_insert, if_neg c_1, if_neg c_2]) [0, 1, 2] rfl rfl dX4_insert_16
def LP_X4_takeDue1 : Nat → Int32 → (Nat → Int32) → (Nat → Int32) → Int32 → Int32 → Nat → (Nat)
  | 0, _, _, _, _, _, i => (i)
  | n + 1, z, tk, cd, t, b, i =>
    if z ≤ nI i then
      (i)
    else
      if t < tk i then
        (i)
      else
        LP_X4_takeDue1 n z tk cd t b (i + 1)
set_option maxHeartbeats 4000000 in
set_option maxRecDepth 100000 in
theorem lps_X4_takeDue1 {p : Program} (l : Launch) {e : Env} {R : Room} {s : State} {m : MethodId} {args : Array Value} {below : List Frame} {meth : Method} {c : Code} {A : Nat → Prop} {cells slots : Nat} {Q : State → Prop} (D : va_G) (cI cJ cS : ClassId) (hx : p.tables.exec = Jvm.exec) (hb : c.code = cX4_takeDue) (hml : c.maxLocals = 6) (hown : s.vm.findClass RX4 = some m.cls) (hts : ∀ w ∈ wsX4_takeDue, w.before args s = true) (hK : va_K D vwCl (tyz cI cJ cS) s) (hA : ∀ q, s.heap.size ≤ q → A q) (hG : gG A s s.heap) : ∀ (n : Nat) (h0 : Nat) (a0 : Nat) (b0 : Nat) (z : Int32) (tk : Nat → Int32) (cd : Nat → Int32) (t : Int32) (b : Int32) (i : Nat) (H : Heap) (locs : List Loc) (ls : Array Slot), (vp_in z 41) → (i ≤ tn z) → (tn z < i + n) → va_P D vwCl [(h0, .inr (4, [.ref a0, .ref b0, .int z])), (a0, .inl (cI, 40, .inl tk)), (b0, .inl (cI, 40, .inl cd))] H → va_D A [(h0, .inr (4, [.ref a0, .ref b0, .int z])), (a0, .inl (cI, 40, .inl tk)), (b0, .inl (cI, 40, .inl cd))] → va_S A s.heap H locs → lv_has ls 6 [(0, .ref h0), (1, .int t), (2, .int b), (3, .int (nI i))] → (∀ (y : (Nat)) (H : Heap) (locs : List Loc) (ls : Array Slot), y = LP_X4_takeDue1 n z tk cd t b i → (y ≤ tn z) → va_P D vwCl [(h0, .inr (4, [.ref a0, .ref b0, .int z])), (a0, .inl (cI, 40, .inl tk)), (b0, .inl (cI, 40, .inl cd))] H → va_D A [(h0, .inr (4, [.ref a0, .ref b0, .int z])), (a0, .inl (cI, 40, .inl tk)), (b0, .inl (cI, 40, .inl cd))] → va_S A s.heap H locs → lv_has ls 6 [(0, .ref h0), (1, .int t), (2, .int b), (3, .int (nI y))] → W p l e R s m args below meth c H locs cells slots Q (F0 m 26 ls [])) → W p l e R s m args below meth c H locs cells slots Q (F0 m 2 ls []) := by
  have hk_9 := hts (.fieldLink RX4 9 "HallCommutator$Queue" "ticks" "[I") (by decide +kernel)
  have hk_18 := hts (.fieldLink RX4 18 "HallCommutator$Queue" "size" "I") (by decide +kernel)
  have hiX4 : ∀ w ∈ u_ws RX4 TX4 3, w ∈ wsX4_takeDue := by decide +kernel
  intro n
  induction n with
  | zero =>
    intro h0 a0 b0 z tk cd t b i H locs ls hz hi hm
    exact absurd hm (by omega)
  | succ n ih =>
    intro h0 a0 b0 z tk cd t b i H locs ls hz hi hm hP hD hS hl kk
    refine lv_iload_n hx hb dX4_takeDue_2 rfl (lv_at hl 3 rfl) ?_
    refine lv_aload_n hx hb dX4_takeDue_3 rfl (lv_at hl 0 rfl) ?_
    refine va_get (D := D) (ci := 4) (v := .int z) (C := RX4) (T := TX4) (N := 3) hx hb hts hiX4 hown hK hP 0 rfl rfl 2 (by decide) hk_18 (fun _ h9 => h9) rfl dX4_takeDue_4 ?_
    refine lv_icmp_ge (tgt := 26) hx hb dX4_takeDue_7 (by decide) (fun c_1 => ?_) (fun c_1 => ?_)
    · skip
      exact kk i _ _ _ (by simp only [LP_X4_takeDue1, if_pos c_1]) (hi) (hP.subm [0, 1, 2] rfl) (hD.sub [0, 1, 2] rfl rfl) hS (lv_sub hl [0, 1, 2, 3] rfl)
    · skip
      refine lv_aload_n hx hb dX4_takeDue_10 rfl (lv_at hl 0 rfl) ?_
      refine va_get (D := D) (ci := 4) (v := .ref a0) (C := RX4) (T := TX4) (N := 3) hx hb hts hiX4 hown hK hP 0 rfl rfl 0 (by decide) hk_9 (fun _ h9 => h9) rfl dX4_takeDue_11 ?_
      refine lv_iload_n hx hb dX4_takeDue_14 rfl (lv_at hl 3 rfl) ?_
      refine my_iald hx hb hK hP 1 0 rfl rfl i (rfl) (by have := nz_lt hz hi c_1; have := tn_lt hz; omega) (by decide) dX4_takeDue_15 ?_
      refine lv_iload_n hx hb dX4_takeDue_16 rfl (lv_at hl 1 rfl) ?_
      refine lv_icmp_gt (tgt := 26) hx hb dX4_takeDue_17 (by decide) (fun c_2 => ?_) (fun c_2 => ?_)
      · skip
        exact kk i _ _ _ (by simp only [LP_X4_takeDue1, if_neg c_1, if_pos c_2]) (hi) (hP.subm [0, 1, 2] rfl) (hD.sub [0, 1, 2] rfl rfl) hS (lv_sub hl [0, 1, 2, 3] rfl)
      · skip
        refine lv_iinc (v := nI (i + 1)) (lv' := [(3, .int (nI (i + 1))), (0, .ref h0), (1, .int t), (2, .int b)]) hx hb dX4_takeDue_20 hl (k := 3) rfl (nI_1 _) (by decide) rfl (fun ls hl => ?_)
        refine lv_goto (tgt := 2) hx hb dX4_takeDue_23 (by decide) ?_
        exact ih h0 a0 b0 z tk cd t b (i + 1) _ _ _ (hz) (nz_lt hz hi c_1) (by omega) (hP.subm [0, 1, 2] rfl) (hD.sub [0, 1, 2] rfl rfl) hS (lv_sub hl [1, 2, 3, 0] rfl) (fun y H locs ls hy => kk y H locs ls (by rw [hy]; simp only [LP_X4_takeDue1, if_neg c_1, if_neg c_2]))
def LP_X4_takeDue2 : Nat → Int32 → (Nat → Int32) → (Nat → Int32) → Int32 → Int32 → Int32 → Nat → Nat → (Nat) × (Nat → Int32) × (Nat → Int32)
  | 0, _, tk, cd, _, _, _, _, i => (i, tk, cd)
  | n + 1, z, tk, cd, t, b, o, d, i =>
    if z ≤ nI i then
      (i, tk, cd)
    else
      LP_X4_takeDue2 n z (upd tk (i - d) (tk i)) (upd cd (i - d) (cd i)) t b o d (i + 1)
set_option maxHeartbeats 4000000 in
set_option maxRecDepth 100000 in
theorem lps_X4_takeDue2 {p : Program} (l : Launch) {e : Env} {R : Room} {s : State} {m : MethodId} {args : Array Value} {below : List Frame} {meth : Method} {c : Code} {A : Nat → Prop} {cells slots : Nat} {Q : State → Prop} (D : va_G) (cI cJ cS : ClassId) (hx : p.tables.exec = Jvm.exec) (hb : c.code = cX4_takeDue) (hml : c.maxLocals = 6) (hown : s.vm.findClass RX4 = some m.cls) (hts : ∀ w ∈ wsX4_takeDue, w.before args s = true) (hK : va_K D vwCl (tyz cI cJ cS) s) (hA : ∀ q, s.heap.size ≤ q → A q) (hG : gG A s s.heap) : ∀ (n : Nat) (h0 : Nat) (a0 : Nat) (b0 : Nat) (z : Int32) (tk : Nat → Int32) (cd : Nat → Int32) (t : Int32) (b : Int32) (o : Int32) (d : Nat) (i : Nat) (H : Heap) (locs : List Loc) (ls : Array Slot), (vp_in z 41) → (d ≤ i) → (i ≤ tn z) → (tn z < i + n) → va_P D vwCl [(h0, .inr (4, [.ref a0, .ref b0, .int z])), (a0, .inl (cI, 40, .inl tk)), (b0, .inl (cI, 40, .inl cd))] H → va_D A [(h0, .inr (4, [.ref a0, .ref b0, .int z])), (a0, .inl (cI, 40, .inl tk)), (b0, .inl (cI, 40, .inl cd))] → va_S A s.heap H locs → lv_has ls 6 [(0, .ref h0), (1, .int t), (2, .int b), (3, .int (nI d)), (4, .int o), (5, .int (nI i))] → (∀ (y : (Nat) × (Nat → Int32) × (Nat → Int32)) (H : Heap) (locs : List Loc) (ls : Array Slot), y = LP_X4_takeDue2 n z tk cd t b o d i → va_P D vwCl [(h0, .inr (4, [.ref a0, .ref b0, .int z])), (a0, .inl (cI, 40, .inl y.2.1)), (b0, .inl (cI, 40, .inl y.2.2))] H → va_D A [(h0, .inr (4, [.ref a0, .ref b0, .int z])), (a0, .inl (cI, 40, .inl y.2.1)), (b0, .inl (cI, 40, .inl y.2.2))] → va_S A s.heap H locs → lv_has ls 6 [(0, .ref h0), (1, .int t), (2, .int b), (3, .int (nI d)), (4, .int o), (5, .int (nI y.1))] → W p l e R s m args below meth c H locs cells slots Q (F0 m 92 ls [])) → W p l e R s m args below meth c H locs cells slots Q (F0 m 45 ls []) := by
  have hk_9 := hts (.fieldLink RX4 9 "HallCommutator$Queue" "ticks" "[I") (by decide +kernel)
  have hk_18 := hts (.fieldLink RX4 18 "HallCommutator$Queue" "size" "I") (by decide +kernel)
  have hk_15 := hts (.fieldLink RX4 15 "HallCommutator$Queue" "codes" "[I") (by decide +kernel)
  have hiX4 : ∀ w ∈ u_ws RX4 TX4 3, w ∈ wsX4_takeDue := by decide +kernel
  intro n
  induction n with
  | zero =>
    intro h0 a0 b0 z tk cd t b o d i H locs ls hz hd hi hm
    exact absurd hm (by omega)
  | succ n ih =>
    intro h0 a0 b0 z tk cd t b o d i H locs ls hz hd hi hm hP hD hS hl kk
    refine lv_iload hx hb dX4_takeDue_45 (lv_at hl 5 rfl) ?_
    refine lv_aload_n hx hb dX4_takeDue_47 rfl (lv_at hl 0 rfl) ?_
    refine va_get (D := D) (ci := 4) (v := .int z) (C := RX4) (T := TX4) (N := 3) hx hb hts hiX4 hown hK hP 0 rfl rfl 2 (by decide) hk_18 (fun _ h9 => h9) rfl dX4_takeDue_48 ?_
    refine lv_icmp_ge (tgt := 92) hx hb dX4_takeDue_51 (by decide) (fun c_1 => ?_) (fun c_1 => ?_)
    · skip
      exact kk (i, tk, cd) _ _ _ (by simp only [LP_X4_takeDue2, if_pos c_1]) (hP.subm [0, 1, 2] rfl) (hD.sub [0, 1, 2] rfl rfl) hS (lv_sub hl [0, 1, 2, 3, 4, 5] rfl)
    · skip
      refine lv_aload_n hx hb dX4_takeDue_54 rfl (lv_at hl 0 rfl) ?_
      refine va_get (D := D) (ci := 4) (v := .ref a0) (C := RX4) (T := TX4) (N := 3) hx hb hts hiX4 hown hK hP 0 rfl rfl 0 (by decide) hk_9 (fun _ h9 => h9) rfl dX4_takeDue_55 ?_
      refine lv_iload hx hb dX4_takeDue_58 (lv_at hl 5 rfl) ?_
      refine lv_iload_n hx hb dX4_takeDue_60 rfl (lv_at hl 3 rfl) ?_
      refine my_isubN hx hb i d rfl rfl (hd) dX4_takeDue_61 ?_
      refine lv_aload_n hx hb dX4_takeDue_62 rfl (lv_at hl 0 rfl) ?_
      refine va_get (D := D) (ci := 4) (v := .ref a0) (C := RX4) (T := TX4) (N := 3) hx hb hts hiX4 hown hK hP 0 rfl rfl 0 (by decide) hk_9 (fun _ h9 => h9) rfl dX4_takeDue_63 ?_
      refine lv_iload hx hb dX4_takeDue_66 (lv_at hl 5 rfl) ?_
      refine my_iald hx hb hK hP 1 0 rfl rfl i (rfl) (by have := nz_lt hz hi c_1; have := tn_lt hz; omega) (by decide) dX4_takeDue_68 ?_
      refine my_iast hx hb hK hP hD hS 1 0 rfl rfl (i - d) (rfl) (by have := nz_lt hz hi c_1; have := tn_lt hz; omega) (by decide) dX4_takeDue_69 (fun H locs hP hD hS => ?_)
      have hP : va_P D vwCl [(h0, .inr (4, [.ref a0, .ref b0, .int z])), (a0, .inl (cI, 40, .inl (upd tk (i - d) (tk i)))), (b0, .inl (cI, 40, .inl cd))] H := hP
      have hD : va_D A [(h0, .inr (4, [.ref a0, .ref b0, .int z])), (a0, .inl (cI, 40, .inl (upd tk (i - d) (tk i)))), (b0, .inl (cI, 40, .inl cd))] := hD
      refine lv_aload_n hx hb dX4_takeDue_70 rfl (lv_at hl 0 rfl) ?_
      refine va_get (D := D) (ci := 4) (v := .ref b0) (C := RX4) (T := TX4) (N := 3) hx hb hts hiX4 hown hK hP 0 rfl rfl 1 (by decide) hk_15 (fun _ h9 => h9) rfl dX4_takeDue_71 ?_
      refine lv_iload hx hb dX4_takeDue_74 (lv_at hl 5 rfl) ?_
      refine lv_iload_n hx hb dX4_takeDue_76 rfl (lv_at hl 3 rfl) ?_
      refine my_isubN hx hb i d rfl rfl (hd) dX4_takeDue_77 ?_
      refine lv_aload_n hx hb dX4_takeDue_78 rfl (lv_at hl 0 rfl) ?_
      refine va_get (D := D) (ci := 4) (v := .ref b0) (C := RX4) (T := TX4) (N := 3) hx hb hts hiX4 hown hK hP 0 rfl rfl 1 (by decide) hk_15 (fun _ h9 => h9) rfl dX4_takeDue_79 ?_
      refine lv_iload hx hb dX4_takeDue_82 (lv_at hl 5 rfl) ?_
      refine my_iald hx hb hK hP 2 0 rfl rfl i (rfl) (by have := nz_lt hz hi c_1; have := tn_lt hz; omega) (by decide) dX4_takeDue_84 ?_
      refine my_iast hx hb hK hP hD hS 2 0 rfl rfl (i - d) (rfl) (by have := nz_lt hz hi c_1; have := tn_lt hz; omega) (by decide) dX4_takeDue_85 (fun H locs hP hD hS => ?_)
      have hP : va_P D vwCl [(h0, .inr (4, [.ref a0, .ref b0, .int z])), (a0, .inl (cI, 40, .inl (upd tk (i - d) (tk i)))), (b0, .inl (cI, 40, .inl (upd cd (i - d) (cd i))))] H := hP
      have hD : va_D A [(h0, .inr (4, [.ref a0, .ref b0, .int z])), (a0, .inl (cI, 40, .inl (upd tk (i - d) (tk i)))), (b0, .inl (cI, 40, .inl (upd cd (i - d) (cd i))))] := hD
      refine lv_iinc (v := nI (i + 1)) (lv' := [(5, .int (nI (i + 1))), (0, .ref h0), (1, .int t), (2, .int b), (3, .int (nI d)), (4, .int o)]) hx hb dX4_takeDue_86 hl (k := 5) rfl (nI_1 _) (by decide) rfl (fun ls hl => ?_)
      refine lv_goto (tgt := 45) hx hb dX4_takeDue_89 (by decide) ?_
      exact ih h0 a0 b0 z (upd tk (i - d) (tk i)) (upd cd (i - d) (cd i)) t b o d (i + 1) _ _ _ (hz) (by omega) (nz_lt hz hi c_1) (by omega) (hP.subm [0, 1, 2] rfl) (hD.sub [0, 1, 2] rfl rfl) hS (lv_sub hl [1, 2, 3, 4, 5, 0] rfl) (fun y H locs ls hy => kk y H locs ls (by rw [hy]; simp only [LP_X4_takeDue2, if_neg c_1]))
def F_X4_takeDue (z : Int32) (tk : Nat → Int32) (cd : Nat → Int32) (t : Int32) (b : Int32) : Int32 × Int32 × (Nat → Int32) × (Nat → Int32) :=
  let q1 := LP_X4_takeDue1 41 z tk cd t b 0
  if nI q1 = (0 : Int32) then
    (b, (z, tk, cd))
  else
    let q3 := LP_X4_takeDue2 41 z tk cd t b (cd (q1 - 1)) q1 q1
    ((cd (q1 - 1)), (z - (nI q1), q3.2.1, q3.2.2))
set_option maxHeartbeats 4000000 in
set_option maxRecDepth 100000 in
theorem met_X4_takeDue (l : Launch) (D : va_G) (cI cJ cS : ClassId) (h0 : Nat) (a0 : Nat) (b0 : Nat) (z : Int32) (tk : Nat → Int32) (cd : Nat → Int32) (t : Int32) (b : Int32) (hz : vp_in z 41) : ∀ sz : Nat, Met l yX4_takeDue wsX4_takeDue ({ frames := 0, cells := 0, slots := 0, locals := 0 } : Room) (va_Pc [.ref h0, .int t, .int b] (cPre D (tyz cI cJ cS) ([(h0, .inr (4, [.ref a0, .ref b0, .int z])), (a0, .inl (cI, 40, .inl tk)), (b0, .inl (cI, 40, .inl cd))]) sz)) (va_Qi (fun (r : Int32) (u : Int32 × (Nat → Int32) × (Nat → Int32)) => (r, u) = F_X4_takeDue z tk cd t b) (fun u => cPost D (tyz cI cJ cS) (va_A ([(h0, .inr (4, [.ref a0, .ref b0, .int z])), (a0, .inl (cI, 40, .inl tk)), (b0, .inl (cI, 40, .inl cd))]) sz) ([(h0, .inr (4, [.ref a0, .ref b0, .int u.1])), (a0, .inl (cI, 40, .inl u.2.1)), (b0, .inl (cI, 40, .inl u.2.2))])) (va_A ([(h0, .inr (4, [.ref a0, .ref b0, .int z])), (a0, .inl (cI, 40, .inl tk)), (b0, .inl (cI, 40, .inl cd))]) sz)) 0 0 (va_A ([(h0, .inr (4, [.ref a0, .ref b0, .int z])), (a0, .inl (cI, 40, .inl tk)), (b0, .inl (cI, 40, .inl cd))]) sz) := by
  refine my_met (QC := fun A => (va_Qi (fun (r : Int32) (u : Int32 × (Nat → Int32) × (Nat → Int32)) => (r, u) = F_X4_takeDue z tk cd t b) (fun u => cPost D (tyz cI cJ cS) A ([(h0, .inr (4, [.ref a0, .ref b0, .int u.1])), (a0, .inl (cI, 40, .inl u.2.1)), (b0, .inl (cI, 40, .inl u.2.2))])) A)) (cc := cX4_takeDue) (maxL := 6) (ret := (some .int)) (by decide) rfl (Nat.le_of_ble_eq_true rfl) ?_
  intro p e s m below meth c ls A hx hb hml hr hts hown hlocks hname hK hP hD hS hA hG hl
  have hown : s.vm.findClass RX4 = some m.cls := hown
  have hl : lv_has ls 6 [(0, .ref h0), (1, .int t), (2, .int b)] := hl
  have hP : va_P D vwCl [(h0, .inr (4, [.ref a0, .ref b0, .int z])), (a0, .inl (cI, 40, .inl tk)), (b0, .inl (cI, 40, .inl cd))] s.heap := hP
  have hD : va_D A [(h0, .inr (4, [.ref a0, .ref b0, .int z])), (a0, .inl (cI, 40, .inl tk)), (b0, .inl (cI, 40, .inl cd))] := hD
  have hiX4 : ∀ w ∈ u_ws RX4 TX4 3, w ∈ wsX4_takeDue := by decide +kernel
  have hk_15 := hts (.fieldLink RX4 15 "HallCommutator$Queue" "codes" "[I") (by decide +kernel)
  have hk_18 := hts (.fieldLink RX4 18 "HallCommutator$Queue" "size" "I") (by decide +kernel)
  refine lv_iconst (v := 0) hx hb dX4_takeDue_0 (by decide) ?_
  refine lv_istore_n (lv' := [(3, .int (0 : Int32)), (0, .ref h0), (1, .int t), (2, .int b)]) hx hb dX4_takeDue_1 rfl hl (by decide) rfl (fun ls hl => ?_)
  refine lps_X4_takeDue1 l D cI cJ cS hx hb hml hown hts hK hA hG 41 h0 a0 b0 z tk cd t b 0 _ _ _ (hz) (Nat.zero_le _) (by have := tn_lt hz; omega) (hP.subm [0, 1, 2] rfl) (hD.sub [0, 1, 2] rfl rfl) hS (lv_sub hl [1, 2, 3, 0] rfl) (fun y_1 H locs ls hw_1 hq_1_h1 hP hD hS hl => ?_)
  have hq_1_h1 : y_1 ≤ tn z := hq_1_h1
  have hl : lv_has ls 6 [(0, .ref h0), (1, .int t), (2, .int b), (3, .int (nI y_1))] := hl
  have hP : va_P D vwCl [(h0, .inr (4, [.ref a0, .ref b0, .int z])), (a0, .inl (cI, 40, .inl tk)), (b0, .inl (cI, 40, .inl cd))] H := hP
  have hD : va_D A [(h0, .inr (4, [.ref a0, .ref b0, .int z])), (a0, .inl (cI, 40, .inl tk)), (b0, .inl (cI, 40, .inl cd))] := hD
  refine lv_iload_n hx hb dX4_takeDue_26 rfl (lv_at hl 3 rfl) ?_
  refine lv_if_ne (tgt := 32) hx hb dX4_takeDue_27 (by decide) (fun c_2 => ?_) (fun c_2 => ?_)
  · skip
    refine lv_aload_n hx hb dX4_takeDue_32 rfl (lv_at hl 0 rfl) ?_
    refine va_get (D := D) (ci := 4) (v := .ref b0) (C := RX4) (T := TX4) (N := 3) hx hb hts hiX4 hown hK hP 0 rfl rfl 1 (by decide) hk_15 (fun _ h9 => h9) rfl dX4_takeDue_33 ?_
    refine lv_iload_n hx hb dX4_takeDue_36 rfl (lv_at hl 3 rfl) ?_
    refine lv_iconst (v := 1) hx hb dX4_takeDue_37 (by decide) ?_
    refine my_isubN hx hb y_1 1 rfl rfl (nI_p1 c_2) dX4_takeDue_38 ?_
    refine my_iald hx hb hK hP 2 0 rfl rfl (y_1 - 1) (rfl) (by have := hq_1_h1; have := tn_lt hz; omega) (by decide) dX4_takeDue_39 ?_
    refine lv_istore (lv' := [(4, .int (cd (y_1 - 1))), (0, .ref h0), (1, .int t), (2, .int b), (3, .int (nI y_1))]) hx hb dX4_takeDue_40 hl (by decide) rfl (fun ls hl => ?_)
    refine lv_iload_n hx hb dX4_takeDue_42 rfl (lv_at hl 4 rfl) ?_
    refine lv_istore (lv' := [(5, .int (nI y_1)), (4, .int (cd (y_1 - 1))), (0, .ref h0), (1, .int t), (2, .int b), (3, .int (nI y_1))]) hx hb dX4_takeDue_43 hl (by decide) rfl (fun ls hl => ?_)
    refine lps_X4_takeDue2 l D cI cJ cS hx hb hml hown hts hK hA hG 41 h0 a0 b0 z tk cd t b (cd (y_1 - 1)) y_1 y_1 _ _ _ (hz) (Nat.le_refl _) (hq_1_h1) (by have := tn_lt hz; omega) (hP.subm [0, 1, 2] rfl) (hD.sub [0, 1, 2] rfl rfl) hS (lv_sub hl [2, 3, 4, 5, 1, 0] rfl) (fun y_3 H locs ls hw_3 hP hD hS hl => ?_)
    obtain ⟨y_3_0, y_3_1, y_3_2⟩ := y_3
    have hl : lv_has ls 6 [(0, .ref h0), (1, .int t), (2, .int b), (3, .int (nI y_1)), (4, .int (cd (y_1 - 1))), (5, .int (nI y_3_0))] := hl
    have hP : va_P D vwCl [(h0, .inr (4, [.ref a0, .ref b0, .int z])), (a0, .inl (cI, 40, .inl y_3_1)), (b0, .inl (cI, 40, .inl y_3_2))] H := hP
    have hD : va_D A [(h0, .inr (4, [.ref a0, .ref b0, .int z])), (a0, .inl (cI, 40, .inl y_3_1)), (b0, .inl (cI, 40, .inl y_3_2))] := hD
    refine lv_aload_n hx hb dX4_takeDue_92 rfl (lv_at hl 0 rfl) ?_
    refine lv_dup hx hb dX4_takeDue_93 rfl ?_
    refine va_get (D := D) (ci := 4) (v := .int z) (C := RX4) (T := TX4) (N := 3) hx hb hts hiX4 hown hK hP 0 rfl rfl 2 (by decide) hk_18 (fun _ h9 => h9) rfl dX4_takeDue_94 ?_
    refine lv_iload_n hx hb dX4_takeDue_97 rfl (lv_at hl 3 rfl) ?_
    refine lv_isub hx hb dX4_takeDue_98 ?_
    refine va_put (D := D) (ci := 4) (v := .int (z - (nI y_1))) (ty := .int) (C := RX4) (T := TX4) (N := 3) hx hb hts hiX4 tyX4 tyX4_ok nmX4 hown hK hP hD hS 0 rfl rfl 2 (by decide) hk_18 (fun _ h9 => h9) rfl (by decide +kernel) rfl rfl (Nat.le_of_ble_eq_true rfl) dX4_takeDue_99 (fun H locs hP hD hS => ?_)
    have hP : va_P D vwCl [(h0, .inr (4, [.ref a0, .ref b0, .int (z - (nI y_1))])), (a0, .inl (cI, 40, .inl y_3_1)), (b0, .inl (cI, 40, .inl y_3_2))] H := hP
    have hD : va_D A [(h0, .inr (4, [.ref a0, .ref b0, .int (z - (nI y_1))])), (a0, .inl (cI, 40, .inl y_3_1)), (b0, .inl (cI, 40, .inl y_3_2))] := hD
    refine lv_iload hx hb dX4_takeDue_102 (lv_at hl 4 rfl) ?_
    exact my_iret hx hb hr rfl hlocks hK hP hD hS (z - (nI y_1), y_3_1, y_3_2) (by show ((cd (y_1 - 1)), (z - (nI y_1), y_3_1, y_3_2)) = F_X4_takeDue z tk cd t b; simp only [F_X4_takeDue, if_neg c_2, ← hw_1, ← hw_3]) [0, 1, 2] rfl rfl dX4_takeDue_104
  · skip
    refine lv_iload_n hx hb dX4_takeDue_30 rfl (lv_at hl 2 rfl) ?_
    exact my_iret hx hb hr rfl hlocks hK hP hD hS (z, tk, cd) (by show (b, (z, tk, cd)) = F_X4_takeDue z tk cd t b; simp only [F_X4_takeDue, if_pos c_2, ← hw_1]) [0, 1, 2] rfl rfl dX4_takeDue_31
