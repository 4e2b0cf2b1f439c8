def F_X0_copyFrom (pu : Int32) (w0 : Nat → Int32) (w1 : Nat → Int32) (w2 : Nat → Int32) (w3 : Nat → Int32) (w4 : Nat → Int32) (o : Int32) (y0 : Nat → Int32) (y1 : Nat → Int32) (y2 : Nat → Int32) (y3 : Nat → Int32) (y4 : Nat → Int32) : Int32 × (Nat → Int32) × (Nat → Int32) × (Nat → Int32) × (Nat → Int32) × (Nat → Int32) :=
  (o, va_cpy y0 w0 0 0 3, va_cpy y1 w1 0 0 3, va_cpy y2 w2 0 0 3, va_cpy y3 w3 0 0 3, va_cpy y4 w4 0 0 3)
set_option maxHeartbeats 4000000 in
set_option maxRecDepth 100000 in
theorem met_X0_copyFrom (l : Launch) (D : va_G) (cI cJ cS : ClassId) (h0 : Nat) (q0 : Nat) (q1 : Nat) (q2 : Nat) (q3 : Nat) (q4 : Nat) (h1 : Nat) (e0 : Nat) (e1 : Nat) (e2 : Nat) (e3 : Nat) (e4 : Nat) (pu : Int32) (w0 : Nat → Int32) (w1 : Nat → Int32) (w2 : Nat → Int32) (w3 : Nat → Int32) (w4 : Nat → Int32) (o : Int32) (y0 : Nat → Int32) (y1 : Nat → Int32) (y2 : Nat → Int32) (y3 : Nat → Int32) (y4 : Nat → Int32)  : ∀ sz : Nat, Met l yX0_copyFrom wsX0_copyFrom ({ frames := 1, cells := 0, slots := 0, locals := 60 } : Room) (va_Pc [.ref h0, .ref h1] (cPre D (tyz cI cJ cS) ([(h0, .inr (0, [.int pu, .ref q0, .ref q1, .ref q2, .ref q3, .ref q4])), (q0, .inl (cI, 3, .inl w0)), (q1, .inl (cI, 3, .inl w1)), (q2, .inl (cI, 3, .inl w2)), (q3, .inl (cI, 3, .inl w3)), (q4, .inl (cI, 3, .inl w4)), (h1, .inr (0, [.int o, .ref e0, .ref e1, .ref e2, .ref e3, .ref e4])), (e0, .inl (cI, 3, .inl y0)), (e1, .inl (cI, 3, .inl y1)), (e2, .inl (cI, 3, .inl y2)), (e3, .inl (cI, 3, .inl y3)), (e4, .inl (cI, 3, .inl y4))]) sz)) (va_Qv (fun (u : Int32 × (Nat → Int32) × (Nat → Int32) × (Nat → Int32) × (Nat → Int32) × (Nat → Int32)) => u = F_X0_copyFrom pu w0 w1 w2 w3 w4 o y0 y1 y2 y3 y4) (fun u => cPost D (tyz cI cJ cS) (va_A ([(h0, .inr (0, [.int pu, .ref q0, .ref q1, .ref q2, .ref q3, .ref q4])), (q0, .inl (cI, 3, .inl w0)), (q1, .inl (cI, 3, .inl w1)), (q2, .inl (cI, 3, .inl w2)), (q3, .inl (cI, 3, .inl w3)), (q4, .inl (cI, 3, .inl w4)), (h1, .inr (0, [.int o, .ref e0, .ref e1, .ref e2, .ref e3, .ref e4])), (e0, .inl (cI, 3, .inl y0)), (e1, .inl (cI, 3, .inl y1)), (e2, .inl (cI, 3, .inl y2)), (e3, .inl (cI, 3, .inl y3)), (e4, .inl (cI, 3, .inl y4))]) sz) ([(h0, .inr (0, [.int u.1, .ref q0, .ref q1, .ref q2, .ref q3, .ref q4])), (q0, .inl (cI, 3, .inl u.2.1)), (q1, .inl (cI, 3, .inl u.2.2.1)), (q2, .inl (cI, 3, .inl u.2.2.2.1)), (q3, .inl (cI, 3, .inl u.2.2.2.2.1)), (q4, .inl (cI, 3, .inl u.2.2.2.2.2)), (h1, .inr (0, [.int o, .ref e0, .ref e1, .ref e2, .ref e3, .ref e4])), (e0, .inl (cI, 3, .inl y0)), (e1, .inl (cI, 3, .inl y1)), (e2, .inl (cI, 3, .inl y2)), (e3, .inl (cI, 3, .inl y3)), (e4, .inl (cI, 3, .inl y4))])) (va_A ([(h0, .inr (0, [.int pu, .ref q0, .ref q1, .ref q2, .ref q3, .ref q4])), (q0, .inl (cI, 3, .inl w0)), (q1, .inl (cI, 3, .inl w1)), (q2, .inl (cI, 3, .inl w2)), (q3, .inl (cI, 3, .inl w3)), (q4, .inl (cI, 3, .inl w4)), (h1, .inr (0, [.int o, .ref e0, .ref e1, .ref e2, .ref e3, .ref e4])), (e0, .inl (cI, 3, .inl y0)), (e1, .inl (cI, 3, .inl y1)), (e2, .inl (cI, 3, .inl y2)), (e3, .inl (cI, 3, .inl y3)), (e4, .inl (cI, 3, .inl y4))]) sz)) 0 0 (va_A ([(h0, .inr (0, [.int pu, .ref q0, .ref q1, .ref q2, .ref q3, .ref q4])), (q0, .inl (cI, 3, .inl w0)), (q1, .inl (cI, 3, .inl w1)), (q2, .inl (cI, 3, .inl w2)), (q3, .inl (cI, 3, .inl w3)), (q4, .inl (cI, 3, .inl w4)), (h1, .inr (0, [.int o, .ref e0, .ref e1, .ref e2, .ref e3, .ref e4])), (e0, .inl (cI, 3, .inl y0)), (e1, .inl (cI, 3, .inl y1)), (e2, .inl (cI, 3, .inl y2)), (e3, .inl (cI, 3, .inl y3)), (e4, .inl (cI, 3, .inl y4))]) sz) := by
  refine my_met (QC := fun A => (va_Qv (fun (u : Int32 × (Nat → Int32) × (Nat → Int32) × (Nat → Int32) × (Nat → Int32) × (Nat → Int32)) => u = F_X0_copyFrom pu w0 w1 w2 w3 w4 o y0 y1 y2 y3 y4) (fun u => cPost D (tyz cI cJ cS) A ([(h0, .inr (0, [.int u.1, .ref q0, .ref q1, .ref q2, .ref q3, .ref q4])), (q0, .inl (cI, 3, .inl u.2.1)), (q1, .inl (cI, 3, .inl u.2.2.1)), (q2, .inl (cI, 3, .inl u.2.2.2.1)), (q3, .inl (cI, 3, .inl u.2.2.2.2.1)), (q4, .inl (cI, 3, .inl u.2.2.2.2.2)), (h1, .inr (0, [.int o, .ref e0, .ref e1, .ref e2, .ref e3, .ref e4])), (e0, .inl (cI, 3, .inl y0)), (e1, .inl (cI, 3, .inl y1)), (e2, .inl (cI, 3, .inl y2)), (e3, .inl (cI, 3, .inl y3)), (e4, .inl (cI, 3, .inl y4))])) A)) (cc := cX0_copyFrom) (maxL := 2) (ret := none) (by decide) rfl (Nat.le_of_ble_eq_true rfl) ?_
  intro p e s m below meth c ls A hx hb hml hr hts hown hlocks hname hK hP hD hS hA hG hl
  have hown : s.vm.findClass RX0 = some m.cls := hown
  have hl : lv_has ls 2 [(0, .ref h0), (1, .ref h1)] := hl
  have hP : va_P D vwCl [(h0, .inr (0, [.int pu, .ref q0, .ref q1, .ref q2, .ref q3, .ref q4])), (q0, .inl (cI, 3, .inl w0)), (q1, .inl (cI, 3, .inl w1)), (q2, .inl (cI, 3, .inl w2)), (q3, .inl (cI, 3, .inl w3)), (q4, .inl (cI, 3, .inl w4)), (h1, .inr (0, [.int o, .ref e0, .ref e1, .ref e2, .ref e3, .ref e4])), (e0, .inl (cI, 3, .inl y0)), (e1, .inl (cI, 3, .inl y1)), (e2, .inl (cI, 3, .inl y2)), (e3, .inl (cI, 3, .inl y3)), (e4, .inl (cI, 3, .inl y4))] s.heap := hP
  have hD : va_D A [(h0, .inr (0, [.int pu, .ref q0, .ref q1, .ref q2, .ref q3, .ref q4])), (q0, .inl (cI, 3, .inl w0)), (q1, .inl (cI, 3, .inl w1)), (q2, .inl (cI, 3, .inl w2)), (q3, .inl (cI, 3, .inl w3)), (q4, .inl (cI, 3, .inl w4)), (h1, .inr (0, [.int o, .ref e0, .ref e1, .ref e2, .ref e3, .ref e4])), (e0, .inl (cI, 3, .inl y0)), (e1, .inl (cI, 3, .inl y1)), (e2, .inl (cI, 3, .inl y2)), (e3, .inl (cI, 3, .inl y3)), (e4, .inl (cI, 3, .inl y4))] := hD
  have hiX0 : ∀ w ∈ u_ws RX0 TX0 6, w ∈ wsX0_copyFrom := by decide +kernel
  have hk_15 := hts (.fieldLink RX0 15 "HallCommutator$Drive" "legs" "[I") (by decide +kernel)
  have hk_19 := hts (.fieldLink RX0 19 "HallCommutator$Drive" "highTicks" "[I") (by decide +kernel)
  have hk_22 := hts (.fieldLink RX0 22 "HallCommutator$Drive" "lowTicks" "[I") (by decide +kernel)
  have hk_25 := hts (.fieldLink RX0 25 "HallCommutator$Drive" "lastHigh" "[I") (by decide +kernel)
  have hk_28 := hts (.fieldLink RX0 28 "HallCommutator$Drive" "lastLow" "[I") (by decide +kernel)
  have hk_9 := hts (.fieldLink RX0 9 "HallCommutator$Drive" "pulseCounter" "I") (by decide +kernel)
  refine lv_aload_n hx hb dX0_copyFrom_0 rfl (lv_at hl 0 rfl) ?_
  refine lv_aload_n hx hb dX0_copyFrom_1 rfl (lv_at hl 1 rfl) ?_
  refine va_get (D := D) (ci := 0) (v := .int o) (C := RX0) (T := TX0) (N := 6) hx hb hts hiX0 hown hK hP 6 rfl rfl 0 (by decide) hk_9 (fun _ h9 => h9) rfl dX0_copyFrom_2 ?_
  refine va_put (D := D) (ci := 0) (v := .int o) (ty := .int) (C := RX0) (T := TX0) (N := 6) hx hb hts hiX0 tyX0 tyX0_ok nmX0 hown hK hP hD hS 0 rfl rfl 0 (by decide) hk_9 (fun _ h9 => h9) rfl (by decide +kernel) rfl rfl (Nat.le_of_ble_eq_true rfl) dX0_copyFrom_5 (fun H locs hP hD hS => ?_)
  have hP : va_P D vwCl [(h0, .inr (0, [.int o, .ref q0, .ref q1, .ref q2, .ref q3, .ref q4])), (q0, .inl (cI, 3, .inl w0)), (q1, .inl (cI, 3, .inl w1)), (q2, .inl (cI, 3, .inl w2)), (q3, .inl (cI, 3, .inl w3)), (q4, .inl (cI, 3, .inl w4)), (h1, .inr (0, [.int o, .ref e0, .ref e1, .ref e2, .ref e3, .ref e4])), (e0, .inl (cI, 3, .inl y0)), (e1, .inl (cI, 3, .inl y1)), (e2, .inl (cI, 3, .inl y2)), (e3, .inl (cI, 3, .inl y3)), (e4, .inl (cI, 3, .inl y4))] H := hP
  have hD : va_D A [(h0, .inr (0, [.int o, .ref q0, .ref q1, .ref q2, .ref q3, .ref q4])), (q0, .inl (cI, 3, .inl w0)), (q1, .inl (cI, 3, .inl w1)), (q2, .inl (cI, 3, .inl w2)), (q3, .inl (cI, 3, .inl w3)), (q4, .inl (cI, 3, .inl w4)), (h1, .inr (0, [.int o, .ref e0, .ref e1, .ref e2, .ref e3, .ref e4])), (e0, .inl (cI, 3, .inl y0)), (e1, .inl (cI, 3, .inl y1)), (e2, .inl (cI, 3, .inl y2)), (e3, .inl (cI, 3, .inl y3)), (e4, .inl (cI, 3, .inl y4))] := hD
  refine lv_aload_n hx hb dX0_copyFrom_8 rfl (lv_at hl 1 rfl) ?_
  refine va_get (D := D) (ci := 0) (v := .ref e0) (C := RX0) (T := TX0) (N := 6) hx hb hts hiX0 hown hK hP 6 rfl rfl 1 (by decide) hk_15 (fun _ h9 => h9) rfl dX0_copyFrom_9 ?_
  refine lv_iconst (v := 0) hx hb dX0_copyFrom_12 (by decide) ?_
  refine lv_aload_n hx hb dX0_copyFrom_13 rfl (lv_at hl 0 rfl) ?_
  refine va_get (D := D) (ci := 0) (v := .ref q0) (C := RX0) (T := TX0) (N := 6) hx hb hts hiX0 hown hK hP 0 rfl rfl 1 (by decide) hk_15 (fun _ h9 => h9) rfl dX0_copyFrom_14 ?_
  refine lv_iconst (v := 0) hx hb dX0_copyFrom_17 (by decide) ?_
  refine lv_iconst (v := 3) hx hb dX0_copyFrom_18 (by decide) ?_
  refine va_copyi (ty := .int) hx hb (by rw [hml]; exact hl.1.symm) hown (hts (.methodLink RX0 31 arraycopyName) (by decide +kernel)) (hts (.native arraycopyName) (by decide +kernel)) (hts (.static arraycopyName) (by decide +kernel)) (hts (.initialized "java/lang/System") (by decide +kernel)) hK hP hD hS 7 1 0 0 rfl rfl rfl rfl rfl (by decide) (by decide) (by decide) (by decide) (by decide) (fun _ _ => rfl) (Nat.le_of_ble_eq_true rfl) (Nat.le_of_ble_eq_true rfl) dX0_copyFrom_19 (fun H locs hP hD hS => ?_)
  have hP : va_P D vwCl [(h0, .inr (0, [.int o, .ref q0, .ref q1, .ref q2, .ref q3, .ref q4])), (q0, .inl (cI, 3, .inl (va_cpy y0 w0 0 0 3))), (q1, .inl (cI, 3, .inl w1)), (q2, .inl (cI, 3, .inl w2)), (q3, .inl (cI, 3, .inl w3)), (q4, .inl (cI, 3, .inl w4)), (h1, .inr (0, [.int o, .ref e0, .ref e1, .ref e2, .ref e3, .ref e4])), (e0, .inl (cI, 3, .inl y0)), (e1, .inl (cI, 3, .inl y1)), (e2, .inl (cI, 3, .inl y2)), (e3, .inl (cI, 3, .inl y3)), (e4, .inl (cI, 3, .inl y4))] H := hP
  have hD : va_D A [(h0, .inr (0, [.int o, .ref q0, .ref q1, .ref q2, .ref q3, .ref q4])), (q0, .inl (cI, 3, .inl (va_cpy y0 w0 0 0 3))), (q1, .inl (cI, 3, .inl w1)), (q2, .inl (cI, 3, .inl w2)), (q3, .inl (cI, 3, .inl w3)), (q4, .inl (cI, 3, .inl w4)), (h1, .inr (0, [.int o, .ref e0, .ref e1, .ref e2, .ref e3, .ref e4])), (e0, .inl (cI, 3, .inl y0)), (e1, .inl (cI, 3, .inl y1)), (e2, .inl (cI, 3, .inl y2)), (e3, .inl (cI, 3, .inl y3)), (e4, .inl (cI, 3, .inl y4))] := hD
  refine lv_aload_n hx hb dX0_copyFrom_22 rfl (lv_at hl 1 rfl) ?_
  refine va_get (D := D) (ci := 0) (v := .ref e1) (C := RX0) (T := TX0) (N := 6) hx hb hts hiX0 hown hK hP 6 rfl rfl 2 (by decide) hk_19 (fun _ h9 => h9) rfl dX0_copyFrom_23 ?_
  refine lv_iconst (v := 0) hx hb dX0_copyFrom_26 (by decide) ?_
  refine lv_aload_n hx hb dX0_copyFrom_27 rfl (lv_at hl 0 rfl) ?_
  refine va_get (D := D) (ci := 0) (v := .ref q1) (C := RX0) (T := TX0) (N := 6) hx hb hts hiX0 hown hK hP 0 rfl rfl 2 (by decide) hk_19 (fun _ h9 => h9) rfl dX0_copyFrom_28 ?_
  refine lv_iconst (v := 0) hx hb dX0_copyFrom_31 (by decide) ?_
  refine lv_iconst (v := 3) hx hb dX0_copyFrom_32 (by decide) ?_
  refine va_copyi (ty := .int) hx hb (by rw [hml]; exact hl.1.symm) hown (hts (.methodLink RX0 31 arraycopyName) (by decide +kernel)) (hts (.native arraycopyName) (by decide +kernel)) (hts (.static arraycopyName) (by decide +kernel)) (hts (.initialized "java/lang/System") (by decide +kernel)) hK hP hD hS 8 2 0 0 rfl rfl rfl rfl rfl (by decide) (by decide) (by decide) (by decide) (by decide) (fun _ _ => rfl) (Nat.le_of_ble_eq_true rfl) (Nat.le_of_ble_eq_true rfl) dX0_copyFrom_33 (fun H locs hP hD hS => ?_)
  have hP : va_P D vwCl [(h0, .inr (0, [.int o, .ref q0, .ref q1, .ref q2, .ref q3, .ref q4])), (q0, .inl (cI, 3, .inl (va_cpy y0 w0 0 0 3))), (q1, .inl (cI, 3, .inl (va_cpy y1 w1 0 0 3))), (q2, .inl (cI, 3, .inl w2)), (q3, .inl (cI, 3, .inl w3)), (q4, .inl (cI, 3, .inl w4)), (h1, .inr (0, [.int o, .ref e0, .ref e1, .ref e2, .ref e3, .ref e4])), (e0, .inl (cI, 3, .inl y0)), (e1, .inl (cI, 3, .inl y1)), (e2, .inl (cI, 3, .inl y2)), (e3, .inl (cI, 3, .inl y3)), (e4, .inl (cI, 3, .inl y4))] H := hP
  have hD : va_D A [(h0, .inr (0, [.int o, .ref q0, .ref q1, .ref q2, .ref q3, .ref q4])), (q0, .inl (cI, 3, .inl (va_cpy y0 w0 0 0 3))), (q1, .inl (cI, 3, .inl (va_cpy y1 w1 0 0 3))), (q2, .inl (cI, 3, .inl w2)), (q3, .inl (cI, 3, .inl w3)), (q4, .inl (cI, 3, .inl w4)), (h1, .inr (0, [.int o, .ref e0, .ref e1, .ref e2, .ref e3, .ref e4])), (e0, .inl (cI, 3, .inl y0)), (e1, .inl (cI, 3, .inl y1)), (e2, .inl (cI, 3, .inl y2)), (e3, .inl (cI, 3, .inl y3)), (e4, .inl (cI, 3, .inl y4))] := hD
  refine lv_aload_n hx hb dX0_copyFrom_36 rfl (lv_at hl 1 rfl) ?_
  refine va_get (D := D) (ci := 0) (v := .ref e2) (C := RX0) (T := TX0) (N := 6) hx hb hts hiX0 hown hK hP 6 rfl rfl 3 (by decide) hk_22 (fun _ h9 => h9) rfl dX0_copyFrom_37 ?_
  refine lv_iconst (v := 0) hx hb dX0_copyFrom_40 (by decide) ?_
  refine lv_aload_n hx hb dX0_copyFrom_41 rfl (lv_at hl 0 rfl) ?_
  refine va_get (D := D) (ci := 0) (v := .ref q2) (C := RX0) (T := TX0) (N := 6) hx hb hts hiX0 hown hK hP 0 rfl rfl 3 (by decide) hk_22 (fun _ h9 => h9) rfl dX0_copyFrom_42 ?_
  refine lv_iconst (v := 0) hx hb dX0_copyFrom_45 (by decide) ?_
  refine lv_iconst (v := 3) hx hb dX0_copyFrom_46 (by decide) ?_
  refine va_copyi (ty := .int) hx hb (by rw [hml]; exact hl.1.symm) hown (hts (.methodLink RX0 31 arraycopyName) (by decide +kernel)) (hts (.native arraycopyName) (by decide +kernel)) (hts (.static arraycopyName) (by decide +kernel)) (hts (.initialized "java/lang/System") (by decide +kernel)) hK hP hD hS 9 3 0 0 rfl rfl rfl rfl rfl (by decide) (by decide) (by decide) (by decide) (by decide) (fun _ _ => rfl) (Nat.le_of_ble_eq_true rfl) (Nat.le_of_ble_eq_true rfl) dX0_copyFrom_47 (fun H locs hP hD hS => ?_)
  have hP : va_P D vwCl [(h0, .inr (0, [.int o, .ref q0, .ref q1, .ref q2, .ref q3, .ref q4])), (q0, .inl (cI, 3, .inl (va_cpy y0 w0 0 0 3))), (q1, .inl (cI, 3, .inl (va_cpy y1 w1 0 0 3))), (q2, .inl (cI, 3, .inl (va_cpy y2 w2 0 0 3))), (q3, .inl (cI, 3, .inl w3)), (q4, .inl (cI, 3, .inl w4)), (h1, .inr (0, [.int o, .ref e0, .ref e1, .ref e2, .ref e3, .ref e4])), (e0, .inl (cI, 3, .inl y0)), (e1, .inl (cI, 3, .inl y1)), (e2, .inl (cI, 3, .inl y2)), (e3, .inl (cI, 3, .inl y3)), (e4, .inl (cI, 3, .inl y4))] H := hP
  have hD : va_D A [(h0, .inr (0, [.int o, .ref q0, .ref q1, .ref q2, .ref q3, .ref q4])), (q0, .inl (cI, 3, .inl (va_cpy y0 w0 0 0 3))), (q1, .inl (cI, 3, .inl (va_cpy y1 w1 0 0 3))), (q2, .inl (cI, 3, .inl (va_cpy y2 w2 0 0 3))), (q3, .inl (cI, 3, .inl w3)), (q4, .inl (cI, 3, .inl w4)), (h1, .inr (0, [.int o, .ref e0, .ref e1, .ref e2, .ref e3, .ref e4])), (e0, .inl (cI, 3, .inl y0)), (e1, .inl (cI, 3, .inl y1)), (e2, .inl (cI, 3, .inl y2)), (e3, .inl (cI, 3, .inl y3)), (e4, .inl (cI, 3, .inl y4))] := hD
  refine lv_aload_n hx hb dX0_copyFrom_50 rfl (lv_at hl 1 rfl) ?_
  refine va_get (D := D) (ci := 0) (v := .ref e3) (C := RX0) (T := TX0) (N := 6) hx hb hts hiX0 hown hK hP 6 rfl rfl 4 (by decide) hk_25 (fun _ h9 => h9) rfl dX0_copyFrom_51 ?_
  refine lv_iconst (v := 0) hx hb dX0_copyFrom_54 (by decide) ?_
  refine lv_aload_n hx hb dX0_copyFrom_55 rfl (lv_at hl 0 rfl) ?_
  refine va_get (D := D) (ci := 0) (v := .ref q3) (C := RX0) (T := TX0) (N := 6) hx hb hts hiX0 hown hK hP 0 rfl rfl 4 (by decide) hk_25 (fun _ h9 => h9) rfl dX0_copyFrom_56 ?_
  refine lv_iconst (v := 0) hx hb dX0_copyFrom_59 (by decide) ?_
  refine lv_iconst (v := 3) hx hb dX0_copyFrom_60 (by decide) ?_
  refine va_copyi (ty := .int) hx hb (by rw [hml]; exact hl.1.symm) hown (hts (.methodLink RX0 31 arraycopyName) (by decide +kernel)) (hts (.native arraycopyName) (by decide +kernel)) (hts (.static arraycopyName) (by decide +kernel)) (hts (.initialized "java/lang/System") (by decide +kernel)) hK hP hD hS 10 4 0 0 rfl rfl rfl rfl rfl (by decide) (by decide) (by decide) (by decide) (by decide) (fun _ _ => rfl) (Nat.le_of_ble_eq_true rfl) (Nat.le_of_ble_eq_true rfl) dX0_copyFrom_61 (fun H locs hP hD hS => ?_)
  have hP : va_P D vwCl [(h0, .inr (0, [.int o, .ref q0, .ref q1, .ref q2, .ref q3, .ref q4])), (q0, .inl (cI, 3, .inl (va_cpy y0 w0 0 0 3))), (q1, .inl (cI, 3, .inl (va_cpy y1 w1 0 0 3))), (q2, .inl (cI, 3, .inl (va_cpy y2 w2 0 0 3))), (q3, .inl (cI, 3, .inl (va_cpy y3 w3 0 0 3))), (q4, .inl (cI, 3, .inl w4)), (h1, .inr (0, [.int o, .ref e0, .ref e1, .ref e2, .ref e3, .ref e4])), (e0, .inl (cI, 3, .inl y0)), (e1, .inl (cI, 3, .inl y1)), (e2, .inl (cI, 3, .inl y2)), (e3, .inl (cI, 3, .inl y3)), (e4, .inl (cI, 3, .inl y4))] H := hP
  have hD : va_D A [(h0, .inr (0, [.int o, .ref q0, .ref q1, .ref q2, .ref q3, .ref q4])), (q0, .inl (cI, 3, .inl (va_cpy y0 w0 0 0 3))), (q1, .inl (cI, 3, .inl (va_cpy y1 w1 0 0 3))), (q2, .inl (cI, 3, .inl (va_cpy y2 w2 0 0 3))), (q3, .inl (cI, 3, .inl (va_cpy y3 w3 0 0 3))), (q4, .inl (cI, 3, .inl w4)), (h1, .inr (0, [.int o, .ref e0, .ref e1, .ref e2, .ref e3, .ref e4])), (e0, .inl (cI, 3, .inl y0)), (e1, .inl (cI, 3, .inl y1)), (e2, .inl (cI, 3, .inl y2)), (e3, .inl (cI, 3, .inl y3)), (e4, .inl (cI, 3, .inl y4))] := hD
  refine lv_aload_n hx hb dX0_copyFrom_64 rfl (lv_at hl 1 rfl) ?_
  refine va_get (D := D) (ci := 0) (v := .ref e4) (C := RX0) (T := TX0) (N := 6) hx hb hts hiX0 hown hK hP 6 rfl rfl 5 (by decide) hk_28 (fun _ h9 => h9) rfl dX0_copyFrom_65 ?_
  refine lv_iconst (v := 0) hx hb dX0_copyFrom_68 (by decide) ?_
  refine lv_aload_n hx hb dX0_copyFrom_69 rfl (lv_at hl 0 rfl) ?_
  refine va_get (D := D) (ci := 0) (v := .ref q4) (C := RX0) (T := TX0) (N := 6) hx hb hts hiX0 hown hK hP 0 rfl rfl 5 (by decide) hk_28 (fun _ h9 => h9) rfl dX0_copyFrom_70 ?_
  refine lv_iconst (v := 0) hx hb dX0_copyFrom_73 (by decide) ?_
  refine lv_iconst (v := 3) hx hb dX0_copyFrom_74 (by decide) ?_
  refine va_copyi (ty := .int) hx hb (by rw [hml]; exact hl.1.symm) hown (hts (.methodLink RX0 31 arraycopyName) (by decide +kernel)) (hts (.native arraycopyName) (by decide +kernel)) (hts (.static arraycopyName) (by decide +kernel)) (hts (.initialized "java/lang/System") (by decide +kernel)) hK hP hD hS 11 5 0 0 rfl rfl rfl rfl rfl (by decide) (by decide) (by decide) (by decide) (by decide) (fun _ _ => rfl) (Nat.le_of_ble_eq_true rfl) (Nat.le_of_ble_eq_true rfl) dX0_copyFrom_75 (fun H locs hP hD hS => ?_)
  have hP : va_P D vwCl [(h0, .inr (0, [.int o, .ref q0, .ref q1, .ref q2, .ref q3, .ref q4])), (q0, .inl (cI, 3, .inl (va_cpy y0 w0 0 0 3))), (q1, .inl (cI, 3, .inl (va_cpy y1 w1 0 0 3))), (q2, .inl (cI, 3, .inl (va_cpy y2 w2 0 0 3))), (q3, .inl (cI, 3, .inl (va_cpy y3 w3 0 0 3))), (q4, .inl (cI, 3, .inl (va_cpy y4 w4 0 0 3))), (h1, .inr (0, [.int o, .ref e0, .ref e1, .ref e2, .ref e3, .ref e4])), (e0, .inl (cI, 3, .inl y0)), (e1, .inl (cI, 3, .inl y1)), (e2, .inl (cI, 3, .inl y2)), (e3, .inl (cI, 3, .inl y3)), (e4, .inl (cI, 3, .inl y4))] H := hP
  have hD : va_D A [(h0, .inr (0, [.int o, .ref q0, .ref q1, .ref q2, .ref q3, .ref q4])), (q0, .inl (cI, 3, .inl (va_cpy y0 w0 0 0 3))), (q1, .inl (cI, 3, .inl (va_cpy y1 w1 0 0 3))), (q2, .inl (cI, 3, .inl (va_cpy y2 w2 0 0 3))), (q3, .inl (cI, 3, .inl (va_cpy y3 w3 0 0 3))), (q4, .inl (cI, 3, .inl (va_cpy y4 w4 0 0 3))), (h1, .inr (0, [.int o, .ref e0, .ref e1, .ref e2, .ref e3, .ref e4])), (e0, .inl (cI, 3, .inl y0)), (e1, .inl (cI, 3, .inl y1)), (e2, .inl (cI, 3, .inl y2)), (e3, .inl (cI, 3, .inl y3)), (e4, .inl (cI, 3, .inl y4))] := hD
  exact my_vret hx hb hr hlocks hK hP hD hS (o, va_cpy y0 w0 0 0 3, va_cpy y1 w1 0 0 3, va_cpy y2 w2 0 0 3, va_cpy y3 w3 0 0 3, va_cpy y4 w4 0 0 3) (by show (o, va_cpy y0 w0 0 0 3, va_cpy y1 w1 0 0 3, va_cpy y2 w2 0 0 3, va_cpy y3 w3 0 0 3, va_cpy y4 w4 0 0 3) = F_X0_copyFrom pu w0 w1 w2 w3 w4 o y0 y1 y2 y3 y4; simp only [F_X0_copyFrom]) [0, 1, 2, 3, 4, 5, 6, 7, 8, 9, 10, 11] rfl rfl dX0_copyFrom_78
def F_X0_advancePulse (pu : Int32) (w0 : Nat → Int32) (w1 : Nat → Int32) (w2 : Nat → Int32) (w3 : Nat → Int32) (w4 : Nat → Int32) (t : Int32) : Int32 :=
  if pu + (1 : Int32) < t then
    (pu + (1 : Int32))
  else
    ((0 : Int32))
set_option maxHeartbeats 4000000 in
set_option maxRecDepth 100000 in
theorem met_X0_advancePulse (l : Launch) (D : va_G) (cI cJ cS : ClassId) (h0 : Nat) (q0 : Nat) (q1 : Nat) (q2 : Nat) (q3 : Nat) (q4 : Nat) (pu : Int32) (w0 : Nat → Int32) (w1 : Nat → Int32) (w2 : Nat → Int32) (w3 : Nat → Int32) (w4 : Nat → Int32) (t : Int32)  : ∀ sz : Nat, Met l yX0_advancePulse wsX0_advancePulse ({ frames := 0, cells := 0, slots := 0, locals := 0 } : Room) (va_Pc [.ref h0, .int t] (cPre D (tyz cI cJ cS) ([(h0, .inr (0, [.int pu, .ref q0, .ref q1, .ref q2, .ref q3, .ref q4])), (q0, .inl (cI, 3, .inl w0)), (q1, .inl (cI, 3, .inl w1)), (q2, .inl (cI, 3, .inl w2)), (q3, .inl (cI, 3, .inl w3)), (q4, .inl (cI, 3, .inl w4))]) sz)) (va_Qv (fun (u : Int32) => u = F_X0_advancePulse pu w0 w1 w2 w3 w4 t) (fun u => cPost D (tyz cI cJ cS) (va_A ([(h0, .inr (0, [.int pu, .ref q0, .ref q1, .ref q2, .ref q3, .ref q4])), (q0, .inl (cI, 3, .inl w0)), (q1, .inl (cI, 3, .inl w1)), (q2, .inl (cI, 3, .inl w2)), (q3, .inl (cI, 3, .inl w3)), (q4, .inl (cI, 3, .inl w4))]) sz) ([(h0, .inr (0, [.int u, .ref q0, .ref q1, .ref q2, .ref q3, .ref q4])), (q0, .inl (cI, 3, .inl w0)), (q1, .inl (cI, 3, .inl w1)), (q2, .inl (cI, 3, .inl w2)), (q3, .inl (cI, 3, .inl w3)), (q4, .inl (cI, 3, .inl w4))])) (va_A ([(h0, .inr (0, [.int pu, .ref q0, .ref q1, .ref q2, .ref q3, .ref q4])), (q0, .inl (cI, 3, .inl w0)), (q1, .inl (cI, 3, .inl w1)), (q2, .inl (cI, 3, .inl w2)), (q3, .inl (cI, 3, .inl w3)), (q4, .inl (cI, 3, .inl w4))]) sz)) 0 0 (va_A ([(h0, .inr (0, [.int pu, .ref q0, .ref q1, .ref q2, .ref q3, .ref q4])), (q0, .inl (cI, 3, .inl w0)), (q1, .inl (cI, 3, .inl w1)), (q2, .inl (cI, 3, .inl w2)), (q3, .inl (cI, 3, .inl w3)), (q4, .inl (cI, 3, .inl w4))]) sz) := by
  refine my_met (QC := fun A => (va_Qv (fun (u : Int32) => u = F_X0_advancePulse pu w0 w1 w2 w3 w4 t) (fun u => cPost D (tyz cI cJ cS) A ([(h0, .inr (0, [.int u, .ref q0, .ref q1, .ref q2, .ref q3, .ref q4])), (q0, .inl (cI, 3, .inl w0)), (q1, .inl (cI, 3, .inl w1)), (q2, .inl (cI, 3, .inl w2)), (q3, .inl (cI, 3, .inl w3)), (q4, .inl (cI, 3, .inl w4))])) A)) (cc := cX0_advancePulse) (maxL := 2) (ret := none) (by decide) rfl (Nat.le_of_ble_eq_true rfl) ?_
  intro p e s m below meth c ls A hx hb hml hr hts hown hlocks hname hK hP hD hS hA hG hl
  have hown : s.vm.findClass RX0 = some m.cls := hown
  have hl : lv_has ls 2 [(0, .ref h0), (1, .int t)] := hl
  have hP : va_P D vwCl [(h0, .inr (0, [.int pu, .ref q0, .ref q1, .ref q2, .ref q3, .ref q4])), (q0, .inl (cI, 3, .inl w0)), (q1, .inl (cI, 3, .inl w1)), (q2, .inl (cI, 3, .inl w2)), (q3, .inl (cI, 3, .inl w3)), (q4, .inl (cI, 3, .inl w4))] s.heap := hP
  have hD : va_D A [(h0, .inr (0, [.int pu, .ref q0, .ref q1, .ref q2, .ref q3, .ref q4])), (q0, .inl (cI, 3, .inl w0)), (q1, .inl (cI, 3, .inl w1)), (q2, .inl (cI, 3, .inl w2)), (q3, .inl (cI, 3, .inl w3)), (q4, .inl (cI, 3, .inl w4))] := hD
  have hiX0 : ∀ w ∈ u_ws RX0 TX0 6, w ∈ wsX0_advancePulse := by decide +kernel
  have hk_9 := hts (.fieldLink RX0 9 "HallCommutator$Drive" "pulseCounter" "I") (by decide +kernel)
  refine lv_aload_n hx hb dX0_advancePulse_0 rfl (lv_at hl 0 rfl) ?_
  refine lv_dup hx hb dX0_advancePulse_1 rfl ?_
  refine va_get (D := D) (ci := 0) (v := .int pu) (C := RX0) (T := TX0) (N := 6) hx hb hts hiX0 hown hK hP 0 rfl rfl 0 (by decide) hk_9 (fun _ h9 => h9) rfl dX0_advancePulse_2 ?_
  refine lv_iconst (v := 1) hx hb dX0_advancePulse_5 (by decide) ?_
  refine lv_iadd hx hb dX0_advancePulse_6 ?_
  refine va_put (D := D) (ci := 0) (v := .int (pu + (1 : Int32))) (ty := .int) (C := RX0) (T := TX0) (N := 6) hx hb hts hiX0 tyX0 tyX0_ok nmX0 hown hK hP hD hS 0 rfl rfl 0 (by decide) hk_9 (fun _ h9 => h9) rfl (by decide +kernel) rfl rfl (Nat.le_of_ble_eq_true rfl) dX0_advancePulse_7 (fun H locs hP hD hS => ?_)
  have hP : va_P D vwCl [(h0, .inr (0, [.int (pu + (1 : Int32)), .ref q0, .ref q1, .ref q2, .ref q3, .ref q4])), (q0, .inl (cI, 3, .inl w0)), (q1, .inl (cI, 3, .inl w1)), (q2, .inl (cI, 3, .inl w2)), (q3, .inl (cI, 3, .inl w3)), (q4, .inl (cI, 3, .inl w4))] H := hP
  have hD : va_D A [(h0, .inr (0, [.int (pu + (1 : Int32)), .ref q0, .ref q1, .ref q2, .ref q3, .ref q4])), (q0, .inl (cI, 3, .inl w0)), (q1, .inl (cI, 3, .inl w1)), (q2, .inl (cI, 3, .inl w2)), (q3, .inl (cI, 3, .inl w3)), (q4, .inl (cI, 3, .inl w4))] := hD
  refine lv_aload_n hx hb dX0_advancePulse_10 rfl (lv_at hl 0 rfl) ?_
  refine va_get (D := D) (ci := 0) (v := .int (pu + (1 : Int32))) (C := RX0) (T := TX0) (N := 6) hx hb hts hiX0 hown hK hP 0 rfl rfl 0 (by decide) hk_9 (fun _ h9 => h9) rfl dX0_advancePulse_11 ?_
  refine lv_iload_n hx hb dX0_advancePulse_14 rfl (lv_at hl 1 rfl) ?_
  refine lv_icmp_lt (tgt := 23) hx hb dX0_advancePulse_15 (by decide) (fun c_1 => ?_) (fun c_1 => ?_)
  · skip
    exact my_vret hx hb hr hlocks hK hP hD hS (pu + (1 : Int32)) (by show (pu + (1 : Int32)) = F_X0_advancePulse pu w0 w1 w2 w3 w4 t; simp only [F_X0_advancePulse, if_pos c_1]) [0, 1, 2, 3, 4, 5] rfl rfl dX0_advancePulse_23
  · skip
    refine lv_aload_n hx hb dX0_advancePulse_18 rfl (lv_at hl 0 rfl) ?_
    refine lv_iconst (v := 0) hx hb dX0_advancePulse_19 (by decide) ?_
    refine va_put (D := D) (ci := 0) (v := .int (0 : Int32)) (ty := .int) (C := RX0) (T := TX0) (N := 6) hx hb hts hiX0 tyX0 tyX0_ok nmX0 hown hK hP hD hS 0 rfl rfl 0 (by decide) hk_9 (fun _ h9 => h9) rfl (by decide +kernel) rfl rfl (Nat.le_of_ble_eq_true rfl) dX0_advancePulse_20 (fun H locs hP hD hS => ?_)
    have hP : va_P D vwCl [(h0, .inr (0, [.int (0 : Int32), .ref q0, .ref q1, .ref q2, .ref q3, .ref q4])), (q0, .inl (cI, 3, .inl w0)), (q1, .inl (cI, 3, .inl w1)), (q2, .inl (cI, 3, .inl w2)), (q3, .inl (cI, 3, .inl w3)), (q4, .inl (cI, 3, .inl w4))] H := hP
    have hD : va_D A [(h0, .inr (0, [.int (0 : Int32), .ref q0, .ref q1, .ref q2, .ref q3, .ref q4])), (q0, .inl (cI, 3, .inl w0)), (q1, .inl (cI, 3, .inl w1)), (q2, .inl (cI, 3, .inl w2)), (q3, .inl (cI, 3, .inl w3)), (q4, .inl (cI, 3, .inl w4))] := hD
    exact my_vret hx hb hr hlocks hK hP hD hS ((0 : Int32)) (by show ((0 : Int32)) = F_X0_advancePulse pu w0 w1 w2 w3 w4 t; simp only [F_X0_advancePulse, if_neg c_1]) [0, 1, 2, 3, 4, 5] rfl rfl dX0_advancePulse_23
def F_X0_isPulseOn (pu : Int32) (w0 : Nat → Int32) (w1 : Nat → Int32) (w2 : Nat → Int32) (w3 : Nat → Int32) (w4 : Nat → Int32) (f0 : Int32) (f1 : Int32) (f2 : Int32) (f3 : Int32) (f4 : Int32) : Int32 :=
  if (f1 * f2) / (100 : Int32) ≤ pu then
    (0 : Int32)
  else
    (1 : Int32)
set_option maxHeartbeats 4000000 in
set_option maxRecDepth 100000 in
theorem met_X0_isPulseOn (l : Launch) (D : va_G) (cI cJ cS : ClassId) (h0 : Nat) (q0 : Nat) (q1 : Nat) (q2 : Nat) (q3 : Nat) (q4 : Nat) (h1 : Nat) (pu : Int32) (w0 : Nat → Int32) (w1 : Nat → Int32) (w2 : Nat → Int32) (w3 : Nat → Int32) (w4 : Nat → Int32) (f0 : Int32) (f1 : Int32) (f2 : Int32) (f3 : Int32) (f4 : Int32)  : ∀ sz : Nat, Met l yX0_isPulseOn wsX0_isPulseOn ({ frames := 0, cells := 0, slots := 0, locals := 0 } : Room) (va_Pc [.ref h0, .ref h1] (cPre D (tyz cI cJ cS) ([(h0, .inr (0, [.int pu, .ref q0, .ref q1, .ref q2, .ref q3, .ref q4])), (q0, .inl (cI, 3, .inl w0)), (q1, .inl (cI, 3, .inl w1)), (q2, .inl (cI, 3, .inl w2)), (q3, .inl (cI, 3, .inl w3)), (q4, .inl (cI, 3, .inl w4)), (h1, .inr (6, [.int f0, .int f1, .int f2, .int f3, .int f4]))]) sz)) (va_Qi (fun (r : Int32) (_ : Unit) => r = F_X0_isPulseOn pu w0 w1 w2 w3 w4 f0 f1 f2 f3 f4) (fun u => cPost D (tyz cI cJ cS) (va_A ([(h0, .inr (0, [.int pu, .ref q0, .ref q1, .ref q2, .ref q3, .ref q4])), (q0, .inl (cI, 3, .inl w0)), (q1, .inl (cI, 3, .inl w1)), (q2, .inl (cI, 3, .inl w2)), (q3, .inl (cI, 3, .inl w3)), (q4, .inl (cI, 3, .inl w4)), (h1, .inr (6, [.int f0, .int f1, .int f2, .int f3, .int f4]))]) sz) ([(h0, .inr (0, [.int pu, .ref q0, .ref q1, .ref q2, .ref q3, .ref q4])), (q0, .inl (cI, 3, .inl w0)), (q1, .inl (cI, 3, .inl w1)), (q2, .inl (cI, 3, .inl w2)), (q3, .inl (cI, 3, .inl w3)), (q4, .inl (cI, 3, .inl w4)), (h1, .inr (6, [.int f0, .int f1, .int f2, .int f3, .int f4]))])) (va_A ([(h0, .inr (0, [.int pu, .ref q0, .ref q1, .ref q2, .ref q3, .ref q4])), (q0, .inl (cI, 3, .inl w0)), (q1, .inl (cI, 3, .inl w1)), (q2, .inl (cI, 3, .inl w2)), (q3, .inl (cI, 3, .inl w3)), (q4, .inl (cI, 3, .inl w4)), (h1, .inr (6, [.int f0, .int f1, .int f2, .int f3, .int f4]))]) sz)) 0 0 (va_A ([(h0, .inr (0, [.int pu, .ref q0, .ref q1, .ref q2, .ref q3, .ref q4])), (q0, .inl (cI, 3, .inl w0)), (q1, .inl (cI, 3, .inl w1)), (q2, .inl (cI, 3, .inl w2)), (q3, .inl (cI, 3, .inl w3)), (q4, .inl (cI, 3, .inl w4)), (h1, .inr (6, [.int f0, .int f1, .int f2, .int f3, .int f4]))]) sz) := by
  refine my_met (QC := fun A => (va_Qi (fun (r : Int32) (_ : Unit) => r = F_X0_isPulseOn pu w0 w1 w2 w3 w4 f0 f1 f2 f3 f4) (fun u => cPost D (tyz cI cJ cS) A ([(h0, .inr (0, [.int pu, .ref q0, .ref q1, .ref q2, .ref q3, .ref q4])), (q0, .inl (cI, 3, .inl w0)), (q1, .inl (cI, 3, .inl w1)), (q2, .inl (cI, 3, .inl w2)), (q3, .inl (cI, 3, .inl w3)), (q4, .inl (cI, 3, .inl w4)), (h1, .inr (6, [.int f0, .int f1, .int f2, .int f3, .int f4]))])) A)) (cc := cX0_isPulseOn) (maxL := 2) (ret := (some .boolean)) (by decide) rfl (Nat.le_of_ble_eq_true rfl) ?_
  intro p e s m below meth c ls A hx hb hml hr hts hown hlocks hname hK hP hD hS hA hG hl
  have hown : s.vm.findClass RX0 = some m.cls := hown
  have hl : lv_has ls 2 [(0, .ref h0), (1, .ref h1)] := hl
  have hP : va_P D vwCl [(h0, .inr (0, [.int pu, .ref q0, .ref q1, .ref q2, .ref q3, .ref q4])), (q0, .inl (cI, 3, .inl w0)), (q1, .inl (cI, 3, .inl w1)), (q2, .inl (cI, 3, .inl w2)), (q3, .inl (cI, 3, .inl w3)), (q4, .inl (cI, 3, .inl w4)), (h1, .inr (6, [.int f0, .int f1, .int f2, .int f3, .int f4]))] s.heap := hP
  have hD : va_D A [(h0, .inr (0, [.int pu, .ref q0, .ref q1, .ref q2, .ref q3, .ref q4])), (q0, .inl (cI, 3, .inl w0)), (q1, .inl (cI, 3, .inl w1)), (q2, .inl (cI, 3, .inl w2)), (q3, .inl (cI, 3, .inl w3)), (q4, .inl (cI, 3, .inl w4)), (h1, .inr (6, [.int f0, .int f1, .int f2, .int f3, .int f4]))] := hD
  have hiX0 : ∀ w ∈ u_ws RX0 TX0 6, w ∈ wsX0_isPulseOn := by decide +kernel
  have hiX6 : ∀ w ∈ u_ws RX6 TX6 5, w ∈ wsX0_isPulseOn := by decide +kernel
  have hk_37 := hts (.fieldLink RX0 37 "HallCommutator$Settings" "period" "I") (by decide +kernel)
  have hk_42 := hts (.fieldLink RX0 42 "HallCommutator$Settings" "duty" "I") (by decide +kernel)
  have hk_9 := hts (.fieldLink RX0 9 "HallCommutator$Drive" "pulseCounter" "I") (by decide +kernel)
  refine lv_aload_n hx hb dX0_isPulseOn_0 rfl (lv_at hl 0 rfl) ?_
  refine va_get (D := D) (ci := 0) (v := .int pu) (C := RX0) (T := TX0) (N := 6) hx hb hts hiX0 hown hK hP 0 rfl rfl 0 (by decide) hk_9 (fun _ h9 => h9) rfl dX0_isPulseOn_1 ?_
  refine lv_aload_n hx hb dX0_isPulseOn_4 rfl (lv_at hl 1 rfl) ?_
  refine va_get (D := D) (ci := 6) (v := .int f1) (C := RX6) (T := TX6) (N := 5) hx hb hts hiX6 hown hK hP 6 rfl rfl 1 (by decide) hk_37 (fun _ h9 => h9) rfl dX0_isPulseOn_5 ?_
  refine lv_aload_n hx hb dX0_isPulseOn_8 rfl (lv_at hl 1 rfl) ?_
  refine va_get (D := D) (ci := 6) (v := .int f2) (C := RX6) (T := TX6) (N := 5) hx hb hts hiX6 hown hK hP 6 rfl rfl 2 (by decide) hk_42 (fun _ h9 => h9) rfl dX0_isPulseOn_9 ?_
  refine lv_imul hx hb dX0_isPulseOn_12 ?_
  refine lv_bipush (v := 100) hx hb dX0_isPulseOn_13 (by decide) ?_
  refine lv_idiv hx hb dX0_isPulseOn_15 (by decide) ?_
  refine lv_icmp_ge (tgt := 23) hx hb dX0_isPulseOn_16 (by decide) (fun c_1 => ?_) (fun c_1 => ?_)
  · skip
    refine lv_iconst (v := 0) hx hb dX0_isPulseOn_23 (by decide) ?_
    exact my_iret hx hb hr rfl hlocks hK hP hD hS () (by show (0 : Int32) = F_X0_isPulseOn pu w0 w1 w2 w3 w4 f0 f1 f2 f3 f4; simp only [F_X0_isPulseOn, if_pos c_1]) [0, 1, 2, 3, 4, 5, 6] rfl rfl dX0_isPulseOn_24
  · skip
    refine lv_iconst (v := 1) hx hb dX0_isPulseOn_19 (by decide) ?_
    refine lv_goto (tgt := 24) hx hb dX0_isPulseOn_20 (by decide) ?_
    exact my_iret hx hb hr rfl hlocks hK hP hD hS () (by show (1 : Int32) = F_X0_isPulseOn pu w0 w1 w2 w3 w4 f0 f1 f2 f3 f4; simp only [F_X0_isPulseOn, if_neg c_1]) [0, 1, 2, 3, 4, 5, 6] rfl rfl dX0_isPulseOn_24
def F_X0_drivenLeg (t : Int32) (b : Int32) (d : Int32) (o : Int32) : Int32 :=
  if t = d then
    (-1 : Int32)
  else
    if t = b then
      if o = (0 : Int32) then
        (0 : Int32)
      else
        (1 : Int32)
    else
      (0 : Int32)
set_option maxHeartbeats 4000000 in
set_option maxRecDepth 100000 in
theorem met_X0_drivenLeg (l : Launch) (D : va_G) (cI cJ cS : ClassId) (t : Int32) (b : Int32) (d : Int32) (o : Int32)  : ∀ sz : Nat, Met l yX0_drivenLeg wsX0_drivenLeg ({ frames := 0, cells := 0, slots := 0, locals := 0 } : Room) (va_Pc [.int t, .int b, .int d, .int o] (cPre D (tyz cI cJ cS) ([]) sz)) (va_Qi (fun (r : Int32) (_ : Unit) => r = F_X0_drivenLeg t b d o) (fun u => cPost D (tyz cI cJ cS) (va_A ([]) sz) ([])) (va_A ([]) sz)) 0 0 (va_A ([]) sz) := by
  refine my_met (QC := fun A => (va_Qi (fun (r : Int32) (_ : Unit) => r = F_X0_drivenLeg t b d o) (fun u => cPost D (tyz cI cJ cS) A ([])) A)) (cc := cX0_drivenLeg) (maxL := 4) (ret := (some .int)) (by decide) rfl (Nat.le_of_ble_eq_true rfl) ?_
  intro p e s m below meth c ls A hx hb hml hr hts hown hlocks hname hK hP hD hS hA hG hl
  have hown : s.vm.findClass RX0 = some m.cls := hown
  have hl : lv_has ls 4 [(0, .int t), (1, .int b), (2, .int d), (3, .int o)] := hl
  have hP : va_P D vwCl [] s.heap := hP
  have hD : va_D A [] := hD
  refine lv_iload_n hx hb dX0_drivenLeg_0 rfl (lv_at hl 0 rfl) ?_
  refine lv_iload_n hx hb dX0_drivenLeg_1 rfl (lv_at hl 2 rfl) ?_
  refine lv_icmp_ne (tgt := 7) hx hb dX0_drivenLeg_2 (by decide) (fun c_1 => ?_) (fun c_1 => ?_)
  · skip
    refine lv_iload_n hx hb dX0_drivenLeg_7 rfl (lv_at hl 0 rfl) ?_
    refine lv_iload_n hx hb dX0_drivenLeg_8 rfl (lv_at hl 1 rfl) ?_
    refine lv_icmp_ne (tgt := 20) hx hb dX0_drivenLeg_9 (by decide) (fun c_2 => ?_) (fun c_2 => ?_)
    · skip
      refine lv_iconst (v := 0) hx hb dX0_drivenLeg_20 (by decide) ?_
      exact my_iret hx hb hr rfl hlocks hK hP hD hS () (by show (0 : Int32) = F_X0_drivenLeg t b d o; simp only [F_X0_drivenLeg, if_neg c_1, if_neg c_2]) [] rfl rfl dX0_drivenLeg_21
    · skip
      refine lv_iload_n hx hb dX0_drivenLeg_12 rfl (lv_at hl 3 rfl) ?_
      refine lv_if_eq (tgt := 20) hx hb dX0_drivenLeg_13 (by decide) (fun c_3 => ?_) (fun c_3 => ?_)
      · skip
        refine lv_iconst (v := 0) hx hb dX0_drivenLeg_20 (by decide) ?_
        exact my_iret hx hb hr rfl hlocks hK hP hD hS () (by show (0 : Int32) = F_X0_drivenLeg t b d o; simp only [F_X0_drivenLeg, if_neg c_1, if_pos c_2, if_pos c_3]) [] rfl rfl dX0_drivenLeg_21
      · skip
        refine lv_iconst (v := 1) hx hb dX0_drivenLeg_16 (by decide) ?_
        refine lv_goto (tgt := 21) hx hb dX0_drivenLeg_17 (by decide) ?_
        exact my_iret hx hb hr rfl hlocks hK hP hD hS () (by show (1 : Int32) = F_X0_drivenLeg t b d o; simp only [F_X0_drivenLeg, if_neg c_1, if_pos c_2, if_neg c_3]) [] rfl rfl dX0_drivenLeg_21
  · skip
    refine lv_iconst (v := -1) hx hb dX0_drivenLeg_5 (by decide) ?_
    exact my_iret hx hb hr rfl hlocks hK hP hD hS () (by show (-1 : Int32) = F_X0_drivenLeg t b d o; simp only [F_X0_drivenLeg, if_pos c_1]) [] rfl rfl dX0_drivenLeg_6
def F_X0_afterDeadTime (pu : Int32) (w0 : Nat → Int32) (w1 : Nat → Int32) (w2 : Nat → Int32) (w3 : Nat → Int32) (w4 : Nat → Int32) (j : Nat) (b : Int32) (d : Int32) (o : Int32) : Int32 :=
  if b = (1 : Int32) then
    if o < d - (w4 j) then
      if b = (-1 : Int32) then
        if o < d - (w3 j) then
          b
        else
          (0 : Int32)
      else
        b
    else
      (0 : Int32)
  else
    if b = (-1 : Int32) then
      if o < d - (w3 j) then
        b
      else
        (0 : Int32)
    else
      b
set_option maxHeartbeats 4000000 in
set_option maxRecDepth 100000 in
theorem met_X0_afterDeadTime (l : Launch) (D : va_G) (cI cJ cS : ClassId) (h0 : Nat) (q0 : Nat) (q1 : Nat) (q2 : Nat) (q3 : Nat) (q4 : Nat) (pu : Int32) (w0 : Nat → Int32) (w1 : Nat → Int32) (w2 : Nat → Int32) (w3 : Nat → Int32) (w4 : Nat → Int32) (j : Nat) (b : Int32) (d : Int32) (o : Int32) (hj : j < 3) : ∀ sz : Nat, Met l yX0_afterDeadTime wsX0_afterDeadTime ({ frames := 0, cells := 0, slots := 0, locals := 0 } : Room) (va_Pc [.ref h0, .int (nI j), .int b, .int d, .int o] (cPre D (tyz cI cJ cS) ([(h0, .inr (0, [.int pu, .ref q0, .ref q1, .ref q2, .ref q3, .ref q4])), (q0, .inl (cI, 3, .inl w0)), (q1, .inl (cI, 3, .inl w1)), (q2, .inl (cI, 3, .inl w2)), (q3, .inl (cI, 3, .inl w3)), (q4, .inl (cI, 3, .inl w4))]) sz)) (va_Qi (fun (r : Int32) (_ : Unit) => r = F_X0_afterDeadTime pu w0 w1 w2 w3 w4 j b d o) (fun u => cPost D (tyz cI cJ cS) (va_A ([(h0, .inr (0, [.int pu, .ref q0, .ref q1, .ref q2, .ref q3, .ref q4])), (q0, .inl (cI, 3, .inl w0)), (q1, .inl (cI, 3, .inl w1)), (q2, .inl (cI, 3, .inl w2)), (q3, .inl (cI, 3, .inl w3)), (q4, .inl (cI, 3, .inl w4))]) sz) ([(h0, .inr (0, [.int pu, .ref q0, .ref q1, .ref q2, .ref q3, .ref q4])), (q0, .inl (cI, 3, .inl w0)), (q1, .inl (cI, 3, .inl w1)), (q2, .inl (cI, 3, .inl w2)), (q3, .inl (cI, 3, .inl w3)), (q4, .inl (cI, 3, .inl w4))])) (va_A ([(h0, .inr (0, [.int pu, .ref q0, .ref q1, .ref q2, .ref q3, .ref q4])), (q0, .inl (cI, 3, .inl w0)), (q1, .inl (cI, 3, .inl w1)), (q2, .inl (cI, 3, .inl w2)), (q3, .inl (cI, 3, .inl w3)), (q4, .inl (cI, 3, .inl w4))]) sz)) 0 0 (va_A ([(h0, .inr (0, [.int pu, .ref q0, .ref q1, .ref q2, .ref q3, .ref q4])), (q0, .inl (cI, 3, .inl w0)), (q1, .inl (cI, 3, .inl w1)), (q2, .inl (cI, 3, .inl w2)), (q3, .inl (cI, 3, .inl w3)), (q4, .inl (cI, 3, .inl w4))]) sz) := by
  refine my_met (QC := fun A => (va_Qi (fun (r : Int32) (_ : Unit) => r = F_X0_afterDeadTime pu w0 w1 w2 w3 w4 j b d o) (fun u => cPost D (tyz cI cJ cS) A ([(h0, .inr (0, [.int pu, .ref q0, .ref q1, .ref q2, .ref q3, .ref q4])), (q0, .inl (cI, 3, .inl w0)), (q1, .inl (cI, 3, .inl w1)), (q2, .inl (cI, 3, .inl w2)), (q3, .inl (cI, 3, .inl w3)), (q4, .inl (cI, 3, .inl w4))])) A)) (cc := cX0_afterDeadTime) (maxL := 5) (ret := (some .int)) (by decide) rfl (Nat.le_of_ble_eq_true rfl) ?_
  intro p e s m below meth c ls A hx hb hml hr hts hown hlocks hname hK hP hD hS hA hG hl
  have hown : s.vm.findClass RX0 = some m.cls := hown
  have hl : lv_has ls 5 [(0, .ref h0), (1, .int (nI j)), (2, .int b), (3, .int d), (4, .int o)] := hl
  have hP : va_P D vwCl [(h0, .inr (0, [.int pu, .ref q0, .ref q1, .ref q2, .ref q3, .ref q4])), (q0, .inl (cI, 3, .inl w0)), (q1, .inl (cI, 3, .inl w1)), (q2, .inl (cI, 3, .inl w2)), (q3, .inl (cI, 3, .inl w3)), (q4, .inl (cI, 3, .inl w4))] s.heap := hP
  have hD : va_D A [(h0, .inr (0, [.int pu, .ref q0, .ref q1, .ref q2, .ref q3, .ref q4])), (q0, .inl (cI, 3, .inl w0)), (q1, .inl (cI, 3, .inl w1)), (q2, .inl (cI, 3, .inl w2)), (q3, .inl (cI, 3, .inl w3)), (q4, .inl (cI, 3, .inl w4))] := hD
  have hiX0 : ∀ w ∈ u_ws RX0 TX0 6, w ∈ wsX0_afterDeadTime := by decide +kernel
  have hk_25 := hts (.fieldLink RX0 25 "HallCommutator$Drive" "lastHigh" "[I") (by decide +kernel)
  have hk_28 := hts (.fieldLink RX0 28 "HallCommutator$Drive" "lastLow" "[I") (by decide +kernel)
  refine lv_iload_n hx hb dX0_afterDeadTime_0 rfl (lv_at hl 2 rfl) ?_
  refine lv_iconst (v := 1) hx hb dX0_afterDeadTime_1 (by decide) ?_
  refine lv_icmp_ne (tgt := 20) hx hb dX0_afterDeadTime_2 (by decide) (fun c_1 => ?_) (fun c_1 => ?_)
  · skip
    refine lv_iload_n hx hb dX0_afterDeadTime_20 rfl (lv_at hl 2 rfl) ?_
    refine lv_iconst (v := -1) hx hb dX0_afterDeadTime_21 (by decide) ?_
    refine lv_icmp_ne (tgt := 40) hx hb dX0_afterDeadTime_22 (by decide) (fun c_2 => ?_) (fun c_2 => ?_)
    · skip
      refine lv_iload_n hx hb dX0_afterDeadTime_40 rfl (lv_at hl 2 rfl) ?_
      exact my_iret hx hb hr rfl hlocks hK hP hD hS () (by show b = F_X0_afterDeadTime pu w0 w1 w2 w3 w4 j b d o; simp only [F_X0_afterDeadTime, if_neg c_1, if_neg c_2]) [0, 1, 2, 3, 4, 5] rfl rfl dX0_afterDeadTime_41
    · skip
      refine lv_iload_n hx hb dX0_afterDeadTime_25 rfl (lv_at hl 3 rfl) ?_
      refine lv_aload_n hx hb dX0_afterDeadTime_26 rfl (lv_at hl 0 rfl) ?_
      refine va_get (D := D) (ci := 0) (v := .ref q3) (C := RX0) (T := TX0) (N := 6) hx hb hts hiX0 hown hK hP 0 rfl rfl 4 (by decide) hk_25 (fun _ h9 => h9) rfl dX0_afterDeadTime_27 ?_
      refine lv_iload_n hx hb dX0_afterDeadTime_30 rfl (lv_at hl 1 rfl) ?_
      refine my_iald hx hb hK hP 4 0 rfl rfl j (rfl) (hj) (by decide) dX0_afterDeadTime_31 ?_
      refine lv_isub hx hb dX0_afterDeadTime_32 ?_
      refine lv_iload hx hb dX0_afterDeadTime_33 (lv_at hl 4 rfl) ?_
      refine lv_icmp_gt (tgt := 40) hx hb dX0_afterDeadTime_35 (by decide) (fun c_3 => ?_) (fun c_3 => ?_)
      · skip
        refine lv_iload_n hx hb dX0_afterDeadTime_40 rfl (lv_at hl 2 rfl) ?_
        exact my_iret hx hb hr rfl hlocks hK hP hD hS () (by show b = F_X0_afterDeadTime pu w0 w1 w2 w3 w4 j b d o; simp only [F_X0_afterDeadTime, if_neg c_1, if_pos c_2, if_pos c_3]) [0, 1, 2, 3, 4, 5] rfl rfl dX0_afterDeadTime_41
      · skip
        refine lv_iconst (v := 0) hx hb dX0_afterDeadTime_38 (by decide) ?_
        exact my_iret hx hb hr rfl hlocks hK hP hD hS () (by show (0 : Int32) = F_X0_afterDeadTime pu w0 w1 w2 w3 w4 j b d o; simp only [F_X0_afterDeadTime, if_neg c_1, if_pos c_2, if_neg c_3]) [0, 1, 2, 3, 4, 5] rfl rfl dX0_afterDeadTime_39
  · skip
    refine lv_iload_n hx hb dX0_afterDeadTime_5 rfl (lv_at hl 3 rfl) ?_
    refine lv_aload_n hx hb dX0_afterDeadTime_6 rfl (lv_at hl 0 rfl) ?_
    refine va_get (D := D) (ci := 0) (v := .ref q4) (C := RX0) (T := TX0) (N := 6) hx hb hts hiX0 hown hK hP 0 rfl rfl 5 (by decide) hk_28 (fun _ h9 => h9) rfl dX0_afterDeadTime_7 ?_
    refine lv_iload_n hx hb dX0_afterDeadTime_10 rfl (lv_at hl 1 rfl) ?_
    refine my_iald hx hb hK hP 5 0 rfl rfl j (rfl) (hj) (by decide) dX0_afterDeadTime_11 ?_
    refine lv_isub hx hb dX0_afterDeadTime_12 ?_
    refine lv_iload hx hb dX0_afterDeadTime_13 (lv_at hl 4 rfl) ?_
    refine lv_icmp_gt (tgt := 20) hx hb dX0_afterDeadTime_15 (by decide) (fun c_4 => ?_) (fun c_4 => ?_)
    · skip
      refine lv_iload_n hx hb dX0_afterDeadTime_20 rfl (lv_at hl 2 rfl) ?_
      refine lv_iconst (v := -1) hx hb dX0_afterDeadTime_21 (by decide) ?_
      refine lv_icmp_ne (tgt := 40) hx hb dX0_afterDeadTime_22 (by decide) (fun c_5 => ?_) (fun c_5 => ?_)
      · skip
        refine lv_iload_n hx hb dX0_afterDeadTime_40 rfl (lv_at hl 2 rfl) ?_
        exact my_iret hx hb hr rfl hlocks hK hP hD hS () (by show b = F_X0_afterDeadTime pu w0 w1 w2 w3 w4 j b d o; simp only [F_X0_afterDeadTime, if_pos c_1, if_pos c_4, if_neg c_5]) [0, 1, 2, 3, 4, 5] rfl rfl dX0_afterDeadTime_41
      · skip
        refine lv_iload_n hx hb dX0_afterDeadTime_25 rfl (lv_at hl 3 rfl) ?_
        refine lv_aload_n hx hb dX0_afterDeadTime_26 rfl (lv_at hl 0 rfl) ?_
        refine va_get (D := D) (ci := 0) (v := .ref q3) (C := RX0) (T := TX0) (N := 6) hx hb hts hiX0 hown hK hP 0 rfl rfl 4 (by decide) hk_25 (fun _ h9 => h9) rfl dX0_afterDeadTime_27 ?_
        refine lv_iload_n hx hb dX0_afterDeadTime_30 rfl (lv_at hl 1 rfl) ?_
        refine my_iald hx hb hK hP 4 0 rfl rfl j (rfl) (hj) (by decide) dX0_afterDeadTime_31 ?_
        refine lv_isub hx hb dX0_afterDeadTime_32 ?_
        refine lv_iload hx hb dX0_afterDeadTime_33 (lv_at hl 4 rfl) ?_
        refine lv_icmp_gt (tgt := 40) hx hb dX0_afterDeadTime_35 (by decide) (fun c_6 => ?_) (fun c_6 => ?_)
        · skip
          refine lv_iload_n hx hb dX0_afterDeadTime_40 rfl (lv_at hl 2 rfl) ?_
          exact my_iret hx hb hr rfl hlocks hK hP hD hS () (by show b = F_X0_afterDeadTime pu w0 w1 w2 w3 w4 j b d o; simp only [F_X0_afterDeadTime, if_pos c_1, if_pos c_4, if_pos c_5, if_pos c_6]) [0, 1, 2, 3, 4, 5] rfl rfl dX0_afterDeadTime_41
        · skip
          refine lv_iconst (v := 0) hx hb dX0_afterDeadTime_38 (by decide) ?_
          exact my_iret hx hb hr rfl hlocks hK hP hD hS () (by show (0 : Int32) = F_X0_afterDeadTime pu w0 w1 w2 w3 w4 j b d o; simp only [F_X0_afterDeadTime, if_pos c_1, if_pos c_4, if_pos c_5, if_neg c_6]) [0, 1, 2, 3, 4, 5] rfl rfl dX0_afterDeadTime_39
    · skip
      refine lv_iconst (v := 0) hx hb dX0_afterDeadTime_18 (by decide) ?_
      exact my_iret hx hb hr rfl hlocks hK hP hD hS () (by show (0 : Int32) = F_X0_afterDeadTime pu w0 w1 w2 w3 w4 j b d o; simp only [F_X0_afterDeadTime, if_pos c_1, if_neg c_4]) [0, 1, 2, 3, 4, 5] rfl rfl dX0_afterDeadTime_19
def F_X0_switchLeg (pu : Int32) (w0 : Nat → Int32) (w1 : Nat → Int32) (w2 : Nat → Int32) (w3 : Nat → Int32) (w4 : Nat → Int32) (j : Nat) (b : Int32) (d : Int32) : (Nat → Int32) × (Nat → Int32) × (Nat → Int32) × (Nat → Int32) × (Nat → Int32) :=
  if b = (1 : Int32) then
    (upd w0 j b, upd w1 j ((w1 j) + (1 : Int32)), w2, upd w3 j d, w4)
  else
    if b = (-1 : Int32) then
      (upd w0 j b, w1, upd w2 j ((w2 j) + (1 : Int32)), w3, upd w4 j d)
    else
      (upd w0 j b, w1, w2, w3, w4)
set_option maxHeartbeats 4000000 in
set_option maxRecDepth 100000 in
theorem met_X0_switchLeg (l : Launch) (D : va_G) (cI cJ cS : ClassId) (h0 : Nat) (q0 : Nat) (q1 : Nat) (q2 : Nat) (q3 : Nat) (q4 : Nat) (pu : Int32) (w0 : Nat → Int32) (w1 : Nat → Int32) (w2 : Nat → Int32) (w3 : Nat → Int32) (w4 : Nat → Int32) (j : Nat) (b : Int32) (d : Int32) (hj : j < 3) : ∀ sz : Nat, Met l yX0_switchLeg wsX0_switchLeg ({ frames := 0, cells := 0, slots := 0, locals := 0 } : Room) (va_Pc [.ref h0, .int (nI j), .int b, .int d] (cPre D (tyz cI cJ cS) ([(h0, .inr (0, [.int pu, .ref q0, .ref q1, .ref q2, .ref q3, .ref q4])), (q0, .inl (cI, 3, .inl w0)), (q1, .inl (cI, 3, .inl w1)), (q2, .inl (cI, 3, .inl w2)), (q3, .inl (cI, 3, .inl w3)), (q4, .inl (cI, 3, .inl w4))]) sz)) (va_Qv (fun (u : (Nat → Int32) × (Nat → Int32) × (Nat → Int32) × (Nat → Int32) × (Nat → Int32)) => u = F_X0_switchLeg pu w0 w1 w2 w3 w4 j b d) (fun u => cPost D (tyz cI cJ cS) (va_A ([(h0, .inr (0, [.int pu, .ref q0, .ref q1, .ref q2, .ref q3, .ref q4])), (q0, .inl (cI, 3, .inl w0)), (q1, .inl (cI, 3, .inl w1)), (q2, .inl (cI, 3, .inl w2)), (q3, .inl (cI, 3, .inl w3)), (q4, .inl (cI, 3, .inl w4))]) sz) ([(h0, .inr (0, [.int pu, .ref q0, .ref q1, .ref q2, .ref q3, .ref q4])), (q0, .inl (cI, 3, .inl u.1)), (q1, .inl (cI, 3, .inl u.2.1)), (q2, .inl (cI, 3, .inl u.2.2.1)), (q3, .inl (cI, 3, .inl u.2.2.2.1)), (q4, .inl (cI, 3, .inl u.2.2.2.2))])) (va_A ([(h0, .inr (0, [.int pu, .ref q0, .ref q1, .ref q2, .ref q3, .ref q4])), (q0, .inl (cI, 3, .inl w0)), (q1, .inl (cI, 3, .inl w1)), (q2, .inl (cI, 3, .inl w2)), (q3, .inl (cI, 3, .inl w3)), (q4, .inl (cI, 3, .inl w4))]) sz)) 0 0 (va_A ([(h0, .inr (0, [.int pu, .ref q0, .ref q1, .ref q2, .ref q3, .ref q4])), (q0, .inl (cI, 3, .inl w0)), (q1, .inl (cI, 3, .inl w1)), (q2, .inl (cI, 3, .inl w2)), (q3, .inl (cI, 3, .inl w3)), (q4, .inl (cI, 3, .inl w4))]) sz) := by
  refine my_met (QC := fun A => (va_Qv (fun (u : (Nat → Int32) × (Nat → Int32) × (Nat → Int32) × (Nat → Int32) × (Nat → Int32)) => u = F_X0_switchLeg pu w0 w1 w2 w3 w4 j b d) (fun u => cPost D (tyz cI cJ cS) A ([(h0, .inr (0, [.int pu, .ref q0, .ref q1, .ref q2, .ref q3, .ref q4])), (q0, .inl (cI, 3, .inl u.1)), (q1, .inl (cI, 3, .inl u.2.1)), (q2, .inl (cI, 3, .inl u.2.2.1)), (q3, .inl (cI, 3, .inl u.2.2.2.1)), (q4, .inl (cI, 3, .inl u.2.2.2.2))])) A)) (cc := cX0_switchLeg) (maxL := 4) (ret := none) (by decide) rfl (Nat.le_of_ble_eq_true rfl) ?_
  intro p e s m below meth c ls A hx hb hml hr hts hown hlocks hname hK hP hD hS hA hG hl
  have hown : s.vm.findClass RX0 = some m.cls := hown
  have hl : lv_has ls 4 [(0, .ref h0), (1, .int (nI j)), (2, .int b), (3, .int d)] := hl
  have hP : va_P D vwCl [(h0, .inr (0, [.int pu, .ref q0, .ref q1, .ref q2, .ref q3, .ref q4])), (q0, .inl (cI, 3, .inl w0)), (q1, .inl (cI, 3, .inl w1)), (q2, .inl (cI, 3, .inl w2)), (q3, .inl (cI, 3, .inl w3)), (q4, .inl (cI, 3, .inl w4))] s.heap := hP
  have hD : va_D A [(h0, .inr (0, [.int pu, .ref q0, .ref q1, .ref q2, .ref q3, .ref q4])), (q0, .inl (cI, 3, .inl w0)), (q1, .inl (cI, 3, .inl w1)), (q2, .inl (cI, 3, .inl w2)), (q3, .inl (cI, 3, .inl w3)), (q4, .inl (cI, 3, .inl w4))] := hD
  have hiX0 : ∀ w ∈ u_ws RX0 TX0 6, w ∈ wsX0_switchLeg := by decide +kernel
  have hk_15 := hts (.fieldLink RX0 15 "HallCommutator$Drive" "legs" "[I") (by decide +kernel)
  have hk_19 := hts (.fieldLink RX0 19 "HallCommutator$Drive" "highTicks" "[I") (by decide +kernel)
  have hk_22 := hts (.fieldLink RX0 22 "HallCommutator$Drive" "lowTicks" "[I") (by decide +kernel)
  have hk_25 := hts (.fieldLink RX0 25 "HallCommutator$Drive" "lastHigh" "[I") (by decide +kernel)
  have hk_28 := hts (.fieldLink RX0 28 "HallCommutator$Drive" "lastLow" "[I") (by decide +kernel)
  refine lv_aload_n hx hb dX0_switchLeg_0 rfl (lv_at hl 0 rfl) ?_
  refine va_get (D := D) (ci := 0) (v := .ref q0) (C := RX0) (T := TX0) (N := 6) hx hb hts hiX0 hown hK hP 0 rfl rfl 1 (by decide) hk_15 (fun _ h9 => h9) rfl dX0_switchLeg_1 ?_
  refine lv_iload_n hx hb dX0_switchLeg_4 rfl (lv_at hl 1 rfl) ?_
  refine lv_iload_n hx hb dX0_switchLeg_5 rfl (lv_at hl 2 rfl) ?_
  refine my_iast hx hb hK hP hD hS 1 0 rfl rfl j (rfl) (hj) (by decide) dX0_switchLeg_6 (fun H locs hP hD hS => ?_)
  have hP : va_P D vwCl [(h0, .inr (0, [.int pu, .ref q0, .ref q1, .ref q2, .ref q3, .ref q4])), (q0, .inl (cI, 3, .inl (upd w0 j b))), (q1, .inl (cI, 3, .inl w1)), (q2, .inl (cI, 3, .inl w2)), (q3, .inl (cI, 3, .inl w3)), (q4, .inl (cI, 3, .inl w4))] H := hP
  have hD : va_D A [(h0, .inr (0, [.int pu, .ref q0, .ref q1, .ref q2, .ref q3, .ref q4])), (q0, .inl (cI, 3, .inl (upd w0 j b))), (q1, .inl (cI, 3, .inl w1)), (q2, .inl (cI, 3, .inl w2)), (q3, .inl (cI, 3, .inl w3)), (q4, .inl (cI, 3, .inl w4))] := hD
  refine lv_iload_n hx hb dX0_switchLeg_7 rfl (lv_at hl 2 rfl) ?_
  refine lv_iconst (v := 1) hx hb dX0_switchLeg_8 (by decide) ?_
  refine lv_icmp_ne (tgt := 32) hx hb dX0_switchLeg_9 (by decide) (fun c_1 => ?_) (fun c_1 => ?_)
  · skip
    refine lv_iload_n hx hb dX0_switchLeg_32 rfl (lv_at hl 2 rfl) ?_
    refine lv_iconst (v := -1) hx hb dX0_switchLeg_33 (by decide) ?_
    refine lv_icmp_ne (tgt := 54) hx hb dX0_switchLeg_34 (by decide) (fun c_2 => ?_) (fun c_2 => ?_)
    · skip
      exact my_vret hx hb hr hlocks hK hP hD hS (upd w0 j b, w1, w2, w3, w4) (by show (upd w0 j b, w1, w2, w3, w4) = F_X0_switchLeg pu w0 w1 w2 w3 w4 j b d; simp only [F_X0_switchLeg, if_neg c_1, if_neg c_2]) [0, 1, 2, 3, 4, 5] rfl rfl dX0_switchLeg_54
    · skip
      refine lv_aload_n hx hb dX0_switchLeg_37 rfl (lv_at hl 0 rfl) ?_
      refine va_get (D := D) (ci := 0) (v := .ref q2) (C := RX0) (T := TX0) (N := 6) hx hb hts hiX0 hown hK hP 0 rfl rfl 3 (by decide) hk_22 (fun _ h9 => h9) rfl dX0_switchLeg_38 ?_
      refine lv_iload_n hx hb dX0_switchLeg_41 rfl (lv_at hl 1 rfl) ?_
      refine lv_dup2_11 hx hb dX0_switchLeg_42 rfl rfl ?_
      refine my_iald hx hb hK hP 3 0 rfl rfl j (rfl) (hj) (by decide) dX0_switchLeg_43 ?_
      refine lv_iconst (v := 1) hx hb dX0_switchLeg_44 (by decide) ?_
      refine lv_iadd hx hb dX0_switchLeg_45 ?_
      refine my_iast hx hb hK hP hD hS 3 0 rfl rfl j (rfl) (hj) (by decide) dX0_switchLeg_46 (fun H locs hP hD hS => ?_)
      have hP : va_P D vwCl [(h0, .inr (0, [.int pu, .ref q0, .ref q1, .ref q2, .ref q3, .ref q4])), (q0, .inl (cI, 3, .inl (upd w0 j b))), (q1, .inl (cI, 3, .inl w1)), (q2, .inl (cI, 3, .inl (upd w2 j ((w2 j) + (1 : Int32))))), (q3, .inl (cI, 3, .inl w3)), (q4, .inl (cI, 3, .inl w4))] H := hP
      have hD : va_D A [(h0, .inr (0, [.int pu, .ref q0, .ref q1, .ref q2, .ref q3, .ref q4])), (q0, .inl (cI, 3, .inl (upd w0 j b))), (q1, .inl (cI, 3, .inl w1)), (q2, .inl (cI, 3, .inl (upd w2 j ((w2 j) + (1 : Int32))))), (q3, .inl (cI, 3, .inl w3)), (q4, .inl (cI, 3, .inl w4))] := hD
      refine lv_aload_n hx hb dX0_switchLeg_47 rfl (lv_at hl 0 rfl) ?_
      refine va_get (D := D) (ci := 0) (v := .ref q4) (C := RX0) (T := TX0) (N := 6) hx hb hts hiX0 hown hK hP 0 rfl rfl 5 (by decide) hk_28 (fun _ h9 => h9) rfl dX0_switchLeg_48 ?_
      refine lv_iload_n hx hb dX0_switchLeg_51 rfl (lv_at hl 1 rfl) ?_
      refine lv_iload_n hx hb dX0_switchLeg_52 rfl (lv_at hl 3 rfl) ?_
      refine my_iast hx hb hK hP hD hS 5 0 rfl rfl j (rfl) (hj) (by decide) dX0_switchLeg_53 (fun H locs hP hD hS => ?_)
      have hP : va_P D vwCl [(h0, .inr (0, [.int pu, .ref q0, .ref q1, .ref q2, .ref q3, .ref q4])), (q0, .inl (cI, 3, .inl (upd w0 j b))), (q1, .inl (cI, 3, .inl w1)), (q2, .inl (cI, 3, .inl (upd w2 j ((w2 j) + (1 : Int32))))), (q3, .inl (cI, 3, .inl w3)), (q4, .inl (cI, 3, .inl (upd w4 j d)))] H := hP
      have hD : va_D A [(h0, .inr (0, [.int pu, .ref q0, .ref q1, .ref q2, .ref q3, .ref q4])), (q0, .inl (cI, 3, .inl (upd w0 j b))), (q1, .inl (cI, 3, .inl w1)), (q2, .inl (cI, 3, .inl (upd w2 j ((w2 j) + (1 : Int32))))), (q3, .inl (cI, 3, .inl w3)), (q4, .inl (cI, 3, .inl (upd w4 j d)))] := hD
      exact my_vret hx hb hr hlocks hK hP hD hS (upd w0 j b, w1, upd w2 j ((w2 j) + (1 : Int32)), w3, upd w4 j d) (by show (upd w0 j b, w1, upd w2 j ((w2 j) + (1 : Int32)), w3, upd w4 j d) = F_X0_switchLeg pu w0 w1 w2 w3 w4 j b d; simp only [F_X0_switchLeg, if_neg c_1, if_pos c_2]) [0, 1, 2, 3, 4, 5] rfl rfl dX0_switchLeg_54
  · skip
    refine lv_aload_n hx hb dX0_switchLeg_12 rfl (lv_at hl 0 rfl) ?_
    refine va_get (D := D) (ci := 0) (v := .ref q1) (C := RX0) (T := TX0) (N := 6) hx hb hts hiX0 hown hK hP 0 rfl rfl 2 (by decide) hk_19 (fun _ h9 => h9) rfl dX0_switchLeg_13 ?_
    refine lv_iload_n hx hb dX0_switchLeg_16 rfl (lv_at hl 1 rfl) ?_
    refine lv_dup2_11 hx hb dX0_switchLeg_17 rfl rfl ?_
    refine my_iald hx hb hK hP 2 0 rfl rfl j (rfl) (hj) (by decide) dX0_switchLeg_18 ?_
    refine lv_iconst (v := 1) hx hb dX0_switchLeg_19 (by decide) ?_
    refine lv_iadd hx hb dX0_switchLeg_20 ?_
    refine my_iast hx hb hK hP hD hS 2 0 rfl rfl j (rfl) (hj) (by decide) dX0_switchLeg_21 (fun H locs hP hD hS => ?_)
    have hP : va_P D vwCl [(h0, .inr (0, [.int pu, .ref q0, .ref q1, .ref q2, .ref q3, .ref q4])), (q0, .inl (cI, 3, .inl (upd w0 j b))), (q1, .inl (cI, 3, .inl (upd w1 j ((w1 j) + (1 : Int32))))), (q2, .inl (cI, 3, .inl w2)), (q3, .inl (cI, 3, .inl w3)), (q4, .inl (cI, 3, .inl w4))] H := hP
    have hD : va_D A [(h0, .inr (0, [.int pu, .ref q0, .ref q1, .ref q2, .ref q3, .ref q4])), (q0, .inl (cI, 3, .inl (upd w0 j b))), (q1, .inl (cI, 3, .inl (upd w1 j ((w1 j) + (1 : Int32))))), (q2, .inl (cI, 3, .inl w2)), (q3, .inl (cI, 3, .inl w3)), (q4, .inl (cI, 3, .inl w4))] := hD
    refine lv_aload_n hx hb dX0_switchLeg_22 rfl (lv_at hl 0 rfl) ?_
    refine va_get (D := D) (ci := 0) (v := .ref q3) (C := RX0) (T := TX0) (N := 6) hx hb hts hiX0 hown hK hP 0 rfl rfl 4 (by decide) hk_25 (fun _ h9 => h9) rfl dX0_switchLeg_23 ?_
    refine lv_iload_n hx hb dX0_switchLeg_26 rfl (lv_at hl 1 rfl) ?_
    refine lv_iload_n hx hb dX0_switchLeg_27 rfl (lv_at hl 3 rfl) ?_
    refine my_iast hx hb hK hP hD hS 4 0 rfl rfl j (rfl) (hj) (by decide) dX0_switchLeg_28 (fun H locs hP hD hS => ?_)
    have hP : va_P D vwCl [(h0, .inr (0, [.int pu, .ref q0, .ref q1, .ref q2, .ref q3, .ref q4])), (q0, .inl (cI, 3, .inl (upd w0 j b))), (q1, .inl (cI, 3, .inl (upd w1 j ((w1 j) + (1 : Int32))))), (q2, .inl (cI, 3, .inl w2)), (q3, .inl (cI, 3, .inl (upd w3 j d))), (q4, .inl (cI, 3, .inl w4))] H := hP
    have hD : va_D A [(h0, .inr (0, [.int pu, .ref q0, .ref q1, .ref q2, .ref q3, .ref q4])), (q0, .inl (cI, 3, .inl (upd w0 j b))), (q1, .inl (cI, 3, .inl (upd w1 j ((w1 j) + (1 : Int32))))), (q2, .inl (cI, 3, .inl w2)), (q3, .inl (cI, 3, .inl (upd w3 j d))), (q4, .inl (cI, 3, .inl w4))] := hD
    refine lv_goto (tgt := 54) hx hb dX0_switchLeg_29 (by decide) ?_
    exact my_vret hx hb hr hlocks hK hP hD hS (upd w0 j b, upd w1 j ((w1 j) + (1 : Int32)), w2, upd w3 j d, w4) (by show (upd w0 j b, upd w1 j ((w1 j) + (1 : Int32)), w2, upd w3 j d, w4) = F_X0_switchLeg pu w0 w1 w2 w3 w4 j b d; simp only [F_X0_switchLeg, if_pos c_1]) [0, 1, 2, 3, 4, 5] rfl rfl dX0_switchLeg_54
