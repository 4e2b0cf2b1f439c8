def F_X3_copyFrom (f0 : Int32) (f1 : Int32) (f2 : Int32) (f3 : Int32) (z : Int32) (f6 : Int32) (f7 : Int32) (iv : Nat → Int32) (k0 : Int32) (k1 : Int32) (k2 : Int32) (k3 : Int32) (y : Int32) (k6 : Int32) (k7 : Int32) (jv : Nat → Int32) : Int32 × Int32 × Int32 × Int32 × Int32 × Int32 × Int32 × (Nat → Int32) :=
  (k0, k1, k2, k3, y, k6, k7, va_cpy jv iv 0 0 6)
set_option maxHeartbeats 4000000 in
set_option maxRecDepth 100000 in
theorem met_X3_copyFrom (l : Launch) (D : va_G) (cI cJ cS : ClassId) (h0 : Nat) (h1 : Nat) (a0 : Nat) (a1 : Nat) (f0 : Int32) (f1 : Int32) (f2 : Int32) (f3 : Int32) (z : Int32) (f6 : Int32) (f7 : Int32) (iv : Nat → Int32) (k0 : Int32) (k1 : Int32) (k2 : Int32) (k3 : Int32) (y : Int32) (k6 : Int32) (k7 : Int32) (jv : Nat → Int32)  : ∀ sz : Nat, Met l yX3_copyFrom wsX3_copyFrom ({ frames := 1, cells := 0, slots := 0, locals := 60 } : Room) (va_Pc [.ref h0, .ref h1] (cPre D (tyz cI cJ cS) ([(h0, .inr (3, [.int f0, .int f1, .int f2, .int f3, .ref a0, .int z, .int f6, .int f7])), (a0, .inl (cI, 6, .inl iv)), (h1, .inr (3, [.int k0, .int k1, .int k2, .int k3, .ref a1, .int y, .int k6, .int k7])), (a1, .inl (cI, 6, .inl jv))]) sz)) (va_Qv (fun (u : Int32 × Int32 × Int32 × Int32 × Int32 × Int32 × Int32 × (Nat → Int32)) => u = F_X3_copyFrom f0 f1 f2 f3 z f6 f7 iv k0 k1 k2 k3 y k6 k7 jv) (fun u => cPost D (tyz cI cJ cS) (va_A ([(h0, .inr (3, [.int f0, .int f1, .int f2, .int f3, .ref a0, .int z, .int f6, .int f7])), (a0, .inl (cI, 6, .inl iv)), (h1, .inr (3, [.int k0, .int k1, .int k2, .int k3, .ref a1, .int y, .int k6, .int k7])), (a1, .inl (cI, 6, .inl jv))]) sz) ([(h0, .inr (3, [.int u.1, .int u.2.1, .int u.2.2.1, .int u.2.2.2.1, .ref a0, .int u.2.2.2.2.1, .int u.2.2.2.2.2.1, .int u.2.2.2.2.2.2.1])), (a0, .inl (cI, 6, .inl u.2.2.2.2.2.2.2)), (h1, .inr (3, [.int k0, .int k1, .int k2, .int k3, .ref a1, .int y, .int k6, .int k7])), (a1, .inl (cI, 6, .inl jv))])) (va_A ([(h0, .inr (3, [.int f0, .int f1, .int f2, .int f3, .ref a0, .int z, .int f6, .int f7])), (a0, .inl (cI, 6, .inl iv)), (h1, .inr (3, [.int k0, .int k1, .int k2, .int k3, .ref a1, .int y, .int k6, .int k7])), (a1, .inl (cI, 6, .inl jv))]) sz)) 0 0 (va_A ([(h0, .inr (3, [.int f0, .int f1, .int f2, .int f3, .ref a0, .int z, .int f6, .int f7])), (a0, .inl (cI, 6, .inl iv)), (h1, .inr (3, [.int k0, .int k1, .int k2, .int k3, .ref a1, .int y, .int k6, .int k7])), (a1, .inl (cI, 6, .inl jv))]) sz) := by
  refine my_met (QC := fun A => (va_Qv (fun (u : Int32 × Int32 × Int32 × Int32 × Int32 × Int32 × Int32 × (Nat → Int32)) => u = F_X3_copyFrom f0 f1 f2 f3 z f6 f7 iv k0 k1 k2 k3 y k6 k7 jv) (fun u => cPost D (tyz cI cJ cS) A ([(h0, .inr (3, [.int u.1, .int u.2.1, .int u.2.2.1, .int u.2.2.2.1, .ref a0, .int u.2.2.2.2.1, .int u.2.2.2.2.2.1, .int u.2.2.2.2.2.2.1])), (a0, .inl (cI, 6, .inl u.2.2.2.2.2.2.2)), (h1, .inr (3, [.int k0, .int k1, .int k2, .int k3, .ref a1, .int y, .int k6, .int k7])), (a1, .inl (cI, 6, .inl jv))])) A)) (cc := cX3_copyFrom) (maxL := 2) (ret := none) (by decide) rfl (Nat.le_of_ble_eq_true rfl) ?_
  intro p e s m below meth c ls A hx hb hml hr hts hown hlocks hname hK hP hD hS hA hG hl
  have hown : s.vm.findClass RX3 = some m.cls := hown
  have hl : lv_has ls 2 [(0, .ref h0), (1, .ref h1)] := hl
  have hP : va_P D vwCl [(h0, .inr (3, [.int f0, .int f1, .int f2, .int f3, .ref a0, .int z, .int f6, .int f7])), (a0, .inl (cI, 6, .inl iv)), (h1, .inr (3, [.int k0, .int k1, .int k2, .int k3, .ref a1, .int y, .int k6, .int k7])), (a1, .inl (cI, 6, .inl jv))] s.heap := hP
  have hD : va_D A [(h0, .inr (3, [.int f0, .int f1, .int f2, .int f3, .ref a0, .int z, .int f6, .int f7])), (a0, .inl (cI, 6, .inl iv)), (h1, .inr (3, [.int k0, .int k1, .int k2, .int k3, .ref a1, .int y, .int k6, .int k7])), (a1, .inl (cI, 6, .inl jv))] := hD
  have hiX3 : ∀ w ∈ u_ws RX3 TX3 8, w ∈ wsX3_copyFrom := by decide +kernel
  have hk_15 := hts (.fieldLink RX3 15 "HallCommutator$Motion" "illegalCodes" "I") (by decide +kernel)
  have hk_18 := hts (.fieldLink RX3 18 "HallCommutator$Motion" "skips" "I") (by decide +kernel)
  have hk_21 := hts (.fieldLink RX3 21 "HallCommutator$Motion" "edges" "I") (by decide +kernel)
  have hk_24 := hts (.fieldLink RX3 24 "HallCommutator$Motion" "intervals" "[I") (by decide +kernel)
  have hk_28 := hts (.fieldLink RX3 28 "HallCommutator$Motion" "intervalCount" "I") (by decide +kernel)
  have hk_31 := hts (.fieldLink RX3 31 "HallCommutator$Motion" "edgeTick" "I") (by decide +kernel)
  have hk_34 := hts (.fieldLink RX3 34 "HallCommutator$Motion" "edgeDirection" "I") (by decide +kernel)
  have hk_9 := hts (.fieldLink RX3 9 "HallCommutator$Motion" "position" "I") (by decide +kernel)
  refine lv_aload_n hx hb dX3_copyFrom_0 rfl (lv_at hl 0 rfl) ?_
  refine lv_aload_n hx hb dX3_copyFrom_1 rfl (lv_at hl 1 rfl) ?_
  refine va_get (D := D) (ci := 3) (v := .int k0) (C := RX3) (T := TX3) (N := 8) hx hb hts hiX3 hown hK hP 2 rfl rfl 0 (by decide) hk_9 (fun _ h9 => h9) rfl dX3_copyFrom_2 ?_
  refine va_put (D := D) (ci := 3) (v := .int k0) (ty := .int) (C := RX3) (T := TX3) (N := 8) hx hb hts hiX3 tyX3 tyX3_ok nmX3 hown hK hP hD hS 0 rfl rfl 0 (by decide) hk_9 (fun _ h9 => h9) rfl (by decide +kernel) rfl rfl (Nat.le_of_ble_eq_true rfl) dX3_copyFrom_5 (fun H locs hP hD hS => ?_)
  have hP : va_P D vwCl [(h0, .inr (3, [.int k0, .int f1, .int f2, .int f3, .ref a0, .int z, .int f6, .int f7])), (a0, .inl (cI, 6, .inl iv)), (h1, .inr (3, [.int k0, .int k1, .int k2, .int k3, .ref a1, .int y, .int k6, .int k7])), (a1, .inl (cI, 6, .inl jv))] H := hP
  have hD : va_D A [(h0, .inr (3, [.int k0, .int f1, .int f2, .int f3, .ref a0, .int z, .int f6, .int f7])), (a0, .inl (cI, 6, .inl iv)), (h1, .inr (3, [.int k0, .int k1, .int k2, .int k3, .ref a1, .int y, .int k6, .int k7])), (a1, .inl (cI, 6, .inl jv))] := hD
  refine lv_aload_n hx hb dX3_copyFrom_8 rfl (lv_at hl 0 rfl) ?_
  refine lv_aload_n hx hb dX3_copyFrom_9 rfl (lv_at hl 1 rfl) ?_
  refine va_get (D := D) (ci := 3) (v := .int k1) (C := RX3) (T := TX3) (N := 8) hx hb hts hiX3 hown hK hP 2 rfl rfl 1 (by decide) hk_15 (fun _ h9 => h9) rfl dX3_copyFrom_10 ?_
  refine va_put (D := D) (ci := 3) (v := .int k1) (ty := .int) (C := RX3) (T := TX3) (N := 8) hx hb hts hiX3 tyX3 tyX3_ok nmX3 hown hK hP hD hS 0 rfl rfl 1 (by decide) hk_15 (fun _ h9 => h9) rfl (by decide +kernel) rfl rfl (Nat.le_of_ble_eq_true rfl) dX3_copyFrom_13 (fun H locs hP hD hS => ?_)
  have hP : va_P D vwCl [(h0, .inr (3, [.int k0, .int k1, .int f2, .int f3, .ref a0, .int z, .int f6, .int f7])), (a0, .inl (cI, 6, .inl iv)), (h1, .inr (3, [.int k0, .int k1, .int k2, .int k3, .ref a1, .int y, .int k6, .int k7])), (a1, .inl (cI, 6, .inl jv))] H := hP
  have hD : va_D A [(h0, .inr (3, [.int k0, .int k1, .int f2, .int f3, .ref a0, .int z, .int f6, .int f7])), (a0, .inl (cI, 6, .inl iv)), (h1, .inr (3, [.int k0, .int k1, .int k2, .int k3, .ref a1, .int y, .int k6, .int k7])), (a1, .inl (cI, 6, .inl jv))] := hD
  refine lv_aload_n hx hb dX3_copyFrom_16 rfl (lv_at hl 0 rfl) ?_
  refine lv_aload_n hx hb dX3_copyFrom_17 rfl (lv_at hl 1 rfl) ?_
  refine va_get (D := D) (ci := 3) (v := .int k2) (C := RX3) (T := TX3) (N := 8) hx hb hts hiX3 hown hK hP 2 rfl rfl 2 (by decide) hk_18 (fun _ h9 => h9) rfl dX3_copyFrom_18 ?_
  refine va_put (D := D) (ci := 3) (v := .int k2) (ty := .int) (C := RX3) (T := TX3) (N := 8) hx hb hts hiX3 tyX3 tyX3_ok nmX3 hown hK hP hD hS 0 rfl rfl 2 (by decide) hk_18 (fun _ h9 => h9) rfl (by decide +kernel) rfl rfl (Nat.le_of_ble_eq_true rfl) dX3_copyFrom_21 (fun H locs hP hD hS => ?_)
  have hP : va_P D vwCl [(h0, .inr (3, [.int k0, .int k1, .int k2, .int f3, .ref a0, .int z, .int f6, .int f7])), (a0, .inl (cI, 6, .inl iv)), (h1, .inr (3, [.int k0, .int k1, .int k2, .int k3, .ref a1, .int y, .int k6, .int k7])), (a1, .inl (cI, 6, .inl jv))] H := hP
  have hD : va_D A [(h0, .inr (3, [.int k0, .int k1, .int k2, .int f3, .ref a0, .int z, .int f6, .int f7])), (a0, .inl (cI, 6, .inl iv)), (h1, .inr (3, [.int k0, .int k1, .int k2, .int k3, .ref a1, .int y, .int k6, .int k7])), (a1, .inl (cI, 6, .inl jv))] := hD
  refine lv_aload_n hx hb dX3_copyFrom_24 rfl (lv_at hl 0 rfl) ?_
  refine lv_aload_n hx hb dX3_copyFrom_25 rfl (lv_at hl 1 rfl) ?_
  refine va_get (D := D) (ci := 3) (v := .int k3) (C := RX3) (T := TX3) (N := 8) hx hb hts hiX3 hown hK hP 2 rfl rfl 3 (by decide) hk_21 (fun _ h9 => h9) rfl dX3_copyFrom_26 ?_
  refine va_put (D := D) (ci := 3) (v := .int k3) (ty := .int) (C := RX3) (T := TX3) (N := 8) hx hb hts hiX3 tyX3 tyX3_ok nmX3 hown hK hP hD hS 0 rfl rfl 3 (by decide) hk_21 (fun _ h9 => h9) rfl (by decide +kernel) rfl rfl (Nat.le_of_ble_eq_true rfl) dX3_copyFrom_29 (fun H locs hP hD hS => ?_)
  have hP : va_P D vwCl [(h0, .inr (3, [.int k0, .int k1, .int k2, .int k3, .ref a0, .int z, .int f6, .int f7])), (a0, .inl (cI, 6, .inl iv)), (h1, .inr (3, [.int k0, .int k1, .int k2, .int k3, .ref a1, .int y, .int k6, .int k7])), (a1, .inl (cI, 6, .inl jv))] H := hP
  have hD : va_D A [(h0, .inr (3, [.int k0, .int k1, .int k2, .int k3, .ref a0, .int z, .int f6, .int f7])), (a0, .inl (cI, 6, .inl iv)), (h1, .inr (3, [.int k0, .int k1, .int k2, .int k3, .ref a1, .int y, .int k6, .int k7])), (a1, .inl (cI, 6, .inl jv))] := hD
  refine lv_aload_n hx hb dX3_copyFrom_32 rfl (lv_at hl 1 rfl) ?_
  refine va_get (D := D) (ci := 3) (v := .ref a1) (C := RX3) (T := TX3) (N := 8) hx hb hts hiX3 hown hK hP 2 rfl rfl 4 (by decide) hk_24 (fun _ h9 => h9) rfl dX3_copyFrom_33 ?_
  refine lv_iconst (v := 0) hx hb dX3_copyFrom_36 (by decide) ?_
  refine lv_aload_n hx hb dX3_copyFrom_37 rfl (lv_at hl 0 rfl) ?_
  refine va_get (D := D) (ci := 3) (v := .ref a0) (C := RX3) (T := TX3) (N := 8) hx hb hts hiX3 hown hK hP 0 rfl rfl 4 (by decide) hk_24 (fun _ h9 => h9) rfl dX3_copyFrom_38 ?_
  refine lv_iconst (v := 0) hx hb dX3_copyFrom_41 (by decide) ?_
  refine lv_bipush (v := 6) hx hb dX3_copyFrom_42 (by decide) ?_
  refine va_copyi (ty := .int) hx hb (by rw [hml]; exact hl.1.symm) hown (hts (.methodLink RX3 37 arraycopyName) (by decide +kernel)) (hts (.native arraycopyName) (by decide +kernel)) (hts (.static arraycopyName) (by decide +kernel)) (hts (.initialized "java/lang/System") (by decide +kernel)) hK hP hD hS 3 1 0 0 rfl rfl rfl rfl rfl (by decide) (by decide) (by decide) (by decide) (by decide) (fun _ _ => rfl) (Nat.le_of_ble_eq_true rfl) (Nat.le_of_ble_eq_true rfl) dX3_copyFrom_44 (fun H locs hP hD hS => ?_)
  have hP : va_P D vwCl [(h0, .inr (3, [.int k0, .int k1, .int k2, .int k3, .ref a0, .int z, .int f6, .int f7])), (a0, .inl (cI, 6, .inl (va_cpy jv iv 0 0 6))), (h1, .inr (3, [.int k0, .int k1, .int k2, .int k3, .ref a1, .int y, .int k6, .int k7])), (a1, .inl (cI, 6, .inl jv))] H := hP
  have hD : va_D A [(h0, .inr (3, [.int k0, .int k1, .int k2, .int k3, .ref a0, .int z, .int f6, .int f7])), (a0, .inl (cI, 6, .inl (va_cpy jv iv 0 0 6))), (h1, .inr (3, [.int k0, .int k1, .int k2, .int k3, .ref a1, .int y, .int k6, .int k7])), (a1, .inl (cI, 6, .inl jv))] := hD
  refine lv_aload_n hx hb dX3_copyFrom_47 rfl (lv_at hl 0 rfl) ?_
  refine lv_aload_n hx hb dX3_copyFrom_48 rfl (lv_at hl 1 rfl) ?_
  refine va_get (D := D) (ci := 3) (v := .int y) (C := RX3) (T := TX3) (N := 8) hx hb hts hiX3 hown hK hP 2 rfl rfl 5 (by decide) hk_28 (fun _ h9 => h9) rfl dX3_copyFrom_49 ?_
  refine va_put (D := D) (ci := 3) (v := .int y) (ty := .int) (C := RX3) (T := TX3) (N := 8) hx hb hts hiX3 tyX3 tyX3_ok nmX3 hown hK hP hD hS 0 rfl rfl 5 (by decide) hk_28 (fun _ h9 => h9) rfl (by decide +kernel) rfl rfl (Nat.le_of_ble_eq_true rfl) dX3_copyFrom_52 (fun H locs hP hD hS => ?_)
  have hP : va_P D vwCl [(h0, .inr (3, [.int k0, .int k1, .int k2, .int k3, .ref a0, .int y, .int f6, .int f7])), (a0, .inl (cI, 6, .inl (va_cpy jv iv 0 0 6))), (h1, .inr (3, [.int k0, .int k1, .int k2, .int k3, .ref a1, .int y, .int k6, .int k7])), (a1, .inl (cI, 6, .inl jv))] H := hP
  have hD : va_D A [(h0, .inr (3, [.int k0, .int k1, .int k2, .int k3, .ref a0, .int y, .int f6, .int f7])), (a0, .inl (cI, 6, .inl (va_cpy jv iv 0 0 6))), (h1, .inr (3, [.int k0, .int k1, .int k2, .int k3, .ref a1, .int y, .int k6, .int k7])), (a1, .inl (cI, 6, .inl jv))] := hD
  refine lv_aload_n hx hb dX3_copyFrom_55 rfl (lv_at hl 0 rfl) ?_
  refine lv_aload_n hx hb dX3_copyFrom_56 rfl (lv_at hl 1 rfl) ?_
  refine va_get (D := D) (ci := 3) (v := .int k6) (C := RX3) (T := TX3) (N := 8) hx hb hts hiX3 hown hK hP 2 rfl rfl 6 (by decide) hk_31 (fun _ h9 => h9) rfl dX3_copyFrom_57 ?_
  refine va_put (D := D) (ci := 3) (v := .int k6) (ty := .int) (C := RX3) (T := TX3) (N := 8) hx hb hts hiX3 tyX3 tyX3_ok nmX3 hown hK hP hD hS 0 rfl rfl 6 (by decide) hk_31 (fun _ h9 => h9) rfl (by decide +kernel) rfl rfl (Nat.le_of_ble_eq_true rfl) dX3_copyFrom_60 (fun H locs hP hD hS => ?_)
  have hP : va_P D vwCl [(h0, .inr (3, [.int k0, .int k1, .int k2, .int k3, .ref a0, .int y, .int k6, .int f7])), (a0, .inl (cI, 6, .inl (va_cpy jv iv 0 0 6))), (h1, .inr (3, [.int k0, .int k1, .int k2, .int k3, .ref a1, .int y, .int k6, .int k7])), (a1, .inl (cI, 6, .inl jv))] H := hP
  have hD : va_D A [(h0, .inr (3, [.int k0, .int k1, .int k2, .int k3, .ref a0, .int y, .int k6, .int f7])), (a0, .inl (cI, 6, .inl (va_cpy jv iv 0 0 6))), (h1, .inr (3, [.int k0, .int k1, .int k2, .int k3, .ref a1, .int y, .int k6, .int k7])), (a1, .inl (cI, 6, .inl jv))] := hD
  refine lv_aload_n hx hb dX3_copyFrom_63 rfl (lv_at hl 0 rfl) ?_
  refine lv_aload_n hx hb dX3_copyFrom_64 rfl (lv_at hl 1 rfl) ?_
  refine va_get (D := D) (ci := 3) (v := .int k7) (C := RX3) (T := TX3) (N := 8) hx hb hts hiX3 hown hK hP 2 rfl rfl 7 (by decide) hk_34 (fun _ h9 => h9) rfl dX3_copyFrom_65 ?_
  refine va_put (D := D) (ci := 3) (v := .int k7) (ty := .int) (C := RX3) (T := TX3) (N := 8) hx hb hts hiX3 tyX3 tyX3_ok nmX3 hown hK hP hD hS 0 rfl rfl 7 (by decide) hk_34 (fun _ h9 => h9) rfl (by decide +kernel) rfl rfl (Nat.le_of_ble_eq_true rfl) dX3_copyFrom_68 (fun H locs hP hD hS => ?_)
  have hP : va_P D vwCl [(h0, .inr (3, [.int k0, .int k1, .int k2, .int k3, .ref a0, .int y, .int k6, .int k7])), (a0, .inl (cI, 6, .inl (va_cpy jv iv 0 0 6))), (h1, .inr (3, [.int k0, .int k1, .int k2, .int k3, .ref a1, .int y, .int k6, .int k7])), (a1, .inl (cI, 6, .inl jv))] H := hP
  have hD : va_D A [(h0, .inr (3, [.int k0, .int k1, .int k2, .int k3, .ref a0, .int y, .int k6, .int k7])), (a0, .inl (cI, 6, .inl (va_cpy jv iv 0 0 6))), (h1, .inr (3, [.int k0, .int k1, .int k2, .int k3, .ref a1, .int y, .int k6, .int k7])), (a1, .inl (cI, 6, .inl jv))] := hD
  exact my_vret hx hb hr hlocks hK hP hD hS (k0, k1, k2, k3, y, k6, k7, va_cpy jv iv 0 0 6) (by show (k0, k1, k2, k3, y, k6, k7, va_cpy jv iv 0 0 6) = F_X3_copyFrom f0 f1 f2 f3 z f6 f7 iv k0 k1 k2 k3 y k6 k7 jv; simp only [F_X3_copyFrom]) [0, 1, 2, 3] rfl rfl dX3_copyFrom_71
def F_X3_forgetEdge (f0 : Int32) (f1 : Int32) (f2 : Int32) (f3 : Int32) (z : Int32) (f6 : Int32) (f7 : Int32) (iv : Nat → Int32) : Int32 × Int32 :=
  ((0 : Int32), (0 : Int32))
set_option maxHeartbeats 4000000 in
set_option maxRecDepth 100000 in
theorem met_X3_forgetEdge (l : Launch) (D : va_G) (cI cJ cS : ClassId) (h0 : Nat) (a0 : Nat) (f0 : Int32) (f1 : Int32) (f2 : Int32) (f3 : Int32) (z : Int32) (f6 : Int32) (f7 : Int32) (iv : Nat → Int32)  : ∀ sz : Nat, Met l yX3_forgetEdge wsX3_forgetEdge ({ frames := 0, cells := 0, slots := 0, locals := 0 } : Room) (va_Pc [.ref h0] (cPre D (tyz cI cJ cS) ([(h0, .inr (3, [.int f0, .int f1, .int f2, .int f3, .ref a0, .int z, .int f6, .int f7])), (a0, .inl (cI, 6, .inl iv))]) sz)) (va_Qv (fun (u : Int32 × Int32) => u = F_X3_forgetEdge f0 f1 f2 f3 z f6 f7 iv) (fun u => cPost D (tyz cI cJ cS) (va_A ([(h0, .inr (3, [.int f0, .int f1, .int f2, .int f3, .ref a0, .int z, .int f6, .int f7])), (a0, .inl (cI, 6, .inl iv))]) sz) ([(h0, .inr (3, [.int f0, .int f1, .int f2, .int f3, .ref a0, .int u.1, .int f6, .int u.2])), (a0, .inl (cI, 6, .inl iv))])) (va_A ([(h0, .inr (3, [.int f0, .int f1, .int f2, .int f3, .ref a0, .int z, .int f6, .int f7])), (a0, .inl (cI, 6, .inl iv))]) sz)) 0 0 (va_A ([(h0, .inr (3, [.int f0, .int f1, .int f2, .int f3, .ref a0, .int z, .int f6, .int f7])), (a0, .inl (cI, 6, .inl iv))]) sz) := by
  refine my_met (QC := fun A => (va_Qv (fun (u : Int32 × Int32) => u = F_X3_forgetEdge f0 f1 f2 f3 z f6 f7 iv) (fun u => cPost D (tyz cI cJ cS) A ([(h0, .inr (3, [.int f0, .int f1, .int f2, .int f3, .ref a0, .int u.1, .int f6, .int u.2])), (a0, .inl (cI, 6, .inl iv))])) A)) (cc := cX3_forgetEdge) (maxL := 1) (ret := none) (by decide) rfl (Nat.le_of_ble_eq_true rfl) ?_
  intro p e s m below meth c ls A hx hb hml hr hts hown hlocks hname hK hP hD hS hA hG hl
  have hown : s.vm.findClass RX3 = some m.cls := hown
  have hl : lv_has ls 1 [(0, .ref h0)] := hl
  have hP : va_P D vwCl [(h0, .inr (3, [.int f0, .int f1, .int f2, .int f3, .ref a0, .int z, .int f6, .int f7])), (a0, .inl (cI, 6, .inl iv))] s.heap := hP
  have hD : va_D A [(h0, .inr (3, [.int f0, .int f1, .int f2, .int f3, .ref a0, .int z, .int f6, .int f7])), (a0, .inl (cI, 6, .inl iv))] := hD
  have hiX3 : ∀ w ∈ u_ws RX3 TX3 8, w ∈ wsX3_forgetEdge := by decide +kernel
  have hk_28 := hts (.fieldLink RX3 28 "HallCommutator$Motion" "intervalCount" "I") (by decide +kernel)
  have hk_34 := hts (.fieldLink RX3 34 "HallCommutator$Motion" "edgeDirection" "I") (by decide +kernel)
  refine lv_aload_n hx hb dX3_forgetEdge_0 rfl (lv_at hl 0 rfl) ?_
  refine lv_iconst (v := 0) hx hb dX3_forgetEdge_1 (by decide) ?_
  refine va_put (D := D) (ci := 3) (v := .int (0 : Int32)) (ty := .int) (C := RX3) (T := TX3) (N := 8) hx hb hts hiX3 tyX3 tyX3_ok nmX3 hown hK hP hD hS 0 rfl rfl 5 (by decide) hk_28 (fun _ h9 => h9) rfl (by decide +kernel) rfl rfl (Nat.le_of_ble_eq_true rfl) dX3_forgetEdge_2 (fun H locs hP hD hS => ?_)
  have hP : va_P D vwCl [(h0, .inr (3, [.int f0, .int f1, .int f2, .int f3, .ref a0, .int (0 : Int32), .int f6, .int f7])), (a0, .inl (cI, 6, .inl iv))] H := hP
  have hD : va_D A [(h0, .inr (3, [.int f0, .int f1, .int f2, .int f3, .ref a0, .int (0 : Int32), .int f6, .int f7])), (a0, .inl (cI, 6, .inl iv))] := hD
  refine lv_aload_n hx hb dX3_forgetEdge_5 rfl (lv_at hl 0 rfl) ?_
  refine lv_iconst (v := 0) hx hb dX3_forgetEdge_6 (by decide) ?_
  refine va_put (D := D) (ci := 3) (v := .int (0 : Int32)) (ty := .int) (C := RX3) (T := TX3) (N := 8) hx hb hts hiX3 tyX3 tyX3_ok nmX3 hown hK hP hD hS 0 rfl rfl 7 (by decide) hk_34 (fun _ h9 => h9) rfl (by decide +kernel) rfl rfl (Nat.le_of_ble_eq_true rfl) dX3_forgetEdge_7 (fun H locs hP hD hS => ?_)
  have hP : va_P D vwCl [(h0, .inr (3, [.int f0, .int f1, .int f2, .int f3, .ref a0, .int (0 : Int32), .int f6, .int (0 : Int32)])), (a0, .inl (cI, 6, .inl iv))] H := hP
  have hD : va_D A [(h0, .inr (3, [.int f0, .int f1, .int f2, .int f3, .ref a0, .int (0 : Int32), .int f6, .int (0 : Int32)])), (a0, .inl (cI, 6, .inl iv))] := hD
  exact my_vret hx hb hr hlocks hK hP hD hS ((0 : Int32), (0 : Int32)) (by show ((0 : Int32), (0 : Int32)) = F_X3_forgetEdge f0 f1 f2 f3 z f6 f7 iv; simp only [F_X3_forgetEdge]) [0, 1] rfl rfl dX3_forgetEdge_10
def F_X3_addIllegalCode (f0 : Int32) (f1 : Int32) (f2 : Int32) (f3 : Int32) (z : Int32) (f6 : Int32) (f7 : Int32) (iv : Nat → Int32) : Int32 × Int32 × Int32 :=
  let q1 := F_X3_forgetEdge f0 (f1 + (1 : Int32)) f2 f3 z f6 f7 iv
  (f1 + (1 : Int32), q1.1, q1.2)
set_option maxHeartbeats 4000000 in
set_option maxRecDepth 100000 in
theorem met_X3_addIllegalCode (l : Launch) (D : va_G) (cI cJ cS : ClassId) (h0 : Nat) (a0 : Nat) (f0 : Int32) (f1 : Int32) (f2 : Int32) (f3 : Int32) (z : Int32) (f6 : Int32) (f7 : Int32) (iv : Nat → Int32)  : ∀ sz : Nat, Met l yX3_addIllegalCode wsX3_addIllegalCode ({ frames := 1, cells := 0, slots := 0, locals := 20 } : Room) (va_Pc [.ref h0] (cPre D (tyz cI cJ cS) ([(h0, .inr (3, [.int f0, .int f1, .int f2, .int f3, .ref a0, .int z, .int f6, .int f7])), (a0, .inl (cI, 6, .inl iv))]) sz)) (va_Qv (fun (u : Int32 × Int32 × Int32) => u = F_X3_addIllegalCode f0 f1 f2 f3 z f6 f7 iv) (fun u => cPost D (tyz cI cJ cS) (va_A ([(h0, .inr (3, [.int f0, .int f1, .int f2, .int f3, .ref a0, .int z, .int f6, .int f7])), (a0, .inl (cI, 6, .inl iv))]) sz) ([(h0, .inr (3, [.int f0, .int u.1, .int f2, .int f3, .ref a0, .int u.2.1, .int f6, .int u.2.2])), (a0, .inl (cI, 6, .inl iv))])) (va_A ([(h0, .inr (3, [.int f0, .int f1, .int f2, .int f3, .ref a0, .int z, .int f6, .int f7])), (a0, .inl (cI, 6, .inl iv))]) sz)) 0 0 (va_A ([(h0, .inr (3, [.int f0, .int f1, .int f2, .int f3, .ref a0, .int z, .int f6, .int f7])), (a0, .inl (cI, 6, .inl iv))]) sz) := by
  refine my_met (QC := fun A => (va_Qv (fun (u : Int32 × Int32 × Int32) => u = F_X3_addIllegalCode f0 f1 f2 f3 z f6 f7 iv) (fun u => cPost D (tyz cI cJ cS) A ([(h0, .inr (3, [.int f0, .int u.1, .int f2, .int f3, .ref a0, .int u.2.1, .int f6, .int u.2.2])), (a0, .inl (cI, 6, .inl iv))])) A)) (cc := cX3_addIllegalCode) (maxL := 1) (ret := none) (by decide) rfl (Nat.le_of_ble_eq_true rfl) ?_
  intro p e s m below meth c ls A hx hb hml hr hts hown hlocks hname hK hP hD hS hA hG hl
  have hown : s.vm.findClass RX3 = some m.cls := hown
  have hl : lv_has ls 1 [(0, .ref h0)] := hl
  have hP : va_P D vwCl [(h0, .inr (3, [.int f0, .int f1, .int f2, .int f3, .ref a0, .int z, .int f6, .int f7])), (a0, .inl (cI, 6, .inl iv))] s.heap := hP
  have hD : va_D A [(h0, .inr (3, [.int f0, .int f1, .int f2, .int f3, .ref a0, .int z, .int f6, .int f7])), (a0, .inl (cI, 6, .inl iv))] := hD
  have hiX3 : ∀ w ∈ u_ws RX3 TX3 8, w ∈ wsX3_addIllegalCode := by decide +kernel
  have hk_15 := hts (.fieldLink RX3 15 "HallCommutator$Motion" "illegalCodes" "I") (by decide +kernel)
  refine lv_aload_n hx hb dX3_addIllegalCode_0 rfl (lv_at hl 0 rfl) ?_
  refine lv_dup hx hb dX3_addIllegalCode_1 rfl ?_
  refine va_get (D := D) (ci := 3) (v := .int f1) (C := RX3) (T := TX3) (N := 8) hx hb hts hiX3 hown hK hP 0 rfl rfl 1 (by decide) hk_15 (fun _ h9 => h9) rfl dX3_addIllegalCode_2 ?_
  refine lv_iconst (v := 1) hx hb dX3_addIllegalCode_5 (by decide) ?_
  refine lv_iadd hx hb dX3_addIllegalCode_6 ?_
  refine va_put (D := D) (ci := 3) (v := .int (f1 + (1 : Int32))) (ty := .int) (C := RX3) (T := TX3) (N := 8) hx hb hts hiX3 tyX3 tyX3_ok nmX3 hown hK hP hD hS 0 rfl rfl 1 (by decide) hk_15 (fun _ h9 => h9) rfl (by decide +kernel) rfl rfl (Nat.le_of_ble_eq_true rfl) dX3_addIllegalCode_7 (fun H locs hP hD hS => ?_)
  have hP : va_P D vwCl [(h0, .inr (3, [.int f0, .int (f1 + (1 : Int32)), .int f2, .int f3, .ref a0, .int z, .int f6, .int f7])), (a0, .inl (cI, 6, .inl iv))] H := hP
  have hD : va_D A [(h0, .inr (3, [.int f0, .int (f1 + (1 : Int32)), .int f2, .int f3, .ref a0, .int z, .int f6, .int f7])), (a0, .inl (cI, 6, .inl iv))] := hD
  refine lv_aload_n hx hb dX3_addIllegalCode_10 rfl (lv_at hl 0 rfl) ?_
  refine my_callV_v (As := []) (rest := []) (wc := [(h0, .inr (3, [.int f0, .int (f1 + (1 : Int32)), .int f2, .int f3, .ref a0, .int z, .int f6, .int f7])), (a0, .inl (cI, 6, .inl iv))]) (wr := []) ⟨hx, hb, hml, hown, hts⟩ (met_X3_forgetEdge l D cI cJ cS h0 a0 f0 (f1 + (1 : Int32)) f2 f3 z f6 f7 iv _) (cwV 0 hts gX3_addIllegalCode_X3_forgetEdge rfl rfl rfl (by decide +kernel) ⟨Nat.le_of_ble_eq_true rfl, Nat.le_of_ble_eq_true rfl⟩) hK hP hD hS hA hG [0, 1] [] rfl rfl rfl rfl (by decide) 0 rfl rfl rfl hl.1 (Nat.le_of_ble_eq_true rfl) rfl dX3_addIllegalCode_11 ⟨Nat.le_of_ble_eq_true rfl, Nat.le_of_ble_eq_true rfl⟩ (fun u_1 H locs hw_1 hP hD hS => ?_)
  obtain ⟨x_1_0, x_1_1⟩ := u_1
  have hP : va_P D vwCl [(h0, .inr (3, [.int f0, .int (f1 + (1 : Int32)), .int f2, .int f3, .ref a0, .int x_1_0, .int f6, .int x_1_1])), (a0, .inl (cI, 6, .inl iv))] H := hP
  have hD : va_D A [(h0, .inr (3, [.int f0, .int (f1 + (1 : Int32)), .int f2, .int f3, .ref a0, .int x_1_0, .int f6, .int x_1_1])), (a0, .inl (cI, 6, .inl iv))] := hD
  exact my_vret hx hb hr hlocks hK hP hD hS (f1 + (1 : Int32), x_1_0, x_1_1) (by show (f1 + (1 : Int32), x_1_0, x_1_1) = F_X3_addIllegalCode f0 f1 f2 f3 z f6 f7 iv; simp only [F_X3_addIllegalCode, ← hw_1]) [0, 1] rfl rfl dX3_addIllegalCode_14
def F_X3_addSkip (f0 : Int32) (f1 : Int32) (f2 : Int32) (f3 : Int32) (z : Int32) (f6 : Int32) (f7 : Int32) (iv : Nat → Int32) : Int32 × Int32 × Int32 :=
  let q1 := F_X3_forgetEdge f0 f1 (f2 + (1 : Int32)) f3 z f6 f7 iv
  (f2 + (1 : Int32), q1.1, q1.2)
set_option maxHeartbeats 4000000 in
set_option maxRecDepth 100000 in
theorem met_X3_addSkip (l : Launch) (D : va_G) (cI cJ cS : ClassId) (h0 : Nat) (a0 : Nat) (f0 : Int32) (f1 : Int32) (f2 : Int32) (f3 : Int32) (z : Int32) (f6 : Int32) (f7 : Int32) (iv : Nat → Int32)  : ∀ sz : Nat, Met l yX3_addSkip wsX3_addSkip ({ frames := 1, cells := 0, slots := 0, locals := 20 } : Room) (va_Pc [.ref h0] (cPre D (tyz cI cJ cS) ([(h0, .inr (3, [.int f0, .int f1, .int f2, .int f3, .ref a0, .int z, .int f6, .int f7])), (a0, .inl (cI, 6, .inl iv))]) sz)) (va_Qv (fun (u : Int32 × Int32 × Int32) => u = F_X3_addSkip f0 f1 f2 f3 z f6 f7 iv) (fun u => cPost D (tyz cI cJ cS) (va_A ([(h0, .inr (3, [.int f0, .int f1, .int f2, .int f3, .ref a0, .int z, .int f6, .int f7])), (a0, .inl (cI, 6, .inl iv))]) sz) ([(h0, .inr (3, [.int f0, .int f1, .int u.1, .int f3, .ref a0, .int u.2.1, .int f6, .int u.2.2])), (a0, .inl (cI, 6, .inl iv))])) (va_A ([(h0, .inr (3, [.int f0, .int f1, .int f2, .int f3, .ref a0, .int z, .int f6, .int f7])), (a0, .inl (cI, 6, .inl iv))]) sz)) 0 0 (va_A ([(h0, .inr (3, [.int f0, .int f1, .int f2, .int f3, .ref a0, .int z, .int f6, .int f7])), (a0, .inl (cI, 6, .inl iv))]) sz) := by
  refine my_met (QC := fun A => (va_Qv (fun (u : Int32 × Int32 × Int32) => u = F_X3_addSkip f0 f1 f2 f3 z f6 f7 iv) (fun u => cPost D (tyz cI cJ cS) A ([(h0, .inr (3, [.int f0, .int f1, .int u.1, .int f3, .ref a0, .int u.2.1, .int f6, .int u.2.2])), (a0, .inl (cI, 6, .inl iv))])) A)) (cc := cX3_addSkip) (maxL := 1) (ret := none) (by decide) rfl (Nat.le_of_ble_eq_true rfl) ?_
  intro p e s m below meth c ls A hx hb hml hr hts hown hlocks hname hK hP hD hS hA hG hl
  have hown : s.vm.findClass RX3 = some m.cls := hown
  have hl : lv_has ls 1 [(0, .ref h0)] := hl
  have hP : va_P D vwCl [(h0, .inr (3, [.int f0, .int f1, .int f2, .int f3, .ref a0, .int z, .int f6, .int f7])), (a0, .inl (cI, 6, .inl iv))] s.heap := hP
  have hD : va_D A [(h0, .inr (3, [.int f0, .int f1, .int f2, .int f3, .ref a0, .int z, .int f6, .int f7])), (a0, .inl (cI, 6, .inl iv))] := hD
  have hiX3 : ∀ w ∈ u_ws RX3 TX3 8, w ∈ wsX3_addSkip := by decide +kernel
  have hk_18 := hts (.fieldLink RX3 18 "HallCommutator$Motion" "skips" "I") (by decide +kernel)
  refine lv_aload_n hx hb dX3_addSkip_0 rfl (lv_at hl 0 rfl) ?_
  refine lv_dup hx hb dX3_addSkip_1 rfl ?_
  refine va_get (D := D) (ci := 3) (v := .int f2) (C := RX3) (T := TX3) (N := 8) hx hb hts hiX3 hown hK hP 0 rfl rfl 2 (by decide) hk_18 (fun _ h9 => h9) rfl dX3_addSkip_2 ?_
  refine lv_iconst (v := 1) hx hb dX3_addSkip_5 (by decide) ?_
  refine lv_iadd hx hb dX3_addSkip_6 ?_
  refine va_put (D := D) (ci := 3) (v := .int (f2 + (1 : Int32))) (ty := .int) (C := RX3) (T := TX3) (N := 8) hx hb hts hiX3 tyX3 tyX3_ok nmX3 hown hK hP hD hS 0 rfl rfl 2 (by decide) hk_18 (fun _ h9 => h9) rfl (by decide +kernel) rfl rfl (Nat.le_of_ble_eq_true rfl) dX3_addSkip_7 (fun H locs hP hD hS => ?_)
  have hP : va_P D vwCl [(h0, .inr (3, [.int f0, .int f1, .int (f2 + (1 : Int32)), .int f3, .ref a0, .int z, .int f6, .int f7])), (a0, .inl (cI, 6, .inl iv))] H := hP
  have hD : va_D A [(h0, .inr (3, [.int f0, .int f1, .int (f2 + (1 : Int32)), .int f3, .ref a0, .int z, .int f6, .int f7])), (a0, .inl (cI, 6, .inl iv))] := hD
  refine lv_aload_n hx hb dX3_addSkip_10 rfl (lv_at hl 0 rfl) ?_
  refine my_callV_v (As := []) (rest := []) (wc := [(h0, .inr (3, [.int f0, .int f1, .int (f2 + (1 : Int32)), .int f3, .ref a0, .int z, .int f6, .int f7])), (a0, .inl (cI, 6, .inl iv))]) (wr := []) ⟨hx, hb, hml, hown, hts⟩ (met_X3_forgetEdge l D cI cJ cS h0 a0 f0 f1 (f2 + (1 : Int32)) f3 z f6 f7 iv _) (cwV 0 hts gX3_addSkip_X3_forgetEdge rfl rfl rfl (by decide +kernel) ⟨Nat.le_of_ble_eq_true rfl, Nat.le_of_ble_eq_true rfl⟩) hK hP hD hS hA hG [0, 1] [] rfl rfl rfl rfl (by decide) 0 rfl rfl rfl hl.1 (Nat.le_of_ble_eq_true rfl) rfl dX3_addSkip_11 ⟨Nat.le_of_ble_eq_true rfl, Nat.le_of_ble_eq_true rfl⟩ (fun u_1 H locs hw_1 hP hD hS => ?_)
  obtain ⟨x_1_0, x_1_1⟩ := u_1
  have hP : va_P D vwCl [(h0, .inr (3, [.int f0, .int f1, .int (f2 + (1 : Int32)), .int f3, .ref a0, .int x_1_0, .int f6, .int x_1_1])), (a0, .inl (cI, 6, .inl iv))] H := hP
  have hD : va_D A [(h0, .inr (3, [.int f0, .int f1, .int (f2 + (1 : Int32)), .int f3, .ref a0, .int x_1_0, .int f6, .int x_1_1])), (a0, .inl (cI, 6, .inl iv))] := hD
  exact my_vret hx hb hr hlocks hK hP hD hS (f2 + (1 : Int32), x_1_0, x_1_1) (by show (f2 + (1 : Int32), x_1_0, x_1_1) = F_X3_addSkip f0 f1 f2 f3 z f6 f7 iv; simp only [F_X3_addSkip, ← hw_1]) [0, 1] rfl rfl dX3_addSkip_14
def F_X3_appendInterval (f0 : Int32) (f1 : Int32) (f2 : Int32) (f3 : Int32) (z : Int32) (f6 : Int32) (f7 : Int32) (iv : Nat → Int32) (t : Int32) : Int32 × (Nat → Int32) :=
  if z < (6 : Int32) then
    (z + (1 : Int32), upd iv (tn z) t)
  else
    ((6 : Int32), upd (upd (upd (upd (upd (upd iv 0 (iv 1)) 1 (iv 2)) 2 (iv 3)) 3 (iv 4)) 4 (iv 5)) 5 t)
set_option maxHeartbeats 4000000 in
set_option maxRecDepth 100000 in
theorem met_X3_appendInterval (l : Launch) (D : va_G) (cI cJ cS : ClassId) (h0 : Nat) (a0 : Nat) (f0 : Int32) (f1 : Int32) (f2 : Int32) (f3 : Int32) (z : Int32) (f6 : Int32) (f7 : Int32) (iv : Nat → Int32) (t : Int32) (hz : vp_in z 7) : ∀ sz : Nat, Met l yX3_appendInterval wsX3_appendInterval ({ frames := 0, cells := 0, slots := 0, locals := 0 } : Room) (va_Pc [.ref h0, .int t] (cPre D (tyz cI cJ cS) ([(h0, .inr (3, [.int f0, .int f1, .int f2, .int f3, .ref a0, .int z, .int f6, .int f7])), (a0, .inl (cI, 6, .inl iv))]) sz)) (va_Qv (fun (u : Int32 × (Nat → Int32)) => u = F_X3_appendInterval f0 f1 f2 f3 z f6 f7 iv t) (fun u => cPost D (tyz cI cJ cS) (va_A ([(h0, .inr (3, [.int f0, .int f1, .int f2, .int f3, .ref a0, .int z, .int f6, .int f7])), (a0, .inl (cI, 6, .inl iv))]) sz) ([(h0, .inr (3, [.int f0, .int f1, .int f2, .int f3, .ref a0, .int u.1, .int f6, .int f7])), (a0, .inl (cI, 6, .inl u.2))])) (va_A ([(h0, .inr (3, [.int f0, .int f1, .int f2, .int f3, .ref a0, .int z, .int f6, .int f7])), (a0, .inl (cI, 6, .inl iv))]) sz)) 0 0 (va_A ([(h0, .inr (3, [.int f0, .int f1, .int f2, .int f3, .ref a0, .int z, .int f6, .int f7])), (a0, .inl (cI, 6, .inl iv))]) sz) := by
  refine my_met (QC := fun A => (va_Qv (fun (u : Int32 × (Nat → Int32)) => u = F_X3_appendInterval f0 f1 f2 f3 z f6 f7 iv t) (fun u => cPost D (tyz cI cJ cS) A ([(h0, .inr (3, [.int f0, .int f1, .int f2, .int f3, .ref a0, .int u.1, .int f6, .int f7])), (a0, .inl (cI, 6, .inl u.2))])) A)) (cc := cX3_appendInterval) (maxL := 3) (ret := none) (by decide) rfl (Nat.le_of_ble_eq_true rfl) ?_
  intro p e s m below meth c ls A hx hb hml hr hts hown hlocks hname hK hP hD hS hA hG hl
  have hown : s.vm.findClass RX3 = some m.cls := hown
  have hl : lv_has ls 3 [(0, .ref h0), (1, .int t)] := hl
  have hP : va_P D vwCl [(h0, .inr (3, [.int f0, .int f1, .int f2, .int f3, .ref a0, .int z, .int f6, .int f7])), (a0, .inl (cI, 6, .inl iv))] s.heap := hP
  have hD : va_D A [(h0, .inr (3, [.int f0, .int f1, .int f2, .int f3, .ref a0, .int z, .int f6, .int f7])), (a0, .inl (cI, 6, .inl iv))] := hD
  have hiX3 : ∀ w ∈ u_ws RX3 TX3 8, w ∈ wsX3_appendInterval := by decide +kernel
  have hk_24 := hts (.fieldLink RX3 24 "HallCommutator$Motion" "intervals" "[I") (by decide +kernel)
  have hk_28 := hts (.fieldLink RX3 28 "HallCommutator$Motion" "intervalCount" "I") (by decide +kernel)
  refine lv_aload_n hx hb dX3_appendInterval_0 rfl (lv_at hl 0 rfl) ?_
  refine va_get (D := D) (ci := 3) (v := .int z) (C := RX3) (T := TX3) (N := 8) hx hb hts hiX3 hown hK hP 0 rfl rfl 5 (by decide) hk_28 (fun _ h9 => h9) rfl dX3_appendInterval_1 ?_
  refine lv_bipush (v := 6) hx hb dX3_appendInterval_4 (by decide) ?_
  refine lv_icmp_lt (tgt := 42) hx hb dX3_appendInterval_6 (by decide) (fun c_1 => ?_) (fun c_1 => ?_)
  · skip
    refine lv_aload_n hx hb dX3_appendInterval_42 rfl (lv_at hl 0 rfl) ?_
    refine va_get (D := D) (ci := 3) (v := .ref a0) (C := RX3) (T := TX3) (N := 8) hx hb hts hiX3 hown hK hP 0 rfl rfl 4 (by decide) hk_24 (fun _ h9 => h9) rfl dX3_appendInterval_43 ?_
    refine lv_aload_n hx hb dX3_appendInterval_46 rfl (lv_at hl 0 rfl) ?_
    refine va_get (D := D) (ci := 3) (v := .int z) (C := RX3) (T := TX3) (N := 8) hx hb hts hiX3 hown hK hP 0 rfl rfl 5 (by decide) hk_28 (fun _ h9 => h9) rfl dX3_appendInterval_47 ?_
    refine lv_iload_n hx hb dX3_appendInterval_50 rfl (lv_at hl 1 rfl) ?_
    refine my_iast hx hb hK hP hD hS 1 0 rfl rfl (tn z) (tn_eq hz) (tn_lt_lt 6 hz (by decide) c_1) (by decide) dX3_appendInterval_51 (fun H locs hP hD hS => ?_)
    have hP : va_P D vwCl [(h0, .inr (3, [.int f0, .int f1, .int f2, .int f3, .ref a0, .int z, .int f6, .int f7])), (a0, .inl (cI, 6, .inl (upd iv (tn z) t)))] H := hP
    have hD : va_D A [(h0, .inr (3, [.int f0, .int f1, .int f2, .int f3, .ref a0, .int z, .int f6, .int f7])), (a0, .inl (cI, 6, .inl (upd iv (tn z) t)))] := hD
    refine lv_aload_n hx hb dX3_appendInterval_52 rfl (lv_at hl 0 rfl) ?_
    refine lv_dup hx hb dX3_appendInterval_53 rfl ?_
    refine va_get (D := D) (ci := 3) (v := .int z) (C := RX3) (T := TX3) (N := 8) hx hb hts hiX3 hown hK hP 0 rfl rfl 5 (by decide) hk_28 (fun _ h9 => h9) rfl dX3_appendInterval_54 ?_
    refine lv_iconst (v := 1) hx hb dX3_appendInterval_57 (by decide) ?_
    refine lv_iadd hx hb dX3_appendInterval_58 ?_
    refine va_put (D := D) (ci := 3) (v := .int (z + (1 : Int32))) (ty := .int) (C := RX3) (T := TX3) (N := 8) hx hb hts hiX3 tyX3 tyX3_ok nmX3 hown hK hP hD hS 0 rfl rfl 5 (by decide) hk_28 (fun _ h9 => h9) rfl (by decide +kernel) rfl rfl (Nat.le_of_ble_eq_true rfl) dX3_appendInterval_59 (fun H locs hP hD hS => ?_)
    have hP : va_P D vwCl [(h0, .inr (3, [.int f0, .int f1, .int f2, .int f3, .ref a0, .int (z + (1 : Int32)), .int f6, .int f7])), (a0, .inl (cI, 6, .inl (upd iv (tn z) t)))] H := hP
    have hD : va_D A [(h0, .inr (3, [.int f0, .int f1, .int f2, .int f3, .ref a0, .int (z + (1 : Int32)), .int f6, .int f7])), (a0, .inl (cI, 6, .inl (upd iv (tn z) t)))] := hD
    exact my_vret hx hb hr hlocks hK hP hD hS (z + (1 : Int32), upd iv (tn z) t) (by show (z + (1 : Int32), upd iv (tn z) t) = F_X3_appendInterval f0 f1 f2 f3 z f6 f7 iv t; simp only [F_X3_appendInterval, if_pos c_1]) [0, 1] rfl rfl dX3_appendInterval_62
  · skip
    refine lv_iconst (v := 1) hx hb dX3_appendInterval_9 (by decide) ?_
    refine lv_istore_n (lv' := [(2, .int (1 : Int32)), (0, .ref h0), (1, .int t)]) hx hb dX3_appendInterval_10 rfl hl (by decide) rfl (fun ls hl => ?_)
    refine lv_iload_n hx hb dX3_appendInterval_11 rfl (lv_at hl 0 rfl) ?_
    refine lv_bipush (v := 6) hx hb dX3_appendInterval_12 (by decide) ?_
    refine lv_icmp_ge (tgt := 37) hx hb dX3_appendInterval_14 (by decide) (fun c9 => absurd c9 (by decide)) (fun _ => ?_)
    refine lv_aload_n hx hb dX3_appendInterval_17 rfl (lv_at hl 1 rfl) ?_
    refine va_get (D := D) (ci := 3) (v := .ref a0) (C := RX3) (T := TX3) (N := 8) hx hb hts hiX3 hown hK hP 0 rfl rfl 4 (by decide) hk_24 (fun _ h9 => h9) rfl dX3_appendInterval_18 ?_
    refine lv_iload_n hx hb dX3_appendInterval_21 rfl (lv_at hl 0 rfl) ?_
    refine lv_iconst (v := 1) hx hb dX3_appendInterval_22 (by decide) ?_
    refine lv_isub hx hb dX3_appendInterval_23 ?_
    refine W.eq (g2 := F0 m 24 ls [.int (0 : Int32), .ref a0]) rfl ?_
    refine lv_aload_n hx hb dX3_appendInterval_24 rfl (lv_at hl 1 rfl) ?_
    refine va_get (D := D) (ci := 3) (v := .ref a0) (C := RX3) (T := TX3) (N := 8) hx hb hts hiX3 hown hK hP 0 rfl rfl 4 (by decide) hk_24 (fun _ h9 => h9) rfl dX3_appendInterval_25 ?_
    refine lv_iload_n hx hb dX3_appendInterval_28 rfl (lv_at hl 0 rfl) ?_
    refine my_iald hx hb hK hP 1 0 rfl rfl 1 (rfl) (by decide) (by decide) dX3_appendInterval_29 ?_
    refine my_iast hx hb hK hP hD hS 1 0 rfl rfl 0 (rfl) (by decide) (by decide) dX3_appendInterval_30 (fun H locs hP hD hS => ?_)
    have hP : va_P D vwCl [(h0, .inr (3, [.int f0, .int f1, .int f2, .int f3, .ref a0, .int z, .int f6, .int f7])), (a0, .inl (cI, 6, .inl (upd iv 0 (iv 1))))] H := hP
    have hD : va_D A [(h0, .inr (3, [.int f0, .int f1, .int f2, .int f3, .ref a0, .int z, .int f6, .int f7])), (a0, .inl (cI, 6, .inl (upd iv 0 (iv 1))))] := hD
    refine lv_iinc (v := (2 : Int32)) (lv' := [(2, .int (2 : Int32)), (0, .ref h0), (1, .int t)]) hx hb dX3_appendInterval_31 hl (k := 0) rfl (by decide) (by decide) rfl (fun ls hl => ?_)
    refine lv_goto (tgt := 11) hx hb dX3_appendInterval_34 (by decide) ?_
    refine lv_iload_n hx hb dX3_appendInterval_11 rfl (lv_at hl 0 rfl) ?_
    refine lv_bipush (v := 6) hx hb dX3_appendInterval_12 (by decide) ?_
    refine lv_icmp_ge (tgt := 37) hx hb dX3_appendInterval_14 (by decide) (fun c9 => absurd c9 (by decide)) (fun _ => ?_)
    refine lv_aload_n hx hb dX3_appendInterval_17 rfl (lv_at hl 1 rfl) ?_
    refine va_get (D := D) (ci := 3) (v := .ref a0) (C := RX3) (T := TX3) (N := 8) hx hb hts hiX3 hown hK hP 0 rfl rfl 4 (by decide) hk_24 (fun _ h9 => h9) rfl dX3_appendInterval_18 ?_
    refine lv_iload_n hx hb dX3_appendInterval_21 rfl (lv_at hl 0 rfl) ?_
    refine lv_iconst (v := 1) hx hb dX3_appendInterval_22 (by decide) ?_
    refine lv_isub hx hb dX3_appendInterval_23 ?_
    refine W.eq (g2 := F0 m 24 ls [.int (1 : Int32), .ref a0]) rfl ?_
    refine lv_aload_n hx hb dX3_appendInterval_24 rfl (lv_at hl 1 rfl) ?_
    refine va_get (D := D) (ci := 3) (v := .ref a0) (C := RX3) (T := TX3) (N := 8) hx hb hts hiX3 hown hK hP 0 rfl rfl 4 (by decide) hk_24 (fun _ h9 => h9) rfl dX3_appendInterval_25 ?_
    refine lv_iload_n hx hb dX3_appendInterval_28 rfl (lv_at hl 0 rfl) ?_
    refine my_iald hx hb hK hP 1 0 rfl rfl 2 (rfl) (by decide) (by decide) dX3_appendInterval_29 ?_
    refine W.eq (g2 := F0 m 30 ls [.int (iv 2), .int (1 : Int32), .ref a0]) rfl ?_
    refine my_iast hx hb hK hP hD hS 1 0 rfl rfl 1 (rfl) (by decide) (by decide) dX3_appendInterval_30 (fun H locs hP hD hS => ?_)
    have hP : va_P D vwCl [(h0, .inr (3, [.int f0, .int f1, .int f2, .int f3, .ref a0, .int z, .int f6, .int f7])), (a0, .inl (cI, 6, .inl (upd (upd iv 0 (iv 1)) 1 (iv 2))))] H := hP
    have hD : va_D A [(h0, .inr (3, [.int f0, .int f1, .int f2, .int f3, .ref a0, .int z, .int f6, .int f7])), (a0, .inl (cI, 6, .inl (upd (upd iv 0 (iv 1)) 1 (iv 2))))] := hD
    refine lv_iinc (v := (3 : Int32)) (lv' := [(2, .int (3 : Int32)), (0, .ref h0), (1, .int t)]) hx hb dX3_appendInterval_31 hl (k := 0) rfl (by decide) (by decide) rfl (fun ls hl => ?_)
    refine lv_goto (tgt := 11) hx hb dX3_appendInterval_34 (by decide) ?_
    refine lv_iload_n hx hb dX3_appendInterval_11 rfl (lv_at hl 0 rfl) ?_
    refine lv_bipush (v := 6) hx hb dX3_appendInterval_12 (by decide) ?_
    refine lv_icmp_ge (tgt := 37) hx hb dX3_appendInterval_14 (by decide) (fun c9 => absurd c9 (by decide)) (fun _ => ?_)
    refine lv_aload_n hx hb dX3_appendInterval_17 rfl (lv_at hl 1 rfl) ?_
    refine va_get (D := D) (ci := 3) (v := .ref a0) (C := RX3) (T := TX3) (N := 8) hx hb hts hiX3 hown hK hP 0 rfl rfl 4 (by decide) hk_24 (fun _ h9 => h9) rfl dX3_appendInterval_18 ?_
    refine lv_iload_n hx hb dX3_appendInterval_21 rfl (lv_at hl 0 rfl) ?_
    refine lv_iconst (v := 1) hx hb dX3_appendInterval_22 (by decide) ?_
    refine lv_isub hx hb dX3_appendInterval_23 ?_
    refine W.eq (g2 := F0 m 24 ls [.int (2 : Int32), .ref a0]) rfl ?_
    refine lv_aload_n hx hb dX3_appendInterval_24 rfl (lv_at hl 1 rfl) ?_
    refine va_get (D := D) (ci := 3) (v := .ref a0) (C := RX3) (T := TX3) (N := 8) hx hb hts hiX3 hown hK hP 0 rfl rfl 4 (by decide) hk_24 (fun _ h9 => h9) rfl dX3_appendInterval_25 ?_
    refine lv_iload_n hx hb dX3_appendInterval_28 rfl (lv_at hl 0 rfl) ?_
    refine my_iald hx hb hK hP 1 0 rfl rfl 3 (rfl) (by decide) (by decide) dX3_appendInterval_29 ?_
    refine W.eq (g2 := F0 m 30 ls [.int (iv 3), .int (2 : Int32), .ref a0]) rfl ?_
    refine my_iast hx hb hK hP hD hS 1 0 rfl rfl 2 (rfl) (by decide) (by decide) dX3_appendInterval_30 (fun H locs hP hD hS => ?_)
    have hP : va_P D vwCl [(h0, .inr (3, [.int f0, .int f1, .int f2, .int f3, .ref a0, .int z, .int f6, .int f7])), (a0, .inl (cI, 6, .inl (upd (upd (upd iv 0 (iv 1)) 1 (iv 2)) 2 (iv 3))))] H := hP
    have hD : va_D A [(h0, .inr (3, [.int f0, .int f1, .int f2, .int f3, .ref a0, .int z, .int f6, .int f7])), (a0, .inl (cI, 6, .inl (upd (upd (upd iv 0 (iv 1)) 1 (iv 2)) 2 (iv 3))))] := hD
    refine lv_iinc (v := (4 : Int32)) (lv' := [(2, .int (4 : Int32)), (0, .ref h0), (1, .int t)]) hx hb dX3_appendInterval_31 hl (k := 0) rfl (by decide) (by decide) rfl (fun ls hl => ?_)
    refine lv_goto (tgt := 11) hx hb dX3_appendInterval_34 (by decide) ?_
    refine lv_iload_n hx hb dX3_appendInterval_11 rfl (lv_at hl 0 rfl) ?_
    refine lv_bipush (v := 6) hx hb dX3_appendInterval_12 (by decide) ?_
    refine lv_icmp_ge (tgt := 37) hx hb dX3_appendInterval_14 (by decide) (fun c9 => absurd c9 (by decide)) (fun _ => ?_)
    refine lv_aload_n hx hb dX3_appendInterval_17 rfl (lv_at hl 1 rfl) ?_
    refine va_get (D := D) (ci := 3) (v := .ref a0) (C := RX3) (T := TX3) (N := 8) hx hb hts hiX3 hown hK hP 0 rfl rfl 4 (by decide) hk_24 (fun _ h9 => h9) rfl dX3_appendInterval_18 ?_
    refine lv_iload_n hx hb dX3_appendInterval_21 rfl (lv_at hl 0 rfl) ?_
    refine lv_iconst (v := 1) hx hb dX3_appendInterval_22 (by decide) ?_
    refine lv_isub hx hb dX3_appendInterval_23 ?_
    refine W.eq (g2 := F0 m 24 ls [.int (3 : Int32), .ref a0]) rfl ?_
    refine lv_aload_n hx hb dX3_appendInterval_24 rfl (lv_at hl 1 rfl) ?_
    refine va_get (D := D) (ci := 3) (v := .ref a0) (C := RX3) (T := TX3) (N := 8) hx hb hts hiX3 hown hK hP 0 rfl rfl 4 (by decide) hk_24 (fun _ h9 => h9) rfl dX3_appendInterval_25 ?_
    refine lv_iload_n hx hb dX3_appendInterval_28 rfl (lv_at hl 0 rfl) ?_
    refine my_iald hx hb hK hP 1 0 rfl rfl 4 (rfl) (by decide) (by decide) dX3_appendInterval_29 ?_
    refine W.eq (g2 := F0 m 30 ls [.int (iv 4), .int (3 : Int32), .ref a0]) rfl ?_
    refine my_iast hx hb hK hP hD hS 1 0 rfl rfl 3 (rfl) (by decide) (by decide) dX3_appendInterval_30 (fun H locs hP hD hS => ?_)
    have hP : va_P D vwCl [(h0, .inr (3, [.int f0, .int f1, .int f2, .int f3, .ref a0, .int z, .int f6, .int f7])), (a0, .inl (cI, 6, .inl (upd (upd (upd (upd iv 0 (iv 1)) 1 (iv 2)) 2 (iv 3)) 3 (iv 4))))] H := hP
    have hD : va_D A [(h0, .inr (3, [.int f0, .int f1, .int f2, .int f3, .ref a0, .int z, .int f6, .int f7])), (a0, .inl (cI, 6, .inl (upd (upd (upd (upd iv 0 (iv 1)) 1 (iv 2)) 2 (iv 3)) 3 (iv 4))))] := hD
    refine lv_iinc (v := (5 : Int32)) (lv' := [(2, .int (5 : Int32)), (0, .ref h0), (1, .int t)]) hx hb dX3_appendInterval_31 hl (k := 0) rfl (by decide) (by decide) rfl (fun ls hl => ?_)
    refine lv_goto (tgt := 11) hx hb dX3_appendInterval_34 (by decide) ?_
    refine lv_iload_n hx hb dX3_appendInterval_11 rfl (lv_at hl 0 rfl) ?_
    refine lv_bipush (v := 6) hx hb dX3_appendInterval_12 (by decide) ?_
    refine lv_icmp_ge (tgt := 37) hx hb dX3_appendInterval_14 (by decide) (fun c9 => absurd c9 (by decide)) (fun _ => ?_)
    refine lv_aload_n hx hb dX3_appendInterval_17 rfl (lv_at hl 1 rfl) ?_
    refine va_get (D := D) (ci := 3) (v := .ref a0) (C := RX3) (T := TX3) (N := 8) hx hb hts hiX3 hown hK hP 0 rfl rfl 4 (by decide) hk_24 (fun _ h9 => h9) rfl dX3_appendInterval_18 ?_
    refine lv_iload_n hx hb dX3_appendInterval_21 rfl (lv_at hl 0 rfl) ?_
    refine lv_iconst (v := 1) hx hb dX3_appendInterval_22 (by decide) ?_
    refine lv_isub hx hb dX3_appendInterval_23 ?_
    refine W.eq (g2 := F0 m 24 ls [.int (4 : Int32), .ref a0]) rfl ?_
    refine lv_aload_n hx hb dX3_appendInterval_24 rfl (lv_at hl 1 rfl) ?_
    refine va_get (D := D) (ci := 3) (v := .ref a0) (C := RX3) (T := TX3) (N := 8) hx hb hts hiX3 hown hK hP 0 rfl rfl 4 (by decide) hk_24 (fun _ h9 => h9) rfl dX3_appendInterval_25 ?_
    refine lv_iload_n hx hb dX3_appendInterval_28 rfl (lv_at hl 0 rfl) ?_
    refine my_iald hx hb hK hP 1 0 rfl rfl 5 (rfl) (by decide) (by decide) dX3_appendInterval_29 ?_
    refine W.eq (g2 := F0 m 30 ls [.int (iv 5), .int (4 : Int32), .ref a0]) rfl ?_
    refine my_iast hx hb hK hP hD hS 1 0 rfl rfl 4 (rfl) (by decide) (by decide) dX3_appendInterval_30 (fun H locs hP hD hS => ?_)
    have hP : va_P D vwCl [(h0, .inr (3, [.int f0, .int f1, .int f2, .int f3, .ref a0, .int z, .int f6, .int f7])), (a0, .inl (cI, 6, .inl (upd (upd (upd (upd (upd iv 0 (iv 1)) 1 (iv 2)) 2 (iv 3)) 3 (iv 4)) 4 (iv 5))))] H := hP
    have hD : va_D A [(h0, .inr (3, [.int f0, .int f1, .int f2, .int f3, .ref a0, .int z, .int f6, .int f7])), (a0, .inl (cI, 6, .inl (upd (upd (upd (upd (upd iv 0 (iv 1)) 1 (iv 2)) 2 (iv 3)) 3 (iv 4)) 4 (iv 5))))] := hD
    refine lv_iinc (v := (6 : Int32)) (lv' := [(2, .int (6 : Int32)), (0, .ref h0), (1, .int t)]) hx hb dX3_appendInterval_31 hl (k := 0) rfl (by decide) (by decide) rfl (fun ls hl => ?_)
    refine lv_goto (tgt := 11) hx hb dX3_appendInterval_34 (by decide) ?_
    refine lv_iload_n hx hb dX3_appendInterval_11 rfl (lv_at hl 0 rfl) ?_
    refine lv_bipush (v := 6) hx hb dX3_appendInterval_12 (by decide) ?_
    refine lv_icmp_ge (tgt := 37) hx hb dX3_appendInterval_14 (by decide) (fun _ => ?_) (fun c9 => absurd (by decide) c9)
    refine lv_aload_n hx hb dX3_appendInterval_37 rfl (lv_at hl 1 rfl) ?_
    refine lv_iconst (v := 5) hx hb dX3_appendInterval_38 (by decide) ?_
    refine va_put (D := D) (ci := 3) (v := .int (5 : Int32)) (ty := .int) (C := RX3) (T := TX3) (N := 8) hx hb hts hiX3 tyX3 tyX3_ok nmX3 hown hK hP hD hS 0 rfl rfl 5 (by decide) hk_28 (fun _ h9 => h9) rfl (by decide +kernel) rfl rfl (Nat.le_of_ble_eq_true rfl) dX3_appendInterval_39 (fun H locs hP hD hS => ?_)
    have hP : va_P D vwCl [(h0, .inr (3, [.int f0, .int f1, .int f2, .int f3, .ref a0, .int (5 : Int32), .int f6, .int f7])), (a0, .inl (cI, 6, .inl (upd (upd (upd (upd (upd iv 0 (iv 1)) 1 (iv 2)) 2 (iv 3)) 3 (iv 4)) 4 (iv 5))))] H := hP
    have hD : va_D A [(h0, .inr (3, [.int f0, .int f1, .int f2, .int f3, .ref a0, .int (5 : Int32), .int f6, .int f7])), (a0, .inl (cI, 6, .inl (upd (upd (upd (upd (upd iv 0 (iv 1)) 1 (iv 2)) 2 (iv 3)) 3 (iv 4)) 4 (iv 5))))] := hD
    refine lv_aload_n hx hb dX3_appendInterval_42 rfl (lv_at hl 1 rfl) ?_
    refine va_get (D := D) (ci := 3) (v := .ref a0) (C := RX3) (T := TX3) (N := 8) hx hb hts hiX3 hown hK hP 0 rfl rfl 4 (by decide) hk_24 (fun _ h9 => h9) rfl dX3_appendInterval_43 ?_
    refine lv_aload_n hx hb dX3_appendInterval_46 rfl (lv_at hl 1 rfl) ?_
    refine va_get (D := D) (ci := 3) (v := .int (5 : Int32)) (C := RX3) (T := TX3) (N := 8) hx hb hts hiX3 hown hK hP 0 rfl rfl 5 (by decide) hk_28 (fun _ h9 => h9) rfl dX3_appendInterval_47 ?_
    refine lv_iload_n hx hb dX3_appendInterval_50 rfl (lv_at hl 2 rfl) ?_
    refine my_iast hx hb hK hP hD hS 1 0 rfl rfl 5 (rfl) (by decide) (by decide) dX3_appendInterval_51 (fun H locs hP hD hS => ?_)
    have hP : va_P D vwCl [(h0, .inr (3, [.int f0, .int f1, .int f2, .int f3, .ref a0, .int (5 : Int32), .int f6, .int f7])), (a0, .inl (cI, 6, .inl (upd (upd (upd (upd (upd (upd iv 0 (iv 1)) 1 (iv 2)) 2 (iv 3)) 3 (iv 4)) 4 (iv 5)) 5 t)))] H := hP
    have hD : va_D A [(h0, .inr (3, [.int f0, .int f1, .int f2, .int f3, .ref a0, .int (5 : Int32), .int f6, .int f7])), (a0, .inl (cI, 6, .inl (upd (upd (upd (upd (upd (upd iv 0 (iv 1)) 1 (iv 2)) 2 (iv 3)) 3 (iv 4)) 4 (iv 5)) 5 t)))] := hD
    refine lv_aload_n hx hb dX3_appendInterval_52 rfl (lv_at hl 1 rfl) ?_
    refine lv_dup hx hb dX3_appendInterval_53 rfl ?_
    refine va_get (D := D) (ci := 3) (v := .int (5 : Int32)) (C := RX3) (T := TX3) (N := 8) hx hb hts hiX3 hown hK hP 0 rfl rfl 5 (by decide) hk_28 (fun _ h9 => h9) rfl dX3_appendInterval_54 ?_
    refine lv_iconst (v := 1) hx hb dX3_appendInterval_57 (by decide) ?_
    refine lv_iadd hx hb dX3_appendInterval_58 ?_
    refine W.eq (g2 := F0 m 59 ls [.int (6 : Int32), .ref h0]) rfl ?_
    refine va_put (D := D) (ci := 3) (v := .int (6 : Int32)) (ty := .int) (C := RX3) (T := TX3) (N := 8) hx hb hts hiX3 tyX3 tyX3_ok nmX3 hown hK hP hD hS 0 rfl rfl 5 (by decide) hk_28 (fun _ h9 => h9) rfl (by decide +kernel) rfl rfl (Nat.le_of_ble_eq_true rfl) dX3_appendInterval_59 (fun H locs hP hD hS => ?_)
    have hP : va_P D vwCl [(h0, .inr (3, [.int f0, .int f1, .int f2, .int f3, .ref a0, .int (6 : Int32), .int f6, .int f7])), (a0, .inl (cI, 6, .inl (upd (upd (upd (upd (upd (upd iv 0 (iv 1)) 1 (iv 2)) 2 (iv 3)) 3 (iv 4)) 4 (iv 5)) 5 t)))] H := hP
    have hD : va_D A [(h0, .inr (3, [.int f0, .int f1, .int f2, .int f3, .ref a0, .int (6 : Int32), .int f6, .int f7])), (a0, .inl (cI, 6, .inl (upd (upd (upd (upd (upd (upd iv 0 (iv 1)) 1 (iv 2)) 2 (iv 3)) 3 (iv 4)) 4 (iv 5)) 5 t)))] := hD
    exact my_vret hx hb hr hlocks hK hP hD hS ((6 : Int32), upd (upd (upd (upd (upd (upd iv 0 (iv 1)) 1 (iv 2)) 2 (iv 3)) 3 (iv 4)) 4 (iv 5)) 5 t) (by show ((6 : Int32), upd (upd (upd (upd (upd (upd iv 0 (iv 1)) 1 (iv 2)) 2 (iv 3)) 3 (iv 4)) 4 (iv 5)) 5 t) = F_X3_appendInterval f0 f1 f2 f3 z f6 f7 iv t; simp only [F_X3_appendInterval, if_neg c_1]) [0, 1] rfl rfl dX3_appendInterval_62
def F_X3_addEdge (f0 : Int32) (f1 : Int32) (f2 : Int32) (f3 : Int32) (z : Int32) (f6 : Int32) (f7 : Int32) (iv : Nat → Int32) (t : Int32) (b : Int32) : Int32 × Int32 × Int32 × Int32 × Int32 × (Nat → Int32) :=
  if t = f7 then
    let q2 := F_X3_appendInterval (f0 + t) f1 f2 (f3 + (1 : Int32)) z f6 f7 iv (b - f6)
    (f0 + t, f3 + (1 : Int32), q2.1, b, t, q2.2)
  else
    (f0 + t, f3 + (1 : Int32), (0 : Int32), b, t, iv)
set_option maxHeartbeats 4000000 in
set_option maxRecDepth 100000 in
theorem met_X3_addEdge (l : Launch) (D : va_G) (cI cJ cS : ClassId) (h0 : Nat) (a0 : Nat) (f0 : Int32) (f1 : Int32) (f2 : Int32) (f3 : Int32) (z : Int32) (f6 : Int32) (f7 : Int32) (iv : Nat → Int32) (t : Int32) (b : Int32) (hz : vp_in z 7) : ∀ sz : Nat, Met l yX3_addEdge wsX3_addEdge ({ frames := 1, cells := 0, slots := 0, locals := 22 } : Room) (va_Pc [.ref h0, .int t, .int b] (cPre D (tyz cI cJ cS) ([(h0, .inr (3, [.int f0, .int f1, .int f2, .int f3, .ref a0, .int z, .int f6, .int f7])), (a0, .inl (cI, 6, .inl iv))]) sz)) (va_Qv (fun (u : Int32 × Int32 × Int32 × Int32 × Int32 × (Nat → Int32)) => u = F_X3_addEdge f0 f1 f2 f3 z f6 f7 iv t b) (fun u => cPost D (tyz cI cJ cS) (va_A ([(h0, .inr (3, [.int f0, .int f1, .int f2, .int f3, .ref a0, .int z, .int f6, .int f7])), (a0, .inl (cI, 6, .inl iv))]) sz) ([(h0, .inr (3, [.int u.1, .int f1, .int f2, .int u.2.1, .ref a0, .int u.2.2.1, .int u.2.2.2.1, .int u.2.2.2.2.1])), (a0, .inl (cI, 6, .inl u.2.2.2.2.2))])) (va_A ([(h0, .inr (3, [.int f0, .int f1, .int f2, .int f3, .ref a0, .int z, .int f6, .int f7])), (a0, .inl (cI, 6, .inl iv))]) sz)) 0 0 (va_A ([(h0, .inr (3, [.int f0, .int f1, .int f2, .int f3, .ref a0, .int z, .int f6, .int f7])), (a0, .inl (cI, 6, .inl iv))]) sz) := by
  refine my_met (QC := fun A => (va_Qv (fun (u : Int32 × Int32 × Int32 × Int32 × Int32 × (Nat → Int32)) => u = F_X3_addEdge f0 f1 f2 f3 z f6 f7 iv t b) (fun u => cPost D (tyz cI cJ cS) A ([(h0, .inr (3, [.int u.1, .int f1, .int f2, .int u.2.1, .ref a0, .int u.2.2.1, .int u.2.2.2.1, .int u.2.2.2.2.1])), (a0, .inl (cI, 6, .inl u.2.2.2.2.2))])) A)) (cc := cX3_addEdge) (maxL := 3) (ret := none) (by decide) rfl (Nat.le_of_ble_eq_true rfl) ?_
  intro p e s m below meth c ls A hx hb hml hr hts hown hlocks hname hK hP hD hS hA hG hl
  have hown : s.vm.findClass RX3 = some m.cls := hown
  have hl : lv_has ls 3 [(0, .ref h0), (1, .int t), (2, .int b)] := hl
  have hP : va_P D vwCl [(h0, .inr (3, [.int f0, .int f1, .int f2, .int f3, .ref a0, .int z, .int f6, .int f7])), (a0, .inl (cI, 6, .inl iv))] s.heap := hP
  have hD : va_D A [(h0, .inr (3, [.int f0, .int f1, .int f2, .int f3, .ref a0, .int z, .int f6, .int f7])), (a0, .inl (cI, 6, .inl iv))] := hD
  have hiX3 : ∀ w ∈ u_ws RX3 TX3 8, w ∈ wsX3_addEdge := by decide +kernel
  have hk_21 := hts (.fieldLink RX3 21 "HallCommutator$Motion" "edges" "I") (by decide +kernel)
  have hk_28 := hts (.fieldLink RX3 28 "HallCommutator$Motion" "intervalCount" "I") (by decide +kernel)
  have hk_31 := hts (.fieldLink RX3 31 "HallCommutator$Motion" "edgeTick" "I") (by decide +kernel)
  have hk_34 := hts (.fieldLink RX3 34 "HallCommutator$Motion" "edgeDirection" "I") (by decide +kernel)
  have hk_9 := hts (.fieldLink RX3 9 "HallCommutator$Motion" "position" "I") (by decide +kernel)
  refine lv_aload_n hx hb dX3_addEdge_0 rfl (lv_at hl 0 rfl) ?_
  refine lv_dup hx hb dX3_addEdge_1 rfl ?_
  refine va_get (D := D) (ci := 3) (v := .int f3) (C := RX3) (T := TX3) (N := 8) hx hb hts hiX3 hown hK hP 0 rfl rfl 3 (by decide) hk_21 (fun _ h9 => h9) rfl dX3_addEdge_2 ?_
  refine lv_iconst (v := 1) hx hb dX3_addEdge_5 (by decide) ?_
  refine lv_iadd hx hb dX3_addEdge_6 ?_
  refine va_put (D := D) (ci := 3) (v := .int (f3 + (1 : Int32))) (ty := .int) (C := RX3) (T := TX3) (N := 8) hx hb hts hiX3 tyX3 tyX3_ok nmX3 hown hK hP hD hS 0 rfl rfl 3 (by decide) hk_21 (fun _ h9 => h9) rfl (by decide +kernel) rfl rfl (Nat.le_of_ble_eq_true rfl) dX3_addEdge_7 (fun H locs hP hD hS => ?_)
  have hP : va_P D vwCl [(h0, .inr (3, [.int f0, .int f1, .int f2, .int (f3 + (1 : Int32)), .ref a0, .int z, .int f6, .int f7])), (a0, .inl (cI, 6, .inl iv))] H := hP
  have hD : va_D A [(h0, .inr (3, [.int f0, .int f1, .int f2, .int (f3 + (1 : Int32)), .ref a0, .int z, .int f6, .int f7])), (a0, .inl (cI, 6, .inl iv))] := hD
  refine lv_aload_n hx hb dX3_addEdge_10 rfl (lv_at hl 0 rfl) ?_
  refine lv_dup hx hb dX3_addEdge_11 rfl ?_
  refine va_get (D := D) (ci := 3) (v := .int f0) (C := RX3) (T := TX3) (N := 8) hx hb hts hiX3 hown hK hP 0 rfl rfl 0 (by decide) hk_9 (fun _ h9 => h9) rfl dX3_addEdge_12 ?_
  refine lv_iload_n hx hb dX3_addEdge_15 rfl (lv_at hl 1 rfl) ?_
  refine lv_iadd hx hb dX3_addEdge_16 ?_
  refine va_put (D := D) (ci := 3) (v := .int (f0 + t)) (ty := .int) (C := RX3) (T := TX3) (N := 8) hx hb hts hiX3 tyX3 tyX3_ok nmX3 hown hK hP hD hS 0 rfl rfl 0 (by decide) hk_9 (fun _ h9 => h9) rfl (by decide +kernel) rfl rfl (Nat.le_of_ble_eq_true rfl) dX3_addEdge_17 (fun H locs hP hD hS => ?_)
  have hP : va_P D vwCl [(h0, .inr (3, [.int (f0 + t), .int f1, .int f2, .int (f3 + (1 : Int32)), .ref a0, .int z, .int f6, .int f7])), (a0, .inl (cI, 6, .inl iv))] H := hP
  have hD : va_D A [(h0, .inr (3, [.int (f0 + t), .int f1, .int f2, .int (f3 + (1 : Int32)), .ref a0, .int z, .int f6, .int f7])), (a0, .inl (cI, 6, .inl iv))] := hD
  refine lv_iload_n hx hb dX3_addEdge_20 rfl (lv_at hl 1 rfl) ?_
  refine lv_aload_n hx hb dX3_addEdge_21 rfl (lv_at hl 0 rfl) ?_
  refine va_get (D := D) (ci := 3) (v := .int f7) (C := RX3) (T := TX3) (N := 8) hx hb hts hiX3 hown hK hP 0 rfl rfl 7 (by decide) hk_34 (fun _ h9 => h9) rfl dX3_addEdge_22 ?_
  refine lv_icmp_ne (tgt := 41) hx hb dX3_addEdge_25 (by decide) (fun c_1 => ?_) (fun c_1 => ?_)
  · skip
    refine lv_aload_n hx hb dX3_addEdge_41 rfl (lv_at hl 0 rfl) ?_
    refine lv_iconst (v := 0) hx hb dX3_addEdge_42 (by decide) ?_
    refine va_put (D := D) (ci := 3) (v := .int (0 : Int32)) (ty := .int) (C := RX3) (T := TX3) (N := 8) hx hb hts hiX3 tyX3 tyX3_ok nmX3 hown hK hP hD hS 0 rfl rfl 5 (by decide) hk_28 (fun _ h9 => h9) rfl (by decide +kernel) rfl rfl (Nat.le_of_ble_eq_true rfl) dX3_addEdge_43 (fun H locs hP hD hS => ?_)
    have hP : va_P D vwCl [(h0, .inr (3, [.int (f0 + t), .int f1, .int f2, .int (f3 + (1 : Int32)), .ref a0, .int (0 : Int32), .int f6, .int f7])), (a0, .inl (cI, 6, .inl iv))] H := hP
    have hD : va_D A [(h0, .inr (3, [.int (f0 + t), .int f1, .int f2, .int (f3 + (1 : Int32)), .ref a0, .int (0 : Int32), .int f6, .int f7])), (a0, .inl (cI, 6, .inl iv))] := hD
    refine lv_aload_n hx hb dX3_addEdge_46 rfl (lv_at hl 0 rfl) ?_
    refine lv_iload_n hx hb dX3_addEdge_47 rfl (lv_at hl 1 rfl) ?_
    refine va_put (D := D) (ci := 3) (v := .int t) (ty := .int) (C := RX3) (T := TX3) (N := 8) hx hb hts hiX3 tyX3 tyX3_ok nmX3 hown hK hP hD hS 0 rfl rfl 7 (by decide) hk_34 (fun _ h9 => h9) rfl (by decide +kernel) rfl rfl (Nat.le_of_ble_eq_true rfl) dX3_addEdge_48 (fun H locs hP hD hS => ?_)
    have hP : va_P D vwCl [(h0, .inr (3, [.int (f0 + t), .int f1, .int f2, .int (f3 + (1 : Int32)), .ref a0, .int (0 : Int32), .int f6, .int t])), (a0, .inl (cI, 6, .inl iv))] H := hP
    have hD : va_D A [(h0, .inr (3, [.int (f0 + t), .int f1, .int f2, .int (f3 + (1 : Int32)), .ref a0, .int (0 : Int32), .int f6, .int t])), (a0, .inl (cI, 6, .inl iv))] := hD
    refine lv_aload_n hx hb dX3_addEdge_51 rfl (lv_at hl 0 rfl) ?_
    refine lv_iload_n hx hb dX3_addEdge_52 rfl (lv_at hl 2 rfl) ?_
    refine va_put (D := D) (ci := 3) (v := .int b) (ty := .int) (C := RX3) (T := TX3) (N := 8) hx hb hts hiX3 tyX3 tyX3_ok nmX3 hown hK hP hD hS 0 rfl rfl 6 (by decide) hk_31 (fun _ h9 => h9) rfl (by decide +kernel) rfl rfl (Nat.le_of_ble_eq_true rfl) dX3_addEdge_53 (fun H locs hP hD hS => ?_)
    have hP : va_P D vwCl [(h0, .inr (3, [.int (f0 + t), .int f1, .int f2, .int (f3 + (1 : Int32)), .ref a0, .int (0 : Int32), .int b, .int t])), (a0, .inl (cI, 6, .inl iv))] H := hP
    have hD : va_D A [(h0, .inr (3, [.int (f0 + t), .int f1, .int f2, .int (f3 + (1 : Int32)), .ref a0, .int (0 : Int32), .int b, .int t])), (a0, .inl (cI, 6, .inl iv))] := hD
    exact my_vret hx hb hr hlocks hK hP hD hS (f0 + t, f3 + (1 : Int32), (0 : Int32), b, t, iv) (by show (f0 + t, f3 + (1 : Int32), (0 : Int32), b, t, iv) = F_X3_addEdge f0 f1 f2 f3 z f6 f7 iv t b; simp only [F_X3_addEdge, if_neg c_1]) [0, 1] rfl rfl dX3_addEdge_56
  · skip
    refine lv_aload_n hx hb dX3_addEdge_28 rfl (lv_at hl 0 rfl) ?_
    refine lv_iload_n hx hb dX3_addEdge_29 rfl (lv_at hl 2 rfl) ?_
    refine lv_aload_n hx hb dX3_addEdge_30 rfl (lv_at hl 0 rfl) ?_
    refine va_get (D := D) (ci := 3) (v := .int f6) (C := RX3) (T := TX3) (N := 8) hx hb hts hiX3 hown hK hP 0 rfl rfl 6 (by decide) hk_31 (fun _ h9 => h9) rfl dX3_addEdge_31 ?_
    refine lv_isub hx hb dX3_addEdge_34 ?_
    refine my_callV_v (As := [.int (b - f6)]) (rest := []) (wc := [(h0, .inr (3, [.int (f0 + t), .int f1, .int f2, .int (f3 + (1 : Int32)), .ref a0, .int z, .int f6, .int f7])), (a0, .inl (cI, 6, .inl iv))]) (wr := []) ⟨hx, hb, hml, hown, hts⟩ (met_X3_appendInterval l D cI cJ cS h0 a0 (f0 + t) f1 f2 (f3 + (1 : Int32)) z f6 f7 iv (b - f6) (hz) _) (cwV 1 hts gX3_addEdge_X3_appendInterval rfl rfl rfl (by decide +kernel) ⟨Nat.le_of_ble_eq_true rfl, Nat.le_of_ble_eq_true rfl⟩) hK hP hD hS hA hG [0, 1] [] rfl rfl rfl rfl (by decide) 0 rfl rfl rfl hl.1 (Nat.le_of_ble_eq_true rfl) rfl dX3_addEdge_35 ⟨Nat.le_of_ble_eq_true rfl, Nat.le_of_ble_eq_true rfl⟩ (fun u_2 H locs hw_2 hP hD hS => ?_)
    obtain ⟨x_2_0, x_2_1⟩ := u_2
    have hP : va_P D vwCl [(h0, .inr (3, [.int (f0 + t), .int f1, .int f2, .int (f3 + (1 : Int32)), .ref a0, .int x_2_0, .int f6, .int f7])), (a0, .inl (cI, 6, .inl x_2_1))] H := hP
    have hD : va_D A [(h0, .inr (3, [.int (f0 + t), .int f1, .int f2, .int (f3 + (1 : Int32)), .ref a0, .int x_2_0, .int f6, .int f7])), (a0, .inl (cI, 6, .inl x_2_1))] := hD
    refine lv_goto (tgt := 46) hx hb dX3_addEdge_38 (by decide) ?_
    refine lv_aload_n hx hb dX3_addEdge_46 rfl (lv_at hl 0 rfl) ?_
    refine lv_iload_n hx hb dX3_addEdge_47 rfl (lv_at hl 1 rfl) ?_
    refine va_put (D := D) (ci := 3) (v := .int t) (ty := .int) (C := RX3) (T := TX3) (N := 8) hx hb hts hiX3 tyX3 tyX3_ok nmX3 hown hK hP hD hS 0 rfl rfl 7 (by decide) hk_34 (fun _ h9 => h9) rfl (by decide +kernel) rfl rfl (Nat.le_of_ble_eq_true rfl) dX3_addEdge_48 (fun H locs hP hD hS => ?_)
    have hP : va_P D vwCl [(h0, .inr (3, [.int (f0 + t), .int f1, .int f2, .int (f3 + (1 : Int32)), .ref a0, .int x_2_0, .int f6, .int t])), (a0, .inl (cI, 6, .inl x_2_1))] H := hP
    have hD : va_D A [(h0, .inr (3, [.int (f0 + t), .int f1, .int f2, .int (f3 + (1 : Int32)), .ref a0, .int x_2_0, .int f6, .int t])), (a0, .inl (cI, 6, .inl x_2_1))] := hD
    refine lv_aload_n hx hb dX3_addEdge_51 rfl (lv_at hl 0 rfl) ?_
    refine lv_iload_n hx hb dX3_addEdge_52 rfl (lv_at hl 2 rfl) ?_
    refine va_put (D := D) (ci := 3) (v := .int b) (ty := .int) (C := RX3) (T := TX3) (N := 8) hx hb hts hiX3 tyX3 tyX3_ok nmX3 hown hK hP hD hS 0 rfl rfl 6 (by decide) hk_31 (fun _ h9 => h9) rfl (by decide +kernel) rfl rfl (Nat.le_of_ble_eq_true rfl) dX3_addEdge_53 (fun H locs hP hD hS => ?_)
    have hP : va_P D vwCl [(h0, .inr (3, [.int (f0 + t), .int f1, .int f2, .int (f3 + (1 : Int32)), .ref a0, .int x_2_0, .int b, .int t])), (a0, .inl (cI, 6, .inl x_2_1))] H := hP
    have hD : va_D A [(h0, .inr (3, [.int (f0 + t), .int f1, .int f2, .int (f3 + (1 : Int32)), .ref a0, .int x_2_0, .int b, .int t])), (a0, .inl (cI, 6, .inl x_2_1))] := hD
    exact my_vret hx hb hr hlocks hK hP hD hS (f0 + t, f3 + (1 : Int32), x_2_0, b, t, x_2_1) (by show (f0 + t, f3 + (1 : Int32), x_2_0, b, t, x_2_1) = F_X3_addEdge f0 f1 f2 f3 z f6 f7 iv t b; simp only [F_X3_addEdge, if_pos c_1, ← hw_2]) [0, 1] rfl rfl dX3_addEdge_56
def F_X3_mixCountsInto (x : Int64) (f0 : Int32) (f1 : Int32) (f2 : Int32) (f3 : Int32) (z : Int32) (f6 : Int32) (f7 : Int32) (iv : Nat → Int32) : Int64 :=
  let q1 := F_X8_mix x f0
  let q2 := F_X8_mix q1 f1
  let q3 := F_X8_mix q2 f2
  let q4 := F_X8_mix q3 f3
  q4
set_option maxHeartbeats 4000000 in
set_option maxRecDepth 100000 in
theorem met_X3_mixCountsInto (l : Launch) (D : va_G) (cI cJ cS : ClassId) (h0 : Nat) (a0 : Nat) (x : Int64) (f0 : Int32) (f1 : Int32) (f2 : Int32) (f3 : Int32) (z : Int32) (f6 : Int32) (f7 : Int32) (iv : Nat → Int32)  : ∀ sz : Nat, Met l yX3_mixCountsInto wsX3_mixCountsInto ({ frames := 1, cells := 0, slots := 0, locals := 22 } : Room) (va_Pc [.ref h0, .long x] (cPre D (tyz cI cJ cS) ([(h0, .inr (3, [.int f0, .int f1, .int f2, .int f3, .ref a0, .int z, .int f6, .int f7])), (a0, .inl (cI, 6, .inl iv))]) sz)) (va_Ql (fun (r : Int64) (_ : Unit) => r = F_X3_mixCountsInto x f0 f1 f2 f3 z f6 f7 iv) (fun u => cPost D (tyz cI cJ cS) (va_A ([(h0, .inr (3, [.int f0, .int f1, .int f2, .int f3, .ref a0, .int z, .int f6, .int f7])), (a0, .inl (cI, 6, .inl iv))]) sz) ([(h0, .inr (3, [.int f0, .int f1, .int f2, .int f3, .ref a0, .int z, .int f6, .int f7])), (a0, .inl (cI, 6, .inl iv))])) (va_A ([(h0, .inr (3, [.int f0, .int f1, .int f2, .int f3, .ref a0, .int z, .int f6, .int f7])), (a0, .inl (cI, 6, .inl iv))]) sz)) 0 0 (va_A ([(h0, .inr (3, [.int f0, .int f1, .int f2, .int f3, .ref a0, .int z, .int f6, .int f7])), (a0, .inl (cI, 6, .inl iv))]) sz) := by
  refine my_met (QC := fun A => (va_Ql (fun (r : Int64) (_ : Unit) => r = F_X3_mixCountsInto x f0 f1 f2 f3 z f6 f7 iv) (fun u => cPost D (tyz cI cJ cS) A ([(h0, .inr (3, [.int f0, .int f1, .int f2, .int f3, .ref a0, .int z, .int f6, .int f7])), (a0, .inl (cI, 6, .inl iv))])) A)) (cc := cX3_mixCountsInto) (maxL := 5) (ret := (some .long)) (by decide) rfl (Nat.le_of_ble_eq_true rfl) ?_
  intro p e s m below meth c ls A hx hb hml hr hts hown hlocks hname hK hP hD hS hA hG hl
  have hown : s.vm.findClass RX3 = some m.cls := hown
  have hl : lv_has ls 5 [(0, .ref h0), (1, .long x)] := hl
  have hP : va_P D vwCl [(h0, .inr (3, [.int f0, .int f1, .int f2, .int f3, .ref a0, .int z, .int f6, .int f7])), (a0, .inl (cI, 6, .inl iv))] s.heap := hP
  have hD : va_D A [(h0, .inr (3, [.int f0, .int f1, .int f2, .int f3, .ref a0, .int z, .int f6, .int f7])), (a0, .inl (cI, 6, .inl iv))] := hD
  have hiX3 : ∀ w ∈ u_ws RX3 TX3 8, w ∈ wsX3_mixCountsInto := by decide +kernel
  have hk_15 := hts (.fieldLink RX3 15 "HallCommutator$Motion" "illegalCodes" "I") (by decide +kernel)
  have hk_18 := hts (.fieldLink RX3 18 "HallCommutator$Motion" "skips" "I") (by decide +kernel)
  have hk_21 := hts (.fieldLink RX3 21 "HallCommutator$Motion" "edges" "I") (by decide +kernel)
  have hk_9 := hts (.fieldLink RX3 9 "HallCommutator$Motion" "position" "I") (by decide +kernel)
  refine lv_lload_n hx hb dX3_mixCountsInto_0 rfl (lv_at hl 1 rfl) ?_
  refine lv_aload_n hx hb dX3_mixCountsInto_1 rfl (lv_at hl 0 rfl) ?_
  refine va_get (D := D) (ci := 3) (v := .int f0) (C := RX3) (T := TX3) (N := 8) hx hb hts hiX3 hown hK hP 0 rfl rfl 0 (by decide) hk_9 (fun _ h9 => h9) rfl dX3_mixCountsInto_2 ?_
  refine my_callSN_l (As := [.long x, .int f0]) (rest := []) (wc := []) (wr := [(h0, .inr (3, [.int f0, .int f1, .int f2, .int f3, .ref a0, .int z, .int f6, .int f7])), (a0, .inl (cI, 6, .inl iv))]) ⟨hx, hb, hml, hown, hts⟩ (met_X8_mix l D cI cJ cS x f0 _) ⟨va_cnB 2 hts gX3_mixCountsInto_X8_mix_n54 rfl rfl rfl (hG.1.1 (RX3, 54, yX8_mix, "HallCommutator") (by decide +kernel)) (hts (.initialized RX8) (by decide +kernel)) (by decide +kernel) ⟨Nat.le_of_ble_eq_true rfl, Nat.le_of_ble_eq_true rfl⟩, hts (.static yX8_mix) (by decide +kernel), trivial⟩ hK hP hD hS hA hG [] [0, 1] rfl rfl rfl rfl (by decide) rfl hl.1 (Nat.le_of_ble_eq_true rfl) rfl dX3_mixCountsInto_5 ⟨Nat.le_of_ble_eq_true rfl, Nat.le_of_ble_eq_true rfl⟩ (fun r_1 _ H locs hw_1 hP hD hS => ?_)
  have hP : va_P D vwCl [(h0, .inr (3, [.int f0, .int f1, .int f2, .int f3, .ref a0, .int z, .int f6, .int f7])), (a0, .inl (cI, 6, .inl iv))] H := hP
  have hD : va_D A [(h0, .inr (3, [.int f0, .int f1, .int f2, .int f3, .ref a0, .int z, .int f6, .int f7])), (a0, .inl (cI, 6, .inl iv))] := hD
  refine lv_lstore_n (lv' := [(3, .long r_1), (0, .ref h0), (1, .long x)]) hx hb dX3_mixCountsInto_8 rfl hl (by decide) rfl (fun ls hl => ?_)
  refine lv_lload_n hx hb dX3_mixCountsInto_9 rfl (lv_at hl 0 rfl) ?_
  refine lv_aload_n hx hb dX3_mixCountsInto_10 rfl (lv_at hl 1 rfl) ?_
  refine va_get (D := D) (ci := 3) (v := .int f1) (C := RX3) (T := TX3) (N := 8) hx hb hts hiX3 hown hK hP 0 rfl rfl 1 (by decide) hk_15 (fun _ h9 => h9) rfl dX3_mixCountsInto_11 ?_
  refine my_callSN_l (As := [.long r_1, .int f1]) (rest := []) (wc := []) (wr := [(h0, .inr (3, [.int f0, .int f1, .int f2, .int f3, .ref a0, .int z, .int f6, .int f7])), (a0, .inl (cI, 6, .inl iv))]) ⟨hx, hb, hml, hown, hts⟩ (met_X8_mix l D cI cJ cS r_1 f1 _) ⟨va_cnB 2 hts gX3_mixCountsInto_X8_mix_n54 rfl rfl rfl (hG.1.1 (RX3, 54, yX8_mix, "HallCommutator") (by decide +kernel)) (hts (.initialized RX8) (by decide +kernel)) (by decide +kernel) ⟨Nat.le_of_ble_eq_true rfl, Nat.le_of_ble_eq_true rfl⟩, hts (.static yX8_mix) (by decide +kernel), trivial⟩ hK hP hD hS hA hG [] [0, 1] rfl rfl rfl rfl (by decide) rfl hl.1 (Nat.le_of_ble_eq_true rfl) rfl dX3_mixCountsInto_14 ⟨Nat.le_of_ble_eq_true rfl, Nat.le_of_ble_eq_true rfl⟩ (fun r_2 _ H locs hw_2 hP hD hS => ?_)
  have hP : va_P D vwCl [(h0, .inr (3, [.int f0, .int f1, .int f2, .int f3, .ref a0, .int z, .int f6, .int f7])), (a0, .inl (cI, 6, .inl iv))] H := hP
  have hD : va_D A [(h0, .inr (3, [.int f0, .int f1, .int f2, .int f3, .ref a0, .int z, .int f6, .int f7])), (a0, .inl (cI, 6, .inl iv))] := hD
  refine lv_lstore_n (lv' := [(3, .long r_2), (0, .ref h0), (1, .long x)]) hx hb dX3_mixCountsInto_17 rfl hl (by decide) rfl (fun ls hl => ?_)
  refine lv_lload_n hx hb dX3_mixCountsInto_18 rfl (lv_at hl 0 rfl) ?_
  refine lv_aload_n hx hb dX3_mixCountsInto_19 rfl (lv_at hl 1 rfl) ?_
  refine va_get (D := D) (ci := 3) (v := .int f2) (C := RX3) (T := TX3) (N := 8) hx hb hts hiX3 hown hK hP 0 rfl rfl 2 (by decide) hk_18 (fun _ h9 => h9) rfl dX3_mixCountsInto_20 ?_
  refine my_callSN_l (As := [.long r_2, .int f2]) (rest := []) (wc := []) (wr := [(h0, .inr (3, [.int f0, .int f1, .int f2, .int f3, .ref a0, .int z, .int f6, .int f7])), (a0, .inl (cI, 6, .inl iv))]) ⟨hx, hb, hml, hown, hts⟩ (met_X8_mix l D cI cJ cS r_2 f2 _) ⟨va_cnB 2 hts gX3_mixCountsInto_X8_mix_n54 rfl rfl rfl (hG.1.1 (RX3, 54, yX8_mix, "HallCommutator") (by decide +kernel)) (hts (.initialized RX8) (by decide +kernel)) (by decide +kernel) ⟨Nat.le_of_ble_eq_true rfl, Nat.le_of_ble_eq_true rfl⟩, hts (.static yX8_mix) (by decide +kernel), trivial⟩ hK hP hD hS hA hG [] [0, 1] rfl rfl rfl rfl (by decide) rfl hl.1 (Nat.le_of_ble_eq_true rfl) rfl dX3_mixCountsInto_23 ⟨Nat.le_of_ble_eq_true rfl, Nat.le_of_ble_eq_true rfl⟩ (fun r_3 _ H locs hw_3 hP hD hS => ?_)
  have hP : va_P D vwCl [(h0, .inr (3, [.int f0, .int f1, .int f2, .int f3, .ref a0, .int z, .int f6, .int f7])), (a0, .inl (cI, 6, .inl iv))] H := hP
  have hD : va_D A [(h0, .inr (3, [.int f0, .int f1, .int f2, .int f3, .ref a0, .int z, .int f6, .int f7])), (a0, .inl (cI, 6, .inl iv))] := hD
  refine lv_lstore_n (lv' := [(3, .long r_3), (0, .ref h0), (1, .long x)]) hx hb dX3_mixCountsInto_26 rfl hl (by decide) rfl (fun ls hl => ?_)
  refine lv_lload_n hx hb dX3_mixCountsInto_27 rfl (lv_at hl 0 rfl) ?_
  refine lv_aload_n hx hb dX3_mixCountsInto_28 rfl (lv_at hl 1 rfl) ?_
  refine va_get (D := D) (ci := 3) (v := .int f3) (C := RX3) (T := TX3) (N := 8) hx hb hts hiX3 hown hK hP 0 rfl rfl 3 (by decide) hk_21 (fun _ h9 => h9) rfl dX3_mixCountsInto_29 ?_
  refine my_callSN_l (As := [.long r_3, .int f3]) (rest := []) (wc := []) (wr := [(h0, .inr (3, [.int f0, .int f1, .int f2, .int f3, .ref a0, .int z, .int f6, .int f7])), (a0, .inl (cI, 6, .inl iv))]) ⟨hx, hb, hml, hown, hts⟩ (met_X8_mix l D cI cJ cS r_3 f3 _) ⟨va_cnB 2 hts gX3_mixCountsInto_X8_mix_n54 rfl rfl rfl (hG.1.1 (RX3, 54, yX8_mix, "HallCommutator") (by decide +kernel)) (hts (.initialized RX8) (by decide +kernel)) (by decide +kernel) ⟨Nat.le_of_ble_eq_true rfl, Nat.le_of_ble_eq_true rfl⟩, hts (.static yX8_mix) (by decide +kernel), trivial⟩ hK hP hD hS hA hG [] [0, 1] rfl rfl rfl rfl (by decide) rfl hl.1 (Nat.le_of_ble_eq_true rfl) rfl dX3_mixCountsInto_32 ⟨Nat.le_of_ble_eq_true rfl, Nat.le_of_ble_eq_true rfl⟩ (fun r_4 _ H locs hw_4 hP hD hS => ?_)
  have hP : va_P D vwCl [(h0, .inr (3, [.int f0, .int f1, .int f2, .int f3, .ref a0, .int z, .int f6, .int f7])), (a0, .inl (cI, 6, .inl iv))] H := hP
  have hD : va_D A [(h0, .inr (3, [.int f0, .int f1, .int f2, .int f3, .ref a0, .int z, .int f6, .int f7])), (a0, .inl (cI, 6, .inl iv))] := hD
  exact my_lret hx hb hr hlocks hK hP hD hS () (by show r_4 = F_X3_mixCountsInto x f0 f1 f2 f3 z f6 f7 iv; simp only [F_X3_mixCountsInto, ← hw_1, ← hw_2, ← hw_3, ← hw_4]) [0, 1] rfl rfl dX3_mixCountsInto_35
def LP_X3_mixIntervalsInto : Nat → Int32 → Int32 → Int32 → Int32 → Int32 → Int32 → Int32 → (Nat → Int32) → Nat → Int64 → (Nat) × (Int64)
  | 0, _, _, _, _, _, _, _, _, i, h => (i, h)
  | n + 1, f0, f1, f2, f3, z, f6, f7, iv, i, h =>
    if z ≤ nI i then
      (i, h)
    else
      let q2 := F_X8_mix h (iv i)
      LP_X3_mixIntervalsInto n f0 f1 f2 f3 z f6 f7 iv (i + 1) q2
set_option maxHeartbeats 4000000 in
set_option maxRecDepth 100000 in
theorem lps_X3_mixIntervalsInto {p : Program} (l : Launch) {e : Env} {R : Room} {s : State} {m : MethodId} {args : Array Value} {below : List Frame} {meth : Method} {c : Code} {A : Nat → Prop} {cells slots : Nat} {Q : State → Prop} (D : va_G) (cI cJ cS : ClassId) (hx : p.tables.exec = Jvm.exec) (hb : c.code = cX3_mixIntervalsInto) (hml : c.maxLocals = 6) (hown : s.vm.findClass RX3 = some m.cls) (hts : ∀ w ∈ wsX3_mixIntervalsInto, w.before args s = true) (hK : va_K D vwCl (tyz cI cJ cS) s) (hA : ∀ q, s.heap.size ≤ q → A q) (hG : gG A s s.heap) (hR1 : 1 ≤ R.frames) (hR2 : 22 ≤ R.locals) (hRc : cells ≤ R.cells) (hRs : slots ≤ R.slots) : ∀ (n : Nat) (h0 : Nat) (a0 : Nat) (f0 : Int32) (f1 : Int32) (f2 : Int32) (f3 : Int32) (z : Int32) (f6 : Int32) (f7 : Int32) (iv : Nat → Int32) (i : Nat) (h : Int64) (H : Heap) (locs : List Loc) (ls : Array Slot), (vp_in z 7) → (i ≤ tn z) → (tn z < i + n) → va_P D vwCl [(h0, .inr (3, [.int f0, .int f1, .int f2, .int f3, .ref a0, .int z, .int f6, .int f7])), (a0, .inl (cI, 6, .inl iv))] H → va_D A [(h0, .inr (3, [.int f0, .int f1, .int f2, .int f3, .ref a0, .int z, .int f6, .int f7])), (a0, .inl (cI, 6, .inl iv))] → va_S A s.heap H locs → lv_has ls 6 [(0, .ref h0), (3, .long h), (5, .int (nI i))] → (∀ (y : (Nat) × (Int64)) (H : Heap) (locs : List Loc) (ls : Array Slot), y = LP_X3_mixIntervalsInto n f0 f1 f2 f3 z f6 f7 iv i h → va_P D vwCl [(h0, .inr (3, [.int f0, .int f1, .int f2, .int f3, .ref a0, .int z, .int f6, .int f7])), (a0, .inl (cI, 6, .inl iv))] H → va_D A [(h0, .inr (3, [.int f0, .int f1, .int f2, .int f3, .ref a0, .int z, .int f6, .int f7])), (a0, .inl (cI, 6, .inl iv))] → va_S A s.heap H locs → lv_has ls 6 [(0, .ref h0), (3, .long y.2), (5, .int (nI y.1))] → W p l e R s m args below meth c H locs cells slots Q (F0 m 39 ls [])) → W p l e R s m args below meth c H locs cells slots Q (F0 m 12 ls []) := by
  have hk_28 := hts (.fieldLink RX3 28 "HallCommutator$Motion" "intervalCount" "I") (by decide +kernel)
  have hk_24 := hts (.fieldLink RX3 24 "HallCommutator$Motion" "intervals" "[I") (by decide +kernel)
  have hiX3 : ∀ w ∈ u_ws RX3 TX3 8, w ∈ wsX3_mixIntervalsInto := by decide +kernel
  intro n
  induction n with
  | zero =>
    intro h0 a0 f0 f1 f2 f3 z f6 f7 iv i h H locs ls hz hi hm
    exact absurd hm (by omega)
  | succ n ih =>
    intro h0 a0 f0 f1 f2 f3 z f6 f7 iv i h H locs ls hz hi hm hP hD hS hl kk
    refine lv_iload hx hb dX3_mixIntervalsInto_12 (lv_at hl 2 rfl) ?_
    refine lv_aload_n hx hb dX3_mixIntervalsInto_14 rfl (lv_at hl 0 rfl) ?_
    refine va_get (D := D) (ci := 3) (v := .int z) (C := RX3) (T := TX3) (N := 8) hx hb hts hiX3 hown hK hP 0 rfl rfl 5 (by decide) hk_28 (fun _ h9 => h9) rfl dX3_mixIntervalsInto_15 ?_
    refine lv_icmp_ge (tgt := 39) hx hb dX3_mixIntervalsInto_18 (by decide) (fun c_1 => ?_) (fun c_1 => ?_)
    · skip
      exact kk (i, h) _ _ _ (by simp only [LP_X3_mixIntervalsInto, if_pos c_1]) (hP.subm [0, 1] rfl) (hD.sub [0, 1] rfl rfl) hS (lv_sub hl [0, 1, 2] rfl)
    · skip
      refine lv_lload_n hx hb dX3_mixIntervalsInto_21 rfl (lv_at hl 1 rfl) ?_
      refine lv_aload_n hx hb dX3_mixIntervalsInto_22 rfl (lv_at hl 0 rfl) ?_
      refine va_get (D := D) (ci := 3) (v := .ref a0) (C := RX3) (T := TX3) (N := 8) hx hb hts hiX3 hown hK hP 0 rfl rfl 4 (by decide) hk_24 (fun _ h9 => h9) rfl dX3_mixIntervalsInto_23 ?_
      refine lv_iload hx hb dX3_mixIntervalsInto_26 (lv_at hl 2 rfl) ?_
      refine my_iald hx hb hK hP 1 0 rfl rfl i (rfl) (by have := nz_lt hz hi c_1; have := tn_lt hz; omega) (by decide) dX3_mixIntervalsInto_28 ?_
      refine my_callSN_l (As := [.long h, .int (iv i)]) (rest := []) (wc := []) (wr := [(h0, .inr (3, [.int f0, .int f1, .int f2, .int f3, .ref a0, .int z, .int f6, .int f7])), (a0, .inl (cI, 6, .inl iv))]) ⟨hx, hb, hml, hown, hts⟩ (met_X8_mix l D cI cJ cS h (iv i) _) ⟨va_cnB 2 hts gX3_mixIntervalsInto_X8_mix_n54 rfl rfl rfl (hG.1.1 (RX3, 54, yX8_mix, "HallCommutator") (by decide +kernel)) (hts (.initialized RX8) (by decide +kernel)) (by decide +kernel) ⟨Nat.le_trans (Nat.le_of_ble_eq_true rfl) hR1, Nat.le_trans (Nat.le_of_ble_eq_true rfl) hR2⟩, hts (.static yX8_mix) (by decide +kernel), trivial⟩ hK hP hD hS hA hG [] [0, 1] rfl rfl rfl rfl (by decide) rfl hl.1 (Nat.le_of_ble_eq_true rfl) rfl dX3_mixIntervalsInto_29 ⟨hRc, hRs⟩ (fun r_2 _ H locs hw_2 hP hD hS => ?_)
      have hP : va_P D vwCl [(h0, .inr (3, [.int f0, .int f1, .int f2, .int f3, .ref a0, .int z, .int f6, .int f7])), (a0, .inl (cI, 6, .inl iv))] H := hP
      have hD : va_D A [(h0, .inr (3, [.int f0, .int f1, .int f2, .int f3, .ref a0, .int z, .int f6, .int f7])), (a0, .inl (cI, 6, .inl iv))] := hD
      refine lv_lstore_n (lv' := [(3, .long r_2), (0, .ref h0), (5, .int (nI i))]) hx hb dX3_mixIntervalsInto_32 rfl hl (by decide) rfl (fun ls hl => ?_)
      refine lv_iinc (v := nI (i + 1)) (lv' := [(5, .int (nI (i + 1))), (3, .long r_2), (0, .ref h0)]) hx hb dX3_mixIntervalsInto_33 hl (k := 2) rfl (nI_1 _) (by decide) rfl (fun ls hl => ?_)
      refine lv_goto (tgt := 12) hx hb dX3_mixIntervalsInto_36 (by decide) ?_
      exact ih h0 a0 f0 f1 f2 f3 z f6 f7 iv (i + 1) r_2 _ _ _ (hz) (nz_lt hz hi c_1) (by omega) (hP.subm [0, 1] rfl) (hD.sub [0, 1] rfl rfl) hS (lv_sub hl [2, 1, 0] rfl) (fun y H locs ls hy => kk y H locs ls (by rw [hy]; simp only [LP_X3_mixIntervalsInto, if_neg c_1, ← hw_2]))
def F_X3_mixIntervalsInto (x : Int64) (f0 : Int32) (f1 : Int32) (f2 : Int32) (f3 : Int32) (z : Int32) (f6 : Int32) (f7 : Int32) (iv : Nat → Int32) : Int64 :=
  let q1 := F_X8_mix x z
  let q2 := LP_X3_mixIntervalsInto 7 f0 f1 f2 f3 z f6 f7 iv 0 q1
  q2.2
set_option maxHeartbeats 4000000 in
set_option maxRecDepth 100000 in
theorem met_X3_mixIntervalsInto (l : Launch) (D : va_G) (cI cJ cS : ClassId) (h0 : Nat) (a0 : Nat) (x : Int64) (f0 : Int32) (f1 : Int32) (f2 : Int32) (f3 : Int32) (z : Int32) (f6 : Int32) (f7 : Int32) (iv : Nat → Int32) (hz : vp_in z 7) : ∀ sz : Nat, Met l yX3_mixIntervalsInto wsX3_mixIntervalsInto ({ frames := 1, cells := 0, slots := 0, locals := 22 } : Room) (va_Pc [.ref h0, .long x] (cPre D (tyz cI cJ cS) ([(h0, .inr (3, [.int f0, .int f1, .int f2, .int f3, .ref a0, .int z, .int f6, .int f7])), (a0, .inl (cI, 6, .inl iv))]) sz)) (va_Ql (fun (r : Int64) (_ : Unit) => r = F_X3_mixIntervalsInto x f0 f1 f2 f3 z f6 f7 iv) (fun u => cPost D (tyz cI cJ cS) (va_A ([(h0, .inr (3, [.int f0, .int f1, .int f2, .int f3, .ref a0, .int z, .int f6, .int f7])), (a0, .inl (cI, 6, .inl iv))]) sz) ([(h0, .inr (3, [.int f0, .int f1, .int f2, .int f3, .ref a0, .int z, .int f6, .int f7])), (a0, .inl (cI, 6, .inl iv))])) (va_A ([(h0, .inr (3, [.int f0, .int f1, .int f2, .int f3, .ref a0, .int z, .int f6, .int f7])), (a0, .inl (cI, 6, .inl iv))]) sz)) 0 0 (va_A ([(h0, .inr (3, [.int f0, .int f1, .int f2, .int f3, .ref a0, .int z, .int f6, .int f7])), (a0, .inl (cI, 6, .inl iv))]) sz) := by
  refine my_met (QC := fun A => (va_Ql (fun (r : Int64) (_ : Unit) => r = F_X3_mixIntervalsInto x f0 f1 f2 f3 z f6 f7 iv) (fun u => cPost D (tyz cI cJ cS) A ([(h0, .inr (3, [.int f0, .int f1, .int f2, .int f3, .ref a0, .int z, .int f6, .int f7])), (a0, .inl (cI, 6, .inl iv))])) A)) (cc := cX3_mixIntervalsInto) (maxL := 6) (ret := (some .long)) (by decide) rfl (Nat.le_of_ble_eq_true rfl) ?_
  intro p e s m below meth c ls A hx hb hml hr hts hown hlocks hname hK hP hD hS hA hG hl
  have hown : s.vm.findClass RX3 = some m.cls := hown
  have hl : lv_has ls 6 [(0, .ref h0), (1, .long x)] := hl
  have hP : va_P D vwCl [(h0, .inr (3, [.int f0, .int f1, .int f2, .int f3, .ref a0, .int z, .int f6, .int f7])), (a0, .inl (cI, 6, .inl iv))] s.heap := hP
  have hD : va_D A [(h0, .inr (3, [.int f0, .int f1, .int f2, .int f3, .ref a0, .int z, .int f6, .int f7])), (a0, .inl (cI, 6, .inl iv))] := hD
  have hiX3 : ∀ w ∈ u_ws RX3 TX3 8, w ∈ wsX3_mixIntervalsInto := by decide +kernel
  have hk_28 := hts (.fieldLink RX3 28 "HallCommutator$Motion" "intervalCount" "I") (by decide +kernel)
  refine lv_lload_n hx hb dX3_mixIntervalsInto_0 rfl (lv_at hl 1 rfl) ?_
  refine lv_aload_n hx hb dX3_mixIntervalsInto_1 rfl (lv_at hl 0 rfl) ?_
  refine va_get (D := D) (ci := 3) (v := .int z) (C := RX3) (T := TX3) (N := 8) hx hb hts hiX3 hown hK hP 0 rfl rfl 5 (by decide) hk_28 (fun _ h9 => h9) rfl dX3_mixIntervalsInto_2 ?_
  refine my_callSN_l (As := [.long x, .int z]) (rest := []) (wc := []) (wr := [(h0, .inr (3, [.int f0, .int f1, .int f2, .int f3, .ref a0, .int z, .int f6, .int f7])), (a0, .inl (cI, 6, .inl iv))]) ⟨hx, hb, hml, hown, hts⟩ (met_X8_mix l D cI cJ cS x z _) ⟨va_cnB 2 hts gX3_mixIntervalsInto_X8_mix_n54 rfl rfl rfl (hG.1.1 (RX3, 54, yX8_mix, "HallCommutator") (by decide +kernel)) (hts (.initialized RX8) (by decide +kernel)) (by decide +kernel) ⟨Nat.le_of_ble_eq_true rfl, Nat.le_of_ble_eq_true rfl⟩, hts (.static yX8_mix) (by decide +kernel), trivial⟩ hK hP hD hS hA hG [] [0, 1] rfl rfl rfl rfl (by decide) rfl hl.1 (Nat.le_of_ble_eq_true rfl) rfl dX3_mixIntervalsInto_5 ⟨Nat.le_of_ble_eq_true rfl, Nat.le_of_ble_eq_true rfl⟩ (fun r_1 _ H locs hw_1 hP hD hS => ?_)
  have hP : va_P D vwCl [(h0, .inr (3, [.int f0, .int f1, .int f2, .int f3, .ref a0, .int z, .int f6, .int f7])), (a0, .inl (cI, 6, .inl iv))] H := hP
  have hD : va_D A [(h0, .inr (3, [.int f0, .int f1, .int f2, .int f3, .ref a0, .int z, .int f6, .int f7])), (a0, .inl (cI, 6, .inl iv))] := hD
  refine lv_lstore_n (lv' := [(3, .long r_1), (0, .ref h0), (1, .long x)]) hx hb dX3_mixIntervalsInto_8 rfl hl (by decide) rfl (fun ls hl => ?_)
  refine lv_iconst (v := 0) hx hb dX3_mixIntervalsInto_9 (by decide) ?_
  refine lv_istore (lv' := [(5, .int (0 : Int32)), (3, .long r_1), (0, .ref h0), (1, .long x)]) hx hb dX3_mixIntervalsInto_10 hl (by decide) rfl (fun ls hl => ?_)
  refine lps_X3_mixIntervalsInto l D cI cJ cS hx hb hml hown hts hK hA hG (Nat.le_of_ble_eq_true rfl) (Nat.le_of_ble_eq_true rfl) (Nat.le_of_ble_eq_true rfl) (Nat.le_of_ble_eq_true rfl) 7 h0 a0 f0 f1 f2 f3 z f6 f7 iv 0 r_1 _ _ _ (hz) (Nat.zero_le _) (by have := tn_lt hz; omega) (hP.subm [0, 1] rfl) (hD.sub [0, 1] rfl rfl) hS (lv_sub hl [2, 1, 0] rfl) (fun y_2 H locs ls hw_2 hP hD hS hl => ?_)
  obtain ⟨y_2_0, y_2_1⟩ := y_2
  have hl : lv_has ls 6 [(0, .ref h0), (3, .long y_2_1), (5, .int (nI y_2_0))] := hl
  have hP : va_P D vwCl [(h0, .inr (3, [.int f0, .int f1, .int f2, .int f3, .ref a0, .int z, .int f6, .int f7])), (a0, .inl (cI, 6, .inl iv))] H := hP
  have hD : va_D A [(h0, .inr (3, [.int f0, .int f1, .int f2, .int f3, .ref a0, .int z, .int f6, .int f7])), (a0, .inl (cI, 6, .inl iv))] := hD
  refine lv_lload_n hx hb dX3_mixIntervalsInto_39 rfl (lv_at hl 1 rfl) ?_
  exact my_lret hx hb hr hlocks hK hP hD hS () (by show y_2_1 = F_X3_mixIntervalsInto x f0 f1 f2 f3 z f6 f7 iv; simp only [F_X3_mixIntervalsInto, ← hw_1, ← hw_2]) [0, 1] rfl rfl dX3_mixIntervalsInto_40
