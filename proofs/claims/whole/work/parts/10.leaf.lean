def F_X8_mix (x : Int64) (y : Int32) : Int64 :=
  ((31 : Int64) * x) + y.toInt64
set_option maxHeartbeats 4000000 in
set_option maxRecDepth 100000 in
theorem met_X8_mix (l : Launch) (D : va_G) (cI cJ cS : ClassId) (x : Int64) (y : Int32)  : ∀ sz : Nat, Met l yX8_mix wsX8_mix ({ frames := 0, cells := 0, slots := 0, locals := 0 } : Room) (va_Pc [.long x, .int y] (cPre D (tyz cI cJ cS) ([]) sz)) (va_Ql (fun (r : Int64) (_ : Unit) => r = F_X8_mix x y) (fun u => cPost D (tyz cI cJ cS) (va_A ([]) sz) ([])) (va_A ([]) sz)) 0 0 (va_A ([]) sz) := by
  refine my_met (QC := fun A => (va_Ql (fun (r : Int64) (_ : Unit) => r = F_X8_mix x y) (fun u => cPost D (tyz cI cJ cS) A ([])) A)) (cc := cX8_mix) (maxL := 3) (ret := (some .long)) (by decide) rfl (Nat.le_of_ble_eq_true rfl) ?_
  intro p e s m below meth c ls A hx hb hml hr hts hown hlocks hname hK hP hD hS hA hG hl
  have hown : s.vm.findClass RX8 = some m.cls := hown
  have hl : lv_has ls 3 [(0, .long x), (2, .int y)] := hl
  have hP : va_P D vwCl [] s.heap := hP
  have hD : va_D A [] := hD
  refine lv_ldc2 (v := 31) hx hb hown (hts (.constantLong RX8 252 (31)) (by decide +kernel)) dX8_mix_0 ?_
  refine lv_lload_n hx hb dX8_mix_3 rfl (lv_at hl 0 rfl) ?_
  refine lv_lmul hx hb dX8_mix_4 ?_
  refine lv_iload_n hx hb dX8_mix_5 rfl (lv_at hl 1 rfl) ?_
  refine lv_i2l hx hb dX8_mix_6 rfl ?_
  refine lv_ladd hx hb dX8_mix_7 ?_
  exact my_lret hx hb hr hlocks hK hP hD hS () (by show ((31 : Int64) * x) + y.toInt64 = F_X8_mix x y; simp only [F_X8_mix]) [] rfl rfl dX8_mix_8
def F_X6_copyFrom (f0 : Int32) (f1 : Int32) (f2 : Int32) (f3 : Int32) (f4 : Int32) (k0 : Int32) (k1 : Int32) (k2 : Int32) (k3 : Int32) (k4 : Int32) : Int32 × Int32 × Int32 × Int32 × Int32 :=
  (k0, k1, k2, k3, k4)
set_option maxHeartbeats 4000000 in
set_option maxRecDepth 100000 in
theorem met_X6_copyFrom (l : Launch) (D : va_G) (cI cJ cS : ClassId) (h0 : Nat) (h1 : Nat) (f0 : Int32) (f1 : Int32) (f2 : Int32) (f3 : Int32) (f4 : Int32) (k0 : Int32) (k1 : Int32) (k2 : Int32) (k3 : Int32) (k4 : Int32)  : ∀ sz : Nat, Met l yX6_copyFrom wsX6_copyFrom ({ frames := 0, cells := 0, slots := 0, locals := 0 } : Room) (va_Pc [.ref h0, .ref h1] (cPre D (tyz cI cJ cS) ([(h0, .inr (6, [.int f0, .int f1, .int f2, .int f3, .int f4])), (h1, .inr (6, [.int k0, .int k1, .int k2, .int k3, .int k4]))]) sz)) (va_Qv (fun (u : Int32 × Int32 × Int32 × Int32 × Int32) => u = F_X6_copyFrom f0 f1 f2 f3 f4 k0 k1 k2 k3 k4) (fun u => cPost D (tyz cI cJ cS) (va_A ([(h0, .inr (6, [.int f0, .int f1, .int f2, .int f3, .int f4])), (h1, .inr (6, [.int k0, .int k1, .int k2, .int k3, .int k4]))]) sz) ([(h0, .inr (6, [.int u.1, .int u.2.1, .int u.2.2.1, .int u.2.2.2.1, .int u.2.2.2.2])), (h1, .inr (6, [.int k0, .int k1, .int k2, .int k3, .int k4]))])) (va_A ([(h0, .inr (6, [.int f0, .int f1, .int f2, .int f3, .int f4])), (h1, .inr (6, [.int k0, .int k1, .int k2, .int k3, .int k4]))]) sz)) 0 0 (va_A ([(h0, .inr (6, [.int f0, .int f1, .int f2, .int f3, .int f4])), (h1, .inr (6, [.int k0, .int k1, .int k2, .int k3, .int k4]))]) sz) := by
  refine my_met (QC := fun A => (va_Qv (fun (u : Int32 × Int32 × Int32 × Int32 × Int32) => u = F_X6_copyFrom f0 f1 f2 f3 f4 k0 k1 k2 k3 k4) (fun u => cPost D (tyz cI cJ cS) A ([(h0, .inr (6, [.int u.1, .int u.2.1, .int u.2.2.1, .int u.2.2.2.1, .int u.2.2.2.2])), (h1, .inr (6, [.int k0, .int k1, .int k2, .int k3, .int k4]))])) A)) (cc := cX6_copyFrom) (maxL := 2) (ret := none) (by decide) rfl (Nat.le_of_ble_eq_true rfl) ?_
  intro p e s m below meth c ls A hx hb hml hr hts hown hlocks hname hK hP hD hS hA hG hl
  have hown : s.vm.findClass RX6 = some m.cls := hown
  have hl : lv_has ls 2 [(0, .ref h0), (1, .ref h1)] := hl
  have hP : va_P D vwCl [(h0, .inr (6, [.int f0, .int f1, .int f2, .int f3, .int f4])), (h1, .inr (6, [.int k0, .int k1, .int k2, .int k3, .int k4]))] s.heap := hP
  have hD : va_D A [(h0, .inr (6, [.int f0, .int f1, .int f2, .int f3, .int f4])), (h1, .inr (6, [.int k0, .int k1, .int k2, .int k3, .int k4]))] := hD
  have hiX6 : ∀ w ∈ u_ws RX6 TX6 5, w ∈ wsX6_copyFrom := by decide +kernel
  have hk_13 := hts (.fieldLink RX6 13 "HallCommutator$Settings" "period" "I") (by decide +kernel)
  have hk_16 := hts (.fieldLink RX6 16 "HallCommutator$Settings" "duty" "I") (by decide +kernel)
  have hk_19 := hts (.fieldLink RX6 19 "HallCommutator$Settings" "deadTime" "I") (by decide +kernel)
  have hk_22 := hts (.fieldLink RX6 22 "HallCommutator$Settings" "stallTime" "I") (by decide +kernel)
  have hk_7 := hts (.fieldLink RX6 7 "HallCommutator$Settings" "filterTime" "I") (by decide +kernel)
  refine lv_aload_n hx hb dX6_copyFrom_0 rfl (lv_at hl 0 rfl) ?_
  refine lv_aload_n hx hb dX6_copyFrom_1 rfl (lv_at hl 1 rfl) ?_
  refine va_get (D := D) (ci := 6) (v := .int k0) (C := RX6) (T := TX6) (N := 5) hx hb hts hiX6 hown hK hP 1 rfl rfl 0 (by decide) hk_7 (fun _ h9 => h9) rfl dX6_copyFrom_2 ?_
  refine va_put (D := D) (ci := 6) (v := .int k0) (ty := .int) (C := RX6) (T := TX6) (N := 5) hx hb hts hiX6 tyX6 tyX6_ok nmX6 hown hK hP hD hS 0 rfl rfl 0 (by decide) hk_7 (fun _ h9 => h9) rfl (by decide +kernel) rfl rfl (Nat.le_of_ble_eq_true rfl) dX6_copyFrom_5 (fun H locs hP hD hS => ?_)
  have hP : va_P D vwCl [(h0, .inr (6, [.int k0, .int f1, .int f2, .int f3, .int f4])), (h1, .inr (6, [.int k0, .int k1, .int k2, .int k3, .int k4]))] H := hP
  have hD : va_D A [(h0, .inr (6, [.int k0, .int f1, .int f2, .int f3, .int f4])), (h1, .inr (6, [.int k0, .int k1, .int k2, .int k3, .int k4]))] := hD
  refine lv_aload_n hx hb dX6_copyFrom_8 rfl (lv_at hl 0 rfl) ?_
  refine lv_aload_n hx hb dX6_copyFrom_9 rfl (lv_at hl 1 rfl) ?_
  refine va_get (D := D) (ci := 6) (v := .int k1) (C := RX6) (T := TX6) (N := 5) hx hb hts hiX6 hown hK hP 1 rfl rfl 1 (by decide) hk_13 (fun _ h9 => h9) rfl dX6_copyFrom_10 ?_
  refine va_put (D := D) (ci := 6) (v := .int k1) (ty := .int) (C := RX6) (T := TX6) (N := 5) hx hb hts hiX6 tyX6 tyX6_ok nmX6 hown hK hP hD hS 0 rfl rfl 1 (by decide) hk_13 (fun _ h9 => h9) rfl (by decide +kernel) rfl rfl (Nat.le_of_ble_eq_true rfl) dX6_copyFrom_13 (fun H locs hP hD hS => ?_)
  have hP : va_P D vwCl [(h0, .inr (6, [.int k0, .int k1, .int f2, .int f3, .int f4])), (h1, .inr (6, [.int k0, .int k1, .int k2, .int k3, .int k4]))] H := hP
  have hD : va_D A [(h0, .inr (6, [.int k0, .int k1, .int f2, .int f3, .int f4])), (h1, .inr (6, [.int k0, .int k1, .int k2, .int k3, .int k4]))] := hD
  refine lv_aload_n hx hb dX6_copyFrom_16 rfl (lv_at hl 0 rfl) ?_
  refine lv_aload_n hx hb dX6_copyFrom_17 rfl (lv_at hl 1 rfl) ?_
  refine va_get (D := D) (ci := 6) (v := .int k2) (C := RX6) (T := TX6) (N := 5) hx hb hts hiX6 hown hK hP 1 rfl rfl 2 (by decide) hk_16 (fun _ h9 => h9) rfl dX6_copyFrom_18 ?_
  refine va_put (D := D) (ci := 6) (v := .int k2) (ty := .int) (C := RX6) (T := TX6) (N := 5) hx hb hts hiX6 tyX6 tyX6_ok nmX6 hown hK hP hD hS 0 rfl rfl 2 (by decide) hk_16 (fun _ h9 => h9) rfl (by decide +kernel) rfl rfl (Nat.le_of_ble_eq_true rfl) dX6_copyFrom_21 (fun H locs hP hD hS => ?_)
  have hP : va_P D vwCl [(h0, .inr (6, [.int k0, .int k1, .int k2, .int f3, .int f4])), (h1, .inr (6, [.int k0, .int k1, .int k2, .int k3, .int k4]))] H := hP
  have hD : va_D A [(h0, .inr (6, [.int k0, .int k1, .int k2, .int f3, .int f4])), (h1, .inr (6, [.int k0, .int k1, .int k2, .int k3, .int k4]))] := hD
  refine lv_aload_n hx hb dX6_copyFrom_24 rfl (lv_at hl 0 rfl) ?_
  refine lv_aload_n hx hb dX6_copyFrom_25 rfl (lv_at hl 1 rfl) ?_
  refine va_get (D := D) (ci := 6) (v := .int k3) (C := RX6) (T := TX6) (N := 5) hx hb hts hiX6 hown hK hP 1 rfl rfl 3 (by decide) hk_19 (fun _ h9 => h9) rfl dX6_copyFrom_26 ?_
  refine va_put (D := D) (ci := 6) (v := .int k3) (ty := .int) (C := RX6) (T := TX6) (N := 5) hx hb hts hiX6 tyX6 tyX6_ok nmX6 hown hK hP hD hS 0 rfl rfl 3 (by decide) hk_19 (fun _ h9 => h9) rfl (by decide +kernel) rfl rfl (Nat.le_of_ble_eq_true rfl) dX6_copyFrom_29 (fun H locs hP hD hS => ?_)
  have hP : va_P D vwCl [(h0, .inr (6, [.int k0, .int k1, .int k2, .int k3, .int f4])), (h1, .inr (6, [.int k0, .int k1, .int k2, .int k3, .int k4]))] H := hP
  have hD : va_D A [(h0, .inr (6, [.int k0, .int k1, .int k2, .int k3, .int f4])), (h1, .inr (6, [.int k0, .int k1, .int k2, .int k3, .int k4]))] := hD
  refine lv_aload_n hx hb dX6_copyFrom_32 rfl (lv_at hl 0 rfl) ?_
  refine lv_aload_n hx hb dX6_copyFrom_33 rfl (lv_at hl 1 rfl) ?_
  refine va_get (D := D) (ci := 6) (v := .int k4) (C := RX6) (T := TX6) (N := 5) hx hb hts hiX6 hown hK hP 1 rfl rfl 4 (by decide) hk_22 (fun _ h9 => h9) rfl dX6_copyFrom_34 ?_
  refine va_put (D := D) (ci := 6) (v := .int k4) (ty := .int) (C := RX6) (T := TX6) (N := 5) hx hb hts hiX6 tyX6 tyX6_ok nmX6 hown hK hP hD hS 0 rfl rfl 4 (by decide) hk_22 (fun _ h9 => h9) rfl (by decide +kernel) rfl rfl (Nat.le_of_ble_eq_true rfl) dX6_copyFrom_37 (fun H locs hP hD hS => ?_)
  have hP : va_P D vwCl [(h0, .inr (6, [.int k0, .int k1, .int k2, .int k3, .int k4])), (h1, .inr (6, [.int k0, .int k1, .int k2, .int k3, .int k4]))] H := hP
  have hD : va_D A [(h0, .inr (6, [.int k0, .int k1, .int k2, .int k3, .int k4])), (h1, .inr (6, [.int k0, .int k1, .int k2, .int k3, .int k4]))] := hD
  exact my_vret hx hb hr hlocks hK hP hD hS (k0, k1, k2, k3, k4) (by show (k0, k1, k2, k3, k4) = F_X6_copyFrom f0 f1 f2 f3 f4 k0 k1 k2 k3 k4; simp only [F_X6_copyFrom]) [0, 1] rfl rfl dX6_copyFrom_40
def F_X6_mixInto (x : Int64) (f0 : Int32) (f1 : Int32) (f2 : Int32) (f3 : Int32) (f4 : Int32) : Int64 :=
  let q1 := F_X8_mix x f0
  let q2 := F_X8_mix q1 f1
  let q3 := F_X8_mix q2 f2
  let q4 := F_X8_mix q3 f3
  let q5 := F_X8_mix q4 f4
  q5
set_option maxHeartbeats 4000000 in
set_option maxRecDepth 100000 in
theorem met_X6_mixInto (l : Launch) (D : va_G) (cI cJ cS : ClassId) (h0 : Nat) (x : Int64) (f0 : Int32) (f1 : Int32) (f2 : Int32) (f3 : Int32) (f4 : Int32)  : ∀ sz : Nat, Met l yX6_mixInto wsX6_mixInto ({ frames := 1, cells := 0, slots := 0, locals := 22 } : Room) (va_Pc [.ref h0, .long x] (cPre D (tyz cI cJ cS) ([(h0, .inr (6, [.int f0, .int f1, .int f2, .int f3, .int f4]))]) sz)) (va_Ql (fun (r : Int64) (_ : Unit) => r = F_X6_mixInto x f0 f1 f2 f3 f4) (fun u => cPost D (tyz cI cJ cS) (va_A ([(h0, .inr (6, [.int f0, .int f1, .int f2, .int f3, .int f4]))]) sz) ([(h0, .inr (6, [.int f0, .int f1, .int f2, .int f3, .int f4]))])) (va_A ([(h0, .inr (6, [.int f0, .int f1, .int f2, .int f3, .int f4]))]) sz)) 0 0 (va_A ([(h0, .inr (6, [.int f0, .int f1, .int f2, .int f3, .int f4]))]) sz) := by
  refine my_met (QC := fun A => (va_Ql (fun (r : Int64) (_ : Unit) => r = F_X6_mixInto x f0 f1 f2 f3 f4) (fun u => cPost D (tyz cI cJ cS) A ([(h0, .inr (6, [.int f0, .int f1, .int f2, .int f3, .int f4]))])) A)) (cc := cX6_mixInto) (maxL := 5) (ret := (some .long)) (by decide) rfl (Nat.le_of_ble_eq_true rfl) ?_
  intro p e s m below meth c ls A hx hb hml hr hts hown hlocks hname hK hP hD hS hA hG hl
  have hown : s.vm.findClass RX6 = some m.cls := hown
  have hl : lv_has ls 5 [(0, .ref h0), (1, .long x)] := hl
  have hP : va_P D vwCl [(h0, .inr (6, [.int f0, .int f1, .int f2, .int f3, .int f4]))] s.heap := hP
  have hD : va_D A [(h0, .inr (6, [.int f0, .int f1, .int f2, .int f3, .int f4]))] := hD
  have hiX6 : ∀ w ∈ u_ws RX6 TX6 5, w ∈ wsX6_mixInto := by decide +kernel
  have hk_13 := hts (.fieldLink RX6 13 "HallCommutator$Settings" "period" "I") (by decide +kernel)
  have hk_16 := hts (.fieldLink RX6 16 "HallCommutator$Settings" "duty" "I") (by decide +kernel)
  have hk_19 := hts (.fieldLink RX6 19 "HallCommutator$Settings" "deadTime" "I") (by decide +kernel)
  have hk_22 := hts (.fieldLink RX6 22 "HallCommutator$Settings" "stallTime" "I") (by decide +kernel)
  have hk_7 := hts (.fieldLink RX6 7 "HallCommutator$Settings" "filterTime" "I") (by decide +kernel)
  refine lv_lload_n hx hb dX6_mixInto_0 rfl (lv_at hl 1 rfl) ?_
  refine lv_aload_n hx hb dX6_mixInto_1 rfl (lv_at hl 0 rfl) ?_
  refine va_get (D := D) (ci := 6) (v := .int f0) (C := RX6) (T := TX6) (N := 5) hx hb hts hiX6 hown hK hP 0 rfl rfl 0 (by decide) hk_7 (fun _ h9 => h9) rfl dX6_mixInto_2 ?_
  refine my_callSN_l (As := [.long x, .int f0]) (rest := []) (wc := []) (wr := [(h0, .inr (6, [.int f0, .int f1, .int f2, .int f3, .int f4]))]) ⟨hx, hb, hml, hown, hts⟩ (met_X8_mix l D cI cJ cS x f0 _) ⟨va_cnB 2 hts gX6_mixInto_X8_mix_n25 rfl rfl rfl (hG.1.1 (RX6, 25, yX8_mix, "HallCommutator") (by decide +kernel)) (hts (.initialized RX8) (by decide +kernel)) (by decide +kernel) ⟨Nat.le_of_ble_eq_true rfl, Nat.le_of_ble_eq_true rfl⟩, hts (.static yX8_mix) (by decide +kernel), trivial⟩ hK hP hD hS hA hG [] [0] rfl rfl rfl rfl (by decide) rfl hl.1 (Nat.le_of_ble_eq_true rfl) rfl dX6_mixInto_5 ⟨Nat.le_of_ble_eq_true rfl, Nat.le_of_ble_eq_true rfl⟩ (fun r_1 _ H locs hw_1 hP hD hS => ?_)
  have hP : va_P D vwCl [(h0, .inr (6, [.int f0, .int f1, .int f2, .int f3, .int f4]))] H := hP
  have hD : va_D A [(h0, .inr (6, [.int f0, .int f1, .int f2, .int f3, .int f4]))] := hD
  refine lv_lstore_n (lv' := [(3, .long r_1), (0, .ref h0), (1, .long x)]) hx hb dX6_mixInto_8 rfl hl (by decide) rfl (fun ls hl => ?_)
  refine lv_lload_n hx hb dX6_mixInto_9 rfl (lv_at hl 0 rfl) ?_
  refine lv_aload_n hx hb dX6_mixInto_10 rfl (lv_at hl 1 rfl) ?_
  refine va_get (D := D) (ci := 6) (v := .int f1) (C := RX6) (T := TX6) (N := 5) hx hb hts hiX6 hown hK hP 0 rfl rfl 1 (by decide) hk_13 (fun _ h9 => h9) rfl dX6_mixInto_11 ?_
  refine my_callSN_l (As := [.long r_1, .int f1]) (rest := []) (wc := []) (wr := [(h0, .inr (6, [.int f0, .int f1, .int f2, .int f3, .int f4]))]) ⟨hx, hb, hml, hown, hts⟩ (met_X8_mix l D cI cJ cS r_1 f1 _) ⟨va_cnB 2 hts gX6_mixInto_X8_mix_n25 rfl rfl rfl (hG.1.1 (RX6, 25, yX8_mix, "HallCommutator") (by decide +kernel)) (hts (.initialized RX8) (by decide +kernel)) (by decide +kernel) ⟨Nat.le_of_ble_eq_true rfl, Nat.le_of_ble_eq_true rfl⟩, hts (.static yX8_mix) (by decide +kernel), trivial⟩ hK hP hD hS hA hG [] [0] rfl rfl rfl rfl (by decide) rfl hl.1 (Nat.le_of_ble_eq_true rfl) rfl dX6_mixInto_14 ⟨Nat.le_of_ble_eq_true rfl, Nat.le_of_ble_eq_true rfl⟩ (fun r_2 _ H locs hw_2 hP hD hS => ?_)
  have hP : va_P D vwCl [(h0, .inr (6, [.int f0, .int f1, .int f2, .int f3, .int f4]))] H := hP
  have hD : va_D A [(h0, .inr (6, [.int f0, .int f1, .int f2, .int f3, .int f4]))] := hD
  refine lv_lstore_n (lv' := [(3, .long r_2), (0, .ref h0), (1, .long x)]) hx hb dX6_mixInto_17 rfl hl (by decide) rfl (fun ls hl => ?_)
  refine lv_lload_n hx hb dX6_mixInto_18 rfl (lv_at hl 0 rfl) ?_
  refine lv_aload_n hx hb dX6_mixInto_19 rfl (lv_at hl 1 rfl) ?_
  refine va_get (D := D) (ci := 6) (v := .int f2) (C := RX6) (T := TX6) (N := 5) hx hb hts hiX6 hown hK hP 0 rfl rfl 2 (by decide) hk_16 (fun _ h9 => h9) rfl dX6_mixInto_20 ?_
  refine my_callSN_l (As := [.long r_2, .int f2]) (rest := []) (wc := []) (wr := [(h0, .inr (6, [.int f0, .int f1, .int f2, .int f3, .int f4]))]) ⟨hx, hb, hml, hown, hts⟩ (met_X8_mix l D cI cJ cS r_2 f2 _) ⟨va_cnB 2 hts gX6_mixInto_X8_mix_n25 rfl rfl rfl (hG.1.1 (RX6, 25, yX8_mix, "HallCommutator") (by decide +kernel)) (hts (.initialized RX8) (by decide +kernel)) (by decide +kernel) ⟨Nat.le_of_ble_eq_true rfl, Nat.le_of_ble_eq_true rfl⟩, hts (.static yX8_mix) (by decide +kernel), trivial⟩ hK hP hD hS hA hG [] [0] rfl rfl rfl rfl (by decide) rfl hl.1 (Nat.le_of_ble_eq_true rfl) rfl dX6_mixInto_23 ⟨Nat.le_of_ble_eq_true rfl, Nat.le_of_ble_eq_true rfl⟩ (fun r_3 _ H locs hw_3 hP hD hS => ?_)
  have hP : va_P D vwCl [(h0, .inr (6, [.int f0, .int f1, .int f2, .int f3, .int f4]))] H := hP
  have hD : va_D A [(h0, .inr (6, [.int f0, .int f1, .int f2, .int f3, .int f4]))] := hD
  refine lv_lstore_n (lv' := [(3, .long r_3), (0, .ref h0), (1, .long x)]) hx hb dX6_mixInto_26 rfl hl (by decide) rfl (fun ls hl => ?_)
  refine lv_lload_n hx hb dX6_mixInto_27 rfl (lv_at hl 0 rfl) ?_
  refine lv_aload_n hx hb dX6_mixInto_28 rfl (lv_at hl 1 rfl) ?_
  refine va_get (D := D) (ci := 6) (v := .int f3) (C := RX6) (T := TX6) (N := 5) hx hb hts hiX6 hown hK hP 0 rfl rfl 3 (by decide) hk_19 (fun _ h9 => h9) rfl dX6_mixInto_29 ?_
  refine my_callSN_l (As := [.long r_3, .int f3]) (rest := []) (wc := []) (wr := [(h0, .inr (6, [.int f0, .int f1, .int f2, .int f3, .int f4]))]) ⟨hx, hb, hml, hown, hts⟩ (met_X8_mix l D cI cJ cS r_3 f3 _) ⟨va_cnB 2 hts gX6_mixInto_X8_mix_n25 rfl rfl rfl (hG.1.1 (RX6, 25, yX8_mix, "HallCommutator") (by decide +kernel)) (hts (.initialized RX8) (by decide +kernel)) (by decide +kernel) ⟨Nat.le_of_ble_eq_true rfl, Nat.le_of_ble_eq_true rfl⟩, hts (.static yX8_mix) (by decide +kernel), trivial⟩ hK hP hD hS hA hG [] [0] rfl rfl rfl rfl (by decide) rfl hl.1 (Nat.le_of_ble_eq_true rfl) rfl dX6_mixInto_32 ⟨Nat.le_of_ble_eq_true rfl, Nat.le_of_ble_eq_true rfl⟩ (fun r_4 _ H locs hw_4 hP hD hS => ?_)
  have hP : va_P D vwCl [(h0, .inr (6, [.int f0, .int f1, .int f2, .int f3, .int f4]))] H := hP
  have hD : va_D A [(h0, .inr (6, [.int f0, .int f1, .int f2, .int f3, .int f4]))] := hD
  refine lv_lstore_n (lv' := [(3, .long r_4), (0, .ref h0), (1, .long x)]) hx hb dX6_mixInto_35 rfl hl (by decide) rfl (fun ls hl => ?_)
  refine lv_lload_n hx hb dX6_mixInto_36 rfl (lv_at hl 0 rfl) ?_
  refine lv_aload_n hx hb dX6_mixInto_37 rfl (lv_at hl 1 rfl) ?_
  refine va_get (D := D) (ci := 6) (v := .int f4) (C := RX6) (T := TX6) (N := 5) hx hb hts hiX6 hown hK hP 0 rfl rfl 4 (by decide) hk_22 (fun _ h9 => h9) rfl dX6_mixInto_38 ?_
  refine my_callSN_l (As := [.long r_4, .int f4]) (rest := []) (wc := []) (wr := [(h0, .inr (6, [.int f0, .int f1, .int f2, .int f3, .int f4]))]) ⟨hx, hb, hml, hown, hts⟩ (met_X8_mix l D cI cJ cS r_4 f4 _) ⟨va_cnB 2 hts gX6_mixInto_X8_mix_n25 rfl rfl rfl (hG.1.1 (RX6, 25, yX8_mix, "HallCommutator") (by decide +kernel)) (hts (.initialized RX8) (by decide +kernel)) (by decide +kernel) ⟨Nat.le_of_ble_eq_true rfl, Nat.le_of_ble_eq_true rfl⟩, hts (.static yX8_mix) (by decide +kernel), trivial⟩ hK hP hD hS hA hG [] [0] rfl rfl rfl rfl (by decide) rfl hl.1 (Nat.le_of_ble_eq_true rfl) rfl dX6_mixInto_41 ⟨Nat.le_of_ble_eq_true rfl, Nat.le_of_ble_eq_true rfl⟩ (fun r_5 _ H locs hw_5 hP hD hS => ?_)
  have hP : va_P D vwCl [(h0, .inr (6, [.int f0, .int f1, .int f2, .int f3, .int f4]))] H := hP
  have hD : va_D A [(h0, .inr (6, [.int f0, .int f1, .int f2, .int f3, .int f4]))] := hD
  exact my_lret hx hb hr hlocks hK hP hD hS () (by show r_5 = F_X6_mixInto x f0 f1 f2 f3 f4; simp only [F_X6_mixInto, ← hw_1, ← hw_2, ← hw_3, ← hw_4, ← hw_5]) [0] rfl rfl dX6_mixInto_44
def F_X5_copyFrom (f0 : Int32) (f1 : Int32) (f2 : Int32) (f3 : Int32) (f4 : Int32) (k0 : Int32) (k1 : Int32) (k2 : Int32) (k3 : Int32) (k4 : Int32) : Int32 × Int32 × Int32 × Int32 × Int32 :=
  (k0, k1, k2, k3, k4)
set_option maxHeartbeats 4000000 in
set_option maxRecDepth 100000 in
theorem met_X5_copyFrom (l : Launch) (D : va_G) (cI cJ cS : ClassId) (h0 : Nat) (h1 : Nat) (f0 : Int32) (f1 : Int32) (f2 : Int32) (f3 : Int32) (f4 : Int32) (k0 : Int32) (k1 : Int32) (k2 : Int32) (k3 : Int32) (k4 : Int32)  : ∀ sz : Nat, Met l yX5_copyFrom wsX5_copyFrom ({ frames := 0, cells := 0, slots := 0, locals := 0 } : Room) (va_Pc [.ref h0, .ref h1] (cPre D (tyz cI cJ cS) ([(h0, .inr (5, [.int f0, .int f1, .int f2, .int f3, .int f4])), (h1, .inr (5, [.int k0, .int k1, .int k2, .int k3, .int k4]))]) sz)) (va_Qv (fun (u : Int32 × Int32 × Int32 × Int32 × Int32) => u = F_X5_copyFrom f0 f1 f2 f3 f4 k0 k1 k2 k3 k4) (fun u => cPost D (tyz cI cJ cS) (va_A ([(h0, .inr (5, [.int f0, .int f1, .int f2, .int f3, .int f4])), (h1, .inr (5, [.int k0, .int k1, .int k2, .int k3, .int k4]))]) sz) ([(h0, .inr (5, [.int u.1, .int u.2.1, .int u.2.2.1, .int u.2.2.2.1, .int u.2.2.2.2])), (h1, .inr (5, [.int k0, .int k1, .int k2, .int k3, .int k4]))])) (va_A ([(h0, .inr (5, [.int f0, .int f1, .int f2, .int f3, .int f4])), (h1, .inr (5, [.int k0, .int k1, .int k2, .int k3, .int k4]))]) sz)) 0 0 (va_A ([(h0, .inr (5, [.int f0, .int f1, .int f2, .int f3, .int f4])), (h1, .inr (5, [.int k0, .int k1, .int k2, .int k3, .int k4]))]) sz) := by
  refine my_met (QC := fun A => (va_Qv (fun (u : Int32 × Int32 × Int32 × Int32 × Int32) => u = F_X5_copyFrom f0 f1 f2 f3 f4 k0 k1 k2 k3 k4) (fun u => cPost D (tyz cI cJ cS) A ([(h0, .inr (5, [.int u.1, .int u.2.1, .int u.2.2.1, .int u.2.2.2.1, .int u.2.2.2.2])), (h1, .inr (5, [.int k0, .int k1, .int k2, .int k3, .int k4]))])) A)) (cc := cX5_copyFrom) (maxL := 2) (ret := none) (by decide) rfl (Nat.le_of_ble_eq_true rfl) ?_
  intro p e s m below meth c ls A hx hb hml hr hts hown hlocks hname hK hP hD hS hA hG hl
  have hown : s.vm.findClass RX5 = some m.cls := hown
  have hl : lv_has ls 2 [(0, .ref h0), (1, .ref h1)] := hl
  have hP : va_P D vwCl [(h0, .inr (5, [.int f0, .int f1, .int f2, .int f3, .int f4])), (h1, .inr (5, [.int k0, .int k1, .int k2, .int k3, .int k4]))] s.heap := hP
  have hD : va_D A [(h0, .inr (5, [.int f0, .int f1, .int f2, .int f3, .int f4])), (h1, .inr (5, [.int k0, .int k1, .int k2, .int k3, .int k4]))] := hD
  have hiX5 : ∀ w ∈ u_ws RX5 TX5 5, w ∈ wsX5_copyFrom := by decide +kernel
  have hk_13 := hts (.fieldLink RX5 13 "HallCommutator$Sensors" "filtered" "I") (by decide +kernel)
  have hk_16 := hts (.fieldLink RX5 16 "HallCommutator$Sensors" "sector" "I") (by decide +kernel)
  have hk_19 := hts (.fieldLink RX5 19 "HallCommutator$Sensors" "candidate" "I") (by decide +kernel)
  have hk_22 := hts (.fieldLink RX5 22 "HallCommutator$Sensors" "filterCount" "I") (by decide +kernel)
  have hk_7 := hts (.fieldLink RX5 7 "HallCommutator$Sensors" "raw" "I") (by decide +kernel)
  refine lv_aload_n hx hb dX5_copyFrom_0 rfl (lv_at hl 0 rfl) ?_
  refine lv_aload_n hx hb dX5_copyFrom_1 rfl (lv_at hl 1 rfl) ?_
  refine va_get (D := D) (ci := 5) (v := .int k0) (C := RX5) (T := TX5) (N := 5) hx hb hts hiX5 hown hK hP 1 rfl rfl 0 (by decide) hk_7 (fun _ h9 => h9) rfl dX5_copyFrom_2 ?_
  refine va_put (D := D) (ci := 5) (v := .int k0) (ty := .int) (C := RX5) (T := TX5) (N := 5) hx hb hts hiX5 tyX5 tyX5_ok nmX5 hown hK hP hD hS 0 rfl rfl 0 (by decide) hk_7 (fun _ h9 => h9) rfl (by decide +kernel) rfl rfl (Nat.le_of_ble_eq_true rfl) dX5_copyFrom_5 (fun H locs hP hD hS => ?_)
  have hP : va_P D vwCl [(h0, .inr (5, [.int k0, .int f1, .int f2, .int f3, .int f4])), (h1, .inr (5, [.int k0, .int k1, .int k2, .int k3, .int k4]))] H := hP
  have hD : va_D A [(h0, .inr (5, [.int k0, .int f1, .int f2, .int f3, .int f4])), (h1, .inr (5, [.int k0, .int k1, .int k2, .int k3, .int k4]))] := hD
  refine lv_aload_n hx hb dX5_copyFrom_8 rfl (lv_at hl 0 rfl) ?_
  refine lv_aload_n hx hb dX5_copyFrom_9 rfl (lv_at hl 1 rfl) ?_
  refine va_get (D := D) (ci := 5) (v := .int k1) (C := RX5) (T := TX5) (N := 5) hx hb hts hiX5 hown hK hP 1 rfl rfl 1 (by decide) hk_13 (fun _ h9 => h9) rfl dX5_copyFrom_10 ?_
  refine va_put (D := D) (ci := 5) (v := .int k1) (ty := .int) (C := RX5) (T := TX5) (N := 5) hx hb hts hiX5 tyX5 tyX5_ok nmX5 hown hK hP hD hS 0 rfl rfl 1 (by decide) hk_13 (fun _ h9 => h9) rfl (by decide +kernel) rfl rfl (Nat.le_of_ble_eq_true rfl) dX5_copyFrom_13 (fun H locs hP hD hS => ?_)
  have hP : va_P D vwCl [(h0, .inr (5, [.int k0, .int k1, .int f2, .int f3, .int f4])), (h1, .inr (5, [.int k0, .int k1, .int k2, .int k3, .int k4]))] H := hP
  have hD : va_D A [(h0, .inr (5, [.int k0, .int k1, .int f2, .int f3, .int f4])), (h1, .inr (5, [.int k0, .int k1, .int k2, .int k3, .int k4]))] := hD
  refine lv_aload_n hx hb dX5_copyFrom_16 rfl (lv_at hl 0 rfl) ?_
  refine lv_aload_n hx hb dX5_copyFrom_17 rfl (lv_at hl 1 rfl) ?_
  refine va_get (D := D) (ci := 5) (v := .int k2) (C := RX5) (T := TX5) (N := 5) hx hb hts hiX5 hown hK hP 1 rfl rfl 2 (by decide) hk_16 (fun _ h9 => h9) rfl dX5_copyFrom_18 ?_
  refine va_put (D := D) (ci := 5) (v := .int k2) (ty := .int) (C := RX5) (T := TX5) (N := 5) hx hb hts hiX5 tyX5 tyX5_ok nmX5 hown hK hP hD hS 0 rfl rfl 2 (by decide) hk_16 (fun _ h9 => h9) rfl (by decide +kernel) rfl rfl (Nat.le_of_ble_eq_true rfl) dX5_copyFrom_21 (fun H locs hP hD hS => ?_)
  have hP : va_P D vwCl [(h0, .inr (5, [.int k0, .int k1, .int k2, .int f3, .int f4])), (h1, .inr (5, [.int k0, .int k1, .int k2, .int k3, .int k4]))] H := hP
  have hD : va_D A [(h0, .inr (5, [.int k0, .int k1, .int k2, .int f3, .int f4])), (h1, .inr (5, [.int k0, .int k1, .int k2, .int k3, .int k4]))] := hD
  refine lv_aload_n hx hb dX5_copyFrom_24 rfl (lv_at hl 0 rfl) ?_
  refine lv_aload_n hx hb dX5_copyFrom_25 rfl (lv_at hl 1 rfl) ?_
  refine va_get (D := D) (ci := 5) (v := .int k3) (C := RX5) (T := TX5) (N := 5) hx hb hts hiX5 hown hK hP 1 rfl rfl 3 (by decide) hk_19 (fun _ h9 => h9) rfl dX5_copyFrom_26 ?_
  refine va_put (D := D) (ci := 5) (v := .int k3) (ty := .int) (C := RX5) (T := TX5) (N := 5) hx hb hts hiX5 tyX5 tyX5_ok nmX5 hown hK hP hD hS 0 rfl rfl 3 (by decide) hk_19 (fun _ h9 => h9) rfl (by decide +kernel) rfl rfl (Nat.le_of_ble_eq_true rfl) dX5_copyFrom_29 (fun H locs hP hD hS => ?_)
  have hP : va_P D vwCl [(h0, .inr (5, [.int k0, .int k1, .int k2, .int k3, .int f4])), (h1, .inr (5, [.int k0, .int k1, .int k2, .int k3, .int k4]))] H := hP
  have hD : va_D A [(h0, .inr (5, [.int k0, .int k1, .int k2, .int k3, .int f4])), (h1, .inr (5, [.int k0, .int k1, .int k2, .int k3, .int k4]))] := hD
  refine lv_aload_n hx hb dX5_copyFrom_32 rfl (lv_at hl 0 rfl) ?_
  refine lv_aload_n hx hb dX5_copyFrom_33 rfl (lv_at hl 1 rfl) ?_
  refine va_get (D := D) (ci := 5) (v := .int k4) (C := RX5) (T := TX5) (N := 5) hx hb hts hiX5 hown hK hP 1 rfl rfl 4 (by decide) hk_22 (fun _ h9 => h9) rfl dX5_copyFrom_34 ?_
  refine va_put (D := D) (ci := 5) (v := .int k4) (ty := .int) (C := RX5) (T := TX5) (N := 5) hx hb hts hiX5 tyX5 tyX5_ok nmX5 hown hK hP hD hS 0 rfl rfl 4 (by decide) hk_22 (fun _ h9 => h9) rfl (by decide +kernel) rfl rfl (Nat.le_of_ble_eq_true rfl) dX5_copyFrom_37 (fun H locs hP hD hS => ?_)
  have hP : va_P D vwCl [(h0, .inr (5, [.int k0, .int k1, .int k2, .int k3, .int k4])), (h1, .inr (5, [.int k0, .int k1, .int k2, .int k3, .int k4]))] H := hP
  have hD : va_D A [(h0, .inr (5, [.int k0, .int k1, .int k2, .int k3, .int k4])), (h1, .inr (5, [.int k0, .int k1, .int k2, .int k3, .int k4]))] := hD
  exact my_vret hx hb hr hlocks hK hP hD hS (k0, k1, k2, k3, k4) (by show (k0, k1, k2, k3, k4) = F_X5_copyFrom f0 f1 f2 f3 f4 k0 k1 k2 k3 k4; simp only [F_X5_copyFrom]) [0, 1] rfl rfl dX5_copyFrom_40
def F_X5_filterRaw (f0 : Int32) (f1 : Int32) (f2 : Int32) (f3 : Int32) (f4 : Int32) (t : Int32) : Int32 × Int32 × Int32 × Int32 :=
  if f0 = f1 then
    ((0 : Int32), (f1, f3, (0 : Int32)))
  else
    if f0 = f3 then
      if f4 ≤ (0 : Int32) then
        if t ≤ (1 : Int32) then
          ((1 : Int32), (f0, f0, (0 : Int32)))
        else
          ((0 : Int32), (f1, f0, (1 : Int32)))
      else
        if t ≤ f4 + (1 : Int32) then
          ((1 : Int32), (f0, f3, (0 : Int32)))
        else
          ((0 : Int32), (f1, f3, f4 + (1 : Int32)))
    else
      if t ≤ (1 : Int32) then
        ((1 : Int32), (f0, f0, (0 : Int32)))
      else
        ((0 : Int32), (f1, f0, (1 : Int32)))
set_option maxHeartbeats 4000000 in
set_option maxRecDepth 100000 in
theorem met_X5_filterRaw (l : Launch) (D : va_G) (cI cJ cS : ClassId) (h0 : Nat) (f0 : Int32) (f1 : Int32) (f2 : Int32) (f3 : Int32) (f4 : Int32) (t : Int32)  : ∀ sz : Nat, Met l yX5_filterRaw wsX5_filterRaw ({ frames := 0, cells := 0, slots := 0, locals := 0 } : Room) (va_Pc [.ref h0, .int t] (cPre D (tyz cI cJ cS) ([(h0, .inr (5, [.int f0, .int f1, .int f2, .int f3, .int f4]))]) sz)) (va_Qi (fun (r : Int32) (u : Int32 × Int32 × Int32) => (r, u) = F_X5_filterRaw f0 f1 f2 f3 f4 t) (fun u => cPost D (tyz cI cJ cS) (va_A ([(h0, .inr (5, [.int f0, .int f1, .int f2, .int f3, .int f4]))]) sz) ([(h0, .inr (5, [.int f0, .int u.1, .int f2, .int u.2.1, .int u.2.2]))])) (va_A ([(h0, .inr (5, [.int f0, .int f1, .int f2, .int f3, .int f4]))]) sz)) 0 0 (va_A ([(h0, .inr (5, [.int f0, .int f1, .int f2, .int f3, .int f4]))]) sz) := by
  refine my_met (QC := fun A => (va_Qi (fun (r : Int32) (u : Int32 × Int32 × Int32) => (r, u) = F_X5_filterRaw f0 f1 f2 f3 f4 t) (fun u => cPost D (tyz cI cJ cS) A ([(h0, .inr (5, [.int f0, .int u.1, .int f2, .int u.2.1, .int u.2.2]))])) A)) (cc := cX5_filterRaw) (maxL := 2) (ret := (some .boolean)) (by decide) rfl (Nat.le_of_ble_eq_true rfl) ?_
  intro p e s m below meth c ls A hx hb hml hr hts hown hlocks hname hK hP hD hS hA hG hl
  have hown : s.vm.findClass RX5 = some m.cls := hown
  have hl : lv_has ls 2 [(0, .ref h0), (1, .int t)] := hl
  have hP : va_P D vwCl [(h0, .inr (5, [.int f0, .int f1, .int f2, .int f3, .int f4]))] s.heap := hP
  have hD : va_D A [(h0, .inr (5, [.int f0, .int f1, .int f2, .int f3, .int f4]))] := hD
  have hiX5 : ∀ w ∈ u_ws RX5 TX5 5, w ∈ wsX5_filterRaw := by decide +kernel
  have hk_13 := hts (.fieldLink RX5 13 "HallCommutator$Sensors" "filtered" "I") (by decide +kernel)
  have hk_19 := hts (.fieldLink RX5 19 "HallCommutator$Sensors" "candidate" "I") (by decide +kernel)
  have hk_22 := hts (.fieldLink RX5 22 "HallCommutator$Sensors" "filterCount" "I") (by decide +kernel)
  have hk_7 := hts (.fieldLink RX5 7 "HallCommutator$Sensors" "raw" "I") (by decide +kernel)
  refine lv_aload_n hx hb dX5_filterRaw_0 rfl (lv_at hl 0 rfl) ?_
  refine va_get (D := D) (ci := 5) (v := .int f0) (C := RX5) (T := TX5) (N := 5) hx hb hts hiX5 hown hK hP 0 rfl rfl 0 (by decide) hk_7 (fun _ h9 => h9) rfl dX5_filterRaw_1 ?_
  refine lv_aload_n hx hb dX5_filterRaw_4 rfl (lv_at hl 0 rfl) ?_
  refine va_get (D := D) (ci := 5) (v := .int f1) (C := RX5) (T := TX5) (N := 5) hx hb hts hiX5 hown hK hP 0 rfl rfl 1 (by decide) hk_13 (fun _ h9 => h9) rfl dX5_filterRaw_5 ?_
  refine lv_icmp_ne (tgt := 18) hx hb dX5_filterRaw_8 (by decide) (fun c_1 => ?_) (fun c_1 => ?_)
  · skip
    refine lv_aload_n hx hb dX5_filterRaw_18 rfl (lv_at hl 0 rfl) ?_
    refine va_get (D := D) (ci := 5) (v := .int f0) (C := RX5) (T := TX5) (N := 5) hx hb hts hiX5 hown hK hP 0 rfl rfl 0 (by decide) hk_7 (fun _ h9 => h9) rfl dX5_filterRaw_19 ?_
    refine lv_aload_n hx hb dX5_filterRaw_22 rfl (lv_at hl 0 rfl) ?_
    refine va_get (D := D) (ci := 5) (v := .int f3) (C := RX5) (T := TX5) (N := 5) hx hb hts hiX5 hown hK hP 0 rfl rfl 3 (by decide) hk_19 (fun _ h9 => h9) rfl dX5_filterRaw_23 ?_
    refine lv_icmp_ne (tgt := 49) hx hb dX5_filterRaw_26 (by decide) (fun c_2 => ?_) (fun c_2 => ?_)
    · skip
      refine lv_aload_n hx hb dX5_filterRaw_49 rfl (lv_at hl 0 rfl) ?_
      refine lv_aload_n hx hb dX5_filterRaw_50 rfl (lv_at hl 0 rfl) ?_
      refine va_get (D := D) (ci := 5) (v := .int f0) (C := RX5) (T := TX5) (N := 5) hx hb hts hiX5 hown hK hP 0 rfl rfl 0 (by decide) hk_7 (fun _ h9 => h9) rfl dX5_filterRaw_51 ?_
      refine va_put (D := D) (ci := 5) (v := .int f0) (ty := .int) (C := RX5) (T := TX5) (N := 5) hx hb hts hiX5 tyX5 tyX5_ok nmX5 hown hK hP hD hS 0 rfl rfl 3 (by decide) hk_19 (fun _ h9 => h9) rfl (by decide +kernel) rfl rfl (Nat.le_of_ble_eq_true rfl) dX5_filterRaw_54 (fun H locs hP hD hS => ?_)
      have hP : va_P D vwCl [(h0, .inr (5, [.int f0, .int f1, .int f2, .int f0, .int f4]))] H := hP
      have hD : va_D A [(h0, .inr (5, [.int f0, .int f1, .int f2, .int f0, .int f4]))] := hD
      refine lv_aload_n hx hb dX5_filterRaw_57 rfl (lv_at hl 0 rfl) ?_
      refine lv_iconst (v := 1) hx hb dX5_filterRaw_58 (by decide) ?_
      refine va_put (D := D) (ci := 5) (v := .int (1 : Int32)) (ty := .int) (C := RX5) (T := TX5) (N := 5) hx hb hts hiX5 tyX5 tyX5_ok nmX5 hown hK hP hD hS 0 rfl rfl 4 (by decide) hk_22 (fun _ h9 => h9) rfl (by decide +kernel) rfl rfl (Nat.le_of_ble_eq_true rfl) dX5_filterRaw_59 (fun H locs hP hD hS => ?_)
      have hP : va_P D vwCl [(h0, .inr (5, [.int f0, .int f1, .int f2, .int f0, .int (1 : Int32)]))] H := hP
      have hD : va_D A [(h0, .inr (5, [.int f0, .int f1, .int f2, .int f0, .int (1 : Int32)]))] := hD
      refine lv_aload_n hx hb dX5_filterRaw_62 rfl (lv_at hl 0 rfl) ?_
      refine va_get (D := D) (ci := 5) (v := .int (1 : Int32)) (C := RX5) (T := TX5) (N := 5) hx hb hts hiX5 hown hK hP 0 rfl rfl 4 (by decide) hk_22 (fun _ h9 => h9) rfl dX5_filterRaw_63 ?_
      refine lv_iload_n hx hb dX5_filterRaw_66 rfl (lv_at hl 1 rfl) ?_
      refine lv_icmp_ge (tgt := 72) hx hb dX5_filterRaw_67 (by decide) (fun c_3 => ?_) (fun c_3 => ?_)
      · skip
        refine lv_aload_n hx hb dX5_filterRaw_72 rfl (lv_at hl 0 rfl) ?_
        refine lv_aload_n hx hb dX5_filterRaw_73 rfl (lv_at hl 0 rfl) ?_
        refine va_get (D := D) (ci := 5) (v := .int f0) (C := RX5) (T := TX5) (N := 5) hx hb hts hiX5 hown hK hP 0 rfl rfl 0 (by decide) hk_7 (fun _ h9 => h9) rfl dX5_filterRaw_74 ?_
        refine va_put (D := D) (ci := 5) (v := .int f0) (ty := .int) (C := RX5) (T := TX5) (N := 5) hx hb hts hiX5 tyX5 tyX5_ok nmX5 hown hK hP hD hS 0 rfl rfl 1 (by decide) hk_13 (fun _ h9 => h9) rfl (by decide +kernel) rfl rfl (Nat.le_of_ble_eq_true rfl) dX5_filterRaw_77 (fun H locs hP hD hS => ?_)
        have hP : va_P D vwCl [(h0, .inr (5, [.int f0, .int f0, .int f2, .int f0, .int (1 : Int32)]))] H := hP
        have hD : va_D A [(h0, .inr (5, [.int f0, .int f0, .int f2, .int f0, .int (1 : Int32)]))] := hD
        refine lv_aload_n hx hb dX5_filterRaw_80 rfl (lv_at hl 0 rfl) ?_
        refine lv_iconst (v := 0) hx hb dX5_filterRaw_81 (by decide) ?_
        refine va_put (D := D) (ci := 5) (v := .int (0 : Int32)) (ty := .int) (C := RX5) (T := TX5) (N := 5) hx hb hts hiX5 tyX5 tyX5_ok nmX5 hown hK hP hD hS 0 rfl rfl 4 (by decide) hk_22 (fun _ h9 => h9) rfl (by decide +kernel) rfl rfl (Nat.le_of_ble_eq_true rfl) dX5_filterRaw_82 (fun H locs hP hD hS => ?_)
        have hP : va_P D vwCl [(h0, .inr (5, [.int f0, .int f0, .int f2, .int f0, .int (0 : Int32)]))] H := hP
        have hD : va_D A [(h0, .inr (5, [.int f0, .int f0, .int f2, .int f0, .int (0 : Int32)]))] := hD
        refine lv_iconst (v := 1) hx hb dX5_filterRaw_85 (by decide) ?_
        exact my_iret hx hb hr rfl hlocks hK hP hD hS (f0, f0, (0 : Int32)) (by show ((1 : Int32), (f0, f0, (0 : Int32))) = F_X5_filterRaw f0 f1 f2 f3 f4 t; simp only [F_X5_filterRaw, if_neg c_1, if_neg c_2, if_pos c_3]) [0] rfl rfl dX5_filterRaw_86
      · skip
        refine lv_iconst (v := 0) hx hb dX5_filterRaw_70 (by decide) ?_
        exact my_iret hx hb hr rfl hlocks hK hP hD hS (f1, f0, (1 : Int32)) (by show ((0 : Int32), (f1, f0, (1 : Int32))) = F_X5_filterRaw f0 f1 f2 f3 f4 t; simp only [F_X5_filterRaw, if_neg c_1, if_neg c_2, if_neg c_3]) [0] rfl rfl dX5_filterRaw_71
    · skip
      refine lv_aload_n hx hb dX5_filterRaw_29 rfl (lv_at hl 0 rfl) ?_
      refine va_get (D := D) (ci := 5) (v := .int f4) (C := RX5) (T := TX5) (N := 5) hx hb hts hiX5 hown hK hP 0 rfl rfl 4 (by decide) hk_22 (fun _ h9 => h9) rfl dX5_filterRaw_30 ?_
      refine lv_if_le (tgt := 49) hx hb dX5_filterRaw_33 (by decide) (fun c_4 => ?_) (fun c_4 => ?_)
      · skip
        refine lv_aload_n hx hb dX5_filterRaw_49 rfl (lv_at hl 0 rfl) ?_
        refine lv_aload_n hx hb dX5_filterRaw_50 rfl (lv_at hl 0 rfl) ?_
        refine va_get (D := D) (ci := 5) (v := .int f0) (C := RX5) (T := TX5) (N := 5) hx hb hts hiX5 hown hK hP 0 rfl rfl 0 (by decide) hk_7 (fun _ h9 => h9) rfl dX5_filterRaw_51 ?_
        refine va_put (D := D) (ci := 5) (v := .int f0) (ty := .int) (C := RX5) (T := TX5) (N := 5) hx hb hts hiX5 tyX5 tyX5_ok nmX5 hown hK hP hD hS 0 rfl rfl 3 (by decide) hk_19 (fun _ h9 => h9) rfl (by decide +kernel) rfl rfl (Nat.le_of_ble_eq_true rfl) dX5_filterRaw_54 (fun H locs hP hD hS => ?_)
        have hP : va_P D vwCl [(h0, .inr (5, [.int f0, .int f1, .int f2, .int f0, .int f4]))] H := hP
        have hD : va_D A [(h0, .inr (5, [.int f0, .int f1, .int f2, .int f0, .int f4]))] := hD
        refine lv_aload_n hx hb dX5_filterRaw_57 rfl (lv_at hl 0 rfl) ?_
        refine lv_iconst (v := 1) hx hb dX5_filterRaw_58 (by decide) ?_
        refine va_put (D := D) (ci := 5) (v := .int (1 : Int32)) (ty := .int) (C := RX5) (T := TX5) (N := 5) hx hb hts hiX5 tyX5 tyX5_ok nmX5 hown hK hP hD hS 0 rfl rfl 4 (by decide) hk_22 (fun _ h9 => h9) rfl (by decide +kernel) rfl rfl (Nat.le_of_ble_eq_true rfl) dX5_filterRaw_59 (fun H locs hP hD hS => ?_)
        have hP : va_P D vwCl [(h0, .inr (5, [.int f0, .int f1, .int f2, .int f0, .int (1 : Int32)]))] H := hP
        have hD : va_D A [(h0, .inr (5, [.int f0, .int f1, .int f2, .int f0, .int (1 : Int32)]))] := hD
        refine lv_aload_n hx hb dX5_filterRaw_62 rfl (lv_at hl 0 rfl) ?_
        refine va_get (D := D) (ci := 5) (v := .int (1 : Int32)) (C := RX5) (T := TX5) (N := 5) hx hb hts hiX5 hown hK hP 0 rfl rfl 4 (by decide) hk_22 (fun _ h9 => h9) rfl dX5_filterRaw_63 ?_
        refine lv_iload_n hx hb dX5_filterRaw_66 rfl (lv_at hl 1 rfl) ?_
        refine lv_icmp_ge (tgt := 72) hx hb dX5_filterRaw_67 (by decide) (fun c_5 => ?_) (fun c_5 => ?_)
        · skip
          refine lv_aload_n hx hb dX5_filterRaw_72 rfl (lv_at hl 0 rfl) ?_
          refine lv_aload_n hx hb dX5_filterRaw_73 rfl (lv_at hl 0 rfl) ?_
          refine va_get (D := D) (ci := 5) (v := .int f0) (C := RX5) (T := TX5) (N := 5) hx hb hts hiX5 hown hK hP 0 rfl rfl 0 (by decide) hk_7 (fun _ h9 => h9) rfl dX5_filterRaw_74 ?_
          refine va_put (D := D) (ci := 5) (v := .int f0) (ty := .int) (C := RX5) (T := TX5) (N := 5) hx hb hts hiX5 tyX5 tyX5_ok nmX5 hown hK hP hD hS 0 rfl rfl 1 (by decide) hk_13 (fun _ h9 => h9) rfl (by decide +kernel) rfl rfl (Nat.le_of_ble_eq_true rfl) dX5_filterRaw_77 (fun H locs hP hD hS => ?_)
          have hP : va_P D vwCl [(h0, .inr (5, [.int f0, .int f0, .int f2, .int f0, .int (1 : Int32)]))] H := hP
          have hD : va_D A [(h0, .inr (5, [.int f0, .int f0, .int f2, .int f0, .int (1 : Int32)]))] := hD
          refine lv_aload_n hx hb dX5_filterRaw_80 rfl (lv_at hl 0 rfl) ?_
          refine lv_iconst (v := 0) hx hb dX5_filterRaw_81 (by decide) ?_
          refine va_put (D := D) (ci := 5) (v := .int (0 : Int32)) (ty := .int) (C := RX5) (T := TX5) (N := 5) hx hb hts hiX5 tyX5 tyX5_ok nmX5 hown hK hP hD hS 0 rfl rfl 4 (by decide) hk_22 (fun _ h9 => h9) rfl (by decide +kernel) rfl rfl (Nat.le_of_ble_eq_true rfl) dX5_filterRaw_82 (fun H locs hP hD hS => ?_)
          have hP : va_P D vwCl [(h0, .inr (5, [.int f0, .int f0, .int f2, .int f0, .int (0 : Int32)]))] H := hP
          have hD : va_D A [(h0, .inr (5, [.int f0, .int f0, .int f2, .int f0, .int (0 : Int32)]))] := hD
          refine lv_iconst (v := 1) hx hb dX5_filterRaw_85 (by decide) ?_
          exact my_iret hx hb hr rfl hlocks hK hP hD hS (f0, f0, (0 : Int32)) (by show ((1 : Int32), (f0, f0, (0 : Int32))) = F_X5_filterRaw f0 f1 f2 f3 f4 t; simp only [F_X5_filterRaw, if_neg c_1, if_pos c_2, if_pos c_4, if_pos c_5]) [0] rfl rfl dX5_filterRaw_86
        · skip
          refine lv_iconst (v := 0) hx hb dX5_filterRaw_70 (by decide) ?_
          exact my_iret hx hb hr rfl hlocks hK hP hD hS (f1, f0, (1 : Int32)) (by show ((0 : Int32), (f1, f0, (1 : Int32))) = F_X5_filterRaw f0 f1 f2 f3 f4 t; simp only [F_X5_filterRaw, if_neg c_1, if_pos c_2, if_pos c_4, if_neg c_5]) [0] rfl rfl dX5_filterRaw_71
      · skip
        refine lv_aload_n hx hb dX5_filterRaw_36 rfl (lv_at hl 0 rfl) ?_
        refine lv_dup hx hb dX5_filterRaw_37 rfl ?_
        refine va_get (D := D) (ci := 5) (v := .int f4) (C := RX5) (T := TX5) (N := 5) hx hb hts hiX5 hown hK hP 0 rfl rfl 4 (by decide) hk_22 (fun _ h9 => h9) rfl dX5_filterRaw_38 ?_
        refine lv_iconst (v := 1) hx hb dX5_filterRaw_41 (by decide) ?_
        refine lv_iadd hx hb dX5_filterRaw_42 ?_
        refine va_put (D := D) (ci := 5) (v := .int (f4 + (1 : Int32))) (ty := .int) (C := RX5) (T := TX5) (N := 5) hx hb hts hiX5 tyX5 tyX5_ok nmX5 hown hK hP hD hS 0 rfl rfl 4 (by decide) hk_22 (fun _ h9 => h9) rfl (by decide +kernel) rfl rfl (Nat.le_of_ble_eq_true rfl) dX5_filterRaw_43 (fun H locs hP hD hS => ?_)
        have hP : va_P D vwCl [(h0, .inr (5, [.int f0, .int f1, .int f2, .int f3, .int (f4 + (1 : Int32))]))] H := hP
        have hD : va_D A [(h0, .inr (5, [.int f0, .int f1, .int f2, .int f3, .int (f4 + (1 : Int32))]))] := hD
        refine lv_goto (tgt := 62) hx hb dX5_filterRaw_46 (by decide) ?_
        refine lv_aload_n hx hb dX5_filterRaw_62 rfl (lv_at hl 0 rfl) ?_
        refine va_get (D := D) (ci := 5) (v := .int (f4 + (1 : Int32))) (C := RX5) (T := TX5) (N := 5) hx hb hts hiX5 hown hK hP 0 rfl rfl 4 (by decide) hk_22 (fun _ h9 => h9) rfl dX5_filterRaw_63 ?_
        refine lv_iload_n hx hb dX5_filterRaw_66 rfl (lv_at hl 1 rfl) ?_
        refine lv_icmp_ge (tgt := 72) hx hb dX5_filterRaw_67 (by decide) (fun c_6 => ?_) (fun c_6 => ?_)
        · skip
          refine lv_aload_n hx hb dX5_filterRaw_72 rfl (lv_at hl 0 rfl) ?_
          refine lv_aload_n hx hb dX5_filterRaw_73 rfl (lv_at hl 0 rfl) ?_
          refine va_get (D := D) (ci := 5) (v := .int f0) (C := RX5) (T := TX5) (N := 5) hx hb hts hiX5 hown hK hP 0 rfl rfl 0 (by decide) hk_7 (fun _ h9 => h9) rfl dX5_filterRaw_74 ?_
          refine va_put (D := D) (ci := 5) (v := .int f0) (ty := .int) (C := RX5) (T := TX5) (N := 5) hx hb hts hiX5 tyX5 tyX5_ok nmX5 hown hK hP hD hS 0 rfl rfl 1 (by decide) hk_13 (fun _ h9 => h9) rfl (by decide +kernel) rfl rfl (Nat.le_of_ble_eq_true rfl) dX5_filterRaw_77 (fun H locs hP hD hS => ?_)
          have hP : va_P D vwCl [(h0, .inr (5, [.int f0, .int f0, .int f2, .int f3, .int (f4 + (1 : Int32))]))] H := hP
          have hD : va_D A [(h0, .inr (5, [.int f0, .int f0, .int f2, .int f3, .int (f4 + (1 : Int32))]))] := hD
          refine lv_aload_n hx hb dX5_filterRaw_80 rfl (lv_at hl 0 rfl) ?_
          refine lv_iconst (v := 0) hx hb dX5_filterRaw_81 (by decide) ?_
          refine va_put (D := D) (ci := 5) (v := .int (0 : Int32)) (ty := .int) (C := RX5) (T := TX5) (N := 5) hx hb hts hiX5 tyX5 tyX5_ok nmX5 hown hK hP hD hS 0 rfl rfl 4 (by decide) hk_22 (fun _ h9 => h9) rfl (by decide +kernel) rfl rfl (Nat.le_of_ble_eq_true rfl) dX5_filterRaw_82 (fun H locs hP hD hS => ?_)
          have hP : va_P D vwCl [(h0, .inr (5, [.int f0, .int f0, .int f2, .int f3, .int (0 : Int32)]))] H := hP
          have hD : va_D A [(h0, .inr (5, [.int f0, .int f0, .int f2, .int f3, .int (0 : Int32)]))] := hD
          refine lv_iconst (v := 1) hx hb dX5_filterRaw_85 (by decide) ?_
          exact my_iret hx hb hr rfl hlocks hK hP hD hS (f0, f3, (0 : Int32)) (by show ((1 : Int32), (f0, f3, (0 : Int32))) = F_X5_filterRaw f0 f1 f2 f3 f4 t; simp only [F_X5_filterRaw, if_neg c_1, if_pos c_2, if_neg c_4, if_pos c_6]) [0] rfl rfl dX5_filterRaw_86
        · skip
          refine lv_iconst (v := 0) hx hb dX5_filterRaw_70 (by decide) ?_
          exact my_iret hx hb hr rfl hlocks hK hP hD hS (f1, f3, f4 + (1 : Int32)) (by show ((0 : Int32), (f1, f3, f4 + (1 : Int32))) = F_X5_filterRaw f0 f1 f2 f3 f4 t; simp only [F_X5_filterRaw, if_neg c_1, if_pos c_2, if_neg c_4, if_neg c_6]) [0] rfl rfl dX5_filterRaw_71
  · skip
    refine lv_aload_n hx hb dX5_filterRaw_11 rfl (lv_at hl 0 rfl) ?_
    refine lv_iconst (v := 0) hx hb dX5_filterRaw_12 (by decide) ?_
    refine va_put (D := D) (ci := 5) (v := .int (0 : Int32)) (ty := .int) (C := RX5) (T := TX5) (N := 5) hx hb hts hiX5 tyX5 tyX5_ok nmX5 hown hK hP hD hS 0 rfl rfl 4 (by decide) hk_22 (fun _ h9 => h9) rfl (by decide +kernel) rfl rfl (Nat.le_of_ble_eq_true rfl) dX5_filterRaw_13 (fun H locs hP hD hS => ?_)
    have hP : va_P D vwCl [(h0, .inr (5, [.int f0, .int f1, .int f2, .int f3, .int (0 : Int32)]))] H := hP
    have hD : va_D A [(h0, .inr (5, [.int f0, .int f1, .int f2, .int f3, .int (0 : Int32)]))] := hD
    refine lv_iconst (v := 0) hx hb dX5_filterRaw_16 (by decide) ?_
    exact my_iret hx hb hr rfl hlocks hK hP hD hS (f1, f3, (0 : Int32)) (by show ((0 : Int32), (f1, f3, (0 : Int32))) = F_X5_filterRaw f0 f1 f2 f3 f4 t; simp only [F_X5_filterRaw, if_pos c_1]) [0] rfl rfl dX5_filterRaw_17
def F_X5_mixInto (x : Int64) (f0 : Int32) (f1 : Int32) (f2 : Int32) (f3 : Int32) (f4 : Int32) : Int64 :=
  let q1 := F_X8_mix x f0
  let q2 := F_X8_mix q1 f1
  let q3 := F_X8_mix q2 f2
  let q4 := F_X8_mix q3 f4
  q4
set_option maxHeartbeats 4000000 in
set_option maxRecDepth 100000 in
theorem met_X5_mixInto (l : Launch) (D : va_G) (cI cJ cS : ClassId) (h0 : Nat) (x : Int64) (f0 : Int32) (f1 : Int32) (f2 : Int32) (f3 : Int32) (f4 : Int32)  : ∀ sz : Nat, Met l yX5_mixInto wsX5_mixInto ({ frames := 1, cells := 0, slots := 0, locals := 22 } : Room) (va_Pc [.ref h0, .long x] (cPre D (tyz cI cJ cS) ([(h0, .inr (5, [.int f0, .int f1, .int f2, .int f3, .int f4]))]) sz)) (va_Ql (fun (r : Int64) (_ : Unit) => r = F_X5_mixInto x f0 f1 f2 f3 f4) (fun u => cPost D (tyz cI cJ cS) (va_A ([(h0, .inr (5, [.int f0, .int f1, .int f2, .int f3, .int f4]))]) sz) ([(h0, .inr (5, [.int f0, .int f1, .int f2, .int f3, .int f4]))])) (va_A ([(h0, .inr (5, [.int f0, .int f1, .int f2, .int f3, .int f4]))]) sz)) 0 0 (va_A ([(h0, .inr (5, [.int f0, .int f1, .int f2, .int f3, .int f4]))]) sz) := by
  refine my_met (QC := fun A => (va_Ql (fun (r : Int64) (_ : Unit) => r = F_X5_mixInto x f0 f1 f2 f3 f4) (fun u => cPost D (tyz cI cJ cS) A ([(h0, .inr (5, [.int f0, .int f1, .int f2, .int f3, .int f4]))])) A)) (cc := cX5_mixInto) (maxL := 5) (ret := (some .long)) (by decide) rfl (Nat.le_of_ble_eq_true rfl) ?_
  intro p e s m below meth c ls A hx hb hml hr hts hown hlocks hname hK hP hD hS hA hG hl
  have hown : s.vm.findClass RX5 = some m.cls := hown
  have hl : lv_has ls 5 [(0, .ref h0), (1, .long x)] := hl
  have hP : va_P D vwCl [(h0, .inr (5, [.int f0, .int f1, .int f2, .int f3, .int f4]))] s.heap := hP
  have hD : va_D A [(h0, .inr (5, [.int f0, .int f1, .int f2, .int f3, .int f4]))] := hD
  have hiX5 : ∀ w ∈ u_ws RX5 TX5 5, w ∈ wsX5_mixInto := by decide +kernel
  have hk_13 := hts (.fieldLink RX5 13 "HallCommutator$Sensors" "filtered" "I") (by decide +kernel)
  have hk_16 := hts (.fieldLink RX5 16 "HallCommutator$Sensors" "sector" "I") (by decide +kernel)
  have hk_22 := hts (.fieldLink RX5 22 "HallCommutator$Sensors" "filterCount" "I") (by decide +kernel)
  have hk_7 := hts (.fieldLink RX5 7 "HallCommutator$Sensors" "raw" "I") (by decide +kernel)
  refine lv_lload_n hx hb dX5_mixInto_0 rfl (lv_at hl 1 rfl) ?_
  refine lv_aload_n hx hb dX5_mixInto_1 rfl (lv_at hl 0 rfl) ?_
  refine va_get (D := D) (ci := 5) (v := .int f0) (C := RX5) (T := TX5) (N := 5) hx hb hts hiX5 hown hK hP 0 rfl rfl 0 (by decide) hk_7 (fun _ h9 => h9) rfl dX5_mixInto_2 ?_
  refine my_callSN_l (As := [.long x, .int f0]) (rest := []) (wc := []) (wr := [(h0, .inr (5, [.int f0, .int f1, .int f2, .int f3, .int f4]))]) ⟨hx, hb, hml, hown, hts⟩ (met_X8_mix l D cI cJ cS x f0 _) ⟨va_cnB 2 hts gX5_mixInto_X8_mix_n25 rfl rfl rfl (hG.1.1 (RX5, 25, yX8_mix, "HallCommutator") (by decide +kernel)) (hts (.initialized RX8) (by decide +kernel)) (by decide +kernel) ⟨Nat.le_of_ble_eq_true rfl, Nat.le_of_ble_eq_true rfl⟩, hts (.static yX8_mix) (by decide +kernel), trivial⟩ hK hP hD hS hA hG [] [0] rfl rfl rfl rfl (by decide) rfl hl.1 (Nat.le_of_ble_eq_true rfl) rfl dX5_mixInto_5 ⟨Nat.le_of_ble_eq_true rfl, Nat.le_of_ble_eq_true rfl⟩ (fun r_1 _ H locs hw_1 hP hD hS => ?_)
  have hP : va_P D vwCl [(h0, .inr (5, [.int f0, .int f1, .int f2, .int f3, .int f4]))] H := hP
  have hD : va_D A [(h0, .inr (5, [.int f0, .int f1, .int f2, .int f3, .int f4]))] := hD
  refine lv_lstore_n (lv' := [(3, .long r_1), (0, .ref h0), (1, .long x)]) hx hb dX5_mixInto_8 rfl hl (by decide) rfl (fun ls hl => ?_)
  refine lv_lload_n hx hb dX5_mixInto_9 rfl (lv_at hl 0 rfl) ?_
  refine lv_aload_n hx hb dX5_mixInto_10 rfl (lv_at hl 1 rfl) ?_
  refine va_get (D := D) (ci := 5) (v := .int f1) (C := RX5) (T := TX5) (N := 5) hx hb hts hiX5 hown hK hP 0 rfl rfl 1 (by decide) hk_13 (fun _ h9 => h9) rfl dX5_mixInto_11 ?_
  refine my_callSN_l (As := [.long r_1, .int f1]) (rest := []) (wc := []) (wr := [(h0, .inr (5, [.int f0, .int f1, .int f2, .int f3, .int f4]))]) ⟨hx, hb, hml, hown, hts⟩ (met_X8_mix l D cI cJ cS r_1 f1 _) ⟨va_cnB 2 hts gX5_mixInto_X8_mix_n25 rfl rfl rfl (hG.1.1 (RX5, 25, yX8_mix, "HallCommutator") (by decide +kernel)) (hts (.initialized RX8) (by decide +kernel)) (by decide +kernel) ⟨Nat.le_of_ble_eq_true rfl, Nat.le_of_ble_eq_true rfl⟩, hts (.static yX8_mix) (by decide +kernel), trivial⟩ hK hP hD hS hA hG [] [0] rfl rfl rfl rfl (by decide) rfl hl.1 (Nat.le_of_ble_eq_true rfl) rfl dX5_mixInto_14 ⟨Nat.le_of_ble_eq_true rfl, Nat.le_of_ble_eq_true rfl⟩ (fun r_2 _ H locs hw_2 hP hD hS => ?_)
  have hP : va_P D vwCl [(h0, .inr (5, [.int f0, .int f1, .int f2, .int f3, .int f4]))] H := hP
  have hD : va_D A [(h0, .inr (5, [.int f0, .int f1, .int f2, .int f3, .int f4]))] := hD
  refine lv_lstore_n (lv' := [(3, .long r_2), (0, .ref h0), (1, .long x)]) hx hb dX5_mixInto_17 rfl hl (by decide) rfl (fun ls hl => ?_)
  refine lv_lload_n hx hb dX5_mixInto_18 rfl (lv_at hl 0 rfl) ?_
  refine lv_aload_n hx hb dX5_mixInto_19 rfl (lv_at hl 1 rfl) ?_
  refine va_get (D := D) (ci := 5) (v := .int f2) (C := RX5) (T := TX5) (N := 5) hx hb hts hiX5 hown hK hP 0 rfl rfl 2 (by decide) hk_16 (fun _ h9 => h9) rfl dX5_mixInto_20 ?_
  refine my_callSN_l (As := [.long r_2, .int f2]) (rest := []) (wc := []) (wr := [(h0, .inr (5, [.int f0, .int f1, .int f2, .int f3, .int f4]))]) ⟨hx, hb, hml, hown, hts⟩ (met_X8_mix l D cI cJ cS r_2 f2 _) ⟨va_cnB 2 hts gX5_mixInto_X8_mix_n25 rfl rfl rfl (hG.1.1 (RX5, 25, yX8_mix, "HallCommutator") (by decide +kernel)) (hts (.initialized RX8) (by decide +kernel)) (by decide +kernel) ⟨Nat.le_of_ble_eq_true rfl, Nat.le_of_ble_eq_true rfl⟩, hts (.static yX8_mix) (by decide +kernel), trivial⟩ hK hP hD hS hA hG [] [0] rfl rfl rfl rfl (by decide) rfl hl.1 (Nat.le_of_ble_eq_true rfl) rfl dX5_mixInto_23 ⟨Nat.le_of_ble_eq_true rfl, Nat.le_of_ble_eq_true rfl⟩ (fun r_3 _ H locs hw_3 hP hD hS => ?_)
  have hP : va_P D vwCl [(h0, .inr (5, [.int f0, .int f1, .int f2, .int f3, .int f4]))] H := hP
  have hD : va_D A [(h0, .inr (5, [.int f0, .int f1, .int f2, .int f3, .int f4]))] := hD
  refine lv_lstore_n (lv' := [(3, .long r_3), (0, .ref h0), (1, .long x)]) hx hb dX5_mixInto_26 rfl hl (by decide) rfl (fun ls hl => ?_)
  refine lv_lload_n hx hb dX5_mixInto_27 rfl (lv_at hl 0 rfl) ?_
  refine lv_aload_n hx hb dX5_mixInto_28 rfl (lv_at hl 1 rfl) ?_
  refine va_get (D := D) (ci := 5) (v := .int f4) (C := RX5) (T := TX5) (N := 5) hx hb hts hiX5 hown hK hP 0 rfl rfl 4 (by decide) hk_22 (fun _ h9 => h9) rfl dX5_mixInto_29 ?_
  refine my_callSN_l (As := [.long r_3, .int f4]) (rest := []) (wc := []) (wr := [(h0, .inr (5, [.int f0, .int f1, .int f2, .int f3, .int f4]))]) ⟨hx, hb, hml, hown, hts⟩ (met_X8_mix l D cI cJ cS r_3 f4 _) ⟨va_cnB 2 hts gX5_mixInto_X8_mix_n25 rfl rfl rfl (hG.1.1 (RX5, 25, yX8_mix, "HallCommutator") (by decide +kernel)) (hts (.initialized RX8) (by decide +kernel)) (by decide +kernel) ⟨Nat.le_of_ble_eq_true rfl, Nat.le_of_ble_eq_true rfl⟩, hts (.static yX8_mix) (by decide +kernel), trivial⟩ hK hP hD hS hA hG [] [0] rfl rfl rfl rfl (by decide) rfl hl.1 (Nat.le_of_ble_eq_true rfl) rfl dX5_mixInto_32 ⟨Nat.le_of_ble_eq_true rfl, Nat.le_of_ble_eq_true rfl⟩ (fun r_4 _ H locs hw_4 hP hD hS => ?_)
  have hP : va_P D vwCl [(h0, .inr (5, [.int f0, .int f1, .int f2, .int f3, .int f4]))] H := hP
  have hD : va_D A [(h0, .inr (5, [.int f0, .int f1, .int f2, .int f3, .int f4]))] := hD
  exact my_lret hx hb hr hlocks hK hP hD hS () (by show r_4 = F_X5_mixInto x f0 f1 f2 f3 f4; simp only [F_X5_mixInto, ← hw_1, ← hw_2, ← hw_3, ← hw_4]) [0] rfl rfl dX5_mixInto_35
def F_X1_copyFrom (f0 : Int32) (f1 : Int32) (f2 : Int32) (f3 : Int32) (f4 : Int32) (f5 : Int32) (f6 : Int32) (f7 : Int32) (k0 : Int32) (k1 : Int32) (k2 : Int32) (k3 : Int32) (k4 : Int32) (k5 : Int32) (k6 : Int32) (k7 : Int32) : Int32 × Int32 × Int32 × Int32 × Int32 × Int32 × Int32 × Int32 :=
  (k0, k1, k2, k3, k4, k5, k6, k7)
set_option maxHeartbeats 4000000 in
set_option maxRecDepth 100000 in
theorem met_X1_copyFrom (l : Launch) (D : va_G) (cI cJ cS : ClassId) (h0 : Nat) (h1 : Nat) (f0 : Int32) (f1 : Int32) (f2 : Int32) (f3 : Int32) (f4 : Int32) (f5 : Int32) (f6 : Int32) (f7 : Int32) (k0 : Int32) (k1 : Int32) (k2 : Int32) (k3 : Int32) (k4 : Int32) (k5 : Int32) (k6 : Int32) (k7 : Int32)  : ∀ sz : Nat, Met l yX1_copyFrom wsX1_copyFrom ({ frames := 0, cells := 0, slots := 0, locals := 0 } : Room) (va_Pc [.ref h0, .ref h1] (cPre D (tyz cI cJ cS) ([(h0, .inr (1, [.int f0, .int f1, .int f2, .int f3, .int f4, .int f5, .int f6, .int f7])), (h1, .inr (1, [.int k0, .int k1, .int k2, .int k3, .int k4, .int k5, .int k6, .int k7]))]) sz)) (va_Qv (fun (u : Int32 × Int32 × Int32 × Int32 × Int32 × Int32 × Int32 × Int32) => u = F_X1_copyFrom f0 f1 f2 f3 f4 f5 f6 f7 k0 k1 k2 k3 k4 k5 k6 k7) (fun u => cPost D (tyz cI cJ cS) (va_A ([(h0, .inr (1, [.int f0, .int f1, .int f2, .int f3, .int f4, .int f5, .int f6, .int f7])), (h1, .inr (1, [.int k0, .int k1, .int k2, .int k3, .int k4, .int k5, .int k6, .int k7]))]) sz) ([(h0, .inr (1, [.int u.1, .int u.2.1, .int u.2.2.1, .int u.2.2.2.1, .int u.2.2.2.2.1, .int u.2.2.2.2.2.1, .int u.2.2.2.2.2.2.1, .int u.2.2.2.2.2.2.2])), (h1, .inr (1, [.int k0, .int k1, .int k2, .int k3, .int k4, .int k5, .int k6, .int k7]))])) (va_A ([(h0, .inr (1, [.int f0, .int f1, .int f2, .int f3, .int f4, .int f5, .int f6, .int f7])), (h1, .inr (1, [.int k0, .int k1, .int k2, .int k3, .int k4, .int k5, .int k6, .int k7]))]) sz)) 0 0 (va_A ([(h0, .inr (1, [.int f0, .int f1, .int f2, .int f3, .int f4, .int f5, .int f6, .int f7])), (h1, .inr (1, [.int k0, .int k1, .int k2, .int k3, .int k4, .int k5, .int k6, .int k7]))]) sz) := by
  refine my_met (QC := fun A => (va_Qv (fun (u : Int32 × Int32 × Int32 × Int32 × Int32 × Int32 × Int32 × Int32) => u = F_X1_copyFrom f0 f1 f2 f3 f4 f5 f6 f7 k0 k1 k2 k3 k4 k5 k6 k7) (fun u => cPost D (tyz cI cJ cS) A ([(h0, .inr (1, [.int u.1, .int u.2.1, .int u.2.2.1, .int u.2.2.2.1, .int u.2.2.2.2.1, .int u.2.2.2.2.2.1, .int u.2.2.2.2.2.2.1, .int u.2.2.2.2.2.2.2])), (h1, .inr (1, [.int k0, .int k1, .int k2, .int k3, .int k4, .int k5, .int k6, .int k7]))])) A)) (cc := cX1_copyFrom) (maxL := 2) (ret := none) (by decide) rfl (Nat.le_of_ble_eq_true rfl) ?_
  intro p e s m below meth c ls A hx hb hml hr hts hown hlocks hname hK hP hD hS hA hG hl
  have hown : s.vm.findClass RX1 = some m.cls := hown
  have hl : lv_has ls 2 [(0, .ref h0), (1, .ref h1)] := hl
  have hP : va_P D vwCl [(h0, .inr (1, [.int f0, .int f1, .int f2, .int f3, .int f4, .int f5, .int f6, .int f7])), (h1, .inr (1, [.int k0, .int k1, .int k2, .int k3, .int k4, .int k5, .int k6, .int k7]))] s.heap := hP
  have hD : va_D A [(h0, .inr (1, [.int f0, .int f1, .int f2, .int f3, .int f4, .int f5, .int f6, .int f7])), (h1, .inr (1, [.int k0, .int k1, .int k2, .int k3, .int k4, .int k5, .int k6, .int k7]))] := hD
  have hiX1 : ∀ w ∈ u_ws RX1 TX1 8, w ∈ wsX1_copyFrom := by decide +kernel
  have hk_15 := hts (.fieldLink RX1 15 "HallCommutator$Guard" "wrongEdges" "I") (by decide +kernel)
  have hk_18 := hts (.fieldLink RX1 18 "HallCommutator$Guard" "illegalTime" "I") (by decide +kernel)
  have hk_21 := hts (.fieldLink RX1 21 "HallCommutator$Guard" "idleTime" "I") (by decide +kernel)
  have hk_24 := hts (.fieldLink RX1 24 "HallCommutator$Guard" "faults" "I") (by decide +kernel)
  have hk_27 := hts (.fieldLink RX1 27 "HallCommutator$Guard" "faultNumber" "I") (by decide +kernel)
  have hk_30 := hts (.fieldLink RX1 30 "HallCommutator$Guard" "faultTick" "I") (by decide +kernel)
  have hk_33 := hts (.fieldLink RX1 33 "HallCommutator$Guard" "faultDetail" "I") (by decide +kernel)
  have hk_9 := hts (.fieldLink RX1 9 "HallCommutator$Guard" "mode" "I") (by decide +kernel)
  refine lv_aload_n hx hb dX1_copyFrom_0 rfl (lv_at hl 0 rfl) ?_
  refine lv_aload_n hx hb dX1_copyFrom_1 rfl (lv_at hl 1 rfl) ?_
  refine va_get (D := D) (ci := 1) (v := .int k0) (C := RX1) (T := TX1) (N := 8) hx hb hts hiX1 hown hK hP 1 rfl rfl 0 (by decide) hk_9 (fun _ h9 => h9) rfl dX1_copyFrom_2 ?_
  refine va_put (D := D) (ci := 1) (v := .int k0) (ty := .int) (C := RX1) (T := TX1) (N := 8) hx hb hts hiX1 tyX1 tyX1_ok nmX1 hown hK hP hD hS 0 rfl rfl 0 (by decide) hk_9 (fun _ h9 => h9) rfl (by decide +kernel) rfl rfl (Nat.le_of_ble_eq_true rfl) dX1_copyFrom_5 (fun H locs hP hD hS => ?_)
  have hP : va_P D vwCl [(h0, .inr (1, [.int k0, .int f1, .int f2, .int f3, .int f4, .int f5, .int f6, .int f7])), (h1, .inr (1, [.int k0, .int k1, .int k2, .int k3, .int k4, .int k5, .int k6, .int k7]))] H := hP
  have hD : va_D A [(h0, .inr (1, [.int k0, .int f1, .int f2, .int f3, .int f4, .int f5, .int f6, .int f7])), (h1, .inr (1, [.int k0, .int k1, .int k2, .int k3, .int k4, .int k5, .int k6, .int k7]))] := hD
  refine lv_aload_n hx hb dX1_copyFrom_8 rfl (lv_at hl 0 rfl) ?_
  refine lv_aload_n hx hb dX1_copyFrom_9 rfl (lv_at hl 1 rfl) ?_
  refine va_get (D := D) (ci := 1) (v := .int k1) (C := RX1) (T := TX1) (N := 8) hx hb hts hiX1 hown hK hP 1 rfl rfl 1 (by decide) hk_15 (fun _ h9 => h9) rfl dX1_copyFrom_10 ?_
  refine va_put (D := D) (ci := 1) (v := .int k1) (ty := .int) (C := RX1) (T := TX1) (N := 8) hx hb hts hiX1 tyX1 tyX1_ok nmX1 hown hK hP hD hS 0 rfl rfl 1 (by decide) hk_15 (fun _ h9 => h9) rfl (by decide +kernel) rfl rfl (Nat.le_of_ble_eq_true rfl) dX1_copyFrom_13 (fun H locs hP hD hS => ?_)
  have hP : va_P D vwCl [(h0, .inr (1, [.int k0, .int k1, .int f2, .int f3, .int f4, .int f5, .int f6, .int f7])), (h1, .inr (1, [.int k0, .int k1, .int k2, .int k3, .int k4, .int k5, .int k6, .int k7]))] H := hP
  have hD : va_D A [(h0, .inr (1, [.int k0, .int k1, .int f2, .int f3, .int f4, .int f5, .int f6, .int f7])), (h1, .inr (1, [.int k0, .int k1, .int k2, .int k3, .int k4, .int k5, .int k6, .int k7]))] := hD
  refine lv_aload_n hx hb dX1_copyFrom_16 rfl (lv_at hl 0 rfl) ?_
  refine lv_aload_n hx hb dX1_copyFrom_17 rfl (lv_at hl 1 rfl) ?_
  refine va_get (D := D) (ci := 1) (v := .int k2) (C := RX1) (T := TX1) (N := 8) hx hb hts hiX1 hown hK hP 1 rfl rfl 2 (by decide) hk_18 (fun _ h9 => h9) rfl dX1_copyFrom_18 ?_
  refine va_put (D := D) (ci := 1) (v := .int k2) (ty := .int) (C := RX1) (T := TX1) (N := 8) hx hb hts hiX1 tyX1 tyX1_ok nmX1 hown hK hP hD hS 0 rfl rfl 2 (by decide) hk_18 (fun _ h9 => h9) rfl (by decide +kernel) rfl rfl (Nat.le_of_ble_eq_true rfl) dX1_copyFrom_21 (fun H locs hP hD hS => ?_)
  have hP : va_P D vwCl [(h0, .inr (1, [.int k0, .int k1, .int k2, .int f3, .int f4, .int f5, .int f6, .int f7])), (h1, .inr (1, [.int k0, .int k1, .int k2, .int k3, .int k4, .int k5, .int k6, .int k7]))] H := hP
  have hD : va_D A [(h0, .inr (1, [.int k0, .int k1, .int k2, .int f3, .int f4, .int f5, .int f6, .int f7])), (h1, .inr (1, [.int k0, .int k1, .int k2, .int k3, .int k4, .int k5, .int k6, .int k7]))] := hD
  refine lv_aload_n hx hb dX1_copyFrom_24 rfl (lv_at hl 0 rfl) ?_
  refine lv_aload_n hx hb dX1_copyFrom_25 rfl (lv_at hl 1 rfl) ?_
  refine va_get (D := D) (ci := 1) (v := .int k3) (C := RX1) (T := TX1) (N := 8) hx hb hts hiX1 hown hK hP 1 rfl rfl 3 (by decide) hk_21 (fun _ h9 => h9) rfl dX1_copyFrom_26 ?_
  refine va_put (D := D) (ci := 1) (v := .int k3) (ty := .int) (C := RX1) (T := TX1) (N := 8) hx hb hts hiX1 tyX1 tyX1_ok nmX1 hown hK hP hD hS 0 rfl rfl 3 (by decide) hk_21 (fun _ h9 => h9) rfl (by decide +kernel) rfl rfl (Nat.le_of_ble_eq_true rfl) dX1_copyFrom_29 (fun H locs hP hD hS => ?_)
  have hP : va_P D vwCl [(h0, .inr (1, [.int k0, .int k1, .int k2, .int k3, .int f4, .int f5, .int f6, .int f7])), (h1, .inr (1, [.int k0, .int k1, .int k2, .int k3, .int k4, .int k5, .int k6, .int k7]))] H := hP
  have hD : va_D A [(h0, .inr (1, [.int k0, .int k1, .int k2, .int k3, .int f4, .int f5, .int f6, .int f7])), (h1, .inr (1, [.int k0, .int k1, .int k2, .int k3, .int k4, .int k5, .int k6, .int k7]))] := hD
  refine lv_aload_n hx hb dX1_copyFrom_32 rfl (lv_at hl 0 rfl) ?_
  refine lv_aload_n hx hb dX1_copyFrom_33 rfl (lv_at hl 1 rfl) ?_
  refine va_get (D := D) (ci := 1) (v := .int k4) (C := RX1) (T := TX1) (N := 8) hx hb hts hiX1 hown hK hP 1 rfl rfl 4 (by decide) hk_24 (fun _ h9 => h9) rfl dX1_copyFrom_34 ?_
  refine va_put (D := D) (ci := 1) (v := .int k4) (ty := .int) (C := RX1) (T := TX1) (N := 8) hx hb hts hiX1 tyX1 tyX1_ok nmX1 hown hK hP hD hS 0 rfl rfl 4 (by decide) hk_24 (fun _ h9 => h9) rfl (by decide +kernel) rfl rfl (Nat.le_of_ble_eq_true rfl) dX1_copyFrom_37 (fun H locs hP hD hS => ?_)
  have hP : va_P D vwCl [(h0, .inr (1, [.int k0, .int k1, .int k2, .int k3, .int k4, .int f5, .int f6, .int f7])), (h1, .inr (1, [.int k0, .int k1, .int k2, .int k3, .int k4, .int k5, .int k6, .int k7]))] H := hP
  have hD : va_D A [(h0, .inr (1, [.int k0, .int k1, .int k2, .int k3, .int k4, .int f5, .int f6, .int f7])), (h1, .inr (1, [.int k0, .int k1, .int k2, .int k3, .int k4, .int k5, .int k6, .int k7]))] := hD
  refine lv_aload_n hx hb dX1_copyFrom_40 rfl (lv_at hl 0 rfl) ?_
  refine lv_aload_n hx hb dX1_copyFrom_41 rfl (lv_at hl 1 rfl) ?_
  refine va_get (D := D) (ci := 1) (v := .int k5) (C := RX1) (T := TX1) (N := 8) hx hb hts hiX1 hown hK hP 1 rfl rfl 5 (by decide) hk_27 (fun _ h9 => h9) rfl dX1_copyFrom_42 ?_
  refine va_put (D := D) (ci := 1) (v := .int k5) (ty := .int) (C := RX1) (T := TX1) (N := 8) hx hb hts hiX1 tyX1 tyX1_ok nmX1 hown hK hP hD hS 0 rfl rfl 5 (by decide) hk_27 (fun _ h9 => h9) rfl (by decide +kernel) rfl rfl (Nat.le_of_ble_eq_true rfl) dX1_copyFrom_45 (fun H locs hP hD hS => ?_)
  have hP : va_P D vwCl [(h0, .inr (1, [.int k0, .int k1, .int k2, .int k3, .int k4, .int k5, .int f6, .int f7])), (h1, .inr (1, [.int k0, .int k1, .int k2, .int k3, .int k4, .int k5, .int k6, .int k7]))] H := hP
  have hD : va_D A [(h0, .inr (1, [.int k0, .int k1, .int k2, .int k3, .int k4, .int k5, .int f6, .int f7])), (h1, .inr (1, [.int k0, .int k1, .int k2, .int k3, .int k4, .int k5, .int k6, .int k7]))] := hD
  refine lv_aload_n hx hb dX1_copyFrom_48 rfl (lv_at hl 0 rfl) ?_
  refine lv_aload_n hx hb dX1_copyFrom_49 rfl (lv_at hl 1 rfl) ?_
  refine va_get (D := D) (ci := 1) (v := .int k6) (C := RX1) (T := TX1) (N := 8) hx hb hts hiX1 hown hK hP 1 rfl rfl 6 (by decide) hk_30 (fun _ h9 => h9) rfl dX1_copyFrom_50 ?_
  refine va_put (D := D) (ci := 1) (v := .int k6) (ty := .int) (C := RX1) (T := TX1) (N := 8) hx hb hts hiX1 tyX1 tyX1_ok nmX1 hown hK hP hD hS 0 rfl rfl 6 (by decide) hk_30 (fun _ h9 => h9) rfl (by decide +kernel) rfl rfl (Nat.le_of_ble_eq_true rfl) dX1_copyFrom_53 (fun H locs hP hD hS => ?_)
  have hP : va_P D vwCl [(h0, .inr (1, [.int k0, .int k1, .int k2, .int k3, .int k4, .int k5, .int k6, .int f7])), (h1, .inr (1, [.int k0, .int k1, .int k2, .int k3, .int k4, .int k5, .int k6, .int k7]))] H := hP
  have hD : va_D A [(h0, .inr (1, [.int k0, .int k1, .int k2, .int k3, .int k4, .int k5, .int k6, .int f7])), (h1, .inr (1, [.int k0, .int k1, .int k2, .int k3, .int k4, .int k5, .int k6, .int k7]))] := hD
  refine lv_aload_n hx hb dX1_copyFrom_56 rfl (lv_at hl 0 rfl) ?_
  refine lv_aload_n hx hb dX1_copyFrom_57 rfl (lv_at hl 1 rfl) ?_
  refine va_get (D := D) (ci := 1) (v := .int k7) (C := RX1) (T := TX1) (N := 8) hx hb hts hiX1 hown hK hP 1 rfl rfl 7 (by decide) hk_33 (fun _ h9 => h9) rfl dX1_copyFrom_58 ?_
  refine va_put (D := D) (ci := 1) (v := .int k7) (ty := .int) (C := RX1) (T := TX1) (N := 8) hx hb hts hiX1 tyX1 tyX1_ok nmX1 hown hK hP hD hS 0 rfl rfl 7 (by decide) hk_33 (fun _ h9 => h9) rfl (by decide +kernel) rfl rfl (Nat.le_of_ble_eq_true rfl) dX1_copyFrom_61 (fun H locs hP hD hS => ?_)
  have hP : va_P D vwCl [(h0, .inr (1, [.int k0, .int k1, .int k2, .int k3, .int k4, .int k5, .int k6, .int k7])), (h1, .inr (1, [.int k0, .int k1, .int k2, .int k3, .int k4, .int k5, .int k6, .int k7]))] H := hP
  have hD : va_D A [(h0, .inr (1, [.int k0, .int k1, .int k2, .int k3, .int k4, .int k5, .int k6, .int k7])), (h1, .inr (1, [.int k0, .int k1, .int k2, .int k3, .int k4, .int k5, .int k6, .int k7]))] := hD
  exact my_vret hx hb hr hlocks hK hP hD hS (k0, k1, k2, k3, k4, k5, k6, k7) (by show (k0, k1, k2, k3, k4, k5, k6, k7) = F_X1_copyFrom f0 f1 f2 f3 f4 f5 f6 f7 k0 k1 k2 k3 k4 k5 k6 k7; simp only [F_X1_copyFrom]) [0, 1] rfl rfl dX1_copyFrom_64
def F_X1_isDriving (f0 : Int32) (f1 : Int32) (f2 : Int32) (f3 : Int32) (f4 : Int32) (f5 : Int32) (f6 : Int32) (f7 : Int32) : Int32 :=
  if f0 = (1 : Int32) then
    (1 : Int32)
  else
    if f0 = (2 : Int32) then
      (1 : Int32)
    else
      (0 : Int32)
set_option maxHeartbeats 4000000 in
set_option maxRecDepth 100000 in
theorem met_X1_isDriving (l : Launch) (D : va_G) (cI cJ cS : ClassId) (h0 : Nat) (f0 : Int32) (f1 : Int32) (f2 : Int32) (f3 : Int32) (f4 : Int32) (f5 : Int32) (f6 : Int32) (f7 : Int32)  : ∀ sz : Nat, Met l yX1_isDriving wsX1_isDriving ({ frames := 0, cells := 0, slots := 0, locals := 0 } : Room) (va_Pc [.ref h0] (cPre D (tyz cI cJ cS) ([(h0, .inr (1, [.int f0, .int f1, .int f2, .int f3, .int f4, .int f5, .int f6, .int f7]))]) sz)) (va_Qi (fun (r : Int32) (_ : Unit) => r = F_X1_isDriving f0 f1 f2 f3 f4 f5 f6 f7) (fun u => cPost D (tyz cI cJ cS) (va_A ([(h0, .inr (1, [.int f0, .int f1, .int f2, .int f3, .int f4, .int f5, .int f6, .int f7]))]) sz) ([(h0, .inr (1, [.int f0, .int f1, .int f2, .int f3, .int f4, .int f5, .int f6, .int f7]))])) (va_A ([(h0, .inr (1, [.int f0, .int f1, .int f2, .int f3, .int f4, .int f5, .int f6, .int f7]))]) sz)) 0 0 (va_A ([(h0, .inr (1, [.int f0, .int f1, .int f2, .int f3, .int f4, .int f5, .int f6, .int f7]))]) sz) := by
  refine my_met (QC := fun A => (va_Qi (fun (r : Int32) (_ : Unit) => r = F_X1_isDriving f0 f1 f2 f3 f4 f5 f6 f7) (fun u => cPost D (tyz cI cJ cS) A ([(h0, .inr (1, [.int f0, .int f1, .int f2, .int f3, .int f4, .int f5, .int f6, .int f7]))])) A)) (cc := cX1_isDriving) (maxL := 1) (ret := (some .boolean)) (by decide) rfl (Nat.le_of_ble_eq_true rfl) ?_
  intro p e s m below meth c ls A hx hb hml hr hts hown hlocks hname hK hP hD hS hA hG hl
  have hown : s.vm.findClass RX1 = some m.cls := hown
  have hl : lv_has ls 1 [(0, .ref h0)] := hl
  have hP : va_P D vwCl [(h0, .inr (1, [.int f0, .int f1, .int f2, .int f3, .int f4, .int f5, .int f6, .int f7]))] s.heap := hP
  have hD : va_D A [(h0, .inr (1, [.int f0, .int f1, .int f2, .int f3, .int f4, .int f5, .int f6, .int f7]))] := hD
  have hiX1 : ∀ w ∈ u_ws RX1 TX1 8, w ∈ wsX1_isDriving := by decide +kernel
  have hk_9 := hts (.fieldLink RX1 9 "HallCommutator$Guard" "mode" "I") (by decide +kernel)
  refine lv_aload_n hx hb dX1_isDriving_0 rfl (lv_at hl 0 rfl) ?_
  refine va_get (D := D) (ci := 1) (v := .int f0) (C := RX1) (T := TX1) (N := 8) hx hb hts hiX1 hown hK hP 0 rfl rfl 0 (by decide) hk_9 (fun _ h9 => h9) rfl dX1_isDriving_1 ?_
  refine lv_iconst (v := 1) hx hb dX1_isDriving_4 (by decide) ?_
  refine lv_icmp_eq (tgt := 16) hx hb dX1_isDriving_5 (by decide) (fun c_1 => ?_) (fun c_1 => ?_)
  · skip
    refine lv_iconst (v := 1) hx hb dX1_isDriving_16 (by decide) ?_
    refine lv_goto (tgt := 21) hx hb dX1_isDriving_17 (by decide) ?_
    exact my_iret hx hb hr rfl hlocks hK hP hD hS () (by show (1 : Int32) = F_X1_isDriving f0 f1 f2 f3 f4 f5 f6 f7; simp only [F_X1_isDriving, if_pos c_1]) [0] rfl rfl dX1_isDriving_21
  · skip
    refine lv_aload_n hx hb dX1_isDriving_8 rfl (lv_at hl 0 rfl) ?_
    refine va_get (D := D) (ci := 1) (v := .int f0) (C := RX1) (T := TX1) (N := 8) hx hb hts hiX1 hown hK hP 0 rfl rfl 0 (by decide) hk_9 (fun _ h9 => h9) rfl dX1_isDriving_9 ?_
    refine lv_iconst (v := 2) hx hb dX1_isDriving_12 (by decide) ?_
    refine lv_icmp_ne (tgt := 20) hx hb dX1_isDriving_13 (by decide) (fun c_2 => ?_) (fun c_2 => ?_)
    · skip
      refine lv_iconst (v := 0) hx hb dX1_isDriving_20 (by decide) ?_
      exact my_iret hx hb hr rfl hlocks hK hP hD hS () (by show (0 : Int32) = F_X1_isDriving f0 f1 f2 f3 f4 f5 f6 f7; simp only [F_X1_isDriving, if_neg c_1, if_neg c_2]) [0] rfl rfl dX1_isDriving_21
    · skip
      refine lv_iconst (v := 1) hx hb dX1_isDriving_16 (by decide) ?_
      refine lv_goto (tgt := 21) hx hb dX1_isDriving_17 (by decide) ?_
      exact my_iret hx hb hr rfl hlocks hK hP hD hS () (by show (1 : Int32) = F_X1_isDriving f0 f1 f2 f3 f4 f5 f6 f7; simp only [F_X1_isDriving, if_neg c_1, if_pos c_2]) [0] rfl rfl dX1_isDriving_21
def F_X1_enterMode (f0 : Int32) (f1 : Int32) (f2 : Int32) (f3 : Int32) (f4 : Int32) (f5 : Int32) (f6 : Int32) (f7 : Int32) (t : Int32) : Int32 × Int32 × Int32 × Int32 :=
  (t, (0 : Int32), (0 : Int32), (0 : Int32))
set_option maxHeartbeats 4000000 in
set_option maxRecDepth 100000 in
theorem met_X1_enterMode (l : Launch) (D : va_G) (cI cJ cS : ClassId) (h0 : Nat) (f0 : Int32) (f1 : Int32) (f2 : Int32) (f3 : Int32) (f4 : Int32) (f5 : Int32) (f6 : Int32) (f7 : Int32) (t : Int32)  : ∀ sz : Nat, Met l yX1_enterMode wsX1_enterMode ({ frames := 0, cells := 0, slots := 0, locals := 0 } : Room) (va_Pc [.ref h0, .int t] (cPre D (tyz cI cJ cS) ([(h0, .inr (1, [.int f0, .int f1, .int f2, .int f3, .int f4, .int f5, .int f6, .int f7]))]) sz)) (va_Qv (fun (u : Int32 × Int32 × Int32 × Int32) => u = F_X1_enterMode f0 f1 f2 f3 f4 f5 f6 f7 t) (fun u => cPost D (tyz cI cJ cS) (va_A ([(h0, .inr (1, [.int f0, .int f1, .int f2, .int f3, .int f4, .int f5, .int f6, .int f7]))]) sz) ([(h0, .inr (1, [.int u.1, .int u.2.1, .int u.2.2.1, .int u.2.2.2, .int f4, .int f5, .int f6, .int f7]))])) (va_A ([(h0, .inr (1, [.int f0, .int f1, .int f2, .int f3, .int f4, .int f5, .int f6, .int f7]))]) sz)) 0 0 (va_A ([(h0, .inr (1, [.int f0, .int f1, .int f2, .int f3, .int f4, .int f5, .int f6, .int f7]))]) sz) := by
  refine my_met (QC := fun A => (va_Qv (fun (u : Int32 × Int32 × Int32 × Int32) => u = F_X1_enterMode f0 f1 f2 f3 f4 f5 f6 f7 t) (fun u => cPost D (tyz cI cJ cS) A ([(h0, .inr (1, [.int u.1, .int u.2.1, .int u.2.2.1, .int u.2.2.2, .int f4, .int f5, .int f6, .int f7]))])) A)) (cc := cX1_enterMode) (maxL := 2) (ret := none) (by decide) rfl (Nat.le_of_ble_eq_true rfl) ?_
  intro p e s m below meth c ls A hx hb hml hr hts hown hlocks hname hK hP hD hS hA hG hl
  have hown : s.vm.findClass RX1 = some m.cls := hown
  have hl : lv_has ls 2 [(0, .ref h0), (1, .int t)] := hl
  have hP : va_P D vwCl [(h0, .inr (1, [.int f0, .int f1, .int f2, .int f3, .int f4, .int f5, .int f6, .int f7]))] s.heap := hP
  have hD : va_D A [(h0, .inr (1, [.int f0, .int f1, .int f2, .int f3, .int f4, .int f5, .int f6, .int f7]))] := hD
  have hiX1 : ∀ w ∈ u_ws RX1 TX1 8, w ∈ wsX1_enterMode := by decide +kernel
  have hk_15 := hts (.fieldLink RX1 15 "HallCommutator$Guard" "wrongEdges" "I") (by decide +kernel)
  have hk_18 := hts (.fieldLink RX1 18 "HallCommutator$Guard" "illegalTime" "I") (by decide +kernel)
  have hk_21 := hts (.fieldLink RX1 21 "HallCommutator$Guard" "idleTime" "I") (by decide +kernel)
  have hk_9 := hts (.fieldLink RX1 9 "HallCommutator$Guard" "mode" "I") (by decide +kernel)
  refine lv_aload_n hx hb dX1_enterMode_0 rfl (lv_at hl 0 rfl) ?_
  refine lv_iload_n hx hb dX1_enterMode_1 rfl (lv_at hl 1 rfl) ?_
  refine va_put (D := D) (ci := 1) (v := .int t) (ty := .int) (C := RX1) (T := TX1) (N := 8) hx hb hts hiX1 tyX1 tyX1_ok nmX1 hown hK hP hD hS 0 rfl rfl 0 (by decide) hk_9 (fun _ h9 => h9) rfl (by decide +kernel) rfl rfl (Nat.le_of_ble_eq_true rfl) dX1_enterMode_2 (fun H locs hP hD hS => ?_)
  have hP : va_P D vwCl [(h0, .inr (1, [.int t, .int f1, .int f2, .int f3, .int f4, .int f5, .int f6, .int f7]))] H := hP
  have hD : va_D A [(h0, .inr (1, [.int t, .int f1, .int f2, .int f3, .int f4, .int f5, .int f6, .int f7]))] := hD
  refine lv_aload_n hx hb dX1_enterMode_5 rfl (lv_at hl 0 rfl) ?_
  refine lv_iconst (v := 0) hx hb dX1_enterMode_6 (by decide) ?_
  refine va_put (D := D) (ci := 1) (v := .int (0 : Int32)) (ty := .int) (C := RX1) (T := TX1) (N := 8) hx hb hts hiX1 tyX1 tyX1_ok nmX1 hown hK hP hD hS 0 rfl rfl 1 (by decide) hk_15 (fun _ h9 => h9) rfl (by decide +kernel) rfl rfl (Nat.le_of_ble_eq_true rfl) dX1_enterMode_7 (fun H locs hP hD hS => ?_)
  have hP : va_P D vwCl [(h0, .inr (1, [.int t, .int (0 : Int32), .int f2, .int f3, .int f4, .int f5, .int f6, .int f7]))] H := hP
  have hD : va_D A [(h0, .inr (1, [.int t, .int (0 : Int32), .int f2, .int f3, .int f4, .int f5, .int f6, .int f7]))] := hD
  refine lv_aload_n hx hb dX1_enterMode_10 rfl (lv_at hl 0 rfl) ?_
  refine lv_iconst (v := 0) hx hb dX1_enterMode_11 (by decide) ?_
  refine va_put (D := D) (ci := 1) (v := .int (0 : Int32)) (ty := .int) (C := RX1) (T := TX1) (N := 8) hx hb hts hiX1 tyX1 tyX1_ok nmX1 hown hK hP hD hS 0 rfl rfl 2 (by decide) hk_18 (fun _ h9 => h9) rfl (by decide +kernel) rfl rfl (Nat.le_of_ble_eq_true rfl) dX1_enterMode_12 (fun H locs hP hD hS => ?_)
  have hP : va_P D vwCl [(h0, .inr (1, [.int t, .int (0 : Int32), .int (0 : Int32), .int f3, .int f4, .int f5, .int f6, .int f7]))] H := hP
  have hD : va_D A [(h0, .inr (1, [.int t, .int (0 : Int32), .int (0 : Int32), .int f3, .int f4, .int f5, .int f6, .int f7]))] := hD
  refine lv_aload_n hx hb dX1_enterMode_15 rfl (lv_at hl 0 rfl) ?_
  refine lv_iconst (v := 0) hx hb dX1_enterMode_16 (by decide) ?_
  refine va_put (D := D) (ci := 1) (v := .int (0 : Int32)) (ty := .int) (C := RX1) (T := TX1) (N := 8) hx hb hts hiX1 tyX1 tyX1_ok nmX1 hown hK hP hD hS 0 rfl rfl 3 (by decide) hk_21 (fun _ h9 => h9) rfl (by decide +kernel) rfl rfl (Nat.le_of_ble_eq_true rfl) dX1_enterMode_17 (fun H locs hP hD hS => ?_)
  have hP : va_P D vwCl [(h0, .inr (1, [.int t, .int (0 : Int32), .int (0 : Int32), .int (0 : Int32), .int f4, .int f5, .int f6, .int f7]))] H := hP
  have hD : va_D A [(h0, .inr (1, [.int t, .int (0 : Int32), .int (0 : Int32), .int (0 : Int32), .int f4, .int f5, .int f6, .int f7]))] := hD
  exact my_vret hx hb hr hlocks hK hP hD hS (t, (0 : Int32), (0 : Int32), (0 : Int32)) (by show (t, (0 : Int32), (0 : Int32), (0 : Int32)) = F_X1_enterMode f0 f1 f2 f3 f4 f5 f6 f7 t; simp only [F_X1_enterMode]) [0] rfl rfl dX1_enterMode_20
def F_X1_raiseFault (f0 : Int32) (f1 : Int32) (f2 : Int32) (f3 : Int32) (f4 : Int32) (f5 : Int32) (f6 : Int32) (f7 : Int32) (t : Int32) (b : Int32) (d : Int32) : Int32 × Int32 × Int32 × Int32 × Int32 × Int32 × Int32 × Int32 :=
  let q1 := F_X1_enterMode f0 f1 f2 f3 f4 f5 f6 f7 (0 : Int32)
  (q1.1, q1.2.1, q1.2.2.1, q1.2.2.2, f4 + (1 : Int32), t, b, d)
set_option maxHeartbeats 4000000 in
set_option maxRecDepth 100000 in
theorem met_X1_raiseFault (l : Launch) (D : va_G) (cI cJ cS : ClassId) (h0 : Nat) (f0 : Int32) (f1 : Int32) (f2 : Int32) (f3 : Int32) (f4 : Int32) (f5 : Int32) (f6 : Int32) (f7 : Int32) (t : Int32) (b : Int32) (d : Int32)  : ∀ sz : Nat, Met l yX1_raiseFault wsX1_raiseFault ({ frames := 1, cells := 0, slots := 0, locals := 21 } : Room) (va_Pc [.ref h0, .int t, .int b, .int d] (cPre D (tyz cI cJ cS) ([(h0, .inr (1, [.int f0, .int f1, .int f2, .int f3, .int f4, .int f5, .int f6, .int f7]))]) sz)) (va_Qv (fun (u : Int32 × Int32 × Int32 × Int32 × Int32 × Int32 × Int32 × Int32) => u = F_X1_raiseFault f0 f1 f2 f3 f4 f5 f6 f7 t b d) (fun u => cPost D (tyz cI cJ cS) (va_A ([(h0, .inr (1, [.int f0, .int f1, .int f2, .int f3, .int f4, .int f5, .int f6, .int f7]))]) sz) ([(h0, .inr (1, [.int u.1, .int u.2.1, .int u.2.2.1, .int u.2.2.2.1, .int u.2.2.2.2.1, .int u.2.2.2.2.2.1, .int u.2.2.2.2.2.2.1, .int u.2.2.2.2.2.2.2]))])) (va_A ([(h0, .inr (1, [.int f0, .int f1, .int f2, .int f3, .int f4, .int f5, .int f6, .int f7]))]) sz)) 0 0 (va_A ([(h0, .inr (1, [.int f0, .int f1, .int f2, .int f3, .int f4, .int f5, .int f6, .int f7]))]) sz) := by
  refine my_met (QC := fun A => (va_Qv (fun (u : Int32 × Int32 × Int32 × Int32 × Int32 × Int32 × Int32 × Int32) => u = F_X1_raiseFault f0 f1 f2 f3 f4 f5 f6 f7 t b d) (fun u => cPost D (tyz cI cJ cS) A ([(h0, .inr (1, [.int u.1, .int u.2.1, .int u.2.2.1, .int u.2.2.2.1, .int u.2.2.2.2.1, .int u.2.2.2.2.2.1, .int u.2.2.2.2.2.2.1, .int u.2.2.2.2.2.2.2]))])) A)) (cc := cX1_raiseFault) (maxL := 4) (ret := none) (by decide) rfl (Nat.le_of_ble_eq_true rfl) ?_
  intro p e s m below meth c ls A hx hb hml hr hts hown hlocks hname hK hP hD hS hA hG hl
  have hown : s.vm.findClass RX1 = some m.cls := hown
  have hl : lv_has ls 4 [(0, .ref h0), (1, .int t), (2, .int b), (3, .int d)] := hl
  have hP : va_P D vwCl [(h0, .inr (1, [.int f0, .int f1, .int f2, .int f3, .int f4, .int f5, .int f6, .int f7]))] s.heap := hP
  have hD : va_D A [(h0, .inr (1, [.int f0, .int f1, .int f2, .int f3, .int f4, .int f5, .int f6, .int f7]))] := hD
  have hiX1 : ∀ w ∈ u_ws RX1 TX1 8, w ∈ wsX1_raiseFault := by decide +kernel
  have hk_24 := hts (.fieldLink RX1 24 "HallCommutator$Guard" "faults" "I") (by decide +kernel)
  have hk_27 := hts (.fieldLink RX1 27 "HallCommutator$Guard" "faultNumber" "I") (by decide +kernel)
  have hk_30 := hts (.fieldLink RX1 30 "HallCommutator$Guard" "faultTick" "I") (by decide +kernel)
  have hk_33 := hts (.fieldLink RX1 33 "HallCommutator$Guard" "faultDetail" "I") (by decide +kernel)
  refine lv_aload_n hx hb dX1_raiseFault_0 rfl (lv_at hl 0 rfl) ?_
  refine lv_iconst (v := 0) hx hb dX1_raiseFault_1 (by decide) ?_
  refine my_callV_v (As := [.int (0 : Int32)]) (rest := []) (wc := [(h0, .inr (1, [.int f0, .int f1, .int f2, .int f3, .int f4, .int f5, .int f6, .int f7]))]) (wr := []) ⟨hx, hb, hml, hown, hts⟩ (met_X1_enterMode l D cI cJ cS h0 f0 f1 f2 f3 f4 f5 f6 f7 (0 : Int32) _) (cwV 1 hts gX1_raiseFault_X1_enterMode rfl rfl rfl (by decide +kernel) ⟨Nat.le_of_ble_eq_true rfl, Nat.le_of_ble_eq_true rfl⟩) hK hP hD hS hA hG [0] [] rfl rfl rfl rfl (by decide) 0 rfl rfl rfl hl.1 (Nat.le_of_ble_eq_true rfl) rfl dX1_raiseFault_2 ⟨Nat.le_of_ble_eq_true rfl, Nat.le_of_ble_eq_true rfl⟩ (fun u_1 H locs hw_1 hP hD hS => ?_)
  obtain ⟨x_1_0, x_1_1, x_1_2, x_1_3⟩ := u_1
  have hP : va_P D vwCl [(h0, .inr (1, [.int x_1_0, .int x_1_1, .int x_1_2, .int x_1_3, .int f4, .int f5, .int f6, .int f7]))] H := hP
  have hD : va_D A [(h0, .inr (1, [.int x_1_0, .int x_1_1, .int x_1_2, .int x_1_3, .int f4, .int f5, .int f6, .int f7]))] := hD
  refine lv_aload_n hx hb dX1_raiseFault_5 rfl (lv_at hl 0 rfl) ?_
  refine lv_dup hx hb dX1_raiseFault_6 rfl ?_
  refine va_get (D := D) (ci := 1) (v := .int f4) (C := RX1) (T := TX1) (N := 8) hx hb hts hiX1 hown hK hP 0 rfl rfl 4 (by decide) hk_24 (fun _ h9 => h9) rfl dX1_raiseFault_7 ?_
  refine lv_iconst (v := 1) hx hb dX1_raiseFault_10 (by decide) ?_
  refine lv_iadd hx hb dX1_raiseFault_11 ?_
  refine va_put (D := D) (ci := 1) (v := .int (f4 + (1 : Int32))) (ty := .int) (C := RX1) (T := TX1) (N := 8) hx hb hts hiX1 tyX1 tyX1_ok nmX1 hown hK hP hD hS 0 rfl rfl 4 (by decide) hk_24 (fun _ h9 => h9) rfl (by decide +kernel) rfl rfl (Nat.le_of_ble_eq_true rfl) dX1_raiseFault_12 (fun H locs hP hD hS => ?_)
  have hP : va_P D vwCl [(h0, .inr (1, [.int x_1_0, .int x_1_1, .int x_1_2, .int x_1_3, .int (f4 + (1 : Int32)), .int f5, .int f6, .int f7]))] H := hP
  have hD : va_D A [(h0, .inr (1, [.int x_1_0, .int x_1_1, .int x_1_2, .int x_1_3, .int (f4 + (1 : Int32)), .int f5, .int f6, .int f7]))] := hD
  refine lv_aload_n hx hb dX1_raiseFault_15 rfl (lv_at hl 0 rfl) ?_
  refine lv_iload_n hx hb dX1_raiseFault_16 rfl (lv_at hl 1 rfl) ?_
  refine va_put (D := D) (ci := 1) (v := .int t) (ty := .int) (C := RX1) (T := TX1) (N := 8) hx hb hts hiX1 tyX1 tyX1_ok nmX1 hown hK hP hD hS 0 rfl rfl 5 (by decide) hk_27 (fun _ h9 => h9) rfl (by decide +kernel) rfl rfl (Nat.le_of_ble_eq_true rfl) dX1_raiseFault_17 (fun H locs hP hD hS => ?_)
  have hP : va_P D vwCl [(h0, .inr (1, [.int x_1_0, .int x_1_1, .int x_1_2, .int x_1_3, .int (f4 + (1 : Int32)), .int t, .int f6, .int f7]))] H := hP
  have hD : va_D A [(h0, .inr (1, [.int x_1_0, .int x_1_1, .int x_1_2, .int x_1_3, .int (f4 + (1 : Int32)), .int t, .int f6, .int f7]))] := hD
  refine lv_aload_n hx hb dX1_raiseFault_20 rfl (lv_at hl 0 rfl) ?_
  refine lv_iload_n hx hb dX1_raiseFault_21 rfl (lv_at hl 2 rfl) ?_
  refine va_put (D := D) (ci := 1) (v := .int b) (ty := .int) (C := RX1) (T := TX1) (N := 8) hx hb hts hiX1 tyX1 tyX1_ok nmX1 hown hK hP hD hS 0 rfl rfl 6 (by decide) hk_30 (fun _ h9 => h9) rfl (by decide +kernel) rfl rfl (Nat.le_of_ble_eq_true rfl) dX1_raiseFault_22 (fun H locs hP hD hS => ?_)
  have hP : va_P D vwCl [(h0, .inr (1, [.int x_1_0, .int x_1_1, .int x_1_2, .int x_1_3, .int (f4 + (1 : Int32)), .int t, .int b, .int f7]))] H := hP
  have hD : va_D A [(h0, .inr (1, [.int x_1_0, .int x_1_1, .int x_1_2, .int x_1_3, .int (f4 + (1 : Int32)), .int t, .int b, .int f7]))] := hD
  refine lv_aload_n hx hb dX1_raiseFault_25 rfl (lv_at hl 0 rfl) ?_
  refine lv_iload_n hx hb dX1_raiseFault_26 rfl (lv_at hl 3 rfl) ?_
  refine va_put (D := D) (ci := 1) (v := .int d) (ty := .int) (C := RX1) (T := TX1) (N := 8) hx hb hts hiX1 tyX1 tyX1_ok nmX1 hown hK hP hD hS 0 rfl rfl 7 (by decide) hk_33 (fun _ h9 => h9) rfl (by decide +kernel) rfl rfl (Nat.le_of_ble_eq_true rfl) dX1_raiseFault_27 (fun H locs hP hD hS => ?_)
  have hP : va_P D vwCl [(h0, .inr (1, [.int x_1_0, .int x_1_1, .int x_1_2, .int x_1_3, .int (f4 + (1 : Int32)), .int t, .int b, .int d]))] H := hP
  have hD : va_D A [(h0, .inr (1, [.int x_1_0, .int x_1_1, .int x_1_2, .int x_1_3, .int (f4 + (1 : Int32)), .int t, .int b, .int d]))] := hD
  exact my_vret hx hb hr hlocks hK hP hD hS (x_1_0, x_1_1, x_1_2, x_1_3, f4 + (1 : Int32), t, b, d) (by show (x_1_0, x_1_1, x_1_2, x_1_3, f4 + (1 : Int32), t, b, d) = F_X1_raiseFault f0 f1 f2 f3 f4 f5 f6 f7 t b d; simp only [F_X1_raiseFault, ← hw_1]) [0] rfl rfl dX1_raiseFault_30
def F_X1_forgetFault (f0 : Int32) (f1 : Int32) (f2 : Int32) (f3 : Int32) (f4 : Int32) (f5 : Int32) (f6 : Int32) (f7 : Int32) : Int32 × Int32 × Int32 :=
  ((0 : Int32), (0 : Int32), (0 : Int32))
set_option maxHeartbeats 4000000 in
set_option maxRecDepth 100000 in
theorem met_X1_forgetFault (l : Launch) (D : va_G) (cI cJ cS : ClassId) (h0 : Nat) (f0 : Int32) (f1 : Int32) (f2 : Int32) (f3 : Int32) (f4 : Int32) (f5 : Int32) (f6 : Int32) (f7 : Int32)  : ∀ sz : Nat, Met l yX1_forgetFault wsX1_forgetFault ({ frames := 0, cells := 0, slots := 0, locals := 0 } : Room) (va_Pc [.ref h0] (cPre D (tyz cI cJ cS) ([(h0, .inr (1, [.int f0, .int f1, .int f2, .int f3, .int f4, .int f5, .int f6, .int f7]))]) sz)) (va_Qv (fun (u : Int32 × Int32 × Int32) => u = F_X1_forgetFault f0 f1 f2 f3 f4 f5 f6 f7) (fun u => cPost D (tyz cI cJ cS) (va_A ([(h0, .inr (1, [.int f0, .int f1, .int f2, .int f3, .int f4, .int f5, .int f6, .int f7]))]) sz) ([(h0, .inr (1, [.int f0, .int f1, .int f2, .int f3, .int f4, .int u.1, .int u.2.1, .int u.2.2]))])) (va_A ([(h0, .inr (1, [.int f0, .int f1, .int f2, .int f3, .int f4, .int f5, .int f6, .int f7]))]) sz)) 0 0 (va_A ([(h0, .inr (1, [.int f0, .int f1, .int f2, .int f3, .int f4, .int f5, .int f6, .int f7]))]) sz) := by
  refine my_met (QC := fun A => (va_Qv (fun (u : Int32 × Int32 × Int32) => u = F_X1_forgetFault f0 f1 f2 f3 f4 f5 f6 f7) (fun u => cPost D (tyz cI cJ cS) A ([(h0, .inr (1, [.int f0, .int f1, .int f2, .int f3, .int f4, .int u.1, .int u.2.1, .int u.2.2]))])) A)) (cc := cX1_forgetFault) (maxL := 1) (ret := none) (by decide) rfl (Nat.le_of_ble_eq_true rfl) ?_
  intro p e s m below meth c ls A hx hb hml hr hts hown hlocks hname hK hP hD hS hA hG hl
  have hown : s.vm.findClass RX1 = some m.cls := hown
  have hl : lv_has ls 1 [(0, .ref h0)] := hl
  have hP : va_P D vwCl [(h0, .inr (1, [.int f0, .int f1, .int f2, .int f3, .int f4, .int f5, .int f6, .int f7]))] s.heap := hP
  have hD : va_D A [(h0, .inr (1, [.int f0, .int f1, .int f2, .int f3, .int f4, .int f5, .int f6, .int f7]))] := hD
  have hiX1 : ∀ w ∈ u_ws RX1 TX1 8, w ∈ wsX1_forgetFault := by decide +kernel
  have hk_27 := hts (.fieldLink RX1 27 "HallCommutator$Guard" "faultNumber" "I") (by decide +kernel)
  have hk_30 := hts (.fieldLink RX1 30 "HallCommutator$Guard" "faultTick" "I") (by decide +kernel)
  have hk_33 := hts (.fieldLink RX1 33 "HallCommutator$Guard" "faultDetail" "I") (by decide +kernel)
  refine lv_aload_n hx hb dX1_forgetFault_0 rfl (lv_at hl 0 rfl) ?_
  refine lv_iconst (v := 0) hx hb dX1_forgetFault_1 (by decide) ?_
  refine va_put (D := D) (ci := 1) (v := .int (0 : Int32)) (ty := .int) (C := RX1) (T := TX1) (N := 8) hx hb hts hiX1 tyX1 tyX1_ok nmX1 hown hK hP hD hS 0 rfl rfl 5 (by decide) hk_27 (fun _ h9 => h9) rfl (by decide +kernel) rfl rfl (Nat.le_of_ble_eq_true rfl) dX1_forgetFault_2 (fun H locs hP hD hS => ?_)
  have hP : va_P D vwCl [(h0, .inr (1, [.int f0, .int f1, .int f2, .int f3, .int f4, .int (0 : Int32), .int f6, .int f7]))] H := hP
  have hD : va_D A [(h0, .inr (1, [.int f0, .int f1, .int f2, .int f3, .int f4, .int (0 : Int32), .int f6, .int f7]))] := hD
  refine lv_aload_n hx hb dX1_forgetFault_5 rfl (lv_at hl 0 rfl) ?_
  refine lv_iconst (v := 0) hx hb dX1_forgetFault_6 (by decide) ?_
  refine va_put (D := D) (ci := 1) (v := .int (0 : Int32)) (ty := .int) (C := RX1) (T := TX1) (N := 8) hx hb hts hiX1 tyX1 tyX1_ok nmX1 hown hK hP hD hS 0 rfl rfl 6 (by decide) hk_30 (fun _ h9 => h9) rfl (by decide +kernel) rfl rfl (Nat.le_of_ble_eq_true rfl) dX1_forgetFault_7 (fun H locs hP hD hS => ?_)
  have hP : va_P D vwCl [(h0, .inr (1, [.int f0, .int f1, .int f2, .int f3, .int f4, .int (0 : Int32), .int (0 : Int32), .int f7]))] H := hP
  have hD : va_D A [(h0, .inr (1, [.int f0, .int f1, .int f2, .int f3, .int f4, .int (0 : Int32), .int (0 : Int32), .int f7]))] := hD
  refine lv_aload_n hx hb dX1_forgetFault_10 rfl (lv_at hl 0 rfl) ?_
  refine lv_iconst (v := 0) hx hb dX1_forgetFault_11 (by decide) ?_
  refine va_put (D := D) (ci := 1) (v := .int (0 : Int32)) (ty := .int) (C := RX1) (T := TX1) (N := 8) hx hb hts hiX1 tyX1 tyX1_ok nmX1 hown hK hP hD hS 0 rfl rfl 7 (by decide) hk_33 (fun _ h9 => h9) rfl (by decide +kernel) rfl rfl (Nat.le_of_ble_eq_true rfl) dX1_forgetFault_12 (fun H locs hP hD hS => ?_)
  have hP : va_P D vwCl [(h0, .inr (1, [.int f0, .int f1, .int f2, .int f3, .int f4, .int (0 : Int32), .int (0 : Int32), .int (0 : Int32)]))] H := hP
  have hD : va_D A [(h0, .inr (1, [.int f0, .int f1, .int f2, .int f3, .int f4, .int (0 : Int32), .int (0 : Int32), .int (0 : Int32)]))] := hD
  exact my_vret hx hb hr hlocks hK hP hD hS ((0 : Int32), (0 : Int32), (0 : Int32)) (by show ((0 : Int32), (0 : Int32), (0 : Int32)) = F_X1_forgetFault f0 f1 f2 f3 f4 f5 f6 f7; simp only [F_X1_forgetFault]) [0] rfl rfl dX1_forgetFault_15
def F_X1_judgeEdge (f0 : Int32) (f1 : Int32) (f2 : Int32) (f3 : Int32) (f4 : Int32) (f5 : Int32) (f6 : Int32) (f7 : Int32) (t : Int32) (b : Int32) (d : Int32) : Int32 × Int32 × Int32 × Int32 × Int32 × Int32 × Int32 × Int32 :=
  let q1 := F_X1_isDriving f0 f1 f2 f3 f4 f5 f6 f7
  if q1 = (0 : Int32) then
    (f0, f1, f2, f3, f4, f5, f6, f7)
  else
    if f0 = (1 : Int32) then
      if t = (1 : Int32) then
        (f0, (0 : Int32), f2, f3, f4, f5, f6, f7)
      else
        if f1 + (1 : Int32) < (3 : Int32) then
          (f0, f1 + (1 : Int32), f2, f3, f4, f5, f6, f7)
        else
          let q9 := F_X1_raiseFault f0 (f1 + (1 : Int32)) f2 f3 f4 f5 f6 f7 (2 : Int32) b d
          (q9.1, q9.2.1, q9.2.2.1, q9.2.2.2.1, q9.2.2.2.2.1, q9.2.2.2.2.2.1, q9.2.2.2.2.2.2.1, q9.2.2.2.2.2.2.2)
    else
      if t = (-1 : Int32) then
        (f0, (0 : Int32), f2, f3, f4, f5, f6, f7)
      else
        if f1 + (1 : Int32) < (3 : Int32) then
          (f0, f1 + (1 : Int32), f2, f3, f4, f5, f6, f7)
        else
          let q6 := F_X1_raiseFault f0 (f1 + (1 : Int32)) f2 f3 f4 f5 f6 f7 (2 : Int32) b d
          (q6.1, q6.2.1, q6.2.2.1, q6.2.2.2.1, q6.2.2.2.2.1, q6.2.2.2.2.2.1, q6.2.2.2.2.2.2.1, q6.2.2.2.2.2.2.2)
set_option maxHeartbeats 4000000 in
set_option maxRecDepth 100000 in
theorem met_X1_judgeEdge (l : Launch) (D : va_G) (cI cJ cS : ClassId) (h0 : Nat) (f0 : Int32) (f1 : Int32) (f2 : Int32) (f3 : Int32) (f4 : Int32) (f5 : Int32) (f6 : Int32) (f7 : Int32) (t : Int32) (b : Int32) (d : Int32)  : ∀ sz : Nat, Met l yX1_judgeEdge wsX1_judgeEdge ({ frames := 2, cells := 0, slots := 0, locals := 44 } : Room) (va_Pc [.ref h0, .int t, .int b, .int d] (cPre D (tyz cI cJ cS) ([(h0, .inr (1, [.int f0, .int f1, .int f2, .int f3, .int f4, .int f5, .int f6, .int f7]))]) sz)) (va_Qv (fun (u : Int32 × Int32 × Int32 × Int32 × Int32 × Int32 × Int32 × Int32) => u = F_X1_judgeEdge f0 f1 f2 f3 f4 f5 f6 f7 t b d) (fun u => cPost D (tyz cI cJ cS) (va_A ([(h0, .inr (1, [.int f0, .int f1, .int f2, .int f3, .int f4, .int f5, .int f6, .int f7]))]) sz) ([(h0, .inr (1, [.int u.1, .int u.2.1, .int u.2.2.1, .int u.2.2.2.1, .int u.2.2.2.2.1, .int u.2.2.2.2.2.1, .int u.2.2.2.2.2.2.1, .int u.2.2.2.2.2.2.2]))])) (va_A ([(h0, .inr (1, [.int f0, .int f1, .int f2, .int f3, .int f4, .int f5, .int f6, .int f7]))]) sz)) 0 0 (va_A ([(h0, .inr (1, [.int f0, .int f1, .int f2, .int f3, .int f4, .int f5, .int f6, .int f7]))]) sz) := by
  refine my_met (QC := fun A => (va_Qv (fun (u : Int32 × Int32 × Int32 × Int32 × Int32 × Int32 × Int32 × Int32) => u = F_X1_judgeEdge f0 f1 f2 f3 f4 f5 f6 f7 t b d) (fun u => cPost D (tyz cI cJ cS) A ([(h0, .inr (1, [.int u.1, .int u.2.1, .int u.2.2.1, .int u.2.2.2.1, .int u.2.2.2.2.1, .int u.2.2.2.2.2.1, .int u.2.2.2.2.2.2.1, .int u.2.2.2.2.2.2.2]))])) A)) (cc := cX1_judgeEdge) (maxL := 5) (ret := none) (by decide) rfl (Nat.le_of_ble_eq_true rfl) ?_
  intro p e s m below meth c ls A hx hb hml hr hts hown hlocks hname hK hP hD hS hA hG hl
  have hown : s.vm.findClass RX1 = some m.cls := hown
  have hl : lv_has ls 5 [(0, .ref h0), (1, .int t), (2, .int b), (3, .int d)] := hl
  have hP : va_P D vwCl [(h0, .inr (1, [.int f0, .int f1, .int f2, .int f3, .int f4, .int f5, .int f6, .int f7]))] s.heap := hP
  have hD : va_D A [(h0, .inr (1, [.int f0, .int f1, .int f2, .int f3, .int f4, .int f5, .int f6, .int f7]))] := hD
  have hiX1 : ∀ w ∈ u_ws RX1 TX1 8, w ∈ wsX1_judgeEdge := by decide +kernel
  have hk_15 := hts (.fieldLink RX1 15 "HallCommutator$Guard" "wrongEdges" "I") (by decide +kernel)
  have hk_9 := hts (.fieldLink RX1 9 "HallCommutator$Guard" "mode" "I") (by decide +kernel)
  refine lv_aload_n hx hb dX1_judgeEdge_0 rfl (lv_at hl 0 rfl) ?_
  refine my_callV_i (As := []) (rest := []) (wc := [(h0, .inr (1, [.int f0, .int f1, .int f2, .int f3, .int f4, .int f5, .int f6, .int f7]))]) (wr := []) ⟨hx, hb, hml, hown, hts⟩ (met_X1_isDriving l D cI cJ cS h0 f0 f1 f2 f3 f4 f5 f6 f7 _) (cwV 0 hts gX1_judgeEdge_X1_isDriving rfl rfl rfl (by decide +kernel) ⟨Nat.le_of_ble_eq_true rfl, Nat.le_of_ble_eq_true rfl⟩) hK hP hD hS hA hG [0] [] rfl rfl rfl rfl (by decide) 0 rfl rfl rfl hl.1 (Nat.le_of_ble_eq_true rfl) rfl dX1_judgeEdge_1 ⟨Nat.le_of_ble_eq_true rfl, Nat.le_of_ble_eq_true rfl⟩ (fun r_1 _ H locs hw_1 hP hD hS => ?_)
  have hP : va_P D vwCl [(h0, .inr (1, [.int f0, .int f1, .int f2, .int f3, .int f4, .int f5, .int f6, .int f7]))] H := hP
  have hD : va_D A [(h0, .inr (1, [.int f0, .int f1, .int f2, .int f3, .int f4, .int f5, .int f6, .int f7]))] := hD
  refine lv_if_ne (tgt := 8) hx hb dX1_judgeEdge_4 (by decide) (fun c_2 => ?_) (fun c_2 => ?_)
  · skip
    refine lv_aload_n hx hb dX1_judgeEdge_8 rfl (lv_at hl 0 rfl) ?_
    refine va_get (D := D) (ci := 1) (v := .int f0) (C := RX1) (T := TX1) (N := 8) hx hb hts hiX1 hown hK hP 0 rfl rfl 0 (by decide) hk_9 (fun _ h9 => h9) rfl dX1_judgeEdge_9 ?_
    refine lv_iconst (v := 1) hx hb dX1_judgeEdge_12 (by decide) ?_
    refine lv_icmp_ne (tgt := 20) hx hb dX1_judgeEdge_13 (by decide) (fun c_3 => ?_) (fun c_3 => ?_)
    · skip
      refine lv_iconst (v := -1) hx hb dX1_judgeEdge_20 (by decide) ?_
      refine lv_istore (lv' := [(4, .int (-1 : Int32)), (0, .ref h0), (1, .int t), (2, .int b), (3, .int d)]) hx hb dX1_judgeEdge_21 hl (by decide) rfl (fun ls hl => ?_)
      refine lv_aload_n hx hb dX1_judgeEdge_23 rfl (lv_at hl 1 rfl) ?_
      refine lv_iload_n hx hb dX1_judgeEdge_24 rfl (lv_at hl 2 rfl) ?_
      refine lv_iload hx hb dX1_judgeEdge_25 (lv_at hl 0 rfl) ?_
      refine lv_icmp_ne (tgt := 34) hx hb dX1_judgeEdge_27 (by decide) (fun c_4 => ?_) (fun c_4 => ?_)
      · skip
        refine lv_aload_n hx hb dX1_judgeEdge_34 rfl (lv_at hl 1 rfl) ?_
        refine va_get (D := D) (ci := 1) (v := .int f1) (C := RX1) (T := TX1) (N := 8) hx hb hts hiX1 hown hK hP 0 rfl rfl 1 (by decide) hk_15 (fun _ h9 => h9) rfl dX1_judgeEdge_35 ?_
        refine lv_iconst (v := 1) hx hb dX1_judgeEdge_38 (by decide) ?_
        refine lv_iadd hx hb dX1_judgeEdge_39 ?_
        refine va_put (D := D) (ci := 1) (v := .int (f1 + (1 : Int32))) (ty := .int) (C := RX1) (T := TX1) (N := 8) hx hb hts hiX1 tyX1 tyX1_ok nmX1 hown hK hP hD hS 0 rfl rfl 1 (by decide) hk_15 (fun _ h9 => h9) rfl (by decide +kernel) rfl rfl (Nat.le_of_ble_eq_true rfl) dX1_judgeEdge_40 (fun H locs hP hD hS => ?_)
        have hP : va_P D vwCl [(h0, .inr (1, [.int f0, .int (f1 + (1 : Int32)), .int f2, .int f3, .int f4, .int f5, .int f6, .int f7]))] H := hP
        have hD : va_D A [(h0, .inr (1, [.int f0, .int (f1 + (1 : Int32)), .int f2, .int f3, .int f4, .int f5, .int f6, .int f7]))] := hD
        refine lv_aload_n hx hb dX1_judgeEdge_43 rfl (lv_at hl 1 rfl) ?_
        refine va_get (D := D) (ci := 1) (v := .int (f1 + (1 : Int32))) (C := RX1) (T := TX1) (N := 8) hx hb hts hiX1 hown hK hP 0 rfl rfl 1 (by decide) hk_15 (fun _ h9 => h9) rfl dX1_judgeEdge_44 ?_
        refine lv_iconst (v := 3) hx hb dX1_judgeEdge_47 (by decide) ?_
        refine lv_icmp_lt (tgt := 58) hx hb dX1_judgeEdge_48 (by decide) (fun c_5 => ?_) (fun c_5 => ?_)
        · skip
          exact my_vret hx hb hr hlocks hK hP hD hS (f0, f1 + (1 : Int32), f2, f3, f4, f5, f6, f7) (by show (f0, f1 + (1 : Int32), f2, f3, f4, f5, f6, f7) = F_X1_judgeEdge f0 f1 f2 f3 f4 f5 f6 f7 t b d; simp only [F_X1_judgeEdge, if_neg c_2, if_neg c_3, if_neg c_4, if_pos c_5, ← hw_1]) [0] rfl rfl dX1_judgeEdge_58
        · skip
          refine lv_aload_n hx hb dX1_judgeEdge_51 rfl (lv_at hl 1 rfl) ?_
          refine lv_iconst (v := 2) hx hb dX1_judgeEdge_52 (by decide) ?_
          refine lv_iload_n hx hb dX1_judgeEdge_53 rfl (lv_at hl 3 rfl) ?_
          refine lv_iload_n hx hb dX1_judgeEdge_54 rfl (lv_at hl 4 rfl) ?_
          refine my_callV_v (As := [.int (2 : Int32), .int b, .int d]) (rest := []) (wc := [(h0, .inr (1, [.int f0, .int (f1 + (1 : Int32)), .int f2, .int f3, .int f4, .int f5, .int f6, .int f7]))]) (wr := []) ⟨hx, hb, hml, hown, hts⟩ (met_X1_raiseFault l D cI cJ cS h0 f0 (f1 + (1 : Int32)) f2 f3 f4 f5 f6 f7 (2 : Int32) b d _) (cwV 3 hts gX1_judgeEdge_X1_raiseFault rfl rfl rfl (by decide +kernel) ⟨Nat.le_of_ble_eq_true rfl, Nat.le_of_ble_eq_true rfl⟩) hK hP hD hS hA hG [0] [] rfl rfl rfl rfl (by decide) 0 rfl rfl rfl hl.1 (Nat.le_of_ble_eq_true rfl) rfl dX1_judgeEdge_55 ⟨Nat.le_of_ble_eq_true rfl, Nat.le_of_ble_eq_true rfl⟩ (fun u_6 H locs hw_6 hP hD hS => ?_)
          obtain ⟨x_6_0, x_6_1, x_6_2, x_6_3, x_6_4, x_6_5, x_6_6, x_6_7⟩ := u_6
          have hP : va_P D vwCl [(h0, .inr (1, [.int x_6_0, .int x_6_1, .int x_6_2, .int x_6_3, .int x_6_4, .int x_6_5, .int x_6_6, .int x_6_7]))] H := hP
          have hD : va_D A [(h0, .inr (1, [.int x_6_0, .int x_6_1, .int x_6_2, .int x_6_3, .int x_6_4, .int x_6_5, .int x_6_6, .int x_6_7]))] := hD
          exact my_vret hx hb hr hlocks hK hP hD hS (x_6_0, x_6_1, x_6_2, x_6_3, x_6_4, x_6_5, x_6_6, x_6_7) (by show (x_6_0, x_6_1, x_6_2, x_6_3, x_6_4, x_6_5, x_6_6, x_6_7) = F_X1_judgeEdge f0 f1 f2 f3 f4 f5 f6 f7 t b d; simp only [F_X1_judgeEdge, if_neg c_2, if_neg c_3, if_neg c_4, if_neg c_5, ← hw_1, ← hw_6]) [0] rfl rfl dX1_judgeEdge_58
      · skip
        refine lv_iconst (v := 0) hx hb dX1_judgeEdge_30 (by decide) ?_
        refine lv_goto (tgt := 40) hx hb dX1_judgeEdge_31 (by decide) ?_
        refine va_put (D := D) (ci := 1) (v := .int (0 : Int32)) (ty := .int) (C := RX1) (T := TX1) (N := 8) hx hb hts hiX1 tyX1 tyX1_ok nmX1 hown hK hP hD hS 0 rfl rfl 1 (by decide) hk_15 (fun _ h9 => h9) rfl (by decide +kernel) rfl rfl (Nat.le_of_ble_eq_true rfl) dX1_judgeEdge_40 (fun H locs hP hD hS => ?_)
        have hP : va_P D vwCl [(h0, .inr (1, [.int f0, .int (0 : Int32), .int f2, .int f3, .int f4, .int f5, .int f6, .int f7]))] H := hP
        have hD : va_D A [(h0, .inr (1, [.int f0, .int (0 : Int32), .int f2, .int f3, .int f4, .int f5, .int f6, .int f7]))] := hD
        refine lv_aload_n hx hb dX1_judgeEdge_43 rfl (lv_at hl 1 rfl) ?_
        refine va_get (D := D) (ci := 1) (v := .int (0 : Int32)) (C := RX1) (T := TX1) (N := 8) hx hb hts hiX1 hown hK hP 0 rfl rfl 1 (by decide) hk_15 (fun _ h9 => h9) rfl dX1_judgeEdge_44 ?_
        refine lv_iconst (v := 3) hx hb dX1_judgeEdge_47 (by decide) ?_
        refine lv_icmp_lt (tgt := 58) hx hb dX1_judgeEdge_48 (by decide) (fun _ => ?_) (fun c9 => absurd (by decide) c9)
        exact my_vret hx hb hr hlocks hK hP hD hS (f0, (0 : Int32), f2, f3, f4, f5, f6, f7) (by show (f0, (0 : Int32), f2, f3, f4, f5, f6, f7) = F_X1_judgeEdge f0 f1 f2 f3 f4 f5 f6 f7 t b d; simp only [F_X1_judgeEdge, if_neg c_2, if_neg c_3, if_pos c_4, ← hw_1]) [0] rfl rfl dX1_judgeEdge_58
    · skip
      refine lv_iconst (v := 1) hx hb dX1_judgeEdge_16 (by decide) ?_
      refine lv_goto (tgt := 21) hx hb dX1_judgeEdge_17 (by decide) ?_
      refine lv_istore (lv' := [(4, .int (1 : Int32)), (0, .ref h0), (1, .int t), (2, .int b), (3, .int d)]) hx hb dX1_judgeEdge_21 hl (by decide) rfl (fun ls hl => ?_)
      refine lv_aload_n hx hb dX1_judgeEdge_23 rfl (lv_at hl 1 rfl) ?_
      refine lv_iload_n hx hb dX1_judgeEdge_24 rfl (lv_at hl 2 rfl) ?_
      refine lv_iload hx hb dX1_judgeEdge_25 (lv_at hl 0 rfl) ?_
      refine lv_icmp_ne (tgt := 34) hx hb dX1_judgeEdge_27 (by decide) (fun c_7 => ?_) (fun c_7 => ?_)
      · skip
        refine lv_aload_n hx hb dX1_judgeEdge_34 rfl (lv_at hl 1 rfl) ?_
        refine va_get (D := D) (ci := 1) (v := .int f1) (C := RX1) (T := TX1) (N := 8) hx hb hts hiX1 hown hK hP 0 rfl rfl 1 (by decide) hk_15 (fun _ h9 => h9) rfl dX1_judgeEdge_35 ?_
        refine lv_iconst (v := 1) hx hb dX1_judgeEdge_38 (by decide) ?_
        refine lv_iadd hx hb dX1_judgeEdge_39 ?_
        refine va_put (D := D) (ci := 1) (v := .int (f1 + (1 : Int32))) (ty := .int) (C := RX1) (T := TX1) (N := 8) hx hb hts hiX1 tyX1 tyX1_ok nmX1 hown hK hP hD hS 0 rfl rfl 1 (by decide) hk_15 (fun _ h9 => h9) rfl (by decide +kernel) rfl rfl (Nat.le_of_ble_eq_true rfl) dX1_judgeEdge_40 (fun H locs hP hD hS => ?_)
        have hP : va_P D vwCl [(h0, .inr (1, [.int f0, .int (f1 + (1 : Int32)), .int f2, .int f3, .int f4, .int f5, .int f6, .int f7]))] H := hP
        have hD : va_D A [(h0, .inr (1, [.int f0, .int (f1 + (1 : Int32)), .int f2, .int f3, .int f4, .int f5, .int f6, .int f7]))] := hD
        refine lv_aload_n hx hb dX1_judgeEdge_43 rfl (lv_at hl 1 rfl) ?_
        refine va_get (D := D) (ci := 1) (v := .int (f1 + (1 : Int32))) (C := RX1) (T := TX1) (N := 8) hx hb hts hiX1 hown hK hP 0 rfl rfl 1 (by decide) hk_15 (fun _ h9 => h9) rfl dX1_judgeEdge_44 ?_
        refine lv_iconst (v := 3) hx hb dX1_judgeEdge_47 (by decide) ?_
        refine lv_icmp_lt (tgt := 58) hx hb dX1_judgeEdge_48 (by decide) (fun c_8 => ?_) (fun c_8 => ?_)
        · skip
          exact my_vret hx hb hr hlocks hK hP hD hS (f0, f1 + (1 : Int32), f2, f3, f4, f5, f6, f7) (by show (f0, f1 + (1 : Int32), f2, f3, f4, f5, f6, f7) = F_X1_judgeEdge f0 f1 f2 f3 f4 f5 f6 f7 t b d; simp only [F_X1_judgeEdge, if_neg c_2, if_pos c_3, if_neg c_7, if_pos c_8, ← hw_1]) [0] rfl rfl dX1_judgeEdge_58
        · skip
          refine lv_aload_n hx hb dX1_judgeEdge_51 rfl (lv_at hl 1 rfl) ?_
          refine lv_iconst (v := 2) hx hb dX1_judgeEdge_52 (by decide) ?_
          refine lv_iload_n hx hb dX1_judgeEdge_53 rfl (lv_at hl 3 rfl) ?_
          refine lv_iload_n hx hb dX1_judgeEdge_54 rfl (lv_at hl 4 rfl) ?_
          refine my_callV_v (As := [.int (2 : Int32), .int b, .int d]) (rest := []) (wc := [(h0, .inr (1, [.int f0, .int (f1 + (1 : Int32)), .int f2, .int f3, .int f4, .int f5, .int f6, .int f7]))]) (wr := []) ⟨hx, hb, hml, hown, hts⟩ (met_X1_raiseFault l D cI cJ cS h0 f0 (f1 + (1 : Int32)) f2 f3 f4 f5 f6 f7 (2 : Int32) b d _) (cwV 3 hts gX1_judgeEdge_X1_raiseFault rfl rfl rfl (by decide +kernel) ⟨Nat.le_of_ble_eq_true rfl, Nat.le_of_ble_eq_true rfl⟩) hK hP hD hS hA hG [0] [] rfl rfl rfl rfl (by decide) 0 rfl rfl rfl hl.1 (Nat.le_of_ble_eq_true rfl) rfl dX1_judgeEdge_55 ⟨Nat.le_of_ble_eq_true rfl, Nat.le_of_ble_eq_true rfl⟩ (fun u_9 H locs hw_9 hP hD hS => ?_)
          obtain ⟨x_9_0, x_9_1, x_9_2, x_9_3, x_9_4, x_9_5, x_9_6, x_9_7⟩ := u_9
          have hP : va_P D vwCl [(h0, .inr (1, [.int x_9_0, .int x_9_1, .int x_9_2, .int x_9_3, .int x_9_4, .int x_9_5, .int x_9_6, .int x_9_7]))] H := hP
          have hD : va_D A [(h0, .inr (1, [.int x_9_0, .int x_9_1, .int x_9_2, .int x_9_3, .int x_9_4, .int x_9_5, .int x_9_6, .int x_9_7]))] := hD
          exact my_vret hx hb hr hlocks hK hP hD hS (x_9_0, x_9_1, x_9_2, x_9_3, x_9_4, x_9_5, x_9_6, x_9_7) (by show (x_9_0, x_9_1, x_9_2, x_9_3, x_9_4, x_9_5, x_9_6, x_9_7) = F_X1_judgeEdge f0 f1 f2 f3 f4 f5 f6 f7 t b d; simp only [F_X1_judgeEdge, if_neg c_2, if_pos c_3, if_neg c_7, if_neg c_8, ← hw_1, ← hw_9]) [0] rfl rfl dX1_judgeEdge_58
      · skip
        refine lv_iconst (v := 0) hx hb dX1_judgeEdge_30 (by decide) ?_
        refine lv_goto (tgt := 40) hx hb dX1_judgeEdge_31 (by decide) ?_
        refine va_put (D := D) (ci := 1) (v := .int (0 : Int32)) (ty := .int) (C := RX1) (T := TX1) (N := 8) hx hb hts hiX1 tyX1 tyX1_ok nmX1 hown hK hP hD hS 0 rfl rfl 1 (by decide) hk_15 (fun _ h9 => h9) rfl (by decide +kernel) rfl rfl (Nat.le_of_ble_eq_true rfl) dX1_judgeEdge_40 (fun H locs hP hD hS => ?_)
        have hP : va_P D vwCl [(h0, .inr (1, [.int f0, .int (0 : Int32), .int f2, .int f3, .int f4, .int f5, .int f6, .int f7]))] H := hP
        have hD : va_D A [(h0, .inr (1, [.int f0, .int (0 : Int32), .int f2, .int f3, .int f4, .int f5, .int f6, .int f7]))] := hD
        refine lv_aload_n hx hb dX1_judgeEdge_43 rfl (lv_at hl 1 rfl) ?_
        refine va_get (D := D) (ci := 1) (v := .int (0 : Int32)) (C := RX1) (T := TX1) (N := 8) hx hb hts hiX1 hown hK hP 0 rfl rfl 1 (by decide) hk_15 (fun _ h9 => h9) rfl dX1_judgeEdge_44 ?_
        refine lv_iconst (v := 3) hx hb dX1_judgeEdge_47 (by decide) ?_
        refine lv_icmp_lt (tgt := 58) hx hb dX1_judgeEdge_48 (by decide) (fun _ => ?_) (fun c9 => absurd (by decide) c9)
        exact my_vret hx hb hr hlocks hK hP hD hS (f0, (0 : Int32), f2, f3, f4, f5, f6, f7) (by show (f0, (0 : Int32), f2, f3, f4, f5, f6, f7) = F_X1_judgeEdge f0 f1 f2 f3 f4 f5 f6 f7 t b d; simp only [F_X1_judgeEdge, if_neg c_2, if_pos c_3, if_pos c_7, ← hw_1]) [0] rfl rfl dX1_judgeEdge_58
  · skip
    exact my_vret hx hb hr hlocks hK hP hD hS (f0, f1, f2, f3, f4, f5, f6, f7) (by show (f0, f1, f2, f3, f4, f5, f6, f7) = F_X1_judgeEdge f0 f1 f2 f3 f4 f5 f6 f7 t b d; simp only [F_X1_judgeEdge, if_pos c_2, ← hw_1]) [0] rfl rfl dX1_judgeEdge_7
def F_X1_mixTimesInto (x : Int64) (f0 : Int32) (f1 : Int32) (f2 : Int32) (f3 : Int32) (f4 : Int32) (f5 : Int32) (f6 : Int32) (f7 : Int32) : Int64 :=
  let q1 := F_X8_mix x f1
  let q2 := F_X8_mix q1 f2
  let q3 := F_X8_mix q2 f3
  q3
set_option maxHeartbeats 4000000 in
set_option maxRecDepth 100000 in
theorem met_X1_mixTimesInto (l : Launch) (D : va_G) (cI cJ cS : ClassId) (h0 : Nat) (x : Int64) (f0 : Int32) (f1 : Int32) (f2 : Int32) (f3 : Int32) (f4 : Int32) (f5 : Int32) (f6 : Int32) (f7 : Int32)  : ∀ sz : Nat, Met l yX1_mixTimesInto wsX1_mixTimesInto ({ frames := 1, cells := 0, slots := 0, locals := 22 } : Room) (va_Pc [.ref h0, .long x] (cPre D (tyz cI cJ cS) ([(h0, .inr (1, [.int f0, .int f1, .int f2, .int f3, .int f4, .int f5, .int f6, .int f7]))]) sz)) (va_Ql (fun (r : Int64) (_ : Unit) => r = F_X1_mixTimesInto x f0 f1 f2 f3 f4 f5 f6 f7) (fun u => cPost D (tyz cI cJ cS) (va_A ([(h0, .inr (1, [.int f0, .int f1, .int f2, .int f3, .int f4, .int f5, .int f6, .int f7]))]) sz) ([(h0, .inr (1, [.int f0, .int f1, .int f2, .int f3, .int f4, .int f5, .int f6, .int f7]))])) (va_A ([(h0, .inr (1, [.int f0, .int f1, .int f2, .int f3, .int f4, .int f5, .int f6, .int f7]))]) sz)) 0 0 (va_A ([(h0, .inr (1, [.int f0, .int f1, .int f2, .int f3, .int f4, .int f5, .int f6, .int f7]))]) sz) := by
  refine my_met (QC := fun A => (va_Ql (fun (r : Int64) (_ : Unit) => r = F_X1_mixTimesInto x f0 f1 f2 f3 f4 f5 f6 f7) (fun u => cPost D (tyz cI cJ cS) A ([(h0, .inr (1, [.int f0, .int f1, .int f2, .int f3, .int f4, .int f5, .int f6, .int f7]))])) A)) (cc := cX1_mixTimesInto) (maxL := 5) (ret := (some .long)) (by decide) rfl (Nat.le_of_ble_eq_true rfl) ?_
  intro p e s m below meth c ls A hx hb hml hr hts hown hlocks hname hK hP hD hS hA hG hl
  have hown : s.vm.findClass RX1 = some m.cls := hown
  have hl : lv_has ls 5 [(0, .ref h0), (1, .long x)] := hl
  have hP : va_P D vwCl [(h0, .inr (1, [.int f0, .int f1, .int f2, .int f3, .int f4, .int f5, .int f6, .int f7]))] s.heap := hP
  have hD : va_D A [(h0, .inr (1, [.int f0, .int f1, .int f2, .int f3, .int f4, .int f5, .int f6, .int f7]))] := hD
  have hiX1 : ∀ w ∈ u_ws RX1 TX1 8, w ∈ wsX1_mixTimesInto := by decide +kernel
  have hk_15 := hts (.fieldLink RX1 15 "HallCommutator$Guard" "wrongEdges" "I") (by decide +kernel)
  have hk_18 := hts (.fieldLink RX1 18 "HallCommutator$Guard" "illegalTime" "I") (by decide +kernel)
  have hk_21 := hts (.fieldLink RX1 21 "HallCommutator$Guard" "idleTime" "I") (by decide +kernel)
  refine lv_lload_n hx hb dX1_mixTimesInto_0 rfl (lv_at hl 1 rfl) ?_
  refine lv_aload_n hx hb dX1_mixTimesInto_1 rfl (lv_at hl 0 rfl) ?_
  refine va_get (D := D) (ci := 1) (v := .int f1) (C := RX1) (T := TX1) (N := 8) hx hb hts hiX1 hown hK hP 0 rfl rfl 1 (by decide) hk_15 (fun _ h9 => h9) rfl dX1_mixTimesInto_2 ?_
  refine my_callSN_l (As := [.long x, .int f1]) (rest := []) (wc := []) (wr := [(h0, .inr (1, [.int f0, .int f1, .int f2, .int f3, .int f4, .int f5, .int f6, .int f7]))]) ⟨hx, hb, hml, hown, hts⟩ (met_X8_mix l D cI cJ cS x f1 _) ⟨va_cnB 2 hts gX1_mixTimesInto_X8_mix_n48 rfl rfl rfl (hG.1.1 (RX1, 48, yX8_mix, "HallCommutator") (by decide +kernel)) (hts (.initialized RX8) (by decide +kernel)) (by decide +kernel) ⟨Nat.le_of_ble_eq_true rfl, Nat.le_of_ble_eq_true rfl⟩, hts (.static yX8_mix) (by decide +kernel), trivial⟩ hK hP hD hS hA hG [] [0] rfl rfl rfl rfl (by decide) rfl hl.1 (Nat.le_of_ble_eq_true rfl) rfl dX1_mixTimesInto_5 ⟨Nat.le_of_ble_eq_true rfl, Nat.le_of_ble_eq_true rfl⟩ (fun r_1 _ H locs hw_1 hP hD hS => ?_)
  have hP : va_P D vwCl [(h0, .inr (1, [.int f0, .int f1, .int f2, .int f3, .int f4, .int f5, .int f6, .int f7]))] H := hP
  have hD : va_D A [(h0, .inr (1, [.int f0, .int f1, .int f2, .int f3, .int f4, .int f5, .int f6, .int f7]))] := hD
  refine lv_lstore_n (lv' := [(3, .long r_1), (0, .ref h0), (1, .long x)]) hx hb dX1_mixTimesInto_8 rfl hl (by decide) rfl (fun ls hl => ?_)
  refine lv_lload_n hx hb dX1_mixTimesInto_9 rfl (lv_at hl 0 rfl) ?_
  refine lv_aload_n hx hb dX1_mixTimesInto_10 rfl (lv_at hl 1 rfl) ?_
  refine va_get (D := D) (ci := 1) (v := .int f2) (C := RX1) (T := TX1) (N := 8) hx hb hts hiX1 hown hK hP 0 rfl rfl 2 (by decide) hk_18 (fun _ h9 => h9) rfl dX1_mixTimesInto_11 ?_
  refine my_callSN_l (As := [.long r_1, .int f2]) (rest := []) (wc := []) (wr := [(h0, .inr (1, [.int f0, .int f1, .int f2, .int f3, .int f4, .int f5, .int f6, .int f7]))]) ⟨hx, hb, hml, hown, hts⟩ (met_X8_mix l D cI cJ cS r_1 f2 _) ⟨va_cnB 2 hts gX1_mixTimesInto_X8_mix_n48 rfl rfl rfl (hG.1.1 (RX1, 48, yX8_mix, "HallCommutator") (by decide +kernel)) (hts (.initialized RX8) (by decide +kernel)) (by decide +kernel) ⟨Nat.le_of_ble_eq_true rfl, Nat.le_of_ble_eq_true rfl⟩, hts (.static yX8_mix) (by decide +kernel), trivial⟩ hK hP hD hS hA hG [] [0] rfl rfl rfl rfl (by decide) rfl hl.1 (Nat.le_of_ble_eq_true rfl) rfl dX1_mixTimesInto_14 ⟨Nat.le_of_ble_eq_true rfl, Nat.le_of_ble_eq_true rfl⟩ (fun r_2 _ H locs hw_2 hP hD hS => ?_)
  have hP : va_P D vwCl [(h0, .inr (1, [.int f0, .int f1, .int f2, .int f3, .int f4, .int f5, .int f6, .int f7]))] H := hP
  have hD : va_D A [(h0, .inr (1, [.int f0, .int f1, .int f2, .int f3, .int f4, .int f5, .int f6, .int f7]))] := hD
  refine lv_lstore_n (lv' := [(3, .long r_2), (0, .ref h0), (1, .long x)]) hx hb dX1_mixTimesInto_17 rfl hl (by decide) rfl (fun ls hl => ?_)
  refine lv_lload_n hx hb dX1_mixTimesInto_18 rfl (lv_at hl 0 rfl) ?_
  refine lv_aload_n hx hb dX1_mixTimesInto_19 rfl (lv_at hl 1 rfl) ?_
  refine va_get (D := D) (ci := 1) (v := .int f3) (C := RX1) (T := TX1) (N := 8) hx hb hts hiX1 hown hK hP 0 rfl rfl 3 (by decide) hk_21 (fun _ h9 => h9) rfl dX1_mixTimesInto_20 ?_
  refine my_callSN_l (As := [.long r_2, .int f3]) (rest := []) (wc := []) (wr := [(h0, .inr (1, [.int f0, .int f1, .int f2, .int f3, .int f4, .int f5, .int f6, .int f7]))]) ⟨hx, hb, hml, hown, hts⟩ (met_X8_mix l D cI cJ cS r_2 f3 _) ⟨va_cnB 2 hts gX1_mixTimesInto_X8_mix_n48 rfl rfl rfl (hG.1.1 (RX1, 48, yX8_mix, "HallCommutator") (by decide +kernel)) (hts (.initialized RX8) (by decide +kernel)) (by decide +kernel) ⟨Nat.le_of_ble_eq_true rfl, Nat.le_of_ble_eq_true rfl⟩, hts (.static yX8_mix) (by decide +kernel), trivial⟩ hK hP hD hS hA hG [] [0] rfl rfl rfl rfl (by decide) rfl hl.1 (Nat.le_of_ble_eq_true rfl) rfl dX1_mixTimesInto_23 ⟨Nat.le_of_ble_eq_true rfl, Nat.le_of_ble_eq_true rfl⟩ (fun r_3 _ H locs hw_3 hP hD hS => ?_)
  have hP : va_P D vwCl [(h0, .inr (1, [.int f0, .int f1, .int f2, .int f3, .int f4, .int f5, .int f6, .int f7]))] H := hP
  have hD : va_D A [(h0, .inr (1, [.int f0, .int f1, .int f2, .int f3, .int f4, .int f5, .int f6, .int f7]))] := hD
  exact my_lret hx hb hr hlocks hK hP hD hS () (by show r_3 = F_X1_mixTimesInto x f0 f1 f2 f3 f4 f5 f6 f7; simp only [F_X1_mixTimesInto, ← hw_1, ← hw_2, ← hw_3]) [0] rfl rfl dX1_mixTimesInto_26
def F_X1_mixFaultInto (x : Int64) (f0 : Int32) (f1 : Int32) (f2 : Int32) (f3 : Int32) (f4 : Int32) (f5 : Int32) (f6 : Int32) (f7 : Int32) : Int64 :=
  let q1 := F_X8_mix x f5
  let q2 := F_X8_mix q1 f6
  let q3 := F_X8_mix q2 f7
  q3
set_option maxHeartbeats 4000000 in
set_option maxRecDepth 100000 in
theorem met_X1_mixFaultInto (l : Launch) (D : va_G) (cI cJ cS : ClassId) (h0 : Nat) (x : Int64) (f0 : Int32) (f1 : Int32) (f2 : Int32) (f3 : Int32) (f4 : Int32) (f5 : Int32) (f6 : Int32) (f7 : Int32)  : ∀ sz : Nat, Met l yX1_mixFaultInto wsX1_mixFaultInto ({ frames := 1, cells := 0, slots := 0, locals := 22 } : Room) (va_Pc [.ref h0, .long x] (cPre D (tyz cI cJ cS) ([(h0, .inr (1, [.int f0, .int f1, .int f2, .int f3, .int f4, .int f5, .int f6, .int f7]))]) sz)) (va_Ql (fun (r : Int64) (_ : Unit) => r = F_X1_mixFaultInto x f0 f1 f2 f3 f4 f5 f6 f7) (fun u => cPost D (tyz cI cJ cS) (va_A ([(h0, .inr (1, [.int f0, .int f1, .int f2, .int f3, .int f4, .int f5, .int f6, .int f7]))]) sz) ([(h0, .inr (1, [.int f0, .int f1, .int f2, .int f3, .int f4, .int f5, .int f6, .int f7]))])) (va_A ([(h0, .inr (1, [.int f0, .int f1, .int f2, .int f3, .int f4, .int f5, .int f6, .int f7]))]) sz)) 0 0 (va_A ([(h0, .inr (1, [.int f0, .int f1, .int f2, .int f3, .int f4, .int f5, .int f6, .int f7]))]) sz) := by
  refine my_met (QC := fun A => (va_Ql (fun (r : Int64) (_ : Unit) => r = F_X1_mixFaultInto x f0 f1 f2 f3 f4 f5 f6 f7) (fun u => cPost D (tyz cI cJ cS) A ([(h0, .inr (1, [.int f0, .int f1, .int f2, .int f3, .int f4, .int f5, .int f6, .int f7]))])) A)) (cc := cX1_mixFaultInto) (maxL := 5) (ret := (some .long)) (by decide) rfl (Nat.le_of_ble_eq_true rfl) ?_
  intro p e s m below meth c ls A hx hb hml hr hts hown hlocks hname hK hP hD hS hA hG hl
  have hown : s.vm.findClass RX1 = some m.cls := hown
  have hl : lv_has ls 5 [(0, .ref h0), (1, .long x)] := hl
  have hP : va_P D vwCl [(h0, .inr (1, [.int f0, .int f1, .int f2, .int f3, .int f4, .int f5, .int f6, .int f7]))] s.heap := hP
  have hD : va_D A [(h0, .inr (1, [.int f0, .int f1, .int f2, .int f3, .int f4, .int f5, .int f6, .int f7]))] := hD
  have hiX1 : ∀ w ∈ u_ws RX1 TX1 8, w ∈ wsX1_mixFaultInto := by decide +kernel
  have hk_27 := hts (.fieldLink RX1 27 "HallCommutator$Guard" "faultNumber" "I") (by decide +kernel)
  have hk_30 := hts (.fieldLink RX1 30 "HallCommutator$Guard" "faultTick" "I") (by decide +kernel)
  have hk_33 := hts (.fieldLink RX1 33 "HallCommutator$Guard" "faultDetail" "I") (by decide +kernel)
  refine lv_lload_n hx hb dX1_mixFaultInto_0 rfl (lv_at hl 1 rfl) ?_
  refine lv_aload_n hx hb dX1_mixFaultInto_1 rfl (lv_at hl 0 rfl) ?_
  refine va_get (D := D) (ci := 1) (v := .int f5) (C := RX1) (T := TX1) (N := 8) hx hb hts hiX1 hown hK hP 0 rfl rfl 5 (by decide) hk_27 (fun _ h9 => h9) rfl dX1_mixFaultInto_2 ?_
  refine my_callSN_l (As := [.long x, .int f5]) (rest := []) (wc := []) (wr := [(h0, .inr (1, [.int f0, .int f1, .int f2, .int f3, .int f4, .int f5, .int f6, .int f7]))]) ⟨hx, hb, hml, hown, hts⟩ (met_X8_mix l D cI cJ cS x f5 _) ⟨va_cnB 2 hts gX1_mixFaultInto_X8_mix_n48 rfl rfl rfl (hG.1.1 (RX1, 48, yX8_mix, "HallCommutator") (by decide +kernel)) (hts (.initialized RX8) (by decide +kernel)) (by decide +kernel) ⟨Nat.le_of_ble_eq_true rfl, Nat.le_of_ble_eq_true rfl⟩, hts (.static yX8_mix) (by decide +kernel), trivial⟩ hK hP hD hS hA hG [] [0] rfl rfl rfl rfl (by decide) rfl hl.1 (Nat.le_of_ble_eq_true rfl) rfl dX1_mixFaultInto_5 ⟨Nat.le_of_ble_eq_true rfl, Nat.le_of_ble_eq_true rfl⟩ (fun r_1 _ H locs hw_1 hP hD hS => ?_)
  have hP : va_P D vwCl [(h0, .inr (1, [.int f0, .int f1, .int f2, .int f3, .int f4, .int f5, .int f6, .int f7]))] H := hP
  have hD : va_D A [(h0, .inr (1, [.int f0, .int f1, .int f2, .int f3, .int f4, .int f5, .int f6, .int f7]))] := hD
  refine lv_lstore_n (lv' := [(3, .long r_1), (0, .ref h0), (1, .long x)]) hx hb dX1_mixFaultInto_8 rfl hl (by decide) rfl (fun ls hl => ?_)
  refine lv_lload_n hx hb dX1_mixFaultInto_9 rfl (lv_at hl 0 rfl) ?_
  refine lv_aload_n hx hb dX1_mixFaultInto_10 rfl (lv_at hl 1 rfl) ?_
  refine va_get (D := D) (ci := 1) (v := .int f6) (C := RX1) (T := TX1) (N := 8) hx hb hts hiX1 hown hK hP 0 rfl rfl 6 (by decide) hk_30 (fun _ h9 => h9) rfl dX1_mixFaultInto_11 ?_
  refine my_callSN_l (As := [.long r_1, .int f6]) (rest := []) (wc := []) (wr := [(h0, .inr (1, [.int f0, .int f1, .int f2, .int f3, .int f4, .int f5, .int f6, .int f7]))]) ⟨hx, hb, hml, hown, hts⟩ (met_X8_mix l D cI cJ cS r_1 f6 _) ⟨va_cnB 2 hts gX1_mixFaultInto_X8_mix_n48 rfl rfl rfl (hG.1.1 (RX1, 48, yX8_mix, "HallCommutator") (by decide +kernel)) (hts (.initialized RX8) (by decide +kernel)) (by decide +kernel) ⟨Nat.le_of_ble_eq_true rfl, Nat.le_of_ble_eq_true rfl⟩, hts (.static yX8_mix) (by decide +kernel), trivial⟩ hK hP hD hS hA hG [] [0] rfl rfl rfl rfl (by decide) rfl hl.1 (Nat.le_of_ble_eq_true rfl) rfl dX1_mixFaultInto_14 ⟨Nat.le_of_ble_eq_true rfl, Nat.le_of_ble_eq_true rfl⟩ (fun r_2 _ H locs hw_2 hP hD hS => ?_)
  have hP : va_P D vwCl [(h0, .inr (1, [.int f0, .int f1, .int f2, .int f3, .int f4, .int f5, .int f6, .int f7]))] H := hP
  have hD : va_D A [(h0, .inr (1, [.int f0, .int f1, .int f2, .int f3, .int f4, .int f5, .int f6, .int f7]))] := hD
  refine lv_lstore_n (lv' := [(3, .long r_2), (0, .ref h0), (1, .long x)]) hx hb dX1_mixFaultInto_17 rfl hl (by decide) rfl (fun ls hl => ?_)
  refine lv_lload_n hx hb dX1_mixFaultInto_18 rfl (lv_at hl 0 rfl) ?_
  refine lv_aload_n hx hb dX1_mixFaultInto_19 rfl (lv_at hl 1 rfl) ?_
  refine va_get (D := D) (ci := 1) (v := .int f7) (C := RX1) (T := TX1) (N := 8) hx hb hts hiX1 hown hK hP 0 rfl rfl 7 (by decide) hk_33 (fun _ h9 => h9) rfl dX1_mixFaultInto_20 ?_
  refine my_callSN_l (As := [.long r_2, .int f7]) (rest := []) (wc := []) (wr := [(h0, .inr (1, [.int f0, .int f1, .int f2, .int f3, .int f4, .int f5, .int f6, .int f7]))]) ⟨hx, hb, hml, hown, hts⟩ (met_X8_mix l D cI cJ cS r_2 f7 _) ⟨va_cnB 2 hts gX1_mixFaultInto_X8_mix_n48 rfl rfl rfl (hG.1.1 (RX1, 48, yX8_mix, "HallCommutator") (by decide +kernel)) (hts (.initialized RX8) (by decide +kernel)) (by decide +kernel) ⟨Nat.le_of_ble_eq_true rfl, Nat.le_of_ble_eq_true rfl⟩, hts (.static yX8_mix) (by decide +kernel), trivial⟩ hK hP hD hS hA hG [] [0] rfl rfl rfl rfl (by decide) rfl hl.1 (Nat.le_of_ble_eq_true rfl) rfl dX1_mixFaultInto_23 ⟨Nat.le_of_ble_eq_true rfl, Nat.le_of_ble_eq_true rfl⟩ (fun r_3 _ H locs hw_3 hP hD hS => ?_)
  have hP : va_P D vwCl [(h0, .inr (1, [.int f0, .int f1, .int f2, .int f3, .int f4, .int f5, .int f6, .int f7]))] H := hP
  have hD : va_D A [(h0, .inr (1, [.int f0, .int f1, .int f2, .int f3, .int f4, .int f5, .int f6, .int f7]))] := hD
  exact my_lret hx hb hr hlocks hK hP hD hS () (by show r_3 = F_X1_mixFaultInto x f0 f1 f2 f3 f4 f5 f6 f7; simp only [F_X1_mixFaultInto, ← hw_1, ← hw_2, ← hw_3]) [0] rfl rfl dX1_mixFaultInto_26
