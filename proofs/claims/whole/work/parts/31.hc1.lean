abbrev hcw (h0 hH hs c : Nat) (gs : Nat → Nat → Nat) (vs : Nat → Nat → Int32) (bs : Nat → Nat → Nat → Int32) (g : Nat → Nat) (v : Nat → Int32) (a : Nat → Nat → Int32) (cI cS : ClassId) : va_W := [(h0, .inr (8, [.ref (g 0), .ref hH]))] ++ (stc g v a cI ++ ([(hH, .inr (2, [.ref hs, .int (nI c)])), (hs, .inl (cS, 4, .inr (.inr (.inr (.inr (svf gs))))))] ++ hsts gs vs bs cI))
theorem lk_out01 {x : Int32} {o0 o1 df : Int} (h0 : ¬ x = 0) (h1 : ¬ x = 1) : Op.lookupswitch.offset [(0, o0), (1, o1)] df x.toInt = df := by
  have e0 : ¬ x.toInt = 0 := fun h => h0 (Int32.toInt_inj.mp (by rw [h]; rfl))
  have e1 : ¬ x.toInt = 1 := fun h => h1 (Int32.toInt_inj.mp (by rw [h]; rfl))
  have e2 : ¬ (0 : Int) = x.toInt := fun h => e0 h.symm
  have e3 : ¬ (1 : Int) = x.toInt := fun h => e1 h.symm
  simp [Op.lookupswitch.offset, e0, e1, e2, e3]
theorem leg_vp {t : Int32} (c : ¬ (t < 0 ∨ 3 ≤ t)) : vp_in t 3 := by
  obtain ⟨j, hj, e⟩ := nI_of (fun q => c (Or.inl q))
  subst e
  exact vp_in_nI (Nat.lt_of_not_le (fun q => c (Or.inr (nI_le q hj)))) (by decide)
theorem ivp {t z : Int32} (hz : vp_in z 7) (c1 : ¬ t < 0) (c2 : t < z) : vp_in t 6 := by
  obtain ⟨j, hj, e⟩ := nI_of c1
  subst e
  have h1 := tn_lt hz
  rw [tn_eq hz] at c2
  have := (nI_ltI hj (by omega)).mp c2
  exact vp_in_nI (by omega) (by decide)
set_option maxHeartbeats 4000000 in
set_option maxRecDepth 100000 in
theorem met_X8_requireRange_ok (l : Launch) (D : va_G) (cI cJ cS : ClassId) (t : Int32) (b : Int32) (d : Int32) (hc : ¬ (t < b ∨ d < t)) : ∀ sz : Nat, Met l yX8_requireRange wsX8_requireRange ({ frames := 0, cells := 0, slots := 0, locals := 0 } : Room) (va_Pc [.int t, .int b, .int d] (cPre D (tyz cI cJ cS) ([]) sz)) (va_Qv (fun _ : Unit => True) (fun u => cPost D (tyz cI cJ cS) (va_A ([]) sz) ([])) (va_A ([]) sz)) 0 0 (va_A ([]) sz) := by
  refine my_met (QC := fun A => (va_Qv (fun _ : Unit => True) (fun u => cPost D (tyz cI cJ cS) A ([])) A)) (cc := cX8_requireRange) (maxL := 3) (ret := none) (by decide) rfl (Nat.le_of_ble_eq_true rfl) ?_
  intro p e s m below meth c ls A hx hb hml hr hts hown hlocks hname hK hP hD hS hA hG hl
  have hown : s.vm.findClass RX8 = some m.cls := hown
  have hl : lv_has ls 3 [(0, .int t), (1, .int b), (2, .int d)] := hl
  have hP : va_P D vwCl [] s.heap := hP
  have hD : va_D A [] := hD
  refine lv_iload_n hx hb dX8_requireRange_0 rfl (lv_at hl 0 rfl) ?_
  refine lv_iload_n hx hb dX8_requireRange_1 rfl (lv_at hl 1 rfl) ?_
  refine lv_icmp_lt (tgt := 10) hx hb dX8_requireRange_2 (by decide) (fun c9 => absurd c9 (fun q => hc (Or.inl q))) (fun _ => ?_)
  refine lv_iload_n hx hb dX8_requireRange_5 rfl (lv_at hl 0 rfl) ?_
  refine lv_iload_n hx hb dX8_requireRange_6 rfl (lv_at hl 2 rfl) ?_
  refine lv_icmp_le (tgt := 20) hx hb dX8_requireRange_7 (by decide) (fun _ => ?_) (fun c9 => absurd (Int32.not_lt.mp (fun q => hc (Or.inr q))) c9)
  exact my_vret hx hb hr hlocks hK hP hD hS () (trivial) [] rfl rfl dX8_requireRange_20
set_option maxHeartbeats 4000000 in
set_option maxRecDepth 100000 in
theorem met_X8_requireRange_bad (l : Launch) (hlt : l.stackTraces = false) (D : va_G) (cI cJ cS : ClassId) (t : Int32) (b : Int32) (d : Int32) (hc : t < b ∨ d < t) : ∀ sz : Nat, vx_Met l yX8_requireRange wsX8_requireRange ({ frames := 6, cells := 1, slots := 6, locals := 100 } : Room) (va_Pc [.int t, .int b, .int d] (cPre D (tyz cI cJ cS) ([]) sz)) (va_Qv (fun _ : Unit => False) (fun u => cPost D (tyz cI cJ cS) (va_A ([]) sz) ([])) (va_A ([]) sz)) (vx_X (fun _ : Unit => True) (fun E _ t9 => (fun E : String => E = "java/lang/IllegalArgumentException") E ∧ cPost D (tyz cI cJ cS) (va_A ([]) sz) ([]) t9) (va_A ([]) sz)) 1 6 (va_A ([]) sz) := by
  refine my_metX (QC := fun A => (va_Qv (fun _ : Unit => False) (fun u => cPost D (tyz cI cJ cS) A ([])) A)) (XC := fun A => (vx_X (fun _ : Unit => True) (fun E _ t9 => (fun E : String => E = "java/lang/IllegalArgumentException") E ∧ cPost D (tyz cI cJ cS) A ([]) t9) A)) (cc := cX8_requireRange) (maxL := 3) (ret := none) (by decide) rfl (Nat.le_of_ble_eq_true rfl) ?_
  intro p e s m below meth c ls A hx hb hml hr hts hown hlocks hte hK hP hD hS hA hG hl
  have hown : s.vm.findClass RX8 = some m.cls := hown
  have hl : lv_has ls 3 [(0, .int t), (1, .int b), (2, .int d)] := hl
  have hP : va_P D vwCl [] s.heap := hP
  have hD : va_D A [] := hD
  refine lv_iload_n hx hb dX8_requireRange_0 rfl (lv_at hl 0 rfl) ?_
  refine lv_iload_n hx hb dX8_requireRange_1 rfl (lv_at hl 1 rfl) ?_
  refine lv_icmp_lt (tgt := 10) hx hb dX8_requireRange_2 (by decide) (fun c_1 => ?_) (fun c_1 => ?_)
  · skip
    exact my_throw (cls := "java/lang/IllegalArgumentException") (text := "an argument is out of range") (is_ := 238) (ik := 101) (ic := 105) hx hb hlt hown (by decide +kernel) (by decide +kernel) (hts (.classLink RX8 101 "java/lang/IllegalArgumentException") (by decide +kernel)) (hts (.initialized "java/lang/IllegalArgumentException") (by decide +kernel)) (by decide +kernel) (by decide +kernel) (fun w h => hts w ((show ∀ w ∈ (vx_atS RX8 105 "java/lang/IllegalArgumentException" exNames).filter goodWord, w ∈ wsX8_requireRange from by decide +kernel) w h)) atS_IAE (by decide +kernel) hG hS (by rw [hml]; exact hl.1) dX8_requireRange_10 dX8_requireRange_13 dX8_requireRange_14 dX8_requireRange_16 dX8_requireRange_19 hte (Nat.le_of_ble_eq_true rfl) (Nat.le_of_ble_eq_true rfl) (Nat.le_of_ble_eq_true rfl) (Nat.le_of_ble_eq_true rfl) hlocks hK hP hD [] rfl rfl (rfl) (Nat.le_of_ble_eq_true rfl) (Nat.le_of_ble_eq_true rfl)
  · skip
    refine lv_iload_n hx hb dX8_requireRange_5 rfl (lv_at hl 0 rfl) ?_
    refine lv_iload_n hx hb dX8_requireRange_6 rfl (lv_at hl 2 rfl) ?_
    refine lv_icmp_le (tgt := 20) hx hb dX8_requireRange_7 (by decide) (fun c_2 => ?_) (fun c_2 => ?_)
    · skip
      exact (hc.elim c_1 (fun q => Int32.not_le.mpr q c_2)).elim
    · skip
      exact my_throw (cls := "java/lang/IllegalArgumentException") (text := "an argument is out of range") (is_ := 238) (ik := 101) (ic := 105) hx hb hlt hown (by decide +kernel) (by decide +kernel) (hts (.classLink RX8 101 "java/lang/IllegalArgumentException") (by decide +kernel)) (hts (.initialized "java/lang/IllegalArgumentException") (by decide +kernel)) (by decide +kernel) (by decide +kernel) (fun w h => hts w ((show ∀ w ∈ (vx_atS RX8 105 "java/lang/IllegalArgumentException" exNames).filter goodWord, w ∈ wsX8_requireRange from by decide +kernel) w h)) atS_IAE (by decide +kernel) hG hS (by rw [hml]; exact hl.1) dX8_requireRange_10 dX8_requireRange_13 dX8_requireRange_14 dX8_requireRange_16 dX8_requireRange_19 hte (Nat.le_of_ble_eq_true rfl) (Nat.le_of_ble_eq_true rfl) (Nat.le_of_ble_eq_true rfl) (Nat.le_of_ble_eq_true rfl) hlocks hK hP hD [] rfl rfl (rfl) (Nat.le_of_ble_eq_true rfl) (Nat.le_of_ble_eq_true rfl)
set_option maxHeartbeats 4000000 in
set_option maxRecDepth 100000 in
theorem met_X8_requireLeg_ok (l : Launch) (D : va_G) (cI cJ cS : ClassId) (t : Int32) (hc : ¬ (t < (0 : Int32) ∨ (3 : Int32) ≤ t)) : ∀ sz : Nat, Met l yX8_requireLeg wsX8_requireLeg ({ frames := 0, cells := 0, slots := 0, locals := 0 } : Room) (va_Pc [.int t] (cPre D (tyz cI cJ cS) ([]) sz)) (va_Qv (fun _ : Unit => True) (fun u => cPost D (tyz cI cJ cS) (va_A ([]) sz) ([])) (va_A ([]) sz)) 0 0 (va_A ([]) sz) := by
  refine my_met (QC := fun A => (va_Qv (fun _ : Unit => True) (fun u => cPost D (tyz cI cJ cS) A ([])) A)) (cc := cX8_requireLeg) (maxL := 1) (ret := none) (by decide) rfl (Nat.le_of_ble_eq_true rfl) ?_
  intro p e s m below meth c ls A hx hb hml hr hts hown hlocks hname hK hP hD hS hA hG hl
  have hown : s.vm.findClass RX8 = some m.cls := hown
  have hl : lv_has ls 1 [(0, .int t)] := hl
  have hP : va_P D vwCl [] s.heap := hP
  have hD : va_D A [] := hD
  refine lv_iload_n hx hb dX8_requireLeg_0 rfl (lv_at hl 0 rfl) ?_
  refine lv_if_lt (tgt := 9) hx hb dX8_requireLeg_1 (by decide) (fun c9 => absurd c9 (fun q => hc (Or.inl q))) (fun _ => ?_)
  refine lv_iload_n hx hb dX8_requireLeg_4 rfl (lv_at hl 0 rfl) ?_
  refine lv_iconst (v := 3) hx hb dX8_requireLeg_5 (by decide) ?_
  refine lv_icmp_lt (tgt := 19) hx hb dX8_requireLeg_6 (by decide) (fun _ => ?_) (fun c9 => absurd (Int32.not_le.mp (fun q => hc (Or.inr q))) c9)
  exact my_vret hx hb hr hlocks hK hP hD hS () (trivial) [] rfl rfl dX8_requireLeg_19
set_option maxHeartbeats 4000000 in
set_option maxRecDepth 100000 in
theorem met_X8_requireLeg_bad (l : Launch) (hlt : l.stackTraces = false) (D : va_G) (cI cJ cS : ClassId) (t : Int32) (hc : t < (0 : Int32) ∨ (3 : Int32) ≤ t) : ∀ sz : Nat, vx_Met l yX8_requireLeg wsX8_requireLeg ({ frames := 6, cells := 1, slots := 6, locals := 100 } : Room) (va_Pc [.int t] (cPre D (tyz cI cJ cS) ([]) sz)) (va_Qv (fun _ : Unit => False) (fun u => cPost D (tyz cI cJ cS) (va_A ([]) sz) ([])) (va_A ([]) sz)) (vx_X (fun _ : Unit => True) (fun E _ t9 => (fun E : String => E = "java/lang/IndexOutOfBoundsException") E ∧ cPost D (tyz cI cJ cS) (va_A ([]) sz) ([]) t9) (va_A ([]) sz)) 1 6 (va_A ([]) sz) := by
  refine my_metX (QC := fun A => (va_Qv (fun _ : Unit => False) (fun u => cPost D (tyz cI cJ cS) A ([])) A)) (XC := fun A => (vx_X (fun _ : Unit => True) (fun E _ t9 => (fun E : String => E = "java/lang/IndexOutOfBoundsException") E ∧ cPost D (tyz cI cJ cS) A ([]) t9) A)) (cc := cX8_requireLeg) (maxL := 1) (ret := none) (by decide) rfl (Nat.le_of_ble_eq_true rfl) ?_
  intro p e s m below meth c ls A hx hb hml hr hts hown hlocks hte hK hP hD hS hA hG hl
  have hown : s.vm.findClass RX8 = some m.cls := hown
  have hl : lv_has ls 1 [(0, .int t)] := hl
  have hP : va_P D vwCl [] s.heap := hP
  have hD : va_D A [] := hD
  refine lv_iload_n hx hb dX8_requireLeg_0 rfl (lv_at hl 0 rfl) ?_
  refine lv_if_lt (tgt := 9) hx hb dX8_requireLeg_1 (by decide) (fun c_1 => ?_) (fun c_1 => ?_)
  · skip
    exact my_throw (cls := "java/lang/IndexOutOfBoundsException") (text := "there is no such leg") (is_ := 240) (ik := 185) (ic := 189) hx hb hlt hown (by decide +kernel) (by decide +kernel) (hts (.classLink RX8 185 "java/lang/IndexOutOfBoundsException") (by decide +kernel)) (hts (.initialized "java/lang/IndexOutOfBoundsException") (by decide +kernel)) (by decide +kernel) (by decide +kernel) (fun w h => hts w ((show ∀ w ∈ (vx_atS RX8 189 "java/lang/IndexOutOfBoundsException" exNames).filter goodWord, w ∈ wsX8_requireLeg from by decide +kernel) w h)) atS_IOE (by decide +kernel) hG hS (by rw [hml]; exact hl.1) dX8_requireLeg_9 dX8_requireLeg_12 dX8_requireLeg_13 dX8_requireLeg_15 dX8_requireLeg_18 hte (Nat.le_of_ble_eq_true rfl) (Nat.le_of_ble_eq_true rfl) (Nat.le_of_ble_eq_true rfl) (Nat.le_of_ble_eq_true rfl) hlocks hK hP hD [] rfl rfl (rfl) (Nat.le_of_ble_eq_true rfl) (Nat.le_of_ble_eq_true rfl)
  · skip
    refine lv_iload_n hx hb dX8_requireLeg_4 rfl (lv_at hl 0 rfl) ?_
    refine lv_iconst (v := 3) hx hb dX8_requireLeg_5 (by decide) ?_
    refine lv_icmp_lt (tgt := 19) hx hb dX8_requireLeg_6 (by decide) (fun c_2 => ?_) (fun c_2 => ?_)
    · skip
      exact (hc.elim c_1 (fun q => Int32.not_lt.mpr q c_2)).elim
    · skip
      exact my_throw (cls := "java/lang/IndexOutOfBoundsException") (text := "there is no such leg") (is_ := 240) (ik := 185) (ic := 189) hx hb hlt hown (by decide +kernel) (by decide +kernel) (hts (.classLink RX8 185 "java/lang/IndexOutOfBoundsException") (by decide +kernel)) (hts (.initialized "java/lang/IndexOutOfBoundsException") (by decide +kernel)) (by decide +kernel) (by decide +kernel) (fun w h => hts w ((show ∀ w ∈ (vx_atS RX8 189 "java/lang/IndexOutOfBoundsException" exNames).filter goodWord, w ∈ wsX8_requireLeg from by decide +kernel) w h)) atS_IOE (by decide +kernel) hG hS (by rw [hml]; exact hl.1) dX8_requireLeg_9 dX8_requireLeg_12 dX8_requireLeg_13 dX8_requireLeg_15 dX8_requireLeg_18 hte (Nat.le_of_ble_eq_true rfl) (Nat.le_of_ble_eq_true rfl) (Nat.le_of_ble_eq_true rfl) (Nat.le_of_ble_eq_true rfl) hlocks hK hP hD [] rfl rfl (rfl) (Nat.le_of_ble_eq_true rfl) (Nat.le_of_ble_eq_true rfl)
set_option maxHeartbeats 4000000 in
set_option maxRecDepth 100000 in
theorem met_X8_requireRoom_ok (l : Launch) (D : va_G) (cI cJ cS : ClassId) (h0 : Nat) (n0 : Nat) (n1 : Nat) (m1 : Nat) (m2 : Nat) (m3 : Nat) (m4 : Nat) (m5 : Nat) (m6 : Nat) (p0 : Nat) (p1 : Nat) (k0 : Int32) (z : Int32) (t : Int32) (hc : ¬ ((40 : Int32) - z < t)) : ∀ sz : Nat, Met l yX8_requireRoom wsX8_requireRoom ({ frames := 0, cells := 0, slots := 0, locals := 0 } : Room) (va_Pc [.ref h0, .int t] (cPre D (tyz cI cJ cS) ([(h0, .inr (8, [.ref n0, .ref n1])), (n0, .inr (7, [.int k0, .ref m1, .ref m2, .ref m3, .ref m4, .ref m5, .ref m6])), (m2, .inr (4, [.ref p0, .ref p1, .int z]))]) sz)) (va_Qv (fun _ : Unit => True) (fun u => cPost D (tyz cI cJ cS) (va_A ([(h0, .inr (8, [.ref n0, .ref n1])), (n0, .inr (7, [.int k0, .ref m1, .ref m2, .ref m3, .ref m4, .ref m5, .ref m6])), (m2, .inr (4, [.ref p0, .ref p1, .int z]))]) sz) ([(h0, .inr (8, [.ref n0, .ref n1])), (n0, .inr (7, [.int k0, .ref m1, .ref m2, .ref m3, .ref m4, .ref m5, .ref m6])), (m2, .inr (4, [.ref p0, .ref p1, .int z]))])) (va_A ([(h0, .inr (8, [.ref n0, .ref n1])), (n0, .inr (7, [.int k0, .ref m1, .ref m2, .ref m3, .ref m4, .ref m5, .ref m6])), (m2, .inr (4, [.ref p0, .ref p1, .int z]))]) sz)) 0 0 (va_A ([(h0, .inr (8, [.ref n0, .ref n1])), (n0, .inr (7, [.int k0, .ref m1, .ref m2, .ref m3, .ref m4, .ref m5, .ref m6])), (m2, .inr (4, [.ref p0, .ref p1, .int z]))]) sz) := by
  refine my_met (QC := fun A => (va_Qv (fun _ : Unit => True) (fun u => cPost D (tyz cI cJ cS) A ([(h0, .inr (8, [.ref n0, .ref n1])), (n0, .inr (7, [.int k0, .ref m1, .ref m2, .ref m3, .ref m4, .ref m5, .ref m6])), (m2, .inr (4, [.ref p0, .ref p1, .int z]))])) A)) (cc := cX8_requireRoom) (maxL := 2) (ret := none) (by decide) rfl (Nat.le_of_ble_eq_true rfl) ?_
  intro p e s m below meth c ls A hx hb hml hr hts hown hlocks hname hK hP hD hS hA hG hl
  have hown : s.vm.findClass RX8 = some m.cls := hown
  have hl : lv_has ls 2 [(0, .ref h0), (1, .int t)] := hl
  have hP : va_P D vwCl [(h0, .inr (8, [.ref n0, .ref n1])), (n0, .inr (7, [.int k0, .ref m1, .ref m2, .ref m3, .ref m4, .ref m5, .ref m6])), (m2, .inr (4, [.ref p0, .ref p1, .int z]))] s.heap := hP
  have hD : va_D A [(h0, .inr (8, [.ref n0, .ref n1])), (n0, .inr (7, [.int k0, .ref m1, .ref m2, .ref m3, .ref m4, .ref m5, .ref m6])), (m2, .inr (4, [.ref p0, .ref p1, .int z]))] := hD
  have hiX4 : ∀ w ∈ u_ws RX4 TX4 3, w ∈ wsX8_requireRoom := by decide +kernel
  have hiX7 : ∀ w ∈ u_ws RX7 TX7 7, w ∈ wsX8_requireRoom := by decide +kernel
  have hiX8 : ∀ w ∈ u_ws RX8 TX8 2, w ∈ wsX8_requireRoom := by decide +kernel
  have hk_10 := hts (.fieldLink RX8 10 "HallCommutator" "now" "LHallCommutator$State;") (by decide +kernel)
  have hk_85 := hts (.fieldLink RX8 85 "HallCommutator$State" "queue" "LHallCommutator$Queue;") (by decide +kernel)
  have hk_98 := hts (.fieldLink RX8 98 "HallCommutator$Queue" "size" "I") (by decide +kernel)
  refine lv_iload_n hx hb dX8_requireRoom_0 rfl (lv_at hl 1 rfl) ?_
  refine lv_bipush (v := 40) hx hb dX8_requireRoom_1 (by decide) ?_
  refine lv_aload_n hx hb dX8_requireRoom_3 rfl (lv_at hl 0 rfl) ?_
  refine va_get (D := D) (ci := 8) (v := .ref n0) (C := RX8) (T := TX8) (N := 2) hx hb hts hiX8 hown hK hP 0 rfl rfl 0 (by decide) hk_10 (fun _ h9 => h9) rfl dX8_requireRoom_4 ?_
  refine va_get (D := D) (ci := 7) (v := .ref m2) (C := RX7) (T := TX7) (N := 7) hx hb hts hiX7 hown hK hP 1 rfl rfl 2 (by decide) hk_85 (fun _ h9 => h9) rfl dX8_requireRoom_7 ?_
  refine va_get (D := D) (ci := 4) (v := .int z) (C := RX4) (T := TX4) (N := 3) hx hb hts hiX4 hown hK hP 2 rfl rfl 2 (by decide) hk_98 (fun _ h9 => h9) rfl dX8_requireRoom_10 ?_
  refine lv_isub hx hb dX8_requireRoom_13 ?_
  refine lv_icmp_le (tgt := 27) hx hb dX8_requireRoom_14 (by decide) (fun _ => ?_) (fun c9 => absurd (Int32.not_lt.mp hc) c9)
  exact my_vret hx hb hr hlocks hK hP hD hS () (trivial) [0, 1, 2] rfl rfl dX8_requireRoom_27
set_option maxHeartbeats 4000000 in
set_option maxRecDepth 100000 in
theorem met_X8_requireRoom_bad (l : Launch) (hlt : l.stackTraces = false) (D : va_G) (cI cJ cS : ClassId) (h0 : Nat) (n0 : Nat) (n1 : Nat) (m1 : Nat) (m2 : Nat) (m3 : Nat) (m4 : Nat) (m5 : Nat) (m6 : Nat) (p0 : Nat) (p1 : Nat) (k0 : Int32) (z : Int32) (t : Int32) (hc : (40 : Int32) - z < t) : ∀ sz : Nat, vx_Met l yX8_requireRoom wsX8_requireRoom ({ frames := 6, cells := 1, slots := 6, locals := 100 } : Room) (va_Pc [.ref h0, .int t] (cPre D (tyz cI cJ cS) ([(h0, .inr (8, [.ref n0, .ref n1])), (n0, .inr (7, [.int k0, .ref m1, .ref m2, .ref m3, .ref m4, .ref m5, .ref m6])), (m2, .inr (4, [.ref p0, .ref p1, .int z]))]) sz)) (va_Qv (fun _ : Unit => False) (fun u => cPost D (tyz cI cJ cS) (va_A ([(h0, .inr (8, [.ref n0, .ref n1])), (n0, .inr (7, [.int k0, .ref m1, .ref m2, .ref m3, .ref m4, .ref m5, .ref m6])), (m2, .inr (4, [.ref p0, .ref p1, .int z]))]) sz) ([(h0, .inr (8, [.ref n0, .ref n1])), (n0, .inr (7, [.int k0, .ref m1, .ref m2, .ref m3, .ref m4, .ref m5, .ref m6])), (m2, .inr (4, [.ref p0, .ref p1, .int z]))])) (va_A ([(h0, .inr (8, [.ref n0, .ref n1])), (n0, .inr (7, [.int k0, .ref m1, .ref m2, .ref m3, .ref m4, .ref m5, .ref m6])), (m2, .inr (4, [.ref p0, .ref p1, .int z]))]) sz)) (vx_X (fun _ : Unit => True) (fun E _ t9 => (fun E : String => E = "java/lang/IllegalStateException") E ∧ cPost D (tyz cI cJ cS) (va_A ([(h0, .inr (8, [.ref n0, .ref n1])), (n0, .inr (7, [.int k0, .ref m1, .ref m2, .ref m3, .ref m4, .ref m5, .ref m6])), (m2, .inr (4, [.ref p0, .ref p1, .int z]))]) sz) ([(h0, .inr (8, [.ref n0, .ref n1])), (n0, .inr (7, [.int k0, .ref m1, .ref m2, .ref m3, .ref m4, .ref m5, .ref m6])), (m2, .inr (4, [.ref p0, .ref p1, .int z]))]) t9) (va_A ([(h0, .inr (8, [.ref n0, .ref n1])), (n0, .inr (7, [.int k0, .ref m1, .ref m2, .ref m3, .ref m4, .ref m5, .ref m6])), (m2, .inr (4, [.ref p0, .ref p1, .int z]))]) sz)) 1 6 (va_A ([(h0, .inr (8, [.ref n0, .ref n1])), (n0, .inr (7, [.int k0, .ref m1, .ref m2, .ref m3, .ref m4, .ref m5, .ref m6])), (m2, .inr (4, [.ref p0, .ref p1, .int z]))]) sz) := by
  refine my_metX (QC := fun A => (va_Qv (fun _ : Unit => False) (fun u => cPost D (tyz cI cJ cS) A ([(h0, .inr (8, [.ref n0, .ref n1])), (n0, .inr (7, [.int k0, .ref m1, .ref m2, .ref m3, .ref m4, .ref m5, .ref m6])), (m2, .inr (4, [.ref p0, .ref p1, .int z]))])) A)) (XC := fun A => (vx_X (fun _ : Unit => True) (fun E _ t9 => (fun E : String => E = "java/lang/IllegalStateException") E ∧ cPost D (tyz cI cJ cS) A ([(h0, .inr (8, [.ref n0, .ref n1])), (n0, .inr (7, [.int k0, .ref m1, .ref m2, .ref m3, .ref m4, .ref m5, .ref m6])), (m2, .inr (4, [.ref p0, .ref p1, .int z]))]) t9) A)) (cc := cX8_requireRoom) (maxL := 2) (ret := none) (by decide) rfl (Nat.le_of_ble_eq_true rfl) ?_
  intro p e s m below meth c ls A hx hb hml hr hts hown hlocks hte hK hP hD hS hA hG hl
  have hown : s.vm.findClass RX8 = some m.cls := hown
  have hl : lv_has ls 2 [(0, .ref h0), (1, .int t)] := hl
  have hP : va_P D vwCl [(h0, .inr (8, [.ref n0, .ref n1])), (n0, .inr (7, [.int k0, .ref m1, .ref m2, .ref m3, .ref m4, .ref m5, .ref m6])), (m2, .inr (4, [.ref p0, .ref p1, .int z]))] s.heap := hP
  have hD : va_D A [(h0, .inr (8, [.ref n0, .ref n1])), (n0, .inr (7, [.int k0, .ref m1, .ref m2, .ref m3, .ref m4, .ref m5, .ref m6])), (m2, .inr (4, [.ref p0, .ref p1, .int z]))] := hD
  have hiX4 : ∀ w ∈ u_ws RX4 TX4 3, w ∈ wsX8_requireRoom := by decide +kernel
  have hiX7 : ∀ w ∈ u_ws RX7 TX7 7, w ∈ wsX8_requireRoom := by decide +kernel
  have hiX8 : ∀ w ∈ u_ws RX8 TX8 2, w ∈ wsX8_requireRoom := by decide +kernel
  have hk_10 := hts (.fieldLink RX8 10 "HallCommutator" "now" "LHallCommutator$State;") (by decide +kernel)
  have hk_85 := hts (.fieldLink RX8 85 "HallCommutator$State" "queue" "LHallCommutator$Queue;") (by decide +kernel)
  have hk_98 := hts (.fieldLink RX8 98 "HallCommutator$Queue" "size" "I") (by decide +kernel)
  refine lv_iload_n hx hb dX8_requireRoom_0 rfl (lv_at hl 1 rfl) ?_
  refine lv_bipush (v := 40) hx hb dX8_requireRoom_1 (by decide) ?_
  refine lv_aload_n hx hb dX8_requireRoom_3 rfl (lv_at hl 0 rfl) ?_
  refine va_get (D := D) (ci := 8) (v := .ref n0) (C := RX8) (T := TX8) (N := 2) hx hb hts hiX8 hown hK hP 0 rfl rfl 0 (by decide) hk_10 (fun _ h9 => h9) rfl dX8_requireRoom_4 ?_
  refine va_get (D := D) (ci := 7) (v := .ref m2) (C := RX7) (T := TX7) (N := 7) hx hb hts hiX7 hown hK hP 1 rfl rfl 2 (by decide) hk_85 (fun _ h9 => h9) rfl dX8_requireRoom_7 ?_
  refine va_get (D := D) (ci := 4) (v := .int z) (C := RX4) (T := TX4) (N := 3) hx hb hts hiX4 hown hK hP 2 rfl rfl 2 (by decide) hk_98 (fun _ h9 => h9) rfl dX8_requireRoom_10 ?_
  refine lv_isub hx hb dX8_requireRoom_13 ?_
  refine lv_icmp_le (tgt := 27) hx hb dX8_requireRoom_14 (by decide) (fun c_1 => ?_) (fun c_1 => ?_)
  · skip
    exact absurd c_1 (Int32.not_le.mpr hc)
  · skip
    exact my_throw (cls := "java/lang/IllegalStateException") (text := "too many codes would be waiting") (is_ := 236) (ik := 63) (ic := 67) hx hb hlt hown (by decide +kernel) (by decide +kernel) (hts (.classLink RX8 63 "java/lang/IllegalStateException") (by decide +kernel)) (hts (.initialized "java/lang/IllegalStateException") (by decide +kernel)) (by decide +kernel) (by decide +kernel) (fun w h => hts w ((show ∀ w ∈ (vx_atS RX8 67 "java/lang/IllegalStateException" exNames).filter goodWord, w ∈ wsX8_requireRoom from by decide +kernel) w h)) atS_ISE (by decide +kernel) hG hS (by rw [hml]; exact hl.1) dX8_requireRoom_17 dX8_requireRoom_20 dX8_requireRoom_21 dX8_requireRoom_23 dX8_requireRoom_26 hte (Nat.le_of_ble_eq_true rfl) (Nat.le_of_ble_eq_true rfl) (Nat.le_of_ble_eq_true rfl) (Nat.le_of_ble_eq_true rfl) hlocks hK hP hD [0, 1, 2] rfl rfl (rfl) (Nat.le_of_ble_eq_true rfl) (Nat.le_of_ble_eq_true rfl)
