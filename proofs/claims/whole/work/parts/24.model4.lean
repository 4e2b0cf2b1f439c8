def F_X9_tick (np : Int32) (th : Int32) (ed : Int32) (hh : Int64) (w : Nat → Int32) (pf : Nat → Int32) : Int32 × (Nat → Int32) :=
  let q1 := F_X9_due np th (0 : Int32) hh (upd w 0 ((w 0) + (1 : Int32))) pf
  let q2 := F_X9_filters np th (0 : Int32) hh q1 pf
  if q2.1 = (0 : Int32) then
    let q4 := F_X9_watches np th (0 : Int32) hh q2.2 pf
    if (q4 12) + (1 : Int32) < q4 2 then
      let q6 := F_X9_switches np th (0 : Int32) hh (upd q4 12 ((q4 12) + (1 : Int32))) pf
      ((0 : Int32), q6)
    else
      let q7 := F_X9_switches np th (0 : Int32) hh (upd q4 12 (0 : Int32)) pf
      ((0 : Int32), q7)
  else
    let q8 := F_X9_accepts np th (0 : Int32) hh q2.2 pf
    let q9 := F_X9_watches np th q8.1 hh q8.2 pf
    if (q9 12) + (1 : Int32) < q9 2 then
      let q11 := F_X9_switches np th q8.1 hh (upd q9 12 ((q9 12) + (1 : Int32))) pf
      (q8.1, q11)
    else
      let q12 := F_X9_switches np th q8.1 hh (upd q9 12 (0 : Int32)) pf
      (q8.1, q12)
set_option maxHeartbeats 4000000 in
set_option maxRecDepth 100000 in
theorem met_X9_tick (l : Launch) (D : va_G) (cI cJ cS : ClassId) (h0 : Nat) (a0 : Nat) (b0 : Nat) (np : Int32) (th : Int32) (ed : Int32) (hh : Int64) (w : Nat → Int32) (pf : Nat → Int32) (hv : vp_in (w 48) 41) (hz : vp_in (w 35) 7) : ∀ sz : Nat, Met l yX9_tick wsX9_tick ({ frames := 3, cells := 0, slots := 0, locals := 68 } : Room) (va_Pc [.ref h0] (cPre D (tyz cI cJ cS) ([(h0, .inr (9, [.ref a0, .ref b0, .int np, .int th, .int ed, .long hh])), (a0, .inl (cI, 129, .inl w)), (b0, .inl (cI, 516, .inl pf))]) sz)) (va_Qv (fun (u : Int32 × (Nat → Int32)) => u = F_X9_tick np th ed hh w pf) (fun u => cPost D (tyz cI cJ cS) (va_A ([(h0, .inr (9, [.ref a0, .ref b0, .int np, .int th, .int ed, .long hh])), (a0, .inl (cI, 129, .inl w)), (b0, .inl (cI, 516, .inl pf))]) sz) ([(h0, .inr (9, [.ref a0, .ref b0, .int np, .int th, .int u.1, .long hh])), (a0, .inl (cI, 129, .inl u.2)), (b0, .inl (cI, 516, .inl pf))])) (va_A ([(h0, .inr (9, [.ref a0, .ref b0, .int np, .int th, .int ed, .long hh])), (a0, .inl (cI, 129, .inl w)), (b0, .inl (cI, 516, .inl pf))]) sz)) 0 0 (va_A ([(h0, .inr (9, [.ref a0, .ref b0, .int np, .int th, .int ed, .long hh])), (a0, .inl (cI, 129, .inl w)), (b0, .inl (cI, 516, .inl pf))]) sz) := by
  refine my_met (QC := fun A => (va_Qv (fun (u : Int32 × (Nat → Int32)) => u = F_X9_tick np th ed hh w pf) (fun u => cPost D (tyz cI cJ cS) A ([(h0, .inr (9, [.ref a0, .ref b0, .int np, .int th, .int u.1, .long hh])), (a0, .inl (cI, 129, .inl u.2)), (b0, .inl (cI, 516, .inl pf))])) A)) (cc := cX9_tick) (maxL := 1) (ret := none) (by decide) rfl (Nat.le_of_ble_eq_true rfl) ?_
  intro p e s m below meth c ls A hx hb hml hr hts hown hlocks hname hK hP hD hS hA hG hl
  have hown : s.vm.findClass RX9 = some m.cls := hown
  have hl : lv_has ls 1 [(0, .ref h0)] := hl
  have hP : va_P D vwCl [(h0, .inr (9, [.ref a0, .ref b0, .int np, .int th, .int ed, .long hh])), (a0, .inl (cI, 129, .inl w)), (b0, .inl (cI, 516, .inl pf))] s.heap := hP
  have hD : va_D A [(h0, .inr (9, [.ref a0, .ref b0, .int np, .int th, .int ed, .long hh])), (a0, .inl (cI, 129, .inl w)), (b0, .inl (cI, 516, .inl pf))] := hD
  have hiX9 : ∀ w ∈ u_ws RX9 TX9 6, w ∈ wsX9_tick := by decide +kernel
  have hk_56 := hts (.fieldLink RX9 56 "HallCommutatorModel" "isEdge" "Z") (by decide +kernel)
  have hk_7 := hts (.fieldLink RX9 7 "HallCommutatorModel" "s" "[I") (by decide +kernel)
  refine lv_aload_n hx hb dX9_tick_0 rfl (lv_at hl 0 rfl) ?_
  refine va_get (D := D) (ci := 9) (v := .ref a0) (C := RX9) (T := TX9) (N := 6) hx hb hts hiX9 hown hK hP 0 rfl rfl 0 (by decide) hk_7 (fun _ h9 => h9) rfl dX9_tick_1 ?_
  refine lv_iconst (v := 0) hx hb dX9_tick_4 (by decide) ?_
  refine lv_dup2_11 hx hb dX9_tick_5 rfl rfl ?_
  refine my_iald hx hb hK hP 1 0 rfl rfl 0 (rfl) (by decide) (by decide) dX9_tick_6 ?_
  refine lv_iconst (v := 1) hx hb dX9_tick_7 (by decide) ?_
  refine lv_iadd hx hb dX9_tick_8 ?_
  refine my_iast hx hb hK hP hD hS 1 0 rfl rfl 0 (rfl) (by decide) (by decide) dX9_tick_9 (fun H locs hP hD hS => ?_)
  have hP : va_P D vwCl [(h0, .inr (9, [.ref a0, .ref b0, .int np, .int th, .int ed, .long hh])), (a0, .inl (cI, 129, .inl (upd w 0 ((w 0) + (1 : Int32))))), (b0, .inl (cI, 516, .inl pf))] H := hP
  have hD : va_D A [(h0, .inr (9, [.ref a0, .ref b0, .int np, .int th, .int ed, .long hh])), (a0, .inl (cI, 129, .inl (upd w 0 ((w 0) + (1 : Int32))))), (b0, .inl (cI, 516, .inl pf))] := hD
  refine lv_aload_n hx hb dX9_tick_10 rfl (lv_at hl 0 rfl) ?_
  refine lv_iconst (v := 0) hx hb dX9_tick_11 (by decide) ?_
  refine va_put (D := D) (ci := 9) (v := .int (0 : Int32)) (ty := .boolean) (C := RX9) (T := TX9) (N := 6) hx hb hts hiX9 tyX9 tyX9_ok nmX9 hown hK hP hD hS 0 rfl rfl 4 (by decide) hk_56 (fun _ h9 => h9) rfl (by decide +kernel) rfl rfl (Nat.le_of_ble_eq_true rfl) dX9_tick_12 (fun H locs hP hD hS => ?_)
  have hP : va_P D vwCl [(h0, .inr (9, [.ref a0, .ref b0, .int np, .int th, .int (0 : Int32), .long hh])), (a0, .inl (cI, 129, .inl (upd w 0 ((w 0) + (1 : Int32))))), (b0, .inl (cI, 516, .inl pf))] H := hP
  have hD : va_D A [(h0, .inr (9, [.ref a0, .ref b0, .int np, .int th, .int (0 : Int32), .long hh])), (a0, .inl (cI, 129, .inl (upd w 0 ((w 0) + (1 : Int32))))), (b0, .inl (cI, 516, .inl pf))] := hD
  refine lv_aload_n hx hb dX9_tick_15 rfl (lv_at hl 0 rfl) ?_
  refine my_callV_v (As := []) (rest := []) (wc := [(h0, .inr (9, [.ref a0, .ref b0, .int np, .int th, .int (0 : Int32), .long hh])), (a0, .inl (cI, 129, .inl (upd w 0 ((w 0) + (1 : Int32))))), (b0, .inl (cI, 516, .inl pf))]) (wr := []) ⟨hx, hb, hml, hown, hts⟩ (met_X9_due l D cI cJ cS h0 a0 b0 np th (0 : Int32) hh (upd w 0 ((w 0) + (1 : Int32))) pf (hv) _) (cwV 0 hts gX9_tick_X9_due rfl rfl rfl (by decide +kernel) ⟨Nat.le_of_ble_eq_true rfl, Nat.le_of_ble_eq_true rfl⟩) hK hP hD hS hA hG [0, 1, 2] [] rfl rfl rfl rfl (by decide) 0 rfl rfl rfl hl.1 (Nat.le_of_ble_eq_true rfl) rfl dX9_tick_16 ⟨Nat.le_of_ble_eq_true rfl, Nat.le_of_ble_eq_true rfl⟩ (fun x_1_0 H locs hw_1 hP hD hS => ?_)
  have hP : va_P D vwCl [(h0, .inr (9, [.ref a0, .ref b0, .int np, .int th, .int (0 : Int32), .long hh])), (a0, .inl (cI, 129, .inl x_1_0)), (b0, .inl (cI, 516, .inl pf))] H := hP
  have hD : va_D A [(h0, .inr (9, [.ref a0, .ref b0, .int np, .int th, .int (0 : Int32), .long hh])), (a0, .inl (cI, 129, .inl x_1_0)), (b0, .inl (cI, 516, .inl pf))] := hD
  refine lv_aload_n hx hb dX9_tick_19 rfl (lv_at hl 0 rfl) ?_
  refine my_callV_i (As := []) (rest := []) (wc := [(h0, .inr (9, [.ref a0, .ref b0, .int np, .int th, .int (0 : Int32), .long hh])), (a0, .inl (cI, 129, .inl x_1_0)), (b0, .inl (cI, 516, .inl pf))]) (wr := []) ⟨hx, hb, hml, hown, hts⟩ (met_X9_filters l D cI cJ cS h0 a0 b0 np th (0 : Int32) hh x_1_0 pf _) (cwV 0 hts gX9_tick_X9_filters rfl rfl rfl (by decide +kernel) ⟨Nat.le_of_ble_eq_true rfl, Nat.le_of_ble_eq_true rfl⟩) hK hP hD hS hA hG [0, 1, 2] [] rfl rfl rfl rfl (by decide) 0 rfl rfl rfl hl.1 (Nat.le_of_ble_eq_true rfl) rfl dX9_tick_20 ⟨Nat.le_of_ble_eq_true rfl, Nat.le_of_ble_eq_true rfl⟩ (fun r_2 x_2_0 H locs hw_2 hP hD hS => ?_)
  have hP : va_P D vwCl [(h0, .inr (9, [.ref a0, .ref b0, .int np, .int th, .int (0 : Int32), .long hh])), (a0, .inl (cI, 129, .inl x_2_0)), (b0, .inl (cI, 516, .inl pf))] H := hP
  have hD : va_D A [(h0, .inr (9, [.ref a0, .ref b0, .int np, .int th, .int (0 : Int32), .long hh])), (a0, .inl (cI, 129, .inl x_2_0)), (b0, .inl (cI, 516, .inl pf))] := hD
  refine lv_if_eq (tgt := 30) hx hb dX9_tick_23 (by decide) (fun c_3 => ?_) (fun c_3 => ?_)
  · skip
    refine lv_aload_n hx hb dX9_tick_30 rfl (lv_at hl 0 rfl) ?_
    refine my_callV_v (As := []) (rest := []) (wc := [(h0, .inr (9, [.ref a0, .ref b0, .int np, .int th, .int (0 : Int32), .long hh])), (a0, .inl (cI, 129, .inl x_2_0)), (b0, .inl (cI, 516, .inl pf))]) (wr := []) ⟨hx, hb, hml, hown, hts⟩ (met_X9_watches l D cI cJ cS h0 a0 b0 np th (0 : Int32) hh x_2_0 pf _) (cwV 0 hts gX9_tick_X9_watches rfl rfl rfl (by decide +kernel) ⟨Nat.le_of_ble_eq_true rfl, Nat.le_of_ble_eq_true rfl⟩) hK hP hD hS hA hG [0, 1, 2] [] rfl rfl rfl rfl (by decide) 0 rfl rfl rfl hl.1 (Nat.le_of_ble_eq_true rfl) rfl dX9_tick_31 ⟨Nat.le_of_ble_eq_true rfl, Nat.le_of_ble_eq_true rfl⟩ (fun x_4_0 H locs hw_4 hP hD hS => ?_)
    have hP : va_P D vwCl [(h0, .inr (9, [.ref a0, .ref b0, .int np, .int th, .int (0 : Int32), .long hh])), (a0, .inl (cI, 129, .inl x_4_0)), (b0, .inl (cI, 516, .inl pf))] H := hP
    have hD : va_D A [(h0, .inr (9, [.ref a0, .ref b0, .int np, .int th, .int (0 : Int32), .long hh])), (a0, .inl (cI, 129, .inl x_4_0)), (b0, .inl (cI, 516, .inl pf))] := hD
    refine lv_aload_n hx hb dX9_tick_34 rfl (lv_at hl 0 rfl) ?_
    refine va_get (D := D) (ci := 9) (v := .ref a0) (C := RX9) (T := TX9) (N := 6) hx hb hts hiX9 hown hK hP 0 rfl rfl 0 (by decide) hk_7 (fun _ h9 => h9) rfl dX9_tick_35 ?_
    refine lv_bipush (v := 12) hx hb dX9_tick_38 (by decide) ?_
    refine lv_aload_n hx hb dX9_tick_40 rfl (lv_at hl 0 rfl) ?_
    refine va_get (D := D) (ci := 9) (v := .ref a0) (C := RX9) (T := TX9) (N := 6) hx hb hts hiX9 hown hK hP 0 rfl rfl 0 (by decide) hk_7 (fun _ h9 => h9) rfl dX9_tick_41 ?_
    refine lv_bipush (v := 12) hx hb dX9_tick_44 (by decide) ?_
    refine my_iald hx hb hK hP 1 0 rfl rfl 12 (rfl) (by decide) (by decide) dX9_tick_46 ?_
    refine lv_iconst (v := 1) hx hb dX9_tick_47 (by decide) ?_
    refine lv_iadd hx hb dX9_tick_48 ?_
    refine lv_aload_n hx hb dX9_tick_49 rfl (lv_at hl 0 rfl) ?_
    refine va_get (D := D) (ci := 9) (v := .ref a0) (C := RX9) (T := TX9) (N := 6) hx hb hts hiX9 hown hK hP 0 rfl rfl 0 (by decide) hk_7 (fun _ h9 => h9) rfl dX9_tick_50 ?_
    refine lv_iconst (v := 2) hx hb dX9_tick_53 (by decide) ?_
    refine my_iald hx hb hK hP 1 0 rfl rfl 2 (rfl) (by decide) (by decide) dX9_tick_54 ?_
    refine lv_icmp_lt (tgt := 62) hx hb dX9_tick_55 (by decide) (fun c_5 => ?_) (fun c_5 => ?_)
    · skip
      refine lv_aload_n hx hb dX9_tick_62 rfl (lv_at hl 0 rfl) ?_
      refine va_get (D := D) (ci := 9) (v := .ref a0) (C := RX9) (T := TX9) (N := 6) hx hb hts hiX9 hown hK hP 0 rfl rfl 0 (by decide) hk_7 (fun _ h9 => h9) rfl dX9_tick_63 ?_
      refine lv_bipush (v := 12) hx hb dX9_tick_66 (by decide) ?_
      refine my_iald hx hb hK hP 1 0 rfl rfl 12 (rfl) (by decide) (by decide) dX9_tick_68 ?_
      refine lv_iconst (v := 1) hx hb dX9_tick_69 (by decide) ?_
      refine lv_iadd hx hb dX9_tick_70 ?_
      refine my_iast hx hb hK hP hD hS 1 0 rfl rfl 12 (rfl) (by decide) (by decide) dX9_tick_71 (fun H locs hP hD hS => ?_)
      have hP : va_P D vwCl [(h0, .inr (9, [.ref a0, .ref b0, .int np, .int th, .int (0 : Int32), .long hh])), (a0, .inl (cI, 129, .inl (upd x_4_0 12 ((x_4_0 12) + (1 : Int32))))), (b0, .inl (cI, 516, .inl pf))] H := hP
      have hD : va_D A [(h0, .inr (9, [.ref a0, .ref b0, .int np, .int th, .int (0 : Int32), .long hh])), (a0, .inl (cI, 129, .inl (upd x_4_0 12 ((x_4_0 12) + (1 : Int32))))), (b0, .inl (cI, 516, .inl pf))] := hD
      refine lv_aload_n hx hb dX9_tick_72 rfl (lv_at hl 0 rfl) ?_
      refine my_callV_v (As := []) (rest := []) (wc := [(h0, .inr (9, [.ref a0, .ref b0, .int np, .int th, .int (0 : Int32), .long hh])), (a0, .inl (cI, 129, .inl (upd x_4_0 12 ((x_4_0 12) + (1 : Int32))))), (b0, .inl (cI, 516, .inl pf))]) (wr := []) ⟨hx, hb, hml, hown, hts⟩ (met_X9_switches l D cI cJ cS h0 a0 b0 np th (0 : Int32) hh (upd x_4_0 12 ((x_4_0 12) + (1 : Int32))) pf _) (cwV 0 hts gX9_tick_X9_switches rfl rfl rfl (by decide +kernel) ⟨Nat.le_of_ble_eq_true rfl, Nat.le_of_ble_eq_true rfl⟩) hK hP hD hS hA hG [0, 1, 2] [] rfl rfl rfl rfl (by decide) 0 rfl rfl rfl hl.1 (Nat.le_of_ble_eq_true rfl) rfl dX9_tick_73 ⟨Nat.le_of_ble_eq_true rfl, Nat.le_of_ble_eq_true rfl⟩ (fun x_6_0 H locs hw_6 hP hD hS => ?_)
      have hP : va_P D vwCl [(h0, .inr (9, [.ref a0, .ref b0, .int np, .int th, .int (0 : Int32), .long hh])), (a0, .inl (cI, 129, .inl x_6_0)), (b0, .inl (cI, 516, .inl pf))] H := hP
      have hD : va_D A [(h0, .inr (9, [.ref a0, .ref b0, .int np, .int th, .int (0 : Int32), .long hh])), (a0, .inl (cI, 129, .inl x_6_0)), (b0, .inl (cI, 516, .inl pf))] := hD
      exact my_vret hx hb hr hlocks hK hP hD hS ((0 : Int32), x_6_0) (by show ((0 : Int32), x_6_0) = F_X9_tick np th ed hh w pf; simp only [F_X9_tick, if_pos c_3, if_pos c_5, ← hw_1, ← hw_2, ← hw_4, ← hw_6]) [0, 1, 2] rfl rfl dX9_tick_76
    · skip
      refine lv_iconst (v := 0) hx hb dX9_tick_58 (by decide) ?_
      refine lv_goto (tgt := 71) hx hb dX9_tick_59 (by decide) ?_
      refine my_iast hx hb hK hP hD hS 1 0 rfl rfl 12 (rfl) (by decide) (by decide) dX9_tick_71 (fun H locs hP hD hS => ?_)
      have hP : va_P D vwCl [(h0, .inr (9, [.ref a0, .ref b0, .int np, .int th, .int (0 : Int32), .long hh])), (a0, .inl (cI, 129, .inl (upd x_4_0 12 (0 : Int32)))), (b0, .inl (cI, 516, .inl pf))] H := hP
      have hD : va_D A [(h0, .inr (9, [.ref a0, .ref b0, .int np, .int th, .int (0 : Int32), .long hh])), (a0, .inl (cI, 129, .inl (upd x_4_0 12 (0 : Int32)))), (b0, .inl (cI, 516, .inl pf))] := hD
      refine lv_aload_n hx hb dX9_tick_72 rfl (lv_at hl 0 rfl) ?_
      refine my_callV_v (As := []) (rest := []) (wc := [(h0, .inr (9, [.ref a0, .ref b0, .int np, .int th, .int (0 : Int32), .long hh])), (a0, .inl (cI, 129, .inl (upd x_4_0 12 (0 : Int32)))), (b0, .inl (cI, 516, .inl pf))]) (wr := []) ⟨hx, hb, hml, hown, hts⟩ (met_X9_switches l D cI cJ cS h0 a0 b0 np th (0 : Int32) hh (upd x_4_0 12 (0 : Int32)) pf _) (cwV 0 hts gX9_tick_X9_switches rfl rfl rfl (by decide +kernel) ⟨Nat.le_of_ble_eq_true rfl, Nat.le_of_ble_eq_true rfl⟩) hK hP hD hS hA hG [0, 1, 2] [] rfl rfl rfl rfl (by decide) 0 rfl rfl rfl hl.1 (Nat.le_of_ble_eq_true rfl) rfl dX9_tick_73 ⟨Nat.le_of_ble_eq_true rfl, Nat.le_of_ble_eq_true rfl⟩ (fun x_7_0 H locs hw_7 hP hD hS => ?_)
      have hP : va_P D vwCl [(h0, .inr (9, [.ref a0, .ref b0, .int np, .int th, .int (0 : Int32), .long hh])), (a0, .inl (cI, 129, .inl x_7_0)), (b0, .inl (cI, 516, .inl pf))] H := hP
      have hD : va_D A [(h0, .inr (9, [.ref a0, .ref b0, .int np, .int th, .int (0 : Int32), .long hh])), (a0, .inl (cI, 129, .inl x_7_0)), (b0, .inl (cI, 516, .inl pf))] := hD
      exact my_vret hx hb hr hlocks hK hP hD hS ((0 : Int32), x_7_0) (by show ((0 : Int32), x_7_0) = F_X9_tick np th ed hh w pf; simp only [F_X9_tick, if_pos c_3, if_neg c_5, ← hw_1, ← hw_2, ← hw_4, ← hw_7]) [0, 1, 2] rfl rfl dX9_tick_76
  · skip
    refine lv_aload_n hx hb dX9_tick_26 rfl (lv_at hl 0 rfl) ?_
    refine my_callV_v (As := []) (rest := []) (wc := [(h0, .inr (9, [.ref a0, .ref b0, .int np, .int th, .int (0 : Int32), .long hh])), (a0, .inl (cI, 129, .inl x_2_0)), (b0, .inl (cI, 516, .inl pf))]) (wr := []) ⟨hx, hb, hml, hown, hts⟩ (met_X9_accepts l D cI cJ cS h0 a0 b0 np th (0 : Int32) hh x_2_0 pf (by rw [filt_35 hw_2, due_35 hw_1]; exact hz) _) (cwV 0 hts gX9_tick_X9_accepts rfl rfl rfl (by decide +kernel) ⟨Nat.le_of_ble_eq_true rfl, Nat.le_of_ble_eq_true rfl⟩) hK hP hD hS hA hG [0, 1, 2] [] rfl rfl rfl rfl (by decide) 0 rfl rfl rfl hl.1 (Nat.le_of_ble_eq_true rfl) rfl dX9_tick_27 ⟨Nat.le_of_ble_eq_true rfl, Nat.le_of_ble_eq_true rfl⟩ (fun u_8 H locs hw_8 hP hD hS => ?_)
    obtain ⟨x_8_0, x_8_1⟩ := u_8
    have hP : va_P D vwCl [(h0, .inr (9, [.ref a0, .ref b0, .int np, .int th, .int x_8_0, .long hh])), (a0, .inl (cI, 129, .inl x_8_1)), (b0, .inl (cI, 516, .inl pf))] H := hP
    have hD : va_D A [(h0, .inr (9, [.ref a0, .ref b0, .int np, .int th, .int x_8_0, .long hh])), (a0, .inl (cI, 129, .inl x_8_1)), (b0, .inl (cI, 516, .inl pf))] := hD
    refine lv_aload_n hx hb dX9_tick_30 rfl (lv_at hl 0 rfl) ?_
    refine my_callV_v (As := []) (rest := []) (wc := [(h0, .inr (9, [.ref a0, .ref b0, .int np, .int th, .int x_8_0, .long hh])), (a0, .inl (cI, 129, .inl x_8_1)), (b0, .inl (cI, 516, .inl pf))]) (wr := []) ⟨hx, hb, hml, hown, hts⟩ (met_X9_watches l D cI cJ cS h0 a0 b0 np th x_8_0 hh x_8_1 pf _) (cwV 0 hts gX9_tick_X9_watches rfl rfl rfl (by decide +kernel) ⟨Nat.le_of_ble_eq_true rfl, Nat.le_of_ble_eq_true rfl⟩) hK hP hD hS hA hG [0, 1, 2] [] rfl rfl rfl rfl (by decide) 0 rfl rfl rfl hl.1 (Nat.le_of_ble_eq_true rfl) rfl dX9_tick_31 ⟨Nat.le_of_ble_eq_true rfl, Nat.le_of_ble_eq_true rfl⟩ (fun x_9_0 H locs hw_9 hP hD hS => ?_)
    have hP : va_P D vwCl [(h0, .inr (9, [.ref a0, .ref b0, .int np, .int th, .int x_8_0, .long hh])), (a0, .inl (cI, 129, .inl x_9_0)), (b0, .inl (cI, 516, .inl pf))] H := hP
    have hD : va_D A [(h0, .inr (9, [.ref a0, .ref b0, .int np, .int th, .int x_8_0, .long hh])), (a0, .inl (cI, 129, .inl x_9_0)), (b0, .inl (cI, 516, .inl pf))] := hD
    refine lv_aload_n hx hb dX9_tick_34 rfl (lv_at hl 0 rfl) ?_
    refine va_get (D := D) (ci := 9) (v := .ref a0) (C := RX9) (T := TX9) (N := 6) hx hb hts hiX9 hown hK hP 0 rfl rfl 0 (by decide) hk_7 (fun _ h9 => h9) rfl dX9_tick_35 ?_
    refine lv_bipush (v := 12) hx hb dX9_tick_38 (by decide) ?_
    refine lv_aload_n hx hb dX9_tick_40 rfl (lv_at hl 0 rfl) ?_
    refine va_get (D := D) (ci := 9) (v := .ref a0) (C := RX9) (T := TX9) (N := 6) hx hb hts hiX9 hown hK hP 0 rfl rfl 0 (by decide) hk_7 (fun _ h9 => h9) rfl dX9_tick_41 ?_
    refine lv_bipush (v := 12) hx hb dX9_tick_44 (by decide) ?_
    refine my_iald hx hb hK hP 1 0 rfl rfl 12 (rfl) (by decide) (by decide) dX9_tick_46 ?_
    refine lv_iconst (v := 1) hx hb dX9_tick_47 (by decide) ?_
    refine lv_iadd hx hb dX9_tick_48 ?_
    refine lv_aload_n hx hb dX9_tick_49 rfl (lv_at hl 0 rfl) ?_
    refine va_get (D := D) (ci := 9) (v := .ref a0) (C := RX9) (T := TX9) (N := 6) hx hb hts hiX9 hown hK hP 0 rfl rfl 0 (by decide) hk_7 (fun _ h9 => h9) rfl dX9_tick_50 ?_
    refine lv_iconst (v := 2) hx hb dX9_tick_53 (by decide) ?_
    refine my_iald hx hb hK hP 1 0 rfl rfl 2 (rfl) (by decide) (by decide) dX9_tick_54 ?_
    refine lv_icmp_lt (tgt := 62) hx hb dX9_tick_55 (by decide) (fun c_10 => ?_) (fun c_10 => ?_)
    · skip
      refine lv_aload_n hx hb dX9_tick_62 rfl (lv_at hl 0 rfl) ?_
      refine va_get (D := D) (ci := 9) (v := .ref a0) (C := RX9) (T := TX9) (N := 6) hx hb hts hiX9 hown hK hP 0 rfl rfl 0 (by decide) hk_7 (fun _ h9 => h9) rfl dX9_tick_63 ?_
      refine lv_bipush (v := 12) hx hb dX9_tick_66 (by decide) ?_
      refine my_iald hx hb hK hP 1 0 rfl rfl 12 (rfl) (by decide) (by decide) dX9_tick_68 ?_
      refine lv_iconst (v := 1) hx hb dX9_tick_69 (by decide) ?_
      refine lv_iadd hx hb dX9_tick_70 ?_
      refine my_iast hx hb hK hP hD hS 1 0 rfl rfl 12 (rfl) (by decide) (by decide) dX9_tick_71 (fun H locs hP hD hS => ?_)
      have hP : va_P D vwCl [(h0, .inr (9, [.ref a0, .ref b0, .int np, .int th, .int x_8_0, .long hh])), (a0, .inl (cI, 129, .inl (upd x_9_0 12 ((x_9_0 12) + (1 : Int32))))), (b0, .inl (cI, 516, .inl pf))] H := hP
      have hD : va_D A [(h0, .inr (9, [.ref a0, .ref b0, .int np, .int th, .int x_8_0, .long hh])), (a0, .inl (cI, 129, .inl (upd x_9_0 12 ((x_9_0 12) + (1 : Int32))))), (b0, .inl (cI, 516, .inl pf))] := hD
      refine lv_aload_n hx hb dX9_tick_72 rfl (lv_at hl 0 rfl) ?_
      refine my_callV_v (As := []) (rest := []) (wc := [(h0, .inr (9, [.ref a0, .ref b0, .int np, .int th, .int x_8_0, .long hh])), (a0, .inl (cI, 129, .inl (upd x_9_0 12 ((x_9_0 12) + (1 : Int32))))), (b0, .inl (cI, 516, .inl pf))]) (wr := []) ⟨hx, hb, hml, hown, hts⟩ (met_X9_switches l D cI cJ cS h0 a0 b0 np th x_8_0 hh (upd x_9_0 12 ((x_9_0 12) + (1 : Int32))) pf _) (cwV 0 hts gX9_tick_X9_switches rfl rfl rfl (by decide +kernel) ⟨Nat.le_of_ble_eq_true rfl, Nat.le_of_ble_eq_true rfl⟩) hK hP hD hS hA hG [0, 1, 2] [] rfl rfl rfl rfl (by decide) 0 rfl rfl rfl hl.1 (Nat.le_of_ble_eq_true rfl) rfl dX9_tick_73 ⟨Nat.le_of_ble_eq_true rfl, Nat.le_of_ble_eq_true rfl⟩ (fun x_11_0 H locs hw_11 hP hD hS => ?_)
      have hP : va_P D vwCl [(h0, .inr (9, [.ref a0, .ref b0, .int np, .int th, .int x_8_0, .long hh])), (a0, .inl (cI, 129, .inl x_11_0)), (b0, .inl (cI, 516, .inl pf))] H := hP
      have hD : va_D A [(h0, .inr (9, [.ref a0, .ref b0, .int np, .int th, .int x_8_0, .long hh])), (a0, .inl (cI, 129, .inl x_11_0)), (b0, .inl (cI, 516, .inl pf))] := hD
      exact my_vret hx hb hr hlocks hK hP hD hS (x_8_0, x_11_0) (by show (x_8_0, x_11_0) = F_X9_tick np th ed hh w pf; simp only [F_X9_tick, if_neg c_3, if_pos c_10, ← hw_1, ← hw_2, ← hw_8, ← hw_9, ← hw_11]) [0, 1, 2] rfl rfl dX9_tick_76
    · skip
      refine lv_iconst (v := 0) hx hb dX9_tick_58 (by decide) ?_
      refine lv_goto (tgt := 71) hx hb dX9_tick_59 (by decide) ?_
      refine my_iast hx hb hK hP hD hS 1 0 rfl rfl 12 (rfl) (by decide) (by decide) dX9_tick_71 (fun H locs hP hD hS => ?_)
      have hP : va_P D vwCl [(h0, .inr (9, [.ref a0, .ref b0, .int np, .int th, .int x_8_0, .long hh])), (a0, .inl (cI, 129, .inl (upd x_9_0 12 (0 : Int32)))), (b0, .inl (cI, 516, .inl pf))] H := hP
      have hD : va_D A [(h0, .inr (9, [.ref a0, .ref b0, .int np, .int th, .int x_8_0, .long hh])), (a0, .inl (cI, 129, .inl (upd x_9_0 12 (0 : Int32)))), (b0, .inl (cI, 516, .inl pf))] := hD
      refine lv_aload_n hx hb dX9_tick_72 rfl (lv_at hl 0 rfl) ?_
      refine my_callV_v (As := []) (rest := []) (wc := [(h0, .inr (9, [.ref a0, .ref b0, .int np, .int th, .int x_8_0, .long hh])), (a0, .inl (cI, 129, .inl (upd x_9_0 12 (0 : Int32)))), (b0, .inl (cI, 516, .inl pf))]) (wr := []) ⟨hx, hb, hml, hown, hts⟩ (met_X9_switches l D cI cJ cS h0 a0 b0 np th x_8_0 hh (upd x_9_0 12 (0 : Int32)) pf _) (cwV 0 hts gX9_tick_X9_switches rfl rfl rfl (by decide +kernel) ⟨Nat.le_of_ble_eq_true rfl, Nat.le_of_ble_eq_true rfl⟩) hK hP hD hS hA hG [0, 1, 2] [] rfl rfl rfl rfl (by decide) 0 rfl rfl rfl hl.1 (Nat.le_of_ble_eq_true rfl) rfl dX9_tick_73 ⟨Nat.le_of_ble_eq_true rfl, Nat.le_of_ble_eq_true rfl⟩ (fun x_12_0 H locs hw_12 hP hD hS => ?_)
      have hP : va_P D vwCl [(h0, .inr (9, [.ref a0, .ref b0, .int np, .int th, .int x_8_0, .long hh])), (a0, .inl (cI, 129, .inl x_12_0)), (b0, .inl (cI, 516, .inl pf))] H := hP
      have hD : va_D A [(h0, .inr (9, [.ref a0, .ref b0, .int np, .int th, .int x_8_0, .long hh])), (a0, .inl (cI, 129, .inl x_12_0)), (b0, .inl (cI, 516, .inl pf))] := hD
      exact my_vret hx hb hr hlocks hK hP hD hS (x_8_0, x_12_0) (by show (x_8_0, x_12_0) = F_X9_tick np th ed hh w pf; simp only [F_X9_tick, if_neg c_3, if_neg c_10, ← hw_1, ← hw_2, ← hw_8, ← hw_9, ← hw_12]) [0, 1, 2] rfl rfl dX9_tick_76
