def tit (np th : Int32) (hh : Int64) (pf : Nat → Int32) : Nat → Int32 × (Nat → Int32) → Int32 × (Nat → Int32)
  | 0, x => x
  | j + 1, x => tit np th hh pf j (F_X9_tick np th x.1 hh x.2 pf)
theorem tit_s (np th : Int32) (hh : Int64) (pf : Nat → Int32) (j : Nat) (x : Int32 × (Nat → Int32)) : tit np th hh pf (j + 1) x = tit np th hh pf j (F_X9_tick np th x.1 hh x.2 pf) := rfl
theorem vp_pred {z : Int32} (hz : vp_in z 5) (c : ¬ z = 0) : vp_in (z - 1) 4 := by
  have e := tn_eq hz
  have hl := tn_lt hz
  have h0 := tn_ne hz 0 c
  rw [e, nI_sub1 (by omega)]
  exact vp_in_nI (by omega) (by decide)
def F_X9_leg (np : Int32) (th : Int32) (ed : Int32) (hh : Int64) (w : Nat → Int32) (pf : Nat → Int32) (t : Int32) : Int32 × Int32 :=
  let q1 := F_X9_in t (0 : Int32) (2 : Int32)
  if q1 = (0 : Int32) then
    let q3 := F_X9_fails np th ed hh w pf (1 : Int32)
    (q3.1, (q3.2))
  else
    let q4 := F_X9_tells np th ed hh w pf (w (13 + (tn t)))
    (q4.1, (q4.2))
set_option maxHeartbeats 4000000 in
set_option maxRecDepth 100000 in
theorem met_X9_leg (l : Launch) (D : va_G) (cI cJ cS : ClassId) (h0 : Nat) (a0 : Nat) (b0 : Nat) (np : Int32) (th : Int32) (ed : Int32) (hh : Int64) (w : Nat → Int32) (pf : Nat → Int32) (t : Int32)  : ∀ sz : Nat, Met l yX9_leg wsX9_leg ({ frames := 1, cells := 0, slots := 0, locals := 22 } : Room) (va_Pc [.ref h0, .int t] (cPre D (tyz cI cJ cS) ([(h0, .inr (9, [.ref a0, .ref b0, .int np, .int th, .int ed, .long hh])), (a0, .inl (cI, 129, .inl w)), (b0, .inl (cI, 516, .inl pf))]) sz)) (va_Qi (fun (r : Int32) (u : Int32) => (r, u) = F_X9_leg np th ed hh w pf t) (fun u => cPost D (tyz cI cJ cS) (va_A ([(h0, .inr (9, [.ref a0, .ref b0, .int np, .int th, .int ed, .long hh])), (a0, .inl (cI, 129, .inl w)), (b0, .inl (cI, 516, .inl pf))]) sz) ([(h0, .inr (9, [.ref a0, .ref b0, .int np, .int u, .int ed, .long hh])), (a0, .inl (cI, 129, .inl w)), (b0, .inl (cI, 516, .inl pf))])) (va_A ([(h0, .inr (9, [.ref a0, .ref b0, .int np, .int th, .int ed, .long hh])), (a0, .inl (cI, 129, .inl w)), (b0, .inl (cI, 516, .inl pf))]) sz)) 0 0 (va_A ([(h0, .inr (9, [.ref a0, .ref b0, .int np, .int th, .int ed, .long hh])), (a0, .inl (cI, 129, .inl w)), (b0, .inl (cI, 516, .inl pf))]) sz) := by
  refine my_met (QC := fun A => (va_Qi (fun (r : Int32) (u : Int32) => (r, u) = F_X9_leg np th ed hh w pf t) (fun u => cPost D (tyz cI cJ cS) A ([(h0, .inr (9, [.ref a0, .ref b0, .int np, .int u, .int ed, .long hh])), (a0, .inl (cI, 129, .inl w)), (b0, .inl (cI, 516, .inl pf))])) A)) (cc := cX9_leg) (maxL := 2) (ret := (some .int)) (by decide) rfl (Nat.le_of_ble_eq_true rfl) ?_
  intro p e s m below meth c ls A hx hb hml hr hts hown hlocks hname hK hP hD hS hA hG hl
  have hown : s.vm.findClass RX9 = some m.cls := hown
  have hl : lv_has ls 2 [(0, .ref h0), (1, .int t)] := hl
  have hP : va_P D vwCl [(h0, .inr (9, [.ref a0, .ref b0, .int np, .int th, .int ed, .long hh])), (a0, .inl (cI, 129, .inl w)), (b0, .inl (cI, 516, .inl pf))] s.heap := hP
  have hD : va_D A [(h0, .inr (9, [.ref a0, .ref b0, .int np, .int th, .int ed, .long hh])), (a0, .inl (cI, 129, .inl w)), (b0, .inl (cI, 516, .inl pf))] := hD
  have hiX9 : ∀ w ∈ u_ws RX9 TX9 6, w ∈ wsX9_leg := by decide +kernel
  have hk_7 := hts (.fieldLink RX9 7 "HallCommutatorModel" "s" "[I") (by decide +kernel)
  refine lv_iload_n hx hb dX9_leg_0 rfl (lv_at hl 1 rfl) ?_
  refine lv_iconst (v := 0) hx hb dX9_leg_1 (by decide) ?_
  refine lv_iconst (v := 2) hx hb dX9_leg_2 (by decide) ?_
  refine my_callS_i (As := [.int t, .int (0 : Int32), .int (2 : Int32)]) (rest := []) (wc := []) (wr := [(h0, .inr (9, [.ref a0, .ref b0, .int np, .int th, .int ed, .long hh])), (a0, .inl (cI, 129, .inl w)), (b0, .inl (cI, 516, .inl pf))]) ⟨hx, hb, hml, hown, hts⟩ (met_X9_in l D cI cJ cS t (0 : Int32) (2 : Int32) _) (va_cwS 3 hts gX9_leg_X9_in rfl rfl rfl (by decide +kernel) ⟨Nat.le_of_ble_eq_true rfl, Nat.le_of_ble_eq_true rfl⟩) hK hP hD hS hA hG [] [0, 1, 2] rfl rfl rfl rfl (by decide) rfl hl.1 (Nat.le_of_ble_eq_true rfl) rfl dX9_leg_3 ⟨Nat.le_of_ble_eq_true rfl, Nat.le_of_ble_eq_true rfl⟩ (fun r_1 _ H locs hw_1 hP hD hS => ?_)
  have hP : va_P D vwCl [(h0, .inr (9, [.ref a0, .ref b0, .int np, .int th, .int ed, .long hh])), (a0, .inl (cI, 129, .inl w)), (b0, .inl (cI, 516, .inl pf))] H := hP
  have hD : va_D A [(h0, .inr (9, [.ref a0, .ref b0, .int np, .int th, .int ed, .long hh])), (a0, .inl (cI, 129, .inl w)), (b0, .inl (cI, 516, .inl pf))] := hD
  refine lv_if_eq (tgt := 25) hx hb dX9_leg_6 (by decide) (fun c_2 => ?_) (fun c_2 => ?_)
  · skip
    refine lv_aload_n hx hb dX9_leg_25 rfl (lv_at hl 0 rfl) ?_
    refine lv_iconst (v := 1) hx hb dX9_leg_26 (by decide) ?_
    refine my_callV_i (As := [.int (1 : Int32)]) (rest := []) (wc := [(h0, .inr (9, [.ref a0, .ref b0, .int np, .int th, .int ed, .long hh])), (a0, .inl (cI, 129, .inl w)), (b0, .inl (cI, 516, .inl pf))]) (wr := []) ⟨hx, hb, hml, hown, hts⟩ (met_X9_fails l D cI cJ cS h0 a0 b0 np th ed hh w pf (1 : Int32) _) (cwV 1 hts gX9_leg_X9_fails rfl rfl rfl (by decide +kernel) ⟨Nat.le_of_ble_eq_true rfl, Nat.le_of_ble_eq_true rfl⟩) hK hP hD hS hA hG [0, 1, 2] [] rfl rfl rfl rfl (by decide) 0 rfl rfl rfl hl.1 (Nat.le_of_ble_eq_true rfl) rfl dX9_leg_27 ⟨Nat.le_of_ble_eq_true rfl, Nat.le_of_ble_eq_true rfl⟩ (fun r_3 x_3_0 H locs hw_3 hP hD hS => ?_)
    have hP : va_P D vwCl [(h0, .inr (9, [.ref a0, .ref b0, .int np, .int x_3_0, .int ed, .long hh])), (a0, .inl (cI, 129, .inl w)), (b0, .inl (cI, 516, .inl pf))] H := hP
    have hD : va_D A [(h0, .inr (9, [.ref a0, .ref b0, .int np, .int x_3_0, .int ed, .long hh])), (a0, .inl (cI, 129, .inl w)), (b0, .inl (cI, 516, .inl pf))] := hD
    exact my_iret hx hb hr rfl hlocks hK hP hD hS (x_3_0) (by show (r_3, (x_3_0)) = F_X9_leg np th ed hh w pf t; simp only [F_X9_leg, if_pos c_2, ← hw_1, ← hw_3]) [0, 1, 2] rfl rfl dX9_leg_30
  · skip
    refine lv_aload_n hx hb dX9_leg_9 rfl (lv_at hl 0 rfl) ?_
    refine lv_aload_n hx hb dX9_leg_10 rfl (lv_at hl 0 rfl) ?_
    refine va_get (D := D) (ci := 9) (v := .ref a0) (C := RX9) (T := TX9) (N := 6) hx hb hts hiX9 hown hK hP 0 rfl rfl 0 (by decide) hk_7 (fun _ h9 => h9) rfl dX9_leg_11 ?_
    refine lv_bipush (v := 13) hx hb dX9_leg_14 (by decide) ?_
    refine lv_iload_n hx hb dX9_leg_16 rfl (lv_at hl 1 rfl) ?_
    refine W.eq (g2 := F0 m 17 ls [.int (nI (tn t)), .int (13 : Int32), .ref a0, .ref h0]) (by rw [← tn_eq (in_vp 2 hw_1 c_2 (by decide))]) ?_
    refine my_iaddN hx hb 13 (tn t) rfl rfl dX9_leg_17 ?_
    refine my_iald hx hb hK hP 1 0 rfl rfl (13 + (tn t)) (rfl) (by have := tn_lt (in_vp 2 hw_1 c_2 (by decide)); omega) (by decide) dX9_leg_18 ?_
    refine my_callV_i (As := [.int (w (13 + (tn t)))]) (rest := []) (wc := [(h0, .inr (9, [.ref a0, .ref b0, .int np, .int th, .int ed, .long hh])), (a0, .inl (cI, 129, .inl w)), (b0, .inl (cI, 516, .inl pf))]) (wr := []) ⟨hx, hb, hml, hown, hts⟩ (met_X9_tells l D cI cJ cS h0 a0 b0 np th ed hh w pf (w (13 + (tn t))) _) (cwV 1 hts gX9_leg_X9_tells rfl rfl rfl (by decide +kernel) ⟨Nat.le_of_ble_eq_true rfl, Nat.le_of_ble_eq_true rfl⟩) hK hP hD hS hA hG [0, 1, 2] [] rfl rfl rfl rfl (by decide) 0 rfl rfl rfl hl.1 (Nat.le_of_ble_eq_true rfl) rfl dX9_leg_19 ⟨Nat.le_of_ble_eq_true rfl, Nat.le_of_ble_eq_true rfl⟩ (fun r_4 x_4_0 H locs hw_4 hP hD hS => ?_)
    have hP : va_P D vwCl [(h0, .inr (9, [.ref a0, .ref b0, .int np, .int x_4_0, .int ed, .long hh])), (a0, .inl (cI, 129, .inl w)), (b0, .inl (cI, 516, .inl pf))] H := hP
    have hD : va_D A [(h0, .inr (9, [.ref a0, .ref b0, .int np, .int x_4_0, .int ed, .long hh])), (a0, .inl (cI, 129, .inl w)), (b0, .inl (cI, 516, .inl pf))] := hD
    refine lv_goto (tgt := 30) hx hb dX9_leg_22 (by decide) ?_
    exact my_iret hx hb hr rfl hlocks hK hP hD hS (x_4_0) (by show (r_4, (x_4_0)) = F_X9_leg np th ed hh w pf t; simp only [F_X9_leg, if_neg c_2, ← hw_1, ← hw_4]) [0, 1, 2] rfl rfl dX9_leg_30
def F_X9_onTicks (np : Int32) (th : Int32) (ed : Int32) (hh : Int64) (w : Nat → Int32) (pf : Nat → Int32) (t : Int32) (b : Int32) : Int32 × Int32 :=
  let q1 := F_X9_in t (0 : Int32) (2 : Int32)
  if q1 = (0 : Int32) then
    let q3 := F_X9_fails np th ed hh w pf (1 : Int32)
    (q3.1, (q3.2))
  else
    if b = (0 : Int32) then
      let q5 := F_X9_tells np th ed hh w pf (w (25 + (tn t)))
      (q5.1, (q5.2))
    else
      let q6 := F_X9_tells np th ed hh w pf (w (22 + (tn t)))
      (q6.1, (q6.2))
set_option maxHeartbeats 4000000 in
set_option maxRecDepth 100000 in
theorem met_X9_onTicks (l : Launch) (D : va_G) (cI cJ cS : ClassId) (h0 : Nat) (a0 : Nat) (b0 : Nat) (np : Int32) (th : Int32) (ed : Int32) (hh : Int64) (w : Nat → Int32) (pf : Nat → Int32) (t : Int32) (b : Int32)  : ∀ sz : Nat, Met l yX9_onTicks wsX9_onTicks ({ frames := 1, cells := 0, slots := 0, locals := 22 } : Room) (va_Pc [.ref h0, .int t, .int b] (cPre D (tyz cI cJ cS) ([(h0, .inr (9, [.ref a0, .ref b0, .int np, .int th, .int ed, .long hh])), (a0, .inl (cI, 129, .inl w)), (b0, .inl (cI, 516, .inl pf))]) sz)) (va_Qi (fun (r : Int32) (u : Int32) => (r, u) = F_X9_onTicks np th ed hh w pf t b) (fun u => cPost D (tyz cI cJ cS) (va_A ([(h0, .inr (9, [.ref a0, .ref b0, .int np, .int th, .int ed, .long hh])), (a0, .inl (cI, 129, .inl w)), (b0, .inl (cI, 516, .inl pf))]) sz) ([(h0, .inr (9, [.ref a0, .ref b0, .int np, .int u, .int ed, .long hh])), (a0, .inl (cI, 129, .inl w)), (b0, .inl (cI, 516, .inl pf))])) (va_A ([(h0, .inr (9, [.ref a0, .ref b0, .int np, .int th, .int ed, .long hh])), (a0, .inl (cI, 129, .inl w)), (b0, .inl (cI, 516, .inl pf))]) sz)) 0 0 (va_A ([(h0, .inr (9, [.ref a0, .ref b0, .int np, .int th, .int ed, .long hh])), (a0, .inl (cI, 129, .inl w)), (b0, .inl (cI, 516, .inl pf))]) sz) := by
  refine my_met (QC := fun A => (va_Qi (fun (r : Int32) (u : Int32) => (r, u) = F_X9_onTicks np th ed hh w pf t b) (fun u => cPost D (tyz cI cJ cS) A ([(h0, .inr (9, [.ref a0, .ref b0, .int np, .int u, .int ed, .long hh])), (a0, .inl (cI, 129, .inl w)), (b0, .inl (cI, 516, .inl pf))])) A)) (cc := cX9_onTicks) (maxL := 3) (ret := (some .int)) (by decide) rfl (Nat.le_of_ble_eq_true rfl) ?_
  intro p e s m below meth c ls A hx hb hml hr hts hown hlocks hname hK hP hD hS hA hG hl
  have hown : s.vm.findClass RX9 = some m.cls := hown
  have hl : lv_has ls 3 [(0, .ref h0), (1, .int t), (2, .int b)] := hl
  have hP : va_P D vwCl [(h0, .inr (9, [.ref a0, .ref b0, .int np, .int th, .int ed, .long hh])), (a0, .inl (cI, 129, .inl w)), (b0, .inl (cI, 516, .inl pf))] s.heap := hP
  have hD : va_D A [(h0, .inr (9, [.ref a0, .ref b0, .int np, .int th, .int ed, .long hh])), (a0, .inl (cI, 129, .inl w)), (b0, .inl (cI, 516, .inl pf))] := hD
  have hiX9 : ∀ w ∈ u_ws RX9 TX9 6, w ∈ wsX9_onTicks := by decide +kernel
  have hk_7 := hts (.fieldLink RX9 7 "HallCommutatorModel" "s" "[I") (by decide +kernel)
  refine lv_iload_n hx hb dX9_onTicks_0 rfl (lv_at hl 1 rfl) ?_
  refine lv_iconst (v := 0) hx hb dX9_onTicks_1 (by decide) ?_
  refine lv_iconst (v := 2) hx hb dX9_onTicks_2 (by decide) ?_
  refine my_callS_i (As := [.int t, .int (0 : Int32), .int (2 : Int32)]) (rest := []) (wc := []) (wr := [(h0, .inr (9, [.ref a0, .ref b0, .int np, .int th, .int ed, .long hh])), (a0, .inl (cI, 129, .inl w)), (b0, .inl (cI, 516, .inl pf))]) ⟨hx, hb, hml, hown, hts⟩ (met_X9_in l D cI cJ cS t (0 : Int32) (2 : Int32) _) (va_cwS 3 hts gX9_onTicks_X9_in rfl rfl rfl (by decide +kernel) ⟨Nat.le_of_ble_eq_true rfl, Nat.le_of_ble_eq_true rfl⟩) hK hP hD hS hA hG [] [0, 1, 2] rfl rfl rfl rfl (by decide) rfl hl.1 (Nat.le_of_ble_eq_true rfl) rfl dX9_onTicks_3 ⟨Nat.le_of_ble_eq_true rfl, Nat.le_of_ble_eq_true rfl⟩ (fun r_1 _ H locs hw_1 hP hD hS => ?_)
  have hP : va_P D vwCl [(h0, .inr (9, [.ref a0, .ref b0, .int np, .int th, .int ed, .long hh])), (a0, .inl (cI, 129, .inl w)), (b0, .inl (cI, 516, .inl pf))] H := hP
  have hD : va_D A [(h0, .inr (9, [.ref a0, .ref b0, .int np, .int th, .int ed, .long hh])), (a0, .inl (cI, 129, .inl w)), (b0, .inl (cI, 516, .inl pf))] := hD
  refine lv_if_eq (tgt := 41) hx hb dX9_onTicks_6 (by decide) (fun c_2 => ?_) (fun c_2 => ?_)
  · skip
    refine lv_aload_n hx hb dX9_onTicks_41 rfl (lv_at hl 0 rfl) ?_
    refine lv_iconst (v := 1) hx hb dX9_onTicks_42 (by decide) ?_
    refine my_callV_i (As := [.int (1 : Int32)]) (rest := []) (wc := [(h0, .inr (9, [.ref a0, .ref b0, .int np, .int th, .int ed, .long hh])), (a0, .inl (cI, 129, .inl w)), (b0, .inl (cI, 516, .inl pf))]) (wr := []) ⟨hx, hb, hml, hown, hts⟩ (met_X9_fails l D cI cJ cS h0 a0 b0 np th ed hh w pf (1 : Int32) _) (cwV 1 hts gX9_onTicks_X9_fails rfl rfl rfl (by decide +kernel) ⟨Nat.le_of_ble_eq_true rfl, Nat.le_of_ble_eq_true rfl⟩) hK hP hD hS hA hG [0, 1, 2] [] rfl rfl rfl rfl (by decide) 0 rfl rfl rfl hl.1 (Nat.le_of_ble_eq_true rfl) rfl dX9_onTicks_43 ⟨Nat.le_of_ble_eq_true rfl, Nat.le_of_ble_eq_true rfl⟩ (fun r_3 x_3_0 H locs hw_3 hP hD hS => ?_)
    have hP : va_P D vwCl [(h0, .inr (9, [.ref a0, .ref b0, .int np, .int x_3_0, .int ed, .long hh])), (a0, .inl (cI, 129, .inl w)), (b0, .inl (cI, 516, .inl pf))] H := hP
    have hD : va_D A [(h0, .inr (9, [.ref a0, .ref b0, .int np, .int x_3_0, .int ed, .long hh])), (a0, .inl (cI, 129, .inl w)), (b0, .inl (cI, 516, .inl pf))] := hD
    exact my_iret hx hb hr rfl hlocks hK hP hD hS (x_3_0) (by show (r_3, (x_3_0)) = F_X9_onTicks np th ed hh w pf t b; simp only [F_X9_onTicks, if_pos c_2, ← hw_1, ← hw_3]) [0, 1, 2] rfl rfl dX9_onTicks_46
  · skip
    refine lv_aload_n hx hb dX9_onTicks_9 rfl (lv_at hl 0 rfl) ?_
    refine lv_iload_n hx hb dX9_onTicks_10 rfl (lv_at hl 2 rfl) ?_
    refine lv_if_eq (tgt := 26) hx hb dX9_onTicks_11 (by decide) (fun c_4 => ?_) (fun c_4 => ?_)
    · skip
      refine lv_aload_n hx hb dX9_onTicks_26 rfl (lv_at hl 0 rfl) ?_
      refine va_get (D := D) (ci := 9) (v := .ref a0) (C := RX9) (T := TX9) (N := 6) hx hb hts hiX9 hown hK hP 0 rfl rfl 0 (by decide) hk_7 (fun _ h9 => h9) rfl dX9_onTicks_27 ?_
      refine lv_bipush (v := 25) hx hb dX9_onTicks_30 (by decide) ?_
      refine lv_iload_n hx hb dX9_onTicks_32 rfl (lv_at hl 1 rfl) ?_
      refine W.eq (g2 := F0 m 33 ls [.int (nI (tn t)), .int (25 : Int32), .ref a0, .ref h0]) (by rw [← tn_eq (in_vp 2 hw_1 c_2 (by decide))]) ?_
      refine my_iaddN hx hb 25 (tn t) rfl rfl dX9_onTicks_33 ?_
      refine my_iald hx hb hK hP 1 0 rfl rfl (25 + (tn t)) (rfl) (by have := tn_lt (in_vp 2 hw_1 c_2 (by decide)); omega) (by decide) dX9_onTicks_34 ?_
      refine my_callV_i (As := [.int (w (25 + (tn t)))]) (rest := []) (wc := [(h0, .inr (9, [.ref a0, .ref b0, .int np, .int th, .int ed, .long hh])), (a0, .inl (cI, 129, .inl w)), (b0, .inl (cI, 516, .inl pf))]) (wr := []) ⟨hx, hb, hml, hown, hts⟩ (met_X9_tells l D cI cJ cS h0 a0 b0 np th ed hh w pf (w (25 + (tn t))) _) (cwV 1 hts gX9_onTicks_X9_tells rfl rfl rfl (by decide +kernel) ⟨Nat.le_of_ble_eq_true rfl, Nat.le_of_ble_eq_true rfl⟩) hK hP hD hS hA hG [0, 1, 2] [] rfl rfl rfl rfl (by decide) 0 rfl rfl rfl hl.1 (Nat.le_of_ble_eq_true rfl) rfl dX9_onTicks_35 ⟨Nat.le_of_ble_eq_true rfl, Nat.le_of_ble_eq_true rfl⟩ (fun r_5 x_5_0 H locs hw_5 hP hD hS => ?_)
      have hP : va_P D vwCl [(h0, .inr (9, [.ref a0, .ref b0, .int np, .int x_5_0, .int ed, .long hh])), (a0, .inl (cI, 129, .inl w)), (b0, .inl (cI, 516, .inl pf))] H := hP
      have hD : va_D A [(h0, .inr (9, [.ref a0, .ref b0, .int np, .int x_5_0, .int ed, .long hh])), (a0, .inl (cI, 129, .inl w)), (b0, .inl (cI, 516, .inl pf))] := hD
      refine lv_goto (tgt := 46) hx hb dX9_onTicks_38 (by decide) ?_
      exact my_iret hx hb hr rfl hlocks hK hP hD hS (x_5_0) (by show (r_5, (x_5_0)) = F_X9_onTicks np th ed hh w pf t b; simp only [F_X9_onTicks, if_neg c_2, if_pos c_4, ← hw_1, ← hw_5]) [0, 1, 2] rfl rfl dX9_onTicks_46
    · skip
      refine lv_aload_n hx hb dX9_onTicks_14 rfl (lv_at hl 0 rfl) ?_
      refine va_get (D := D) (ci := 9) (v := .ref a0) (C := RX9) (T := TX9) (N := 6) hx hb hts hiX9 hown hK hP 0 rfl rfl 0 (by decide) hk_7 (fun _ h9 => h9) rfl dX9_onTicks_15 ?_
      refine lv_bipush (v := 22) hx hb dX9_onTicks_18 (by decide) ?_
      refine lv_iload_n hx hb dX9_onTicks_20 rfl (lv_at hl 1 rfl) ?_
      refine W.eq (g2 := F0 m 21 ls [.int (nI (tn t)), .int (22 : Int32), .ref a0, .ref h0]) (by rw [← tn_eq (in_vp 2 hw_1 c_2 (by decide))]) ?_
      refine my_iaddN hx hb 22 (tn t) rfl rfl dX9_onTicks_21 ?_
      refine my_iald hx hb hK hP 1 0 rfl rfl (22 + (tn t)) (rfl) (by have := tn_lt (in_vp 2 hw_1 c_2 (by decide)); omega) (by decide) dX9_onTicks_22 ?_
      refine lv_goto (tgt := 35) hx hb dX9_onTicks_23 (by decide) ?_
      refine my_callV_i (As := [.int (w (22 + (tn t)))]) (rest := []) (wc := [(h0, .inr (9, [.ref a0, .ref b0, .int np, .int th, .int ed, .long hh])), (a0, .inl (cI, 129, .inl w)), (b0, .inl (cI, 516, .inl pf))]) (wr := []) ⟨hx, hb, hml, hown, hts⟩ (met_X9_tells l D cI cJ cS h0 a0 b0 np th ed hh w pf (w (22 + (tn t))) _) (cwV 1 hts gX9_onTicks_X9_tells rfl rfl rfl (by decide +kernel) ⟨Nat.le_of_ble_eq_true rfl, Nat.le_of_ble_eq_true rfl⟩) hK hP hD hS hA hG [0, 1, 2] [] rfl rfl rfl rfl (by decide) 0 rfl rfl rfl hl.1 (Nat.le_of_ble_eq_true rfl) rfl dX9_onTicks_35 ⟨Nat.le_of_ble_eq_true rfl, Nat.le_of_ble_eq_true rfl⟩ (fun r_6 x_6_0 H locs hw_6 hP hD hS => ?_)
      have hP : va_P D vwCl [(h0, .inr (9, [.ref a0, .ref b0, .int np, .int x_6_0, .int ed, .long hh])), (a0, .inl (cI, 129, .inl w)), (b0, .inl (cI, 516, .inl pf))] H := hP
      have hD : va_D A [(h0, .inr (9, [.ref a0, .ref b0, .int np, .int x_6_0, .int ed, .long hh])), (a0, .inl (cI, 129, .inl w)), (b0, .inl (cI, 516, .inl pf))] := hD
      refine lv_goto (tgt := 46) hx hb dX9_onTicks_38 (by decide) ?_
      exact my_iret hx hb hr rfl hlocks hK hP hD hS (x_6_0) (by show (r_6, (x_6_0)) = F_X9_onTicks np th ed hh w pf t b; simp only [F_X9_onTicks, if_neg c_2, if_neg c_4, ← hw_1, ← hw_6]) [0, 1, 2] rfl rfl dX9_onTicks_46
def F_X9_counts (np : Int32) (th : Int32) (ed : Int32) (hh : Int64) (w : Nat → Int32) (pf : Nat → Int32) (t : Int32) : Int32 × Int32 :=
  let q1 := F_X9_in t (0 : Int32) (3 : Int32)
  if q1 = (0 : Int32) then
    let q3 := F_X9_fails np th ed hh w pf (1 : Int32)
    (q3.1, (q3.2))
  else
    let q4 := F_X9_tells np th ed hh w pf (w (29 + (tn t)))
    (q4.1, (q4.2))
set_option maxHeartbeats 4000000 in
set_option maxRecDepth 100000 in
theorem met_X9_counts (l : Launch) (D : va_G) (cI cJ cS : ClassId) (h0 : Nat) (a0 : Nat) (b0 : Nat) (np : Int32) (th : Int32) (ed : Int32) (hh : Int64) (w : Nat → Int32) (pf : Nat → Int32) (t : Int32)  : ∀ sz : Nat, Met l yX9_counts wsX9_counts ({ frames := 1, cells := 0, slots := 0, locals := 22 } : Room) (va_Pc [.ref h0, .int t] (cPre D (tyz cI cJ cS) ([(h0, .inr (9, [.ref a0, .ref b0, .int np, .int th, .int ed, .long hh])), (a0, .inl (cI, 129, .inl w)), (b0, .inl (cI, 516, .inl pf))]) sz)) (va_Qi (fun (r : Int32) (u : Int32) => (r, u) = F_X9_counts np th ed hh w pf t) (fun u => cPost D (tyz cI cJ cS) (va_A ([(h0, .inr (9, [.ref a0, .ref b0, .int np, .int th, .int ed, .long hh])), (a0, .inl (cI, 129, .inl w)), (b0, .inl (cI, 516, .inl pf))]) sz) ([(h0, .inr (9, [.ref a0, .ref b0, .int np, .int u, .int ed, .long hh])), (a0, .inl (cI, 129, .inl w)), (b0, .inl (cI, 516, .inl pf))])) (va_A ([(h0, .inr (9, [.ref a0, .ref b0, .int np, .int th, .int ed, .long hh])), (a0, .inl (cI, 129, .inl w)), (b0, .inl (cI, 516, .inl pf))]) sz)) 0 0 (va_A ([(h0, .inr (9, [.ref a0, .ref b0, .int np, .int th, .int ed, .long hh])), (a0, .inl (cI, 129, .inl w)), (b0, .inl (cI, 516, .inl pf))]) sz) := by
  refine my_met (QC := fun A => (va_Qi (fun (r : Int32) (u : Int32) => (r, u) = F_X9_counts np th ed hh w pf t) (fun u => cPost D (tyz cI cJ cS) A ([(h0, .inr (9, [.ref a0, .ref b0, .int np, .int u, .int ed, .long hh])), (a0, .inl (cI, 129, .inl w)), (b0, .inl (cI, 516, .inl pf))])) A)) (cc := cX9_counts) (maxL := 2) (ret := (some .int)) (by decide) rfl (Nat.le_of_ble_eq_true rfl) ?_
  intro p e s m below meth c ls A hx hb hml hr hts hown hlocks hname hK hP hD hS hA hG hl
  have hown : s.vm.findClass RX9 = some m.cls := hown
  have hl : lv_has ls 2 [(0, .ref h0), (1, .int t)] := hl
  have hP : va_P D vwCl [(h0, .inr (9, [.ref a0, .ref b0, .int np, .int th, .int ed, .long hh])), (a0, .inl (cI, 129, .inl w)), (b0, .inl (cI, 516, .inl pf))] s.heap := hP
  have hD : va_D A [(h0, .inr (9, [.ref a0, .ref b0, .int np, .int th, .int ed, .long hh])), (a0, .inl (cI, 129, .inl w)), (b0, .inl (cI, 516, .inl pf))] := hD
  have hiX9 : ∀ w ∈ u_ws RX9 TX9 6, w ∈ wsX9_counts := by decide +kernel
  have hk_7 := hts (.fieldLink RX9 7 "HallCommutatorModel" "s" "[I") (by decide +kernel)
  refine lv_iload_n hx hb dX9_counts_0 rfl (lv_at hl 1 rfl) ?_
  refine lv_iconst (v := 0) hx hb dX9_counts_1 (by decide) ?_
  refine lv_iconst (v := 3) hx hb dX9_counts_2 (by decide) ?_
  refine my_callS_i (As := [.int t, .int (0 : Int32), .int (3 : Int32)]) (rest := []) (wc := []) (wr := [(h0, .inr (9, [.ref a0, .ref b0, .int np, .int th, .int ed, .long hh])), (a0, .inl (cI, 129, .inl w)), (b0, .inl (cI, 516, .inl pf))]) ⟨hx, hb, hml, hown, hts⟩ (met_X9_in l D cI cJ cS t (0 : Int32) (3 : Int32) _) (va_cwS 3 hts gX9_counts_X9_in rfl rfl rfl (by decide +kernel) ⟨Nat.le_of_ble_eq_true rfl, Nat.le_of_ble_eq_true rfl⟩) hK hP hD hS hA hG [] [0, 1, 2] rfl rfl rfl rfl (by decide) rfl hl.1 (Nat.le_of_ble_eq_true rfl) rfl dX9_counts_3 ⟨Nat.le_of_ble_eq_true rfl, Nat.le_of_ble_eq_true rfl⟩ (fun r_1 _ H locs hw_1 hP hD hS => ?_)
  have hP : va_P D vwCl [(h0, .inr (9, [.ref a0, .ref b0, .int np, .int th, .int ed, .long hh])), (a0, .inl (cI, 129, .inl w)), (b0, .inl (cI, 516, .inl pf))] H := hP
  have hD : va_D A [(h0, .inr (9, [.ref a0, .ref b0, .int np, .int th, .int ed, .long hh])), (a0, .inl (cI, 129, .inl w)), (b0, .inl (cI, 516, .inl pf))] := hD
  refine lv_if_eq (tgt := 25) hx hb dX9_counts_6 (by decide) (fun c_2 => ?_) (fun c_2 => ?_)
  · skip
    refine lv_aload_n hx hb dX9_counts_25 rfl (lv_at hl 0 rfl) ?_
    refine lv_iconst (v := 1) hx hb dX9_counts_26 (by decide) ?_
    refine my_callV_i (As := [.int (1 : Int32)]) (rest := []) (wc := [(h0, .inr (9, [.ref a0, .ref b0, .int np, .int th, .int ed, .long hh])), (a0, .inl (cI, 129, .inl w)), (b0, .inl (cI, 516, .inl pf))]) (wr := []) ⟨hx, hb, hml, hown, hts⟩ (met_X9_fails l D cI cJ cS h0 a0 b0 np th ed hh w pf (1 : Int32) _) (cwV 1 hts gX9_counts_X9_fails rfl rfl rfl (by decide +kernel) ⟨Nat.le_of_ble_eq_true rfl, Nat.le_of_ble_eq_true rfl⟩) hK hP hD hS hA hG [0, 1, 2] [] rfl rfl rfl rfl (by decide) 0 rfl rfl rfl hl.1 (Nat.le_of_ble_eq_true rfl) rfl dX9_counts_27 ⟨Nat.le_of_ble_eq_true rfl, Nat.le_of_ble_eq_true rfl⟩ (fun r_3 x_3_0 H locs hw_3 hP hD hS => ?_)
    have hP : va_P D vwCl [(h0, .inr (9, [.ref a0, .ref b0, .int np, .int x_3_0, .int ed, .long hh])), (a0, .inl (cI, 129, .inl w)), (b0, .inl (cI, 516, .inl pf))] H := hP
    have hD : va_D A [(h0, .inr (9, [.ref a0, .ref b0, .int np, .int x_3_0, .int ed, .long hh])), (a0, .inl (cI, 129, .inl w)), (b0, .inl (cI, 516, .inl pf))] := hD
    exact my_iret hx hb hr rfl hlocks hK hP hD hS (x_3_0) (by show (r_3, (x_3_0)) = F_X9_counts np th ed hh w pf t; simp only [F_X9_counts, if_pos c_2, ← hw_1, ← hw_3]) [0, 1, 2] rfl rfl dX9_counts_30
  · skip
    refine lv_aload_n hx hb dX9_counts_9 rfl (lv_at hl 0 rfl) ?_
    refine lv_aload_n hx hb dX9_counts_10 rfl (lv_at hl 0 rfl) ?_
    refine va_get (D := D) (ci := 9) (v := .ref a0) (C := RX9) (T := TX9) (N := 6) hx hb hts hiX9 hown hK hP 0 rfl rfl 0 (by decide) hk_7 (fun _ h9 => h9) rfl dX9_counts_11 ?_
    refine lv_bipush (v := 29) hx hb dX9_counts_14 (by decide) ?_
    refine lv_iload_n hx hb dX9_counts_16 rfl (lv_at hl 1 rfl) ?_
    refine W.eq (g2 := F0 m 17 ls [.int (nI (tn t)), .int (29 : Int32), .ref a0, .ref h0]) (by rw [← tn_eq (in_vp 3 hw_1 c_2 (by decide))]) ?_
    refine my_iaddN hx hb 29 (tn t) rfl rfl dX9_counts_17 ?_
    refine my_iald hx hb hK hP 1 0 rfl rfl (29 + (tn t)) (rfl) (by have := tn_lt (in_vp 3 hw_1 c_2 (by decide)); omega) (by decide) dX9_counts_18 ?_
    refine my_callV_i (As := [.int (w (29 + (tn t)))]) (rest := []) (wc := [(h0, .inr (9, [.ref a0, .ref b0, .int np, .int th, .int ed, .long hh])), (a0, .inl (cI, 129, .inl w)), (b0, .inl (cI, 516, .inl pf))]) (wr := []) ⟨hx, hb, hml, hown, hts⟩ (met_X9_tells l D cI cJ cS h0 a0 b0 np th ed hh w pf (w (29 + (tn t))) _) (cwV 1 hts gX9_counts_X9_tells rfl rfl rfl (by decide +kernel) ⟨Nat.le_of_ble_eq_true rfl, Nat.le_of_ble_eq_true rfl⟩) hK hP hD hS hA hG [0, 1, 2] [] rfl rfl rfl rfl (by decide) 0 rfl rfl rfl hl.1 (Nat.le_of_ble_eq_true rfl) rfl dX9_counts_19 ⟨Nat.le_of_ble_eq_true rfl, Nat.le_of_ble_eq_true rfl⟩ (fun r_4 x_4_0 H locs hw_4 hP hD hS => ?_)
    have hP : va_P D vwCl [(h0, .inr (9, [.ref a0, .ref b0, .int np, .int x_4_0, .int ed, .long hh])), (a0, .inl (cI, 129, .inl w)), (b0, .inl (cI, 516, .inl pf))] H := hP
    have hD : va_D A [(h0, .inr (9, [.ref a0, .ref b0, .int np, .int x_4_0, .int ed, .long hh])), (a0, .inl (cI, 129, .inl w)), (b0, .inl (cI, 516, .inl pf))] := hD
    refine lv_goto (tgt := 30) hx hb dX9_counts_22 (by decide) ?_
    exact my_iret hx hb hr rfl hlocks hK hP hD hS (x_4_0) (by show (r_4, (x_4_0)) = F_X9_counts np th ed hh w pf t; simp only [F_X9_counts, if_neg c_2, ← hw_1, ← hw_4]) [0, 1, 2] rfl rfl dX9_counts_30
def F_X9_fault (np : Int32) (th : Int32) (ed : Int32) (hh : Int64) (w : Nat → Int32) (pf : Nat → Int32) (t : Int32) : Int32 × Int32 :=
  let q1 := F_X9_in t (0 : Int32) (2 : Int32)
  if q1 = (0 : Int32) then
    let q3 := F_X9_fails np th ed hh w pf (1 : Int32)
    (q3.1, (q3.2))
  else
    let q4 := F_X9_tells np th ed hh w pf (w (45 + (tn t)))
    (q4.1, (q4.2))
set_option maxHeartbeats 4000000 in
set_option maxRecDepth 100000 in
theorem met_X9_fault (l : Launch) (D : va_G) (cI cJ cS : ClassId) (h0 : Nat) (a0 : Nat) (b0 : Nat) (np : Int32) (th : Int32) (ed : Int32) (hh : Int64) (w : Nat → Int32) (pf : Nat → Int32) (t : Int32)  : ∀ sz : Nat, Met l yX9_fault wsX9_fault ({ frames := 1, cells := 0, slots := 0, locals := 22 } : Room) (va_Pc [.ref h0, .int t] (cPre D (tyz cI cJ cS) ([(h0, .inr (9, [.ref a0, .ref b0, .int np, .int th, .int ed, .long hh])), (a0, .inl (cI, 129, .inl w)), (b0, .inl (cI, 516, .inl pf))]) sz)) (va_Qi (fun (r : Int32) (u : Int32) => (r, u) = F_X9_fault np th ed hh w pf t) (fun u => cPost D (tyz cI cJ cS) (va_A ([(h0, .inr (9, [.ref a0, .ref b0, .int np, .int th, .int ed, .long hh])), (a0, .inl (cI, 129, .inl w)), (b0, .inl (cI, 516, .inl pf))]) sz) ([(h0, .inr (9, [.ref a0, .ref b0, .int np, .int u, .int ed, .long hh])), (a0, .inl (cI, 129, .inl w)), (b0, .inl (cI, 516, .inl pf))])) (va_A ([(h0, .inr (9, [.ref a0, .ref b0, .int np, .int th, .int ed, .long hh])), (a0, .inl (cI, 129, .inl w)), (b0, .inl (cI, 516, .inl pf))]) sz)) 0 0 (va_A ([(h0, .inr (9, [.ref a0, .ref b0, .int np, .int th, .int ed, .long hh])), (a0, .inl (cI, 129, .inl w)), (b0, .inl (cI, 516, .inl pf))]) sz) := by
  refine my_met (QC := fun A => (va_Qi (fun (r : Int32) (u : Int32) => (r, u) = F_X9_fault np th ed hh w pf t) (fun u => cPost D (tyz cI cJ cS) A ([(h0, .inr (9, [.ref a0, .ref b0, .int np, .int u, .int ed, .long hh])), (a0, .inl (cI, 129, .inl w)), (b0, .inl (cI, 516, .inl pf))])) A)) (cc := cX9_fault) (maxL := 2) (ret := (some .int)) (by decide) rfl (Nat.le_of_ble_eq_true rfl) ?_
  intro p e s m below meth c ls A hx hb hml hr hts hown hlocks hname hK hP hD hS hA hG hl
  have hown : s.vm.findClass RX9 = some m.cls := hown
  have hl : lv_has ls 2 [(0, .ref h0), (1, .int t)] := hl
  have hP : va_P D vwCl [(h0, .inr (9, [.ref a0, .ref b0, .int np, .int th, .int ed, .long hh])), (a0, .inl (cI, 129, .inl w)), (b0, .inl (cI, 516, .inl pf))] s.heap := hP
  have hD : va_D A [(h0, .inr (9, [.ref a0, .ref b0, .int np, .int th, .int ed, .long hh])), (a0, .inl (cI, 129, .inl w)), (b0, .inl (cI, 516, .inl pf))] := hD
  have hiX9 : ∀ w ∈ u_ws RX9 TX9 6, w ∈ wsX9_fault := by decide +kernel
  have hk_7 := hts (.fieldLink RX9 7 "HallCommutatorModel" "s" "[I") (by decide +kernel)
  refine lv_iload_n hx hb dX9_fault_0 rfl (lv_at hl 1 rfl) ?_
  refine lv_iconst (v := 0) hx hb dX9_fault_1 (by decide) ?_
  refine lv_iconst (v := 2) hx hb dX9_fault_2 (by decide) ?_
  refine my_callS_i (As := [.int t, .int (0 : Int32), .int (2 : Int32)]) (rest := []) (wc := []) (wr := [(h0, .inr (9, [.ref a0, .ref b0, .int np, .int th, .int ed, .long hh])), (a0, .inl (cI, 129, .inl w)), (b0, .inl (cI, 516, .inl pf))]) ⟨hx, hb, hml, hown, hts⟩ (met_X9_in l D cI cJ cS t (0 : Int32) (2 : Int32) _) (va_cwS 3 hts gX9_fault_X9_in rfl rfl rfl (by decide +kernel) ⟨Nat.le_of_ble_eq_true rfl, Nat.le_of_ble_eq_true rfl⟩) hK hP hD hS hA hG [] [0, 1, 2] rfl rfl rfl rfl (by decide) rfl hl.1 (Nat.le_of_ble_eq_true rfl) rfl dX9_fault_3 ⟨Nat.le_of_ble_eq_true rfl, Nat.le_of_ble_eq_true rfl⟩ (fun r_1 _ H locs hw_1 hP hD hS => ?_)
  have hP : va_P D vwCl [(h0, .inr (9, [.ref a0, .ref b0, .int np, .int th, .int ed, .long hh])), (a0, .inl (cI, 129, .inl w)), (b0, .inl (cI, 516, .inl pf))] H := hP
  have hD : va_D A [(h0, .inr (9, [.ref a0, .ref b0, .int np, .int th, .int ed, .long hh])), (a0, .inl (cI, 129, .inl w)), (b0, .inl (cI, 516, .inl pf))] := hD
  refine lv_if_eq (tgt := 25) hx hb dX9_fault_6 (by decide) (fun c_2 => ?_) (fun c_2 => ?_)
  · skip
    refine lv_aload_n hx hb dX9_fault_25 rfl (lv_at hl 0 rfl) ?_
    refine lv_iconst (v := 1) hx hb dX9_fault_26 (by decide) ?_
    refine my_callV_i (As := [.int (1 : Int32)]) (rest := []) (wc := [(h0, .inr (9, [.ref a0, .ref b0, .int np, .int th, .int ed, .long hh])), (a0, .inl (cI, 129, .inl w)), (b0, .inl (cI, 516, .inl pf))]) (wr := []) ⟨hx, hb, hml, hown, hts⟩ (met_X9_fails l D cI cJ cS h0 a0 b0 np th ed hh w pf (1 : Int32) _) (cwV 1 hts gX9_fault_X9_fails rfl rfl rfl (by decide +kernel) ⟨Nat.le_of_ble_eq_true rfl, Nat.le_of_ble_eq_true rfl⟩) hK hP hD hS hA hG [0, 1, 2] [] rfl rfl rfl rfl (by decide) 0 rfl rfl rfl hl.1 (Nat.le_of_ble_eq_true rfl) rfl dX9_fault_27 ⟨Nat.le_of_ble_eq_true rfl, Nat.le_of_ble_eq_true rfl⟩ (fun r_3 x_3_0 H locs hw_3 hP hD hS => ?_)
    have hP : va_P D vwCl [(h0, .inr (9, [.ref a0, .ref b0, .int np, .int x_3_0, .int ed, .long hh])), (a0, .inl (cI, 129, .inl w)), (b0, .inl (cI, 516, .inl pf))] H := hP
    have hD : va_D A [(h0, .inr (9, [.ref a0, .ref b0, .int np, .int x_3_0, .int ed, .long hh])), (a0, .inl (cI, 129, .inl w)), (b0, .inl (cI, 516, .inl pf))] := hD
    exact my_iret hx hb hr rfl hlocks hK hP hD hS (x_3_0) (by show (r_3, (x_3_0)) = F_X9_fault np th ed hh w pf t; simp only [F_X9_fault, if_pos c_2, ← hw_1, ← hw_3]) [0, 1, 2] rfl rfl dX9_fault_30
  · skip
    refine lv_aload_n hx hb dX9_fault_9 rfl (lv_at hl 0 rfl) ?_
    refine lv_aload_n hx hb dX9_fault_10 rfl (lv_at hl 0 rfl) ?_
    refine va_get (D := D) (ci := 9) (v := .ref a0) (C := RX9) (T := TX9) (N := 6) hx hb hts hiX9 hown hK hP 0 rfl rfl 0 (by decide) hk_7 (fun _ h9 => h9) rfl dX9_fault_11 ?_
    refine lv_bipush (v := 45) hx hb dX9_fault_14 (by decide) ?_
    refine lv_iload_n hx hb dX9_fault_16 rfl (lv_at hl 1 rfl) ?_
    refine W.eq (g2 := F0 m 17 ls [.int (nI (tn t)), .int (45 : Int32), .ref a0, .ref h0]) (by rw [← tn_eq (in_vp 2 hw_1 c_2 (by decide))]) ?_
    refine my_iaddN hx hb 45 (tn t) rfl rfl dX9_fault_17 ?_
    refine my_iald hx hb hK hP 1 0 rfl rfl (45 + (tn t)) (rfl) (by have := tn_lt (in_vp 2 hw_1 c_2 (by decide)); omega) (by decide) dX9_fault_18 ?_
    refine my_callV_i (As := [.int (w (45 + (tn t)))]) (rest := []) (wc := [(h0, .inr (9, [.ref a0, .ref b0, .int np, .int th, .int ed, .long hh])), (a0, .inl (cI, 129, .inl w)), (b0, .inl (cI, 516, .inl pf))]) (wr := []) ⟨hx, hb, hml, hown, hts⟩ (met_X9_tells l D cI cJ cS h0 a0 b0 np th ed hh w pf (w (45 + (tn t))) _) (cwV 1 hts gX9_fault_X9_tells rfl rfl rfl (by decide +kernel) ⟨Nat.le_of_ble_eq_true rfl, Nat.le_of_ble_eq_true rfl⟩) hK hP hD hS hA hG [0, 1, 2] [] rfl rfl rfl rfl (by decide) 0 rfl rfl rfl hl.1 (Nat.le_of_ble_eq_true rfl) rfl dX9_fault_19 ⟨Nat.le_of_ble_eq_true rfl, Nat.le_of_ble_eq_true rfl⟩ (fun r_4 x_4_0 H locs hw_4 hP hD hS => ?_)
    have hP : va_P D vwCl [(h0, .inr (9, [.ref a0, .ref b0, .int np, .int x_4_0, .int ed, .long hh])), (a0, .inl (cI, 129, .inl w)), (b0, .inl (cI, 516, .inl pf))] H := hP
    have hD : va_D A [(h0, .inr (9, [.ref a0, .ref b0, .int np, .int x_4_0, .int ed, .long hh])), (a0, .inl (cI, 129, .inl w)), (b0, .inl (cI, 516, .inl pf))] := hD
    refine lv_goto (tgt := 30) hx hb dX9_fault_22 (by decide) ?_
    exact my_iret hx hb hr rfl hlocks hK hP hD hS (x_4_0) (by show (r_4, (x_4_0)) = F_X9_fault np th ed hh w pf t; simp only [F_X9_fault, if_neg c_2, ← hw_1, ← hw_4]) [0, 1, 2] rfl rfl dX9_fault_30
def F_X9_interval (np : Int32) (th : Int32) (ed : Int32) (hh : Int64) (w : Nat → Int32) (pf : Nat → Int32) (t : Int32) : Int32 × Int32 :=
  let q1 := F_X9_in t (0 : Int32) ((w 35) - (1 : Int32))
  if q1 = (0 : Int32) then
    let q3 := F_X9_fails np th ed hh w pf (1 : Int32)
    (q3.1, (q3.2))
  else
    let q4 := F_X9_tells np th ed hh w pf (w (36 + (tn t)))
    (q4.1, (q4.2))
set_option maxHeartbeats 4000000 in
set_option maxRecDepth 100000 in
theorem met_X9_interval (l : Launch) (D : va_G) (cI cJ cS : ClassId) (h0 : Nat) (a0 : Nat) (b0 : Nat) (np : Int32) (th : Int32) (ed : Int32) (hh : Int64) (w : Nat → Int32) (pf : Nat → Int32) (t : Int32) (hz : vp_in (w 35) 7) : ∀ sz : Nat, Met l yX9_interval wsX9_interval ({ frames := 1, cells := 0, slots := 0, locals := 22 } : Room) (va_Pc [.ref h0, .int t] (cPre D (tyz cI cJ cS) ([(h0, .inr (9, [.ref a0, .ref b0, .int np, .int th, .int ed, .long hh])), (a0, .inl (cI, 129, .inl w)), (b0, .inl (cI, 516, .inl pf))]) sz)) (va_Qi (fun (r : Int32) (u : Int32) => (r, u) = F_X9_interval np th ed hh w pf t) (fun u => cPost D (tyz cI cJ cS) (va_A ([(h0, .inr (9, [.ref a0, .ref b0, .int np, .int th, .int ed, .long hh])), (a0, .inl (cI, 129, .inl w)), (b0, .inl (cI, 516, .inl pf))]) sz) ([(h0, .inr (9, [.ref a0, .ref b0, .int np, .int u, .int ed, .long hh])), (a0, .inl (cI, 129, .inl w)), (b0, .inl (cI, 516, .inl pf))])) (va_A ([(h0, .inr (9, [.ref a0, .ref b0, .int np, .int th, .int ed, .long hh])), (a0, .inl (cI, 129, .inl w)), (b0, .inl (cI, 516, .inl pf))]) sz)) 0 0 (va_A ([(h0, .inr (9, [.ref a0, .ref b0, .int np, .int th, .int ed, .long hh])), (a0, .inl (cI, 129, .inl w)), (b0, .inl (cI, 516, .inl pf))]) sz) := by
  refine my_met (QC := fun A => (va_Qi (fun (r : Int32) (u : Int32) => (r, u) = F_X9_interval np th ed hh w pf t) (fun u => cPost D (tyz cI cJ cS) A ([(h0, .inr (9, [.ref a0, .ref b0, .int np, .int u, .int ed, .long hh])), (a0, .inl (cI, 129, .inl w)), (b0, .inl (cI, 516, .inl pf))])) A)) (cc := cX9_interval) (maxL := 2) (ret := (some .int)) (by decide) rfl (Nat.le_of_ble_eq_true rfl) ?_
  intro p e s m below meth c ls A hx hb hml hr hts hown hlocks hname hK hP hD hS hA hG hl
  have hown : s.vm.findClass RX9 = some m.cls := hown
  have hl : lv_has ls 2 [(0, .ref h0), (1, .int t)] := hl
  have hP : va_P D vwCl [(h0, .inr (9, [.ref a0, .ref b0, .int np, .int th, .int ed, .long hh])), (a0, .inl (cI, 129, .inl w)), (b0, .inl (cI, 516, .inl pf))] s.heap := hP
  have hD : va_D A [(h0, .inr (9, [.ref a0, .ref b0, .int np, .int th, .int ed, .long hh])), (a0, .inl (cI, 129, .inl w)), (b0, .inl (cI, 516, .inl pf))] := hD
  have hiX9 : ∀ w ∈ u_ws RX9 TX9 6, w ∈ wsX9_interval := by decide +kernel
  have hk_7 := hts (.fieldLink RX9 7 "HallCommutatorModel" "s" "[I") (by decide +kernel)
  refine lv_iload_n hx hb dX9_interval_0 rfl (lv_at hl 1 rfl) ?_
  refine lv_iconst (v := 0) hx hb dX9_interval_1 (by decide) ?_
  refine lv_aload_n hx hb dX9_interval_2 rfl (lv_at hl 0 rfl) ?_
  refine va_get (D := D) (ci := 9) (v := .ref a0) (C := RX9) (T := TX9) (N := 6) hx hb hts hiX9 hown hK hP 0 rfl rfl 0 (by decide) hk_7 (fun _ h9 => h9) rfl dX9_interval_3 ?_
  refine lv_bipush (v := 35) hx hb dX9_interval_6 (by decide) ?_
  refine my_iald hx hb hK hP 1 0 rfl rfl 35 (rfl) (by decide) (by decide) dX9_interval_8 ?_
  refine lv_iconst (v := 1) hx hb dX9_interval_9 (by decide) ?_
  refine lv_isub hx hb dX9_interval_10 ?_
  refine my_callS_i (As := [.int t, .int (0 : Int32), .int ((w 35) - (1 : Int32))]) (rest := []) (wc := []) (wr := [(h0, .inr (9, [.ref a0, .ref b0, .int np, .int th, .int ed, .long hh])), (a0, .inl (cI, 129, .inl w)), (b0, .inl (cI, 516, .inl pf))]) ⟨hx, hb, hml, hown, hts⟩ (met_X9_in l D cI cJ cS t (0 : Int32) ((w 35) - (1 : Int32)) _) (va_cwS 3 hts gX9_interval_X9_in rfl rfl rfl (by decide +kernel) ⟨Nat.le_of_ble_eq_true rfl, Nat.le_of_ble_eq_true rfl⟩) hK hP hD hS hA hG [] [0, 1, 2] rfl rfl rfl rfl (by decide) rfl hl.1 (Nat.le_of_ble_eq_true rfl) rfl dX9_interval_11 ⟨Nat.le_of_ble_eq_true rfl, Nat.le_of_ble_eq_true rfl⟩ (fun r_1 _ H locs hw_1 hP hD hS => ?_)
  have hP : va_P D vwCl [(h0, .inr (9, [.ref a0, .ref b0, .int np, .int th, .int ed, .long hh])), (a0, .inl (cI, 129, .inl w)), (b0, .inl (cI, 516, .inl pf))] H := hP
  have hD : va_D A [(h0, .inr (9, [.ref a0, .ref b0, .int np, .int th, .int ed, .long hh])), (a0, .inl (cI, 129, .inl w)), (b0, .inl (cI, 516, .inl pf))] := hD
  refine lv_if_eq (tgt := 33) hx hb dX9_interval_14 (by decide) (fun c_2 => ?_) (fun c_2 => ?_)
  · skip
    refine lv_aload_n hx hb dX9_interval_33 rfl (lv_at hl 0 rfl) ?_
    refine lv_iconst (v := 1) hx hb dX9_interval_34 (by decide) ?_
    refine my_callV_i (As := [.int (1 : Int32)]) (rest := []) (wc := [(h0, .inr (9, [.ref a0, .ref b0, .int np, .int th, .int ed, .long hh])), (a0, .inl (cI, 129, .inl w)), (b0, .inl (cI, 516, .inl pf))]) (wr := []) ⟨hx, hb, hml, hown, hts⟩ (met_X9_fails l D cI cJ cS h0 a0 b0 np th ed hh w pf (1 : Int32) _) (cwV 1 hts gX9_interval_X9_fails rfl rfl rfl (by decide +kernel) ⟨Nat.le_of_ble_eq_true rfl, Nat.le_of_ble_eq_true rfl⟩) hK hP hD hS hA hG [0, 1, 2] [] rfl rfl rfl rfl (by decide) 0 rfl rfl rfl hl.1 (Nat.le_of_ble_eq_true rfl) rfl dX9_interval_35 ⟨Nat.le_of_ble_eq_true rfl, Nat.le_of_ble_eq_true rfl⟩ (fun r_3 x_3_0 H locs hw_3 hP hD hS => ?_)
    have hP : va_P D vwCl [(h0, .inr (9, [.ref a0, .ref b0, .int np, .int x_3_0, .int ed, .long hh])), (a0, .inl (cI, 129, .inl w)), (b0, .inl (cI, 516, .inl pf))] H := hP
    have hD : va_D A [(h0, .inr (9, [.ref a0, .ref b0, .int np, .int x_3_0, .int ed, .long hh])), (a0, .inl (cI, 129, .inl w)), (b0, .inl (cI, 516, .inl pf))] := hD
    exact my_iret hx hb hr rfl hlocks hK hP hD hS (x_3_0) (by show (r_3, (x_3_0)) = F_X9_interval np th ed hh w pf t; simp only [F_X9_interval, if_pos c_2, ← hw_1, ← hw_3]) [0, 1, 2] rfl rfl dX9_interval_38
  · skip
    refine lv_aload_n hx hb dX9_interval_17 rfl (lv_at hl 0 rfl) ?_
    refine lv_aload_n hx hb dX9_interval_18 rfl (lv_at hl 0 rfl) ?_
    refine va_get (D := D) (ci := 9) (v := .ref a0) (C := RX9) (T := TX9) (N := 6) hx hb hts hiX9 hown hK hP 0 rfl rfl 0 (by decide) hk_7 (fun _ h9 => h9) rfl dX9_interval_19 ?_
    refine lv_bipush (v := 36) hx hb dX9_interval_22 (by decide) ?_
    refine lv_iload_n hx hb dX9_interval_24 rfl (lv_at hl 1 rfl) ?_
    refine W.eq (g2 := F0 m 25 ls [.int (nI (tn t)), .int (36 : Int32), .ref a0, .ref h0]) (by rw [← tn_eq (in_vp35 hz hw_1 c_2)]) ?_
    refine my_iaddN hx hb 36 (tn t) rfl rfl dX9_interval_25 ?_
    refine my_iald hx hb hK hP 1 0 rfl rfl (36 + (tn t)) (rfl) (by have := tn_lt (in_vp35 hz hw_1 c_2); omega) (by decide) dX9_interval_26 ?_
    refine my_callV_i (As := [.int (w (36 + (tn t)))]) (rest := []) (wc := [(h0, .inr (9, [.ref a0, .ref b0, .int np, .int th, .int ed, .long hh])), (a0, .inl (cI, 129, .inl w)), (b0, .inl (cI, 516, .inl pf))]) (wr := []) ⟨hx, hb, hml, hown, hts⟩ (met_X9_tells l D cI cJ cS h0 a0 b0 np th ed hh w pf (w (36 + (tn t))) _) (cwV 1 hts gX9_interval_X9_tells rfl rfl rfl (by decide +kernel) ⟨Nat.le_of_ble_eq_true rfl, Nat.le_of_ble_eq_true rfl⟩) hK hP hD hS hA hG [0, 1, 2] [] rfl rfl rfl rfl (by decide) 0 rfl rfl rfl hl.1 (Nat.le_of_ble_eq_true rfl) rfl dX9_interval_27 ⟨Nat.le_of_ble_eq_true rfl, Nat.le_of_ble_eq_true rfl⟩ (fun r_4 x_4_0 H locs hw_4 hP hD hS => ?_)
    have hP : va_P D vwCl [(h0, .inr (9, [.ref a0, .ref b0, .int np, .int x_4_0, .int ed, .long hh])), (a0, .inl (cI, 129, .inl w)), (b0, .inl (cI, 516, .inl pf))] H := hP
    have hD : va_D A [(h0, .inr (9, [.ref a0, .ref b0, .int np, .int x_4_0, .int ed, .long hh])), (a0, .inl (cI, 129, .inl w)), (b0, .inl (cI, 516, .inl pf))] := hD
    refine lv_goto (tgt := 38) hx hb dX9_interval_30 (by decide) ?_
    exact my_iret hx hb hr rfl hlocks hK hP hD hS (x_4_0) (by show (r_4, (x_4_0)) = F_X9_interval np th ed hh w pf t; simp only [F_X9_interval, if_neg c_2, ← hw_1, ← hw_4]) [0, 1, 2] rfl rfl dX9_interval_38
def LP_X9_undo : Nat → Int32 → Int32 → Int32 → Int64 → (Nat → Int32) → (Nat → Int32) → Nat → (Nat) × (Nat → Int32)
  | 0, _, _, _, _, w, _, i => (i, w)
  | n + 1, np, th, ed, hh, w, pf, i =>
    if (129 : Int32) ≤ nI i then
      (i, w)
    else
      LP_X9_undo n np th ed hh (upd w i (pf ((129 * (tn np)) + i))) pf (i + 1)
set_option maxHeartbeats 4000000 in
set_option maxRecDepth 100000 in
theorem lps_X9_undo {p : Program} (l : Launch) {e : Env} {R : Room} {s : State} {m : MethodId} {args : Array Value} {below : List Frame} {meth : Method} {c : Code} {A : Nat → Prop} {cells slots : Nat} {Q : State → Prop} (D : va_G) (cI cJ cS : ClassId) (hx : p.tables.exec = Jvm.exec) (hb : c.code = cX9_undo) (hml : c.maxLocals = 2) (hown : s.vm.findClass RX9 = some m.cls) (hts : ∀ w ∈ wsX9_undo, w.before args s = true) (hK : va_K D vwCl (tyz cI cJ cS) s) (hA : ∀ q, s.heap.size ≤ q → A q) (hG : gG A s s.heap) : ∀ (n : Nat) (h0 : Nat) (a0 : Nat) (b0 : Nat) (np : Int32) (th : Int32) (ed : Int32) (hh : Int64) (w : Nat → Int32) (pf : Nat → Int32) (i : Nat) (H : Heap) (locs : List Loc) (ls : Array Slot), (vp_in np 4) → (i ≤ 129) → (129 < i + n) → va_P D vwCl [(h0, .inr (9, [.ref a0, .ref b0, .int np, .int th, .int ed, .long hh])), (a0, .inl (cI, 129, .inl w)), (b0, .inl (cI, 516, .inl pf))] H → va_D A [(h0, .inr (9, [.ref a0, .ref b0, .int np, .int th, .int ed, .long hh])), (a0, .inl (cI, 129, .inl w)), (b0, .inl (cI, 516, .inl pf))] → va_S A s.heap H locs → lv_has ls 2 [(0, .ref h0), (1, .int (nI i))] → (∀ (y : (Nat) × (Nat → Int32)) (H : Heap) (locs : List Loc) (ls : Array Slot), y = LP_X9_undo n np th ed hh w pf i → va_P D vwCl [(h0, .inr (9, [.ref a0, .ref b0, .int np, .int th, .int ed, .long hh])), (a0, .inl (cI, 129, .inl y.2)), (b0, .inl (cI, 516, .inl pf))] H → va_D A [(h0, .inr (9, [.ref a0, .ref b0, .int np, .int th, .int ed, .long hh])), (a0, .inl (cI, 129, .inl y.2)), (b0, .inl (cI, 516, .inl pf))] → va_S A s.heap H locs → lv_has ls 2 [(0, .ref h0), (1, .int (nI y.1))] → W p l e R s m args below meth c H locs cells slots Q (F0 m 59 ls [])) → W p l e R s m args below meth c H locs cells slots Q (F0 m 25 ls []) := by
  have hk_7 := hts (.fieldLink RX9 7 "HallCommutatorModel" "s" "[I") (by decide +kernel)
  have hk_20 := hts (.fieldLink RX9 20 "HallCommutatorModel" "pasts" "I") (by decide +kernel)
  have hk_13 := hts (.fieldLink RX9 13 "HallCommutatorModel" "past" "[I") (by decide +kernel)
  have hiX9 : ∀ w ∈ u_ws RX9 TX9 6, w ∈ wsX9_undo := by decide +kernel
  intro n
  induction n with
  | zero =>
    intro h0 a0 b0 np th ed hh w pf i H locs ls hz hi hm
    exact absurd hm (by omega)
  | succ n ih =>
    intro h0 a0 b0 np th ed hh w pf i H locs ls hz hi hm hP hD hS hl kk
    refine lv_iload_n hx hb dX9_undo_25 rfl (lv_at hl 1 rfl) ?_
    refine lv_sipush (v := 129) hx hb dX9_undo_26 (by decide) ?_
    refine lv_icmp_ge (tgt := 59) hx hb dX9_undo_29 (by decide) (fun c_1 => ?_) (fun c_1 => ?_)
    · skip
      exact kk (i, w) _ _ _ (by simp only [LP_X9_undo, if_pos c_1]) (hP.subm [0, 1, 2] rfl) (hD.sub [0, 1, 2] rfl rfl) hS (lv_sub hl [0, 1] rfl)
    · skip
      refine lv_aload_n hx hb dX9_undo_32 rfl (lv_at hl 0 rfl) ?_
      refine va_get (D := D) (ci := 9) (v := .ref a0) (C := RX9) (T := TX9) (N := 6) hx hb hts hiX9 hown hK hP 0 rfl rfl 0 (by decide) hk_7 (fun _ h9 => h9) rfl dX9_undo_33 ?_
      refine lv_iload_n hx hb dX9_undo_36 rfl (lv_at hl 1 rfl) ?_
      refine lv_aload_n hx hb dX9_undo_37 rfl (lv_at hl 0 rfl) ?_
      refine va_get (D := D) (ci := 9) (v := .ref b0) (C := RX9) (T := TX9) (N := 6) hx hb hts hiX9 hown hK hP 0 rfl rfl 1 (by decide) hk_13 (fun _ h9 => h9) rfl dX9_undo_38 ?_
      refine lv_sipush (v := 129) hx hb dX9_undo_41 (by decide) ?_
      refine lv_aload_n hx hb dX9_undo_44 rfl (lv_at hl 0 rfl) ?_
      refine va_get (D := D) (ci := 9) (v := .int np) (C := RX9) (T := TX9) (N := 6) hx hb hts hiX9 hown hK hP 0 rfl rfl 2 (by decide) hk_20 (fun _ h9 => h9) rfl dX9_undo_45 ?_
      refine W.eq (g2 := F0 m 48 ls [.int (nI (tn np)), .int (129 : Int32), .ref b0, .int (nI i), .ref a0]) (by rw [← tn_eq hz]) ?_
      refine my_imulN hx hb 129 (tn np) rfl rfl dX9_undo_48 ?_
      refine lv_iload_n hx hb dX9_undo_49 rfl (lv_at hl 1 rfl) ?_
      refine my_iaddN hx hb (129 * (tn np)) i rfl rfl dX9_undo_50 ?_
      refine my_iald hx hb hK hP 2 0 rfl rfl ((129 * (tn np)) + i) (rfl) (by have := nI_nle_lt (a := 129) (by omega) c_1; have := tn_lt hz; omega) (by decide) dX9_undo_51 ?_
      refine my_iast hx hb hK hP hD hS 1 0 rfl rfl i (rfl) (by have := nI_nle_lt (a := 129) (by omega) c_1; omega) (by decide) dX9_undo_52 (fun H locs hP hD hS => ?_)
      have hP : va_P D vwCl [(h0, .inr (9, [.ref a0, .ref b0, .int np, .int th, .int ed, .long hh])), (a0, .inl (cI, 129, .inl (upd w i (pf ((129 * (tn np)) + i))))), (b0, .inl (cI, 516, .inl pf))] H := hP
      have hD : va_D A [(h0, .inr (9, [.ref a0, .ref b0, .int np, .int th, .int ed, .long hh])), (a0, .inl (cI, 129, .inl (upd w i (pf ((129 * (tn np)) + i))))), (b0, .inl (cI, 516, .inl pf))] := hD
      refine lv_iinc (v := nI (i + 1)) (lv' := [(1, .int (nI (i + 1))), (0, .ref h0)]) hx hb dX9_undo_53 hl (k := 1) rfl (nI_1 _) (by decide) rfl (fun ls hl => ?_)
      refine lv_goto (tgt := 25) hx hb dX9_undo_56 (by decide) ?_
      exact ih h0 a0 b0 np th ed hh (upd w i (pf ((129 * (tn np)) + i))) pf (i + 1) _ _ _ (hz) (by have := nI_nle_lt (a := 129) (by omega) c_1; omega) (by omega) (hP.subm [0, 1, 2] rfl) (hD.sub [0, 1, 2] rfl rfl) hS (lv_sub hl [1, 0] rfl) (fun y H locs ls hy => kk y H locs ls (by rw [hy]; simp only [LP_X9_undo, if_neg c_1]))
def F_X9_undo (np : Int32) (th : Int32) (ed : Int32) (hh : Int64) (w : Nat → Int32) (pf : Nat → Int32) : Int32 × Int32 × Int32 × (Nat → Int32) :=
  if np = (0 : Int32) then
    let q4 := F_X9_fails np th ed hh w pf (1 : Int32)
    (q4.1, (np, q4.2, w))
  else
    let q2 := LP_X9_undo 130 (np - (1 : Int32)) th ed hh w pf 0
    let q3 := F_X9_tells (np - (1 : Int32)) th ed hh q2.2 pf (np - (1 : Int32))
    (q3.1, ((np - (1 : Int32)), q3.2, q2.2))
set_option maxHeartbeats 4000000 in
set_option maxRecDepth 100000 in
theorem met_X9_undo (l : Launch) (D : va_G) (cI cJ cS : ClassId) (h0 : Nat) (a0 : Nat) (b0 : Nat) (np : Int32) (th : Int32) (ed : Int32) (hh : Int64) (w : Nat → Int32) (pf : Nat → Int32) (hz : vp_in np 5) : ∀ sz : Nat, Met l yX9_undo wsX9_undo ({ frames := 1, cells := 0, slots := 0, locals := 21 } : Room) (va_Pc [.ref h0] (cPre D (tyz cI cJ cS) ([(h0, .inr (9, [.ref a0, .ref b0, .int np, .int th, .int ed, .long hh])), (a0, .inl (cI, 129, .inl w)), (b0, .inl (cI, 516, .inl pf))]) sz)) (va_Qi (fun (r : Int32) (u : Int32 × Int32 × (Nat → Int32)) => (r, u) = F_X9_undo np th ed hh w pf) (fun u => cPost D (tyz cI cJ cS) (va_A ([(h0, .inr (9, [.ref a0, .ref b0, .int np, .int th, .int ed, .long hh])), (a0, .inl (cI, 129, .inl w)), (b0, .inl (cI, 516, .inl pf))]) sz) ([(h0, .inr (9, [.ref a0, .ref b0, .int u.1, .int u.2.1, .int ed, .long hh])), (a0, .inl (cI, 129, .inl u.2.2)), (b0, .inl (cI, 516, .inl pf))])) (va_A ([(h0, .inr (9, [.ref a0, .ref b0, .int np, .int th, .int ed, .long hh])), (a0, .inl (cI, 129, .inl w)), (b0, .inl (cI, 516, .inl pf))]) sz)) 0 0 (va_A ([(h0, .inr (9, [.ref a0, .ref b0, .int np, .int th, .int ed, .long hh])), (a0, .inl (cI, 129, .inl w)), (b0, .inl (cI, 516, .inl pf))]) sz) := by
  refine my_met (QC := fun A => (va_Qi (fun (r : Int32) (u : Int32 × Int32 × (Nat → Int32)) => (r, u) = F_X9_undo np th ed hh w pf) (fun u => cPost D (tyz cI cJ cS) A ([(h0, .inr (9, [.ref a0, .ref b0, .int u.1, .int u.2.1, .int ed, .long hh])), (a0, .inl (cI, 129, .inl u.2.2)), (b0, .inl (cI, 516, .inl pf))])) A)) (cc := cX9_undo) (maxL := 2) (ret := (some .int)) (by decide) rfl (Nat.le_of_ble_eq_true rfl) ?_
  intro p e s m below meth c ls A hx hb hml hr hts hown hlocks hname hK hP hD hS hA hG hl
  have hown : s.vm.findClass RX9 = some m.cls := hown
  have hl : lv_has ls 2 [(0, .ref h0)] := hl
  have hP : va_P D vwCl [(h0, .inr (9, [.ref a0, .ref b0, .int np, .int th, .int ed, .long hh])), (a0, .inl (cI, 129, .inl w)), (b0, .inl (cI, 516, .inl pf))] s.heap := hP
  have hD : va_D A [(h0, .inr (9, [.ref a0, .ref b0, .int np, .int th, .int ed, .long hh])), (a0, .inl (cI, 129, .inl w)), (b0, .inl (cI, 516, .inl pf))] := hD
  have hiX9 : ∀ w ∈ u_ws RX9 TX9 6, w ∈ wsX9_undo := by decide +kernel
  have hk_20 := hts (.fieldLink RX9 20 "HallCommutatorModel" "pasts" "I") (by decide +kernel)
  refine lv_aload_n hx hb dX9_undo_0 rfl (lv_at hl 0 rfl) ?_
  refine va_get (D := D) (ci := 9) (v := .int np) (C := RX9) (T := TX9) (N := 6) hx hb hts hiX9 hown hK hP 0 rfl rfl 2 (by decide) hk_20 (fun _ h9 => h9) rfl dX9_undo_1 ?_
  refine lv_if_ne (tgt := 13) hx hb dX9_undo_4 (by decide) (fun c_1 => ?_) (fun c_1 => ?_)
  · skip
    refine lv_aload_n hx hb dX9_undo_13 rfl (lv_at hl 0 rfl) ?_
    refine lv_dup hx hb dX9_undo_14 rfl ?_
    refine va_get (D := D) (ci := 9) (v := .int np) (C := RX9) (T := TX9) (N := 6) hx hb hts hiX9 hown hK hP 0 rfl rfl 2 (by decide) hk_20 (fun _ h9 => h9) rfl dX9_undo_15 ?_
    refine lv_iconst (v := 1) hx hb dX9_undo_18 (by decide) ?_
    refine lv_isub hx hb dX9_undo_19 ?_
    refine va_put (D := D) (ci := 9) (v := .int (np - (1 : Int32))) (ty := .int) (C := RX9) (T := TX9) (N := 6) hx hb hts hiX9 tyX9 tyX9_ok nmX9 hown hK hP hD hS 0 rfl rfl 2 (by decide) hk_20 (fun _ h9 => h9) rfl (by decide +kernel) rfl rfl (Nat.le_of_ble_eq_true rfl) dX9_undo_20 (fun H locs hP hD hS => ?_)
    have hP : va_P D vwCl [(h0, .inr (9, [.ref a0, .ref b0, .int (np - (1 : Int32)), .int th, .int ed, .long hh])), (a0, .inl (cI, 129, .inl w)), (b0, .inl (cI, 516, .inl pf))] H := hP
    have hD : va_D A [(h0, .inr (9, [.ref a0, .ref b0, .int (np - (1 : Int32)), .int th, .int ed, .long hh])), (a0, .inl (cI, 129, .inl w)), (b0, .inl (cI, 516, .inl pf))] := hD
    refine lv_iconst (v := 0) hx hb dX9_undo_23 (by decide) ?_
    refine lv_istore_n (lv' := [(1, .int (0 : Int32)), (0, .ref h0)]) hx hb dX9_undo_24 rfl hl (by decide) rfl (fun ls hl => ?_)
    refine lps_X9_undo l D cI cJ cS hx hb hml hown hts hK hA hG 130 h0 a0 b0 (np - (1 : Int32)) th ed hh w pf 0 _ _ _ (vp_pred hz c_1) (Nat.zero_le _) (by omega) (hP.subm [0, 1, 2] rfl) (hD.sub [0, 1, 2] rfl rfl) hS (lv_sub hl [1, 0] rfl) (fun y_2 H locs ls hw_2 hP hD hS hl => ?_)
    obtain ⟨y_2_0, y_2_1⟩ := y_2
    have hl : lv_has ls 2 [(0, .ref h0), (1, .int (nI y_2_0))] := hl
    have hP : va_P D vwCl [(h0, .inr (9, [.ref a0, .ref b0, .int (np - (1 : Int32)), .int th, .int ed, .long hh])), (a0, .inl (cI, 129, .inl y_2_1)), (b0, .inl (cI, 516, .inl pf))] H := hP
    have hD : va_D A [(h0, .inr (9, [.ref a0, .ref b0, .int (np - (1 : Int32)), .int th, .int ed, .long hh])), (a0, .inl (cI, 129, .inl y_2_1)), (b0, .inl (cI, 516, .inl pf))] := hD
    refine lv_aload_n hx hb dX9_undo_59 rfl (lv_at hl 0 rfl) ?_
    refine lv_aload_n hx hb dX9_undo_60 rfl (lv_at hl 0 rfl) ?_
    refine va_get (D := D) (ci := 9) (v := .int (np - (1 : Int32))) (C := RX9) (T := TX9) (N := 6) hx hb hts hiX9 hown hK hP 0 rfl rfl 2 (by decide) hk_20 (fun _ h9 => h9) rfl dX9_undo_61 ?_
    refine my_callV_i (As := [.int (np - (1 : Int32))]) (rest := []) (wc := [(h0, .inr (9, [.ref a0, .ref b0, .int (np - (1 : Int32)), .int th, .int ed, .long hh])), (a0, .inl (cI, 129, .inl y_2_1)), (b0, .inl (cI, 516, .inl pf))]) (wr := []) ⟨hx, hb, hml, hown, hts⟩ (met_X9_tells l D cI cJ cS h0 a0 b0 (np - (1 : Int32)) th ed hh y_2_1 pf (np - (1 : Int32)) _) (cwV 1 hts gX9_undo_X9_tells rfl rfl rfl (by decide +kernel) ⟨Nat.le_of_ble_eq_true rfl, Nat.le_of_ble_eq_true rfl⟩) hK hP hD hS hA hG [0, 1, 2] [] rfl rfl rfl rfl (by decide) 0 rfl rfl rfl hl.1 (Nat.le_of_ble_eq_true rfl) rfl dX9_undo_64 ⟨Nat.le_of_ble_eq_true rfl, Nat.le_of_ble_eq_true rfl⟩ (fun r_3 x_3_0 H locs hw_3 hP hD hS => ?_)
    have hP : va_P D vwCl [(h0, .inr (9, [.ref a0, .ref b0, .int (np - (1 : Int32)), .int x_3_0, .int ed, .long hh])), (a0, .inl (cI, 129, .inl y_2_1)), (b0, .inl (cI, 516, .inl pf))] H := hP
    have hD : va_D A [(h0, .inr (9, [.ref a0, .ref b0, .int (np - (1 : Int32)), .int x_3_0, .int ed, .long hh])), (a0, .inl (cI, 129, .inl y_2_1)), (b0, .inl (cI, 516, .inl pf))] := hD
    exact my_iret hx hb hr rfl hlocks hK hP hD hS ((np - (1 : Int32)), x_3_0, y_2_1) (by show (r_3, ((np - (1 : Int32)), x_3_0, y_2_1)) = F_X9_undo np th ed hh w pf; simp only [F_X9_undo, if_neg c_1, ← hw_2, ← hw_3]) [0, 1, 2] rfl rfl dX9_undo_67
  · skip
    refine lv_aload_n hx hb dX9_undo_7 rfl (lv_at hl 0 rfl) ?_
    refine lv_iconst (v := 1) hx hb dX9_undo_8 (by decide) ?_
    refine my_callV_i (As := [.int (1 : Int32)]) (rest := []) (wc := [(h0, .inr (9, [.ref a0, .ref b0, .int np, .int th, .int ed, .long hh])), (a0, .inl (cI, 129, .inl w)), (b0, .inl (cI, 516, .inl pf))]) (wr := []) ⟨hx, hb, hml, hown, hts⟩ (met_X9_fails l D cI cJ cS h0 a0 b0 np th ed hh w pf (1 : Int32) _) (cwV 1 hts gX9_undo_X9_fails rfl rfl rfl (by decide +kernel) ⟨Nat.le_of_ble_eq_true rfl, Nat.le_of_ble_eq_true rfl⟩) hK hP hD hS hA hG [0, 1, 2] [] rfl rfl rfl rfl (by decide) 0 rfl rfl rfl hl.1 (Nat.le_of_ble_eq_true rfl) rfl dX9_undo_9 ⟨Nat.le_of_ble_eq_true rfl, Nat.le_of_ble_eq_true rfl⟩ (fun r_4 x_4_0 H locs hw_4 hP hD hS => ?_)
    have hP : va_P D vwCl [(h0, .inr (9, [.ref a0, .ref b0, .int np, .int x_4_0, .int ed, .long hh])), (a0, .inl (cI, 129, .inl w)), (b0, .inl (cI, 516, .inl pf))] H := hP
    have hD : va_D A [(h0, .inr (9, [.ref a0, .ref b0, .int np, .int x_4_0, .int ed, .long hh])), (a0, .inl (cI, 129, .inl w)), (b0, .inl (cI, 516, .inl pf))] := hD
    exact my_iret hx hb hr rfl hlocks hK hP hD hS (np, x_4_0, w) (by show (r_4, (np, x_4_0, w)) = F_X9_undo np th ed hh w pf; simp only [F_X9_undo, if_pos c_1, ← hw_4]) [0, 1, 2] rfl rfl dX9_undo_12
def LP_X9_mixes : Nat → Int32 → Int32 → Int32 → Int64 → (Nat → Int32) → (Nat → Int32) → Int32 → Nat → (Nat) × (Int64)
  | 0, _, _, _, hh, _, _, _, i => (i, hh)
  | n + 1, np, th, ed, hh, w, pf, t, i =>
    if t < nI i then
      (i, hh)
    else
      LP_X9_mixes n np th ed (((31 : Int64) * hh) + ((w i).toInt64)) w pf t (i + 1)
set_option maxHeartbeats 4000000 in
set_option maxRecDepth 100000 in
theorem lps_X9_mixes {p : Program} (l : Launch) {e : Env} {R : Room} {s : State} {m : MethodId} {args : Array Value} {below : List Frame} {meth : Method} {c : Code} {A : Nat → Prop} {cells slots : Nat} {Q : State → Prop} (D : va_G) (cI cJ cS : ClassId) (hx : p.tables.exec = Jvm.exec) (hb : c.code = cX9_mixes) (hml : c.maxLocals = 4) (hown : s.vm.findClass RX9 = some m.cls) (hts : ∀ w ∈ wsX9_mixes, w.before args s = true) (hK : va_K D vwCl (tyz cI cJ cS) s) (hA : ∀ q, s.heap.size ≤ q → A q) (hG : gG A s s.heap) : ∀ (n : Nat) (h0 : Nat) (a0 : Nat) (b0 : Nat) (np : Int32) (th : Int32) (ed : Int32) (hh : Int64) (w : Nat → Int32) (pf : Nat → Int32) (t : Int32) (i : Nat) (H : Heap) (locs : List Loc) (ls : Array Slot), (t.toInt ≤ 128) → ((i : Int) ≤ t.toInt + 1) → (t.toInt + 1 < (i : Int) + n) → va_P D vwCl [(h0, .inr (9, [.ref a0, .ref b0, .int np, .int th, .int ed, .long hh])), (a0, .inl (cI, 129, .inl w)), (b0, .inl (cI, 516, .inl pf))] H → va_D A [(h0, .inr (9, [.ref a0, .ref b0, .int np, .int th, .int ed, .long hh])), (a0, .inl (cI, 129, .inl w)), (b0, .inl (cI, 516, .inl pf))] → va_S A s.heap H locs → lv_has ls 4 [(0, .ref h0), (2, .int t), (3, .int (nI i))] → (∀ (y : (Nat) × (Int64)) (H : Heap) (locs : List Loc) (ls : Array Slot), y = LP_X9_mixes n np th ed hh w pf t i → va_P D vwCl [(h0, .inr (9, [.ref a0, .ref b0, .int np, .int th, .int ed, .long y.2])), (a0, .inl (cI, 129, .inl w)), (b0, .inl (cI, 516, .inl pf))] H → va_D A [(h0, .inr (9, [.ref a0, .ref b0, .int np, .int th, .int ed, .long y.2])), (a0, .inl (cI, 129, .inl w)), (b0, .inl (cI, 516, .inl pf))] → va_S A s.heap H locs → lv_has ls 4 [(0, .ref h0), (2, .int t), (3, .int (nI y.1))] → W p l e R s m args below meth c H locs cells slots Q (F0 m 33 ls [])) → W p l e R s m args below meth c H locs cells slots Q (F0 m 2 ls []) := by
  have hk_7 := hts (.fieldLink RX9 7 "HallCommutatorModel" "s" "[I") (by decide +kernel)
  have hk_104 := hts (.fieldLink RX9 104 "HallCommutatorModel" "h" "J") (by decide +kernel)
  have hiX9 : ∀ w ∈ u_ws RX9 TX9 6, w ∈ wsX9_mixes := by decide +kernel
  intro n
  induction n with
  | zero =>
    intro h0 a0 b0 np th ed hh w pf t i H locs ls ht hj hm
    exact absurd hm (by omega)
  | succ n ih =>
    intro h0 a0 b0 np th ed hh w pf t i H locs ls ht hj hm hP hD hS hl kk
    refine lv_iload_n hx hb dX9_mixes_2 rfl (lv_at hl 2 rfl) ?_
    refine lv_iload_n hx hb dX9_mixes_3 rfl (lv_at hl 1 rfl) ?_
    refine lv_icmp_gt (tgt := 33) hx hb dX9_mixes_4 (by decide) (fun c_1 => ?_) (fun c_1 => ?_)
    · skip
      exact kk (i, hh) _ _ _ (by simp only [LP_X9_mixes, if_pos c_1]) (hP.subm [0, 1, 2] rfl) (hD.sub [0, 1, 2] rfl rfl) hS (lv_sub hl [0, 1, 2] rfl)
    · skip
      refine lv_aload_n hx hb dX9_mixes_7 rfl (lv_at hl 0 rfl) ?_
      refine lv_ldc2 (v := 31) hx hb hown (hts (.constantLong RX9 102 (31)) (by decide +kernel)) dX9_mixes_8 ?_
      refine lv_aload_n hx hb dX9_mixes_11 rfl (lv_at hl 0 rfl) ?_
      refine va_get (D := D) (ci := 9) (v := .long hh) (C := RX9) (T := TX9) (N := 6) hx hb hts hiX9 hown hK hP 0 rfl rfl 5 (by decide) hk_104 (fun _ h9 => h9) rfl dX9_mixes_12 ?_
      refine lv_lmul hx hb dX9_mixes_15 ?_
      refine lv_aload_n hx hb dX9_mixes_16 rfl (lv_at hl 0 rfl) ?_
      refine va_get (D := D) (ci := 9) (v := .ref a0) (C := RX9) (T := TX9) (N := 6) hx hb hts hiX9 hown hK hP 0 rfl rfl 0 (by decide) hk_7 (fun _ h9 => h9) rfl dX9_mixes_17 ?_
      refine lv_iload_n hx hb dX9_mixes_20 rfl (lv_at hl 2 rfl) ?_
      refine my_iald hx hb hK hP 1 0 rfl rfl i (rfl) (by have := nI_nlt_le (t := t) (by omega) c_1; omega) (by decide) dX9_mixes_21 ?_
      refine lv_i2l hx hb dX9_mixes_22 rfl ?_
      refine lv_ladd hx hb dX9_mixes_23 ?_
      refine va_put (D := D) (ci := 9) (v := .long (((31 : Int64) * hh) + ((w i).toInt64))) (ty := .long) (C := RX9) (T := TX9) (N := 6) hx hb hts hiX9 tyX9 tyX9_ok nmX9 hown hK hP hD hS 0 rfl rfl 5 (by decide) hk_104 (fun _ h9 => h9) rfl (by decide +kernel) rfl rfl (Nat.le_of_ble_eq_true rfl) dX9_mixes_24 (fun H locs hP hD hS => ?_)
      have hP : va_P D vwCl [(h0, .inr (9, [.ref a0, .ref b0, .int np, .int th, .int ed, .long (((31 : Int64) * hh) + ((w i).toInt64))])), (a0, .inl (cI, 129, .inl w)), (b0, .inl (cI, 516, .inl pf))] H := hP
      have hD : va_D A [(h0, .inr (9, [.ref a0, .ref b0, .int np, .int th, .int ed, .long (((31 : Int64) * hh) + ((w i).toInt64))])), (a0, .inl (cI, 129, .inl w)), (b0, .inl (cI, 516, .inl pf))] := hD
      refine lv_iinc (v := nI (i + 1)) (lv' := [(3, .int (nI (i + 1))), (0, .ref h0), (2, .int t)]) hx hb dX9_mixes_27 hl (k := 2) rfl (nI_1 _) (by decide) rfl (fun ls hl => ?_)
      refine lv_goto (tgt := 2) hx hb dX9_mixes_30 (by decide) ?_
      exact ih h0 a0 b0 np th ed (((31 : Int64) * hh) + ((w i).toInt64)) w pf t (i + 1) _ _ _ (ht) (by have := nI_nlt_le (t := t) (by omega) c_1; omega) (by omega) (hP.subm [0, 1, 2] rfl) (hD.sub [0, 1, 2] rfl rfl) hS (lv_sub hl [1, 2, 0] rfl) (fun y H locs ls hy => kk y H locs ls (by rw [hy]; simp only [LP_X9_mixes, if_neg c_1]))
def F_X9_mixes (np : Int32) (th : Int32) (ed : Int32) (hh : Int64) (w : Nat → Int32) (pf : Nat → Int32) (j : Nat) (t : Int32) : Int64 :=
  let q1 := LP_X9_mixes 130 np th ed hh w pf t j
  (q1.2)
set_option maxHeartbeats 4000000 in
set_option maxRecDepth 100000 in
theorem met_X9_mixes (l : Launch) (D : va_G) (cI cJ cS : ClassId) (h0 : Nat) (a0 : Nat) (b0 : Nat) (np : Int32) (th : Int32) (ed : Int32) (hh : Int64) (w : Nat → Int32) (pf : Nat → Int32) (j : Nat) (t : Int32) (ht : t.toInt ≤ 128) (hj : (j : Int) ≤ t.toInt + 1) : ∀ sz : Nat, Met l yX9_mixes wsX9_mixes ({ frames := 0, cells := 0, slots := 0, locals := 0 } : Room) (va_Pc [.ref h0, .int (nI j), .int t] (cPre D (tyz cI cJ cS) ([(h0, .inr (9, [.ref a0, .ref b0, .int np, .int th, .int ed, .long hh])), (a0, .inl (cI, 129, .inl w)), (b0, .inl (cI, 516, .inl pf))]) sz)) (va_Qv (fun (u : Int64) => u = F_X9_mixes np th ed hh w pf j t) (fun u => cPost D (tyz cI cJ cS) (va_A ([(h0, .inr (9, [.ref a0, .ref b0, .int np, .int th, .int ed, .long hh])), (a0, .inl (cI, 129, .inl w)), (b0, .inl (cI, 516, .inl pf))]) sz) ([(h0, .inr (9, [.ref a0, .ref b0, .int np, .int th, .int ed, .long u])), (a0, .inl (cI, 129, .inl w)), (b0, .inl (cI, 516, .inl pf))])) (va_A ([(h0, .inr (9, [.ref a0, .ref b0, .int np, .int th, .int ed, .long hh])), (a0, .inl (cI, 129, .inl w)), (b0, .inl (cI, 516, .inl pf))]) sz)) 0 0 (va_A ([(h0, .inr (9, [.ref a0, .ref b0, .int np, .int th, .int ed, .long hh])), (a0, .inl (cI, 129, .inl w)), (b0, .inl (cI, 516, .inl pf))]) sz) := by
  refine my_met (QC := fun A => (va_Qv (fun (u : Int64) => u = F_X9_mixes np th ed hh w pf j t) (fun u => cPost D (tyz cI cJ cS) A ([(h0, .inr (9, [.ref a0, .ref b0, .int np, .int th, .int ed, .long u])), (a0, .inl (cI, 129, .inl w)), (b0, .inl (cI, 516, .inl pf))])) A)) (cc := cX9_mixes) (maxL := 4) (ret := none) (by decide) rfl (Nat.le_of_ble_eq_true rfl) ?_
  intro p e s m below meth c ls A hx hb hml hr hts hown hlocks hname hK hP hD hS hA hG hl
  have hown : s.vm.findClass RX9 = some m.cls := hown
  have hl : lv_has ls 4 [(0, .ref h0), (1, .int (nI j)), (2, .int t)] := hl
  have hP : va_P D vwCl [(h0, .inr (9, [.ref a0, .ref b0, .int np, .int th, .int ed, .long hh])), (a0, .inl (cI, 129, .inl w)), (b0, .inl (cI, 516, .inl pf))] s.heap := hP
  have hD : va_D A [(h0, .inr (9, [.ref a0, .ref b0, .int np, .int th, .int ed, .long hh])), (a0, .inl (cI, 129, .inl w)), (b0, .inl (cI, 516, .inl pf))] := hD
  refine lv_iload_n hx hb dX9_mixes_0 rfl (lv_at hl 1 rfl) ?_
  refine lv_istore_n (lv' := [(3, .int (nI j)), (0, .ref h0), (1, .int (nI j)), (2, .int t)]) hx hb dX9_mixes_1 rfl hl (by decide) rfl (fun ls hl => ?_)
  refine lps_X9_mixes l D cI cJ cS hx hb hml hown hts hK hA hG 130 h0 a0 b0 np th ed hh w pf t j _ _ _ (ht) (hj) (by omega) (hP.subm [0, 1, 2] rfl) (hD.sub [0, 1, 2] rfl rfl) hS (lv_sub hl [1, 3, 0] rfl) (fun y_1 H locs ls hw_1 hP hD hS hl => ?_)
  obtain ⟨y_1_0, y_1_1⟩ := y_1
  have hl : lv_has ls 4 [(0, .ref h0), (2, .int t), (3, .int (nI y_1_0))] := hl
  have hP : va_P D vwCl [(h0, .inr (9, [.ref a0, .ref b0, .int np, .int th, .int ed, .long y_1_1])), (a0, .inl (cI, 129, .inl w)), (b0, .inl (cI, 516, .inl pf))] H := hP
  have hD : va_D A [(h0, .inr (9, [.ref a0, .ref b0, .int np, .int th, .int ed, .long y_1_1])), (a0, .inl (cI, 129, .inl w)), (b0, .inl (cI, 516, .inl pf))] := hD
  exact my_vret hx hb hr hlocks hK hP hD hS (y_1_1) (by show (y_1_1) = F_X9_mixes np th ed hh w pf j t; simp only [F_X9_mixes, ← hw_1]) [0, 1, 2] rfl rfl dX9_mixes_33
def F_X9_digest (np : Int32) (th : Int32) (ed : Int32) (hh : Int64) (w : Nat → Int32) (pf : Nat → Int32) : Int64 × Int32 × Int64 :=
  let q1 := F_X9_mixes np (0 : Int32) ed (2843 : Int64) w pf 0 (9 : Int32)
  let q2 := F_X9_mixes np (0 : Int32) ed q1 w pf 11 (15 : Int32)
  let q3 := F_X9_mixes np (0 : Int32) ed q2 w pf 22 (22 : Int32)
  let q4 := F_X9_mixes np (0 : Int32) ed q3 w pf 25 (25 : Int32)
  let q5 := F_X9_mixes np (0 : Int32) ed q4 w pf 23 (23 : Int32)
  let q6 := F_X9_mixes np (0 : Int32) ed q5 w pf 26 (26 : Int32)
  let q7 := F_X9_mixes np (0 : Int32) ed q6 w pf 24 (24 : Int32)
  let q8 := F_X9_mixes np (0 : Int32) ed q7 w pf 27 (27 : Int32)
  let q9 := F_X9_mixes np (0 : Int32) ed q8 w pf 28 (32 : Int32)
  let q10 := F_X9_mixes np (0 : Int32) ed q9 w pf 35 (35 : Int32)
  let q11 := F_X9_mixes np (0 : Int32) ed q10 w pf 36 (nI ((36 + (tn (w 35))) - 1))
  let q12 := F_X9_mixes np (0 : Int32) ed q11 w pf 42 (48 : Int32)
  let q13 := F_X9_mixes np (0 : Int32) ed q12 w pf 49 (nI ((49 + (2 * (tn (w 48)))) - 1))
  (((31 : Int64) * q13) + np.toInt64, ((0 : Int32), q13))
set_option maxHeartbeats 4000000 in
set_option maxRecDepth 100000 in
theorem met_X9_digest (l : Launch) (D : va_G) (cI cJ cS : ClassId) (h0 : Nat) (a0 : Nat) (b0 : Nat) (np : Int32) (th : Int32) (ed : Int32) (hh : Int64) (w : Nat → Int32) (pf : Nat → Int32) (hz : vp_in (w 35) 7) (hv : vp_in (w 48) 41) : ∀ sz : Nat, Met l yX9_digest wsX9_digest ({ frames := 1, cells := 0, slots := 0, locals := 23 } : Room) (va_Pc [.ref h0] (cPre D (tyz cI cJ cS) ([(h0, .inr (9, [.ref a0, .ref b0, .int np, .int th, .int ed, .long hh])), (a0, .inl (cI, 129, .inl w)), (b0, .inl (cI, 516, .inl pf))]) sz)) (va_Ql (fun (r : Int64) (u : Int32 × Int64) => (r, u) = F_X9_digest np th ed hh w pf) (fun u => cPost D (tyz cI cJ cS) (va_A ([(h0, .inr (9, [.ref a0, .ref b0, .int np, .int th, .int ed, .long hh])), (a0, .inl (cI, 129, .inl w)), (b0, .inl (cI, 516, .inl pf))]) sz) ([(h0, .inr (9, [.ref a0, .ref b0, .int np, .int u.1, .int ed, .long u.2])), (a0, .inl (cI, 129, .inl w)), (b0, .inl (cI, 516, .inl pf))])) (va_A ([(h0, .inr (9, [.ref a0, .ref b0, .int np, .int th, .int ed, .long hh])), (a0, .inl (cI, 129, .inl w)), (b0, .inl (cI, 516, .inl pf))]) sz)) 0 0 (va_A ([(h0, .inr (9, [.ref a0, .ref b0, .int np, .int th, .int ed, .long hh])), (a0, .inl (cI, 129, .inl w)), (b0, .inl (cI, 516, .inl pf))]) sz) := by
  refine my_met (QC := fun A => (va_Ql (fun (r : Int64) (u : Int32 × Int64) => (r, u) = F_X9_digest np th ed hh w pf) (fun u => cPost D (tyz cI cJ cS) A ([(h0, .inr (9, [.ref a0, .ref b0, .int np, .int u.1, .int ed, .long u.2])), (a0, .inl (cI, 129, .inl w)), (b0, .inl (cI, 516, .inl pf))])) A)) (cc := cX9_digest) (maxL := 2) (ret := (some .long)) (by decide) rfl (Nat.le_of_ble_eq_true rfl) ?_
  intro p e s m below meth c ls A hx hb hml hr hts hown hlocks hname hK hP hD hS hA hG hl
  have hown : s.vm.findClass RX9 = some m.cls := hown
  have hl : lv_has ls 2 [(0, .ref h0)] := hl
  have hP : va_P D vwCl [(h0, .inr (9, [.ref a0, .ref b0, .int np, .int th, .int ed, .long hh])), (a0, .inl (cI, 129, .inl w)), (b0, .inl (cI, 516, .inl pf))] s.heap := hP
  have hD : va_D A [(h0, .inr (9, [.ref a0, .ref b0, .int np, .int th, .int ed, .long hh])), (a0, .inl (cI, 129, .inl w)), (b0, .inl (cI, 516, .inl pf))] := hD
  have hiX9 : ∀ w ∈ u_ws RX9 TX9 6, w ∈ wsX9_digest := by decide +kernel
  have hk_104 := hts (.fieldLink RX9 104 "HallCommutatorModel" "h" "J") (by decide +kernel)
  have hk_16 := hts (.fieldLink RX9 16 "HallCommutatorModel" "thrown" "I") (by decide +kernel)
  have hk_20 := hts (.fieldLink RX9 20 "HallCommutatorModel" "pasts" "I") (by decide +kernel)
  have hk_7 := hts (.fieldLink RX9 7 "HallCommutatorModel" "s" "[I") (by decide +kernel)
  refine lv_aload_n hx hb dX9_digest_0 rfl (lv_at hl 0 rfl) ?_
  refine lv_iconst (v := 0) hx hb dX9_digest_1 (by decide) ?_
  refine va_put (D := D) (ci := 9) (v := .int (0 : Int32)) (ty := .int) (C := RX9) (T := TX9) (N := 6) hx hb hts hiX9 tyX9 tyX9_ok nmX9 hown hK hP hD hS 0 rfl rfl 3 (by decide) hk_16 (fun _ h9 => h9) rfl (by decide +kernel) rfl rfl (Nat.le_of_ble_eq_true rfl) dX9_digest_2 (fun H locs hP hD hS => ?_)
  have hP : va_P D vwCl [(h0, .inr (9, [.ref a0, .ref b0, .int np, .int (0 : Int32), .int ed, .long hh])), (a0, .inl (cI, 129, .inl w)), (b0, .inl (cI, 516, .inl pf))] H := hP
  have hD : va_D A [(h0, .inr (9, [.ref a0, .ref b0, .int np, .int (0 : Int32), .int ed, .long hh])), (a0, .inl (cI, 129, .inl w)), (b0, .inl (cI, 516, .inl pf))] := hD
  refine lv_aload_n hx hb dX9_digest_5 rfl (lv_at hl 0 rfl) ?_
  refine lv_ldc2 (v := 2843) hx hb hown (hts (.constantLong RX9 108 (2843)) (by decide +kernel)) dX9_digest_6 ?_
  refine va_put (D := D) (ci := 9) (v := .long (2843 : Int64)) (ty := .long) (C := RX9) (T := TX9) (N := 6) hx hb hts hiX9 tyX9 tyX9_ok nmX9 hown hK hP hD hS 0 rfl rfl 5 (by decide) hk_104 (fun _ h9 => h9) rfl (by decide +kernel) rfl rfl (Nat.le_of_ble_eq_true rfl) dX9_digest_9 (fun H locs hP hD hS => ?_)
  have hP : va_P D vwCl [(h0, .inr (9, [.ref a0, .ref b0, .int np, .int (0 : Int32), .int ed, .long (2843 : Int64)])), (a0, .inl (cI, 129, .inl w)), (b0, .inl (cI, 516, .inl pf))] H := hP
  have hD : va_D A [(h0, .inr (9, [.ref a0, .ref b0, .int np, .int (0 : Int32), .int ed, .long (2843 : Int64)])), (a0, .inl (cI, 129, .inl w)), (b0, .inl (cI, 516, .inl pf))] := hD
  refine lv_aload_n hx hb dX9_digest_12 rfl (lv_at hl 0 rfl) ?_
  refine lv_iconst (v := 0) hx hb dX9_digest_13 (by decide) ?_
  refine lv_bipush (v := 9) hx hb dX9_digest_14 (by decide) ?_
  refine my_callV_v (As := [.int (nI 0), .int (9 : Int32)]) (rest := []) (wc := [(h0, .inr (9, [.ref a0, .ref b0, .int np, .int (0 : Int32), .int ed, .long (2843 : Int64)])), (a0, .inl (cI, 129, .inl w)), (b0, .inl (cI, 516, .inl pf))]) (wr := []) ⟨hx, hb, hml, hown, hts⟩ (met_X9_mixes l D cI cJ cS h0 a0 b0 np (0 : Int32) ed (2843 : Int64) w pf 0 (9 : Int32) (by decide) (by decide) _) (cwV 2 hts gX9_digest_X9_mixes rfl rfl rfl (by decide +kernel) ⟨Nat.le_of_ble_eq_true rfl, Nat.le_of_ble_eq_true rfl⟩) hK hP hD hS hA hG [0, 1, 2] [] rfl rfl rfl rfl (by decide) 0 rfl rfl rfl hl.1 (Nat.le_of_ble_eq_true rfl) rfl dX9_digest_16 ⟨Nat.le_of_ble_eq_true rfl, Nat.le_of_ble_eq_true rfl⟩ (fun x_1_0 H locs hw_1 hP hD hS => ?_)
  have hP : va_P D vwCl [(h0, .inr (9, [.ref a0, .ref b0, .int np, .int (0 : Int32), .int ed, .long x_1_0])), (a0, .inl (cI, 129, .inl w)), (b0, .inl (cI, 516, .inl pf))] H := hP
  have hD : va_D A [(h0, .inr (9, [.ref a0, .ref b0, .int np, .int (0 : Int32), .int ed, .long x_1_0])), (a0, .inl (cI, 129, .inl w)), (b0, .inl (cI, 516, .inl pf))] := hD
  refine lv_aload_n hx hb dX9_digest_19 rfl (lv_at hl 0 rfl) ?_
  refine lv_bipush (v := 11) hx hb dX9_digest_20 (by decide) ?_
  refine lv_bipush (v := 15) hx hb dX9_digest_22 (by decide) ?_
  refine my_callV_v (As := [.int (nI 11), .int (15 : Int32)]) (rest := []) (wc := [(h0, .inr (9, [.ref a0, .ref b0, .int np, .int (0 : Int32), .int ed, .long x_1_0])), (a0, .inl (cI, 129, .inl w)), (b0, .inl (cI, 516, .inl pf))]) (wr := []) ⟨hx, hb, hml, hown, hts⟩ (met_X9_mixes l D cI cJ cS h0 a0 b0 np (0 : Int32) ed x_1_0 w pf 11 (15 : Int32) (by decide) (by decide) _) (cwV 2 hts gX9_digest_X9_mixes rfl rfl rfl (by decide +kernel) ⟨Nat.le_of_ble_eq_true rfl, Nat.le_of_ble_eq_true rfl⟩) hK hP hD hS hA hG [0, 1, 2] [] rfl rfl rfl rfl (by decide) 0 rfl rfl rfl hl.1 (Nat.le_of_ble_eq_true rfl) rfl dX9_digest_24 ⟨Nat.le_of_ble_eq_true rfl, Nat.le_of_ble_eq_true rfl⟩ (fun x_2_0 H locs hw_2 hP hD hS => ?_)
  have hP : va_P D vwCl [(h0, .inr (9, [.ref a0, .ref b0, .int np, .int (0 : Int32), .int ed, .long x_2_0])), (a0, .inl (cI, 129, .inl w)), (b0, .inl (cI, 516, .inl pf))] H := hP
  have hD : va_D A [(h0, .inr (9, [.ref a0, .ref b0, .int np, .int (0 : Int32), .int ed, .long x_2_0])), (a0, .inl (cI, 129, .inl w)), (b0, .inl (cI, 516, .inl pf))] := hD
  refine lv_iconst (v := 0) hx hb dX9_digest_27 (by decide) ?_
  refine lv_istore_n (lv' := [(1, .int (0 : Int32)), (0, .ref h0)]) hx hb dX9_digest_28 rfl hl (by decide) rfl (fun ls hl => ?_)
  refine lv_iload_n hx hb dX9_digest_29 rfl (lv_at hl 0 rfl) ?_
  refine lv_iconst (v := 3) hx hb dX9_digest_30 (by decide) ?_
  refine lv_icmp_ge (tgt := 64) hx hb dX9_digest_31 (by decide) (fun c9 => absurd c9 (by decide)) (fun _ => ?_)
  refine lv_aload_n hx hb dX9_digest_34 rfl (lv_at hl 1 rfl) ?_
  refine lv_bipush (v := 22) hx hb dX9_digest_35 (by decide) ?_
  refine lv_iload_n hx hb dX9_digest_37 rfl (lv_at hl 0 rfl) ?_
  refine lv_iadd hx hb dX9_digest_38 ?_
  refine W.eq (g2 := F0 m 39 ls [.int (22 : Int32), .ref h0]) rfl ?_
  refine lv_bipush (v := 22) hx hb dX9_digest_39 (by decide) ?_
  refine lv_iload_n hx hb dX9_digest_41 rfl (lv_at hl 0 rfl) ?_
  refine lv_iadd hx hb dX9_digest_42 ?_
  refine W.eq (g2 := F0 m 43 ls [.int (22 : Int32), .int (22 : Int32), .ref h0]) rfl ?_
  refine my_callV_v (As := [.int (nI 22), .int (22 : Int32)]) (rest := []) (wc := [(h0, .inr (9, [.ref a0, .ref b0, .int np, .int (0 : Int32), .int ed, .long x_2_0])), (a0, .inl (cI, 129, .inl w)), (b0, .inl (cI, 516, .inl pf))]) (wr := []) ⟨hx, hb, hml, hown, hts⟩ (met_X9_mixes l D cI cJ cS h0 a0 b0 np (0 : Int32) ed x_2_0 w pf 22 (22 : Int32) (by decide) (by decide) _) (cwV 2 hts gX9_digest_X9_mixes rfl rfl rfl (by decide +kernel) ⟨Nat.le_of_ble_eq_true rfl, Nat.le_of_ble_eq_true rfl⟩) hK hP hD hS hA hG [0, 1, 2] [] rfl rfl rfl rfl (by decide) 0 rfl rfl rfl hl.1 (Nat.le_of_ble_eq_true rfl) rfl dX9_digest_43 ⟨Nat.le_of_ble_eq_true rfl, Nat.le_of_ble_eq_true rfl⟩ (fun x_3_0 H locs hw_3 hP hD hS => ?_)
  have hP : va_P D vwCl [(h0, .inr (9, [.ref a0, .ref b0, .int np, .int (0 : Int32), .int ed, .long x_3_0])), (a0, .inl (cI, 129, .inl w)), (b0, .inl (cI, 516, .inl pf))] H := hP
  have hD : va_D A [(h0, .inr (9, [.ref a0, .ref b0, .int np, .int (0 : Int32), .int ed, .long x_3_0])), (a0, .inl (cI, 129, .inl w)), (b0, .inl (cI, 516, .inl pf))] := hD
  refine lv_aload_n hx hb dX9_digest_46 rfl (lv_at hl 1 rfl) ?_
  refine lv_bipush (v := 25) hx hb dX9_digest_47 (by decide) ?_
  refine lv_iload_n hx hb dX9_digest_49 rfl (lv_at hl 0 rfl) ?_
  refine lv_iadd hx hb dX9_digest_50 ?_
  refine W.eq (g2 := F0 m 51 ls [.int (25 : Int32), .ref h0]) rfl ?_
  refine lv_bipush (v := 25) hx hb dX9_digest_51 (by decide) ?_
  refine lv_iload_n hx hb dX9_digest_53 rfl (lv_at hl 0 rfl) ?_
  refine lv_iadd hx hb dX9_digest_54 ?_
  refine W.eq (g2 := F0 m 55 ls [.int (25 : Int32), .int (25 : Int32), .ref h0]) rfl ?_
  refine my_callV_v (As := [.int (nI 25), .int (25 : Int32)]) (rest := []) (wc := [(h0, .inr (9, [.ref a0, .ref b0, .int np, .int (0 : Int32), .int ed, .long x_3_0])), (a0, .inl (cI, 129, .inl w)), (b0, .inl (cI, 516, .inl pf))]) (wr := []) ⟨hx, hb, hml, hown, hts⟩ (met_X9_mixes l D cI cJ cS h0 a0 b0 np (0 : Int32) ed x_3_0 w pf 25 (25 : Int32) (by decide) (by decide) _) (cwV 2 hts gX9_digest_X9_mixes rfl rfl rfl (by decide +kernel) ⟨Nat.le_of_ble_eq_true rfl, Nat.le_of_ble_eq_true rfl⟩) hK hP hD hS hA hG [0, 1, 2] [] rfl rfl rfl rfl (by decide) 0 rfl rfl rfl hl.1 (Nat.le_of_ble_eq_true rfl) rfl dX9_digest_55 ⟨Nat.le_of_ble_eq_true rfl, Nat.le_of_ble_eq_true rfl⟩ (fun x_4_0 H locs hw_4 hP hD hS => ?_)
  have hP : va_P D vwCl [(h0, .inr (9, [.ref a0, .ref b0, .int np, .int (0 : Int32), .int ed, .long x_4_0])), (a0, .inl (cI, 129, .inl w)), (b0, .inl (cI, 516, .inl pf))] H := hP
  have hD : va_D A [(h0, .inr (9, [.ref a0, .ref b0, .int np, .int (0 : Int32), .int ed, .long x_4_0])), (a0, .inl (cI, 129, .inl w)), (b0, .inl (cI, 516, .inl pf))] := hD
  refine lv_iinc (v := (1 : Int32)) (lv' := [(1, .int (1 : Int32)), (0, .ref h0)]) hx hb dX9_digest_58 hl (k := 0) rfl (by decide) (by decide) rfl (fun ls hl => ?_)
  refine lv_goto (tgt := 29) hx hb dX9_digest_61 (by decide) ?_
  refine lv_iload_n hx hb dX9_digest_29 rfl (lv_at hl 0 rfl) ?_
  refine lv_iconst (v := 3) hx hb dX9_digest_30 (by decide) ?_
  refine lv_icmp_ge (tgt := 64) hx hb dX9_digest_31 (by decide) (fun c9 => absurd c9 (by decide)) (fun _ => ?_)
  refine lv_aload_n hx hb dX9_digest_34 rfl (lv_at hl 1 rfl) ?_
  refine lv_bipush (v := 22) hx hb dX9_digest_35 (by decide) ?_
  refine lv_iload_n hx hb dX9_digest_37 rfl (lv_at hl 0 rfl) ?_
  refine lv_iadd hx hb dX9_digest_38 ?_
  refine W.eq (g2 := F0 m 39 ls [.int (23 : Int32), .ref h0]) rfl ?_
  refine lv_bipush (v := 22) hx hb dX9_digest_39 (by decide) ?_
  refine lv_iload_n hx hb dX9_digest_41 rfl (lv_at hl 0 rfl) ?_
  refine lv_iadd hx hb dX9_digest_42 ?_
  refine W.eq (g2 := F0 m 43 ls [.int (23 : Int32), .int (23 : Int32), .ref h0]) rfl ?_
  refine my_callV_v (As := [.int (nI 23), .int (23 : Int32)]) (rest := []) (wc := [(h0, .inr (9, [.ref a0, .ref b0, .int np, .int (0 : Int32), .int ed, .long x_4_0])), (a0, .inl (cI, 129, .inl w)), (b0, .inl (cI, 516, .inl pf))]) (wr := []) ⟨hx, hb, hml, hown, hts⟩ (met_X9_mixes l D cI cJ cS h0 a0 b0 np (0 : Int32) ed x_4_0 w pf 23 (23 : Int32) (by decide) (by decide) _) (cwV 2 hts gX9_digest_X9_mixes rfl rfl rfl (by decide +kernel) ⟨Nat.le_of_ble_eq_true rfl, Nat.le_of_ble_eq_true rfl⟩) hK hP hD hS hA hG [0, 1, 2] [] rfl rfl rfl rfl (by decide) 0 rfl rfl rfl hl.1 (Nat.le_of_ble_eq_true rfl) rfl dX9_digest_43 ⟨Nat.le_of_ble_eq_true rfl, Nat.le_of_ble_eq_true rfl⟩ (fun x_5_0 H locs hw_5 hP hD hS => ?_)
  have hP : va_P D vwCl [(h0, .inr (9, [.ref a0, .ref b0, .int np, .int (0 : Int32), .int ed, .long x_5_0])), (a0, .inl (cI, 129, .inl w)), (b0, .inl (cI, 516, .inl pf))] H := hP
  have hD : va_D A [(h0, .inr (9, [.ref a0, .ref b0, .int np, .int (0 : Int32), .int ed, .long x_5_0])), (a0, .inl (cI, 129, .inl w)), (b0, .inl (cI, 516, .inl pf))] := hD
  refine lv_aload_n hx hb dX9_digest_46 rfl (lv_at hl 1 rfl) ?_
  refine lv_bipush (v := 25) hx hb dX9_digest_47 (by decide) ?_
  refine lv_iload_n hx hb dX9_digest_49 rfl (lv_at hl 0 rfl) ?_
  refine lv_iadd hx hb dX9_digest_50 ?_
  refine W.eq (g2 := F0 m 51 ls [.int (26 : Int32), .ref h0]) rfl ?_
  refine lv_bipush (v := 25) hx hb dX9_digest_51 (by decide) ?_
  refine lv_iload_n hx hb dX9_digest_53 rfl (lv_at hl 0 rfl) ?_
  refine lv_iadd hx hb dX9_digest_54 ?_
  refine W.eq (g2 := F0 m 55 ls [.int (26 : Int32), .int (26 : Int32), .ref h0]) rfl ?_
  refine my_callV_v (As := [.int (nI 26), .int (26 : Int32)]) (rest := []) (wc := [(h0, .inr (9, [.ref a0, .ref b0, .int np, .int (0 : Int32), .int ed, .long x_5_0])), (a0, .inl (cI, 129, .inl w)), (b0, .inl (cI, 516, .inl pf))]) (wr := []) ⟨hx, hb, hml, hown, hts⟩ (met_X9_mixes l D cI cJ cS h0 a0 b0 np (0 : Int32) ed x_5_0 w pf 26 (26 : Int32) (by decide) (by decide) _) (cwV 2 hts gX9_digest_X9_mixes rfl rfl rfl (by decide +kernel) ⟨Nat.le_of_ble_eq_true rfl, Nat.le_of_ble_eq_true rfl⟩) hK hP hD hS hA hG [0, 1, 2] [] rfl rfl rfl rfl (by decide) 0 rfl rfl rfl hl.1 (Nat.le_of_ble_eq_true rfl) rfl dX9_digest_55 ⟨Nat.le_of_ble_eq_true rfl, Nat.le_of_ble_eq_true rfl⟩ (fun x_6_0 H locs hw_6 hP hD hS => ?_)
  have hP : va_P D vwCl [(h0, .inr (9, [.ref a0, .ref b0, .int np, .int (0 : Int32), .int ed, .long x_6_0])), (a0, .inl (cI, 129, .inl w)), (b0, .inl (cI, 516, .inl pf))] H := hP
  have hD : va_D A [(h0, .inr (9, [.ref a0, .ref b0, .int np, .int (0 : Int32), .int ed, .long x_6_0])), (a0, .inl (cI, 129, .inl w)), (b0, .inl (cI, 516, .inl pf))] := hD
  refine lv_iinc (v := (2 : Int32)) (lv' := [(1, .int (2 : Int32)), (0, .ref h0)]) hx hb dX9_digest_58 hl (k := 0) rfl (by decide) (by decide) rfl (fun ls hl => ?_)
  refine lv_goto (tgt := 29) hx hb dX9_digest_61 (by decide) ?_
  refine lv_iload_n hx hb dX9_digest_29 rfl (lv_at hl 0 rfl) ?_
  refine lv_iconst (v := 3) hx hb dX9_digest_30 (by decide) ?_
  refine lv_icmp_ge (tgt := 64) hx hb dX9_digest_31 (by decide) (fun c9 => absurd c9 (by decide)) (fun _ => ?_)
  refine lv_aload_n hx hb dX9_digest_34 rfl (lv_at hl 1 rfl) ?_
  refine lv_bipush (v := 22) hx hb dX9_digest_35 (by decide) ?_
  refine lv_iload_n hx hb dX9_digest_37 rfl (lv_at hl 0 rfl) ?_
  refine lv_iadd hx hb dX9_digest_38 ?_
  refine W.eq (g2 := F0 m 39 ls [.int (24 : Int32), .ref h0]) rfl ?_
  refine lv_bipush (v := 22) hx hb dX9_digest_39 (by decide) ?_
  refine lv_iload_n hx hb dX9_digest_41 rfl (lv_at hl 0 rfl) ?_
  refine lv_iadd hx hb dX9_digest_42 ?_
  refine W.eq (g2 := F0 m 43 ls [.int (24 : Int32), .int (24 : Int32), .ref h0]) rfl ?_
  refine my_callV_v (As := [.int (nI 24), .int (24 : Int32)]) (rest := []) (wc := [(h0, .inr (9, [.ref a0, .ref b0, .int np, .int (0 : Int32), .int ed, .long x_6_0])), (a0, .inl (cI, 129, .inl w)), (b0, .inl (cI, 516, .inl pf))]) (wr := []) ⟨hx, hb, hml, hown, hts⟩ (met_X9_mixes l D cI cJ cS h0 a0 b0 np (0 : Int32) ed x_6_0 w pf 24 (24 : Int32) (by decide) (by decide) _) (cwV 2 hts gX9_digest_X9_mixes rfl rfl rfl (by decide +kernel) ⟨Nat.le_of_ble_eq_true rfl, Nat.le_of_ble_eq_true rfl⟩) hK hP hD hS hA hG [0, 1, 2] [] rfl rfl rfl rfl (by decide) 0 rfl rfl rfl hl.1 (Nat.le_of_ble_eq_true rfl) rfl dX9_digest_43 ⟨Nat.le_of_ble_eq_true rfl, Nat.le_of_ble_eq_true rfl⟩ (fun x_7_0 H locs hw_7 hP hD hS => ?_)
  have hP : va_P D vwCl [(h0, .inr (9, [.ref a0, .ref b0, .int np, .int (0 : Int32), .int ed, .long x_7_0])), (a0, .inl (cI, 129, .inl w)), (b0, .inl (cI, 516, .inl pf))] H := hP
  have hD : va_D A [(h0, .inr (9, [.ref a0, .ref b0, .int np, .int (0 : Int32), .int ed, .long x_7_0])), (a0, .inl (cI, 129, .inl w)), (b0, .inl (cI, 516, .inl pf))] := hD
  refine lv_aload_n hx hb dX9_digest_46 rfl (lv_at hl 1 rfl) ?_
  refine lv_bipush (v := 25) hx hb dX9_digest_47 (by decide) ?_
  refine lv_iload_n hx hb dX9_digest_49 rfl (lv_at hl 0 rfl) ?_
  refine lv_iadd hx hb dX9_digest_50 ?_
  refine W.eq (g2 := F0 m 51 ls [.int (27 : Int32), .ref h0]) rfl ?_
  refine lv_bipush (v := 25) hx hb dX9_digest_51 (by decide) ?_
  refine lv_iload_n hx hb dX9_digest_53 rfl (lv_at hl 0 rfl) ?_
  refine lv_iadd hx hb dX9_digest_54 ?_
  refine W.eq (g2 := F0 m 55 ls [.int (27 : Int32), .int (27 : Int32), .ref h0]) rfl ?_
  refine my_callV_v (As := [.int (nI 27), .int (27 : Int32)]) (rest := []) (wc := [(h0, .inr (9, [.ref a0, .ref b0, .int np, .int (0 : Int32), .int ed, .long x_7_0])), (a0, .inl (cI, 129, .inl w)), (b0, .inl (cI, 516, .inl pf))]) (wr := []) ⟨hx, hb, hml, hown, hts⟩ (met_X9_mixes l D cI cJ cS h0 a0 b0 np (0 : Int32) ed x_7_0 w pf 27 (27 : Int32) (by decide) (by decide) _) (cwV 2 hts gX9_digest_X9_mixes rfl rfl rfl (by decide +kernel) ⟨Nat.le_of_ble_eq_true rfl, Nat.le_of_ble_eq_true rfl⟩) hK hP hD hS hA hG [0, 1, 2] [] rfl rfl rfl rfl (by decide) 0 rfl rfl rfl hl.1 (Nat.le_of_ble_eq_true rfl) rfl dX9_digest_55 ⟨Nat.le_of_ble_eq_true rfl, Nat.le_of_ble_eq_true rfl⟩ (fun x_8_0 H locs hw_8 hP hD hS => ?_)
  have hP : va_P D vwCl [(h0, .inr (9, [.ref a0, .ref b0, .int np, .int (0 : Int32), .int ed, .long x_8_0])), (a0, .inl (cI, 129, .inl w)), (b0, .inl (cI, 516, .inl pf))] H := hP
  have hD : va_D A [(h0, .inr (9, [.ref a0, .ref b0, .int np, .int (0 : Int32), .int ed, .long x_8_0])), (a0, .inl (cI, 129, .inl w)), (b0, .inl (cI, 516, .inl pf))] := hD
  refine lv_iinc (v := (3 : Int32)) (lv' := [(1, .int (3 : Int32)), (0, .ref h0)]) hx hb dX9_digest_58 hl (k := 0) rfl (by decide) (by decide) rfl (fun ls hl => ?_)
  refine lv_goto (tgt := 29) hx hb dX9_digest_61 (by decide) ?_
  refine lv_iload_n hx hb dX9_digest_29 rfl (lv_at hl 0 rfl) ?_
  refine lv_iconst (v := 3) hx hb dX9_digest_30 (by decide) ?_
  refine lv_icmp_ge (tgt := 64) hx hb dX9_digest_31 (by decide) (fun _ => ?_) (fun c9 => absurd (by decide) c9)
  refine lv_aload_n hx hb dX9_digest_64 rfl (lv_at hl 1 rfl) ?_
  refine lv_bipush (v := 28) hx hb dX9_digest_65 (by decide) ?_
  refine lv_bipush (v := 32) hx hb dX9_digest_67 (by decide) ?_
  refine my_callV_v (As := [.int (nI 28), .int (32 : Int32)]) (rest := []) (wc := [(h0, .inr (9, [.ref a0, .ref b0, .int np, .int (0 : Int32), .int ed, .long x_8_0])), (a0, .inl (cI, 129, .inl w)), (b0, .inl (cI, 516, .inl pf))]) (wr := []) ⟨hx, hb, hml, hown, hts⟩ (met_X9_mixes l D cI cJ cS h0 a0 b0 np (0 : Int32) ed x_8_0 w pf 28 (32 : Int32) (by decide) (by decide) _) (cwV 2 hts gX9_digest_X9_mixes rfl rfl rfl (by decide +kernel) ⟨Nat.le_of_ble_eq_true rfl, Nat.le_of_ble_eq_true rfl⟩) hK hP hD hS hA hG [0, 1, 2] [] rfl rfl rfl rfl (by decide) 0 rfl rfl rfl hl.1 (Nat.le_of_ble_eq_true rfl) rfl dX9_digest_69 ⟨Nat.le_of_ble_eq_true rfl, Nat.le_of_ble_eq_true rfl⟩ (fun x_9_0 H locs hw_9 hP hD hS => ?_)
  have hP : va_P D vwCl [(h0, .inr (9, [.ref a0, .ref b0, .int np, .int (0 : Int32), .int ed, .long x_9_0])), (a0, .inl (cI, 129, .inl w)), (b0, .inl (cI, 516, .inl pf))] H := hP
  have hD : va_D A [(h0, .inr (9, [.ref a0, .ref b0, .int np, .int (0 : Int32), .int ed, .long x_9_0])), (a0, .inl (cI, 129, .inl w)), (b0, .inl (cI, 516, .inl pf))] := hD
  refine lv_aload_n hx hb dX9_digest_72 rfl (lv_at hl 1 rfl) ?_
  refine lv_bipush (v := 35) hx hb dX9_digest_73 (by decide) ?_
  refine lv_bipush (v := 35) hx hb dX9_digest_75 (by decide) ?_
  refine my_callV_v (As := [.int (nI 35), .int (35 : Int32)]) (rest := []) (wc := [(h0, .inr (9, [.ref a0, .ref b0, .int np, .int (0 : Int32), .int ed, .long x_9_0])), (a0, .inl (cI, 129, .inl w)), (b0, .inl (cI, 516, .inl pf))]) (wr := []) ⟨hx, hb, hml, hown, hts⟩ (met_X9_mixes l D cI cJ cS h0 a0 b0 np (0 : Int32) ed x_9_0 w pf 35 (35 : Int32) (by decide) (by decide) _) (cwV 2 hts gX9_digest_X9_mixes rfl rfl rfl (by decide +kernel) ⟨Nat.le_of_ble_eq_true rfl, Nat.le_of_ble_eq_true rfl⟩) hK hP hD hS hA hG [0, 1, 2] [] rfl rfl rfl rfl (by decide) 0 rfl rfl rfl hl.1 (Nat.le_of_ble_eq_true rfl) rfl dX9_digest_77 ⟨Nat.le_of_ble_eq_true rfl, Nat.le_of_ble_eq_true rfl⟩ (fun x_10_0 H locs hw_10 hP hD hS => ?_)
  have hP : va_P D vwCl [(h0, .inr (9, [.ref a0, .ref b0, .int np, .int (0 : Int32), .int ed, .long x_10_0])), (a0, .inl (cI, 129, .inl w)), (b0, .inl (cI, 516, .inl pf))] H := hP
  have hD : va_D A [(h0, .inr (9, [.ref a0, .ref b0, .int np, .int (0 : Int32), .int ed, .long x_10_0])), (a0, .inl (cI, 129, .inl w)), (b0, .inl (cI, 516, .inl pf))] := hD
  refine lv_aload_n hx hb dX9_digest_80 rfl (lv_at hl 1 rfl) ?_
  refine lv_bipush (v := 36) hx hb dX9_digest_81 (by decide) ?_
  refine lv_bipush (v := 36) hx hb dX9_digest_83 (by decide) ?_
  refine lv_aload_n hx hb dX9_digest_85 rfl (lv_at hl 1 rfl) ?_
  refine va_get (D := D) (ci := 9) (v := .ref a0) (C := RX9) (T := TX9) (N := 6) hx hb hts hiX9 hown hK hP 0 rfl rfl 0 (by decide) hk_7 (fun _ h9 => h9) rfl dX9_digest_86 ?_
  refine lv_bipush (v := 35) hx hb dX9_digest_89 (by decide) ?_
  refine my_iald hx hb hK hP 1 0 rfl rfl 35 (rfl) (by decide) (by decide) dX9_digest_91 ?_
  refine W.eq (g2 := F0 m 92 ls [.int (nI (tn (w 35))), .int (36 : Int32), .int (36 : Int32), .ref h0]) (by rw [← tn_eq hz]) ?_
  refine my_iaddN hx hb 36 (tn (w 35)) rfl rfl dX9_digest_92 ?_
  refine lv_iconst (v := 1) hx hb dX9_digest_93 (by decide) ?_
  refine my_isubN hx hb (36 + (tn (w 35))) 1 rfl rfl (by omega) dX9_digest_94 ?_
  refine my_callV_v (As := [.int (nI 36), .int (nI ((36 + (tn (w 35))) - 1))]) (rest := []) (wc := [(h0, .inr (9, [.ref a0, .ref b0, .int np, .int (0 : Int32), .int ed, .long x_10_0])), (a0, .inl (cI, 129, .inl w)), (b0, .inl (cI, 516, .inl pf))]) (wr := []) ⟨hx, hb, hml, hown, hts⟩ (met_X9_mixes l D cI cJ cS h0 a0 b0 np (0 : Int32) ed x_10_0 w pf 36 (nI ((36 + (tn (w 35))) - 1)) (by rw [nI_toInt (by have := tn_lt hz; omega)]; have := tn_lt hz; omega) (by rw [nI_toInt (by have := tn_lt hz; omega)]; have := tn_lt hz; omega) _) (cwV 2 hts gX9_digest_X9_mixes rfl rfl rfl (by decide +kernel) ⟨Nat.le_of_ble_eq_true rfl, Nat.le_of_ble_eq_true rfl⟩) hK hP hD hS hA hG [0, 1, 2] [] rfl rfl rfl rfl (by decide) 0 rfl rfl rfl hl.1 (Nat.le_of_ble_eq_true rfl) rfl dX9_digest_95 ⟨Nat.le_of_ble_eq_true rfl, Nat.le_of_ble_eq_true rfl⟩ (fun x_11_0 H locs hw_11 hP hD hS => ?_)
  have hP : va_P D vwCl [(h0, .inr (9, [.ref a0, .ref b0, .int np, .int (0 : Int32), .int ed, .long x_11_0])), (a0, .inl (cI, 129, .inl w)), (b0, .inl (cI, 516, .inl pf))] H := hP
  have hD : va_D A [(h0, .inr (9, [.ref a0, .ref b0, .int np, .int (0 : Int32), .int ed, .long x_11_0])), (a0, .inl (cI, 129, .inl w)), (b0, .inl (cI, 516, .inl pf))] := hD
  refine lv_aload_n hx hb dX9_digest_98 rfl (lv_at hl 1 rfl) ?_
  refine lv_bipush (v := 42) hx hb dX9_digest_99 (by decide) ?_
  refine lv_bipush (v := 48) hx hb dX9_digest_101 (by decide) ?_
  refine my_callV_v (As := [.int (nI 42), .int (48 : Int32)]) (rest := []) (wc := [(h0, .inr (9, [.ref a0, .ref b0, .int np, .int (0 : Int32), .int ed, .long x_11_0])), (a0, .inl (cI, 129, .inl w)), (b0, .inl (cI, 516, .inl pf))]) (wr := []) ⟨hx, hb, hml, hown, hts⟩ (met_X9_mixes l D cI cJ cS h0 a0 b0 np (0 : Int32) ed x_11_0 w pf 42 (48 : Int32) (by decide) (by decide) _) (cwV 2 hts gX9_digest_X9_mixes rfl rfl rfl (by decide +kernel) ⟨Nat.le_of_ble_eq_true rfl, Nat.le_of_ble_eq_true rfl⟩) hK hP hD hS hA hG [0, 1, 2] [] rfl rfl rfl rfl (by decide) 0 rfl rfl rfl hl.1 (Nat.le_of_ble_eq_true rfl) rfl dX9_digest_103 ⟨Nat.le_of_ble_eq_true rfl, Nat.le_of_ble_eq_true rfl⟩ (fun x_12_0 H locs hw_12 hP hD hS => ?_)
  have hP : va_P D vwCl [(h0, .inr (9, [.ref a0, .ref b0, .int np, .int (0 : Int32), .int ed, .long x_12_0])), (a0, .inl (cI, 129, .inl w)), (b0, .inl (cI, 516, .inl pf))] H := hP
  have hD : va_D A [(h0, .inr (9, [.ref a0, .ref b0, .int np, .int (0 : Int32), .int ed, .long x_12_0])), (a0, .inl (cI, 129, .inl w)), (b0, .inl (cI, 516, .inl pf))] := hD
  refine lv_aload_n hx hb dX9_digest_106 rfl (lv_at hl 1 rfl) ?_
  refine lv_bipush (v := 49) hx hb dX9_digest_107 (by decide) ?_
  refine lv_bipush (v := 49) hx hb dX9_digest_109 (by decide) ?_
  refine lv_iconst (v := 2) hx hb dX9_digest_111 (by decide) ?_
  refine lv_aload_n hx hb dX9_digest_112 rfl (lv_at hl 1 rfl) ?_
  refine va_get (D := D) (ci := 9) (v := .ref a0) (C := RX9) (T := TX9) (N := 6) hx hb hts hiX9 hown hK hP 0 rfl rfl 0 (by decide) hk_7 (fun _ h9 => h9) rfl dX9_digest_113 ?_
  refine lv_bipush (v := 48) hx hb dX9_digest_116 (by decide) ?_
  refine my_iald hx hb hK hP 1 0 rfl rfl 48 (rfl) (by decide) (by decide) dX9_digest_118 ?_
  refine W.eq (g2 := F0 m 119 ls [.int (nI (tn (w 48))), .int (2 : Int32), .int (49 : Int32), .int (49 : Int32), .ref h0]) (by rw [← tn_eq hv]) ?_
  refine my_imulN hx hb 2 (tn (w 48)) rfl rfl dX9_digest_119 ?_
  refine my_iaddN hx hb 49 (2 * (tn (w 48))) rfl rfl dX9_digest_120 ?_
  refine lv_iconst (v := 1) hx hb dX9_digest_121 (by decide) ?_
  refine my_isubN hx hb (49 + (2 * (tn (w 48)))) 1 rfl rfl (by omega) dX9_digest_122 ?_
  refine my_callV_v (As := [.int (nI 49), .int (nI ((49 + (2 * (tn (w 48)))) - 1))]) (rest := []) (wc := [(h0, .inr (9, [.ref a0, .ref b0, .int np, .int (0 : Int32), .int ed, .long x_12_0])), (a0, .inl (cI, 129, .inl w)), (b0, .inl (cI, 516, .inl pf))]) (wr := []) ⟨hx, hb, hml, hown, hts⟩ (met_X9_mixes l D cI cJ cS h0 a0 b0 np (0 : Int32) ed x_12_0 w pf 49 (nI ((49 + (2 * (tn (w 48)))) - 1)) (by rw [nI_toInt (by have := tn_lt hv; omega)]; have := tn_lt hv; omega) (by rw [nI_toInt (by have := tn_lt hv; omega)]; have := tn_lt hv; omega) _) (cwV 2 hts gX9_digest_X9_mixes rfl rfl rfl (by decide +kernel) ⟨Nat.le_of_ble_eq_true rfl, Nat.le_of_ble_eq_true rfl⟩) hK hP hD hS hA hG [0, 1, 2] [] rfl rfl rfl rfl (by decide) 0 rfl rfl rfl hl.1 (Nat.le_of_ble_eq_true rfl) rfl dX9_digest_123 ⟨Nat.le_of_ble_eq_true rfl, Nat.le_of_ble_eq_true rfl⟩ (fun x_13_0 H locs hw_13 hP hD hS => ?_)
  have hP : va_P D vwCl [(h0, .inr (9, [.ref a0, .ref b0, .int np, .int (0 : Int32), .int ed, .long x_13_0])), (a0, .inl (cI, 129, .inl w)), (b0, .inl (cI, 516, .inl pf))] H := hP
  have hD : va_D A [(h0, .inr (9, [.ref a0, .ref b0, .int np, .int (0 : Int32), .int ed, .long x_13_0])), (a0, .inl (cI, 129, .inl w)), (b0, .inl (cI, 516, .inl pf))] := hD
  refine lv_ldc2 (v := 31) hx hb hown (hts (.constantLong RX9 102 (31)) (by decide +kernel)) dX9_digest_126 ?_
  refine lv_aload_n hx hb dX9_digest_129 rfl (lv_at hl 1 rfl) ?_
  refine va_get (D := D) (ci := 9) (v := .long x_13_0) (C := RX9) (T := TX9) (N := 6) hx hb hts hiX9 hown hK hP 0 rfl rfl 5 (by decide) hk_104 (fun _ h9 => h9) rfl dX9_digest_130 ?_
  refine lv_lmul hx hb dX9_digest_133 ?_
  refine lv_aload_n hx hb dX9_digest_134 rfl (lv_at hl 1 rfl) ?_
  refine va_get (D := D) (ci := 9) (v := .int np) (C := RX9) (T := TX9) (N := 6) hx hb hts hiX9 hown hK hP 0 rfl rfl 2 (by decide) hk_20 (fun _ h9 => h9) rfl dX9_digest_135 ?_
  refine lv_i2l hx hb dX9_digest_138 rfl ?_
  refine lv_ladd hx hb dX9_digest_139 ?_
  exact my_lret hx hb hr hlocks hK hP hD hS ((0 : Int32), x_13_0) (by show (((31 : Int64) * x_13_0) + np.toInt64, ((0 : Int32), x_13_0)) = F_X9_digest np th ed hh w pf; simp only [F_X9_digest, ← hw_1, ← hw_2, ← hw_3, ← hw_4, ← hw_5, ← hw_6, ← hw_7, ← hw_8, ← hw_9, ← hw_10, ← hw_11, ← hw_12, ← hw_13]) [0, 1, 2] rfl rfl dX9_digest_140
set_option maxHeartbeats 4000000 in
set_option maxRecDepth 100000 in
theorem met_X9_init (l : Launch) (D : va_G) (cI cJ cS : ClassId) (h0 : Nat)  : ∀ sz : Nat, Met l yX9_init wsX9_init ({ frames := 1, cells := 2, slots := 645, locals := 40 } : Room) (va_Pc [.ref h0] (cPre D (tyz cI cJ cS) ([(h0, .inr (9, [.null, .null, .int (0 : Int32), .int (0 : Int32), .int (0 : Int32), .long (0 : Int64)]))]) sz)) (va_Qv (fun _ : Nat × Nat => True) (fun u => cPost D (tyz cI cJ cS) (va_A ([(h0, .inr (9, [.null, .null, .int (0 : Int32), .int (0 : Int32), .int (0 : Int32), .long (0 : Int64)]))]) sz) ([(h0, .inr (9, [.ref u.1, .ref u.2, .int (0 : Int32), .int (0 : Int32), .int (0 : Int32), .long (0 : Int64)])), (u.1, .inl (cI, 129, .inl (upd (upd (upd (upd (upd (upd (upd (upd (upd (upd (upd (upd (upd (upd (fun _ => 0) 1 (3 : Int32)) 2 (10 : Int32)) 3 (50 : Int32)) 4 (2 : Int32)) 5 (500 : Int32)) 7 (1 : Int32)) 8 (1 : Int32)) 16 (-1000 : Int32)) 19 (-1000 : Int32)) 17 (-1000 : Int32)) 20 (-1000 : Int32)) 18 (-1000 : Int32)) 21 (-1000 : Int32)) 33 (-1 : Int32)))), (u.2, .inl (cI, 516, .inl (fun _ => 0)))])) (va_A ([(h0, .inr (9, [.null, .null, .int (0 : Int32), .int (0 : Int32), .int (0 : Int32), .long (0 : Int64)]))]) sz)) 2 645 (va_A ([(h0, .inr (9, [.null, .null, .int (0 : Int32), .int (0 : Int32), .int (0 : Int32), .long (0 : Int64)]))]) sz) := by
  refine my_met (QC := fun A => (va_Qv (fun _ : Nat × Nat => True) (fun u => cPost D (tyz cI cJ cS) A ([(h0, .inr (9, [.ref u.1, .ref u.2, .int (0 : Int32), .int (0 : Int32), .int (0 : Int32), .long (0 : Int64)])), (u.1, .inl (cI, 129, .inl (upd (upd (upd (upd (upd (upd (upd (upd (upd (upd (upd (upd (upd (upd (fun _ => 0) 1 (3 : Int32)) 2 (10 : Int32)) 3 (50 : Int32)) 4 (2 : Int32)) 5 (500 : Int32)) 7 (1 : Int32)) 8 (1 : Int32)) 16 (-1000 : Int32)) 19 (-1000 : Int32)) 17 (-1000 : Int32)) 20 (-1000 : Int32)) 18 (-1000 : Int32)) 21 (-1000 : Int32)) 33 (-1 : Int32)))), (u.2, .inl (cI, 516, .inl (fun _ => 0)))])) A)) (cc := cX9_init) (maxL := 2) (ret := none) (by decide) rfl (Nat.le_of_ble_eq_true rfl) ?_
  intro p e s m below meth c ls A hx hb hml hr hts hown hlocks hname hK hP hD hS hA hG hl
  have hown : s.vm.findClass RX9 = some m.cls := hown
  have hl : lv_has ls 2 [(0, .ref h0)] := hl
  have hP : va_P D vwCl [(h0, .inr (9, [.null, .null, .int (0 : Int32), .int (0 : Int32), .int (0 : Int32), .long (0 : Int64)]))] s.heap := hP
  have hD : va_D A [(h0, .inr (9, [.null, .null, .int (0 : Int32), .int (0 : Int32), .int (0 : Int32), .long (0 : Int64)]))] := hD
  have hiX9 : ∀ w ∈ u_ws RX9 TX9 6, w ∈ wsX9_init := by decide +kernel
  have hk_13 := hts (.fieldLink RX9 13 "HallCommutatorModel" "past" "[I") (by decide +kernel)
  have hk_7 := hts (.fieldLink RX9 7 "HallCommutatorModel" "s" "[I") (by decide +kernel)
  refine lv_aload_n hx hb dX9_init_0 rfl (lv_at hl 0 rfl) ?_
  refine W.objInit hx hb hown (hts (.methodLink RX9 1 objectInit) (by decide +kernel)) (hts (.instanceMethod objectInit) (by decide +kernel)) (hts (.code objectInit ⟨#[0xb1]⟩ 1 none) (by decide +kernel)) rfl (by rw [hml]; exact hl.1) rfl dX9_init_1 (Nat.le_of_ble_eq_true rfl) (Nat.le_of_ble_eq_true rfl) ?_
  refine W.eq (g2 := F0 m 4 ls []) rfl ?_
  refine lv_aload_n hx hb dX9_init_4 rfl (lv_at hl 0 rfl) ?_
  refine lv_sipush (v := 129) hx hb dX9_init_5 (by decide) ?_
  refine my_newi hx hb (hts (.arrayClass .int) (by decide +kernel)) hK hP hD hS hA 0 rfl 129 rfl (by decide) (Nat.le_of_ble_eq_true rfl) (Nat.le_of_ble_eq_true rfl) dX9_init_8 (fun q_1 H hP hD hS => ?_)
  have hP : va_P D vwCl [(h0, .inr (9, [.null, .null, .int (0 : Int32), .int (0 : Int32), .int (0 : Int32), .long (0 : Int64)])), (q_1, .inl (cI, 129, .inl (fun _ => 0)))] H := hP
  have hD : va_D A [(h0, .inr (9, [.null, .null, .int (0 : Int32), .int (0 : Int32), .int (0 : Int32), .long (0 : Int64)])), (q_1, .inl (cI, 129, .inl (fun _ => 0)))] := hD
  refine va_putF (D := D) (ci := 9) (v := .ref q_1) (ty := .array .int) (C := RX9) (T := TX9) (N := 6) hx hb hts hiX9 tyX9 tyX9_ok nmX9 hown hK hP hD hS 0 rfl rfl 0 (by decide) hk_7 (fun _ h9 => h9) rfl hname rfl (by decide +kernel) rfl rfl (Nat.le_of_ble_eq_true rfl) dX9_init_10 (fun H locs hP hD hS => ?_)
  have hP : va_P D vwCl [(h0, .inr (9, [.ref q_1, .null, .int (0 : Int32), .int (0 : Int32), .int (0 : Int32), .long (0 : Int64)])), (q_1, .inl (cI, 129, .inl (fun _ => 0)))] H := hP
  have hD : va_D A [(h0, .inr (9, [.ref q_1, .null, .int (0 : Int32), .int (0 : Int32), .int (0 : Int32), .long (0 : Int64)])), (q_1, .inl (cI, 129, .inl (fun _ => 0)))] := hD
  refine lv_aload_n hx hb dX9_init_13 rfl (lv_at hl 0 rfl) ?_
  refine lv_sipush (v := 516) hx hb dX9_init_14 (by decide) ?_
  refine my_newi hx hb (hts (.arrayClass .int) (by decide +kernel)) hK hP hD hS hA 0 rfl 516 rfl (by decide) (Nat.le_of_ble_eq_true rfl) (Nat.le_of_ble_eq_true rfl) dX9_init_17 (fun q_2 H hP hD hS => ?_)
  have hP : va_P D vwCl [(h0, .inr (9, [.ref q_1, .null, .int (0 : Int32), .int (0 : Int32), .int (0 : Int32), .long (0 : Int64)])), (q_1, .inl (cI, 129, .inl (fun _ => 0))), (q_2, .inl (cI, 516, .inl (fun _ => 0)))] H := hP
  have hD : va_D A [(h0, .inr (9, [.ref q_1, .null, .int (0 : Int32), .int (0 : Int32), .int (0 : Int32), .long (0 : Int64)])), (q_1, .inl (cI, 129, .inl (fun _ => 0))), (q_2, .inl (cI, 516, .inl (fun _ => 0)))] := hD
  refine va_putF (D := D) (ci := 9) (v := .ref q_2) (ty := .array .int) (C := RX9) (T := TX9) (N := 6) hx hb hts hiX9 tyX9 tyX9_ok nmX9 hown hK hP hD hS 0 rfl rfl 1 (by decide) hk_13 (fun _ h9 => h9) rfl hname rfl (by decide +kernel) rfl rfl (Nat.le_of_ble_eq_true rfl) dX9_init_19 (fun H locs hP hD hS => ?_)
  have hP : va_P D vwCl [(h0, .inr (9, [.ref q_1, .ref q_2, .int (0 : Int32), .int (0 : Int32), .int (0 : Int32), .long (0 : Int64)])), (q_1, .inl (cI, 129, .inl (fun _ => 0))), (q_2, .inl (cI, 516, .inl (fun _ => 0)))] H := hP
  have hD : va_D A [(h0, .inr (9, [.ref q_1, .ref q_2, .int (0 : Int32), .int (0 : Int32), .int (0 : Int32), .long (0 : Int64)])), (q_1, .inl (cI, 129, .inl (fun _ => 0))), (q_2, .inl (cI, 516, .inl (fun _ => 0)))] := hD
  refine lv_aload_n hx hb dX9_init_22 rfl (lv_at hl 0 rfl) ?_
  refine va_get (D := D) (ci := 9) (v := .ref q_1) (C := RX9) (T := TX9) (N := 6) hx hb hts hiX9 hown hK hP 0 rfl rfl 0 (by decide) hk_7 (fun _ h9 => h9) rfl dX9_init_23 ?_
  refine lv_iconst (v := 1) hx hb dX9_init_26 (by decide) ?_
  refine lv_iconst (v := 3) hx hb dX9_init_27 (by decide) ?_
  refine my_iast hx hb hK hP hD hS 1 0 rfl rfl 1 (rfl) (by decide) (by decide) dX9_init_28 (fun H locs hP hD hS => ?_)
  have hP : va_P D vwCl [(h0, .inr (9, [.ref q_1, .ref q_2, .int (0 : Int32), .int (0 : Int32), .int (0 : Int32), .long (0 : Int64)])), (q_1, .inl (cI, 129, .inl (upd (fun _ => 0) 1 (3 : Int32)))), (q_2, .inl (cI, 516, .inl (fun _ => 0)))] H := hP
  have hD : va_D A [(h0, .inr (9, [.ref q_1, .ref q_2, .int (0 : Int32), .int (0 : Int32), .int (0 : Int32), .long (0 : Int64)])), (q_1, .inl (cI, 129, .inl (upd (fun _ => 0) 1 (3 : Int32)))), (q_2, .inl (cI, 516, .inl (fun _ => 0)))] := hD
  refine lv_aload_n hx hb dX9_init_29 rfl (lv_at hl 0 rfl) ?_
  refine va_get (D := D) (ci := 9) (v := .ref q_1) (C := RX9) (T := TX9) (N := 6) hx hb hts hiX9 hown hK hP 0 rfl rfl 0 (by decide) hk_7 (fun _ h9 => h9) rfl dX9_init_30 ?_
  refine lv_iconst (v := 2) hx hb dX9_init_33 (by decide) ?_
  refine lv_bipush (v := 10) hx hb dX9_init_34 (by decide) ?_
  refine my_iast hx hb hK hP hD hS 1 0 rfl rfl 2 (rfl) (by decide) (by decide) dX9_init_36 (fun H locs hP hD hS => ?_)
  have hP : va_P D vwCl [(h0, .inr (9, [.ref q_1, .ref q_2, .int (0 : Int32), .int (0 : Int32), .int (0 : Int32), .long (0 : Int64)])), (q_1, .inl (cI, 129, .inl (upd (upd (fun _ => 0) 1 (3 : Int32)) 2 (10 : Int32)))), (q_2, .inl (cI, 516, .inl (fun _ => 0)))] H := hP
  have hD : va_D A [(h0, .inr (9, [.ref q_1, .ref q_2, .int (0 : Int32), .int (0 : Int32), .int (0 : Int32), .long (0 : Int64)])), (q_1, .inl (cI, 129, .inl (upd (upd (fun _ => 0) 1 (3 : Int32)) 2 (10 : Int32)))), (q_2, .inl (cI, 516, .inl (fun _ => 0)))] := hD
  refine lv_aload_n hx hb dX9_init_37 rfl (lv_at hl 0 rfl) ?_
  refine va_get (D := D) (ci := 9) (v := .ref q_1) (C := RX9) (T := TX9) (N := 6) hx hb hts hiX9 hown hK hP 0 rfl rfl 0 (by decide) hk_7 (fun _ h9 => h9) rfl dX9_init_38 ?_
  refine lv_iconst (v := 3) hx hb dX9_init_41 (by decide) ?_
  refine lv_bipush (v := 50) hx hb dX9_init_42 (by decide) ?_
  refine my_iast hx hb hK hP hD hS 1 0 rfl rfl 3 (rfl) (by decide) (by decide) dX9_init_44 (fun H locs hP hD hS => ?_)
  have hP : va_P D vwCl [(h0, .inr (9, [.ref q_1, .ref q_2, .int (0 : Int32), .int (0 : Int32), .int (0 : Int32), .long (0 : Int64)])), (q_1, .inl (cI, 129, .inl (upd (upd (upd (fun _ => 0) 1 (3 : Int32)) 2 (10 : Int32)) 3 (50 : Int32)))), (q_2, .inl (cI, 516, .inl (fun _ => 0)))] H := hP
  have hD : va_D A [(h0, .inr (9, [.ref q_1, .ref q_2, .int (0 : Int32), .int (0 : Int32), .int (0 : Int32), .long (0 : Int64)])), (q_1, .inl (cI, 129, .inl (upd (upd (upd (fun _ => 0) 1 (3 : Int32)) 2 (10 : Int32)) 3 (50 : Int32)))), (q_2, .inl (cI, 516, .inl (fun _ => 0)))] := hD
  refine lv_aload_n hx hb dX9_init_45 rfl (lv_at hl 0 rfl) ?_
  refine va_get (D := D) (ci := 9) (v := .ref q_1) (C := RX9) (T := TX9) (N := 6) hx hb hts hiX9 hown hK hP 0 rfl rfl 0 (by decide) hk_7 (fun _ h9 => h9) rfl dX9_init_46 ?_
  refine lv_iconst (v := 4) hx hb dX9_init_49 (by decide) ?_
  refine lv_iconst (v := 2) hx hb dX9_init_50 (by decide) ?_
  refine my_iast hx hb hK hP hD hS 1 0 rfl rfl 4 (rfl) (by decide) (by decide) dX9_init_51 (fun H locs hP hD hS => ?_)
  have hP : va_P D vwCl [(h0, .inr (9, [.ref q_1, .ref q_2, .int (0 : Int32), .int (0 : Int32), .int (0 : Int32), .long (0 : Int64)])), (q_1, .inl (cI, 129, .inl (upd (upd (upd (upd (fun _ => 0) 1 (3 : Int32)) 2 (10 : Int32)) 3 (50 : Int32)) 4 (2 : Int32)))), (q_2, .inl (cI, 516, .inl (fun _ => 0)))] H := hP
  have hD : va_D A [(h0, .inr (9, [.ref q_1, .ref q_2, .int (0 : Int32), .int (0 : Int32), .int (0 : Int32), .long (0 : Int64)])), (q_1, .inl (cI, 129, .inl (upd (upd (upd (upd (fun _ => 0) 1 (3 : Int32)) 2 (10 : Int32)) 3 (50 : Int32)) 4 (2 : Int32)))), (q_2, .inl (cI, 516, .inl (fun _ => 0)))] := hD
  refine lv_aload_n hx hb dX9_init_52 rfl (lv_at hl 0 rfl) ?_
  refine va_get (D := D) (ci := 9) (v := .ref q_1) (C := RX9) (T := TX9) (N := 6) hx hb hts hiX9 hown hK hP 0 rfl rfl 0 (by decide) hk_7 (fun _ h9 => h9) rfl dX9_init_53 ?_
  refine lv_iconst (v := 5) hx hb dX9_init_56 (by decide) ?_
  refine lv_sipush (v := 500) hx hb dX9_init_57 (by decide) ?_
  refine my_iast hx hb hK hP hD hS 1 0 rfl rfl 5 (rfl) (by decide) (by decide) dX9_init_60 (fun H locs hP hD hS => ?_)
  have hP : va_P D vwCl [(h0, .inr (9, [.ref q_1, .ref q_2, .int (0 : Int32), .int (0 : Int32), .int (0 : Int32), .long (0 : Int64)])), (q_1, .inl (cI, 129, .inl (upd (upd (upd (upd (upd (fun _ => 0) 1 (3 : Int32)) 2 (10 : Int32)) 3 (50 : Int32)) 4 (2 : Int32)) 5 (500 : Int32)))), (q_2, .inl (cI, 516, .inl (fun _ => 0)))] H := hP
  have hD : va_D A [(h0, .inr (9, [.ref q_1, .ref q_2, .int (0 : Int32), .int (0 : Int32), .int (0 : Int32), .long (0 : Int64)])), (q_1, .inl (cI, 129, .inl (upd (upd (upd (upd (upd (fun _ => 0) 1 (3 : Int32)) 2 (10 : Int32)) 3 (50 : Int32)) 4 (2 : Int32)) 5 (500 : Int32)))), (q_2, .inl (cI, 516, .inl (fun _ => 0)))] := hD
  refine lv_aload_n hx hb dX9_init_61 rfl (lv_at hl 0 rfl) ?_
  refine va_get (D := D) (ci := 9) (v := .ref q_1) (C := RX9) (T := TX9) (N := 6) hx hb hts hiX9 hown hK hP 0 rfl rfl 0 (by decide) hk_7 (fun _ h9 => h9) rfl dX9_init_62 ?_
  refine lv_bipush (v := 7) hx hb dX9_init_65 (by decide) ?_
  refine lv_iconst (v := 1) hx hb dX9_init_67 (by decide) ?_
  refine my_iast hx hb hK hP hD hS 1 0 rfl rfl 7 (rfl) (by decide) (by decide) dX9_init_68 (fun H locs hP hD hS => ?_)
  have hP : va_P D vwCl [(h0, .inr (9, [.ref q_1, .ref q_2, .int (0 : Int32), .int (0 : Int32), .int (0 : Int32), .long (0 : Int64)])), (q_1, .inl (cI, 129, .inl (upd (upd (upd (upd (upd (upd (fun _ => 0) 1 (3 : Int32)) 2 (10 : Int32)) 3 (50 : Int32)) 4 (2 : Int32)) 5 (500 : Int32)) 7 (1 : Int32)))), (q_2, .inl (cI, 516, .inl (fun _ => 0)))] H := hP
  have hD : va_D A [(h0, .inr (9, [.ref q_1, .ref q_2, .int (0 : Int32), .int (0 : Int32), .int (0 : Int32), .long (0 : Int64)])), (q_1, .inl (cI, 129, .inl (upd (upd (upd (upd (upd (upd (fun _ => 0) 1 (3 : Int32)) 2 (10 : Int32)) 3 (50 : Int32)) 4 (2 : Int32)) 5 (500 : Int32)) 7 (1 : Int32)))), (q_2, .inl (cI, 516, .inl (fun _ => 0)))] := hD
  refine lv_aload_n hx hb dX9_init_69 rfl (lv_at hl 0 rfl) ?_
  refine va_get (D := D) (ci := 9) (v := .ref q_1) (C := RX9) (T := TX9) (N := 6) hx hb hts hiX9 hown hK hP 0 rfl rfl 0 (by decide) hk_7 (fun _ h9 => h9) rfl dX9_init_70 ?_
  refine lv_bipush (v := 8) hx hb dX9_init_73 (by decide) ?_
  refine lv_iconst (v := 1) hx hb dX9_init_75 (by decide) ?_
  refine my_iast hx hb hK hP hD hS 1 0 rfl rfl 8 (rfl) (by decide) (by decide) dX9_init_76 (fun H locs hP hD hS => ?_)
  have hP : va_P D vwCl [(h0, .inr (9, [.ref q_1, .ref q_2, .int (0 : Int32), .int (0 : Int32), .int (0 : Int32), .long (0 : Int64)])), (q_1, .inl (cI, 129, .inl (upd (upd (upd (upd (upd (upd (upd (fun _ => 0) 1 (3 : Int32)) 2 (10 : Int32)) 3 (50 : Int32)) 4 (2 : Int32)) 5 (500 : Int32)) 7 (1 : Int32)) 8 (1 : Int32)))), (q_2, .inl (cI, 516, .inl (fun _ => 0)))] H := hP
  have hD : va_D A [(h0, .inr (9, [.ref q_1, .ref q_2, .int (0 : Int32), .int (0 : Int32), .int (0 : Int32), .long (0 : Int64)])), (q_1, .inl (cI, 129, .inl (upd (upd (upd (upd (upd (upd (upd (fun _ => 0) 1 (3 : Int32)) 2 (10 : Int32)) 3 (50 : Int32)) 4 (2 : Int32)) 5 (500 : Int32)) 7 (1 : Int32)) 8 (1 : Int32)))), (q_2, .inl (cI, 516, .inl (fun _ => 0)))] := hD
  refine lv_iconst (v := 0) hx hb dX9_init_77 (by decide) ?_
  refine lv_istore_n (lv' := [(1, .int (0 : Int32)), (0, .ref h0)]) hx hb dX9_init_78 rfl hl (by decide) rfl (fun ls hl => ?_)
  refine lv_iload_n hx hb dX9_init_79 rfl (lv_at hl 0 rfl) ?_
  refine lv_iconst (v := 3) hx hb dX9_init_80 (by decide) ?_
  refine lv_icmp_ge (tgt := 114) hx hb dX9_init_81 (by decide) (fun c9 => absurd c9 (by decide)) (fun _ => ?_)
  refine lv_aload_n hx hb dX9_init_84 rfl (lv_at hl 1 rfl) ?_
  refine va_get (D := D) (ci := 9) (v := .ref q_1) (C := RX9) (T := TX9) (N := 6) hx hb hts hiX9 hown hK hP 0 rfl rfl 0 (by decide) hk_7 (fun _ h9 => h9) rfl dX9_init_85 ?_
  refine lv_bipush (v := 16) hx hb dX9_init_88 (by decide) ?_
  refine lv_iload_n hx hb dX9_init_90 rfl (lv_at hl 0 rfl) ?_
  refine lv_iadd hx hb dX9_init_91 ?_
  refine W.eq (g2 := F0 m 92 ls [.int (16 : Int32), .ref q_1]) rfl ?_
  refine lv_sipush (v := -1000) hx hb dX9_init_92 (by decide) ?_
  refine my_iast hx hb hK hP hD hS 1 0 rfl rfl 16 (rfl) (by decide) (by decide) dX9_init_95 (fun H locs hP hD hS => ?_)
  have hP : va_P D vwCl [(h0, .inr (9, [.ref q_1, .ref q_2, .int (0 : Int32), .int (0 : Int32), .int (0 : Int32), .long (0 : Int64)])), (q_1, .inl (cI, 129, .inl (upd (upd (upd (upd (upd (upd (upd (upd (fun _ => 0) 1 (3 : Int32)) 2 (10 : Int32)) 3 (50 : Int32)) 4 (2 : Int32)) 5 (500 : Int32)) 7 (1 : Int32)) 8 (1 : Int32)) 16 (-1000 : Int32)))), (q_2, .inl (cI, 516, .inl (fun _ => 0)))] H := hP
  have hD : va_D A [(h0, .inr (9, [.ref q_1, .ref q_2, .int (0 : Int32), .int (0 : Int32), .int (0 : Int32), .long (0 : Int64)])), (q_1, .inl (cI, 129, .inl (upd (upd (upd (upd (upd (upd (upd (upd (fun _ => 0) 1 (3 : Int32)) 2 (10 : Int32)) 3 (50 : Int32)) 4 (2 : Int32)) 5 (500 : Int32)) 7 (1 : Int32)) 8 (1 : Int32)) 16 (-1000 : Int32)))), (q_2, .inl (cI, 516, .inl (fun _ => 0)))] := hD
  refine lv_aload_n hx hb dX9_init_96 rfl (lv_at hl 1 rfl) ?_
  refine va_get (D := D) (ci := 9) (v := .ref q_1) (C := RX9) (T := TX9) (N := 6) hx hb hts hiX9 hown hK hP 0 rfl rfl 0 (by decide) hk_7 (fun _ h9 => h9) rfl dX9_init_97 ?_
  refine lv_bipush (v := 19) hx hb dX9_init_100 (by decide) ?_
  refine lv_iload_n hx hb dX9_init_102 rfl (lv_at hl 0 rfl) ?_
  refine lv_iadd hx hb dX9_init_103 ?_
  refine W.eq (g2 := F0 m 104 ls [.int (19 : Int32), .ref q_1]) rfl ?_
  refine lv_sipush (v := -1000) hx hb dX9_init_104 (by decide) ?_
  refine my_iast hx hb hK hP hD hS 1 0 rfl rfl 19 (rfl) (by decide) (by decide) dX9_init_107 (fun H locs hP hD hS => ?_)
  have hP : va_P D vwCl [(h0, .inr (9, [.ref q_1, .ref q_2, .int (0 : Int32), .int (0 : Int32), .int (0 : Int32), .long (0 : Int64)])), (q_1, .inl (cI, 129, .inl (upd (upd (upd (upd (upd (upd (upd (upd (upd (fun _ => 0) 1 (3 : Int32)) 2 (10 : Int32)) 3 (50 : Int32)) 4 (2 : Int32)) 5 (500 : Int32)) 7 (1 : Int32)) 8 (1 : Int32)) 16 (-1000 : Int32)) 19 (-1000 : Int32)))), (q_2, .inl (cI, 516, .inl (fun _ => 0)))] H := hP
  have hD : va_D A [(h0, .inr (9, [.ref q_1, .ref q_2, .int (0 : Int32), .int (0 : Int32), .int (0 : Int32), .long (0 : Int64)])), (q_1, .inl (cI, 129, .inl (upd (upd (upd (upd (upd (upd (upd (upd (upd (fun _ => 0) 1 (3 : Int32)) 2 (10 : Int32)) 3 (50 : Int32)) 4 (2 : Int32)) 5 (500 : Int32)) 7 (1 : Int32)) 8 (1 : Int32)) 16 (-1000 : Int32)) 19 (-1000 : Int32)))), (q_2, .inl (cI, 516, .inl (fun _ => 0)))] := hD
  refine lv_iinc (v := (1 : Int32)) (lv' := [(1, .int (1 : Int32)), (0, .ref h0)]) hx hb dX9_init_108 hl (k := 0) rfl (by decide) (by decide) rfl (fun ls hl => ?_)
  refine lv_goto (tgt := 79) hx hb dX9_init_111 (by decide) ?_
  refine lv_iload_n hx hb dX9_init_79 rfl (lv_at hl 0 rfl) ?_
  refine lv_iconst (v := 3) hx hb dX9_init_80 (by decide) ?_
  refine lv_icmp_ge (tgt := 114) hx hb dX9_init_81 (by decide) (fun c9 => absurd c9 (by decide)) (fun _ => ?_)
  refine lv_aload_n hx hb dX9_init_84 rfl (lv_at hl 1 rfl) ?_
  refine va_get (D := D) (ci := 9) (v := .ref q_1) (C := RX9) (T := TX9) (N := 6) hx hb hts hiX9 hown hK hP 0 rfl rfl 0 (by decide) hk_7 (fun _ h9 => h9) rfl dX9_init_85 ?_
  refine lv_bipush (v := 16) hx hb dX9_init_88 (by decide) ?_
  refine lv_iload_n hx hb dX9_init_90 rfl (lv_at hl 0 rfl) ?_
  refine lv_iadd hx hb dX9_init_91 ?_
  refine W.eq (g2 := F0 m 92 ls [.int (17 : Int32), .ref q_1]) rfl ?_
  refine lv_sipush (v := -1000) hx hb dX9_init_92 (by decide) ?_
  refine my_iast hx hb hK hP hD hS 1 0 rfl rfl 17 (rfl) (by decide) (by decide) dX9_init_95 (fun H locs hP hD hS => ?_)
  have hP : va_P D vwCl [(h0, .inr (9, [.ref q_1, .ref q_2, .int (0 : Int32), .int (0 : Int32), .int (0 : Int32), .long (0 : Int64)])), (q_1, .inl (cI, 129, .inl (upd (upd (upd (upd (upd (upd (upd (upd (upd (upd (fun _ => 0) 1 (3 : Int32)) 2 (10 : Int32)) 3 (50 : Int32)) 4 (2 : Int32)) 5 (500 : Int32)) 7 (1 : Int32)) 8 (1 : Int32)) 16 (-1000 : Int32)) 19 (-1000 : Int32)) 17 (-1000 : Int32)))), (q_2, .inl (cI, 516, .inl (fun _ => 0)))] H := hP
  have hD : va_D A [(h0, .inr (9, [.ref q_1, .ref q_2, .int (0 : Int32), .int (0 : Int32), .int (0 : Int32), .long (0 : Int64)])), (q_1, .inl (cI, 129, .inl (upd (upd (upd (upd (upd (upd (upd (upd (upd (upd (fun _ => 0) 1 (3 : Int32)) 2 (10 : Int32)) 3 (50 : Int32)) 4 (2 : Int32)) 5 (500 : Int32)) 7 (1 : Int32)) 8 (1 : Int32)) 16 (-1000 : Int32)) 19 (-1000 : Int32)) 17 (-1000 : Int32)))), (q_2, .inl (cI, 516, .inl (fun _ => 0)))] := hD
  refine lv_aload_n hx hb dX9_init_96 rfl (lv_at hl 1 rfl) ?_
  refine va_get (D := D) (ci := 9) (v := .ref q_1) (C := RX9) (T := TX9) (N := 6) hx hb hts hiX9 hown hK hP 0 rfl rfl 0 (by decide) hk_7 (fun _ h9 => h9) rfl dX9_init_97 ?_
  refine lv_bipush (v := 19) hx hb dX9_init_100 (by decide) ?_
  refine lv_iload_n hx hb dX9_init_102 rfl (lv_at hl 0 rfl) ?_
  refine lv_iadd hx hb dX9_init_103 ?_
  refine W.eq (g2 := F0 m 104 ls [.int (20 : Int32), .ref q_1]) rfl ?_
  refine lv_sipush (v := -1000) hx hb dX9_init_104 (by decide) ?_
  refine my_iast hx hb hK hP hD hS 1 0 rfl rfl 20 (rfl) (by decide) (by decide) dX9_init_107 (fun H locs hP hD hS => ?_)
  have hP : va_P D vwCl [(h0, .inr (9, [.ref q_1, .ref q_2, .int (0 : Int32), .int (0 : Int32), .int (0 : Int32), .long (0 : Int64)])), (q_1, .inl (cI, 129, .inl (upd (upd (upd (upd (upd (upd (upd (upd (upd (upd (upd (fun _ => 0) 1 (3 : Int32)) 2 (10 : Int32)) 3 (50 : Int32)) 4 (2 : Int32)) 5 (500 : Int32)) 7 (1 : Int32)) 8 (1 : Int32)) 16 (-1000 : Int32)) 19 (-1000 : Int32)) 17 (-1000 : Int32)) 20 (-1000 : Int32)))), (q_2, .inl (cI, 516, .inl (fun _ => 0)))] H := hP
  have hD : va_D A [(h0, .inr (9, [.ref q_1, .ref q_2, .int (0 : Int32), .int (0 : Int32), .int (0 : Int32), .long (0 : Int64)])), (q_1, .inl (cI, 129, .inl (upd (upd (upd (upd (upd (upd (upd (upd (upd (upd (upd (fun _ => 0) 1 (3 : Int32)) 2 (10 : Int32)) 3 (50 : Int32)) 4 (2 : Int32)) 5 (500 : Int32)) 7 (1 : Int32)) 8 (1 : Int32)) 16 (-1000 : Int32)) 19 (-1000 : Int32)) 17 (-1000 : Int32)) 20 (-1000 : Int32)))), (q_2, .inl (cI, 516, .inl (fun _ => 0)))] := hD
  refine lv_iinc (v := (2 : Int32)) (lv' := [(1, .int (2 : Int32)), (0, .ref h0)]) hx hb dX9_init_108 hl (k := 0) rfl (by decide) (by decide) rfl (fun ls hl => ?_)
  refine lv_goto (tgt := 79) hx hb dX9_init_111 (by decide) ?_
  refine lv_iload_n hx hb dX9_init_79 rfl (lv_at hl 0 rfl) ?_
  refine lv_iconst (v := 3) hx hb dX9_init_80 (by decide) ?_
  refine lv_icmp_ge (tgt := 114) hx hb dX9_init_81 (by decide) (fun c9 => absurd c9 (by decide)) (fun _ => ?_)
  refine lv_aload_n hx hb dX9_init_84 rfl (lv_at hl 1 rfl) ?_
  refine va_get (D := D) (ci := 9) (v := .ref q_1) (C := RX9) (T := TX9) (N := 6) hx hb hts hiX9 hown hK hP 0 rfl rfl 0 (by decide) hk_7 (fun _ h9 => h9) rfl dX9_init_85 ?_
  refine lv_bipush (v := 16) hx hb dX9_init_88 (by decide) ?_
  refine lv_iload_n hx hb dX9_init_90 rfl (lv_at hl 0 rfl) ?_
  refine lv_iadd hx hb dX9_init_91 ?_
  refine W.eq (g2 := F0 m 92 ls [.int (18 : Int32), .ref q_1]) rfl ?_
  refine lv_sipush (v := -1000) hx hb dX9_init_92 (by decide) ?_
  refine my_iast hx hb hK hP hD hS 1 0 rfl rfl 18 (rfl) (by decide) (by decide) dX9_init_95 (fun H locs hP hD hS => ?_)
  have hP : va_P D vwCl [(h0, .inr (9, [.ref q_1, .ref q_2, .int (0 : Int32), .int (0 : Int32), .int (0 : Int32), .long (0 : Int64)])), (q_1, .inl (cI, 129, .inl (upd (upd (upd (upd (upd (upd (upd (upd (upd (upd (upd (upd (fun _ => 0) 1 (3 : Int32)) 2 (10 : Int32)) 3 (50 : Int32)) 4 (2 : Int32)) 5 (500 : Int32)) 7 (1 : Int32)) 8 (1 : Int32)) 16 (-1000 : Int32)) 19 (-1000 : Int32)) 17 (-1000 : Int32)) 20 (-1000 : Int32)) 18 (-1000 : Int32)))), (q_2, .inl (cI, 516, .inl (fun _ => 0)))] H := hP
  have hD : va_D A [(h0, .inr (9, [.ref q_1, .ref q_2, .int (0 : Int32), .int (0 : Int32), .int (0 : Int32), .long (0 : Int64)])), (q_1, .inl (cI, 129, .inl (upd (upd (upd (upd (upd (upd (upd (upd (upd (upd (upd (upd (fun _ => 0) 1 (3 : Int32)) 2 (10 : Int32)) 3 (50 : Int32)) 4 (2 : Int32)) 5 (500 : Int32)) 7 (1 : Int32)) 8 (1 : Int32)) 16 (-1000 : Int32)) 19 (-1000 : Int32)) 17 (-1000 : Int32)) 20 (-1000 : Int32)) 18 (-1000 : Int32)))), (q_2, .inl (cI, 516, .inl (fun _ => 0)))] := hD
  refine lv_aload_n hx hb dX9_init_96 rfl (lv_at hl 1 rfl) ?_
  refine va_get (D := D) (ci := 9) (v := .ref q_1) (C := RX9) (T := TX9) (N := 6) hx hb hts hiX9 hown hK hP 0 rfl rfl 0 (by decide) hk_7 (fun _ h9 => h9) rfl dX9_init_97 ?_
  refine lv_bipush (v := 19) hx hb dX9_init_100 (by decide) ?_
  refine lv_iload_n hx hb dX9_init_102 rfl (lv_at hl 0 rfl) ?_
  refine lv_iadd hx hb dX9_init_103 ?_
  refine W.eq (g2 := F0 m 104 ls [.int (21 : Int32), .ref q_1]) rfl ?_
  refine lv_sipush (v := -1000) hx hb dX9_init_104 (by decide) ?_
  refine my_iast hx hb hK hP hD hS 1 0 rfl rfl 21 (rfl) (by decide) (by decide) dX9_init_107 (fun H locs hP hD hS => ?_)
  have hP : va_P D vwCl [(h0, .inr (9, [.ref q_1, .ref q_2, .int (0 : Int32), .int (0 : Int32), .int (0 : Int32), .long (0 : Int64)])), (q_1, .inl (cI, 129, .inl (upd (upd (upd (upd (upd (upd (upd (upd (upd (upd (upd (upd (upd (fun _ => 0) 1 (3 : Int32)) 2 (10 : Int32)) 3 (50 : Int32)) 4 (2 : Int32)) 5 (500 : Int32)) 7 (1 : Int32)) 8 (1 : Int32)) 16 (-1000 : Int32)) 19 (-1000 : Int32)) 17 (-1000 : Int32)) 20 (-1000 : Int32)) 18 (-1000 : Int32)) 21 (-1000 : Int32)))), (q_2, .inl (cI, 516, .inl (fun _ => 0)))] H := hP
  have hD : va_D A [(h0, .inr (9, [.ref q_1, .ref q_2, .int (0 : Int32), .int (0 : Int32), .int (0 : Int32), .long (0 : Int64)])), (q_1, .inl (cI, 129, .inl (upd (upd (upd (upd (upd (upd (upd (upd (upd (upd (upd (upd (upd (fun _ => 0) 1 (3 : Int32)) 2 (10 : Int32)) 3 (50 : Int32)) 4 (2 : Int32)) 5 (500 : Int32)) 7 (1 : Int32)) 8 (1 : Int32)) 16 (-1000 : Int32)) 19 (-1000 : Int32)) 17 (-1000 : Int32)) 20 (-1000 : Int32)) 18 (-1000 : Int32)) 21 (-1000 : Int32)))), (q_2, .inl (cI, 516, .inl (fun _ => 0)))] := hD
  refine lv_iinc (v := (3 : Int32)) (lv' := [(1, .int (3 : Int32)), (0, .ref h0)]) hx hb dX9_init_108 hl (k := 0) rfl (by decide) (by decide) rfl (fun ls hl => ?_)
  refine lv_goto (tgt := 79) hx hb dX9_init_111 (by decide) ?_
  refine lv_iload_n hx hb dX9_init_79 rfl (lv_at hl 0 rfl) ?_
  refine lv_iconst (v := 3) hx hb dX9_init_80 (by decide) ?_
  refine lv_icmp_ge (tgt := 114) hx hb dX9_init_81 (by decide) (fun _ => ?_) (fun c9 => absurd (by decide) c9)
  refine lv_aload_n hx hb dX9_init_114 rfl (lv_at hl 1 rfl) ?_
  refine va_get (D := D) (ci := 9) (v := .ref q_1) (C := RX9) (T := TX9) (N := 6) hx hb hts hiX9 hown hK hP 0 rfl rfl 0 (by decide) hk_7 (fun _ h9 => h9) rfl dX9_init_115 ?_
  refine lv_bipush (v := 33) hx hb dX9_init_118 (by decide) ?_
  refine lv_iconst (v := -1) hx hb dX9_init_120 (by decide) ?_
  refine my_iast hx hb hK hP hD hS 1 0 rfl rfl 33 (rfl) (by decide) (by decide) dX9_init_121 (fun H locs hP hD hS => ?_)
  have hP : va_P D vwCl [(h0, .inr (9, [.ref q_1, .ref q_2, .int (0 : Int32), .int (0 : Int32), .int (0 : Int32), .long (0 : Int64)])), (q_1, .inl (cI, 129, .inl (upd (upd (upd (upd (upd (upd (upd (upd (upd (upd (upd (upd (upd (upd (fun _ => 0) 1 (3 : Int32)) 2 (10 : Int32)) 3 (50 : Int32)) 4 (2 : Int32)) 5 (500 : Int32)) 7 (1 : Int32)) 8 (1 : Int32)) 16 (-1000 : Int32)) 19 (-1000 : Int32)) 17 (-1000 : Int32)) 20 (-1000 : Int32)) 18 (-1000 : Int32)) 21 (-1000 : Int32)) 33 (-1 : Int32)))), (q_2, .inl (cI, 516, .inl (fun _ => 0)))] H := hP
  have hD : va_D A [(h0, .inr (9, [.ref q_1, .ref q_2, .int (0 : Int32), .int (0 : Int32), .int (0 : Int32), .long (0 : Int64)])), (q_1, .inl (cI, 129, .inl (upd (upd (upd (upd (upd (upd (upd (upd (upd (upd (upd (upd (upd (upd (fun _ => 0) 1 (3 : Int32)) 2 (10 : Int32)) 3 (50 : Int32)) 4 (2 : Int32)) 5 (500 : Int32)) 7 (1 : Int32)) 8 (1 : Int32)) 16 (-1000 : Int32)) 19 (-1000 : Int32)) 17 (-1000 : Int32)) 20 (-1000 : Int32)) 18 (-1000 : Int32)) 21 (-1000 : Int32)) 33 (-1 : Int32)))), (q_2, .inl (cI, 516, .inl (fun _ => 0)))] := hD
  refine W.widen (k := 2) (n := 645) (Nat.le_of_ble_eq_true rfl) (Nat.le_of_ble_eq_true rfl) ?_
  exact my_vret hx hb hr hlocks hK hP hD hS (q_1, q_2) (trivial) [0, 1, 2] rfl rfl dX9_init_122
def F_X9_schedule (np : Int32) (th : Int32) (ed : Int32) (hh : Int64) (w : Nat → Int32) (pf : Nat → Int32) (t : Int32) (b : Int32) : Int32 × Int32 × Int32 × (Nat → Int32) × (Nat → Int32) :=
  let q1 := F_X9_in t (1 : Int32) (100000 : Int32)
  if q1 = (0 : Int32) then
    let q3 := F_X9_fails np th ed hh w pf (1 : Int32)
    (q3.1, (np, q3.2, w, pf))
  else
    let q4 := F_X9_in b (0 : Int32) (7 : Int32)
    if q4 = (0 : Int32) then
      let q10 := F_X9_fails np th ed hh w pf (1 : Int32)
      (q10.1, (np, q10.2, w, pf))
    else
      if w 48 = (40 : Int32) then
        let q9 := F_X9_fails np th ed hh w pf (2 : Int32)
        (q9.1, (np, q9.2, w, pf))
      else
        let q7 := F_X9_save np th ed hh w pf
        let q8 := F_X9_waits q7.1 q7.2.1 ed hh w q7.2.2 ((w 0) + t) b
        (q8 48, (q7.1, q7.2.1, q8, q7.2.2))
set_option maxHeartbeats 4000000 in
set_option maxRecDepth 100000 in
theorem met_X9_schedule (l : Launch) (D : va_G) (cI cJ cS : ClassId) (h0 : Nat) (a0 : Nat) (b0 : Nat) (np : Int32) (th : Int32) (ed : Int32) (hh : Int64) (w : Nat → Int32) (pf : Nat → Int32) (t : Int32) (b : Int32) (hz : vp_in np 5) (hv : vp_in (w 48) 41) : ∀ sz : Nat, Met l yX9_schedule wsX9_schedule ({ frames := 1, cells := 0, slots := 0, locals := 23 } : Room) (va_Pc [.ref h0, .int t, .int b] (cPre D (tyz cI cJ cS) ([(h0, .inr (9, [.ref a0, .ref b0, .int np, .int th, .int ed, .long hh])), (a0, .inl (cI, 129, .inl w)), (b0, .inl (cI, 516, .inl pf))]) sz)) (va_Qi (fun (r : Int32) (u : Int32 × Int32 × (Nat → Int32) × (Nat → Int32)) => (r, u) = F_X9_schedule np th ed hh w pf t b) (fun u => cPost D (tyz cI cJ cS) (va_A ([(h0, .inr (9, [.ref a0, .ref b0, .int np, .int th, .int ed, .long hh])), (a0, .inl (cI, 129, .inl w)), (b0, .inl (cI, 516, .inl pf))]) sz) ([(h0, .inr (9, [.ref a0, .ref b0, .int u.1, .int u.2.1, .int ed, .long hh])), (a0, .inl (cI, 129, .inl u.2.2.1)), (b0, .inl (cI, 516, .inl u.2.2.2))])) (va_A ([(h0, .inr (9, [.ref a0, .ref b0, .int np, .int th, .int ed, .long hh])), (a0, .inl (cI, 129, .inl w)), (b0, .inl (cI, 516, .inl pf))]) sz)) 0 0 (va_A ([(h0, .inr (9, [.ref a0, .ref b0, .int np, .int th, .int ed, .long hh])), (a0, .inl (cI, 129, .inl w)), (b0, .inl (cI, 516, .inl pf))]) sz) := by
  refine my_met (QC := fun A => (va_Qi (fun (r : Int32) (u : Int32 × Int32 × (Nat → Int32) × (Nat → Int32)) => (r, u) = F_X9_schedule np th ed hh w pf t b) (fun u => cPost D (tyz cI cJ cS) A ([(h0, .inr (9, [.ref a0, .ref b0, .int u.1, .int u.2.1, .int ed, .long hh])), (a0, .inl (cI, 129, .inl u.2.2.1)), (b0, .inl (cI, 516, .inl u.2.2.2))])) A)) (cc := cX9_schedule) (maxL := 3) (ret := (some .int)) (by decide) rfl (Nat.le_of_ble_eq_true rfl) ?_
  intro p e s m below meth c ls A hx hb hml hr hts hown hlocks hname hK hP hD hS hA hG hl
  have hown : s.vm.findClass RX9 = some m.cls := hown
  have hl : lv_has ls 3 [(0, .ref h0), (1, .int t), (2, .int b)] := hl
  have hP : va_P D vwCl [(h0, .inr (9, [.ref a0, .ref b0, .int np, .int th, .int ed, .long hh])), (a0, .inl (cI, 129, .inl w)), (b0, .inl (cI, 516, .inl pf))] s.heap := hP
  have hD : va_D A [(h0, .inr (9, [.ref a0, .ref b0, .int np, .int th, .int ed, .long hh])), (a0, .inl (cI, 129, .inl w)), (b0, .inl (cI, 516, .inl pf))] := hD
  have hiX9 : ∀ w ∈ u_ws RX9 TX9 6, w ∈ wsX9_schedule := by decide +kernel
  have hk_7 := hts (.fieldLink RX9 7 "HallCommutatorModel" "s" "[I") (by decide +kernel)
  refine lv_iload_n hx hb dX9_schedule_0 rfl (lv_at hl 1 rfl) ?_
  refine lv_iconst (v := 1) hx hb dX9_schedule_1 (by decide) ?_
  refine lv_ldc (v := 100000) hx hb hown (hts (.constant RX9 38 (100000)) (by decide +kernel)) dX9_schedule_2 ?_
  refine my_callS_i (As := [.int t, .int (1 : Int32), .int (100000 : Int32)]) (rest := []) (wc := []) (wr := [(h0, .inr (9, [.ref a0, .ref b0, .int np, .int th, .int ed, .long hh])), (a0, .inl (cI, 129, .inl w)), (b0, .inl (cI, 516, .inl pf))]) ⟨hx, hb, hml, hown, hts⟩ (met_X9_in l D cI cJ cS t (1 : Int32) (100000 : Int32) _) (va_cwS 3 hts gX9_schedule_X9_in rfl rfl rfl (by decide +kernel) ⟨Nat.le_of_ble_eq_true rfl, Nat.le_of_ble_eq_true rfl⟩) hK hP hD hS hA hG [] [0, 1, 2] rfl rfl rfl rfl (by decide) rfl hl.1 (Nat.le_of_ble_eq_true rfl) rfl dX9_schedule_4 ⟨Nat.le_of_ble_eq_true rfl, Nat.le_of_ble_eq_true rfl⟩ (fun r_1 _ H locs hw_1 hP hD hS => ?_)
  have hP : va_P D vwCl [(h0, .inr (9, [.ref a0, .ref b0, .int np, .int th, .int ed, .long hh])), (a0, .inl (cI, 129, .inl w)), (b0, .inl (cI, 516, .inl pf))] H := hP
  have hD : va_D A [(h0, .inr (9, [.ref a0, .ref b0, .int np, .int th, .int ed, .long hh])), (a0, .inl (cI, 129, .inl w)), (b0, .inl (cI, 516, .inl pf))] := hD
  refine lv_if_eq (tgt := 20) hx hb dX9_schedule_7 (by decide) (fun c_2 => ?_) (fun c_2 => ?_)
  · skip
    refine lv_aload_n hx hb dX9_schedule_20 rfl (lv_at hl 0 rfl) ?_
    refine lv_iconst (v := 1) hx hb dX9_schedule_21 (by decide) ?_
    refine my_callV_i (As := [.int (1 : Int32)]) (rest := []) (wc := [(h0, .inr (9, [.ref a0, .ref b0, .int np, .int th, .int ed, .long hh])), (a0, .inl (cI, 129, .inl w)), (b0, .inl (cI, 516, .inl pf))]) (wr := []) ⟨hx, hb, hml, hown, hts⟩ (met_X9_fails l D cI cJ cS h0 a0 b0 np th ed hh w pf (1 : Int32) _) (cwV 1 hts gX9_schedule_X9_fails rfl rfl rfl (by decide +kernel) ⟨Nat.le_of_ble_eq_true rfl, Nat.le_of_ble_eq_true rfl⟩) hK hP hD hS hA hG [0, 1, 2] [] rfl rfl rfl rfl (by decide) 0 rfl rfl rfl hl.1 (Nat.le_of_ble_eq_true rfl) rfl dX9_schedule_22 ⟨Nat.le_of_ble_eq_true rfl, Nat.le_of_ble_eq_true rfl⟩ (fun r_3 x_3_0 H locs hw_3 hP hD hS => ?_)
    have hP : va_P D vwCl [(h0, .inr (9, [.ref a0, .ref b0, .int np, .int x_3_0, .int ed, .long hh])), (a0, .inl (cI, 129, .inl w)), (b0, .inl (cI, 516, .inl pf))] H := hP
    have hD : va_D A [(h0, .inr (9, [.ref a0, .ref b0, .int np, .int x_3_0, .int ed, .long hh])), (a0, .inl (cI, 129, .inl w)), (b0, .inl (cI, 516, .inl pf))] := hD
    exact my_iret hx hb hr rfl hlocks hK hP hD hS (np, x_3_0, w, pf) (by show (r_3, (np, x_3_0, w, pf)) = F_X9_schedule np th ed hh w pf t b; simp only [F_X9_schedule, if_pos c_2, ← hw_1, ← hw_3]) [0, 1, 2] rfl rfl dX9_schedule_25
  · skip
    refine lv_iload_n hx hb dX9_schedule_10 rfl (lv_at hl 2 rfl) ?_
    refine lv_iconst (v := 0) hx hb dX9_schedule_11 (by decide) ?_
    refine lv_bipush (v := 7) hx hb dX9_schedule_12 (by decide) ?_
    refine my_callS_i (As := [.int b, .int (0 : Int32), .int (7 : Int32)]) (rest := []) (wc := []) (wr := [(h0, .inr (9, [.ref a0, .ref b0, .int np, .int th, .int ed, .long hh])), (a0, .inl (cI, 129, .inl w)), (b0, .inl (cI, 516, .inl pf))]) ⟨hx, hb, hml, hown, hts⟩ (met_X9_in l D cI cJ cS b (0 : Int32) (7 : Int32) _) (va_cwS 3 hts gX9_schedule_X9_in rfl rfl rfl (by decide +kernel) ⟨Nat.le_of_ble_eq_true rfl, Nat.le_of_ble_eq_true rfl⟩) hK hP hD hS hA hG [] [0, 1, 2] rfl rfl rfl rfl (by decide) rfl hl.1 (Nat.le_of_ble_eq_true rfl) rfl dX9_schedule_14 ⟨Nat.le_of_ble_eq_true rfl, Nat.le_of_ble_eq_true rfl⟩ (fun r_4 _ H locs hw_4 hP hD hS => ?_)
    have hP : va_P D vwCl [(h0, .inr (9, [.ref a0, .ref b0, .int np, .int th, .int ed, .long hh])), (a0, .inl (cI, 129, .inl w)), (b0, .inl (cI, 516, .inl pf))] H := hP
    have hD : va_D A [(h0, .inr (9, [.ref a0, .ref b0, .int np, .int th, .int ed, .long hh])), (a0, .inl (cI, 129, .inl w)), (b0, .inl (cI, 516, .inl pf))] := hD
    refine lv_if_ne (tgt := 26) hx hb dX9_schedule_17 (by decide) (fun c_5 => ?_) (fun c_5 => ?_)
    · skip
      refine lv_aload_n hx hb dX9_schedule_26 rfl (lv_at hl 0 rfl) ?_
      refine va_get (D := D) (ci := 9) (v := .ref a0) (C := RX9) (T := TX9) (N := 6) hx hb hts hiX9 hown hK hP 0 rfl rfl 0 (by decide) hk_7 (fun _ h9 => h9) rfl dX9_schedule_27 ?_
      refine lv_bipush (v := 48) hx hb dX9_schedule_30 (by decide) ?_
      refine my_iald hx hb hK hP 1 0 rfl rfl 48 (rfl) (by decide) (by decide) dX9_schedule_32 ?_
      refine lv_bipush (v := 40) hx hb dX9_schedule_33 (by decide) ?_
      refine lv_icmp_ne (tgt := 44) hx hb dX9_schedule_35 (by decide) (fun c_6 => ?_) (fun c_6 => ?_)
      · skip
        refine lv_aload_n hx hb dX9_schedule_44 rfl (lv_at hl 0 rfl) ?_
        refine my_callV_v (As := []) (rest := []) (wc := [(h0, .inr (9, [.ref a0, .ref b0, .int np, .int th, .int ed, .long hh])), (a0, .inl (cI, 129, .inl w)), (b0, .inl (cI, 516, .inl pf))]) (wr := []) ⟨hx, hb, hml, hown, hts⟩ (met_X9_save l D cI cJ cS h0 a0 b0 np th ed hh w pf (hz) _) (cwV 0 hts gX9_schedule_X9_save rfl rfl rfl (by decide +kernel) ⟨Nat.le_of_ble_eq_true rfl, Nat.le_of_ble_eq_true rfl⟩) hK hP hD hS hA hG [0, 1, 2] [] rfl rfl rfl rfl (by decide) 0 rfl rfl rfl hl.1 (Nat.le_of_ble_eq_true rfl) rfl dX9_schedule_45 ⟨Nat.le_of_ble_eq_true rfl, Nat.le_of_ble_eq_true rfl⟩ (fun u_7 H locs hw_7 hP hD hS => ?_)
        obtain ⟨x_7_0, x_7_1, x_7_2⟩ := u_7
        have hP : va_P D vwCl [(h0, .inr (9, [.ref a0, .ref b0, .int x_7_0, .int x_7_1, .int ed, .long hh])), (a0, .inl (cI, 129, .inl w)), (b0, .inl (cI, 516, .inl x_7_2))] H := hP
        have hD : va_D A [(h0, .inr (9, [.ref a0, .ref b0, .int x_7_0, .int x_7_1, .int ed, .long hh])), (a0, .inl (cI, 129, .inl w)), (b0, .inl (cI, 516, .inl x_7_2))] := hD
        refine lv_aload_n hx hb dX9_schedule_48 rfl (lv_at hl 0 rfl) ?_
        refine lv_aload_n hx hb dX9_schedule_49 rfl (lv_at hl 0 rfl) ?_
        refine va_get (D := D) (ci := 9) (v := .ref a0) (C := RX9) (T := TX9) (N := 6) hx hb hts hiX9 hown hK hP 0 rfl rfl 0 (by decide) hk_7 (fun _ h9 => h9) rfl dX9_schedule_50 ?_
        refine lv_iconst (v := 0) hx hb dX9_schedule_53 (by decide) ?_
        refine my_iald hx hb hK hP 1 0 rfl rfl 0 (rfl) (by decide) (by decide) dX9_schedule_54 ?_
        refine lv_iload_n hx hb dX9_schedule_55 rfl (lv_at hl 1 rfl) ?_
        refine lv_iadd hx hb dX9_schedule_56 ?_
        refine lv_iload_n hx hb dX9_schedule_57 rfl (lv_at hl 2 rfl) ?_
        refine my_callV_v (As := [.int ((w 0) + t), .int b]) (rest := []) (wc := [(h0, .inr (9, [.ref a0, .ref b0, .int x_7_0, .int x_7_1, .int ed, .long hh])), (a0, .inl (cI, 129, .inl w)), (b0, .inl (cI, 516, .inl x_7_2))]) (wr := []) ⟨hx, hb, hml, hown, hts⟩ (met_X9_waits l D cI cJ cS h0 a0 b0 x_7_0 x_7_1 ed hh w x_7_2 ((w 0) + t) b (vp_sub40 hv c_6) _) (cwV 2 hts gX9_schedule_X9_waits rfl rfl rfl (by decide +kernel) ⟨Nat.le_of_ble_eq_true rfl, Nat.le_of_ble_eq_true rfl⟩) hK hP hD hS hA hG [0, 1, 2] [] rfl rfl rfl rfl (by decide) 0 rfl rfl rfl hl.1 (Nat.le_of_ble_eq_true rfl) rfl dX9_schedule_58 ⟨Nat.le_of_ble_eq_true rfl, Nat.le_of_ble_eq_true rfl⟩ (fun x_8_0 H locs hw_8 hP hD hS => ?_)
        have hP : va_P D vwCl [(h0, .inr (9, [.ref a0, .ref b0, .int x_7_0, .int x_7_1, .int ed, .long hh])), (a0, .inl (cI, 129, .inl x_8_0)), (b0, .inl (cI, 516, .inl x_7_2))] H := hP
        have hD : va_D A [(h0, .inr (9, [.ref a0, .ref b0, .int x_7_0, .int x_7_1, .int ed, .long hh])), (a0, .inl (cI, 129, .inl x_8_0)), (b0, .inl (cI, 516, .inl x_7_2))] := hD
        refine lv_aload_n hx hb dX9_schedule_61 rfl (lv_at hl 0 rfl) ?_
        refine va_get (D := D) (ci := 9) (v := .ref a0) (C := RX9) (T := TX9) (N := 6) hx hb hts hiX9 hown hK hP 0 rfl rfl 0 (by decide) hk_7 (fun _ h9 => h9) rfl dX9_schedule_62 ?_
        refine lv_bipush (v := 48) hx hb dX9_schedule_65 (by decide) ?_
        refine my_iald hx hb hK hP 1 0 rfl rfl 48 (rfl) (by decide) (by decide) dX9_schedule_67 ?_
        exact my_iret hx hb hr rfl hlocks hK hP hD hS (x_7_0, x_7_1, x_8_0, x_7_2) (by show (x_8_0 48, (x_7_0, x_7_1, x_8_0, x_7_2)) = F_X9_schedule np th ed hh w pf t b; simp only [F_X9_schedule, if_neg c_2, if_neg c_5, if_neg c_6, ← hw_1, ← hw_4, ← hw_7, ← hw_8]) [0, 1, 2] rfl rfl dX9_schedule_68
      · skip
        refine lv_aload_n hx hb dX9_schedule_38 rfl (lv_at hl 0 rfl) ?_
        refine lv_iconst (v := 2) hx hb dX9_schedule_39 (by decide) ?_
        refine my_callV_i (As := [.int (2 : Int32)]) (rest := []) (wc := [(h0, .inr (9, [.ref a0, .ref b0, .int np, .int th, .int ed, .long hh])), (a0, .inl (cI, 129, .inl w)), (b0, .inl (cI, 516, .inl pf))]) (wr := []) ⟨hx, hb, hml, hown, hts⟩ (met_X9_fails l D cI cJ cS h0 a0 b0 np th ed hh w pf (2 : Int32) _) (cwV 1 hts gX9_schedule_X9_fails rfl rfl rfl (by decide +kernel) ⟨Nat.le_of_ble_eq_true rfl, Nat.le_of_ble_eq_true rfl⟩) hK hP hD hS hA hG [0, 1, 2] [] rfl rfl rfl rfl (by decide) 0 rfl rfl rfl hl.1 (Nat.le_of_ble_eq_true rfl) rfl dX9_schedule_40 ⟨Nat.le_of_ble_eq_true rfl, Nat.le_of_ble_eq_true rfl⟩ (fun r_9 x_9_0 H locs hw_9 hP hD hS => ?_)
        have hP : va_P D vwCl [(h0, .inr (9, [.ref a0, .ref b0, .int np, .int x_9_0, .int ed, .long hh])), (a0, .inl (cI, 129, .inl w)), (b0, .inl (cI, 516, .inl pf))] H := hP
        have hD : va_D A [(h0, .inr (9, [.ref a0, .ref b0, .int np, .int x_9_0, .int ed, .long hh])), (a0, .inl (cI, 129, .inl w)), (b0, .inl (cI, 516, .inl pf))] := hD
        exact my_iret hx hb hr rfl hlocks hK hP hD hS (np, x_9_0, w, pf) (by show (r_9, (np, x_9_0, w, pf)) = F_X9_schedule np th ed hh w pf t b; simp only [F_X9_schedule, if_neg c_2, if_neg c_5, if_pos c_6, ← hw_1, ← hw_4, ← hw_9]) [0, 1, 2] rfl rfl dX9_schedule_43
    · skip
      refine lv_aload_n hx hb dX9_schedule_20 rfl (lv_at hl 0 rfl) ?_
      refine lv_iconst (v := 1) hx hb dX9_schedule_21 (by decide) ?_
      refine my_callV_i (As := [.int (1 : Int32)]) (rest := []) (wc := [(h0, .inr (9, [.ref a0, .ref b0, .int np, .int th, .int ed, .long hh])), (a0, .inl (cI, 129, .inl w)), (b0, .inl (cI, 516, .inl pf))]) (wr := []) ⟨hx, hb, hml, hown, hts⟩ (met_X9_fails l D cI cJ cS h0 a0 b0 np th ed hh w pf (1 : Int32) _) (cwV 1 hts gX9_schedule_X9_fails rfl rfl rfl (by decide +kernel) ⟨Nat.le_of_ble_eq_true rfl, Nat.le_of_ble_eq_true rfl⟩) hK hP hD hS hA hG [0, 1, 2] [] rfl rfl rfl rfl (by decide) 0 rfl rfl rfl hl.1 (Nat.le_of_ble_eq_true rfl) rfl dX9_schedule_22 ⟨Nat.le_of_ble_eq_true rfl, Nat.le_of_ble_eq_true rfl⟩ (fun r_10 x_10_0 H locs hw_10 hP hD hS => ?_)
      have hP : va_P D vwCl [(h0, .inr (9, [.ref a0, .ref b0, .int np, .int x_10_0, .int ed, .long hh])), (a0, .inl (cI, 129, .inl w)), (b0, .inl (cI, 516, .inl pf))] H := hP
      have hD : va_D A [(h0, .inr (9, [.ref a0, .ref b0, .int np, .int x_10_0, .int ed, .long hh])), (a0, .inl (cI, 129, .inl w)), (b0, .inl (cI, 516, .inl pf))] := hD
      exact my_iret hx hb hr rfl hlocks hK hP hD hS (np, x_10_0, w, pf) (by show (r_10, (np, x_10_0, w, pf)) = F_X9_schedule np th ed hh w pf t b; simp only [F_X9_schedule, if_neg c_2, if_pos c_5, ← hw_1, ← hw_4, ← hw_10]) [0, 1, 2] rfl rfl dX9_schedule_25
def LP_X9_run : Nat → Int32 → Int32 → Int32 → Int64 → (Nat → Int32) → (Nat → Int32) → Int32 → Nat → (Nat) × (Int32) × (Nat → Int32)
  | 0, _, _, ed, _, w, _, _, i => (i, ed, w)
  | n + 1, np, th, ed, hh, w, pf, t, i =>
    if t ≤ nI i then
      (i, ed, w)
    else
      let q2 := F_X9_tick np th ed hh w pf
      LP_X9_run n np th q2.1 hh q2.2 pf t (i + 1)
set_option maxHeartbeats 4000000 in
set_option maxRecDepth 100000 in
theorem lps_X9_run {p : Program} (l : Launch) {e : Env} {R : Room} {s : State} {m : MethodId} {args : Array Value} {below : List Frame} {meth : Method} {c : Code} {A : Nat → Prop} {cells slots : Nat} {Q : State → Prop} (D : va_G) (cI cJ cS : ClassId) (hx : p.tables.exec = Jvm.exec) (hb : c.code = cX9_run) (hml : c.maxLocals = 3) (hown : s.vm.findClass RX9 = some m.cls) (hts : ∀ w ∈ wsX9_run, w.before args s = true) (hK : va_K D vwCl (tyz cI cJ cS) s) (hA : ∀ q, s.heap.size ≤ q → A q) (hG : gG A s s.heap) (hR1 : 4 ≤ R.frames) (hR2 : 88 ≤ R.locals) (hRc : cells ≤ R.cells) (hRs : slots ≤ R.slots) : ∀ (n : Nat) (h0 : Nat) (a0 : Nat) (b0 : Nat) (np : Int32) (th : Int32) (ed : Int32) (hh : Int64) (w : Nat → Int32) (pf : Nat → Int32) (t : Int32) (i : Nat) (H : Heap) (locs : List Loc) (ls : Array Slot), (vp_in t 5001) → (i ≤ tn t) → (tn t < i + n) → (∀ j, i + j < tn t → vp_in ((tit np th hh pf j (ed, w)).2 48) 41 ∧ vp_in ((tit np th hh pf j (ed, w)).2 35) 7) → va_P D vwCl [(h0, .inr (9, [.ref a0, .ref b0, .int np, .int th, .int ed, .long hh])), (a0, .inl (cI, 129, .inl w)), (b0, .inl (cI, 516, .inl pf))] H → va_D A [(h0, .inr (9, [.ref a0, .ref b0, .int np, .int th, .int ed, .long hh])), (a0, .inl (cI, 129, .inl w)), (b0, .inl (cI, 516, .inl pf))] → va_S A s.heap H locs → lv_has ls 3 [(0, .ref h0), (1, .int t), (2, .int (nI i))] → (∀ (y : (Nat) × (Int32) × (Nat → Int32)) (H : Heap) (locs : List Loc) (ls : Array Slot), y = LP_X9_run n np th ed hh w pf t i → va_P D vwCl [(h0, .inr (9, [.ref a0, .ref b0, .int np, .int th, .int y.2.1, .long hh])), (a0, .inl (cI, 129, .inl y.2.2)), (b0, .inl (cI, 516, .inl pf))] H → va_D A [(h0, .inr (9, [.ref a0, .ref b0, .int np, .int th, .int y.2.1, .long hh])), (a0, .inl (cI, 129, .inl y.2.2)), (b0, .inl (cI, 516, .inl pf))] → va_S A s.heap H locs → lv_has ls 3 [(0, .ref h0), (1, .int t), (2, .int (nI y.1))] → W p l e R s m args below meth c H locs cells slots Q (F0 m 38 ls [])) → W p l e R s m args below meth c H locs cells slots Q (F0 m 23 ls []) := by
  intro n
  induction n with
  | zero =>
    intro h0 a0 b0 np th ed hh w pf t i H locs ls ht hi hm hI
    exact absurd hm (by omega)
  | succ n ih =>
    intro h0 a0 b0 np th ed hh w pf t i H locs ls ht hi hm hI hP hD hS hl kk
    refine lv_iload_n hx hb dX9_run_23 rfl (lv_at hl 2 rfl) ?_
    refine lv_iload_n hx hb dX9_run_24 rfl (lv_at hl 1 rfl) ?_
    refine lv_icmp_ge (tgt := 38) hx hb dX9_run_25 (by decide) (fun c_1 => ?_) (fun c_1 => ?_)
    · skip
      exact kk (i, ed, w) _ _ _ (by simp only [LP_X9_run, if_pos c_1]) (hP.subm [0, 1, 2] rfl) (hD.sub [0, 1, 2] rfl rfl) hS (lv_sub hl [0, 1, 2] rfl)
    · skip
      refine lv_aload_n hx hb dX9_run_28 rfl (lv_at hl 0 rfl) ?_
      refine my_callV_v (As := []) (rest := []) (wc := [(h0, .inr (9, [.ref a0, .ref b0, .int np, .int th, .int ed, .long hh])), (a0, .inl (cI, 129, .inl w)), (b0, .inl (cI, 516, .inl pf))]) (wr := []) ⟨hx, hb, hml, hown, hts⟩ (met_X9_tick l D cI cJ cS h0 a0 b0 np th ed hh w pf ((hI 0 (by have := nz_lt ht hi c_1; omega)).1) ((hI 0 (by have := nz_lt ht hi c_1; omega)).2) _) (cwV 0 hts gX9_run_X9_tick rfl rfl rfl (by decide +kernel) ⟨Nat.le_trans (Nat.le_of_ble_eq_true rfl) hR1, Nat.le_trans (Nat.le_of_ble_eq_true rfl) hR2⟩) hK hP hD hS hA hG [0, 1, 2] [] rfl rfl rfl rfl (by decide) 0 rfl rfl rfl hl.1 (Nat.le_of_ble_eq_true rfl) rfl dX9_run_29 ⟨hRc, hRs⟩ (fun u_2 H locs hw_2 hP hD hS => ?_)
      obtain ⟨x_2_0, x_2_1⟩ := u_2
      have hP : va_P D vwCl [(h0, .inr (9, [.ref a0, .ref b0, .int np, .int th, .int x_2_0, .long hh])), (a0, .inl (cI, 129, .inl x_2_1)), (b0, .inl (cI, 516, .inl pf))] H := hP
      have hD : va_D A [(h0, .inr (9, [.ref a0, .ref b0, .int np, .int th, .int x_2_0, .long hh])), (a0, .inl (cI, 129, .inl x_2_1)), (b0, .inl (cI, 516, .inl pf))] := hD
      refine lv_iinc (v := nI (i + 1)) (lv' := [(2, .int (nI (i + 1))), (0, .ref h0), (1, .int t)]) hx hb dX9_run_32 hl (k := 2) rfl (nI_1 _) (by decide) rfl (fun ls hl => ?_)
      refine lv_goto (tgt := 23) hx hb dX9_run_35 (by decide) ?_
      exact ih h0 a0 b0 np th x_2_0 hh x_2_1 pf t (i + 1) _ _ _ (ht) (nz_lt ht hi c_1) (by omega) (fun j hj => by have := hI (j + 1) (by omega); rw [tit_s] at this; rw [← hw_2] at this; exact this) (hP.subm [0, 1, 2] rfl) (hD.sub [0, 1, 2] rfl rfl) hS (lv_sub hl [1, 2, 0] rfl) (fun y H locs ls hy => kk y H locs ls (by rw [hy]; simp only [LP_X9_run, if_neg c_1, ← hw_2]))
def F_X9_run (np : Int32) (th : Int32) (ed : Int32) (hh : Int64) (w : Nat → Int32) (pf : Nat → Int32) (t : Int32) : Int32 × Int32 × Int32 × Int32 × (Nat → Int32) × (Nat → Int32) :=
  let q1 := F_X9_in t (0 : Int32) (5000 : Int32)
  if q1 = (0 : Int32) then
    let q5 := F_X9_fails np th ed hh w pf (1 : Int32)
    (q5.1, (np, q5.2, ed, w, pf))
  else
    let q3 := F_X9_save np th ed hh w pf
    let q4 := LP_X9_run 5001 q3.1 q3.2.1 ed hh w q3.2.2 t 0
    (q4.2.2 0, (q3.1, q3.2.1, q4.2.1, q4.2.2, q3.2.2))
set_option maxHeartbeats 4000000 in
set_option maxRecDepth 100000 in
theorem met_X9_run (l : Launch) (D : va_G) (cI cJ cS : ClassId) (h0 : Nat) (a0 : Nat) (b0 : Nat) (np : Int32) (th : Int32) (ed : Int32) (hh : Int64) (w : Nat → Int32) (pf : Nat → Int32) (t : Int32) (hz : vp_in np 5) (hI : ∀ j, j < tn t → vp_in ((tit (F_X9_save np th ed hh w pf).1 (F_X9_save np th ed hh w pf).2.1 hh (F_X9_save np th ed hh w pf).2.2 j (ed, w)).2 48) 41 ∧ vp_in ((tit (F_X9_save np th ed hh w pf).1 (F_X9_save np th ed hh w pf).2.1 hh (F_X9_save np th ed hh w pf).2.2 j (ed, w)).2 35) 7) : ∀ sz : Nat, Met l yX9_run wsX9_run ({ frames := 4, cells := 0, slots := 0, locals := 88 } : Room) (va_Pc [.ref h0, .int t] (cPre D (tyz cI cJ cS) ([(h0, .inr (9, [.ref a0, .ref b0, .int np, .int th, .int ed, .long hh])), (a0, .inl (cI, 129, .inl w)), (b0, .inl (cI, 516, .inl pf))]) sz)) (va_Qi (fun (r : Int32) (u : Int32 × Int32 × Int32 × (Nat → Int32) × (Nat → Int32)) => (r, u) = F_X9_run np th ed hh w pf t) (fun u => cPost D (tyz cI cJ cS) (va_A ([(h0, .inr (9, [.ref a0, .ref b0, .int np, .int th, .int ed, .long hh])), (a0, .inl (cI, 129, .inl w)), (b0, .inl (cI, 516, .inl pf))]) sz) ([(h0, .inr (9, [.ref a0, .ref b0, .int u.1, .int u.2.1, .int u.2.2.1, .long hh])), (a0, .inl (cI, 129, .inl u.2.2.2.1)), (b0, .inl (cI, 516, .inl u.2.2.2.2))])) (va_A ([(h0, .inr (9, [.ref a0, .ref b0, .int np, .int th, .int ed, .long hh])), (a0, .inl (cI, 129, .inl w)), (b0, .inl (cI, 516, .inl pf))]) sz)) 0 0 (va_A ([(h0, .inr (9, [.ref a0, .ref b0, .int np, .int th, .int ed, .long hh])), (a0, .inl (cI, 129, .inl w)), (b0, .inl (cI, 516, .inl pf))]) sz) := by
  refine my_met (QC := fun A => (va_Qi (fun (r : Int32) (u : Int32 × Int32 × Int32 × (Nat → Int32) × (Nat → Int32)) => (r, u) = F_X9_run np th ed hh w pf t) (fun u => cPost D (tyz cI cJ cS) A ([(h0, .inr (9, [.ref a0, .ref b0, .int u.1, .int u.2.1, .int u.2.2.1, .long hh])), (a0, .inl (cI, 129, .inl u.2.2.2.1)), (b0, .inl (cI, 516, .inl u.2.2.2.2))])) A)) (cc := cX9_run) (maxL := 3) (ret := (some .int)) (by decide) rfl (Nat.le_of_ble_eq_true rfl) ?_
  intro p e s m below meth c ls A hx hb hml hr hts hown hlocks hname hK hP hD hS hA hG hl
  have hown : s.vm.findClass RX9 = some m.cls := hown
  have hl : lv_has ls 3 [(0, .ref h0), (1, .int t)] := hl
  have hP : va_P D vwCl [(h0, .inr (9, [.ref a0, .ref b0, .int np, .int th, .int ed, .long hh])), (a0, .inl (cI, 129, .inl w)), (b0, .inl (cI, 516, .inl pf))] s.heap := hP
  have hD : va_D A [(h0, .inr (9, [.ref a0, .ref b0, .int np, .int th, .int ed, .long hh])), (a0, .inl (cI, 129, .inl w)), (b0, .inl (cI, 516, .inl pf))] := hD
  have hiX9 : ∀ w ∈ u_ws RX9 TX9 6, w ∈ wsX9_run := by decide +kernel
  have hk_7 := hts (.fieldLink RX9 7 "HallCommutatorModel" "s" "[I") (by decide +kernel)
  refine lv_iload_n hx hb dX9_run_0 rfl (lv_at hl 1 rfl) ?_
  refine lv_iconst (v := 0) hx hb dX9_run_1 (by decide) ?_
  refine lv_sipush (v := 5000) hx hb dX9_run_2 (by decide) ?_
  refine my_callS_i (As := [.int t, .int (0 : Int32), .int (5000 : Int32)]) (rest := []) (wc := []) (wr := [(h0, .inr (9, [.ref a0, .ref b0, .int np, .int th, .int ed, .long hh])), (a0, .inl (cI, 129, .inl w)), (b0, .inl (cI, 516, .inl pf))]) ⟨hx, hb, hml, hown, hts⟩ (met_X9_in l D cI cJ cS t (0 : Int32) (5000 : Int32) _) (va_cwS 3 hts gX9_run_X9_in rfl rfl rfl (by decide +kernel) ⟨Nat.le_of_ble_eq_true rfl, Nat.le_of_ble_eq_true rfl⟩) hK hP hD hS hA hG [] [0, 1, 2] rfl rfl rfl rfl (by decide) rfl hl.1 (Nat.le_of_ble_eq_true rfl) rfl dX9_run_5 ⟨Nat.le_of_ble_eq_true rfl, Nat.le_of_ble_eq_true rfl⟩ (fun r_1 _ H locs hw_1 hP hD hS => ?_)
  have hP : va_P D vwCl [(h0, .inr (9, [.ref a0, .ref b0, .int np, .int th, .int ed, .long hh])), (a0, .inl (cI, 129, .inl w)), (b0, .inl (cI, 516, .inl pf))] H := hP
  have hD : va_D A [(h0, .inr (9, [.ref a0, .ref b0, .int np, .int th, .int ed, .long hh])), (a0, .inl (cI, 129, .inl w)), (b0, .inl (cI, 516, .inl pf))] := hD
  refine lv_if_ne (tgt := 17) hx hb dX9_run_8 (by decide) (fun c_2 => ?_) (fun c_2 => ?_)
  · skip
    refine lv_aload_n hx hb dX9_run_17 rfl (lv_at hl 0 rfl) ?_
    refine my_callV_v (As := []) (rest := []) (wc := [(h0, .inr (9, [.ref a0, .ref b0, .int np, .int th, .int ed, .long hh])), (a0, .inl (cI, 129, .inl w)), (b0, .inl (cI, 516, .inl pf))]) (wr := []) ⟨hx, hb, hml, hown, hts⟩ (met_X9_save l D cI cJ cS h0 a0 b0 np th ed hh w pf (hz) _) (cwV 0 hts gX9_run_X9_save rfl rfl rfl (by decide +kernel) ⟨Nat.le_of_ble_eq_true rfl, Nat.le_of_ble_eq_true rfl⟩) hK hP hD hS hA hG [0, 1, 2] [] rfl rfl rfl rfl (by decide) 0 rfl rfl rfl hl.1 (Nat.le_of_ble_eq_true rfl) rfl dX9_run_18 ⟨Nat.le_of_ble_eq_true rfl, Nat.le_of_ble_eq_true rfl⟩ (fun u_3 H locs hw_3 hP hD hS => ?_)
    obtain ⟨x_3_0, x_3_1, x_3_2⟩ := u_3
    have hP : va_P D vwCl [(h0, .inr (9, [.ref a0, .ref b0, .int x_3_0, .int x_3_1, .int ed, .long hh])), (a0, .inl (cI, 129, .inl w)), (b0, .inl (cI, 516, .inl x_3_2))] H := hP
    have hD : va_D A [(h0, .inr (9, [.ref a0, .ref b0, .int x_3_0, .int x_3_1, .int ed, .long hh])), (a0, .inl (cI, 129, .inl w)), (b0, .inl (cI, 516, .inl x_3_2))] := hD
    refine lv_iconst (v := 0) hx hb dX9_run_21 (by decide) ?_
    refine lv_istore_n (lv' := [(2, .int (0 : Int32)), (0, .ref h0), (1, .int t)]) hx hb dX9_run_22 rfl hl (by decide) rfl (fun ls hl => ?_)
    refine lps_X9_run l D cI cJ cS hx hb hml hown hts hK hA hG (Nat.le_of_ble_eq_true rfl) (Nat.le_of_ble_eq_true rfl) (Nat.le_of_ble_eq_true rfl) (Nat.le_of_ble_eq_true rfl) 5001 h0 a0 b0 x_3_0 x_3_1 ed hh w x_3_2 t 0 _ _ _ (in_vp 5000 hw_1 c_2 (by decide)) (Nat.zero_le _) (by have := tn_lt (in_vp 5000 hw_1 c_2 (by decide)); omega) (fun j hj => by have e1 := congrArg Prod.fst hw_3; have e2 := congrArg (fun q => q.2.2) hw_3; have e3 := congrArg (fun q => q.2.1) hw_3; dsimp only at e1 e2 e3; rw [e1, e2, e3]; exact hI j (by omega)) (hP.subm [0, 1, 2] rfl) (hD.sub [0, 1, 2] rfl rfl) hS (lv_sub hl [1, 2, 0] rfl) (fun y_4 H locs ls hw_4 hP hD hS hl => ?_)
    obtain ⟨y_4_0, y_4_1, y_4_2⟩ := y_4
    have hl : lv_has ls 3 [(0, .ref h0), (1, .int t), (2, .int (nI y_4_0))] := hl
    have hP : va_P D vwCl [(h0, .inr (9, [.ref a0, .ref b0, .int x_3_0, .int x_3_1, .int y_4_1, .long hh])), (a0, .inl (cI, 129, .inl y_4_2)), (b0, .inl (cI, 516, .inl x_3_2))] H := hP
    have hD : va_D A [(h0, .inr (9, [.ref a0, .ref b0, .int x_3_0, .int x_3_1, .int y_4_1, .long hh])), (a0, .inl (cI, 129, .inl y_4_2)), (b0, .inl (cI, 516, .inl x_3_2))] := hD
    refine lv_aload_n hx hb dX9_run_38 rfl (lv_at hl 0 rfl) ?_
    refine va_get (D := D) (ci := 9) (v := .ref a0) (C := RX9) (T := TX9) (N := 6) hx hb hts hiX9 hown hK hP 0 rfl rfl 0 (by decide) hk_7 (fun _ h9 => h9) rfl dX9_run_39 ?_
    refine lv_iconst (v := 0) hx hb dX9_run_42 (by decide) ?_
    refine my_iald hx hb hK hP 1 0 rfl rfl 0 (rfl) (by decide) (by decide) dX9_run_43 ?_
    exact my_iret hx hb hr rfl hlocks hK hP hD hS (x_3_0, x_3_1, y_4_1, y_4_2, x_3_2) (by show (y_4_2 0, (x_3_0, x_3_1, y_4_1, y_4_2, x_3_2)) = F_X9_run np th ed hh w pf t; simp only [F_X9_run, if_neg c_2, ← hw_1, ← hw_3, ← hw_4]) [0, 1, 2] rfl rfl dX9_run_44
  · skip
    refine lv_aload_n hx hb dX9_run_11 rfl (lv_at hl 0 rfl) ?_
    refine lv_iconst (v := 1) hx hb dX9_run_12 (by decide) ?_
    refine my_callV_i (As := [.int (1 : Int32)]) (rest := []) (wc := [(h0, .inr (9, [.ref a0, .ref b0, .int np, .int th, .int ed, .long hh])), (a0, .inl (cI, 129, .inl w)), (b0, .inl (cI, 516, .inl pf))]) (wr := []) ⟨hx, hb, hml, hown, hts⟩ (met_X9_fails l D cI cJ cS h0 a0 b0 np th ed hh w pf (1 : Int32) _) (cwV 1 hts gX9_run_X9_fails rfl rfl rfl (by decide +kernel) ⟨Nat.le_of_ble_eq_true rfl, Nat.le_of_ble_eq_true rfl⟩) hK hP hD hS hA hG [0, 1, 2] [] rfl rfl rfl rfl (by decide) 0 rfl rfl rfl hl.1 (Nat.le_of_ble_eq_true rfl) rfl dX9_run_13 ⟨Nat.le_of_ble_eq_true rfl, Nat.le_of_ble_eq_true rfl⟩ (fun r_5 x_5_0 H locs hw_5 hP hD hS => ?_)
    have hP : va_P D vwCl [(h0, .inr (9, [.ref a0, .ref b0, .int np, .int x_5_0, .int ed, .long hh])), (a0, .inl (cI, 129, .inl w)), (b0, .inl (cI, 516, .inl pf))] H := hP
    have hD : va_D A [(h0, .inr (9, [.ref a0, .ref b0, .int np, .int x_5_0, .int ed, .long hh])), (a0, .inl (cI, 129, .inl w)), (b0, .inl (cI, 516, .inl pf))] := hD
    exact my_iret hx hb hr rfl hlocks hK hP hD hS (np, x_5_0, ed, w, pf) (by show (r_5, (np, x_5_0, ed, w, pf)) = F_X9_run np th ed hh w pf t; simp only [F_X9_run, if_pos c_2, ← hw_1, ← hw_5]) [0, 1, 2] rfl rfl dX9_run_16
