def F_X0_wantedLeg (t : Int32) (b : Int32) (d : Int32) (o : Int32) : Int32 :=
  if b = (1 : Int32) then
    let q4 := F_X0_drivenLeg t (ent [0, 0, 1, 1, 2, 2] d) (ent [1, 2, 2, 0, 0, 1] d) o
    q4
  else
    if b = (2 : Int32) then
      let q6 := F_X0_drivenLeg t (ent [1, 2, 2, 0, 0, 1] d) (ent [0, 0, 1, 1, 2, 2] d) o
      q6
    else
      if b = (3 : Int32) then
        (-1 : Int32)
      else
        if b = (4 : Int32) then
          if o = (0 : Int32) then
            (0 : Int32)
          else
            if t = ent [0, 0, 1, 1, 2, 2] d then
              (-1 : Int32)
            else
              if t = ent [1, 2, 2, 0, 0, 1] d then
                (-1 : Int32)
              else
                (0 : Int32)
        else
          (0 : Int32)
set_option maxHeartbeats 4000000 in
set_option maxRecDepth 100000 in
theorem met_X0_wantedLeg (l : Launch) (D : va_G) (cI cJ cS : ClassId) (t : Int32) (b : Int32) (d : Int32) (o : Int32)  : ∀ sz : Nat, Met l yX0_wantedLeg wsX0_wantedLeg ({ frames := 1, cells := 0, slots := 0, locals := 40 } : Room) (va_Pc [.int t, .int b, .int d, .int o] (cPre D (tyz cI cJ cS) ([]) sz)) (va_Qi (fun (r : Int32) (_ : Unit) => r = F_X0_wantedLeg t b d o) (fun u => cPost D (tyz cI cJ cS) (va_A ([]) sz) ([])) (va_A ([]) sz)) 0 0 (va_A ([]) sz) := by
  refine my_met (QC := fun A => (va_Qi (fun (r : Int32) (_ : Unit) => r = F_X0_wantedLeg t b d o) (fun u => cPost D (tyz cI cJ cS) A ([])) A)) (cc := cX0_wantedLeg) (maxL := 6) (ret := (some .int)) (by decide) rfl (Nat.le_of_ble_eq_true rfl) ?_
  intro p e s m below meth c ls A hx hb hml hr hts hown hlocks hname hK hP hD hS hA hG hl
  have hown : s.vm.findClass RX0 = some m.cls := hown
  have hl : lv_has ls 6 [(0, .int t), (1, .int b), (2, .int d), (3, .int o)] := hl
  have hP : va_P D vwCl [] s.heap := hP
  have hD : va_D A [] := hD
  obtain ⟨t_1, hz_1, ht_1⟩ := hG.2.2.2.1
  refine va_getsN hx hb hz_1 hS hown (va_Nw.use rfl (hG.1.2.2.2.1 (64, "HIGH_LEG_OF_SECTOR") (by decide +kernel))) (fun _ h9 => h9) dX0_wantedLeg_0 ?_
  refine lv_iload_n hx hb dX0_wantedLeg_3 rfl (lv_at hl 2 rfl) ?_
  refine my_entryN (xs := [0, 0, 1, 1, 2, 2]) (i := d) (rest := []) ⟨hx, hb, hml, hown, hts⟩ ⟨va_cnB 2 hts gX0_wantedLeg_X8_entry_n67 rfl rfl rfl (hG.1.1 (RX0, 67, yX8_entry, "HallCommutator") (by decide +kernel)) (hts (.initialized RX8) (by decide +kernel)) (by decide +kernel) ⟨Nat.le_of_ble_eq_true rfl, Nat.le_of_ble_eq_true rfl⟩, hts (.static yX8_entry) (by decide +kernel), trivial⟩ hK hP hD hS hA hG ht_1 (by decide) hl.1 (Nat.le_of_ble_eq_true rfl) dX0_wantedLeg_4 ⟨Nat.le_of_ble_eq_true rfl, Nat.le_of_ble_eq_true rfl⟩ (fun H locs hP hD hS => ?_)
  have hP : va_P D vwCl [] H := hP
  have hD : va_D A [] := hD
  refine lv_istore (lv' := [(4, .int (ent [0, 0, 1, 1, 2, 2] d)), (0, .int t), (1, .int b), (2, .int d), (3, .int o)]) hx hb dX0_wantedLeg_7 hl (by decide) rfl (fun ls hl => ?_)
  obtain ⟨t_2, hz_2, ht_2⟩ := hG.2.2.2.2.1
  refine va_getsN hx hb hz_2 hS hown (va_Nw.use rfl (hG.1.2.2.2.1 (71, "LOW_LEG_OF_SECTOR") (by decide +kernel))) (fun _ h9 => h9) dX0_wantedLeg_9 ?_
  refine lv_iload_n hx hb dX0_wantedLeg_12 rfl (lv_at hl 3 rfl) ?_
  refine my_entryN (xs := [1, 2, 2, 0, 0, 1]) (i := d) (rest := []) ⟨hx, hb, hml, hown, hts⟩ ⟨va_cnB 2 hts gX0_wantedLeg_X8_entry_n67 rfl rfl rfl (hG.1.1 (RX0, 67, yX8_entry, "HallCommutator") (by decide +kernel)) (hts (.initialized RX8) (by decide +kernel)) (by decide +kernel) ⟨Nat.le_of_ble_eq_true rfl, Nat.le_of_ble_eq_true rfl⟩, hts (.static yX8_entry) (by decide +kernel), trivial⟩ hK hP hD hS hA hG ht_2 (by decide) hl.1 (Nat.le_of_ble_eq_true rfl) dX0_wantedLeg_13 ⟨Nat.le_of_ble_eq_true rfl, Nat.le_of_ble_eq_true rfl⟩ (fun H locs hP hD hS => ?_)
  have hP : va_P D vwCl [] H := hP
  have hD : va_D A [] := hD
  refine lv_istore (lv' := [(5, .int (ent [1, 2, 2, 0, 0, 1] d)), (4, .int (ent [0, 0, 1, 1, 2, 2] d)), (0, .int t), (1, .int b), (2, .int d), (3, .int o)]) hx hb dX0_wantedLeg_16 hl (by decide) rfl (fun ls hl => ?_)
  refine lv_iload_n hx hb dX0_wantedLeg_18 rfl (lv_at hl 3 rfl) ?_
  by_cases c_3 : b = (1 : Int32)
  · refine lv_tableIn (tgt := 48) hx hb dX0_wantedLeg_19 (by rw [c_3]; decide) (by rw [c_3]; decide) (by rw [c_3]; rfl) (by decide) ?_
    refine lv_iload_n hx hb dX0_wantedLeg_48 rfl (lv_at hl 2 rfl) ?_
    refine lv_iload hx hb dX0_wantedLeg_49 (lv_at hl 1 rfl) ?_
    refine lv_iload hx hb dX0_wantedLeg_51 (lv_at hl 0 rfl) ?_
    refine lv_iload_n hx hb dX0_wantedLeg_53 rfl (lv_at hl 5 rfl) ?_
    refine my_callS_i (As := [.int t, .int (ent [0, 0, 1, 1, 2, 2] d), .int (ent [1, 2, 2, 0, 0, 1] d), .int o]) (rest := []) (wc := []) (wr := []) ⟨hx, hb, hml, hown, hts⟩ (met_X0_drivenLeg l D cI cJ cS t (ent [0, 0, 1, 1, 2, 2] d) (ent [1, 2, 2, 0, 0, 1] d) o _) (va_cwS 4 hts gX0_wantedLeg_X0_drivenLeg rfl rfl rfl (by decide +kernel) ⟨Nat.le_of_ble_eq_true rfl, Nat.le_of_ble_eq_true rfl⟩) hK hP hD hS hA hG [] [] rfl rfl rfl rfl (by decide) rfl hl.1 (Nat.le_of_ble_eq_true rfl) rfl dX0_wantedLeg_54 ⟨Nat.le_of_ble_eq_true rfl, Nat.le_of_ble_eq_true rfl⟩ (fun r_4 _ H locs hw_4 hP hD hS => ?_)
    have hP : va_P D vwCl [] H := hP
    have hD : va_D A [] := hD
    exact my_iret hx hb hr rfl hlocks hK hP hD hS () (by show r_4 = F_X0_wantedLeg t b d o; simp only [F_X0_wantedLeg, if_pos c_3, ← hw_4]) [] rfl rfl dX0_wantedLeg_57
  · skip
    by_cases c_5 : b = (2 : Int32)
    · refine lv_tableIn (tgt := 58) hx hb dX0_wantedLeg_19 (by rw [c_5]; decide) (by rw [c_5]; decide) (by rw [c_5]; rfl) (by decide) ?_
      refine lv_iload_n hx hb dX0_wantedLeg_58 rfl (lv_at hl 2 rfl) ?_
      refine lv_iload hx hb dX0_wantedLeg_59 (lv_at hl 0 rfl) ?_
      refine lv_iload hx hb dX0_wantedLeg_61 (lv_at hl 1 rfl) ?_
      refine lv_iload_n hx hb dX0_wantedLeg_63 rfl (lv_at hl 5 rfl) ?_
      refine my_callS_i (As := [.int t, .int (ent [1, 2, 2, 0, 0, 1] d), .int (ent [0, 0, 1, 1, 2, 2] d), .int o]) (rest := []) (wc := []) (wr := []) ⟨hx, hb, hml, hown, hts⟩ (met_X0_drivenLeg l D cI cJ cS t (ent [1, 2, 2, 0, 0, 1] d) (ent [0, 0, 1, 1, 2, 2] d) o _) (va_cwS 4 hts gX0_wantedLeg_X0_drivenLeg rfl rfl rfl (by decide +kernel) ⟨Nat.le_of_ble_eq_true rfl, Nat.le_of_ble_eq_true rfl⟩) hK hP hD hS hA hG [] [] rfl rfl rfl rfl (by decide) rfl hl.1 (Nat.le_of_ble_eq_true rfl) rfl dX0_wantedLeg_64 ⟨Nat.le_of_ble_eq_true rfl, Nat.le_of_ble_eq_true rfl⟩ (fun r_6 _ H locs hw_6 hP hD hS => ?_)
      have hP : va_P D vwCl [] H := hP
      have hD : va_D A [] := hD
      exact my_iret hx hb hr rfl hlocks hK hP hD hS () (by show r_6 = F_X0_wantedLeg t b d o; simp only [F_X0_wantedLeg, if_neg c_3, if_pos c_5, ← hw_6]) [] rfl rfl dX0_wantedLeg_67
    · skip
      by_cases c_7 : b = (3 : Int32)
      · refine lv_tableIn (tgt := 68) hx hb dX0_wantedLeg_19 (by rw [c_7]; decide) (by rw [c_7]; decide) (by rw [c_7]; rfl) (by decide) ?_
        refine lv_iconst (v := -1) hx hb dX0_wantedLeg_68 (by decide) ?_
        exact my_iret hx hb hr rfl hlocks hK hP hD hS () (by show (-1 : Int32) = F_X0_wantedLeg t b d o; simp only [F_X0_wantedLeg, if_neg c_3, if_neg c_5, if_pos c_7]) [] rfl rfl dX0_wantedLeg_69
      · skip
        by_cases c_8 : b = (4 : Int32)
        · refine lv_tableIn (tgt := 70) hx hb dX0_wantedLeg_19 (by rw [c_8]; decide) (by rw [c_8]; decide) (by rw [c_8]; rfl) (by decide) ?_
          refine lv_iload_n hx hb dX0_wantedLeg_70 rfl (lv_at hl 5 rfl) ?_
          refine lv_if_eq (tgt := 90) hx hb dX0_wantedLeg_71 (by decide) (fun c_9 => ?_) (fun c_9 => ?_)
          · skip
            refine lv_iconst (v := 0) hx hb dX0_wantedLeg_90 (by decide) ?_
            exact my_iret hx hb hr rfl hlocks hK hP hD hS () (by show (0 : Int32) = F_X0_wantedLeg t b d o; simp only [F_X0_wantedLeg, if_neg c_3, if_neg c_5, if_neg c_7, if_pos c_8, if_pos c_9]) [] rfl rfl dX0_wantedLeg_91
          · skip
            refine lv_iload_n hx hb dX0_wantedLeg_74 rfl (lv_at hl 2 rfl) ?_
            refine lv_iload hx hb dX0_wantedLeg_75 (lv_at hl 1 rfl) ?_
            refine lv_icmp_eq (tgt := 86) hx hb dX0_wantedLeg_77 (by decide) (fun c_10 => ?_) (fun c_10 => ?_)
            · skip
              refine lv_iconst (v := -1) hx hb dX0_wantedLeg_86 (by decide) ?_
              refine lv_goto (tgt := 91) hx hb dX0_wantedLeg_87 (by decide) ?_
              exact my_iret hx hb hr rfl hlocks hK hP hD hS () (by show (-1 : Int32) = F_X0_wantedLeg t b d o; simp only [F_X0_wantedLeg, if_neg c_3, if_neg c_5, if_neg c_7, if_pos c_8, if_neg c_9, if_pos c_10]) [] rfl rfl dX0_wantedLeg_91
            · skip
              refine lv_iload_n hx hb dX0_wantedLeg_80 rfl (lv_at hl 2 rfl) ?_
              refine lv_iload hx hb dX0_wantedLeg_81 (lv_at hl 0 rfl) ?_
              refine lv_icmp_ne (tgt := 90) hx hb dX0_wantedLeg_83 (by decide) (fun c_11 => ?_) (fun c_11 => ?_)
              · skip
                refine lv_iconst (v := 0) hx hb dX0_wantedLeg_90 (by decide) ?_
                exact my_iret hx hb hr rfl hlocks hK hP hD hS () (by show (0 : Int32) = F_X0_wantedLeg t b d o; simp only [F_X0_wantedLeg, if_neg c_3, if_neg c_5, if_neg c_7, if_pos c_8, if_neg c_9, if_neg c_10, if_neg c_11]) [] rfl rfl dX0_wantedLeg_91
              · skip
                refine lv_iconst (v := -1) hx hb dX0_wantedLeg_86 (by decide) ?_
                refine lv_goto (tgt := 91) hx hb dX0_wantedLeg_87 (by decide) ?_
                exact my_iret hx hb hr rfl hlocks hK hP hD hS () (by show (-1 : Int32) = F_X0_wantedLeg t b d o; simp only [F_X0_wantedLeg, if_neg c_3, if_neg c_5, if_neg c_7, if_pos c_8, if_neg c_9, if_neg c_10, if_pos c_11]) [] rfl rfl dX0_wantedLeg_91
        · skip
          refine lv_tableOut (tgt := 92) hx hb dX0_wantedLeg_19 (sw_out_1_4 c_3 c_5 c_7 c_8) (by decide) ?_
          refine lv_iconst (v := 0) hx hb dX0_wantedLeg_92 (by decide) ?_
          exact my_iret hx hb hr rfl hlocks hK hP hD hS () (by show (0 : Int32) = F_X0_wantedLeg t b d o; simp only [F_X0_wantedLeg, if_neg c_3, if_neg c_5, if_neg c_7, if_neg c_8]) [] rfl rfl dX0_wantedLeg_93
def F_X0_setLegs (pu : Int32) (w0 : Nat → Int32) (w1 : Nat → Int32) (w2 : Nat → Int32) (w3 : Nat → Int32) (w4 : Nat → Int32) (f0 : Int32) (f1 : Int32) (f2 : Int32) (f3 : Int32) (f4 : Int32) (t : Int32) (b : Int32) (o : Int32) : (Nat → Int32) × (Nat → Int32) × (Nat → Int32) × (Nat → Int32) × (Nat → Int32) :=
  let q1 := F_X0_isPulseOn pu w0 w1 w2 w3 w4 f0 f1 f2 f3 f4
  let q2 := F_X0_wantedLeg (0 : Int32) t b q1
  let q3 := F_X0_afterDeadTime pu w0 w1 w2 w3 w4 0 q2 o f3
  let q4 := F_X0_switchLeg pu w0 w1 w2 w3 w4 0 q3 o
  let q5 := F_X0_wantedLeg (1 : Int32) t b q1
  let q6 := F_X0_afterDeadTime pu q4.1 q4.2.1 q4.2.2.1 q4.2.2.2.1 q4.2.2.2.2 1 q5 o f3
  let q7 := F_X0_switchLeg pu q4.1 q4.2.1 q4.2.2.1 q4.2.2.2.1 q4.2.2.2.2 1 q6 o
  let q8 := F_X0_wantedLeg (2 : Int32) t b q1
  let q9 := F_X0_afterDeadTime pu q7.1 q7.2.1 q7.2.2.1 q7.2.2.2.1 q7.2.2.2.2 2 q8 o f3
  let q10 := F_X0_switchLeg pu q7.1 q7.2.1 q7.2.2.1 q7.2.2.2.1 q7.2.2.2.2 2 q9 o
  (q10.1, q10.2.1, q10.2.2.1, q10.2.2.2.1, q10.2.2.2.2)
set_option maxHeartbeats 4000000 in
set_option maxRecDepth 100000 in
theorem met_X0_setLegs (l : Launch) (D : va_G) (cI cJ cS : ClassId) (h0 : Nat) (q0 : Nat) (q1 : Nat) (q2 : Nat) (q3 : Nat) (q4 : Nat) (h1 : Nat) (pu : Int32) (w0 : Nat → Int32) (w1 : Nat → Int32) (w2 : Nat → Int32) (w3 : Nat → Int32) (w4 : Nat → Int32) (f0 : Int32) (f1 : Int32) (f2 : Int32) (f3 : Int32) (f4 : Int32) (t : Int32) (b : Int32) (o : Int32)  : ∀ sz : Nat, Met l yX0_setLegs wsX0_setLegs ({ frames := 2, cells := 0, slots := 0, locals := 65 } : Room) (va_Pc [.ref h0, .int t, .int b, .ref h1, .int o] (cPre D (tyz cI cJ cS) ([(h0, .inr (0, [.int pu, .ref q0, .ref q1, .ref q2, .ref q3, .ref q4])), (q0, .inl (cI, 3, .inl w0)), (q1, .inl (cI, 3, .inl w1)), (q2, .inl (cI, 3, .inl w2)), (q3, .inl (cI, 3, .inl w3)), (q4, .inl (cI, 3, .inl w4)), (h1, .inr (6, [.int f0, .int f1, .int f2, .int f3, .int f4]))]) sz)) (va_Qv (fun (u : (Nat → Int32) × (Nat → Int32) × (Nat → Int32) × (Nat → Int32) × (Nat → Int32)) => u = F_X0_setLegs pu w0 w1 w2 w3 w4 f0 f1 f2 f3 f4 t b o) (fun u => cPost D (tyz cI cJ cS) (va_A ([(h0, .inr (0, [.int pu, .ref q0, .ref q1, .ref q2, .ref q3, .ref q4])), (q0, .inl (cI, 3, .inl w0)), (q1, .inl (cI, 3, .inl w1)), (q2, .inl (cI, 3, .inl w2)), (q3, .inl (cI, 3, .inl w3)), (q4, .inl (cI, 3, .inl w4)), (h1, .inr (6, [.int f0, .int f1, .int f2, .int f3, .int f4]))]) sz) ([(h0, .inr (0, [.int pu, .ref q0, .ref q1, .ref q2, .ref q3, .ref q4])), (q0, .inl (cI, 3, .inl u.1)), (q1, .inl (cI, 3, .inl u.2.1)), (q2, .inl (cI, 3, .inl u.2.2.1)), (q3, .inl (cI, 3, .inl u.2.2.2.1)), (q4, .inl (cI, 3, .inl u.2.2.2.2)), (h1, .inr (6, [.int f0, .int f1, .int f2, .int f3, .int f4]))])) (va_A ([(h0, .inr (0, [.int pu, .ref q0, .ref q1, .ref q2, .ref q3, .ref q4])), (q0, .inl (cI, 3, .inl w0)), (q1, .inl (cI, 3, .inl w1)), (q2, .inl (cI, 3, .inl w2)), (q3, .inl (cI, 3, .inl w3)), (q4, .inl (cI, 3, .inl w4)), (h1, .inr (6, [.int f0, .int f1, .int f2, .int f3, .int f4]))]) sz)) 0 0 (va_A ([(h0, .inr (0, [.int pu, .ref q0, .ref q1, .ref q2, .ref q3, .ref q4])), (q0, .inl (cI, 3, .inl w0)), (q1, .inl (cI, 3, .inl w1)), (q2, .inl (cI, 3, .inl w2)), (q3, .inl (cI, 3, .inl w3)), (q4, .inl (cI, 3, .inl w4)), (h1, .inr (6, [.int f0, .int f1, .int f2, .int f3, .int f4]))]) sz) := by
  refine my_met (QC := fun A => (va_Qv (fun (u : (Nat → Int32) × (Nat → Int32) × (Nat → Int32) × (Nat → Int32) × (Nat → Int32)) => u = F_X0_setLegs pu w0 w1 w2 w3 w4 f0 f1 f2 f3 f4 t b o) (fun u => cPost D (tyz cI cJ cS) A ([(h0, .inr (0, [.int pu, .ref q0, .ref q1, .ref q2, .ref q3, .ref q4])), (q0, .inl (cI, 3, .inl u.1)), (q1, .inl (cI, 3, .inl u.2.1)), (q2, .inl (cI, 3, .inl u.2.2.1)), (q3, .inl (cI, 3, .inl u.2.2.2.1)), (q4, .inl (cI, 3, .inl u.2.2.2.2)), (h1, .inr (6, [.int f0, .int f1, .int f2, .int f3, .int f4]))])) A)) (cc := cX0_setLegs) (maxL := 8) (ret := none) (by decide) rfl (Nat.le_of_ble_eq_true rfl) ?_
  intro p e s m below meth c ls A hx hb hml hr hts hown hlocks hname hK hP hD hS hA hG hl
  have hown : s.vm.findClass RX0 = some m.cls := hown
  have hl : lv_has ls 8 [(0, .ref h0), (1, .int t), (2, .int b), (3, .ref h1), (4, .int o)] := hl
  have hP : va_P D vwCl [(h0, .inr (0, [.int pu, .ref q0, .ref q1, .ref q2, .ref q3, .ref q4])), (q0, .inl (cI, 3, .inl w0)), (q1, .inl (cI, 3, .inl w1)), (q2, .inl (cI, 3, .inl w2)), (q3, .inl (cI, 3, .inl w3)), (q4, .inl (cI, 3, .inl w4)), (h1, .inr (6, [.int f0, .int f1, .int f2, .int f3, .int f4]))] s.heap := hP
  have hD : va_D A [(h0, .inr (0, [.int pu, .ref q0, .ref q1, .ref q2, .ref q3, .ref q4])), (q0, .inl (cI, 3, .inl w0)), (q1, .inl (cI, 3, .inl w1)), (q2, .inl (cI, 3, .inl w2)), (q3, .inl (cI, 3, .inl w3)), (q4, .inl (cI, 3, .inl w4)), (h1, .inr (6, [.int f0, .int f1, .int f2, .int f3, .int f4]))] := hD
  have hiX6 : ∀ w ∈ u_ws RX6 TX6 5, w ∈ wsX0_setLegs := by decide +kernel
  have hk_53 := hts (.fieldLink RX0 53 "HallCommutator$Settings" "deadTime" "I") (by decide +kernel)
  refine lv_aload_n hx hb dX0_setLegs_0 rfl (lv_at hl 0 rfl) ?_
  refine lv_aload_n hx hb dX0_setLegs_1 rfl (lv_at hl 3 rfl) ?_
  refine my_callV_i (As := [.ref h1]) (rest := []) (wc := [(h0, .inr (0, [.int pu, .ref q0, .ref q1, .ref q2, .ref q3, .ref q4])), (q0, .inl (cI, 3, .inl w0)), (q1, .inl (cI, 3, .inl w1)), (q2, .inl (cI, 3, .inl w2)), (q3, .inl (cI, 3, .inl w3)), (q4, .inl (cI, 3, .inl w4)), (h1, .inr (6, [.int f0, .int f1, .int f2, .int f3, .int f4]))]) (wr := []) ⟨hx, hb, hml, hown, hts⟩ (met_X0_isPulseOn l D cI cJ cS h0 q0 q1 q2 q3 q4 h1 pu w0 w1 w2 w3 w4 f0 f1 f2 f3 f4 _) (cwV 1 hts gX0_setLegs_X0_isPulseOn rfl rfl rfl (by decide +kernel) ⟨Nat.le_of_ble_eq_true rfl, Nat.le_of_ble_eq_true rfl⟩) hK hP hD hS hA hG [0, 1, 2, 3, 4, 5, 6] [] rfl rfl rfl rfl (by decide) 0 rfl rfl rfl hl.1 (Nat.le_of_ble_eq_true rfl) rfl dX0_setLegs_2 ⟨Nat.le_of_ble_eq_true rfl, Nat.le_of_ble_eq_true rfl⟩ (fun r_1 _ H locs hw_1 hP hD hS => ?_)
  have hP : va_P D vwCl [(h0, .inr (0, [.int pu, .ref q0, .ref q1, .ref q2, .ref q3, .ref q4])), (q0, .inl (cI, 3, .inl w0)), (q1, .inl (cI, 3, .inl w1)), (q2, .inl (cI, 3, .inl w2)), (q3, .inl (cI, 3, .inl w3)), (q4, .inl (cI, 3, .inl w4)), (h1, .inr (6, [.int f0, .int f1, .int f2, .int f3, .int f4]))] H := hP
  have hD : va_D A [(h0, .inr (0, [.int pu, .ref q0, .ref q1, .ref q2, .ref q3, .ref q4])), (q0, .inl (cI, 3, .inl w0)), (q1, .inl (cI, 3, .inl w1)), (q2, .inl (cI, 3, .inl w2)), (q3, .inl (cI, 3, .inl w3)), (q4, .inl (cI, 3, .inl w4)), (h1, .inr (6, [.int f0, .int f1, .int f2, .int f3, .int f4]))] := hD
  refine lv_istore (lv' := [(5, .int r_1), (0, .ref h0), (1, .int t), (2, .int b), (3, .ref h1), (4, .int o)]) hx hb dX0_setLegs_5 hl (by decide) rfl (fun ls hl => ?_)
  refine lv_iconst (v := 0) hx hb dX0_setLegs_7 (by decide) ?_
  refine lv_istore (lv' := [(6, .int (0 : Int32)), (5, .int r_1), (0, .ref h0), (1, .int t), (2, .int b), (3, .ref h1), (4, .int o)]) hx hb dX0_setLegs_8 hl (by decide) rfl (fun ls hl => ?_)
  refine lv_iload hx hb dX0_setLegs_10 (lv_at hl 0 rfl) ?_
  refine lv_iconst (v := 3) hx hb dX0_setLegs_12 (by decide) ?_
  refine lv_icmp_ge (tgt := 55) hx hb dX0_setLegs_13 (by decide) (fun c9 => absurd c9 (by decide)) (fun _ => ?_)
  refine lv_iload hx hb dX0_setLegs_16 (lv_at hl 0 rfl) ?_
  refine lv_iload_n hx hb dX0_setLegs_18 rfl (lv_at hl 3 rfl) ?_
  refine lv_iload_n hx hb dX0_setLegs_19 rfl (lv_at hl 4 rfl) ?_
  refine lv_iload hx hb dX0_setLegs_20 (lv_at hl 1 rfl) ?_
  refine my_callS_i (As := [.int (0 : Int32), .int t, .int b, .int r_1]) (rest := []) (wc := []) (wr := [(h0, .inr (0, [.int pu, .ref q0, .ref q1, .ref q2, .ref q3, .ref q4])), (q0, .inl (cI, 3, .inl w0)), (q1, .inl (cI, 3, .inl w1)), (q2, .inl (cI, 3, .inl w2)), (q3, .inl (cI, 3, .inl w3)), (q4, .inl (cI, 3, .inl w4)), (h1, .inr (6, [.int f0, .int f1, .int f2, .int f3, .int f4]))]) ⟨hx, hb, hml, hown, hts⟩ (met_X0_wantedLeg l D cI cJ cS (0 : Int32) t b r_1 _) (va_cwS 4 hts gX0_setLegs_X0_wantedLeg rfl rfl rfl (by decide +kernel) ⟨Nat.le_of_ble_eq_true rfl, Nat.le_of_ble_eq_true rfl⟩) hK hP hD hS hA hG [] [0, 1, 2, 3, 4, 5, 6] rfl rfl rfl rfl (by decide) rfl hl.1 (Nat.le_of_ble_eq_true rfl) rfl dX0_setLegs_22 ⟨Nat.le_of_ble_eq_true rfl, Nat.le_of_ble_eq_true rfl⟩ (fun r_2 _ H locs hw_2 hP hD hS => ?_)
  have hP : va_P D vwCl [(h0, .inr (0, [.int pu, .ref q0, .ref q1, .ref q2, .ref q3, .ref q4])), (q0, .inl (cI, 3, .inl w0)), (q1, .inl (cI, 3, .inl w1)), (q2, .inl (cI, 3, .inl w2)), (q3, .inl (cI, 3, .inl w3)), (q4, .inl (cI, 3, .inl w4)), (h1, .inr (6, [.int f0, .int f1, .int f2, .int f3, .int f4]))] H := hP
  have hD : va_D A [(h0, .inr (0, [.int pu, .ref q0, .ref q1, .ref q2, .ref q3, .ref q4])), (q0, .inl (cI, 3, .inl w0)), (q1, .inl (cI, 3, .inl w1)), (q2, .inl (cI, 3, .inl w2)), (q3, .inl (cI, 3, .inl w3)), (q4, .inl (cI, 3, .inl w4)), (h1, .inr (6, [.int f0, .int f1, .int f2, .int f3, .int f4]))] := hD
  refine lv_istore (lv' := [(7, .int r_2), (6, .int (0 : Int32)), (5, .int r_1), (0, .ref h0), (1, .int t), (2, .int b), (3, .ref h1), (4, .int o)]) hx hb dX0_setLegs_25 hl (by decide) rfl (fun ls hl => ?_)
  refine lv_aload_n hx hb dX0_setLegs_27 rfl (lv_at hl 3 rfl) ?_
  refine lv_iload hx hb dX0_setLegs_28 (lv_at hl 1 rfl) ?_
  refine lv_aload_n hx hb dX0_setLegs_30 rfl (lv_at hl 3 rfl) ?_
  refine lv_iload hx hb dX0_setLegs_31 (lv_at hl 1 rfl) ?_
  refine lv_iload hx hb dX0_setLegs_33 (lv_at hl 0 rfl) ?_
  refine lv_iload hx hb dX0_setLegs_35 (lv_at hl 7 rfl) ?_
  refine lv_aload_n hx hb dX0_setLegs_37 rfl (lv_at hl 6 rfl) ?_
  refine va_get (D := D) (ci := 6) (v := .int f3) (C := RX6) (T := TX6) (N := 5) hx hb hts hiX6 hown hK hP 6 rfl rfl 3 (by decide) hk_53 (fun _ h9 => h9) rfl dX0_setLegs_38 ?_
  refine my_callV_i (As := [.int (nI 0), .int r_2, .int o, .int f3]) (rest := [.int (0 : Int32), .ref h0]) (wc := [(h0, .inr (0, [.int pu, .ref q0, .ref q1, .ref q2, .ref q3, .ref q4])), (q0, .inl (cI, 3, .inl w0)), (q1, .inl (cI, 3, .inl w1)), (q2, .inl (cI, 3, .inl w2)), (q3, .inl (cI, 3, .inl w3)), (q4, .inl (cI, 3, .inl w4))]) (wr := [(h1, .inr (6, [.int f0, .int f1, .int f2, .int f3, .int f4]))]) ⟨hx, hb, hml, hown, hts⟩ (met_X0_afterDeadTime l D cI cJ cS h0 q0 q1 q2 q3 q4 pu w0 w1 w2 w3 w4 0 r_2 o f3 (by decide) _) (cwV 4 hts gX0_setLegs_X0_afterDeadTime rfl rfl rfl (by decide +kernel) ⟨Nat.le_of_ble_eq_true rfl, Nat.le_of_ble_eq_true rfl⟩) hK hP hD hS hA hG [0, 1, 2, 3, 4, 5] [6] rfl rfl rfl rfl (by decide) 0 rfl rfl rfl hl.1 (Nat.le_of_ble_eq_true rfl) rfl dX0_setLegs_41 ⟨Nat.le_of_ble_eq_true rfl, Nat.le_of_ble_eq_true rfl⟩ (fun r_3 _ H locs hw_3 hP hD hS => ?_)
  have hP : va_P D vwCl [(h1, .inr (6, [.int f0, .int f1, .int f2, .int f3, .int f4])), (h0, .inr (0, [.int pu, .ref q0, .ref q1, .ref q2, .ref q3, .ref q4])), (q0, .inl (cI, 3, .inl w0)), (q1, .inl (cI, 3, .inl w1)), (q2, .inl (cI, 3, .inl w2)), (q3, .inl (cI, 3, .inl w3)), (q4, .inl (cI, 3, .inl w4))] H := hP
  have hD : va_D A [(h1, .inr (6, [.int f0, .int f1, .int f2, .int f3, .int f4])), (h0, .inr (0, [.int pu, .ref q0, .ref q1, .ref q2, .ref q3, .ref q4])), (q0, .inl (cI, 3, .inl w0)), (q1, .inl (cI, 3, .inl w1)), (q2, .inl (cI, 3, .inl w2)), (q3, .inl (cI, 3, .inl w3)), (q4, .inl (cI, 3, .inl w4))] := hD
  refine lv_iload hx hb dX0_setLegs_44 (lv_at hl 7 rfl) ?_
  refine my_callV_v (As := [.int (nI 0), .int r_3, .int o]) (rest := []) (wc := [(h0, .inr (0, [.int pu, .ref q0, .ref q1, .ref q2, .ref q3, .ref q4])), (q0, .inl (cI, 3, .inl w0)), (q1, .inl (cI, 3, .inl w1)), (q2, .inl (cI, 3, .inl w2)), (q3, .inl (cI, 3, .inl w3)), (q4, .inl (cI, 3, .inl w4))]) (wr := [(h1, .inr (6, [.int f0, .int f1, .int f2, .int f3, .int f4]))]) ⟨hx, hb, hml, hown, hts⟩ (met_X0_switchLeg l D cI cJ cS h0 q0 q1 q2 q3 q4 pu w0 w1 w2 w3 w4 0 r_3 o (by decide) _) (cwV 3 hts gX0_setLegs_X0_switchLeg rfl rfl rfl (by decide +kernel) ⟨Nat.le_of_ble_eq_true rfl, Nat.le_of_ble_eq_true rfl⟩) hK hP hD hS hA hG [1, 2, 3, 4, 5, 6] [0] rfl rfl rfl rfl (by decide) 0 rfl rfl rfl hl.1 (Nat.le_of_ble_eq_true rfl) rfl dX0_setLegs_46 ⟨Nat.le_of_ble_eq_true rfl, Nat.le_of_ble_eq_true rfl⟩ (fun u_4 H locs hw_4 hP hD hS => ?_)
  obtain ⟨x_4_0, x_4_1, x_4_2, x_4_3, x_4_4⟩ := u_4
  have hP : va_P D vwCl [(h1, .inr (6, [.int f0, .int f1, .int f2, .int f3, .int f4])), (h0, .inr (0, [.int pu, .ref q0, .ref q1, .ref q2, .ref q3, .ref q4])), (q0, .inl (cI, 3, .inl x_4_0)), (q1, .inl (cI, 3, .inl x_4_1)), (q2, .inl (cI, 3, .inl x_4_2)), (q3, .inl (cI, 3, .inl x_4_3)), (q4, .inl (cI, 3, .inl x_4_4))] H := hP
  have hD : va_D A [(h1, .inr (6, [.int f0, .int f1, .int f2, .int f3, .int f4])), (h0, .inr (0, [.int pu, .ref q0, .ref q1, .ref q2, .ref q3, .ref q4])), (q0, .inl (cI, 3, .inl x_4_0)), (q1, .inl (cI, 3, .inl x_4_1)), (q2, .inl (cI, 3, .inl x_4_2)), (q3, .inl (cI, 3, .inl x_4_3)), (q4, .inl (cI, 3, .inl x_4_4))] := hD
  refine lv_iinc (v := (1 : Int32)) (lv' := [(6, .int (1 : Int32)), (7, .int r_2), (5, .int r_1), (0, .ref h0), (1, .int t), (2, .int b), (3, .ref h1), (4, .int o)]) hx hb dX0_setLegs_49 hl (k := 1) rfl (by decide) (by decide) rfl (fun ls hl => ?_)
  refine lv_goto (tgt := 10) hx hb dX0_setLegs_52 (by decide) ?_
  refine lv_iload hx hb dX0_setLegs_10 (lv_at hl 0 rfl) ?_
  refine lv_iconst (v := 3) hx hb dX0_setLegs_12 (by decide) ?_
  refine lv_icmp_ge (tgt := 55) hx hb dX0_setLegs_13 (by decide) (fun c9 => absurd c9 (by decide)) (fun _ => ?_)
  refine lv_iload hx hb dX0_setLegs_16 (lv_at hl 0 rfl) ?_
  refine lv_iload_n hx hb dX0_setLegs_18 rfl (lv_at hl 4 rfl) ?_
  refine lv_iload_n hx hb dX0_setLegs_19 rfl (lv_at hl 5 rfl) ?_
  refine lv_iload hx hb dX0_setLegs_20 (lv_at hl 2 rfl) ?_
  refine my_callS_i (As := [.int (1 : Int32), .int t, .int b, .int r_1]) (rest := []) (wc := []) (wr := [(h1, .inr (6, [.int f0, .int f1, .int f2, .int f3, .int f4])), (h0, .inr (0, [.int pu, .ref q0, .ref q1, .ref q2, .ref q3, .ref q4])), (q0, .inl (cI, 3, .inl x_4_0)), (q1, .inl (cI, 3, .inl x_4_1)), (q2, .inl (cI, 3, .inl x_4_2)), (q3, .inl (cI, 3, .inl x_4_3)), (q4, .inl (cI, 3, .inl x_4_4))]) ⟨hx, hb, hml, hown, hts⟩ (met_X0_wantedLeg l D cI cJ cS (1 : Int32) t b r_1 _) (va_cwS 4 hts gX0_setLegs_X0_wantedLeg rfl rfl rfl (by decide +kernel) ⟨Nat.le_of_ble_eq_true rfl, Nat.le_of_ble_eq_true rfl⟩) hK hP hD hS hA hG [] [0, 1, 2, 3, 4, 5, 6] rfl rfl rfl rfl (by decide) rfl hl.1 (Nat.le_of_ble_eq_true rfl) rfl dX0_setLegs_22 ⟨Nat.le_of_ble_eq_true rfl, Nat.le_of_ble_eq_true rfl⟩ (fun r_5 _ H locs hw_5 hP hD hS => ?_)
  have hP : va_P D vwCl [(h1, .inr (6, [.int f0, .int f1, .int f2, .int f3, .int f4])), (h0, .inr (0, [.int pu, .ref q0, .ref q1, .ref q2, .ref q3, .ref q4])), (q0, .inl (cI, 3, .inl x_4_0)), (q1, .inl (cI, 3, .inl x_4_1)), (q2, .inl (cI, 3, .inl x_4_2)), (q3, .inl (cI, 3, .inl x_4_3)), (q4, .inl (cI, 3, .inl x_4_4))] H := hP
  have hD : va_D A [(h1, .inr (6, [.int f0, .int f1, .int f2, .int f3, .int f4])), (h0, .inr (0, [.int pu, .ref q0, .ref q1, .ref q2, .ref q3, .ref q4])), (q0, .inl (cI, 3, .inl x_4_0)), (q1, .inl (cI, 3, .inl x_4_1)), (q2, .inl (cI, 3, .inl x_4_2)), (q3, .inl (cI, 3, .inl x_4_3)), (q4, .inl (cI, 3, .inl x_4_4))] := hD
  refine lv_istore (lv' := [(7, .int r_5), (6, .int (1 : Int32)), (5, .int r_1), (0, .ref h0), (1, .int t), (2, .int b), (3, .ref h1), (4, .int o)]) hx hb dX0_setLegs_25 hl (by decide) rfl (fun ls hl => ?_)
  refine lv_aload_n hx hb dX0_setLegs_27 rfl (lv_at hl 3 rfl) ?_
  refine lv_iload hx hb dX0_setLegs_28 (lv_at hl 1 rfl) ?_
  refine lv_aload_n hx hb dX0_setLegs_30 rfl (lv_at hl 3 rfl) ?_
  refine lv_iload hx hb dX0_setLegs_31 (lv_at hl 1 rfl) ?_
  refine lv_iload hx hb dX0_setLegs_33 (lv_at hl 0 rfl) ?_
  refine lv_iload hx hb dX0_setLegs_35 (lv_at hl 7 rfl) ?_
  refine lv_aload_n hx hb dX0_setLegs_37 rfl (lv_at hl 6 rfl) ?_
  refine va_get (D := D) (ci := 6) (v := .int f3) (C := RX6) (T := TX6) (N := 5) hx hb hts hiX6 hown hK hP 0 rfl rfl 3 (by decide) hk_53 (fun _ h9 => h9) rfl dX0_setLegs_38 ?_
  refine my_callV_i (As := [.int (nI 1), .int r_5, .int o, .int f3]) (rest := [.int (1 : Int32), .ref h0]) (wc := [(h0, .inr (0, [.int pu, .ref q0, .ref q1, .ref q2, .ref q3, .ref q4])), (q0, .inl (cI, 3, .inl x_4_0)), (q1, .inl (cI, 3, .inl x_4_1)), (q2, .inl (cI, 3, .inl x_4_2)), (q3, .inl (cI, 3, .inl x_4_3)), (q4, .inl (cI, 3, .inl x_4_4))]) (wr := [(h1, .inr (6, [.int f0, .int f1, .int f2, .int f3, .int f4]))]) ⟨hx, hb, hml, hown, hts⟩ (met_X0_afterDeadTime l D cI cJ cS h0 q0 q1 q2 q3 q4 pu x_4_0 x_4_1 x_4_2 x_4_3 x_4_4 1 r_5 o f3 (by decide) _) (cwV 4 hts gX0_setLegs_X0_afterDeadTime rfl rfl rfl (by decide +kernel) ⟨Nat.le_of_ble_eq_true rfl, Nat.le_of_ble_eq_true rfl⟩) hK hP hD hS hA hG [1, 2, 3, 4, 5, 6] [0] rfl rfl rfl rfl (by decide) 0 rfl rfl rfl hl.1 (Nat.le_of_ble_eq_true rfl) rfl dX0_setLegs_41 ⟨Nat.le_of_ble_eq_true rfl, Nat.le_of_ble_eq_true rfl⟩ (fun r_6 _ H locs hw_6 hP hD hS => ?_)
  have hP : va_P D vwCl [(h1, .inr (6, [.int f0, .int f1, .int f2, .int f3, .int f4])), (h0, .inr (0, [.int pu, .ref q0, .ref q1, .ref q2, .ref q3, .ref q4])), (q0, .inl (cI, 3, .inl x_4_0)), (q1, .inl (cI, 3, .inl x_4_1)), (q2, .inl (cI, 3, .inl x_4_2)), (q3, .inl (cI, 3, .inl x_4_3)), (q4, .inl (cI, 3, .inl x_4_4))] H := hP
  have hD : va_D A [(h1, .inr (6, [.int f0, .int f1, .int f2, .int f3, .int f4])), (h0, .inr (0, [.int pu, .ref q0, .ref q1, .ref q2, .ref q3, .ref q4])), (q0, .inl (cI, 3, .inl x_4_0)), (q1, .inl (cI, 3, .inl x_4_1)), (q2, .inl (cI, 3, .inl x_4_2)), (q3, .inl (cI, 3, .inl x_4_3)), (q4, .inl (cI, 3, .inl x_4_4))] := hD
  refine lv_iload hx hb dX0_setLegs_44 (lv_at hl 7 rfl) ?_
  refine my_callV_v (As := [.int (nI 1), .int r_6, .int o]) (rest := []) (wc := [(h0, .inr (0, [.int pu, .ref q0, .ref q1, .ref q2, .ref q3, .ref q4])), (q0, .inl (cI, 3, .inl x_4_0)), (q1, .inl (cI, 3, .inl x_4_1)), (q2, .inl (cI, 3, .inl x_4_2)), (q3, .inl (cI, 3, .inl x_4_3)), (q4, .inl (cI, 3, .inl x_4_4))]) (wr := [(h1, .inr (6, [.int f0, .int f1, .int f2, .int f3, .int f4]))]) ⟨hx, hb, hml, hown, hts⟩ (met_X0_switchLeg l D cI cJ cS h0 q0 q1 q2 q3 q4 pu x_4_0 x_4_1 x_4_2 x_4_3 x_4_4 1 r_6 o (by decide) _) (cwV 3 hts gX0_setLegs_X0_switchLeg rfl rfl rfl (by decide +kernel) ⟨Nat.le_of_ble_eq_true rfl, Nat.le_of_ble_eq_true rfl⟩) hK hP hD hS hA hG [1, 2, 3, 4, 5, 6] [0] rfl rfl rfl rfl (by decide) 0 rfl rfl rfl hl.1 (Nat.le_of_ble_eq_true rfl) rfl dX0_setLegs_46 ⟨Nat.le_of_ble_eq_true rfl, Nat.le_of_ble_eq_true rfl⟩ (fun u_7 H locs hw_7 hP hD hS => ?_)
  obtain ⟨x_7_0, x_7_1, x_7_2, x_7_3, x_7_4⟩ := u_7
  have hP : va_P D vwCl [(h1, .inr (6, [.int f0, .int f1, .int f2, .int f3, .int f4])), (h0, .inr (0, [.int pu, .ref q0, .ref q1, .ref q2, .ref q3, .ref q4])), (q0, .inl (cI, 3, .inl x_7_0)), (q1, .inl (cI, 3, .inl x_7_1)), (q2, .inl (cI, 3, .inl x_7_2)), (q3, .inl (cI, 3, .inl x_7_3)), (q4, .inl (cI, 3, .inl x_7_4))] H := hP
  have hD : va_D A [(h1, .inr (6, [.int f0, .int f1, .int f2, .int f3, .int f4])), (h0, .inr (0, [.int pu, .ref q0, .ref q1, .ref q2, .ref q3, .ref q4])), (q0, .inl (cI, 3, .inl x_7_0)), (q1, .inl (cI, 3, .inl x_7_1)), (q2, .inl (cI, 3, .inl x_7_2)), (q3, .inl (cI, 3, .inl x_7_3)), (q4, .inl (cI, 3, .inl x_7_4))] := hD
  refine lv_iinc (v := (2 : Int32)) (lv' := [(6, .int (2 : Int32)), (7, .int r_5), (5, .int r_1), (0, .ref h0), (1, .int t), (2, .int b), (3, .ref h1), (4, .int o)]) hx hb dX0_setLegs_49 hl (k := 1) rfl (by decide) (by decide) rfl (fun ls hl => ?_)
  refine lv_goto (tgt := 10) hx hb dX0_setLegs_52 (by decide) ?_
  refine lv_iload hx hb dX0_setLegs_10 (lv_at hl 0 rfl) ?_
  refine lv_iconst (v := 3) hx hb dX0_setLegs_12 (by decide) ?_
  refine lv_icmp_ge (tgt := 55) hx hb dX0_setLegs_13 (by decide) (fun c9 => absurd c9 (by decide)) (fun _ => ?_)
  refine lv_iload hx hb dX0_setLegs_16 (lv_at hl 0 rfl) ?_
  refine lv_iload_n hx hb dX0_setLegs_18 rfl (lv_at hl 4 rfl) ?_
  refine lv_iload_n hx hb dX0_setLegs_19 rfl (lv_at hl 5 rfl) ?_
  refine lv_iload hx hb dX0_setLegs_20 (lv_at hl 2 rfl) ?_
  refine my_callS_i (As := [.int (2 : Int32), .int t, .int b, .int r_1]) (rest := []) (wc := []) (wr := [(h1, .inr (6, [.int f0, .int f1, .int f2, .int f3, .int f4])), (h0, .inr (0, [.int pu, .ref q0, .ref q1, .ref q2, .ref q3, .ref q4])), (q0, .inl (cI, 3, .inl x_7_0)), (q1, .inl (cI, 3, .inl x_7_1)), (q2, .inl (cI, 3, .inl x_7_2)), (q3, .inl (cI, 3, .inl x_7_3)), (q4, .inl (cI, 3, .inl x_7_4))]) ⟨hx, hb, hml, hown, hts⟩ (met_X0_wantedLeg l D cI cJ cS (2 : Int32) t b r_1 _) (va_cwS 4 hts gX0_setLegs_X0_wantedLeg rfl rfl rfl (by decide +kernel) ⟨Nat.le_of_ble_eq_true rfl, Nat.le_of_ble_eq_true rfl⟩) hK hP hD hS hA hG [] [0, 1, 2, 3, 4, 5, 6] rfl rfl rfl rfl (by decide) rfl hl.1 (Nat.le_of_ble_eq_true rfl) rfl dX0_setLegs_22 ⟨Nat.le_of_ble_eq_true rfl, Nat.le_of_ble_eq_true rfl⟩ (fun r_8 _ H locs hw_8 hP hD hS => ?_)
  have hP : va_P D vwCl [(h1, .inr (6, [.int f0, .int f1, .int f2, .int f3, .int f4])), (h0, .inr (0, [.int pu, .ref q0, .ref q1, .ref q2, .ref q3, .ref q4])), (q0, .inl (cI, 3, .inl x_7_0)), (q1, .inl (cI, 3, .inl x_7_1)), (q2, .inl (cI, 3, .inl x_7_2)), (q3, .inl (cI, 3, .inl x_7_3)), (q4, .inl (cI, 3, .inl x_7_4))] H := hP
  have hD : va_D A [(h1, .inr (6, [.int f0, .int f1, .int f2, .int f3, .int f4])), (h0, .inr (0, [.int pu, .ref q0, .ref q1, .ref q2, .ref q3, .ref q4])), (q0, .inl (cI, 3, .inl x_7_0)), (q1, .inl (cI, 3, .inl x_7_1)), (q2, .inl (cI, 3, .inl x_7_2)), (q3, .inl (cI, 3, .inl x_7_3)), (q4, .inl (cI, 3, .inl x_7_4))] := hD
  refine lv_istore (lv' := [(7, .int r_8), (6, .int (2 : Int32)), (5, .int r_1), (0, .ref h0), (1, .int t), (2, .int b), (3, .ref h1), (4, .int o)]) hx hb dX0_setLegs_25 hl (by decide) rfl (fun ls hl => ?_)
  refine lv_aload_n hx hb dX0_setLegs_27 rfl (lv_at hl 3 rfl) ?_
  refine lv_iload hx hb dX0_setLegs_28 (lv_at hl 1 rfl) ?_
  refine lv_aload_n hx hb dX0_setLegs_30 rfl (lv_at hl 3 rfl) ?_
  refine lv_iload hx hb dX0_setLegs_31 (lv_at hl 1 rfl) ?_
  refine lv_iload hx hb dX0_setLegs_33 (lv_at hl 0 rfl) ?_
  refine lv_iload hx hb dX0_setLegs_35 (lv_at hl 7 rfl) ?_
  refine lv_aload_n hx hb dX0_setLegs_37 rfl (lv_at hl 6 rfl) ?_
  refine va_get (D := D) (ci := 6) (v := .int f3) (C := RX6) (T := TX6) (N := 5) hx hb hts hiX6 hown hK hP 0 rfl rfl 3 (by decide) hk_53 (fun _ h9 => h9) rfl dX0_setLegs_38 ?_
  refine my_callV_i (As := [.int (nI 2), .int r_8, .int o, .int f3]) (rest := [.int (2 : Int32), .ref h0]) (wc := [(h0, .inr (0, [.int pu, .ref q0, .ref q1, .ref q2, .ref q3, .ref q4])), (q0, .inl (cI, 3, .inl x_7_0)), (q1, .inl (cI, 3, .inl x_7_1)), (q2, .inl (cI, 3, .inl x_7_2)), (q3, .inl (cI, 3, .inl x_7_3)), (q4, .inl (cI, 3, .inl x_7_4))]) (wr := [(h1, .inr (6, [.int f0, .int f1, .int f2, .int f3, .int f4]))]) ⟨hx, hb, hml, hown, hts⟩ (met_X0_afterDeadTime l D cI cJ cS h0 q0 q1 q2 q3 q4 pu x_7_0 x_7_1 x_7_2 x_7_3 x_7_4 2 r_8 o f3 (by decide) _) (cwV 4 hts gX0_setLegs_X0_afterDeadTime rfl rfl rfl (by decide +kernel) ⟨Nat.le_of_ble_eq_true rfl, Nat.le_of_ble_eq_true rfl⟩) hK hP hD hS hA hG [1, 2, 3, 4, 5, 6] [0] rfl rfl rfl rfl (by decide) 0 rfl rfl rfl hl.1 (Nat.le_of_ble_eq_true rfl) rfl dX0_setLegs_41 ⟨Nat.le_of_ble_eq_true rfl, Nat.le_of_ble_eq_true rfl⟩ (fun r_9 _ H locs hw_9 hP hD hS => ?_)
  have hP : va_P D vwCl [(h1, .inr (6, [.int f0, .int f1, .int f2, .int f3, .int f4])), (h0, .inr (0, [.int pu, .ref q0, .ref q1, .ref q2, .ref q3, .ref q4])), (q0, .inl (cI, 3, .inl x_7_0)), (q1, .inl (cI, 3, .inl x_7_1)), (q2, .inl (cI, 3, .inl x_7_2)), (q3, .inl (cI, 3, .inl x_7_3)), (q4, .inl (cI, 3, .inl x_7_4))] H := hP
  have hD : va_D A [(h1, .inr (6, [.int f0, .int f1, .int f2, .int f3, .int f4])), (h0, .inr (0, [.int pu, .ref q0, .ref q1, .ref q2, .ref q3, .ref q4])), (q0, .inl (cI, 3, .inl x_7_0)), (q1, .inl (cI, 3, .inl x_7_1)), (q2, .inl (cI, 3, .inl x_7_2)), (q3, .inl (cI, 3, .inl x_7_3)), (q4, .inl (cI, 3, .inl x_7_4))] := hD
  refine lv_iload hx hb dX0_setLegs_44 (lv_at hl 7 rfl) ?_
  refine my_callV_v (As := [.int (nI 2), .int r_9, .int o]) (rest := []) (wc := [(h0, .inr (0, [.int pu, .ref q0, .ref q1, .ref q2, .ref q3, .ref q4])), (q0, .inl (cI, 3, .inl x_7_0)), (q1, .inl (cI, 3, .inl x_7_1)), (q2, .inl (cI, 3, .inl x_7_2)), (q3, .inl (cI, 3, .inl x_7_3)), (q4, .inl (cI, 3, .inl x_7_4))]) (wr := [(h1, .inr (6, [.int f0, .int f1, .int f2, .int f3, .int f4]))]) ⟨hx, hb, hml, hown, hts⟩ (met_X0_switchLeg l D cI cJ cS h0 q0 q1 q2 q3 q4 pu x_7_0 x_7_1 x_7_2 x_7_3 x_7_4 2 r_9 o (by decide) _) (cwV 3 hts gX0_setLegs_X0_switchLeg rfl rfl rfl (by decide +kernel) ⟨Nat.le_of_ble_eq_true rfl, Nat.le_of_ble_eq_true rfl⟩) hK hP hD hS hA hG [1, 2, 3, 4, 5, 6] [0] rfl rfl rfl rfl (by decide) 0 rfl rfl rfl hl.1 (Nat.le_of_ble_eq_true rfl) rfl dX0_setLegs_46 ⟨Nat.le_of_ble_eq_true rfl, Nat.le_of_ble_eq_true rfl⟩ (fun u_10 H locs hw_10 hP hD hS => ?_)
  obtain ⟨x_10_0, x_10_1, x_10_2, x_10_3, x_10_4⟩ := u_10
  have hP : va_P D vwCl [(h1, .inr (6, [.int f0, .int f1, .int f2, .int f3, .int f4])), (h0, .inr (0, [.int pu, .ref q0, .ref q1, .ref q2, .ref q3, .ref q4])), (q0, .inl (cI, 3, .inl x_10_0)), (q1, .inl (cI, 3, .inl x_10_1)), (q2, .inl (cI, 3, .inl x_10_2)), (q3, .inl (cI, 3, .inl x_10_3)), (q4, .inl (cI, 3, .inl x_10_4))] H := hP
  have hD : va_D A [(h1, .inr (6, [.int f0, .int f1, .int f2, .int f3, .int f4])), (h0, .inr (0, [.int pu, .ref q0, .ref q1, .ref q2, .ref q3, .ref q4])), (q0, .inl (cI, 3, .inl x_10_0)), (q1, .inl (cI, 3, .inl x_10_1)), (q2, .inl (cI, 3, .inl x_10_2)), (q3, .inl (cI, 3, .inl x_10_3)), (q4, .inl (cI, 3, .inl x_10_4))] := hD
  refine lv_iinc (v := (3 : Int32)) (lv' := [(6, .int (3 : Int32)), (7, .int r_8), (5, .int r_1), (0, .ref h0), (1, .int t), (2, .int b), (3, .ref h1), (4, .int o)]) hx hb dX0_setLegs_49 hl (k := 1) rfl (by decide) (by decide) rfl (fun ls hl => ?_)
  refine lv_goto (tgt := 10) hx hb dX0_setLegs_52 (by decide) ?_
  refine lv_iload hx hb dX0_setLegs_10 (lv_at hl 0 rfl) ?_
  refine lv_iconst (v := 3) hx hb dX0_setLegs_12 (by decide) ?_
  refine lv_icmp_ge (tgt := 55) hx hb dX0_setLegs_13 (by decide) (fun _ => ?_) (fun c9 => absurd (by decide) c9)
  exact my_vret hx hb hr hlocks hK hP hD hS (x_10_0, x_10_1, x_10_2, x_10_3, x_10_4) (by show (x_10_0, x_10_1, x_10_2, x_10_3, x_10_4) = F_X0_setLegs pu w0 w1 w2 w3 w4 f0 f1 f2 f3 f4 t b o; simp only [F_X0_setLegs, ← hw_1, ← hw_2, ← hw_3, ← hw_4, ← hw_5, ← hw_6, ← hw_7, ← hw_8, ← hw_9, ← hw_10]) [1, 2, 3, 4, 5, 6, 0] rfl rfl dX0_setLegs_55
def F_X0_mixInto (x : Int64) (pu : Int32) (w0 : Nat → Int32) (w1 : Nat → Int32) (w2 : Nat → Int32) (w3 : Nat → Int32) (w4 : Nat → Int32) : Int64 :=
  let q1 := F_X8_mix x pu
  let q2 := F_X8_mix q1 (w0 0)
  let q3 := F_X8_mix q2 (w0 1)
  let q4 := F_X8_mix q3 (w0 2)
  let q5 := F_X8_mix q4 (w1 0)
  let q6 := F_X8_mix q5 (w2 0)
  let q7 := F_X8_mix q6 (w1 1)
  let q8 := F_X8_mix q7 (w2 1)
  let q9 := F_X8_mix q8 (w1 2)
  let q10 := F_X8_mix q9 (w2 2)
  q10
set_option maxHeartbeats 4000000 in
set_option maxRecDepth 100000 in
theorem met_X0_mixInto (l : Launch) (D : va_G) (cI cJ cS : ClassId) (h0 : Nat) (q0 : Nat) (q1 : Nat) (q2 : Nat) (q3 : Nat) (q4 : Nat) (x : Int64) (pu : Int32) (w0 : Nat → Int32) (w1 : Nat → Int32) (w2 : Nat → Int32) (w3 : Nat → Int32) (w4 : Nat → Int32)  : ∀ sz : Nat, Met l yX0_mixInto wsX0_mixInto ({ frames := 1, cells := 0, slots := 0, locals := 22 } : Room) (va_Pc [.ref h0, .long x] (cPre D (tyz cI cJ cS) ([(h0, .inr (0, [.int pu, .ref q0, .ref q1, .ref q2, .ref q3, .ref q4])), (q0, .inl (cI, 3, .inl w0)), (q1, .inl (cI, 3, .inl w1)), (q2, .inl (cI, 3, .inl w2)), (q3, .inl (cI, 3, .inl w3)), (q4, .inl (cI, 3, .inl w4))]) sz)) (va_Ql (fun (r : Int64) (_ : Unit) => r = F_X0_mixInto x pu w0 w1 w2 w3 w4) (fun u => cPost D (tyz cI cJ cS) (va_A ([(h0, .inr (0, [.int pu, .ref q0, .ref q1, .ref q2, .ref q3, .ref q4])), (q0, .inl (cI, 3, .inl w0)), (q1, .inl (cI, 3, .inl w1)), (q2, .inl (cI, 3, .inl w2)), (q3, .inl (cI, 3, .inl w3)), (q4, .inl (cI, 3, .inl w4))]) sz) ([(h0, .inr (0, [.int pu, .ref q0, .ref q1, .ref q2, .ref q3, .ref q4])), (q0, .inl (cI, 3, .inl w0)), (q1, .inl (cI, 3, .inl w1)), (q2, .inl (cI, 3, .inl w2)), (q3, .inl (cI, 3, .inl w3)), (q4, .inl (cI, 3, .inl w4))])) (va_A ([(h0, .inr (0, [.int pu, .ref q0, .ref q1, .ref q2, .ref q3, .ref q4])), (q0, .inl (cI, 3, .inl w0)), (q1, .inl (cI, 3, .inl w1)), (q2, .inl (cI, 3, .inl w2)), (q3, .inl (cI, 3, .inl w3)), (q4, .inl (cI, 3, .inl w4))]) sz)) 0 0 (va_A ([(h0, .inr (0, [.int pu, .ref q0, .ref q1, .ref q2, .ref q3, .ref q4])), (q0, .inl (cI, 3, .inl w0)), (q1, .inl (cI, 3, .inl w1)), (q2, .inl (cI, 3, .inl w2)), (q3, .inl (cI, 3, .inl w3)), (q4, .inl (cI, 3, .inl w4))]) sz) := by
  refine my_met (QC := fun A => (va_Ql (fun (r : Int64) (_ : Unit) => r = F_X0_mixInto x pu w0 w1 w2 w3 w4) (fun u => cPost D (tyz cI cJ cS) A ([(h0, .inr (0, [.int pu, .ref q0, .ref q1, .ref q2, .ref q3, .ref q4])), (q0, .inl (cI, 3, .inl w0)), (q1, .inl (cI, 3, .inl w1)), (q2, .inl (cI, 3, .inl w2)), (q3, .inl (cI, 3, .inl w3)), (q4, .inl (cI, 3, .inl w4))])) A)) (cc := cX0_mixInto) (maxL := 6) (ret := (some .long)) (by decide) rfl (Nat.le_of_ble_eq_true rfl) ?_
  intro p e s m below meth c ls A hx hb hml hr hts hown hlocks hname hK hP hD hS hA hG hl
  have hown : s.vm.findClass RX0 = some m.cls := hown
  have hl : lv_has ls 6 [(0, .ref h0), (1, .long x)] := hl
  have hP : va_P D vwCl [(h0, .inr (0, [.int pu, .ref q0, .ref q1, .ref q2, .ref q3, .ref q4])), (q0, .inl (cI, 3, .inl w0)), (q1, .inl (cI, 3, .inl w1)), (q2, .inl (cI, 3, .inl w2)), (q3, .inl (cI, 3, .inl w3)), (q4, .inl (cI, 3, .inl w4))] s.heap := hP
  have hD : va_D A [(h0, .inr (0, [.int pu, .ref q0, .ref q1, .ref q2, .ref q3, .ref q4])), (q0, .inl (cI, 3, .inl w0)), (q1, .inl (cI, 3, .inl w1)), (q2, .inl (cI, 3, .inl w2)), (q3, .inl (cI, 3, .inl w3)), (q4, .inl (cI, 3, .inl w4))] := hD
  have hiX0 : ∀ w ∈ u_ws RX0 TX0 6, w ∈ wsX0_mixInto := by decide +kernel
  have hk_15 := hts (.fieldLink RX0 15 "HallCommutator$Drive" "legs" "[I") (by decide +kernel)
  have hk_19 := hts (.fieldLink RX0 19 "HallCommutator$Drive" "highTicks" "[I") (by decide +kernel)
  have hk_22 := hts (.fieldLink RX0 22 "HallCommutator$Drive" "lowTicks" "[I") (by decide +kernel)
  have hk_9 := hts (.fieldLink RX0 9 "HallCommutator$Drive" "pulseCounter" "I") (by decide +kernel)
  refine lv_lload_n hx hb dX0_mixInto_0 rfl (lv_at hl 1 rfl) ?_
  refine lv_aload_n hx hb dX0_mixInto_1 rfl (lv_at hl 0 rfl) ?_
  refine va_get (D := D) (ci := 0) (v := .int pu) (C := RX0) (T := TX0) (N := 6) hx hb hts hiX0 hown hK hP 0 rfl rfl 0 (by decide) hk_9 (fun _ h9 => h9) rfl dX0_mixInto_2 ?_
  refine my_callSN_l (As := [.long x, .int pu]) (rest := []) (wc := []) (wr := [(h0, .inr (0, [.int pu, .ref q0, .ref q1, .ref q2, .ref q3, .ref q4])), (q0, .inl (cI, 3, .inl w0)), (q1, .inl (cI, 3, .inl w1)), (q2, .inl (cI, 3, .inl w2)), (q3, .inl (cI, 3, .inl w3)), (q4, .inl (cI, 3, .inl w4))]) ⟨hx, hb, hml, hown, hts⟩ (met_X8_mix l D cI cJ cS x pu _) ⟨va_cnB 2 hts gX0_mixInto_X8_mix_n77 rfl rfl rfl (hG.1.1 (RX0, 77, yX8_mix, "HallCommutator") (by decide +kernel)) (hts (.initialized RX8) (by decide +kernel)) (by decide +kernel) ⟨Nat.le_of_ble_eq_true rfl, Nat.le_of_ble_eq_true rfl⟩, hts (.static yX8_mix) (by decide +kernel), trivial⟩ hK hP hD hS hA hG [] [0, 1, 2, 3, 4, 5] rfl rfl rfl rfl (by decide) rfl hl.1 (Nat.le_of_ble_eq_true rfl) rfl dX0_mixInto_5 ⟨Nat.le_of_ble_eq_true rfl, Nat.le_of_ble_eq_true rfl⟩ (fun r_1 _ H locs hw_1 hP hD hS => ?_)
  have hP : va_P D vwCl [(h0, .inr (0, [.int pu, .ref q0, .ref q1, .ref q2, .ref q3, .ref q4])), (q0, .inl (cI, 3, .inl w0)), (q1, .inl (cI, 3, .inl w1)), (q2, .inl (cI, 3, .inl w2)), (q3, .inl (cI, 3, .inl w3)), (q4, .inl (cI, 3, .inl w4))] H := hP
  have hD : va_D A [(h0, .inr (0, [.int pu, .ref q0, .ref q1, .ref q2, .ref q3, .ref q4])), (q0, .inl (cI, 3, .inl w0)), (q1, .inl (cI, 3, .inl w1)), (q2, .inl (cI, 3, .inl w2)), (q3, .inl (cI, 3, .inl w3)), (q4, .inl (cI, 3, .inl w4))] := hD
  refine lv_lstore_n (lv' := [(3, .long r_1), (0, .ref h0), (1, .long x)]) hx hb dX0_mixInto_8 rfl hl (by decide) rfl (fun ls hl => ?_)
  refine lv_iconst (v := 0) hx hb dX0_mixInto_9 (by decide) ?_
  refine lv_istore (lv' := [(5, .int (0 : Int32)), (3, .long r_1), (0, .ref h0), (1, .long x)]) hx hb dX0_mixInto_10 hl (by decide) rfl (fun ls hl => ?_)
  refine lv_iload hx hb dX0_mixInto_12 (lv_at hl 0 rfl) ?_
  refine lv_iconst (v := 3) hx hb dX0_mixInto_14 (by decide) ?_
  refine lv_icmp_ge (tgt := 36) hx hb dX0_mixInto_15 (by decide) (fun c9 => absurd c9 (by decide)) (fun _ => ?_)
  refine lv_lload_n hx hb dX0_mixInto_18 rfl (lv_at hl 1 rfl) ?_
  refine lv_aload_n hx hb dX0_mixInto_19 rfl (lv_at hl 2 rfl) ?_
  refine va_get (D := D) (ci := 0) (v := .ref q0) (C := RX0) (T := TX0) (N := 6) hx hb hts hiX0 hown hK hP 0 rfl rfl 1 (by decide) hk_15 (fun _ h9 => h9) rfl dX0_mixInto_20 ?_
  refine lv_iload hx hb dX0_mixInto_23 (lv_at hl 0 rfl) ?_
  refine my_iald hx hb hK hP 1 0 rfl rfl 0 (rfl) (by decide) (by decide) dX0_mixInto_25 ?_
  refine my_callSN_l (As := [.long r_1, .int (w0 0)]) (rest := []) (wc := []) (wr := [(h0, .inr (0, [.int pu, .ref q0, .ref q1, .ref q2, .ref q3, .ref q4])), (q0, .inl (cI, 3, .inl w0)), (q1, .inl (cI, 3, .inl w1)), (q2, .inl (cI, 3, .inl w2)), (q3, .inl (cI, 3, .inl w3)), (q4, .inl (cI, 3, .inl w4))]) ⟨hx, hb, hml, hown, hts⟩ (met_X8_mix l D cI cJ cS r_1 (w0 0) _) ⟨va_cnB 2 hts gX0_mixInto_X8_mix_n77 rfl rfl rfl (hG.1.1 (RX0, 77, yX8_mix, "HallCommutator") (by decide +kernel)) (hts (.initialized RX8) (by decide +kernel)) (by decide +kernel) ⟨Nat.le_of_ble_eq_true rfl, Nat.le_of_ble_eq_true rfl⟩, hts (.static yX8_mix) (by decide +kernel), trivial⟩ hK hP hD hS hA hG [] [0, 1, 2, 3, 4, 5] rfl rfl rfl rfl (by decide) rfl hl.1 (Nat.le_of_ble_eq_true rfl) rfl dX0_mixInto_26 ⟨Nat.le_of_ble_eq_true rfl, Nat.le_of_ble_eq_true rfl⟩ (fun r_2 _ H locs hw_2 hP hD hS => ?_)
  have hP : va_P D vwCl [(h0, .inr (0, [.int pu, .ref q0, .ref q1, .ref q2, .ref q3, .ref q4])), (q0, .inl (cI, 3, .inl w0)), (q1, .inl (cI, 3, .inl w1)), (q2, .inl (cI, 3, .inl w2)), (q3, .inl (cI, 3, .inl w3)), (q4, .inl (cI, 3, .inl w4))] H := hP
  have hD : va_D A [(h0, .inr (0, [.int pu, .ref q0, .ref q1, .ref q2, .ref q3, .ref q4])), (q0, .inl (cI, 3, .inl w0)), (q1, .inl (cI, 3, .inl w1)), (q2, .inl (cI, 3, .inl w2)), (q3, .inl (cI, 3, .inl w3)), (q4, .inl (cI, 3, .inl w4))] := hD
  refine lv_lstore_n (lv' := [(3, .long r_2), (5, .int (0 : Int32)), (0, .ref h0), (1, .long x)]) hx hb dX0_mixInto_29 rfl hl (by decide) rfl (fun ls hl => ?_)
  refine lv_iinc (v := (1 : Int32)) (lv' := [(5, .int (1 : Int32)), (3, .long r_2), (0, .ref h0), (1, .long x)]) hx hb dX0_mixInto_30 hl (k := 1) rfl (by decide) (by decide) rfl (fun ls hl => ?_)
  refine lv_goto (tgt := 12) hx hb dX0_mixInto_33 (by decide) ?_
  refine lv_iload hx hb dX0_mixInto_12 (lv_at hl 0 rfl) ?_
  refine lv_iconst (v := 3) hx hb dX0_mixInto_14 (by decide) ?_
  refine lv_icmp_ge (tgt := 36) hx hb dX0_mixInto_15 (by decide) (fun c9 => absurd c9 (by decide)) (fun _ => ?_)
  refine lv_lload_n hx hb dX0_mixInto_18 rfl (lv_at hl 1 rfl) ?_
  refine lv_aload_n hx hb dX0_mixInto_19 rfl (lv_at hl 2 rfl) ?_
  refine va_get (D := D) (ci := 0) (v := .ref q0) (C := RX0) (T := TX0) (N := 6) hx hb hts hiX0 hown hK hP 0 rfl rfl 1 (by decide) hk_15 (fun _ h9 => h9) rfl dX0_mixInto_20 ?_
  refine lv_iload hx hb dX0_mixInto_23 (lv_at hl 0 rfl) ?_
  refine my_iald hx hb hK hP 1 0 rfl rfl 1 (rfl) (by decide) (by decide) dX0_mixInto_25 ?_
  refine my_callSN_l (As := [.long r_2, .int (w0 1)]) (rest := []) (wc := []) (wr := [(h0, .inr (0, [.int pu, .ref q0, .ref q1, .ref q2, .ref q3, .ref q4])), (q0, .inl (cI, 3, .inl w0)), (q1, .inl (cI, 3, .inl w1)), (q2, .inl (cI, 3, .inl w2)), (q3, .inl (cI, 3, .inl w3)), (q4, .inl (cI, 3, .inl w4))]) ⟨hx, hb, hml, hown, hts⟩ (met_X8_mix l D cI cJ cS r_2 (w0 1) _) ⟨va_cnB 2 hts gX0_mixInto_X8_mix_n77 rfl rfl rfl (hG.1.1 (RX0, 77, yX8_mix, "HallCommutator") (by decide +kernel)) (hts (.initialized RX8) (by decide +kernel)) (by decide +kernel) ⟨Nat.le_of_ble_eq_true rfl, Nat.le_of_ble_eq_true rfl⟩, hts (.static yX8_mix) (by decide +kernel), trivial⟩ hK hP hD hS hA hG [] [0, 1, 2, 3, 4, 5] rfl rfl rfl rfl (by decide) rfl hl.1 (Nat.le_of_ble_eq_true rfl) rfl dX0_mixInto_26 ⟨Nat.le_of_ble_eq_true rfl, Nat.le_of_ble_eq_true rfl⟩ (fun r_3 _ H locs hw_3 hP hD hS => ?_)
  have hP : va_P D vwCl [(h0, .inr (0, [.int pu, .ref q0, .ref q1, .ref q2, .ref q3, .ref q4])), (q0, .inl (cI, 3, .inl w0)), (q1, .inl (cI, 3, .inl w1)), (q2, .inl (cI, 3, .inl w2)), (q3, .inl (cI, 3, .inl w3)), (q4, .inl (cI, 3, .inl w4))] H := hP
  have hD : va_D A [(h0, .inr (0, [.int pu, .ref q0, .ref q1, .ref q2, .ref q3, .ref q4])), (q0, .inl (cI, 3, .inl w0)), (q1, .inl (cI, 3, .inl w1)), (q2, .inl (cI, 3, .inl w2)), (q3, .inl (cI, 3, .inl w3)), (q4, .inl (cI, 3, .inl w4))] := hD
  refine lv_lstore_n (lv' := [(3, .long r_3), (5, .int (1 : Int32)), (0, .ref h0), (1, .long x)]) hx hb dX0_mixInto_29 rfl hl (by decide) rfl (fun ls hl => ?_)
  refine lv_iinc (v := (2 : Int32)) (lv' := [(5, .int (2 : Int32)), (3, .long r_3), (0, .ref h0), (1, .long x)]) hx hb dX0_mixInto_30 hl (k := 1) rfl (by decide) (by decide) rfl (fun ls hl => ?_)
  refine lv_goto (tgt := 12) hx hb dX0_mixInto_33 (by decide) ?_
  refine lv_iload hx hb dX0_mixInto_12 (lv_at hl 0 rfl) ?_
  refine lv_iconst (v := 3) hx hb dX0_mixInto_14 (by decide) ?_
  refine lv_icmp_ge (tgt := 36) hx hb dX0_mixInto_15 (by decide) (fun c9 => absurd c9 (by decide)) (fun _ => ?_)
  refine lv_lload_n hx hb dX0_mixInto_18 rfl (lv_at hl 1 rfl) ?_
  refine lv_aload_n hx hb dX0_mixInto_19 rfl (lv_at hl 2 rfl) ?_
  refine va_get (D := D) (ci := 0) (v := .ref q0) (C := RX0) (T := TX0) (N := 6) hx hb hts hiX0 hown hK hP 0 rfl rfl 1 (by decide) hk_15 (fun _ h9 => h9) rfl dX0_mixInto_20 ?_
  refine lv_iload hx hb dX0_mixInto_23 (lv_at hl 0 rfl) ?_
  refine my_iald hx hb hK hP 1 0 rfl rfl 2 (rfl) (by decide) (by decide) dX0_mixInto_25 ?_
  refine my_callSN_l (As := [.long r_3, .int (w0 2)]) (rest := []) (wc := []) (wr := [(h0, .inr (0, [.int pu, .ref q0, .ref q1, .ref q2, .ref q3, .ref q4])), (q0, .inl (cI, 3, .inl w0)), (q1, .inl (cI, 3, .inl w1)), (q2, .inl (cI, 3, .inl w2)), (q3, .inl (cI, 3, .inl w3)), (q4, .inl (cI, 3, .inl w4))]) ⟨hx, hb, hml, hown, hts⟩ (met_X8_mix l D cI cJ cS r_3 (w0 2) _) ⟨va_cnB 2 hts gX0_mixInto_X8_mix_n77 rfl rfl rfl (hG.1.1 (RX0, 77, yX8_mix, "HallCommutator") (by decide +kernel)) (hts (.initialized RX8) (by decide +kernel)) (by decide +kernel) ⟨Nat.le_of_ble_eq_true rfl, Nat.le_of_ble_eq_true rfl⟩, hts (.static yX8_mix) (by decide +kernel), trivial⟩ hK hP hD hS hA hG [] [0, 1, 2, 3, 4, 5] rfl rfl rfl rfl (by decide) rfl hl.1 (Nat.le_of_ble_eq_true rfl) rfl dX0_mixInto_26 ⟨Nat.le_of_ble_eq_true rfl, Nat.le_of_ble_eq_true rfl⟩ (fun r_4 _ H locs hw_4 hP hD hS => ?_)
  have hP : va_P D vwCl [(h0, .inr (0, [.int pu, .ref q0, .ref q1, .ref q2, .ref q3, .ref q4])), (q0, .inl (cI, 3, .inl w0)), (q1, .inl (cI, 3, .inl w1)), (q2, .inl (cI, 3, .inl w2)), (q3, .inl (cI, 3, .inl w3)), (q4, .inl (cI, 3, .inl w4))] H := hP
  have hD : va_D A [(h0, .inr (0, [.int pu, .ref q0, .ref q1, .ref q2, .ref q3, .ref q4])), (q0, .inl (cI, 3, .inl w0)), (q1, .inl (cI, 3, .inl w1)), (q2, .inl (cI, 3, .inl w2)), (q3, .inl (cI, 3, .inl w3)), (q4, .inl (cI, 3, .inl w4))] := hD
  refine lv_lstore_n (lv' := [(3, .long r_4), (5, .int (2 : Int32)), (0, .ref h0), (1, .long x)]) hx hb dX0_mixInto_29 rfl hl (by decide) rfl (fun ls hl => ?_)
  refine lv_iinc (v := (3 : Int32)) (lv' := [(5, .int (3 : Int32)), (3, .long r_4), (0, .ref h0), (1, .long x)]) hx hb dX0_mixInto_30 hl (k := 1) rfl (by decide) (by decide) rfl (fun ls hl => ?_)
  refine lv_goto (tgt := 12) hx hb dX0_mixInto_33 (by decide) ?_
  refine lv_iload hx hb dX0_mixInto_12 (lv_at hl 0 rfl) ?_
  refine lv_iconst (v := 3) hx hb dX0_mixInto_14 (by decide) ?_
  refine lv_icmp_ge (tgt := 36) hx hb dX0_mixInto_15 (by decide) (fun _ => ?_) (fun c9 => absurd (by decide) c9)
  refine lv_iconst (v := 0) hx hb dX0_mixInto_36 (by decide) ?_
  refine lv_istore (lv' := [(5, .int (0 : Int32)), (3, .long r_4), (0, .ref h0), (1, .long x)]) hx hb dX0_mixInto_37 hl (by decide) rfl (fun ls hl => ?_)
  refine lv_iload hx hb dX0_mixInto_39 (lv_at hl 0 rfl) ?_
  refine lv_iconst (v := 3) hx hb dX0_mixInto_41 (by decide) ?_
  refine lv_icmp_ge (tgt := 75) hx hb dX0_mixInto_42 (by decide) (fun c9 => absurd c9 (by decide)) (fun _ => ?_)
  refine lv_lload_n hx hb dX0_mixInto_45 rfl (lv_at hl 1 rfl) ?_
  refine lv_aload_n hx hb dX0_mixInto_46 rfl (lv_at hl 2 rfl) ?_
  refine va_get (D := D) (ci := 0) (v := .ref q1) (C := RX0) (T := TX0) (N := 6) hx hb hts hiX0 hown hK hP 0 rfl rfl 2 (by decide) hk_19 (fun _ h9 => h9) rfl dX0_mixInto_47 ?_
  refine lv_iload hx hb dX0_mixInto_50 (lv_at hl 0 rfl) ?_
  refine my_iald hx hb hK hP 2 0 rfl rfl 0 (rfl) (by decide) (by decide) dX0_mixInto_52 ?_
  refine my_callSN_l (As := [.long r_4, .int (w1 0)]) (rest := []) (wc := []) (wr := [(h0, .inr (0, [.int pu, .ref q0, .ref q1, .ref q2, .ref q3, .ref q4])), (q0, .inl (cI, 3, .inl w0)), (q1, .inl (cI, 3, .inl w1)), (q2, .inl (cI, 3, .inl w2)), (q3, .inl (cI, 3, .inl w3)), (q4, .inl (cI, 3, .inl w4))]) ⟨hx, hb, hml, hown, hts⟩ (met_X8_mix l D cI cJ cS r_4 (w1 0) _) ⟨va_cnB 2 hts gX0_mixInto_X8_mix_n77 rfl rfl rfl (hG.1.1 (RX0, 77, yX8_mix, "HallCommutator") (by decide +kernel)) (hts (.initialized RX8) (by decide +kernel)) (by decide +kernel) ⟨Nat.le_of_ble_eq_true rfl, Nat.le_of_ble_eq_true rfl⟩, hts (.static yX8_mix) (by decide +kernel), trivial⟩ hK hP hD hS hA hG [] [0, 1, 2, 3, 4, 5] rfl rfl rfl rfl (by decide) rfl hl.1 (Nat.le_of_ble_eq_true rfl) rfl dX0_mixInto_53 ⟨Nat.le_of_ble_eq_true rfl, Nat.le_of_ble_eq_true rfl⟩ (fun r_5 _ H locs hw_5 hP hD hS => ?_)
  have hP : va_P D vwCl [(h0, .inr (0, [.int pu, .ref q0, .ref q1, .ref q2, .ref q3, .ref q4])), (q0, .inl (cI, 3, .inl w0)), (q1, .inl (cI, 3, .inl w1)), (q2, .inl (cI, 3, .inl w2)), (q3, .inl (cI, 3, .inl w3)), (q4, .inl (cI, 3, .inl w4))] H := hP
  have hD : va_D A [(h0, .inr (0, [.int pu, .ref q0, .ref q1, .ref q2, .ref q3, .ref q4])), (q0, .inl (cI, 3, .inl w0)), (q1, .inl (cI, 3, .inl w1)), (q2, .inl (cI, 3, .inl w2)), (q3, .inl (cI, 3, .inl w3)), (q4, .inl (cI, 3, .inl w4))] := hD
  refine lv_lstore_n (lv' := [(3, .long r_5), (5, .int (0 : Int32)), (0, .ref h0), (1, .long x)]) hx hb dX0_mixInto_56 rfl hl (by decide) rfl (fun ls hl => ?_)
  refine lv_lload_n hx hb dX0_mixInto_57 rfl (lv_at hl 0 rfl) ?_
  refine lv_aload_n hx hb dX0_mixInto_58 rfl (lv_at hl 2 rfl) ?_
  refine va_get (D := D) (ci := 0) (v := .ref q2) (C := RX0) (T := TX0) (N := 6) hx hb hts hiX0 hown hK hP 0 rfl rfl 3 (by decide) hk_22 (fun _ h9 => h9) rfl dX0_mixInto_59 ?_
  refine lv_iload hx hb dX0_mixInto_62 (lv_at hl 1 rfl) ?_
  refine my_iald hx hb hK hP 3 0 rfl rfl 0 (rfl) (by decide) (by decide) dX0_mixInto_64 ?_
  refine my_callSN_l (As := [.long r_5, .int (w2 0)]) (rest := []) (wc := []) (wr := [(h0, .inr (0, [.int pu, .ref q0, .ref q1, .ref q2, .ref q3, .ref q4])), (q0, .inl (cI, 3, .inl w0)), (q1, .inl (cI, 3, .inl w1)), (q2, .inl (cI, 3, .inl w2)), (q3, .inl (cI, 3, .inl w3)), (q4, .inl (cI, 3, .inl w4))]) ⟨hx, hb, hml, hown, hts⟩ (met_X8_mix l D cI cJ cS r_5 (w2 0) _) ⟨va_cnB 2 hts gX0_mixInto_X8_mix_n77 rfl rfl rfl (hG.1.1 (RX0, 77, yX8_mix, "HallCommutator") (by decide +kernel)) (hts (.initialized RX8) (by decide +kernel)) (by decide +kernel) ⟨Nat.le_of_ble_eq_true rfl, Nat.le_of_ble_eq_true rfl⟩, hts (.static yX8_mix) (by decide +kernel), trivial⟩ hK hP hD hS hA hG [] [0, 1, 2, 3, 4, 5] rfl rfl rfl rfl (by decide) rfl hl.1 (Nat.le_of_ble_eq_true rfl) rfl dX0_mixInto_65 ⟨Nat.le_of_ble_eq_true rfl, Nat.le_of_ble_eq_true rfl⟩ (fun r_6 _ H locs hw_6 hP hD hS => ?_)
  have hP : va_P D vwCl [(h0, .inr (0, [.int pu, .ref q0, .ref q1, .ref q2, .ref q3, .ref q4])), (q0, .inl (cI, 3, .inl w0)), (q1, .inl (cI, 3, .inl w1)), (q2, .inl (cI, 3, .inl w2)), (q3, .inl (cI, 3, .inl w3)), (q4, .inl (cI, 3, .inl w4))] H := hP
  have hD : va_D A [(h0, .inr (0, [.int pu, .ref q0, .ref q1, .ref q2, .ref q3, .ref q4])), (q0, .inl (cI, 3, .inl w0)), (q1, .inl (cI, 3, .inl w1)), (q2, .inl (cI, 3, .inl w2)), (q3, .inl (cI, 3, .inl w3)), (q4, .inl (cI, 3, .inl w4))] := hD
  refine lv_lstore_n (lv' := [(3, .long r_6), (5, .int (0 : Int32)), (0, .ref h0), (1, .long x)]) hx hb dX0_mixInto_68 rfl hl (by decide) rfl (fun ls hl => ?_)
  refine lv_iinc (v := (1 : Int32)) (lv' := [(5, .int (1 : Int32)), (3, .long r_6), (0, .ref h0), (1, .long x)]) hx hb dX0_mixInto_69 hl (k := 1) rfl (by decide) (by decide) rfl (fun ls hl => ?_)
  refine lv_goto (tgt := 39) hx hb dX0_mixInto_72 (by decide) ?_
  refine lv_iload hx hb dX0_mixInto_39 (lv_at hl 0 rfl) ?_
  refine lv_iconst (v := 3) hx hb dX0_mixInto_41 (by decide) ?_
  refine lv_icmp_ge (tgt := 75) hx hb dX0_mixInto_42 (by decide) (fun c9 => absurd c9 (by decide)) (fun _ => ?_)
  refine lv_lload_n hx hb dX0_mixInto_45 rfl (lv_at hl 1 rfl) ?_
  refine lv_aload_n hx hb dX0_mixInto_46 rfl (lv_at hl 2 rfl) ?_
  refine va_get (D := D) (ci := 0) (v := .ref q1) (C := RX0) (T := TX0) (N := 6) hx hb hts hiX0 hown hK hP 0 rfl rfl 2 (by decide) hk_19 (fun _ h9 => h9) rfl dX0_mixInto_47 ?_
  refine lv_iload hx hb dX0_mixInto_50 (lv_at hl 0 rfl) ?_
  refine my_iald hx hb hK hP 2 0 rfl rfl 1 (rfl) (by decide) (by decide) dX0_mixInto_52 ?_
  refine my_callSN_l (As := [.long r_6, .int (w1 1)]) (rest := []) (wc := []) (wr := [(h0, .inr (0, [.int pu, .ref q0, .ref q1, .ref q2, .ref q3, .ref q4])), (q0, .inl (cI, 3, .inl w0)), (q1, .inl (cI, 3, .inl w1)), (q2, .inl (cI, 3, .inl w2)), (q3, .inl (cI, 3, .inl w3)), (q4, .inl (cI, 3, .inl w4))]) ⟨hx, hb, hml, hown, hts⟩ (met_X8_mix l D cI cJ cS r_6 (w1 1) _) ⟨va_cnB 2 hts gX0_mixInto_X8_mix_n77 rfl rfl rfl (hG.1.1 (RX0, 77, yX8_mix, "HallCommutator") (by decide +kernel)) (hts (.initialized RX8) (by decide +kernel)) (by decide +kernel) ⟨Nat.le_of_ble_eq_true rfl, Nat.le_of_ble_eq_true rfl⟩, hts (.static yX8_mix) (by decide +kernel), trivial⟩ hK hP hD hS hA hG [] [0, 1, 2, 3, 4, 5] rfl rfl rfl rfl (by decide) rfl hl.1 (Nat.le_of_ble_eq_true rfl) rfl dX0_mixInto_53 ⟨Nat.le_of_ble_eq_true rfl, Nat.le_of_ble_eq_true rfl⟩ (fun r_7 _ H locs hw_7 hP hD hS => ?_)
  have hP : va_P D vwCl [(h0, .inr (0, [.int pu, .ref q0, .ref q1, .ref q2, .ref q3, .ref q4])), (q0, .inl (cI, 3, .inl w0)), (q1, .inl (cI, 3, .inl w1)), (q2, .inl (cI, 3, .inl w2)), (q3, .inl (cI, 3, .inl w3)), (q4, .inl (cI, 3, .inl w4))] H := hP
  have hD : va_D A [(h0, .inr (0, [.int pu, .ref q0, .ref q1, .ref q2, .ref q3, .ref q4])), (q0, .inl (cI, 3, .inl w0)), (q1, .inl (cI, 3, .inl w1)), (q2, .inl (cI, 3, .inl w2)), (q3, .inl (cI, 3, .inl w3)), (q4, .inl (cI, 3, .inl w4))] := hD
  refine lv_lstore_n (lv' := [(3, .long r_7), (5, .int (1 : Int32)), (0, .ref h0), (1, .long x)]) hx hb dX0_mixInto_56 rfl hl (by decide) rfl (fun ls hl => ?_)
  refine lv_lload_n hx hb dX0_mixInto_57 rfl (lv_at hl 0 rfl) ?_
  refine lv_aload_n hx hb dX0_mixInto_58 rfl (lv_at hl 2 rfl) ?_
  refine va_get (D := D) (ci := 0) (v := .ref q2) (C := RX0) (T := TX0) (N := 6) hx hb hts hiX0 hown hK hP 0 rfl rfl 3 (by decide) hk_22 (fun _ h9 => h9) rfl dX0_mixInto_59 ?_
  refine lv_iload hx hb dX0_mixInto_62 (lv_at hl 1 rfl) ?_
  refine my_iald hx hb hK hP 3 0 rfl rfl 1 (rfl) (by decide) (by decide) dX0_mixInto_64 ?_
  refine my_callSN_l (As := [.long r_7, .int (w2 1)]) (rest := []) (wc := []) (wr := [(h0, .inr (0, [.int pu, .ref q0, .ref q1, .ref q2, .ref q3, .ref q4])), (q0, .inl (cI, 3, .inl w0)), (q1, .inl (cI, 3, .inl w1)), (q2, .inl (cI, 3, .inl w2)), (q3, .inl (cI, 3, .inl w3)), (q4, .inl (cI, 3, .inl w4))]) ⟨hx, hb, hml, hown, hts⟩ (met_X8_mix l D cI cJ cS r_7 (w2 1) _) ⟨va_cnB 2 hts gX0_mixInto_X8_mix_n77 rfl rfl rfl (hG.1.1 (RX0, 77, yX8_mix, "HallCommutator") (by decide +kernel)) (hts (.initialized RX8) (by decide +kernel)) (by decide +kernel) ⟨Nat.le_of_ble_eq_true rfl, Nat.le_of_ble_eq_true rfl⟩, hts (.static yX8_mix) (by decide +kernel), trivial⟩ hK hP hD hS hA hG [] [0, 1, 2, 3, 4, 5] rfl rfl rfl rfl (by decide) rfl hl.1 (Nat.le_of_ble_eq_true rfl) rfl dX0_mixInto_65 ⟨Nat.le_of_ble_eq_true rfl, Nat.le_of_ble_eq_true rfl⟩ (fun r_8 _ H locs hw_8 hP hD hS => ?_)
  have hP : va_P D vwCl [(h0, .inr (0, [.int pu, .ref q0, .ref q1, .ref q2, .ref q3, .ref q4])), (q0, .inl (cI, 3, .inl w0)), (q1, .inl (cI, 3, .inl w1)), (q2, .inl (cI, 3, .inl w2)), (q3, .inl (cI, 3, .inl w3)), (q4, .inl (cI, 3, .inl w4))] H := hP
  have hD : va_D A [(h0, .inr (0, [.int pu, .ref q0, .ref q1, .ref q2, .ref q3, .ref q4])), (q0, .inl (cI, 3, .inl w0)), (q1, .inl (cI, 3, .inl w1)), (q2, .inl (cI, 3, .inl w2)), (q3, .inl (cI, 3, .inl w3)), (q4, .inl (cI, 3, .inl w4))] := hD
  refine lv_lstore_n (lv' := [(3, .long r_8), (5, .int (1 : Int32)), (0, .ref h0), (1, .long x)]) hx hb dX0_mixInto_68 rfl hl (by decide) rfl (fun ls hl => ?_)
  refine lv_iinc (v := (2 : Int32)) (lv' := [(5, .int (2 : Int32)), (3, .long r_8), (0, .ref h0), (1, .long x)]) hx hb dX0_mixInto_69 hl (k := 1) rfl (by decide) (by decide) rfl (fun ls hl => ?_)
  refine lv_goto (tgt := 39) hx hb dX0_mixInto_72 (by decide) ?_
  refine lv_iload hx hb dX0_mixInto_39 (lv_at hl 0 rfl) ?_
  refine lv_iconst (v := 3) hx hb dX0_mixInto_41 (by decide) ?_
  refine lv_icmp_ge (tgt := 75) hx hb dX0_mixInto_42 (by decide) (fun c9 => absurd c9 (by decide)) (fun _ => ?_)
  refine lv_lload_n hx hb dX0_mixInto_45 rfl (lv_at hl 1 rfl) ?_
  refine lv_aload_n hx hb dX0_mixInto_46 rfl (lv_at hl 2 rfl) ?_
  refine va_get (D := D) (ci := 0) (v := .ref q1) (C := RX0) (T := TX0) (N := 6) hx hb hts hiX0 hown hK hP 0 rfl rfl 2 (by decide) hk_19 (fun _ h9 => h9) rfl dX0_mixInto_47 ?_
  refine lv_iload hx hb dX0_mixInto_50 (lv_at hl 0 rfl) ?_
  refine my_iald hx hb hK hP 2 0 rfl rfl 2 (rfl) (by decide) (by decide) dX0_mixInto_52 ?_
  refine my_callSN_l (As := [.long r_8, .int (w1 2)]) (rest := []) (wc := []) (wr := [(h0, .inr (0, [.int pu, .ref q0, .ref q1, .ref q2, .ref q3, .ref q4])), (q0, .inl (cI, 3, .inl w0)), (q1, .inl (cI, 3, .inl w1)), (q2, .inl (cI, 3, .inl w2)), (q3, .inl (cI, 3, .inl w3)), (q4, .inl (cI, 3, .inl w4))]) ⟨hx, hb, hml, hown, hts⟩ (met_X8_mix l D cI cJ cS r_8 (w1 2) _) ⟨va_cnB 2 hts gX0_mixInto_X8_mix_n77 rfl rfl rfl (hG.1.1 (RX0, 77, yX8_mix, "HallCommutator") (by decide +kernel)) (hts (.initialized RX8) (by decide +kernel)) (by decide +kernel) ⟨Nat.le_of_ble_eq_true rfl, Nat.le_of_ble_eq_true rfl⟩, hts (.static yX8_mix) (by decide +kernel), trivial⟩ hK hP hD hS hA hG [] [0, 1, 2, 3, 4, 5] rfl rfl rfl rfl (by decide) rfl hl.1 (Nat.le_of_ble_eq_true rfl) rfl dX0_mixInto_53 ⟨Nat.le_of_ble_eq_true rfl, Nat.le_of_ble_eq_true rfl⟩ (fun r_9 _ H locs hw_9 hP hD hS => ?_)
  have hP : va_P D vwCl [(h0, .inr (0, [.int pu, .ref q0, .ref q1, .ref q2, .ref q3, .ref q4])), (q0, .inl (cI, 3, .inl w0)), (q1, .inl (cI, 3, .inl w1)), (q2, .inl (cI, 3, .inl w2)), (q3, .inl (cI, 3, .inl w3)), (q4, .inl (cI, 3, .inl w4))] H := hP
  have hD : va_D A [(h0, .inr (0, [.int pu, .ref q0, .ref q1, .ref q2, .ref q3, .ref q4])), (q0, .inl (cI, 3, .inl w0)), (q1, .inl (cI, 3, .inl w1)), (q2, .inl (cI, 3, .inl w2)), (q3, .inl (cI, 3, .inl w3)), (q4, .inl (cI, 3, .inl w4))] := hD
  refine lv_lstore_n (lv' := [(3, .long r_9), (5, .int (2 : Int32)), (0, .ref h0), (1, .long x)]) hx hb dX0_mixInto_56 rfl hl (by decide) rfl (fun ls hl => ?_)
  refine lv_lload_n hx hb dX0_mixInto_57 rfl (lv_at hl 0 rfl) ?_
  refine lv_aload_n hx hb dX0_mixInto_58 rfl (lv_at hl 2 rfl) ?_
  refine va_get (D := D) (ci := 0) (v := .ref q2) (C := RX0) (T := TX0) (N := 6) hx hb hts hiX0 hown hK hP 0 rfl rfl 3 (by decide) hk_22 (fun _ h9 => h9) rfl dX0_mixInto_59 ?_
  refine lv_iload hx hb dX0_mixInto_62 (lv_at hl 1 rfl) ?_
  refine my_iald hx hb hK hP 3 0 rfl rfl 2 (rfl) (by decide) (by decide) dX0_mixInto_64 ?_
  refine my_callSN_l (As := [.long r_9, .int (w2 2)]) (rest := []) (wc := []) (wr := [(h0, .inr (0, [.int pu, .ref q0, .ref q1, .ref q2, .ref q3, .ref q4])), (q0, .inl (cI, 3, .inl w0)), (q1, .inl (cI, 3, .inl w1)), (q2, .inl (cI, 3, .inl w2)), (q3, .inl (cI, 3, .inl w3)), (q4, .inl (cI, 3, .inl w4))]) ⟨hx, hb, hml, hown, hts⟩ (met_X8_mix l D cI cJ cS r_9 (w2 2) _) ⟨va_cnB 2 hts gX0_mixInto_X8_mix_n77 rfl rfl rfl (hG.1.1 (RX0, 77, yX8_mix, "HallCommutator") (by decide +kernel)) (hts (.initialized RX8) (by decide +kernel)) (by decide +kernel) ⟨Nat.le_of_ble_eq_true rfl, Nat.le_of_ble_eq_true rfl⟩, hts (.static yX8_mix) (by decide +kernel), trivial⟩ hK hP hD hS hA hG [] [0, 1, 2, 3, 4, 5] rfl rfl rfl rfl (by decide) rfl hl.1 (Nat.le_of_ble_eq_true rfl) rfl dX0_mixInto_65 ⟨Nat.le_of_ble_eq_true rfl, Nat.le_of_ble_eq_true rfl⟩ (fun r_10 _ H locs hw_10 hP hD hS => ?_)
  have hP : va_P D vwCl [(h0, .inr (0, [.int pu, .ref q0, .ref q1, .ref q2, .ref q3, .ref q4])), (q0, .inl (cI, 3, .inl w0)), (q1, .inl (cI, 3, .inl w1)), (q2, .inl (cI, 3, .inl w2)), (q3, .inl (cI, 3, .inl w3)), (q4, .inl (cI, 3, .inl w4))] H := hP
  have hD : va_D A [(h0, .inr (0, [.int pu, .ref q0, .ref q1, .ref q2, .ref q3, .ref q4])), (q0, .inl (cI, 3, .inl w0)), (q1, .inl (cI, 3, .inl w1)), (q2, .inl (cI, 3, .inl w2)), (q3, .inl (cI, 3, .inl w3)), (q4, .inl (cI, 3, .inl w4))] := hD
  refine lv_lstore_n (lv' := [(3, .long r_10), (5, .int (2 : Int32)), (0, .ref h0), (1, .long x)]) hx hb dX0_mixInto_68 rfl hl (by decide) rfl (fun ls hl => ?_)
  refine lv_iinc (v := (3 : Int32)) (lv' := [(5, .int (3 : Int32)), (3, .long r_10), (0, .ref h0), (1, .long x)]) hx hb dX0_mixInto_69 hl (k := 1) rfl (by decide) (by decide) rfl (fun ls hl => ?_)
  refine lv_goto (tgt := 39) hx hb dX0_mixInto_72 (by decide) ?_
  refine lv_iload hx hb dX0_mixInto_39 (lv_at hl 0 rfl) ?_
  refine lv_iconst (v := 3) hx hb dX0_mixInto_41 (by decide) ?_
  refine lv_icmp_ge (tgt := 75) hx hb dX0_mixInto_42 (by decide) (fun _ => ?_) (fun c9 => absurd (by decide) c9)
  refine lv_lload_n hx hb dX0_mixInto_75 rfl (lv_at hl 1 rfl) ?_
  exact my_lret hx hb hr hlocks hK hP hD hS () (by show r_10 = F_X0_mixInto x pu w0 w1 w2 w3 w4; simp only [F_X0_mixInto, ← hw_1, ← hw_2, ← hw_3, ← hw_4, ← hw_5, ← hw_6, ← hw_7, ← hw_8, ← hw_9, ← hw_10]) [0, 1, 2, 3, 4, 5] rfl rfl dX0_mixInto_76
