def F_X9_should (np : Int32) (th : Int32) (ed : Int32) (hh : Int64) (w : Nat → Int32) (pf : Nat → Int32) (t : Int32) : Int32 :=
  if w 6 = (3 : Int32) then
    (-1 : Int32)
  else
    if w 6 = (0 : Int32) then
      (0 : Int32)
    else
      if w 9 = (-1 : Int32) then
        (0 : Int32)
      else
        if ((w 2) * (w 3)) / (100 : Int32) ≤ w 12 then
          if w 6 = (2 : Int32) then
            let q6 := F_X9_legOf (w 9) (0 : Int32)
            if t = q6 then
              let q12 := F_X9_legOf (w 9) (1 : Int32)
              if t = q12 then
                if w 6 = (4 : Int32) then
                  (0 : Int32)
                else
                  (0 : Int32)
              else
                if w 6 = (4 : Int32) then
                  (0 : Int32)
                else
                  (0 : Int32)
            else
              let q8 := F_X9_legOf (w 9) (1 : Int32)
              if t = q8 then
                if w 6 = (4 : Int32) then
                  (0 : Int32)
                else
                  (-1 : Int32)
              else
                if w 6 = (4 : Int32) then
                  (0 : Int32)
                else
                  (0 : Int32)
          else
            let q16 := F_X9_legOf (w 9) (1 : Int32)
            if t = q16 then
              let q22 := F_X9_legOf (w 9) (0 : Int32)
              if t = q22 then
                if w 6 = (4 : Int32) then
                  (0 : Int32)
                else
                  (0 : Int32)
              else
                if w 6 = (4 : Int32) then
                  (0 : Int32)
                else
                  (0 : Int32)
            else
              let q18 := F_X9_legOf (w 9) (0 : Int32)
              if t = q18 then
                if w 6 = (4 : Int32) then
                  (0 : Int32)
                else
                  (-1 : Int32)
              else
                if w 6 = (4 : Int32) then
                  (0 : Int32)
                else
                  (0 : Int32)
        else
          if w 6 = (2 : Int32) then
            let q27 := F_X9_legOf (w 9) (0 : Int32)
            if t = q27 then
              let q33 := F_X9_legOf (w 9) (1 : Int32)
              if t = q33 then
                if w 6 = (4 : Int32) then
                  (-1 : Int32)
                else
                  (1 : Int32)
              else
                if w 6 = (4 : Int32) then
                  (-1 : Int32)
                else
                  (1 : Int32)
            else
              let q29 := F_X9_legOf (w 9) (1 : Int32)
              if t = q29 then
                if w 6 = (4 : Int32) then
                  (-1 : Int32)
                else
                  (-1 : Int32)
              else
                if w 6 = (4 : Int32) then
                  (0 : Int32)
                else
                  (0 : Int32)
          else
            let q37 := F_X9_legOf (w 9) (1 : Int32)
            if t = q37 then
              let q43 := F_X9_legOf (w 9) (0 : Int32)
              if t = q43 then
                if w 6 = (4 : Int32) then
                  (-1 : Int32)
                else
                  (1 : Int32)
              else
                if w 6 = (4 : Int32) then
                  (-1 : Int32)
                else
                  (1 : Int32)
            else
              let q39 := F_X9_legOf (w 9) (0 : Int32)
              if t = q39 then
                if w 6 = (4 : Int32) then
                  (-1 : Int32)
                else
                  (-1 : Int32)
              else
                if w 6 = (4 : Int32) then
                  (0 : Int32)
                else
                  (0 : Int32)
set_option maxHeartbeats 4000000 in
set_option maxRecDepth 100000 in
theorem met_X9_should (l : Launch) (D : va_G) (cI cJ cS : ClassId) (h0 : Nat) (a0 : Nat) (b0 : Nat) (np : Int32) (th : Int32) (ed : Int32) (hh : Int64) (w : Nat → Int32) (pf : Nat → Int32) (t : Int32)  : ∀ sz : Nat, Met l yX9_should wsX9_should ({ frames := 1, cells := 0, slots := 0, locals := 22 } : Room) (va_Pc [.ref h0, .int t] (cPre D (tyz cI cJ cS) ([(h0, .inr (9, [.ref a0, .ref b0, .int np, .int th, .int ed, .long hh])), (a0, .inl (cI, 129, .inl w)), (b0, .inl (cI, 516, .inl pf))]) sz)) (va_Qi (fun (r : Int32) (_ : Unit) => r = F_X9_should np th ed hh w pf t) (fun u => cPost D (tyz cI cJ cS) (va_A ([(h0, .inr (9, [.ref a0, .ref b0, .int np, .int th, .int ed, .long hh])), (a0, .inl (cI, 129, .inl w)), (b0, .inl (cI, 516, .inl pf))]) sz) ([(h0, .inr (9, [.ref a0, .ref b0, .int np, .int th, .int ed, .long hh])), (a0, .inl (cI, 129, .inl w)), (b0, .inl (cI, 516, .inl pf))])) (va_A ([(h0, .inr (9, [.ref a0, .ref b0, .int np, .int th, .int ed, .long hh])), (a0, .inl (cI, 129, .inl w)), (b0, .inl (cI, 516, .inl pf))]) sz)) 0 0 (va_A ([(h0, .inr (9, [.ref a0, .ref b0, .int np, .int th, .int ed, .long hh])), (a0, .inl (cI, 129, .inl w)), (b0, .inl (cI, 516, .inl pf))]) sz) := by
  refine my_met (QC := fun A => (va_Qi (fun (r : Int32) (_ : Unit) => r = F_X9_should np th ed hh w pf t) (fun u => cPost D (tyz cI cJ cS) A ([(h0, .inr (9, [.ref a0, .ref b0, .int np, .int th, .int ed, .long hh])), (a0, .inl (cI, 129, .inl w)), (b0, .inl (cI, 516, .inl pf))])) A)) (cc := cX9_should) (maxL := 5) (ret := (some .int)) (by decide) rfl (Nat.le_of_ble_eq_true rfl) ?_
  intro p e s m below meth c ls A hx hb hml hr hts hown hlocks hname hK hP hD hS hA hG hl
  have hown : s.vm.findClass RX9 = some m.cls := hown
  have hl : lv_has ls 5 [(0, .ref h0), (1, .int t)] := hl
  have hP : va_P D vwCl [(h0, .inr (9, [.ref a0, .ref b0, .int np, .int th, .int ed, .long hh])), (a0, .inl (cI, 129, .inl w)), (b0, .inl (cI, 516, .inl pf))] s.heap := hP
  have hD : va_D A [(h0, .inr (9, [.ref a0, .ref b0, .int np, .int th, .int ed, .long hh])), (a0, .inl (cI, 129, .inl w)), (b0, .inl (cI, 516, .inl pf))] := hD
  have hiX9 : ∀ w ∈ u_ws RX9 TX9 6, w ∈ wsX9_should := by decide +kernel
  have hk_7 := hts (.fieldLink RX9 7 "HallCommutatorModel" "s" "[I") (by decide +kernel)
  refine lv_aload_n hx hb dX9_should_0 rfl (lv_at hl 0 rfl) ?_
  refine va_get (D := D) (ci := 9) (v := .ref a0) (C := RX9) (T := TX9) (N := 6) hx hb hts hiX9 hown hK hP 0 rfl rfl 0 (by decide) hk_7 (fun _ h9 => h9) rfl dX9_should_1 ?_
  refine lv_bipush (v := 6) hx hb dX9_should_4 (by decide) ?_
  refine my_iald hx hb hK hP 1 0 rfl rfl 6 (rfl) (by decide) (by decide) dX9_should_6 ?_
  refine lv_iconst (v := 3) hx hb dX9_should_7 (by decide) ?_
  refine lv_icmp_ne (tgt := 13) hx hb dX9_should_8 (by decide) (fun c_1 => ?_) (fun c_1 => ?_)
  · skip
    refine lv_aload_n hx hb dX9_should_13 rfl (lv_at hl 0 rfl) ?_
    refine va_get (D := D) (ci := 9) (v := .ref a0) (C := RX9) (T := TX9) (N := 6) hx hb hts hiX9 hown hK hP 0 rfl rfl 0 (by decide) hk_7 (fun _ h9 => h9) rfl dX9_should_14 ?_
    refine lv_bipush (v := 6) hx hb dX9_should_17 (by decide) ?_
    refine my_iald hx hb hK hP 1 0 rfl rfl 6 (rfl) (by decide) (by decide) dX9_should_19 ?_
    refine lv_if_eq (tgt := 34) hx hb dX9_should_20 (by decide) (fun c_2 => ?_) (fun c_2 => ?_)
    · skip
      refine lv_iconst (v := 0) hx hb dX9_should_34 (by decide) ?_
      exact my_iret hx hb hr rfl hlocks hK hP hD hS () (by show (0 : Int32) = F_X9_should np th ed hh w pf t; simp only [F_X9_should, if_neg c_1, if_pos c_2]) [0, 1, 2] rfl rfl dX9_should_35
    · skip
      refine lv_aload_n hx hb dX9_should_23 rfl (lv_at hl 0 rfl) ?_
      refine va_get (D := D) (ci := 9) (v := .ref a0) (C := RX9) (T := TX9) (N := 6) hx hb hts hiX9 hown hK hP 0 rfl rfl 0 (by decide) hk_7 (fun _ h9 => h9) rfl dX9_should_24 ?_
      refine lv_bipush (v := 9) hx hb dX9_should_27 (by decide) ?_
      refine my_iald hx hb hK hP 1 0 rfl rfl 9 (rfl) (by decide) (by decide) dX9_should_29 ?_
      refine lv_iconst (v := -1) hx hb dX9_should_30 (by decide) ?_
      refine lv_icmp_ne (tgt := 36) hx hb dX9_should_31 (by decide) (fun c_3 => ?_) (fun c_3 => ?_)
      · skip
        refine lv_aload_n hx hb dX9_should_36 rfl (lv_at hl 0 rfl) ?_
        refine va_get (D := D) (ci := 9) (v := .ref a0) (C := RX9) (T := TX9) (N := 6) hx hb hts hiX9 hown hK hP 0 rfl rfl 0 (by decide) hk_7 (fun _ h9 => h9) rfl dX9_should_37 ?_
        refine lv_bipush (v := 12) hx hb dX9_should_40 (by decide) ?_
        refine my_iald hx hb hK hP 1 0 rfl rfl 12 (rfl) (by decide) (by decide) dX9_should_42 ?_
        refine lv_aload_n hx hb dX9_should_43 rfl (lv_at hl 0 rfl) ?_
        refine va_get (D := D) (ci := 9) (v := .ref a0) (C := RX9) (T := TX9) (N := 6) hx hb hts hiX9 hown hK hP 0 rfl rfl 0 (by decide) hk_7 (fun _ h9 => h9) rfl dX9_should_44 ?_
        refine lv_iconst (v := 2) hx hb dX9_should_47 (by decide) ?_
        refine my_iald hx hb hK hP 1 0 rfl rfl 2 (rfl) (by decide) (by decide) dX9_should_48 ?_
        refine lv_aload_n hx hb dX9_should_49 rfl (lv_at hl 0 rfl) ?_
        refine va_get (D := D) (ci := 9) (v := .ref a0) (C := RX9) (T := TX9) (N := 6) hx hb hts hiX9 hown hK hP 0 rfl rfl 0 (by decide) hk_7 (fun _ h9 => h9) rfl dX9_should_50 ?_
        refine lv_iconst (v := 3) hx hb dX9_should_53 (by decide) ?_
        refine my_iald hx hb hK hP 1 0 rfl rfl 3 (rfl) (by decide) (by decide) dX9_should_54 ?_
        refine lv_imul hx hb dX9_should_55 ?_
        refine lv_bipush (v := 100) hx hb dX9_should_56 (by decide) ?_
        refine lv_idiv hx hb dX9_should_58 (by decide) ?_
        refine lv_icmp_ge (tgt := 66) hx hb dX9_should_59 (by decide) (fun c_4 => ?_) (fun c_4 => ?_)
        · skip
          refine lv_iconst (v := 0) hx hb dX9_should_66 (by decide) ?_
          refine lv_istore_n (lv' := [(2, .int (0 : Int32)), (0, .ref h0), (1, .int t)]) hx hb dX9_should_67 rfl hl (by decide) rfl (fun ls hl => ?_)
          refine lv_iload_n hx hb dX9_should_68 rfl (lv_at hl 2 rfl) ?_
          refine lv_aload_n hx hb dX9_should_69 rfl (lv_at hl 1 rfl) ?_
          refine va_get (D := D) (ci := 9) (v := .ref a0) (C := RX9) (T := TX9) (N := 6) hx hb hts hiX9 hown hK hP 0 rfl rfl 0 (by decide) hk_7 (fun _ h9 => h9) rfl dX9_should_70 ?_
          refine lv_bipush (v := 9) hx hb dX9_should_73 (by decide) ?_
          refine my_iald hx hb hK hP 1 0 rfl rfl 9 (rfl) (by decide) (by decide) dX9_should_75 ?_
          refine lv_aload_n hx hb dX9_should_76 rfl (lv_at hl 1 rfl) ?_
          refine va_get (D := D) (ci := 9) (v := .ref a0) (C := RX9) (T := TX9) (N := 6) hx hb hts hiX9 hown hK hP 0 rfl rfl 0 (by decide) hk_7 (fun _ h9 => h9) rfl dX9_should_77 ?_
          refine lv_bipush (v := 6) hx hb dX9_should_80 (by decide) ?_
          refine my_iald hx hb hK hP 1 0 rfl rfl 6 (rfl) (by decide) (by decide) dX9_should_82 ?_
          refine lv_iconst (v := 2) hx hb dX9_should_83 (by decide) ?_
          refine lv_icmp_eq (tgt := 91) hx hb dX9_should_84 (by decide) (fun c_5 => ?_) (fun c_5 => ?_)
          · skip
            refine lv_iconst (v := 0) hx hb dX9_should_91 (by decide) ?_
            refine my_callS_i (As := [.int (w 9), .int (0 : Int32)]) (rest := [.int t]) (wc := []) (wr := [(h0, .inr (9, [.ref a0, .ref b0, .int np, .int th, .int ed, .long hh])), (a0, .inl (cI, 129, .inl w)), (b0, .inl (cI, 516, .inl pf))]) ⟨hx, hb, hml, hown, hts⟩ (met_X9_legOf l D cI cJ cS (w 9) (0 : Int32) _) (va_cwS 2 hts gX9_should_X9_legOf rfl rfl rfl (by decide +kernel) ⟨Nat.le_of_ble_eq_true rfl, Nat.le_of_ble_eq_true rfl⟩) hK hP hD hS hA hG [] [0, 1, 2] rfl rfl rfl rfl (by decide) rfl hl.1 (Nat.le_of_ble_eq_true rfl) rfl dX9_should_92 ⟨Nat.le_of_ble_eq_true rfl, Nat.le_of_ble_eq_true rfl⟩ (fun r_6 _ H locs hw_6 hP hD hS => ?_)
            have hP : va_P D vwCl [(h0, .inr (9, [.ref a0, .ref b0, .int np, .int th, .int ed, .long hh])), (a0, .inl (cI, 129, .inl w)), (b0, .inl (cI, 516, .inl pf))] H := hP
            have hD : va_D A [(h0, .inr (9, [.ref a0, .ref b0, .int np, .int th, .int ed, .long hh])), (a0, .inl (cI, 129, .inl w)), (b0, .inl (cI, 516, .inl pf))] := hD
            refine lv_icmp_ne (tgt := 102) hx hb dX9_should_95 (by decide) (fun c_7 => ?_) (fun c_7 => ?_)
            · skip
              refine lv_iconst (v := 0) hx hb dX9_should_102 (by decide) ?_
              refine lv_istore_n (lv' := [(3, .int (0 : Int32)), (2, .int (0 : Int32)), (0, .ref h0), (1, .int t)]) hx hb dX9_should_103 rfl hl (by decide) rfl (fun ls hl => ?_)
              refine lv_iload_n hx hb dX9_should_104 rfl (lv_at hl 3 rfl) ?_
              refine lv_aload_n hx hb dX9_should_105 rfl (lv_at hl 2 rfl) ?_
              refine va_get (D := D) (ci := 9) (v := .ref a0) (C := RX9) (T := TX9) (N := 6) hx hb hts hiX9 hown hK hP 0 rfl rfl 0 (by decide) hk_7 (fun _ h9 => h9) rfl dX9_should_106 ?_
              refine lv_bipush (v := 9) hx hb dX9_should_109 (by decide) ?_
              refine my_iald hx hb hK hP 1 0 rfl rfl 9 (rfl) (by decide) (by decide) dX9_should_111 ?_
              refine lv_aload_n hx hb dX9_should_112 rfl (lv_at hl 2 rfl) ?_
              refine va_get (D := D) (ci := 9) (v := .ref a0) (C := RX9) (T := TX9) (N := 6) hx hb hts hiX9 hown hK hP 0 rfl rfl 0 (by decide) hk_7 (fun _ h9 => h9) rfl dX9_should_113 ?_
              refine lv_bipush (v := 6) hx hb dX9_should_116 (by decide) ?_
              refine my_iald hx hb hK hP 1 0 rfl rfl 6 (rfl) (by decide) (by decide) dX9_should_118 ?_
              refine lv_iconst (v := 2) hx hb dX9_should_119 (by decide) ?_
              refine lv_icmp_ne (tgt := 127) hx hb dX9_should_120 (by decide) (fun c9 => absurd c_5 c9) (fun _ => ?_)
              refine lv_iconst (v := 1) hx hb dX9_should_123 (by decide) ?_
              refine lv_goto (tgt := 128) hx hb dX9_should_124 (by decide) ?_
              refine my_callS_i (As := [.int (w 9), .int (1 : Int32)]) (rest := [.int t]) (wc := []) (wr := [(h0, .inr (9, [.ref a0, .ref b0, .int np, .int th, .int ed, .long hh])), (a0, .inl (cI, 129, .inl w)), (b0, .inl (cI, 516, .inl pf))]) ⟨hx, hb, hml, hown, hts⟩ (met_X9_legOf l D cI cJ cS (w 9) (1 : Int32) _) (va_cwS 2 hts gX9_should_X9_legOf rfl rfl rfl (by decide +kernel) ⟨Nat.le_of_ble_eq_true rfl, Nat.le_of_ble_eq_true rfl⟩) hK hP hD hS hA hG [] [0, 1, 2] rfl rfl rfl rfl (by decide) rfl hl.1 (Nat.le_of_ble_eq_true rfl) rfl dX9_should_128 ⟨Nat.le_of_ble_eq_true rfl, Nat.le_of_ble_eq_true rfl⟩ (fun r_8 _ H locs hw_8 hP hD hS => ?_)
              have hP : va_P D vwCl [(h0, .inr (9, [.ref a0, .ref b0, .int np, .int th, .int ed, .long hh])), (a0, .inl (cI, 129, .inl w)), (b0, .inl (cI, 516, .inl pf))] H := hP
              have hD : va_D A [(h0, .inr (9, [.ref a0, .ref b0, .int np, .int th, .int ed, .long hh])), (a0, .inl (cI, 129, .inl w)), (b0, .inl (cI, 516, .inl pf))] := hD
              refine lv_icmp_ne (tgt := 138) hx hb dX9_should_131 (by decide) (fun c_9 => ?_) (fun c_9 => ?_)
              · skip
                refine lv_iconst (v := 0) hx hb dX9_should_138 (by decide) ?_
                refine lv_istore (lv' := [(4, .int (0 : Int32)), (3, .int (0 : Int32)), (2, .int (0 : Int32)), (0, .ref h0), (1, .int t)]) hx hb dX9_should_139 hl (by decide) rfl (fun ls hl => ?_)
                refine lv_aload_n hx hb dX9_should_141 rfl (lv_at hl 3 rfl) ?_
                refine va_get (D := D) (ci := 9) (v := .ref a0) (C := RX9) (T := TX9) (N := 6) hx hb hts hiX9 hown hK hP 0 rfl rfl 0 (by decide) hk_7 (fun _ h9 => h9) rfl dX9_should_142 ?_
                refine lv_bipush (v := 6) hx hb dX9_should_145 (by decide) ?_
                refine my_iald hx hb hK hP 1 0 rfl rfl 6 (rfl) (by decide) (by decide) dX9_should_147 ?_
                refine lv_iconst (v := 4) hx hb dX9_should_148 (by decide) ?_
                refine lv_icmp_ne (tgt := 171) hx hb dX9_should_149 (by decide) (fun c_10 => ?_) (fun c_10 => ?_)
                · skip
                  refine lv_iload_n hx hb dX9_should_171 rfl (lv_at hl 1 rfl) ?_
                  refine lv_if_eq (tgt := 187) hx hb dX9_should_172 (by decide) (fun _ => ?_) (fun c9 => absurd (by decide) c9)
                  refine lv_iload hx hb dX9_should_187 (lv_at hl 0 rfl) ?_
                  refine lv_if_eq (tgt := 196) hx hb dX9_should_189 (by decide) (fun _ => ?_) (fun c9 => absurd (by decide) c9)
                  refine lv_iconst (v := 0) hx hb dX9_should_196 (by decide) ?_
                  exact my_iret hx hb hr rfl hlocks hK hP hD hS () (by show (0 : Int32) = F_X9_should np th ed hh w pf t; simp only [F_X9_should, if_neg c_1, if_neg c_2, if_neg c_3, if_pos c_4, if_pos c_5, if_neg c_7, if_neg c_9, if_neg c_10, ← hw_6, ← hw_8]) [0, 1, 2] rfl rfl dX9_should_197
                · skip
                  refine lv_iload_n hx hb dX9_should_152 rfl (lv_at hl 1 rfl) ?_
                  refine lv_if_ne (tgt := 161) hx hb dX9_should_153 (by decide) (fun c9 => absurd (by decide) c9) (fun _ => ?_)
                  refine lv_iload hx hb dX9_should_156 (lv_at hl 0 rfl) ?_
                  refine lv_if_eq (tgt := 169) hx hb dX9_should_158 (by decide) (fun _ => ?_) (fun c9 => absurd (by decide) c9)
                  refine lv_iconst (v := 0) hx hb dX9_should_169 (by decide) ?_
                  exact my_iret hx hb hr rfl hlocks hK hP hD hS () (by show (0 : Int32) = F_X9_should np th ed hh w pf t; simp only [F_X9_should, if_neg c_1, if_neg c_2, if_neg c_3, if_pos c_4, if_pos c_5, if_neg c_7, if_neg c_9, if_pos c_10, ← hw_6, ← hw_8]) [0, 1, 2] rfl rfl dX9_should_170
              · skip
                refine lv_iconst (v := 1) hx hb dX9_should_134 (by decide) ?_
                refine lv_goto (tgt := 139) hx hb dX9_should_135 (by decide) ?_
                refine lv_istore (lv' := [(4, .int (1 : Int32)), (3, .int (0 : Int32)), (2, .int (0 : Int32)), (0, .ref h0), (1, .int t)]) hx hb dX9_should_139 hl (by decide) rfl (fun ls hl => ?_)
                refine lv_aload_n hx hb dX9_should_141 rfl (lv_at hl 3 rfl) ?_
                refine va_get (D := D) (ci := 9) (v := .ref a0) (C := RX9) (T := TX9) (N := 6) hx hb hts hiX9 hown hK hP 0 rfl rfl 0 (by decide) hk_7 (fun _ h9 => h9) rfl dX9_should_142 ?_
                refine lv_bipush (v := 6) hx hb dX9_should_145 (by decide) ?_
                refine my_iald hx hb hK hP 1 0 rfl rfl 6 (rfl) (by decide) (by decide) dX9_should_147 ?_
                refine lv_iconst (v := 4) hx hb dX9_should_148 (by decide) ?_
                refine lv_icmp_ne (tgt := 171) hx hb dX9_should_149 (by decide) (fun c_11 => ?_) (fun c_11 => ?_)
                · skip
                  refine lv_iload_n hx hb dX9_should_171 rfl (lv_at hl 1 rfl) ?_
                  refine lv_if_eq (tgt := 187) hx hb dX9_should_172 (by decide) (fun _ => ?_) (fun c9 => absurd (by decide) c9)
                  refine lv_iload hx hb dX9_should_187 (lv_at hl 0 rfl) ?_
                  refine lv_if_eq (tgt := 196) hx hb dX9_should_189 (by decide) (fun c9 => absurd c9 (by decide)) (fun _ => ?_)
                  refine lv_iconst (v := -1) hx hb dX9_should_192 (by decide) ?_
                  refine lv_goto (tgt := 197) hx hb dX9_should_193 (by decide) ?_
                  exact my_iret hx hb hr rfl hlocks hK hP hD hS () (by show (-1 : Int32) = F_X9_should np th ed hh w pf t; simp only [F_X9_should, if_neg c_1, if_neg c_2, if_neg c_3, if_pos c_4, if_pos c_5, if_neg c_7, if_pos c_9, if_neg c_11, ← hw_6, ← hw_8]) [0, 1, 2] rfl rfl dX9_should_197
                · skip
                  refine lv_iload_n hx hb dX9_should_152 rfl (lv_at hl 1 rfl) ?_
                  refine lv_if_ne (tgt := 161) hx hb dX9_should_153 (by decide) (fun c9 => absurd (by decide) c9) (fun _ => ?_)
                  refine lv_iload hx hb dX9_should_156 (lv_at hl 0 rfl) ?_
                  refine lv_if_eq (tgt := 169) hx hb dX9_should_158 (by decide) (fun c9 => absurd c9 (by decide)) (fun _ => ?_)
                  refine lv_iload_n hx hb dX9_should_161 rfl (lv_at hl 2 rfl) ?_
                  refine lv_if_eq (tgt := 169) hx hb dX9_should_162 (by decide) (fun _ => ?_) (fun c9 => absurd (by decide) c9)
                  refine lv_iconst (v := 0) hx hb dX9_should_169 (by decide) ?_
                  exact my_iret hx hb hr rfl hlocks hK hP hD hS () (by show (0 : Int32) = F_X9_should np th ed hh w pf t; simp only [F_X9_should, if_neg c_1, if_neg c_2, if_neg c_3, if_pos c_4, if_pos c_5, if_neg c_7, if_pos c_9, if_pos c_11, ← hw_6, ← hw_8]) [0, 1, 2] rfl rfl dX9_should_170
            · skip
              refine lv_iconst (v := 1) hx hb dX9_should_98 (by decide) ?_
              refine lv_goto (tgt := 103) hx hb dX9_should_99 (by decide) ?_
              refine lv_istore_n (lv' := [(3, .int (1 : Int32)), (2, .int (0 : Int32)), (0, .ref h0), (1, .int t)]) hx hb dX9_should_103 rfl hl (by decide) rfl (fun ls hl => ?_)
              refine lv_iload_n hx hb dX9_should_104 rfl (lv_at hl 3 rfl) ?_
              refine lv_aload_n hx hb dX9_should_105 rfl (lv_at hl 2 rfl) ?_
              refine va_get (D := D) (ci := 9) (v := .ref a0) (C := RX9) (T := TX9) (N := 6) hx hb hts hiX9 hown hK hP 0 rfl rfl 0 (by decide) hk_7 (fun _ h9 => h9) rfl dX9_should_106 ?_
              refine lv_bipush (v := 9) hx hb dX9_should_109 (by decide) ?_
              refine my_iald hx hb hK hP 1 0 rfl rfl 9 (rfl) (by decide) (by decide) dX9_should_111 ?_
              refine lv_aload_n hx hb dX9_should_112 rfl (lv_at hl 2 rfl) ?_
              refine va_get (D := D) (ci := 9) (v := .ref a0) (C := RX9) (T := TX9) (N := 6) hx hb hts hiX9 hown hK hP 0 rfl rfl 0 (by decide) hk_7 (fun _ h9 => h9) rfl dX9_should_113 ?_
              refine lv_bipush (v := 6) hx hb dX9_should_116 (by decide) ?_
              refine my_iald hx hb hK hP 1 0 rfl rfl 6 (rfl) (by decide) (by decide) dX9_should_118 ?_
              refine lv_iconst (v := 2) hx hb dX9_should_119 (by decide) ?_
              refine lv_icmp_ne (tgt := 127) hx hb dX9_should_120 (by decide) (fun c9 => absurd c_5 c9) (fun _ => ?_)
              refine lv_iconst (v := 1) hx hb dX9_should_123 (by decide) ?_
              refine lv_goto (tgt := 128) hx hb dX9_should_124 (by decide) ?_
              refine my_callS_i (As := [.int (w 9), .int (1 : Int32)]) (rest := [.int t]) (wc := []) (wr := [(h0, .inr (9, [.ref a0, .ref b0, .int np, .int th, .int ed, .long hh])), (a0, .inl (cI, 129, .inl w)), (b0, .inl (cI, 516, .inl pf))]) ⟨hx, hb, hml, hown, hts⟩ (met_X9_legOf l D cI cJ cS (w 9) (1 : Int32) _) (va_cwS 2 hts gX9_should_X9_legOf rfl rfl rfl (by decide +kernel) ⟨Nat.le_of_ble_eq_true rfl, Nat.le_of_ble_eq_true rfl⟩) hK hP hD hS hA hG [] [0, 1, 2] rfl rfl rfl rfl (by decide) rfl hl.1 (Nat.le_of_ble_eq_true rfl) rfl dX9_should_128 ⟨Nat.le_of_ble_eq_true rfl, Nat.le_of_ble_eq_true rfl⟩ (fun r_12 _ H locs hw_12 hP hD hS => ?_)
              have hP : va_P D vwCl [(h0, .inr (9, [.ref a0, .ref b0, .int np, .int th, .int ed, .long hh])), (a0, .inl (cI, 129, .inl w)), (b0, .inl (cI, 516, .inl pf))] H := hP
              have hD : va_D A [(h0, .inr (9, [.ref a0, .ref b0, .int np, .int th, .int ed, .long hh])), (a0, .inl (cI, 129, .inl w)), (b0, .inl (cI, 516, .inl pf))] := hD
              refine lv_icmp_ne (tgt := 138) hx hb dX9_should_131 (by decide) (fun c_13 => ?_) (fun c_13 => ?_)
              · skip
                refine lv_iconst (v := 0) hx hb dX9_should_138 (by decide) ?_
                refine lv_istore (lv' := [(4, .int (0 : Int32)), (3, .int (1 : Int32)), (2, .int (0 : Int32)), (0, .ref h0), (1, .int t)]) hx hb dX9_should_139 hl (by decide) rfl (fun ls hl => ?_)
                refine lv_aload_n hx hb dX9_should_141 rfl (lv_at hl 3 rfl) ?_
                refine va_get (D := D) (ci := 9) (v := .ref a0) (C := RX9) (T := TX9) (N := 6) hx hb hts hiX9 hown hK hP 0 rfl rfl 0 (by decide) hk_7 (fun _ h9 => h9) rfl dX9_should_142 ?_
                refine lv_bipush (v := 6) hx hb dX9_should_145 (by decide) ?_
                refine my_iald hx hb hK hP 1 0 rfl rfl 6 (rfl) (by decide) (by decide) dX9_should_147 ?_
                refine lv_iconst (v := 4) hx hb dX9_should_148 (by decide) ?_
                refine lv_icmp_ne (tgt := 171) hx hb dX9_should_149 (by decide) (fun c_14 => ?_) (fun c_14 => ?_)
                · skip
                  refine lv_iload_n hx hb dX9_should_171 rfl (lv_at hl 1 rfl) ?_
                  refine lv_if_eq (tgt := 187) hx hb dX9_should_172 (by decide) (fun c9 => absurd c9 (by decide)) (fun _ => ?_)
                  refine lv_iload_n hx hb dX9_should_175 rfl (lv_at hl 2 rfl) ?_
                  refine lv_if_eq (tgt := 183) hx hb dX9_should_176 (by decide) (fun _ => ?_) (fun c9 => absurd (by decide) c9)
                  refine lv_iconst (v := 0) hx hb dX9_should_183 (by decide) ?_
                  refine lv_goto (tgt := 197) hx hb dX9_should_184 (by decide) ?_
                  exact my_iret hx hb hr rfl hlocks hK hP hD hS () (by show (0 : Int32) = F_X9_should np th ed hh w pf t; simp only [F_X9_should, if_neg c_1, if_neg c_2, if_neg c_3, if_pos c_4, if_pos c_5, if_pos c_7, if_neg c_13, if_neg c_14, ← hw_6, ← hw_12]) [0, 1, 2] rfl rfl dX9_should_197
                · skip
                  refine lv_iload_n hx hb dX9_should_152 rfl (lv_at hl 1 rfl) ?_
                  refine lv_if_ne (tgt := 161) hx hb dX9_should_153 (by decide) (fun _ => ?_) (fun c9 => absurd c9 (by decide))
                  refine lv_iload_n hx hb dX9_should_161 rfl (lv_at hl 2 rfl) ?_
                  refine lv_if_eq (tgt := 169) hx hb dX9_should_162 (by decide) (fun _ => ?_) (fun c9 => absurd (by decide) c9)
                  refine lv_iconst (v := 0) hx hb dX9_should_169 (by decide) ?_
                  exact my_iret hx hb hr rfl hlocks hK hP hD hS () (by show (0 : Int32) = F_X9_should np th ed hh w pf t; simp only [F_X9_should, if_neg c_1, if_neg c_2, if_neg c_3, if_pos c_4, if_pos c_5, if_pos c_7, if_neg c_13, if_pos c_14, ← hw_6, ← hw_12]) [0, 1, 2] rfl rfl dX9_should_170
              · skip
                refine lv_iconst (v := 1) hx hb dX9_should_134 (by decide) ?_
                refine lv_goto (tgt := 139) hx hb dX9_should_135 (by decide) ?_
                refine lv_istore (lv' := [(4, .int (1 : Int32)), (3, .int (1 : Int32)), (2, .int (0 : Int32)), (0, .ref h0), (1, .int t)]) hx hb dX9_should_139 hl (by decide) rfl (fun ls hl => ?_)
                refine lv_aload_n hx hb dX9_should_141 rfl (lv_at hl 3 rfl) ?_
                refine va_get (D := D) (ci := 9) (v := .ref a0) (C := RX9) (T := TX9) (N := 6) hx hb hts hiX9 hown hK hP 0 rfl rfl 0 (by decide) hk_7 (fun _ h9 => h9) rfl dX9_should_142 ?_
                refine lv_bipush (v := 6) hx hb dX9_should_145 (by decide) ?_
                refine my_iald hx hb hK hP 1 0 rfl rfl 6 (rfl) (by decide) (by decide) dX9_should_147 ?_
                refine lv_iconst (v := 4) hx hb dX9_should_148 (by decide) ?_
                refine lv_icmp_ne (tgt := 171) hx hb dX9_should_149 (by decide) (fun c_15 => ?_) (fun c_15 => ?_)
                · skip
                  refine lv_iload_n hx hb dX9_should_171 rfl (lv_at hl 1 rfl) ?_
                  refine lv_if_eq (tgt := 187) hx hb dX9_should_172 (by decide) (fun c9 => absurd c9 (by decide)) (fun _ => ?_)
                  refine lv_iload_n hx hb dX9_should_175 rfl (lv_at hl 2 rfl) ?_
                  refine lv_if_eq (tgt := 183) hx hb dX9_should_176 (by decide) (fun _ => ?_) (fun c9 => absurd (by decide) c9)
                  refine lv_iconst (v := 0) hx hb dX9_should_183 (by decide) ?_
                  refine lv_goto (tgt := 197) hx hb dX9_should_184 (by decide) ?_
                  exact my_iret hx hb hr rfl hlocks hK hP hD hS () (by show (0 : Int32) = F_X9_should np th ed hh w pf t; simp only [F_X9_should, if_neg c_1, if_neg c_2, if_neg c_3, if_pos c_4, if_pos c_5, if_pos c_7, if_pos c_13, if_neg c_15, ← hw_6, ← hw_12]) [0, 1, 2] rfl rfl dX9_should_197
                · skip
                  refine lv_iload_n hx hb dX9_should_152 rfl (lv_at hl 1 rfl) ?_
                  refine lv_if_ne (tgt := 161) hx hb dX9_should_153 (by decide) (fun _ => ?_) (fun c9 => absurd c9 (by decide))
                  refine lv_iload_n hx hb dX9_should_161 rfl (lv_at hl 2 rfl) ?_
                  refine lv_if_eq (tgt := 169) hx hb dX9_should_162 (by decide) (fun _ => ?_) (fun c9 => absurd (by decide) c9)
                  refine lv_iconst (v := 0) hx hb dX9_should_169 (by decide) ?_
                  exact my_iret hx hb hr rfl hlocks hK hP hD hS () (by show (0 : Int32) = F_X9_should np th ed hh w pf t; simp only [F_X9_should, if_neg c_1, if_neg c_2, if_neg c_3, if_pos c_4, if_pos c_5, if_pos c_7, if_pos c_13, if_pos c_15, ← hw_6, ← hw_12]) [0, 1, 2] rfl rfl dX9_should_170
          · skip
            refine lv_iconst (v := 1) hx hb dX9_should_87 (by decide) ?_
            refine lv_goto (tgt := 92) hx hb dX9_should_88 (by decide) ?_
            refine my_callS_i (As := [.int (w 9), .int (1 : Int32)]) (rest := [.int t]) (wc := []) (wr := [(h0, .inr (9, [.ref a0, .ref b0, .int np, .int th, .int ed, .long hh])), (a0, .inl (cI, 129, .inl w)), (b0, .inl (cI, 516, .inl pf))]) ⟨hx, hb, hml, hown, hts⟩ (met_X9_legOf l D cI cJ cS (w 9) (1 : Int32) _) (va_cwS 2 hts gX9_should_X9_legOf rfl rfl rfl (by decide +kernel) ⟨Nat.le_of_ble_eq_true rfl, Nat.le_of_ble_eq_true rfl⟩) hK hP hD hS hA hG [] [0, 1, 2] rfl rfl rfl rfl (by decide) rfl hl.1 (Nat.le_of_ble_eq_true rfl) rfl dX9_should_92 ⟨Nat.le_of_ble_eq_true rfl, Nat.le_of_ble_eq_true rfl⟩ (fun r_16 _ H locs hw_16 hP hD hS => ?_)
            have hP : va_P D vwCl [(h0, .inr (9, [.ref a0, .ref b0, .int np, .int th, .int ed, .long hh])), (a0, .inl (cI, 129, .inl w)), (b0, .inl (cI, 516, .inl pf))] H := hP
            have hD : va_D A [(h0, .inr (9, [.ref a0, .ref b0, .int np, .int th, .int ed, .long hh])), (a0, .inl (cI, 129, .inl w)), (b0, .inl (cI, 516, .inl pf))] := hD
            refine lv_icmp_ne (tgt := 102) hx hb dX9_should_95 (by decide) (fun c_17 => ?_) (fun c_17 => ?_)
            · skip
              refine lv_iconst (v := 0) hx hb dX9_should_102 (by decide) ?_
              refine lv_istore_n (lv' := [(3, .int (0 : Int32)), (2, .int (0 : Int32)), (0, .ref h0), (1, .int t)]) hx hb dX9_should_103 rfl hl (by decide) rfl (fun ls hl => ?_)
              refine lv_iload_n hx hb dX9_should_104 rfl (lv_at hl 3 rfl) ?_
              refine lv_aload_n hx hb dX9_should_105 rfl (lv_at hl 2 rfl) ?_
              refine va_get (D := D) (ci := 9) (v := .ref a0) (C := RX9) (T := TX9) (N := 6) hx hb hts hiX9 hown hK hP 0 rfl rfl 0 (by decide) hk_7 (fun _ h9 => h9) rfl dX9_should_106 ?_
              refine lv_bipush (v := 9) hx hb dX9_should_109 (by decide) ?_
              refine my_iald hx hb hK hP 1 0 rfl rfl 9 (rfl) (by decide) (by decide) dX9_should_111 ?_
              refine lv_aload_n hx hb dX9_should_112 rfl (lv_at hl 2 rfl) ?_
              refine va_get (D := D) (ci := 9) (v := .ref a0) (C := RX9) (T := TX9) (N := 6) hx hb hts hiX9 hown hK hP 0 rfl rfl 0 (by decide) hk_7 (fun _ h9 => h9) rfl dX9_should_113 ?_
              refine lv_bipush (v := 6) hx hb dX9_should_116 (by decide) ?_
              refine my_iald hx hb hK hP 1 0 rfl rfl 6 (rfl) (by decide) (by decide) dX9_should_118 ?_
              refine lv_iconst (v := 2) hx hb dX9_should_119 (by decide) ?_
              refine lv_icmp_ne (tgt := 127) hx hb dX9_should_120 (by decide) (fun _ => ?_) (fun c9 => absurd c9 c_5)
              refine lv_iconst (v := 0) hx hb dX9_should_127 (by decide) ?_
              refine my_callS_i (As := [.int (w 9), .int (0 : Int32)]) (rest := [.int t]) (wc := []) (wr := [(h0, .inr (9, [.ref a0, .ref b0, .int np, .int th, .int ed, .long hh])), (a0, .inl (cI, 129, .inl w)), (b0, .inl (cI, 516, .inl pf))]) ⟨hx, hb, hml, hown, hts⟩ (met_X9_legOf l D cI cJ cS (w 9) (0 : Int32) _) (va_cwS 2 hts gX9_should_X9_legOf rfl rfl rfl (by decide +kernel) ⟨Nat.le_of_ble_eq_true rfl, Nat.le_of_ble_eq_true rfl⟩) hK hP hD hS hA hG [] [0, 1, 2] rfl rfl rfl rfl (by decide) rfl hl.1 (Nat.le_of_ble_eq_true rfl) rfl dX9_should_128 ⟨Nat.le_of_ble_eq_true rfl, Nat.le_of_ble_eq_true rfl⟩ (fun r_18 _ H locs hw_18 hP hD hS => ?_)
              have hP : va_P D vwCl [(h0, .inr (9, [.ref a0, .ref b0, .int np, .int th, .int ed, .long hh])), (a0, .inl (cI, 129, .inl w)), (b0, .inl (cI, 516, .inl pf))] H := hP
              have hD : va_D A [(h0, .inr (9, [.ref a0, .ref b0, .int np, .int th, .int ed, .long hh])), (a0, .inl (cI, 129, .inl w)), (b0, .inl (cI, 516, .inl pf))] := hD
              refine lv_icmp_ne (tgt := 138) hx hb dX9_should_131 (by decide) (fun c_19 => ?_) (fun c_19 => ?_)
              · skip
                refine lv_iconst (v := 0) hx hb dX9_should_138 (by decide) ?_
                refine lv_istore (lv' := [(4, .int (0 : Int32)), (3, .int (0 : Int32)), (2, .int (0 : Int32)), (0, .ref h0), (1, .int t)]) hx hb dX9_should_139 hl (by decide) rfl (fun ls hl => ?_)
                refine lv_aload_n hx hb dX9_should_141 rfl (lv_at hl 3 rfl) ?_
                refine va_get (D := D) (ci := 9) (v := .ref a0) (C := RX9) (T := TX9) (N := 6) hx hb hts hiX9 hown hK hP 0 rfl rfl 0 (by decide) hk_7 (fun _ h9 => h9) rfl dX9_should_142 ?_
                refine lv_bipush (v := 6) hx hb dX9_should_145 (by decide) ?_
                refine my_iald hx hb hK hP 1 0 rfl rfl 6 (rfl) (by decide) (by decide) dX9_should_147 ?_
                refine lv_iconst (v := 4) hx hb dX9_should_148 (by decide) ?_
                refine lv_icmp_ne (tgt := 171) hx hb dX9_should_149 (by decide) (fun c_20 => ?_) (fun c_20 => ?_)
                · skip
                  refine lv_iload_n hx hb dX9_should_171 rfl (lv_at hl 1 rfl) ?_
                  refine lv_if_eq (tgt := 187) hx hb dX9_should_172 (by decide) (fun _ => ?_) (fun c9 => absurd (by decide) c9)
                  refine lv_iload hx hb dX9_should_187 (lv_at hl 0 rfl) ?_
                  refine lv_if_eq (tgt := 196) hx hb dX9_should_189 (by decide) (fun _ => ?_) (fun c9 => absurd (by decide) c9)
                  refine lv_iconst (v := 0) hx hb dX9_should_196 (by decide) ?_
                  exact my_iret hx hb hr rfl hlocks hK hP hD hS () (by show (0 : Int32) = F_X9_should np th ed hh w pf t; simp only [F_X9_should, if_neg c_1, if_neg c_2, if_neg c_3, if_pos c_4, if_neg c_5, if_neg c_17, if_neg c_19, if_neg c_20, ← hw_16, ← hw_18]) [0, 1, 2] rfl rfl dX9_should_197
                · skip
                  refine lv_iload_n hx hb dX9_should_152 rfl (lv_at hl 1 rfl) ?_
                  refine lv_if_ne (tgt := 161) hx hb dX9_should_153 (by decide) (fun c9 => absurd (by decide) c9) (fun _ => ?_)
                  refine lv_iload hx hb dX9_should_156 (lv_at hl 0 rfl) ?_
                  refine lv_if_eq (tgt := 169) hx hb dX9_should_158 (by decide) (fun _ => ?_) (fun c9 => absurd (by decide) c9)
                  refine lv_iconst (v := 0) hx hb dX9_should_169 (by decide) ?_
                  exact my_iret hx hb hr rfl hlocks hK hP hD hS () (by show (0 : Int32) = F_X9_should np th ed hh w pf t; simp only [F_X9_should, if_neg c_1, if_neg c_2, if_neg c_3, if_pos c_4, if_neg c_5, if_neg c_17, if_neg c_19, if_pos c_20, ← hw_16, ← hw_18]) [0, 1, 2] rfl rfl dX9_should_170
              · skip
                refine lv_iconst (v := 1) hx hb dX9_should_134 (by decide) ?_
                refine lv_goto (tgt := 139) hx hb dX9_should_135 (by decide) ?_
                refine lv_istore (lv' := [(4, .int (1 : Int32)), (3, .int (0 : Int32)), (2, .int (0 : Int32)), (0, .ref h0), (1, .int t)]) hx hb dX9_should_139 hl (by decide) rfl (fun ls hl => ?_)
                refine lv_aload_n hx hb dX9_should_141 rfl (lv_at hl 3 rfl) ?_
                refine va_get (D := D) (ci := 9) (v := .ref a0) (C := RX9) (T := TX9) (N := 6) hx hb hts hiX9 hown hK hP 0 rfl rfl 0 (by decide) hk_7 (fun _ h9 => h9) rfl dX9_should_142 ?_
                refine lv_bipush (v := 6) hx hb dX9_should_145 (by decide) ?_
                refine my_iald hx hb hK hP 1 0 rfl rfl 6 (rfl) (by decide) (by decide) dX9_should_147 ?_
                refine lv_iconst (v := 4) hx hb dX9_should_148 (by decide) ?_
                refine lv_icmp_ne (tgt := 171) hx hb dX9_should_149 (by decide) (fun c_21 => ?_) (fun c_21 => ?_)
                · skip
                  refine lv_iload_n hx hb dX9_should_171 rfl (lv_at hl 1 rfl) ?_
                  refine lv_if_eq (tgt := 187) hx hb dX9_should_172 (by decide) (fun _ => ?_) (fun c9 => absurd (by decide) c9)
                  refine lv_iload hx hb dX9_should_187 (lv_at hl 0 rfl) ?_
                  refine lv_if_eq (tgt := 196) hx hb dX9_should_189 (by decide) (fun c9 => absurd c9 (by decide)) (fun _ => ?_)
                  refine lv_iconst (v := -1) hx hb dX9_should_192 (by decide) ?_
                  refine lv_goto (tgt := 197) hx hb dX9_should_193 (by decide) ?_
                  exact my_iret hx hb hr rfl hlocks hK hP hD hS () (by show (-1 : Int32) = F_X9_should np th ed hh w pf t; simp only [F_X9_should, if_neg c_1, if_neg c_2, if_neg c_3, if_pos c_4, if_neg c_5, if_neg c_17, if_pos c_19, if_neg c_21, ← hw_16, ← hw_18]) [0, 1, 2] rfl rfl dX9_should_197
                · skip
                  refine lv_iload_n hx hb dX9_should_152 rfl (lv_at hl 1 rfl) ?_
                  refine lv_if_ne (tgt := 161) hx hb dX9_should_153 (by decide) (fun c9 => absurd (by decide) c9) (fun _ => ?_)
                  refine lv_iload hx hb dX9_should_156 (lv_at hl 0 rfl) ?_
                  refine lv_if_eq (tgt := 169) hx hb dX9_should_158 (by decide) (fun c9 => absurd c9 (by decide)) (fun _ => ?_)
                  refine lv_iload_n hx hb dX9_should_161 rfl (lv_at hl 2 rfl) ?_
                  refine lv_if_eq (tgt := 169) hx hb dX9_should_162 (by decide) (fun _ => ?_) (fun c9 => absurd (by decide) c9)
                  refine lv_iconst (v := 0) hx hb dX9_should_169 (by decide) ?_
                  exact my_iret hx hb hr rfl hlocks hK hP hD hS () (by show (0 : Int32) = F_X9_should np th ed hh w pf t; simp only [F_X9_should, if_neg c_1, if_neg c_2, if_neg c_3, if_pos c_4, if_neg c_5, if_neg c_17, if_pos c_19, if_pos c_21, ← hw_16, ← hw_18]) [0, 1, 2] rfl rfl dX9_should_170
            · skip
              refine lv_iconst (v := 1) hx hb dX9_should_98 (by decide) ?_
              refine lv_goto (tgt := 103) hx hb dX9_should_99 (by decide) ?_
              refine lv_istore_n (lv' := [(3, .int (1 : Int32)), (2, .int (0 : Int32)), (0, .ref h0), (1, .int t)]) hx hb dX9_should_103 rfl hl (by decide) rfl (fun ls hl => ?_)
              refine lv_iload_n hx hb dX9_should_104 rfl (lv_at hl 3 rfl) ?_
              refine lv_aload_n hx hb dX9_should_105 rfl (lv_at hl 2 rfl) ?_
              refine va_get (D := D) (ci := 9) (v := .ref a0) (C := RX9) (T := TX9) (N := 6) hx hb hts hiX9 hown hK hP 0 rfl rfl 0 (by decide) hk_7 (fun _ h9 => h9) rfl dX9_should_106 ?_
              refine lv_bipush (v := 9) hx hb dX9_should_109 (by decide) ?_
              refine my_iald hx hb hK hP 1 0 rfl rfl 9 (rfl) (by decide) (by decide) dX9_should_111 ?_
              refine lv_aload_n hx hb dX9_should_112 rfl (lv_at hl 2 rfl) ?_
              refine va_get (D := D) (ci := 9) (v := .ref a0) (C := RX9) (T := TX9) (N := 6) hx hb hts hiX9 hown hK hP 0 rfl rfl 0 (by decide) hk_7 (fun _ h9 => h9) rfl dX9_should_113 ?_
              refine lv_bipush (v := 6) hx hb dX9_should_116 (by decide) ?_
              refine my_iald hx hb hK hP 1 0 rfl rfl 6 (rfl) (by decide) (by decide) dX9_should_118 ?_
              refine lv_iconst (v := 2) hx hb dX9_should_119 (by decide) ?_
              refine lv_icmp_ne (tgt := 127) hx hb dX9_should_120 (by decide) (fun _ => ?_) (fun c9 => absurd c9 c_5)
              refine lv_iconst (v := 0) hx hb dX9_should_127 (by decide) ?_
              refine my_callS_i (As := [.int (w 9), .int (0 : Int32)]) (rest := [.int t]) (wc := []) (wr := [(h0, .inr (9, [.ref a0, .ref b0, .int np, .int th, .int ed, .long hh])), (a0, .inl (cI, 129, .inl w)), (b0, .inl (cI, 516, .inl pf))]) ⟨hx, hb, hml, hown, hts⟩ (met_X9_legOf l D cI cJ cS (w 9) (0 : Int32) _) (va_cwS 2 hts gX9_should_X9_legOf rfl rfl rfl (by decide +kernel) ⟨Nat.le_of_ble_eq_true rfl, Nat.le_of_ble_eq_true rfl⟩) hK hP hD hS hA hG [] [0, 1, 2] rfl rfl rfl rfl (by decide) rfl hl.1 (Nat.le_of_ble_eq_true rfl) rfl dX9_should_128 ⟨Nat.le_of_ble_eq_true rfl, Nat.le_of_ble_eq_true rfl⟩ (fun r_22 _ H locs hw_22 hP hD hS => ?_)
              have hP : va_P D vwCl [(h0, .inr (9, [.ref a0, .ref b0, .int np, .int th, .int ed, .long hh])), (a0, .inl (cI, 129, .inl w)), (b0, .inl (cI, 516, .inl pf))] H := hP
              have hD : va_D A [(h0, .inr (9, [.ref a0, .ref b0, .int np, .int th, .int ed, .long hh])), (a0, .inl (cI, 129, .inl w)), (b0, .inl (cI, 516, .inl pf))] := hD
              refine lv_icmp_ne (tgt := 138) hx hb dX9_should_131 (by decide) (fun c_23 => ?_) (fun c_23 => ?_)
              · skip
                refine lv_iconst (v := 0) hx hb dX9_should_138 (by decide) ?_
                refine lv_istore (lv' := [(4, .int (0 : Int32)), (3, .int (1 : Int32)), (2, .int (0 : Int32)), (0, .ref h0), (1, .int t)]) hx hb dX9_should_139 hl (by decide) rfl (fun ls hl => ?_)
                refine lv_aload_n hx hb dX9_should_141 rfl (lv_at hl 3 rfl) ?_
                refine va_get (D := D) (ci := 9) (v := .ref a0) (C := RX9) (T := TX9) (N := 6) hx hb hts hiX9 hown hK hP 0 rfl rfl 0 (by decide) hk_7 (fun _ h9 => h9) rfl dX9_should_142 ?_
                refine lv_bipush (v := 6) hx hb dX9_should_145 (by decide) ?_
                refine my_iald hx hb hK hP 1 0 rfl rfl 6 (rfl) (by decide) (by decide) dX9_should_147 ?_
                refine lv_iconst (v := 4) hx hb dX9_should_148 (by decide) ?_
                refine lv_icmp_ne (tgt := 171) hx hb dX9_should_149 (by decide) (fun c_24 => ?_) (fun c_24 => ?_)
                · skip
                  refine lv_iload_n hx hb dX9_should_171 rfl (lv_at hl 1 rfl) ?_
                  refine lv_if_eq (tgt := 187) hx hb dX9_should_172 (by decide) (fun c9 => absurd c9 (by decide)) (fun _ => ?_)
                  refine lv_iload_n hx hb dX9_should_175 rfl (lv_at hl 2 rfl) ?_
                  refine lv_if_eq (tgt := 183) hx hb dX9_should_176 (by decide) (fun _ => ?_) (fun c9 => absurd (by decide) c9)
                  refine lv_iconst (v := 0) hx hb dX9_should_183 (by decide) ?_
                  refine lv_goto (tgt := 197) hx hb dX9_should_184 (by decide) ?_
                  exact my_iret hx hb hr rfl hlocks hK hP hD hS () (by show (0 : Int32) = F_X9_should np th ed hh w pf t; simp only [F_X9_should, if_neg c_1, if_neg c_2, if_neg c_3, if_pos c_4, if_neg c_5, if_pos c_17, if_neg c_23, if_neg c_24, ← hw_16, ← hw_22]) [0, 1, 2] rfl rfl dX9_should_197
                · skip
                  refine lv_iload_n hx hb dX9_should_152 rfl (lv_at hl 1 rfl) ?_
                  refine lv_if_ne (tgt := 161) hx hb dX9_should_153 (by decide) (fun _ => ?_) (fun c9 => absurd c9 (by decide))
                  refine lv_iload_n hx hb dX9_should_161 rfl (lv_at hl 2 rfl) ?_
                  refine lv_if_eq (tgt := 169) hx hb dX9_should_162 (by decide) (fun _ => ?_) (fun c9 => absurd (by decide) c9)
                  refine lv_iconst (v := 0) hx hb dX9_should_169 (by decide) ?_
                  exact my_iret hx hb hr rfl hlocks hK hP hD hS () (by show (0 : Int32) = F_X9_should np th ed hh w pf t; simp only [F_X9_should, if_neg c_1, if_neg c_2, if_neg c_3, if_pos c_4, if_neg c_5, if_pos c_17, if_neg c_23, if_pos c_24, ← hw_16, ← hw_22]) [0, 1, 2] rfl rfl dX9_should_170
              · skip
                refine lv_iconst (v := 1) hx hb dX9_should_134 (by decide) ?_
                refine lv_goto (tgt := 139) hx hb dX9_should_135 (by decide) ?_
                refine lv_istore (lv' := [(4, .int (1 : Int32)), (3, .int (1 : Int32)), (2, .int (0 : Int32)), (0, .ref h0), (1, .int t)]) hx hb dX9_should_139 hl (by decide) rfl (fun ls hl => ?_)
                refine lv_aload_n hx hb dX9_should_141 rfl (lv_at hl 3 rfl) ?_
                refine va_get (D := D) (ci := 9) (v := .ref a0) (C := RX9) (T := TX9) (N := 6) hx hb hts hiX9 hown hK hP 0 rfl rfl 0 (by decide) hk_7 (fun _ h9 => h9) rfl dX9_should_142 ?_
                refine lv_bipush (v := 6) hx hb dX9_should_145 (by decide) ?_
                refine my_iald hx hb hK hP 1 0 rfl rfl 6 (rfl) (by decide) (by decide) dX9_should_147 ?_
                refine lv_iconst (v := 4) hx hb dX9_should_148 (by decide) ?_
                refine lv_icmp_ne (tgt := 171) hx hb dX9_should_149 (by decide) (fun c_25 => ?_) (fun c_25 => ?_)
                · skip
                  refine lv_iload_n hx hb dX9_should_171 rfl (lv_at hl 1 rfl) ?_
                  refine lv_if_eq (tgt := 187) hx hb dX9_should_172 (by decide) (fun c9 => absurd c9 (by decide)) (fun _ => ?_)
                  refine lv_iload_n hx hb dX9_should_175 rfl (lv_at hl 2 rfl) ?_
                  refine lv_if_eq (tgt := 183) hx hb dX9_should_176 (by decide) (fun _ => ?_) (fun c9 => absurd (by decide) c9)
                  refine lv_iconst (v := 0) hx hb dX9_should_183 (by decide) ?_
                  refine lv_goto (tgt := 197) hx hb dX9_should_184 (by decide) ?_
                  exact my_iret hx hb hr rfl hlocks hK hP hD hS () (by show (0 : Int32) = F_X9_should np th ed hh w pf t; simp only [F_X9_should, if_neg c_1, if_neg c_2, if_neg c_3, if_pos c_4, if_neg c_5, if_pos c_17, if_pos c_23, if_neg c_25, ← hw_16, ← hw_22]) [0, 1, 2] rfl rfl dX9_should_197
                · skip
                  refine lv_iload_n hx hb dX9_should_152 rfl (lv_at hl 1 rfl) ?_
                  refine lv_if_ne (tgt := 161) hx hb dX9_should_153 (by decide) (fun _ => ?_) (fun c9 => absurd c9 (by decide))
                  refine lv_iload_n hx hb dX9_should_161 rfl (lv_at hl 2 rfl) ?_
                  refine lv_if_eq (tgt := 169) hx hb dX9_should_162 (by decide) (fun _ => ?_) (fun c9 => absurd (by decide) c9)
                  refine lv_iconst (v := 0) hx hb dX9_should_169 (by decide) ?_
                  exact my_iret hx hb hr rfl hlocks hK hP hD hS () (by show (0 : Int32) = F_X9_should np th ed hh w pf t; simp only [F_X9_should, if_neg c_1, if_neg c_2, if_neg c_3, if_pos c_4, if_neg c_5, if_pos c_17, if_pos c_23, if_pos c_25, ← hw_16, ← hw_22]) [0, 1, 2] rfl rfl dX9_should_170
        · skip
          refine lv_iconst (v := 1) hx hb dX9_should_62 (by decide) ?_
          refine lv_goto (tgt := 67) hx hb dX9_should_63 (by decide) ?_
          refine lv_istore_n (lv' := [(2, .int (1 : Int32)), (0, .ref h0), (1, .int t)]) hx hb dX9_should_67 rfl hl (by decide) rfl (fun ls hl => ?_)
          refine lv_iload_n hx hb dX9_should_68 rfl (lv_at hl 2 rfl) ?_
          refine lv_aload_n hx hb dX9_should_69 rfl (lv_at hl 1 rfl) ?_
          refine va_get (D := D) (ci := 9) (v := .ref a0) (C := RX9) (T := TX9) (N := 6) hx hb hts hiX9 hown hK hP 0 rfl rfl 0 (by decide) hk_7 (fun _ h9 => h9) rfl dX9_should_70 ?_
          refine lv_bipush (v := 9) hx hb dX9_should_73 (by decide) ?_
          refine my_iald hx hb hK hP 1 0 rfl rfl 9 (rfl) (by decide) (by decide) dX9_should_75 ?_
          refine lv_aload_n hx hb dX9_should_76 rfl (lv_at hl 1 rfl) ?_
          refine va_get (D := D) (ci := 9) (v := .ref a0) (C := RX9) (T := TX9) (N := 6) hx hb hts hiX9 hown hK hP 0 rfl rfl 0 (by decide) hk_7 (fun _ h9 => h9) rfl dX9_should_77 ?_
          refine lv_bipush (v := 6) hx hb dX9_should_80 (by decide) ?_
          refine my_iald hx hb hK hP 1 0 rfl rfl 6 (rfl) (by decide) (by decide) dX9_should_82 ?_
          refine lv_iconst (v := 2) hx hb dX9_should_83 (by decide) ?_
          refine lv_icmp_eq (tgt := 91) hx hb dX9_should_84 (by decide) (fun c_26 => ?_) (fun c_26 => ?_)
          · skip
            refine lv_iconst (v := 0) hx hb dX9_should_91 (by decide) ?_
            refine my_callS_i (As := [.int (w 9), .int (0 : Int32)]) (rest := [.int t]) (wc := []) (wr := [(h0, .inr (9, [.ref a0, .ref b0, .int np, .int th, .int ed, .long hh])), (a0, .inl (cI, 129, .inl w)), (b0, .inl (cI, 516, .inl pf))]) ⟨hx, hb, hml, hown, hts⟩ (met_X9_legOf l D cI cJ cS (w 9) (0 : Int32) _) (va_cwS 2 hts gX9_should_X9_legOf rfl rfl rfl (by decide +kernel) ⟨Nat.le_of_ble_eq_true rfl, Nat.le_of_ble_eq_true rfl⟩) hK hP hD hS hA hG [] [0, 1, 2] rfl rfl rfl rfl (by decide) rfl hl.1 (Nat.le_of_ble_eq_true rfl) rfl dX9_should_92 ⟨Nat.le_of_ble_eq_true rfl, Nat.le_of_ble_eq_true rfl⟩ (fun r_27 _ H locs hw_27 hP hD hS => ?_)
            have hP : va_P D vwCl [(h0, .inr (9, [.ref a0, .ref b0, .int np, .int th, .int ed, .long hh])), (a0, .inl (cI, 129, .inl w)), (b0, .inl (cI, 516, .inl pf))] H := hP
            have hD : va_D A [(h0, .inr (9, [.ref a0, .ref b0, .int np, .int th, .int ed, .long hh])), (a0, .inl (cI, 129, .inl w)), (b0, .inl (cI, 516, .inl pf))] := hD
            refine lv_icmp_ne (tgt := 102) hx hb dX9_should_95 (by decide) (fun c_28 => ?_) (fun c_28 => ?_)
            · skip
              refine lv_iconst (v := 0) hx hb dX9_should_102 (by decide) ?_
              refine lv_istore_n (lv' := [(3, .int (0 : Int32)), (2, .int (1 : Int32)), (0, .ref h0), (1, .int t)]) hx hb dX9_should_103 rfl hl (by decide) rfl (fun ls hl => ?_)
              refine lv_iload_n hx hb dX9_should_104 rfl (lv_at hl 3 rfl) ?_
              refine lv_aload_n hx hb dX9_should_105 rfl (lv_at hl 2 rfl) ?_
              refine va_get (D := D) (ci := 9) (v := .ref a0) (C := RX9) (T := TX9) (N := 6) hx hb hts hiX9 hown hK hP 0 rfl rfl 0 (by decide) hk_7 (fun _ h9 => h9) rfl dX9_should_106 ?_
              refine lv_bipush (v := 9) hx hb dX9_should_109 (by decide) ?_
              refine my_iald hx hb hK hP 1 0 rfl rfl 9 (rfl) (by decide) (by decide) dX9_should_111 ?_
              refine lv_aload_n hx hb dX9_should_112 rfl (lv_at hl 2 rfl) ?_
              refine va_get (D := D) (ci := 9) (v := .ref a0) (C := RX9) (T := TX9) (N := 6) hx hb hts hiX9 hown hK hP 0 rfl rfl 0 (by decide) hk_7 (fun _ h9 => h9) rfl dX9_should_113 ?_
              refine lv_bipush (v := 6) hx hb dX9_should_116 (by decide) ?_
              refine my_iald hx hb hK hP 1 0 rfl rfl 6 (rfl) (by decide) (by decide) dX9_should_118 ?_
              refine lv_iconst (v := 2) hx hb dX9_should_119 (by decide) ?_
              refine lv_icmp_ne (tgt := 127) hx hb dX9_should_120 (by decide) (fun c9 => absurd c_26 c9) (fun _ => ?_)
              refine lv_iconst (v := 1) hx hb dX9_should_123 (by decide) ?_
              refine lv_goto (tgt := 128) hx hb dX9_should_124 (by decide) ?_
              refine my_callS_i (As := [.int (w 9), .int (1 : Int32)]) (rest := [.int t]) (wc := []) (wr := [(h0, .inr (9, [.ref a0, .ref b0, .int np, .int th, .int ed, .long hh])), (a0, .inl (cI, 129, .inl w)), (b0, .inl (cI, 516, .inl pf))]) ⟨hx, hb, hml, hown, hts⟩ (met_X9_legOf l D cI cJ cS (w 9) (1 : Int32) _) (va_cwS 2 hts gX9_should_X9_legOf rfl rfl rfl (by decide +kernel) ⟨Nat.le_of_ble_eq_true rfl, Nat.le_of_ble_eq_true rfl⟩) hK hP hD hS hA hG [] [0, 1, 2] rfl rfl rfl rfl (by decide) rfl hl.1 (Nat.le_of_ble_eq_true rfl) rfl dX9_should_128 ⟨Nat.le_of_ble_eq_true rfl, Nat.le_of_ble_eq_true rfl⟩ (fun r_29 _ H locs hw_29 hP hD hS => ?_)
              have hP : va_P D vwCl [(h0, .inr (9, [.ref a0, .ref b0, .int np, .int th, .int ed, .long hh])), (a0, .inl (cI, 129, .inl w)), (b0, .inl (cI, 516, .inl pf))] H := hP
              have hD : va_D A [(h0, .inr (9, [.ref a0, .ref b0, .int np, .int th, .int ed, .long hh])), (a0, .inl (cI, 129, .inl w)), (b0, .inl (cI, 516, .inl pf))] := hD
              refine lv_icmp_ne (tgt := 138) hx hb dX9_should_131 (by decide) (fun c_30 => ?_) (fun c_30 => ?_)
              · skip
                refine lv_iconst (v := 0) hx hb dX9_should_138 (by decide) ?_
                refine lv_istore (lv' := [(4, .int (0 : Int32)), (3, .int (0 : Int32)), (2, .int (1 : Int32)), (0, .ref h0), (1, .int t)]) hx hb dX9_should_139 hl (by decide) rfl (fun ls hl => ?_)
                refine lv_aload_n hx hb dX9_should_141 rfl (lv_at hl 3 rfl) ?_
                refine va_get (D := D) (ci := 9) (v := .ref a0) (C := RX9) (T := TX9) (N := 6) hx hb hts hiX9 hown hK hP 0 rfl rfl 0 (by decide) hk_7 (fun _ h9 => h9) rfl dX9_should_142 ?_
                refine lv_bipush (v := 6) hx hb dX9_should_145 (by decide) ?_
                refine my_iald hx hb hK hP 1 0 rfl rfl 6 (rfl) (by decide) (by decide) dX9_should_147 ?_
                refine lv_iconst (v := 4) hx hb dX9_should_148 (by decide) ?_
                refine lv_icmp_ne (tgt := 171) hx hb dX9_should_149 (by decide) (fun c_31 => ?_) (fun c_31 => ?_)
                · skip
                  refine lv_iload_n hx hb dX9_should_171 rfl (lv_at hl 1 rfl) ?_
                  refine lv_if_eq (tgt := 187) hx hb dX9_should_172 (by decide) (fun _ => ?_) (fun c9 => absurd (by decide) c9)
                  refine lv_iload hx hb dX9_should_187 (lv_at hl 0 rfl) ?_
                  refine lv_if_eq (tgt := 196) hx hb dX9_should_189 (by decide) (fun _ => ?_) (fun c9 => absurd (by decide) c9)
                  refine lv_iconst (v := 0) hx hb dX9_should_196 (by decide) ?_
                  exact my_iret hx hb hr rfl hlocks hK hP hD hS () (by show (0 : Int32) = F_X9_should np th ed hh w pf t; simp only [F_X9_should, if_neg c_1, if_neg c_2, if_neg c_3, if_neg c_4, if_pos c_26, if_neg c_28, if_neg c_30, if_neg c_31, ← hw_27, ← hw_29]) [0, 1, 2] rfl rfl dX9_should_197
                · skip
                  refine lv_iload_n hx hb dX9_should_152 rfl (lv_at hl 1 rfl) ?_
                  refine lv_if_ne (tgt := 161) hx hb dX9_should_153 (by decide) (fun c9 => absurd (by decide) c9) (fun _ => ?_)
                  refine lv_iload hx hb dX9_should_156 (lv_at hl 0 rfl) ?_
                  refine lv_if_eq (tgt := 169) hx hb dX9_should_158 (by decide) (fun _ => ?_) (fun c9 => absurd (by decide) c9)
                  refine lv_iconst (v := 0) hx hb dX9_should_169 (by decide) ?_
                  exact my_iret hx hb hr rfl hlocks hK hP hD hS () (by show (0 : Int32) = F_X9_should np th ed hh w pf t; simp only [F_X9_should, if_neg c_1, if_neg c_2, if_neg c_3, if_neg c_4, if_pos c_26, if_neg c_28, if_neg c_30, if_pos c_31, ← hw_27, ← hw_29]) [0, 1, 2] rfl rfl dX9_should_170
              · skip
                refine lv_iconst (v := 1) hx hb dX9_should_134 (by decide) ?_
                refine lv_goto (tgt := 139) hx hb dX9_should_135 (by decide) ?_
                refine lv_istore (lv' := [(4, .int (1 : Int32)), (3, .int (0 : Int32)), (2, .int (1 : Int32)), (0, .ref h0), (1, .int t)]) hx hb dX9_should_139 hl (by decide) rfl (fun ls hl => ?_)
                refine lv_aload_n hx hb dX9_should_141 rfl (lv_at hl 3 rfl) ?_
                refine va_get (D := D) (ci := 9) (v := .ref a0) (C := RX9) (T := TX9) (N := 6) hx hb hts hiX9 hown hK hP 0 rfl rfl 0 (by decide) hk_7 (fun _ h9 => h9) rfl dX9_should_142 ?_
                refine lv_bipush (v := 6) hx hb dX9_should_145 (by decide) ?_
                refine my_iald hx hb hK hP 1 0 rfl rfl 6 (rfl) (by decide) (by decide) dX9_should_147 ?_
                refine lv_iconst (v := 4) hx hb dX9_should_148 (by decide) ?_
                refine lv_icmp_ne (tgt := 171) hx hb dX9_should_149 (by decide) (fun c_32 => ?_) (fun c_32 => ?_)
                · skip
                  refine lv_iload_n hx hb dX9_should_171 rfl (lv_at hl 1 rfl) ?_
                  refine lv_if_eq (tgt := 187) hx hb dX9_should_172 (by decide) (fun _ => ?_) (fun c9 => absurd (by decide) c9)
                  refine lv_iload hx hb dX9_should_187 (lv_at hl 0 rfl) ?_
                  refine lv_if_eq (tgt := 196) hx hb dX9_should_189 (by decide) (fun c9 => absurd c9 (by decide)) (fun _ => ?_)
                  refine lv_iconst (v := -1) hx hb dX9_should_192 (by decide) ?_
                  refine lv_goto (tgt := 197) hx hb dX9_should_193 (by decide) ?_
                  exact my_iret hx hb hr rfl hlocks hK hP hD hS () (by show (-1 : Int32) = F_X9_should np th ed hh w pf t; simp only [F_X9_should, if_neg c_1, if_neg c_2, if_neg c_3, if_neg c_4, if_pos c_26, if_neg c_28, if_pos c_30, if_neg c_32, ← hw_27, ← hw_29]) [0, 1, 2] rfl rfl dX9_should_197
                · skip
                  refine lv_iload_n hx hb dX9_should_152 rfl (lv_at hl 1 rfl) ?_
                  refine lv_if_ne (tgt := 161) hx hb dX9_should_153 (by decide) (fun c9 => absurd (by decide) c9) (fun _ => ?_)
                  refine lv_iload hx hb dX9_should_156 (lv_at hl 0 rfl) ?_
                  refine lv_if_eq (tgt := 169) hx hb dX9_should_158 (by decide) (fun c9 => absurd c9 (by decide)) (fun _ => ?_)
                  refine lv_iload_n hx hb dX9_should_161 rfl (lv_at hl 2 rfl) ?_
                  refine lv_if_eq (tgt := 169) hx hb dX9_should_162 (by decide) (fun c9 => absurd c9 (by decide)) (fun _ => ?_)
                  refine lv_iconst (v := -1) hx hb dX9_should_165 (by decide) ?_
                  refine lv_goto (tgt := 170) hx hb dX9_should_166 (by decide) ?_
                  exact my_iret hx hb hr rfl hlocks hK hP hD hS () (by show (-1 : Int32) = F_X9_should np th ed hh w pf t; simp only [F_X9_should, if_neg c_1, if_neg c_2, if_neg c_3, if_neg c_4, if_pos c_26, if_neg c_28, if_pos c_30, if_pos c_32, ← hw_27, ← hw_29]) [0, 1, 2] rfl rfl dX9_should_170
            · skip
              refine lv_iconst (v := 1) hx hb dX9_should_98 (by decide) ?_
              refine lv_goto (tgt := 103) hx hb dX9_should_99 (by decide) ?_
              refine lv_istore_n (lv' := [(3, .int (1 : Int32)), (2, .int (1 : Int32)), (0, .ref h0), (1, .int t)]) hx hb dX9_should_103 rfl hl (by decide) rfl (fun ls hl => ?_)
              refine lv_iload_n hx hb dX9_should_104 rfl (lv_at hl 3 rfl) ?_
              refine lv_aload_n hx hb dX9_should_105 rfl (lv_at hl 2 rfl) ?_
              refine va_get (D := D) (ci := 9) (v := .ref a0) (C := RX9) (T := TX9) (N := 6) hx hb hts hiX9 hown hK hP 0 rfl rfl 0 (by decide) hk_7 (fun _ h9 => h9) rfl dX9_should_106 ?_
              refine lv_bipush (v := 9) hx hb dX9_should_109 (by decide) ?_
              refine my_iald hx hb hK hP 1 0 rfl rfl 9 (rfl) (by decide) (by decide) dX9_should_111 ?_
              refine lv_aload_n hx hb dX9_should_112 rfl (lv_at hl 2 rfl) ?_
              refine va_get (D := D) (ci := 9) (v := .ref a0) (C := RX9) (T := TX9) (N := 6) hx hb hts hiX9 hown hK hP 0 rfl rfl 0 (by decide) hk_7 (fun _ h9 => h9) rfl dX9_should_113 ?_
              refine lv_bipush (v := 6) hx hb dX9_should_116 (by decide) ?_
              refine my_iald hx hb hK hP 1 0 rfl rfl 6 (rfl) (by decide) (by decide) dX9_should_118 ?_
              refine lv_iconst (v := 2) hx hb dX9_should_119 (by decide) ?_
              refine lv_icmp_ne (tgt := 127) hx hb dX9_should_120 (by decide) (fun c9 => absurd c_26 c9) (fun _ => ?_)
              refine lv_iconst (v := 1) hx hb dX9_should_123 (by decide) ?_
              refine lv_goto (tgt := 128) hx hb dX9_should_124 (by decide) ?_
              refine my_callS_i (As := [.int (w 9), .int (1 : Int32)]) (rest := [.int t]) (wc := []) (wr := [(h0, .inr (9, [.ref a0, .ref b0, .int np, .int th, .int ed, .long hh])), (a0, .inl (cI, 129, .inl w)), (b0, .inl (cI, 516, .inl pf))]) ⟨hx, hb, hml, hown, hts⟩ (met_X9_legOf l D cI cJ cS (w 9) (1 : Int32) _) (va_cwS 2 hts gX9_should_X9_legOf rfl rfl rfl (by decide +kernel) ⟨Nat.le_of_ble_eq_true rfl, Nat.le_of_ble_eq_true rfl⟩) hK hP hD hS hA hG [] [0, 1, 2] rfl rfl rfl rfl (by decide) rfl hl.1 (Nat.le_of_ble_eq_true rfl) rfl dX9_should_128 ⟨Nat.le_of_ble_eq_true rfl, Nat.le_of_ble_eq_true rfl⟩ (fun r_33 _ H locs hw_33 hP hD hS => ?_)
              have hP : va_P D vwCl [(h0, .inr (9, [.ref a0, .ref b0, .int np, .int th, .int ed, .long hh])), (a0, .inl (cI, 129, .inl w)), (b0, .inl (cI, 516, .inl pf))] H := hP
              have hD : va_D A [(h0, .inr (9, [.ref a0, .ref b0, .int np, .int th, .int ed, .long hh])), (a0, .inl (cI, 129, .inl w)), (b0, .inl (cI, 516, .inl pf))] := hD
              refine lv_icmp_ne (tgt := 138) hx hb dX9_should_131 (by decide) (fun c_34 => ?_) (fun c_34 => ?_)
              · skip
                refine lv_iconst (v := 0) hx hb dX9_should_138 (by decide) ?_
                refine lv_istore (lv' := [(4, .int (0 : Int32)), (3, .int (1 : Int32)), (2, .int (1 : Int32)), (0, .ref h0), (1, .int t)]) hx hb dX9_should_139 hl (by decide) rfl (fun ls hl => ?_)
                refine lv_aload_n hx hb dX9_should_141 rfl (lv_at hl 3 rfl) ?_
                refine va_get (D := D) (ci := 9) (v := .ref a0) (C := RX9) (T := TX9) (N := 6) hx hb hts hiX9 hown hK hP 0 rfl rfl 0 (by decide) hk_7 (fun _ h9 => h9) rfl dX9_should_142 ?_
                refine lv_bipush (v := 6) hx hb dX9_should_145 (by decide) ?_
                refine my_iald hx hb hK hP 1 0 rfl rfl 6 (rfl) (by decide) (by decide) dX9_should_147 ?_
                refine lv_iconst (v := 4) hx hb dX9_should_148 (by decide) ?_
                refine lv_icmp_ne (tgt := 171) hx hb dX9_should_149 (by decide) (fun c_35 => ?_) (fun c_35 => ?_)
                · skip
                  refine lv_iload_n hx hb dX9_should_171 rfl (lv_at hl 1 rfl) ?_
                  refine lv_if_eq (tgt := 187) hx hb dX9_should_172 (by decide) (fun c9 => absurd c9 (by decide)) (fun _ => ?_)
                  refine lv_iload_n hx hb dX9_should_175 rfl (lv_at hl 2 rfl) ?_
                  refine lv_if_eq (tgt := 183) hx hb dX9_should_176 (by decide) (fun c9 => absurd c9 (by decide)) (fun _ => ?_)
                  refine lv_iconst (v := 1) hx hb dX9_should_179 (by decide) ?_
                  refine lv_goto (tgt := 197) hx hb dX9_should_180 (by decide) ?_
                  exact my_iret hx hb hr rfl hlocks hK hP hD hS () (by show (1 : Int32) = F_X9_should np th ed hh w pf t; simp only [F_X9_should, if_neg c_1, if_neg c_2, if_neg c_3, if_neg c_4, if_pos c_26, if_pos c_28, if_neg c_34, if_neg c_35, ← hw_27, ← hw_33]) [0, 1, 2] rfl rfl dX9_should_197
                · skip
                  refine lv_iload_n hx hb dX9_should_152 rfl (lv_at hl 1 rfl) ?_
                  refine lv_if_ne (tgt := 161) hx hb dX9_should_153 (by decide) (fun _ => ?_) (fun c9 => absurd c9 (by decide))
                  refine lv_iload_n hx hb dX9_should_161 rfl (lv_at hl 2 rfl) ?_
                  refine lv_if_eq (tgt := 169) hx hb dX9_should_162 (by decide) (fun c9 => absurd c9 (by decide)) (fun _ => ?_)
                  refine lv_iconst (v := -1) hx hb dX9_should_165 (by decide) ?_
                  refine lv_goto (tgt := 170) hx hb dX9_should_166 (by decide) ?_
                  exact my_iret hx hb hr rfl hlocks hK hP hD hS () (by show (-1 : Int32) = F_X9_should np th ed hh w pf t; simp only [F_X9_should, if_neg c_1, if_neg c_2, if_neg c_3, if_neg c_4, if_pos c_26, if_pos c_28, if_neg c_34, if_pos c_35, ← hw_27, ← hw_33]) [0, 1, 2] rfl rfl dX9_should_170
              · skip
                refine lv_iconst (v := 1) hx hb dX9_should_134 (by decide) ?_
                refine lv_goto (tgt := 139) hx hb dX9_should_135 (by decide) ?_
                refine lv_istore (lv' := [(4, .int (1 : Int32)), (3, .int (1 : Int32)), (2, .int (1 : Int32)), (0, .ref h0), (1, .int t)]) hx hb dX9_should_139 hl (by decide) rfl (fun ls hl => ?_)
                refine lv_aload_n hx hb dX9_should_141 rfl (lv_at hl 3 rfl) ?_
                refine va_get (D := D) (ci := 9) (v := .ref a0) (C := RX9) (T := TX9) (N := 6) hx hb hts hiX9 hown hK hP 0 rfl rfl 0 (by decide) hk_7 (fun _ h9 => h9) rfl dX9_should_142 ?_
                refine lv_bipush (v := 6) hx hb dX9_should_145 (by decide) ?_
                refine my_iald hx hb hK hP 1 0 rfl rfl 6 (rfl) (by decide) (by decide) dX9_should_147 ?_
                refine lv_iconst (v := 4) hx hb dX9_should_148 (by decide) ?_
                refine lv_icmp_ne (tgt := 171) hx hb dX9_should_149 (by decide) (fun c_36 => ?_) (fun c_36 => ?_)
                · skip
                  refine lv_iload_n hx hb dX9_should_171 rfl (lv_at hl 1 rfl) ?_
                  refine lv_if_eq (tgt := 187) hx hb dX9_should_172 (by decide) (fun c9 => absurd c9 (by decide)) (fun _ => ?_)
                  refine lv_iload_n hx hb dX9_should_175 rfl (lv_at hl 2 rfl) ?_
                  refine lv_if_eq (tgt := 183) hx hb dX9_should_176 (by decide) (fun c9 => absurd c9 (by decide)) (fun _ => ?_)
                  refine lv_iconst (v := 1) hx hb dX9_should_179 (by decide) ?_
                  refine lv_goto (tgt := 197) hx hb dX9_should_180 (by decide) ?_
                  exact my_iret hx hb hr rfl hlocks hK hP hD hS () (by show (1 : Int32) = F_X9_should np th ed hh w pf t; simp only [F_X9_should, if_neg c_1, if_neg c_2, if_neg c_3, if_neg c_4, if_pos c_26, if_pos c_28, if_pos c_34, if_neg c_36, ← hw_27, ← hw_33]) [0, 1, 2] rfl rfl dX9_should_197
                · skip
                  refine lv_iload_n hx hb dX9_should_152 rfl (lv_at hl 1 rfl) ?_
                  refine lv_if_ne (tgt := 161) hx hb dX9_should_153 (by decide) (fun _ => ?_) (fun c9 => absurd c9 (by decide))
                  refine lv_iload_n hx hb dX9_should_161 rfl (lv_at hl 2 rfl) ?_
                  refine lv_if_eq (tgt := 169) hx hb dX9_should_162 (by decide) (fun c9 => absurd c9 (by decide)) (fun _ => ?_)
                  refine lv_iconst (v := -1) hx hb dX9_should_165 (by decide) ?_
                  refine lv_goto (tgt := 170) hx hb dX9_should_166 (by decide) ?_
                  exact my_iret hx hb hr rfl hlocks hK hP hD hS () (by show (-1 : Int32) = F_X9_should np th ed hh w pf t; simp only [F_X9_should, if_neg c_1, if_neg c_2, if_neg c_3, if_neg c_4, if_pos c_26, if_pos c_28, if_pos c_34, if_pos c_36, ← hw_27, ← hw_33]) [0, 1, 2] rfl rfl dX9_should_170
          · skip
            refine lv_iconst (v := 1) hx hb dX9_should_87 (by decide) ?_
            refine lv_goto (tgt := 92) hx hb dX9_should_88 (by decide) ?_
            refine my_callS_i (As := [.int (w 9), .int (1 : Int32)]) (rest := [.int t]) (wc := []) (wr := [(h0, .inr (9, [.ref a0, .ref b0, .int np, .int th, .int ed, .long hh])), (a0, .inl (cI, 129, .inl w)), (b0, .inl (cI, 516, .inl pf))]) ⟨hx, hb, hml, hown, hts⟩ (met_X9_legOf l D cI cJ cS (w 9) (1 : Int32) _) (va_cwS 2 hts gX9_should_X9_legOf rfl rfl rfl (by decide +kernel) ⟨Nat.le_of_ble_eq_true rfl, Nat.le_of_ble_eq_true rfl⟩) hK hP hD hS hA hG [] [0, 1, 2] rfl rfl rfl rfl (by decide) rfl hl.1 (Nat.le_of_ble_eq_true rfl) rfl dX9_should_92 ⟨Nat.le_of_ble_eq_true rfl, Nat.le_of_ble_eq_true rfl⟩ (fun r_37 _ H locs hw_37 hP hD hS => ?_)
            have hP : va_P D vwCl [(h0, .inr (9, [.ref a0, .ref b0, .int np, .int th, .int ed, .long hh])), (a0, .inl (cI, 129, .inl w)), (b0, .inl (cI, 516, .inl pf))] H := hP
            have hD : va_D A [(h0, .inr (9, [.ref a0, .ref b0, .int np, .int th, .int ed, .long hh])), (a0, .inl (cI, 129, .inl w)), (b0, .inl (cI, 516, .inl pf))] := hD
            refine lv_icmp_ne (tgt := 102) hx hb dX9_should_95 (by decide) (fun c_38 => ?_) (fun c_38 => ?_)
            · skip
              refine lv_iconst (v := 0) hx hb dX9_should_102 (by decide) ?_
              refine lv_istore_n (lv' := [(3, .int (0 : Int32)), (2, .int (1 : Int32)), (0, .ref h0), (1, .int t)]) hx hb dX9_should_103 rfl hl (by decide) rfl (fun ls hl => ?_)
              refine lv_iload_n hx hb dX9_should_104 rfl (lv_at hl 3 rfl) ?_
              refine lv_aload_n hx hb dX9_should_105 rfl (lv_at hl 2 rfl) ?_
              refine va_get (D := D) (ci := 9) (v := .ref a0) (C := RX9) (T := TX9) (N := 6) hx hb hts hiX9 hown hK hP 0 rfl rfl 0 (by decide) hk_7 (fun _ h9 => h9) rfl dX9_should_106 ?_
              refine lv_bipush (v := 9) hx hb dX9_should_109 (by decide) ?_
              refine my_iald hx hb hK hP 1 0 rfl rfl 9 (rfl) (by decide) (by decide) dX9_should_111 ?_
              refine lv_aload_n hx hb dX9_should_112 rfl (lv_at hl 2 rfl) ?_
              refine va_get (D := D) (ci := 9) (v := .ref a0) (C := RX9) (T := TX9) (N := 6) hx hb hts hiX9 hown hK hP 0 rfl rfl 0 (by decide) hk_7 (fun _ h9 => h9) rfl dX9_should_113 ?_
              refine lv_bipush (v := 6) hx hb dX9_should_116 (by decide) ?_
              refine my_iald hx hb hK hP 1 0 rfl rfl 6 (rfl) (by decide) (by decide) dX9_should_118 ?_
              refine lv_iconst (v := 2) hx hb dX9_should_119 (by decide) ?_
              refine lv_icmp_ne (tgt := 127) hx hb dX9_should_120 (by decide) (fun _ => ?_) (fun c9 => absurd c9 c_26)
              refine lv_iconst (v := 0) hx hb dX9_should_127 (by decide) ?_
              refine my_callS_i (As := [.int (w 9), .int (0 : Int32)]) (rest := [.int t]) (wc := []) (wr := [(h0, .inr (9, [.ref a0, .ref b0, .int np, .int th, .int ed, .long hh])), (a0, .inl (cI, 129, .inl w)), (b0, .inl (cI, 516, .inl pf))]) ⟨hx, hb, hml, hown, hts⟩ (met_X9_legOf l D cI cJ cS (w 9) (0 : Int32) _) (va_cwS 2 hts gX9_should_X9_legOf rfl rfl rfl (by decide +kernel) ⟨Nat.le_of_ble_eq_true rfl, Nat.le_of_ble_eq_true rfl⟩) hK hP hD hS hA hG [] [0, 1, 2] rfl rfl rfl rfl (by decide) rfl hl.1 (Nat.le_of_ble_eq_true rfl) rfl dX9_should_128 ⟨Nat.le_of_ble_eq_true rfl, Nat.le_of_ble_eq_true rfl⟩ (fun r_39 _ H locs hw_39 hP hD hS => ?_)
              have hP : va_P D vwCl [(h0, .inr (9, [.ref a0, .ref b0, .int np, .int th, .int ed, .long hh])), (a0, .inl (cI, 129, .inl w)), (b0, .inl (cI, 516, .inl pf))] H := hP
              have hD : va_D A [(h0, .inr (9, [.ref a0, .ref b0, .int np, .int th, .int ed, .long hh])), (a0, .inl (cI, 129, .inl w)), (b0, .inl (cI, 516, .inl pf))] := hD
              refine lv_icmp_ne (tgt := 138) hx hb dX9_should_131 (by decide) (fun c_40 => ?_) (fun c_40 => ?_)
              · skip
                refine lv_iconst (v := 0) hx hb dX9_should_138 (by decide) ?_
                refine lv_istore (lv' := [(4, .int (0 : Int32)), (3, .int (0 : Int32)), (2, .int (1 : Int32)), (0, .ref h0), (1, .int t)]) hx hb dX9_should_139 hl (by decide) rfl (fun ls hl => ?_)
                refine lv_aload_n hx hb dX9_should_141 rfl (lv_at hl 3 rfl) ?_
                refine va_get (D := D) (ci := 9) (v := .ref a0) (C := RX9) (T := TX9) (N := 6) hx hb hts hiX9 hown hK hP 0 rfl rfl 0 (by decide) hk_7 (fun _ h9 => h9) rfl dX9_should_142 ?_
                refine lv_bipush (v := 6) hx hb dX9_should_145 (by decide) ?_
                refine my_iald hx hb hK hP 1 0 rfl rfl 6 (rfl) (by decide) (by decide) dX9_should_147 ?_
                refine lv_iconst (v := 4) hx hb dX9_should_148 (by decide) ?_
                refine lv_icmp_ne (tgt := 171) hx hb dX9_should_149 (by decide) (fun c_41 => ?_) (fun c_41 => ?_)
                · skip
                  refine lv_iload_n hx hb dX9_should_171 rfl (lv_at hl 1 rfl) ?_
                  refine lv_if_eq (tgt := 187) hx hb dX9_should_172 (by decide) (fun _ => ?_) (fun c9 => absurd (by decide) c9)
                  refine lv_iload hx hb dX9_should_187 (lv_at hl 0 rfl) ?_
                  refine lv_if_eq (tgt := 196) hx hb dX9_should_189 (by decide) (fun _ => ?_) (fun c9 => absurd (by decide) c9)
                  refine lv_iconst (v := 0) hx hb dX9_should_196 (by decide) ?_
                  exact my_iret hx hb hr rfl hlocks hK hP hD hS () (by show (0 : Int32) = F_X9_should np th ed hh w pf t; simp only [F_X9_should, if_neg c_1, if_neg c_2, if_neg c_3, if_neg c_4, if_neg c_26, if_neg c_38, if_neg c_40, if_neg c_41, ← hw_37, ← hw_39]) [0, 1, 2] rfl rfl dX9_should_197
                · skip
                  refine lv_iload_n hx hb dX9_should_152 rfl (lv_at hl 1 rfl) ?_
                  refine lv_if_ne (tgt := 161) hx hb dX9_should_153 (by decide) (fun c9 => absurd (by decide) c9) (fun _ => ?_)
                  refine lv_iload hx hb dX9_should_156 (lv_at hl 0 rfl) ?_
                  refine lv_if_eq (tgt := 169) hx hb dX9_should_158 (by decide) (fun _ => ?_) (fun c9 => absurd (by decide) c9)
                  refine lv_iconst (v := 0) hx hb dX9_should_169 (by decide) ?_
                  exact my_iret hx hb hr rfl hlocks hK hP hD hS () (by show (0 : Int32) = F_X9_should np th ed hh w pf t; simp only [F_X9_should, if_neg c_1, if_neg c_2, if_neg c_3, if_neg c_4, if_neg c_26, if_neg c_38, if_neg c_40, if_pos c_41, ← hw_37, ← hw_39]) [0, 1, 2] rfl rfl dX9_should_170
              · skip
                refine lv_iconst (v := 1) hx hb dX9_should_134 (by decide) ?_
                refine lv_goto (tgt := 139) hx hb dX9_should_135 (by decide) ?_
                refine lv_istore (lv' := [(4, .int (1 : Int32)), (3, .int (0 : Int32)), (2, .int (1 : Int32)), (0, .ref h0), (1, .int t)]) hx hb dX9_should_139 hl (by decide) rfl (fun ls hl => ?_)
                refine lv_aload_n hx hb dX9_should_141 rfl (lv_at hl 3 rfl) ?_
                refine va_get (D := D) (ci := 9) (v := .ref a0) (C := RX9) (T := TX9) (N := 6) hx hb hts hiX9 hown hK hP 0 rfl rfl 0 (by decide) hk_7 (fun _ h9 => h9) rfl dX9_should_142 ?_
                refine lv_bipush (v := 6) hx hb dX9_should_145 (by decide) ?_
                refine my_iald hx hb hK hP 1 0 rfl rfl 6 (rfl) (by decide) (by decide) dX9_should_147 ?_
                refine lv_iconst (v := 4) hx hb dX9_should_148 (by decide) ?_
                refine lv_icmp_ne (tgt := 171) hx hb dX9_should_149 (by decide) (fun c_42 => ?_) (fun c_42 => ?_)
                · skip
                  refine lv_iload_n hx hb dX9_should_171 rfl (lv_at hl 1 rfl) ?_
                  refine lv_if_eq (tgt := 187) hx hb dX9_should_172 (by decide) (fun _ => ?_) (fun c9 => absurd (by decide) c9)
                  refine lv_iload hx hb dX9_should_187 (lv_at hl 0 rfl) ?_
                  refine lv_if_eq (tgt := 196) hx hb dX9_should_189 (by decide) (fun c9 => absurd c9 (by decide)) (fun _ => ?_)
                  refine lv_iconst (v := -1) hx hb dX9_should_192 (by decide) ?_
                  refine lv_goto (tgt := 197) hx hb dX9_should_193 (by decide) ?_
                  exact my_iret hx hb hr rfl hlocks hK hP hD hS () (by show (-1 : Int32) = F_X9_should np th ed hh w pf t; simp only [F_X9_should, if_neg c_1, if_neg c_2, if_neg c_3, if_neg c_4, if_neg c_26, if_neg c_38, if_pos c_40, if_neg c_42, ← hw_37, ← hw_39]) [0, 1, 2] rfl rfl dX9_should_197
                · skip
                  refine lv_iload_n hx hb dX9_should_152 rfl (lv_at hl 1 rfl) ?_
                  refine lv_if_ne (tgt := 161) hx hb dX9_should_153 (by decide) (fun c9 => absurd (by decide) c9) (fun _ => ?_)
                  refine lv_iload hx hb dX9_should_156 (lv_at hl 0 rfl) ?_
                  refine lv_if_eq (tgt := 169) hx hb dX9_should_158 (by decide) (fun c9 => absurd c9 (by decide)) (fun _ => ?_)
                  refine lv_iload_n hx hb dX9_should_161 rfl (lv_at hl 2 rfl) ?_
                  refine lv_if_eq (tgt := 169) hx hb dX9_should_162 (by decide) (fun c9 => absurd c9 (by decide)) (fun _ => ?_)
                  refine lv_iconst (v := -1) hx hb dX9_should_165 (by decide) ?_
                  refine lv_goto (tgt := 170) hx hb dX9_should_166 (by decide) ?_
                  exact my_iret hx hb hr rfl hlocks hK hP hD hS () (by show (-1 : Int32) = F_X9_should np th ed hh w pf t; simp only [F_X9_should, if_neg c_1, if_neg c_2, if_neg c_3, if_neg c_4, if_neg c_26, if_neg c_38, if_pos c_40, if_pos c_42, ← hw_37, ← hw_39]) [0, 1, 2] rfl rfl dX9_should_170
            · skip
              refine lv_iconst (v := 1) hx hb dX9_should_98 (by decide) ?_
              refine lv_goto (tgt := 103) hx hb dX9_should_99 (by decide) ?_
              refine lv_istore_n (lv' := [(3, .int (1 : Int32)), (2, .int (1 : Int32)), (0, .ref h0), (1, .int t)]) hx hb dX9_should_103 rfl hl (by decide) rfl (fun ls hl => ?_)
              refine lv_iload_n hx hb dX9_should_104 rfl (lv_at hl 3 rfl) ?_
              refine lv_aload_n hx hb dX9_should_105 rfl (lv_at hl 2 rfl) ?_
              refine va_get (D := D) (ci := 9) (v := .ref a0) (C := RX9) (T := TX9) (N := 6) hx hb hts hiX9 hown hK hP 0 rfl rfl 0 (by decide) hk_7 (fun _ h9 => h9) rfl dX9_should_106 ?_
              refine lv_bipush (v := 9) hx hb dX9_should_109 (by decide) ?_
              refine my_iald hx hb hK hP 1 0 rfl rfl 9 (rfl) (by decide) (by decide) dX9_should_111 ?_
              refine lv_aload_n hx hb dX9_should_112 rfl (lv_at hl 2 rfl) ?_
              refine va_get (D := D) (ci := 9) (v := .ref a0) (C := RX9) (T := TX9) (N := 6) hx hb hts hiX9 hown hK hP 0 rfl rfl 0 (by decide) hk_7 (fun _ h9 => h9) rfl dX9_should_113 ?_
              refine lv_bipush (v := 6) hx hb dX9_should_116 (by decide) ?_
              refine my_iald hx hb hK hP 1 0 rfl rfl 6 (rfl) (by decide) (by decide) dX9_should_118 ?_
              refine lv_iconst (v := 2) hx hb dX9_should_119 (by decide) ?_
              refine lv_icmp_ne (tgt := 127) hx hb dX9_should_120 (by decide) (fun _ => ?_) (fun c9 => absurd c9 c_26)
              refine lv_iconst (v := 0) hx hb dX9_should_127 (by decide) ?_
              refine my_callS_i (As := [.int (w 9), .int (0 : Int32)]) (rest := [.int t]) (wc := []) (wr := [(h0, .inr (9, [.ref a0, .ref b0, .int np, .int th, .int ed, .long hh])), (a0, .inl (cI, 129, .inl w)), (b0, .inl (cI, 516, .inl pf))]) ⟨hx, hb, hml, hown, hts⟩ (met_X9_legOf l D cI cJ cS (w 9) (0 : Int32) _) (va_cwS 2 hts gX9_should_X9_legOf rfl rfl rfl (by decide +kernel) ⟨Nat.le_of_ble_eq_true rfl, Nat.le_of_ble_eq_true rfl⟩) hK hP hD hS hA hG [] [0, 1, 2] rfl rfl rfl rfl (by decide) rfl hl.1 (Nat.le_of_ble_eq_true rfl) rfl dX9_should_128 ⟨Nat.le_of_ble_eq_true rfl, Nat.le_of_ble_eq_true rfl⟩ (fun r_43 _ H locs hw_43 hP hD hS => ?_)
              have hP : va_P D vwCl [(h0, .inr (9, [.ref a0, .ref b0, .int np, .int th, .int ed, .long hh])), (a0, .inl (cI, 129, .inl w)), (b0, .inl (cI, 516, .inl pf))] H := hP
              have hD : va_D A [(h0, .inr (9, [.ref a0, .ref b0, .int np, .int th, .int ed, .long hh])), (a0, .inl (cI, 129, .inl w)), (b0, .inl (cI, 516, .inl pf))] := hD
              refine lv_icmp_ne (tgt := 138) hx hb dX9_should_131 (by decide) (fun c_44 => ?_) (fun c_44 => ?_)
              · skip
                refine lv_iconst (v := 0) hx hb dX9_should_138 (by decide) ?_
                refine lv_istore (lv' := [(4, .int (0 : Int32)), (3, .int (1 : Int32)), (2, .int (1 : Int32)), (0, .ref h0), (1, .int t)]) hx hb dX9_should_139 hl (by decide) rfl (fun ls hl => ?_)
                refine lv_aload_n hx hb dX9_should_141 rfl (lv_at hl 3 rfl) ?_
                refine va_get (D := D) (ci := 9) (v := .ref a0) (C := RX9) (T := TX9) (N := 6) hx hb hts hiX9 hown hK hP 0 rfl rfl 0 (by decide) hk_7 (fun _ h9 => h9) rfl dX9_should_142 ?_
                refine lv_bipush (v := 6) hx hb dX9_should_145 (by decide) ?_
                refine my_iald hx hb hK hP 1 0 rfl rfl 6 (rfl) (by decide) (by decide) dX9_should_147 ?_
                refine lv_iconst (v := 4) hx hb dX9_should_148 (by decide) ?_
                refine lv_icmp_ne (tgt := 171) hx hb dX9_should_149 (by decide) (fun c_45 => ?_) (fun c_45 => ?_)
                · skip
                  refine lv_iload_n hx hb dX9_should_171 rfl (lv_at hl 1 rfl) ?_
                  refine lv_if_eq (tgt := 187) hx hb dX9_should_172 (by decide) (fun c9 => absurd c9 (by decide)) (fun _ => ?_)
                  refine lv_iload_n hx hb dX9_should_175 rfl (lv_at hl 2 rfl) ?_
                  refine lv_if_eq (tgt := 183) hx hb dX9_should_176 (by decide) (fun c9 => absurd c9 (by decide)) (fun _ => ?_)
                  refine lv_iconst (v := 1) hx hb dX9_should_179 (by decide) ?_
                  refine lv_goto (tgt := 197) hx hb dX9_should_180 (by decide) ?_
                  exact my_iret hx hb hr rfl hlocks hK hP hD hS () (by show (1 : Int32) = F_X9_should np th ed hh w pf t; simp only [F_X9_should, if_neg c_1, if_neg c_2, if_neg c_3, if_neg c_4, if_neg c_26, if_pos c_38, if_neg c_44, if_neg c_45, ← hw_37, ← hw_43]) [0, 1, 2] rfl rfl dX9_should_197
                · skip
                  refine lv_iload_n hx hb dX9_should_152 rfl (lv_at hl 1 rfl) ?_
                  refine lv_if_ne (tgt := 161) hx hb dX9_should_153 (by decide) (fun _ => ?_) (fun c9 => absurd c9 (by decide))
                  refine lv_iload_n hx hb dX9_should_161 rfl (lv_at hl 2 rfl) ?_
                  refine lv_if_eq (tgt := 169) hx hb dX9_should_162 (by decide) (fun c9 => absurd c9 (by decide)) (fun _ => ?_)
                  refine lv_iconst (v := -1) hx hb dX9_should_165 (by decide) ?_
                  refine lv_goto (tgt := 170) hx hb dX9_should_166 (by decide) ?_
                  exact my_iret hx hb hr rfl hlocks hK hP hD hS () (by show (-1 : Int32) = F_X9_should np th ed hh w pf t; simp only [F_X9_should, if_neg c_1, if_neg c_2, if_neg c_3, if_neg c_4, if_neg c_26, if_pos c_38, if_neg c_44, if_pos c_45, ← hw_37, ← hw_43]) [0, 1, 2] rfl rfl dX9_should_170
              · skip
                refine lv_iconst (v := 1) hx hb dX9_should_134 (by decide) ?_
                refine lv_goto (tgt := 139) hx hb dX9_should_135 (by decide) ?_
                refine lv_istore (lv' := [(4, .int (1 : Int32)), (3, .int (1 : Int32)), (2, .int (1 : Int32)), (0, .ref h0), (1, .int t)]) hx hb dX9_should_139 hl (by decide) rfl (fun ls hl => ?_)
                refine lv_aload_n hx hb dX9_should_141 rfl (lv_at hl 3 rfl) ?_
                refine va_get (D := D) (ci := 9) (v := .ref a0) (C := RX9) (T := TX9) (N := 6) hx hb hts hiX9 hown hK hP 0 rfl rfl 0 (by decide) hk_7 (fun _ h9 => h9) rfl dX9_should_142 ?_
                refine lv_bipush (v := 6) hx hb dX9_should_145 (by decide) ?_
                refine my_iald hx hb hK hP 1 0 rfl rfl 6 (rfl) (by decide) (by decide) dX9_should_147 ?_
                refine lv_iconst (v := 4) hx hb dX9_should_148 (by decide) ?_
                refine lv_icmp_ne (tgt := 171) hx hb dX9_should_149 (by decide) (fun c_46 => ?_) (fun c_46 => ?_)
                · skip
                  refine lv_iload_n hx hb dX9_should_171 rfl (lv_at hl 1 rfl) ?_
                  refine lv_if_eq (tgt := 187) hx hb dX9_should_172 (by decide) (fun c9 => absurd c9 (by decide)) (fun _ => ?_)
                  refine lv_iload_n hx hb dX9_should_175 rfl (lv_at hl 2 rfl) ?_
                  refine lv_if_eq (tgt := 183) hx hb dX9_should_176 (by decide) (fun c9 => absurd c9 (by decide)) (fun _ => ?_)
                  refine lv_iconst (v := 1) hx hb dX9_should_179 (by decide) ?_
                  refine lv_goto (tgt := 197) hx hb dX9_should_180 (by decide) ?_
                  exact my_iret hx hb hr rfl hlocks hK hP hD hS () (by show (1 : Int32) = F_X9_should np th ed hh w pf t; simp only [F_X9_should, if_neg c_1, if_neg c_2, if_neg c_3, if_neg c_4, if_neg c_26, if_pos c_38, if_pos c_44, if_neg c_46, ← hw_37, ← hw_43]) [0, 1, 2] rfl rfl dX9_should_197
                · skip
                  refine lv_iload_n hx hb dX9_should_152 rfl (lv_at hl 1 rfl) ?_
                  refine lv_if_ne (tgt := 161) hx hb dX9_should_153 (by decide) (fun _ => ?_) (fun c9 => absurd c9 (by decide))
                  refine lv_iload_n hx hb dX9_should_161 rfl (lv_at hl 2 rfl) ?_
                  refine lv_if_eq (tgt := 169) hx hb dX9_should_162 (by decide) (fun c9 => absurd c9 (by decide)) (fun _ => ?_)
                  refine lv_iconst (v := -1) hx hb dX9_should_165 (by decide) ?_
                  refine lv_goto (tgt := 170) hx hb dX9_should_166 (by decide) ?_
                  exact my_iret hx hb hr rfl hlocks hK hP hD hS () (by show (-1 : Int32) = F_X9_should np th ed hh w pf t; simp only [F_X9_should, if_neg c_1, if_neg c_2, if_neg c_3, if_neg c_4, if_neg c_26, if_pos c_38, if_pos c_44, if_pos c_46, ← hw_37, ← hw_43]) [0, 1, 2] rfl rfl dX9_should_170
      · skip
        refine lv_iconst (v := 0) hx hb dX9_should_34 (by decide) ?_
        exact my_iret hx hb hr rfl hlocks hK hP hD hS () (by show (0 : Int32) = F_X9_should np th ed hh w pf t; simp only [F_X9_should, if_neg c_1, if_neg c_2, if_pos c_3]) [0, 1, 2] rfl rfl dX9_should_35
  · skip
    refine lv_iconst (v := -1) hx hb dX9_should_11 (by decide) ?_
    exact my_iret hx hb hr rfl hlocks hK hP hD hS () (by show (-1 : Int32) = F_X9_should np th ed hh w pf t; simp only [F_X9_should, if_pos c_1]) [0, 1, 2] rfl rfl dX9_should_12
def LP_X9_switches : Nat → Int32 → Int32 → Int32 → Int64 → (Nat → Int32) → (Nat → Int32) → Nat → (Nat) × (Nat → Int32)
  | 0, _, _, _, _, w, _, i => (i, w)
  | n + 1, np, th, ed, hh, w, pf, i =>
    if (3 : Int32) ≤ nI i then
      (i, w)
    else
      let q2 := F_X9_should np th ed hh w pf (nI i)
      if q2 = (1 : Int32) then
        if (w 0) - (w (19 + i)) ≤ w 4 then
          LP_X9_switches n np th ed hh (upd w (13 + i) (0 : Int32)) pf (i + 1)
        else
          if q2 = (-1 : Int32) then
            if w 4 < (w 0) - (w (16 + i)) then
              LP_X9_switches n np th ed hh (upd (upd (upd (upd (upd w (13 + i) q2) (16 + i) ((upd w (13 + i) q2) 0)) (22 + i) (((upd (upd w (13 + i) q2) (16 + i) ((upd w (13 + i) q2) 0)) (22 + i)) + (1 : Int32))) (19 + i) ((upd (upd (upd w (13 + i) q2) (16 + i) ((upd w (13 + i) q2) 0)) (22 + i) (((upd (upd w (13 + i) q2) (16 + i) ((upd w (13 + i) q2) 0)) (22 + i)) + (1 : Int32))) 0)) (25 + i) (((upd (upd (upd (upd w (13 + i) q2) (16 + i) ((upd w (13 + i) q2) 0)) (22 + i) (((upd (upd w (13 + i) q2) (16 + i) ((upd w (13 + i) q2) 0)) (22 + i)) + (1 : Int32))) (19 + i) ((upd (upd (upd w (13 + i) q2) (16 + i) ((upd w (13 + i) q2) 0)) (22 + i) (((upd (upd w (13 + i) q2) (16 + i) ((upd w (13 + i) q2) 0)) (22 + i)) + (1 : Int32))) 0)) (25 + i)) + (1 : Int32))) pf (i + 1)
            else
              LP_X9_switches n np th ed hh (upd w (13 + i) (0 : Int32)) pf (i + 1)
          else
            LP_X9_switches n np th ed hh (upd (upd (upd w (13 + i) q2) (16 + i) ((upd w (13 + i) q2) 0)) (22 + i) (((upd (upd w (13 + i) q2) (16 + i) ((upd w (13 + i) q2) 0)) (22 + i)) + (1 : Int32))) pf (i + 1)
      else
        if q2 = (-1 : Int32) then
          if w 4 < (w 0) - (w (16 + i)) then
            LP_X9_switches n np th ed hh (upd (upd (upd w (13 + i) q2) (19 + i) ((upd w (13 + i) q2) 0)) (25 + i) (((upd (upd w (13 + i) q2) (19 + i) ((upd w (13 + i) q2) 0)) (25 + i)) + (1 : Int32))) pf (i + 1)
          else
            LP_X9_switches n np th ed hh (upd w (13 + i) (0 : Int32)) pf (i + 1)
        else
          LP_X9_switches n np th ed hh (upd w (13 + i) q2) pf (i + 1)
set_option maxHeartbeats 4000000 in
set_option maxRecDepth 100000 in
theorem lps_X9_switches {p : Program} (l : Launch) {e : Env} {R : Room} {s : State} {m : MethodId} {args : Array Value} {below : List Frame} {meth : Method} {c : Code} {A : Nat → Prop} {cells slots : Nat} {Q : State → Prop} (D : va_G) (cI cJ cS : ClassId) (hx : p.tables.exec = Jvm.exec) (hb : c.code = cX9_switches) (hml : c.maxLocals = 3) (hown : s.vm.findClass RX9 = some m.cls) (hts : ∀ w ∈ wsX9_switches, w.before args s = true) (hK : va_K D vwCl (tyz cI cJ cS) s) (hA : ∀ q, s.heap.size ≤ q → A q) (hG : gG A s s.heap) (hR1 : 2 ≤ R.frames) (hR2 : 46 ≤ R.locals) (hRc : cells ≤ R.cells) (hRs : slots ≤ R.slots) : ∀ (n : Nat) (h0 : Nat) (a0 : Nat) (b0 : Nat) (np : Int32) (th : Int32) (ed : Int32) (hh : Int64) (w : Nat → Int32) (pf : Nat → Int32) (i : Nat) (H : Heap) (locs : List Loc) (ls : Array Slot), (i ≤ 3) → (3 < i + n) → va_P D vwCl [(h0, .inr (9, [.ref a0, .ref b0, .int np, .int th, .int ed, .long hh])), (a0, .inl (cI, 129, .inl w)), (b0, .inl (cI, 516, .inl pf))] H → va_D A [(h0, .inr (9, [.ref a0, .ref b0, .int np, .int th, .int ed, .long hh])), (a0, .inl (cI, 129, .inl w)), (b0, .inl (cI, 516, .inl pf))] → va_S A s.heap H locs → lv_has ls 3 [(0, .ref h0), (1, .int (nI i))] → (∀ (y : (Nat) × (Nat → Int32)) (H : Heap) (locs : List Loc) (ls : Array Slot), y = LP_X9_switches n np th ed hh w pf i → va_P D vwCl [(h0, .inr (9, [.ref a0, .ref b0, .int np, .int th, .int ed, .long hh])), (a0, .inl (cI, 129, .inl y.2)), (b0, .inl (cI, 516, .inl pf))] H → va_D A [(h0, .inr (9, [.ref a0, .ref b0, .int np, .int th, .int ed, .long hh])), (a0, .inl (cI, 129, .inl y.2)), (b0, .inl (cI, 516, .inl pf))] → va_S A s.heap H locs → lv_has ls 3 [(0, .ref h0), (1, .int (nI y.1))] → W p l e R s m args below meth c H locs cells slots Q (F0 m 161 ls [])) → W p l e R s m args below meth c H locs cells slots Q (F0 m 2 ls []) := by
  have hk_7 := hts (.fieldLink RX9 7 "HallCommutatorModel" "s" "[I") (by decide +kernel)
  have hiX9 : ∀ w ∈ u_ws RX9 TX9 6, w ∈ wsX9_switches := by decide +kernel
  intro n
  induction n with
  | zero =>
    intro h0 a0 b0 np th ed hh w pf i H locs ls hi hm
    exact absurd hm (by omega)
  | succ n ih =>
    intro h0 a0 b0 np th ed hh w pf i H locs ls hi hm hP hD hS hl kk
    refine lv_iload_n hx hb dX9_switches_2 rfl (lv_at hl 1 rfl) ?_
    refine lv_iconst (v := 3) hx hb dX9_switches_3 (by decide) ?_
    refine lv_icmp_ge (tgt := 161) hx hb dX9_switches_4 (by decide) (fun c_1 => ?_) (fun c_1 => ?_)
    · skip
      exact kk (i, w) _ _ _ (by simp only [LP_X9_switches, if_pos c_1]) (hP.subm [0, 1, 2] rfl) (hD.sub [0, 1, 2] rfl rfl) hS (lv_sub hl [0, 1] rfl)
    · skip
      refine lv_aload_n hx hb dX9_switches_7 rfl (lv_at hl 0 rfl) ?_
      refine lv_iload_n hx hb dX9_switches_8 rfl (lv_at hl 1 rfl) ?_
      refine my_callV_i (As := [.int (nI i)]) (rest := []) (wc := [(h0, .inr (9, [.ref a0, .ref b0, .int np, .int th, .int ed, .long hh])), (a0, .inl (cI, 129, .inl w)), (b0, .inl (cI, 516, .inl pf))]) (wr := []) ⟨hx, hb, hml, hown, hts⟩ (met_X9_should l D cI cJ cS h0 a0 b0 np th ed hh w pf (nI i) _) (cwV 1 hts gX9_switches_X9_should rfl rfl rfl (by decide +kernel) ⟨Nat.le_trans (Nat.le_of_ble_eq_true rfl) hR1, Nat.le_trans (Nat.le_of_ble_eq_true rfl) hR2⟩) hK hP hD hS hA hG [0, 1, 2] [] rfl rfl rfl rfl (by decide) 0 rfl rfl rfl hl.1 (Nat.le_of_ble_eq_true rfl) rfl dX9_switches_9 ⟨hRc, hRs⟩ (fun r_2 _ H locs hw_2 hP hD hS => ?_)
      have hP : va_P D vwCl [(h0, .inr (9, [.ref a0, .ref b0, .int np, .int th, .int ed, .long hh])), (a0, .inl (cI, 129, .inl w)), (b0, .inl (cI, 516, .inl pf))] H := hP
      have hD : va_D A [(h0, .inr (9, [.ref a0, .ref b0, .int np, .int th, .int ed, .long hh])), (a0, .inl (cI, 129, .inl w)), (b0, .inl (cI, 516, .inl pf))] := hD
      refine lv_istore_n (lv' := [(2, .int r_2), (0, .ref h0), (1, .int (nI i))]) hx hb dX9_switches_12 rfl hl (by decide) rfl (fun ls hl => ?_)
      refine lv_iload_n hx hb dX9_switches_13 rfl (lv_at hl 0 rfl) ?_
      refine lv_iconst (v := 1) hx hb dX9_switches_14 (by decide) ?_
      refine lv_icmp_ne (tgt := 43) hx hb dX9_switches_15 (by decide) (fun c_3 => ?_) (fun c_3 => ?_)
      · skip
        refine lv_iload_n hx hb dX9_switches_43 rfl (lv_at hl 0 rfl) ?_
        refine lv_iconst (v := -1) hx hb dX9_switches_44 (by decide) ?_
        refine lv_icmp_ne (tgt := 77) hx hb dX9_switches_45 (by decide) (fun c_4 => ?_) (fun c_4 => ?_)
        · skip
          refine lv_iload_n hx hb dX9_switches_77 rfl (lv_at hl 0 rfl) ?_
          refine lv_istore_n (lv' := [(2, .int r_2), (0, .ref h0), (1, .int (nI i))]) hx hb dX9_switches_78 rfl hl (by decide) rfl (fun ls hl => ?_)
          refine lv_aload_n hx hb dX9_switches_79 rfl (lv_at hl 1 rfl) ?_
          refine va_get (D := D) (ci := 9) (v := .ref a0) (C := RX9) (T := TX9) (N := 6) hx hb hts hiX9 hown hK hP 0 rfl rfl 0 (by decide) hk_7 (fun _ h9 => h9) rfl dX9_switches_80 ?_
          refine lv_bipush (v := 13) hx hb dX9_switches_83 (by decide) ?_
          refine lv_iload_n hx hb dX9_switches_85 rfl (lv_at hl 2 rfl) ?_
          refine my_iaddN hx hb 13 i rfl rfl dX9_switches_86 ?_
          refine lv_iload_n hx hb dX9_switches_87 rfl (lv_at hl 0 rfl) ?_
          refine my_iast hx hb hK hP hD hS 1 0 rfl rfl (13 + i) (rfl) (by have := nI_nle_lt (a := 3) (by omega) c_1; omega) (by decide) dX9_switches_88 (fun H locs hP hD hS => ?_)
          have hP : va_P D vwCl [(h0, .inr (9, [.ref a0, .ref b0, .int np, .int th, .int ed, .long hh])), (a0, .inl (cI, 129, .inl (upd w (13 + i) r_2))), (b0, .inl (cI, 516, .inl pf))] H := hP
          have hD : va_D A [(h0, .inr (9, [.ref a0, .ref b0, .int np, .int th, .int ed, .long hh])), (a0, .inl (cI, 129, .inl (upd w (13 + i) r_2))), (b0, .inl (cI, 516, .inl pf))] := hD
          refine lv_iload_n hx hb dX9_switches_89 rfl (lv_at hl 0 rfl) ?_
          refine lv_iconst (v := 1) hx hb dX9_switches_90 (by decide) ?_
          refine lv_icmp_ne (tgt := 122) hx hb dX9_switches_91 (by decide) (fun _ => ?_) (fun c9 => absurd c9 c_3)
          refine lv_iload_n hx hb dX9_switches_122 rfl (lv_at hl 0 rfl) ?_
          refine lv_iconst (v := -1) hx hb dX9_switches_123 (by decide) ?_
          refine lv_icmp_ne (tgt := 155) hx hb dX9_switches_124 (by decide) (fun _ => ?_) (fun c9 => absurd c9 c_4)
          refine lv_iinc (v := nI (i + 1)) (lv' := [(1, .int (nI (i + 1))), (2, .int r_2), (0, .ref h0)]) hx hb dX9_switches_155 hl (k := 2) rfl (nI_1 _) (by decide) rfl (fun ls hl => ?_)
          refine lv_goto (tgt := 2) hx hb dX9_switches_158 (by decide) ?_
          exact ih h0 a0 b0 np th ed hh (upd w (13 + i) r_2) pf (i + 1) _ _ _ (nI_nle_lt (a := 3) (by omega) c_1) (by omega) (hP.subm [0, 1, 2] rfl) (hD.sub [0, 1, 2] rfl rfl) hS (lv_sub hl [2, 0] rfl) (fun y H locs ls hy => kk y H locs ls (by rw [hy]; simp only [LP_X9_switches, if_neg c_1, if_neg c_3, if_neg c_4, ← hw_2]))
        · skip
          refine lv_aload_n hx hb dX9_switches_48 rfl (lv_at hl 1 rfl) ?_
          refine va_get (D := D) (ci := 9) (v := .ref a0) (C := RX9) (T := TX9) (N := 6) hx hb hts hiX9 hown hK hP 0 rfl rfl 0 (by decide) hk_7 (fun _ h9 => h9) rfl dX9_switches_49 ?_
          refine lv_iconst (v := 0) hx hb dX9_switches_52 (by decide) ?_
          refine my_iald hx hb hK hP 1 0 rfl rfl 0 (rfl) (by decide) (by decide) dX9_switches_53 ?_
          refine lv_aload_n hx hb dX9_switches_54 rfl (lv_at hl 1 rfl) ?_
          refine va_get (D := D) (ci := 9) (v := .ref a0) (C := RX9) (T := TX9) (N := 6) hx hb hts hiX9 hown hK hP 0 rfl rfl 0 (by decide) hk_7 (fun _ h9 => h9) rfl dX9_switches_55 ?_
          refine lv_bipush (v := 16) hx hb dX9_switches_58 (by decide) ?_
          refine lv_iload_n hx hb dX9_switches_60 rfl (lv_at hl 2 rfl) ?_
          refine my_iaddN hx hb 16 i rfl rfl dX9_switches_61 ?_
          refine my_iald hx hb hK hP 1 0 rfl rfl (16 + i) (rfl) (by have := nI_nle_lt (a := 3) (by omega) c_1; omega) (by decide) dX9_switches_62 ?_
          refine lv_isub hx hb dX9_switches_63 ?_
          refine lv_aload_n hx hb dX9_switches_64 rfl (lv_at hl 1 rfl) ?_
          refine va_get (D := D) (ci := 9) (v := .ref a0) (C := RX9) (T := TX9) (N := 6) hx hb hts hiX9 hown hK hP 0 rfl rfl 0 (by decide) hk_7 (fun _ h9 => h9) rfl dX9_switches_65 ?_
          refine lv_iconst (v := 4) hx hb dX9_switches_68 (by decide) ?_
          refine my_iald hx hb hK hP 1 0 rfl rfl 4 (rfl) (by decide) (by decide) dX9_switches_69 ?_
          refine lv_icmp_gt (tgt := 77) hx hb dX9_switches_70 (by decide) (fun c_5 => ?_) (fun c_5 => ?_)
          · skip
            refine lv_iload_n hx hb dX9_switches_77 rfl (lv_at hl 0 rfl) ?_
            refine lv_istore_n (lv' := [(2, .int r_2), (0, .ref h0), (1, .int (nI i))]) hx hb dX9_switches_78 rfl hl (by decide) rfl (fun ls hl => ?_)
            refine lv_aload_n hx hb dX9_switches_79 rfl (lv_at hl 1 rfl) ?_
            refine va_get (D := D) (ci := 9) (v := .ref a0) (C := RX9) (T := TX9) (N := 6) hx hb hts hiX9 hown hK hP 0 rfl rfl 0 (by decide) hk_7 (fun _ h9 => h9) rfl dX9_switches_80 ?_
            refine lv_bipush (v := 13) hx hb dX9_switches_83 (by decide) ?_
            refine lv_iload_n hx hb dX9_switches_85 rfl (lv_at hl 2 rfl) ?_
            refine my_iaddN hx hb 13 i rfl rfl dX9_switches_86 ?_
            refine lv_iload_n hx hb dX9_switches_87 rfl (lv_at hl 0 rfl) ?_
            refine my_iast hx hb hK hP hD hS 1 0 rfl rfl (13 + i) (rfl) (by have := nI_nle_lt (a := 3) (by omega) c_1; omega) (by decide) dX9_switches_88 (fun H locs hP hD hS => ?_)
            have hP : va_P D vwCl [(h0, .inr (9, [.ref a0, .ref b0, .int np, .int th, .int ed, .long hh])), (a0, .inl (cI, 129, .inl (upd w (13 + i) r_2))), (b0, .inl (cI, 516, .inl pf))] H := hP
            have hD : va_D A [(h0, .inr (9, [.ref a0, .ref b0, .int np, .int th, .int ed, .long hh])), (a0, .inl (cI, 129, .inl (upd w (13 + i) r_2))), (b0, .inl (cI, 516, .inl pf))] := hD
            refine lv_iload_n hx hb dX9_switches_89 rfl (lv_at hl 0 rfl) ?_
            refine lv_iconst (v := 1) hx hb dX9_switches_90 (by decide) ?_
            refine lv_icmp_ne (tgt := 122) hx hb dX9_switches_91 (by decide) (fun _ => ?_) (fun c9 => absurd c9 c_3)
            refine lv_iload_n hx hb dX9_switches_122 rfl (lv_at hl 0 rfl) ?_
            refine lv_iconst (v := -1) hx hb dX9_switches_123 (by decide) ?_
            refine lv_icmp_ne (tgt := 155) hx hb dX9_switches_124 (by decide) (fun c9 => absurd c_4 c9) (fun _ => ?_)
            refine lv_aload_n hx hb dX9_switches_127 rfl (lv_at hl 1 rfl) ?_
            refine va_get (D := D) (ci := 9) (v := .ref a0) (C := RX9) (T := TX9) (N := 6) hx hb hts hiX9 hown hK hP 0 rfl rfl 0 (by decide) hk_7 (fun _ h9 => h9) rfl dX9_switches_128 ?_
            refine lv_bipush (v := 19) hx hb dX9_switches_131 (by decide) ?_
            refine lv_iload_n hx hb dX9_switches_133 rfl (lv_at hl 2 rfl) ?_
            refine my_iaddN hx hb 19 i rfl rfl dX9_switches_134 ?_
            refine lv_aload_n hx hb dX9_switches_135 rfl (lv_at hl 1 rfl) ?_
            refine va_get (D := D) (ci := 9) (v := .ref a0) (C := RX9) (T := TX9) (N := 6) hx hb hts hiX9 hown hK hP 0 rfl rfl 0 (by decide) hk_7 (fun _ h9 => h9) rfl dX9_switches_136 ?_
            refine lv_iconst (v := 0) hx hb dX9_switches_139 (by decide) ?_
            refine my_iald hx hb hK hP 1 0 rfl rfl 0 (rfl) (by decide) (by decide) dX9_switches_140 ?_
            refine my_iast hx hb hK hP hD hS 1 0 rfl rfl (19 + i) (rfl) (by have := nI_nle_lt (a := 3) (by omega) c_1; omega) (by decide) dX9_switches_141 (fun H locs hP hD hS => ?_)
            have hP : va_P D vwCl [(h0, .inr (9, [.ref a0, .ref b0, .int np, .int th, .int ed, .long hh])), (a0, .inl (cI, 129, .inl (upd (upd w (13 + i) r_2) (19 + i) ((upd w (13 + i) r_2) 0)))), (b0, .inl (cI, 516, .inl pf))] H := hP
            have hD : va_D A [(h0, .inr (9, [.ref a0, .ref b0, .int np, .int th, .int ed, .long hh])), (a0, .inl (cI, 129, .inl (upd (upd w (13 + i) r_2) (19 + i) ((upd w (13 + i) r_2) 0)))), (b0, .inl (cI, 516, .inl pf))] := hD
            refine lv_aload_n hx hb dX9_switches_142 rfl (lv_at hl 1 rfl) ?_
            refine va_get (D := D) (ci := 9) (v := .ref a0) (C := RX9) (T := TX9) (N := 6) hx hb hts hiX9 hown hK hP 0 rfl rfl 0 (by decide) hk_7 (fun _ h9 => h9) rfl dX9_switches_143 ?_
            refine lv_bipush (v := 25) hx hb dX9_switches_146 (by decide) ?_
            refine lv_iload_n hx hb dX9_switches_148 rfl (lv_at hl 2 rfl) ?_
            refine my_iaddN hx hb 25 i rfl rfl dX9_switches_149 ?_
            refine lv_dup2_11 hx hb dX9_switches_150 rfl rfl ?_
            refine my_iald hx hb hK hP 1 0 rfl rfl (25 + i) (rfl) (by have := nI_nle_lt (a := 3) (by omega) c_1; omega) (by decide) dX9_switches_151 ?_
            refine lv_iconst (v := 1) hx hb dX9_switches_152 (by decide) ?_
            refine lv_iadd hx hb dX9_switches_153 ?_
            refine my_iast hx hb hK hP hD hS 1 0 rfl rfl (25 + i) (rfl) (by have := nI_nle_lt (a := 3) (by omega) c_1; omega) (by decide) dX9_switches_154 (fun H locs hP hD hS => ?_)
            have hP : va_P D vwCl [(h0, .inr (9, [.ref a0, .ref b0, .int np, .int th, .int ed, .long hh])), (a0, .inl (cI, 129, .inl (upd (upd (upd w (13 + i) r_2) (19 + i) ((upd w (13 + i) r_2) 0)) (25 + i) (((upd (upd w (13 + i) r_2) (19 + i) ((upd w (13 + i) r_2) 0)) (25 + i)) + (1 : Int32))))), (b0, .inl (cI, 516, .inl pf))] H := hP
            have hD : va_D A [(h0, .inr (9, [.ref a0, .ref b0, .int np, .int th, .int ed, .long hh])), (a0, .inl (cI, 129, .inl (upd (upd (upd w (13 + i) r_2) (19 + i) ((upd w (13 + i) r_2) 0)) (25 + i) (((upd (upd w (13 + i) r_2) (19 + i) ((upd w (13 + i) r_2) 0)) (25 + i)) + (1 : Int32))))), (b0, .inl (cI, 516, .inl pf))] := hD
            refine lv_iinc (v := nI (i + 1)) (lv' := [(1, .int (nI (i + 1))), (2, .int r_2), (0, .ref h0)]) hx hb dX9_switches_155 hl (k := 2) rfl (nI_1 _) (by decide) rfl (fun ls hl => ?_)
            refine lv_goto (tgt := 2) hx hb dX9_switches_158 (by decide) ?_
            exact ih h0 a0 b0 np th ed hh (upd (upd (upd w (13 + i) r_2) (19 + i) ((upd w (13 + i) r_2) 0)) (25 + i) (((upd (upd w (13 + i) r_2) (19 + i) ((upd w (13 + i) r_2) 0)) (25 + i)) + (1 : Int32))) pf (i + 1) _ _ _ (nI_nle_lt (a := 3) (by omega) c_1) (by omega) (hP.subm [0, 1, 2] rfl) (hD.sub [0, 1, 2] rfl rfl) hS (lv_sub hl [2, 0] rfl) (fun y H locs ls hy => kk y H locs ls (by rw [hy]; simp only [LP_X9_switches, if_neg c_1, if_neg c_3, if_pos c_4, if_pos c_5, ← hw_2]))
          · skip
            refine lv_iconst (v := 0) hx hb dX9_switches_73 (by decide) ?_
            refine lv_goto (tgt := 78) hx hb dX9_switches_74 (by decide) ?_
            refine lv_istore_n (lv' := [(2, .int (0 : Int32)), (0, .ref h0), (1, .int (nI i))]) hx hb dX9_switches_78 rfl hl (by decide) rfl (fun ls hl => ?_)
            refine lv_aload_n hx hb dX9_switches_79 rfl (lv_at hl 1 rfl) ?_
            refine va_get (D := D) (ci := 9) (v := .ref a0) (C := RX9) (T := TX9) (N := 6) hx hb hts hiX9 hown hK hP 0 rfl rfl 0 (by decide) hk_7 (fun _ h9 => h9) rfl dX9_switches_80 ?_
            refine lv_bipush (v := 13) hx hb dX9_switches_83 (by decide) ?_
            refine lv_iload_n hx hb dX9_switches_85 rfl (lv_at hl 2 rfl) ?_
            refine my_iaddN hx hb 13 i rfl rfl dX9_switches_86 ?_
            refine lv_iload_n hx hb dX9_switches_87 rfl (lv_at hl 0 rfl) ?_
            refine my_iast hx hb hK hP hD hS 1 0 rfl rfl (13 + i) (rfl) (by have := nI_nle_lt (a := 3) (by omega) c_1; omega) (by decide) dX9_switches_88 (fun H locs hP hD hS => ?_)
            have hP : va_P D vwCl [(h0, .inr (9, [.ref a0, .ref b0, .int np, .int th, .int ed, .long hh])), (a0, .inl (cI, 129, .inl (upd w (13 + i) (0 : Int32)))), (b0, .inl (cI, 516, .inl pf))] H := hP
            have hD : va_D A [(h0, .inr (9, [.ref a0, .ref b0, .int np, .int th, .int ed, .long hh])), (a0, .inl (cI, 129, .inl (upd w (13 + i) (0 : Int32)))), (b0, .inl (cI, 516, .inl pf))] := hD
            refine lv_iload_n hx hb dX9_switches_89 rfl (lv_at hl 0 rfl) ?_
            refine lv_iconst (v := 1) hx hb dX9_switches_90 (by decide) ?_
            refine lv_icmp_ne (tgt := 122) hx hb dX9_switches_91 (by decide) (fun _ => ?_) (fun c9 => absurd c9 (by decide))
            refine lv_iload_n hx hb dX9_switches_122 rfl (lv_at hl 0 rfl) ?_
            refine lv_iconst (v := -1) hx hb dX9_switches_123 (by decide) ?_
            refine lv_icmp_ne (tgt := 155) hx hb dX9_switches_124 (by decide) (fun _ => ?_) (fun c9 => absurd c9 (by decide))
            refine lv_iinc (v := nI (i + 1)) (lv' := [(1, .int (nI (i + 1))), (2, .int (0 : Int32)), (0, .ref h0)]) hx hb dX9_switches_155 hl (k := 2) rfl (nI_1 _) (by decide) rfl (fun ls hl => ?_)
            refine lv_goto (tgt := 2) hx hb dX9_switches_158 (by decide) ?_
            exact ih h0 a0 b0 np th ed hh (upd w (13 + i) (0 : Int32)) pf (i + 1) _ _ _ (nI_nle_lt (a := 3) (by omega) c_1) (by omega) (hP.subm [0, 1, 2] rfl) (hD.sub [0, 1, 2] rfl rfl) hS (lv_sub hl [2, 0] rfl) (fun y H locs ls hy => kk y H locs ls (by rw [hy]; simp only [LP_X9_switches, if_neg c_1, if_neg c_3, if_pos c_4, if_neg c_5, ← hw_2]))
      · skip
        refine lv_aload_n hx hb dX9_switches_18 rfl (lv_at hl 1 rfl) ?_
        refine va_get (D := D) (ci := 9) (v := .ref a0) (C := RX9) (T := TX9) (N := 6) hx hb hts hiX9 hown hK hP 0 rfl rfl 0 (by decide) hk_7 (fun _ h9 => h9) rfl dX9_switches_19 ?_
        refine lv_iconst (v := 0) hx hb dX9_switches_22 (by decide) ?_
        refine my_iald hx hb hK hP 1 0 rfl rfl 0 (rfl) (by decide) (by decide) dX9_switches_23 ?_
        refine lv_aload_n hx hb dX9_switches_24 rfl (lv_at hl 1 rfl) ?_
        refine va_get (D := D) (ci := 9) (v := .ref a0) (C := RX9) (T := TX9) (N := 6) hx hb hts hiX9 hown hK hP 0 rfl rfl 0 (by decide) hk_7 (fun _ h9 => h9) rfl dX9_switches_25 ?_
        refine lv_bipush (v := 19) hx hb dX9_switches_28 (by decide) ?_
        refine lv_iload_n hx hb dX9_switches_30 rfl (lv_at hl 2 rfl) ?_
        refine my_iaddN hx hb 19 i rfl rfl dX9_switches_31 ?_
        refine my_iald hx hb hK hP 1 0 rfl rfl (19 + i) (rfl) (by have := nI_nle_lt (a := 3) (by omega) c_1; omega) (by decide) dX9_switches_32 ?_
        refine lv_isub hx hb dX9_switches_33 ?_
        refine lv_aload_n hx hb dX9_switches_34 rfl (lv_at hl 1 rfl) ?_
        refine va_get (D := D) (ci := 9) (v := .ref a0) (C := RX9) (T := TX9) (N := 6) hx hb hts hiX9 hown hK hP 0 rfl rfl 0 (by decide) hk_7 (fun _ h9 => h9) rfl dX9_switches_35 ?_
        refine lv_iconst (v := 4) hx hb dX9_switches_38 (by decide) ?_
        refine my_iald hx hb hK hP 1 0 rfl rfl 4 (rfl) (by decide) (by decide) dX9_switches_39 ?_
        refine lv_icmp_le (tgt := 73) hx hb dX9_switches_40 (by decide) (fun c_6 => ?_) (fun c_6 => ?_)
        · skip
          refine lv_iconst (v := 0) hx hb dX9_switches_73 (by decide) ?_
          refine lv_goto (tgt := 78) hx hb dX9_switches_74 (by decide) ?_
          refine lv_istore_n (lv' := [(2, .int (0 : Int32)), (0, .ref h0), (1, .int (nI i))]) hx hb dX9_switches_78 rfl hl (by decide) rfl (fun ls hl => ?_)
          refine lv_aload_n hx hb dX9_switches_79 rfl (lv_at hl 1 rfl) ?_
          refine va_get (D := D) (ci := 9) (v := .ref a0) (C := RX9) (T := TX9) (N := 6) hx hb hts hiX9 hown hK hP 0 rfl rfl 0 (by decide) hk_7 (fun _ h9 => h9) rfl dX9_switches_80 ?_
          refine lv_bipush (v := 13) hx hb dX9_switches_83 (by decide) ?_
          refine lv_iload_n hx hb dX9_switches_85 rfl (lv_at hl 2 rfl) ?_
          refine my_iaddN hx hb 13 i rfl rfl dX9_switches_86 ?_
          refine lv_iload_n hx hb dX9_switches_87 rfl (lv_at hl 0 rfl) ?_
          refine my_iast hx hb hK hP hD hS 1 0 rfl rfl (13 + i) (rfl) (by have := nI_nle_lt (a := 3) (by omega) c_1; omega) (by decide) dX9_switches_88 (fun H locs hP hD hS => ?_)
          have hP : va_P D vwCl [(h0, .inr (9, [.ref a0, .ref b0, .int np, .int th, .int ed, .long hh])), (a0, .inl (cI, 129, .inl (upd w (13 + i) (0 : Int32)))), (b0, .inl (cI, 516, .inl pf))] H := hP
          have hD : va_D A [(h0, .inr (9, [.ref a0, .ref b0, .int np, .int th, .int ed, .long hh])), (a0, .inl (cI, 129, .inl (upd w (13 + i) (0 : Int32)))), (b0, .inl (cI, 516, .inl pf))] := hD
          refine lv_iload_n hx hb dX9_switches_89 rfl (lv_at hl 0 rfl) ?_
          refine lv_iconst (v := 1) hx hb dX9_switches_90 (by decide) ?_
          refine lv_icmp_ne (tgt := 122) hx hb dX9_switches_91 (by decide) (fun _ => ?_) (fun c9 => absurd c9 (by decide))
          refine lv_iload_n hx hb dX9_switches_122 rfl (lv_at hl 0 rfl) ?_
          refine lv_iconst (v := -1) hx hb dX9_switches_123 (by decide) ?_
          refine lv_icmp_ne (tgt := 155) hx hb dX9_switches_124 (by decide) (fun _ => ?_) (fun c9 => absurd c9 (by decide))
          refine lv_iinc (v := nI (i + 1)) (lv' := [(1, .int (nI (i + 1))), (2, .int (0 : Int32)), (0, .ref h0)]) hx hb dX9_switches_155 hl (k := 2) rfl (nI_1 _) (by decide) rfl (fun ls hl => ?_)
          refine lv_goto (tgt := 2) hx hb dX9_switches_158 (by decide) ?_
          exact ih h0 a0 b0 np th ed hh (upd w (13 + i) (0 : Int32)) pf (i + 1) _ _ _ (nI_nle_lt (a := 3) (by omega) c_1) (by omega) (hP.subm [0, 1, 2] rfl) (hD.sub [0, 1, 2] rfl rfl) hS (lv_sub hl [2, 0] rfl) (fun y H locs ls hy => kk y H locs ls (by rw [hy]; simp only [LP_X9_switches, if_neg c_1, if_pos c_3, if_pos c_6, ← hw_2]))
        · skip
          refine lv_iload_n hx hb dX9_switches_43 rfl (lv_at hl 0 rfl) ?_
          refine lv_iconst (v := -1) hx hb dX9_switches_44 (by decide) ?_
          refine lv_icmp_ne (tgt := 77) hx hb dX9_switches_45 (by decide) (fun c_7 => ?_) (fun c_7 => ?_)
          · skip
            refine lv_iload_n hx hb dX9_switches_77 rfl (lv_at hl 0 rfl) ?_
            refine lv_istore_n (lv' := [(2, .int r_2), (0, .ref h0), (1, .int (nI i))]) hx hb dX9_switches_78 rfl hl (by decide) rfl (fun ls hl => ?_)
            refine lv_aload_n hx hb dX9_switches_79 rfl (lv_at hl 1 rfl) ?_
            refine va_get (D := D) (ci := 9) (v := .ref a0) (C := RX9) (T := TX9) (N := 6) hx hb hts hiX9 hown hK hP 0 rfl rfl 0 (by decide) hk_7 (fun _ h9 => h9) rfl dX9_switches_80 ?_
            refine lv_bipush (v := 13) hx hb dX9_switches_83 (by decide) ?_
            refine lv_iload_n hx hb dX9_switches_85 rfl (lv_at hl 2 rfl) ?_
            refine my_iaddN hx hb 13 i rfl rfl dX9_switches_86 ?_
            refine lv_iload_n hx hb dX9_switches_87 rfl (lv_at hl 0 rfl) ?_
            refine my_iast hx hb hK hP hD hS 1 0 rfl rfl (13 + i) (rfl) (by have := nI_nle_lt (a := 3) (by omega) c_1; omega) (by decide) dX9_switches_88 (fun H locs hP hD hS => ?_)
            have hP : va_P D vwCl [(h0, .inr (9, [.ref a0, .ref b0, .int np, .int th, .int ed, .long hh])), (a0, .inl (cI, 129, .inl (upd w (13 + i) r_2))), (b0, .inl (cI, 516, .inl pf))] H := hP
            have hD : va_D A [(h0, .inr (9, [.ref a0, .ref b0, .int np, .int th, .int ed, .long hh])), (a0, .inl (cI, 129, .inl (upd w (13 + i) r_2))), (b0, .inl (cI, 516, .inl pf))] := hD
            refine lv_iload_n hx hb dX9_switches_89 rfl (lv_at hl 0 rfl) ?_
            refine lv_iconst (v := 1) hx hb dX9_switches_90 (by decide) ?_
            refine lv_icmp_ne (tgt := 122) hx hb dX9_switches_91 (by decide) (fun c9 => absurd c_3 c9) (fun _ => ?_)
            refine lv_aload_n hx hb dX9_switches_94 rfl (lv_at hl 1 rfl) ?_
            refine va_get (D := D) (ci := 9) (v := .ref a0) (C := RX9) (T := TX9) (N := 6) hx hb hts hiX9 hown hK hP 0 rfl rfl 0 (by decide) hk_7 (fun _ h9 => h9) rfl dX9_switches_95 ?_
            refine lv_bipush (v := 16) hx hb dX9_switches_98 (by decide) ?_
            refine lv_iload_n hx hb dX9_switches_100 rfl (lv_at hl 2 rfl) ?_
            refine my_iaddN hx hb 16 i rfl rfl dX9_switches_101 ?_
            refine lv_aload_n hx hb dX9_switches_102 rfl (lv_at hl 1 rfl) ?_
            refine va_get (D := D) (ci := 9) (v := .ref a0) (C := RX9) (T := TX9) (N := 6) hx hb hts hiX9 hown hK hP 0 rfl rfl 0 (by decide) hk_7 (fun _ h9 => h9) rfl dX9_switches_103 ?_
            refine lv_iconst (v := 0) hx hb dX9_switches_106 (by decide) ?_
            refine my_iald hx hb hK hP 1 0 rfl rfl 0 (rfl) (by decide) (by decide) dX9_switches_107 ?_
            refine my_iast hx hb hK hP hD hS 1 0 rfl rfl (16 + i) (rfl) (by have := nI_nle_lt (a := 3) (by omega) c_1; omega) (by decide) dX9_switches_108 (fun H locs hP hD hS => ?_)
            have hP : va_P D vwCl [(h0, .inr (9, [.ref a0, .ref b0, .int np, .int th, .int ed, .long hh])), (a0, .inl (cI, 129, .inl (upd (upd w (13 + i) r_2) (16 + i) ((upd w (13 + i) r_2) 0)))), (b0, .inl (cI, 516, .inl pf))] H := hP
            have hD : va_D A [(h0, .inr (9, [.ref a0, .ref b0, .int np, .int th, .int ed, .long hh])), (a0, .inl (cI, 129, .inl (upd (upd w (13 + i) r_2) (16 + i) ((upd w (13 + i) r_2) 0)))), (b0, .inl (cI, 516, .inl pf))] := hD
            refine lv_aload_n hx hb dX9_switches_109 rfl (lv_at hl 1 rfl) ?_
            refine va_get (D := D) (ci := 9) (v := .ref a0) (C := RX9) (T := TX9) (N := 6) hx hb hts hiX9 hown hK hP 0 rfl rfl 0 (by decide) hk_7 (fun _ h9 => h9) rfl dX9_switches_110 ?_
            refine lv_bipush (v := 22) hx hb dX9_switches_113 (by decide) ?_
            refine lv_iload_n hx hb dX9_switches_115 rfl (lv_at hl 2 rfl) ?_
            refine my_iaddN hx hb 22 i rfl rfl dX9_switches_116 ?_
            refine lv_dup2_11 hx hb dX9_switches_117 rfl rfl ?_
            refine my_iald hx hb hK hP 1 0 rfl rfl (22 + i) (rfl) (by have := nI_nle_lt (a := 3) (by omega) c_1; omega) (by decide) dX9_switches_118 ?_
            refine lv_iconst (v := 1) hx hb dX9_switches_119 (by decide) ?_
            refine lv_iadd hx hb dX9_switches_120 ?_
            refine my_iast hx hb hK hP hD hS 1 0 rfl rfl (22 + i) (rfl) (by have := nI_nle_lt (a := 3) (by omega) c_1; omega) (by decide) dX9_switches_121 (fun H locs hP hD hS => ?_)
            have hP : va_P D vwCl [(h0, .inr (9, [.ref a0, .ref b0, .int np, .int th, .int ed, .long hh])), (a0, .inl (cI, 129, .inl (upd (upd (upd w (13 + i) r_2) (16 + i) ((upd w (13 + i) r_2) 0)) (22 + i) (((upd (upd w (13 + i) r_2) (16 + i) ((upd w (13 + i) r_2) 0)) (22 + i)) + (1 : Int32))))), (b0, .inl (cI, 516, .inl pf))] H := hP
            have hD : va_D A [(h0, .inr (9, [.ref a0, .ref b0, .int np, .int th, .int ed, .long hh])), (a0, .inl (cI, 129, .inl (upd (upd (upd w (13 + i) r_2) (16 + i) ((upd w (13 + i) r_2) 0)) (22 + i) (((upd (upd w (13 + i) r_2) (16 + i) ((upd w (13 + i) r_2) 0)) (22 + i)) + (1 : Int32))))), (b0, .inl (cI, 516, .inl pf))] := hD
            refine lv_iload_n hx hb dX9_switches_122 rfl (lv_at hl 0 rfl) ?_
            refine lv_iconst (v := -1) hx hb dX9_switches_123 (by decide) ?_
            refine lv_icmp_ne (tgt := 155) hx hb dX9_switches_124 (by decide) (fun _ => ?_) (fun c9 => absurd c9 c_7)
            refine lv_iinc (v := nI (i + 1)) (lv' := [(1, .int (nI (i + 1))), (2, .int r_2), (0, .ref h0)]) hx hb dX9_switches_155 hl (k := 2) rfl (nI_1 _) (by decide) rfl (fun ls hl => ?_)
            refine lv_goto (tgt := 2) hx hb dX9_switches_158 (by decide) ?_
            exact ih h0 a0 b0 np th ed hh (upd (upd (upd w (13 + i) r_2) (16 + i) ((upd w (13 + i) r_2) 0)) (22 + i) (((upd (upd w (13 + i) r_2) (16 + i) ((upd w (13 + i) r_2) 0)) (22 + i)) + (1 : Int32))) pf (i + 1) _ _ _ (nI_nle_lt (a := 3) (by omega) c_1) (by omega) (hP.subm [0, 1, 2] rfl) (hD.sub [0, 1, 2] rfl rfl) hS (lv_sub hl [2, 0] rfl) (fun y H locs ls hy => kk y H locs ls (by rw [hy]; simp only [LP_X9_switches, if_neg c_1, if_pos c_3, if_neg c_6, if_neg c_7, ← hw_2]))
          · skip
            refine lv_aload_n hx hb dX9_switches_48 rfl (lv_at hl 1 rfl) ?_
            refine va_get (D := D) (ci := 9) (v := .ref a0) (C := RX9) (T := TX9) (N := 6) hx hb hts hiX9 hown hK hP 0 rfl rfl 0 (by decide) hk_7 (fun _ h9 => h9) rfl dX9_switches_49 ?_
            refine lv_iconst (v := 0) hx hb dX9_switches_52 (by decide) ?_
            refine my_iald hx hb hK hP 1 0 rfl rfl 0 (rfl) (by decide) (by decide) dX9_switches_53 ?_
            refine lv_aload_n hx hb dX9_switches_54 rfl (lv_at hl 1 rfl) ?_
            refine va_get (D := D) (ci := 9) (v := .ref a0) (C := RX9) (T := TX9) (N := 6) hx hb hts hiX9 hown hK hP 0 rfl rfl 0 (by decide) hk_7 (fun _ h9 => h9) rfl dX9_switches_55 ?_
            refine lv_bipush (v := 16) hx hb dX9_switches_58 (by decide) ?_
            refine lv_iload_n hx hb dX9_switches_60 rfl (lv_at hl 2 rfl) ?_
            refine my_iaddN hx hb 16 i rfl rfl dX9_switches_61 ?_
            refine my_iald hx hb hK hP 1 0 rfl rfl (16 + i) (rfl) (by have := nI_nle_lt (a := 3) (by omega) c_1; omega) (by decide) dX9_switches_62 ?_
            refine lv_isub hx hb dX9_switches_63 ?_
            refine lv_aload_n hx hb dX9_switches_64 rfl (lv_at hl 1 rfl) ?_
            refine va_get (D := D) (ci := 9) (v := .ref a0) (C := RX9) (T := TX9) (N := 6) hx hb hts hiX9 hown hK hP 0 rfl rfl 0 (by decide) hk_7 (fun _ h9 => h9) rfl dX9_switches_65 ?_
            refine lv_iconst (v := 4) hx hb dX9_switches_68 (by decide) ?_
            refine my_iald hx hb hK hP 1 0 rfl rfl 4 (rfl) (by decide) (by decide) dX9_switches_69 ?_
            refine lv_icmp_gt (tgt := 77) hx hb dX9_switches_70 (by decide) (fun c_8 => ?_) (fun c_8 => ?_)
            · skip
              refine lv_iload_n hx hb dX9_switches_77 rfl (lv_at hl 0 rfl) ?_
              refine lv_istore_n (lv' := [(2, .int r_2), (0, .ref h0), (1, .int (nI i))]) hx hb dX9_switches_78 rfl hl (by decide) rfl (fun ls hl => ?_)
              refine lv_aload_n hx hb dX9_switches_79 rfl (lv_at hl 1 rfl) ?_
              refine va_get (D := D) (ci := 9) (v := .ref a0) (C := RX9) (T := TX9) (N := 6) hx hb hts hiX9 hown hK hP 0 rfl rfl 0 (by decide) hk_7 (fun _ h9 => h9) rfl dX9_switches_80 ?_
              refine lv_bipush (v := 13) hx hb dX9_switches_83 (by decide) ?_
              refine lv_iload_n hx hb dX9_switches_85 rfl (lv_at hl 2 rfl) ?_
              refine my_iaddN hx hb 13 i rfl rfl dX9_switches_86 ?_
              refine lv_iload_n hx hb dX9_switches_87 rfl (lv_at hl 0 rfl) ?_
              refine my_iast hx hb hK hP hD hS 1 0 rfl rfl (13 + i) (rfl) (by have := nI_nle_lt (a := 3) (by omega) c_1; omega) (by decide) dX9_switches_88 (fun H locs hP hD hS => ?_)
              have hP : va_P D vwCl [(h0, .inr (9, [.ref a0, .ref b0, .int np, .int th, .int ed, .long hh])), (a0, .inl (cI, 129, .inl (upd w (13 + i) r_2))), (b0, .inl (cI, 516, .inl pf))] H := hP
              have hD : va_D A [(h0, .inr (9, [.ref a0, .ref b0, .int np, .int th, .int ed, .long hh])), (a0, .inl (cI, 129, .inl (upd w (13 + i) r_2))), (b0, .inl (cI, 516, .inl pf))] := hD
              refine lv_iload_n hx hb dX9_switches_89 rfl (lv_at hl 0 rfl) ?_
              refine lv_iconst (v := 1) hx hb dX9_switches_90 (by decide) ?_
              refine lv_icmp_ne (tgt := 122) hx hb dX9_switches_91 (by decide) (fun c9 => absurd c_3 c9) (fun _ => ?_)
              refine lv_aload_n hx hb dX9_switches_94 rfl (lv_at hl 1 rfl) ?_
              refine va_get (D := D) (ci := 9) (v := .ref a0) (C := RX9) (T := TX9) (N := 6) hx hb hts hiX9 hown hK hP 0 rfl rfl 0 (by decide) hk_7 (fun _ h9 => h9) rfl dX9_switches_95 ?_
              refine lv_bipush (v := 16) hx hb dX9_switches_98 (by decide) ?_
              refine lv_iload_n hx hb dX9_switches_100 rfl (lv_at hl 2 rfl) ?_
              refine my_iaddN hx hb 16 i rfl rfl dX9_switches_101 ?_
              refine lv_aload_n hx hb dX9_switches_102 rfl (lv_at hl 1 rfl) ?_
              refine va_get (D := D) (ci := 9) (v := .ref a0) (C := RX9) (T := TX9) (N := 6) hx hb hts hiX9 hown hK hP 0 rfl rfl 0 (by decide) hk_7 (fun _ h9 => h9) rfl dX9_switches_103 ?_
              refine lv_iconst (v := 0) hx hb dX9_switches_106 (by decide) ?_
              refine my_iald hx hb hK hP 1 0 rfl rfl 0 (rfl) (by decide) (by decide) dX9_switches_107 ?_
              refine my_iast hx hb hK hP hD hS 1 0 rfl rfl (16 + i) (rfl) (by have := nI_nle_lt (a := 3) (by omega) c_1; omega) (by decide) dX9_switches_108 (fun H locs hP hD hS => ?_)
              have hP : va_P D vwCl [(h0, .inr (9, [.ref a0, .ref b0, .int np, .int th, .int ed, .long hh])), (a0, .inl (cI, 129, .inl (upd (upd w (13 + i) r_2) (16 + i) ((upd w (13 + i) r_2) 0)))), (b0, .inl (cI, 516, .inl pf))] H := hP
              have hD : va_D A [(h0, .inr (9, [.ref a0, .ref b0, .int np, .int th, .int ed, .long hh])), (a0, .inl (cI, 129, .inl (upd (upd w (13 + i) r_2) (16 + i) ((upd w (13 + i) r_2) 0)))), (b0, .inl (cI, 516, .inl pf))] := hD
              refine lv_aload_n hx hb dX9_switches_109 rfl (lv_at hl 1 rfl) ?_
              refine va_get (D := D) (ci := 9) (v := .ref a0) (C := RX9) (T := TX9) (N := 6) hx hb hts hiX9 hown hK hP 0 rfl rfl 0 (by decide) hk_7 (fun _ h9 => h9) rfl dX9_switches_110 ?_
              refine lv_bipush (v := 22) hx hb dX9_switches_113 (by decide) ?_
              refine lv_iload_n hx hb dX9_switches_115 rfl (lv_at hl 2 rfl) ?_
              refine my_iaddN hx hb 22 i rfl rfl dX9_switches_116 ?_
              refine lv_dup2_11 hx hb dX9_switches_117 rfl rfl ?_
              refine my_iald hx hb hK hP 1 0 rfl rfl (22 + i) (rfl) (by have := nI_nle_lt (a := 3) (by omega) c_1; omega) (by decide) dX9_switches_118 ?_
              refine lv_iconst (v := 1) hx hb dX9_switches_119 (by decide) ?_
              refine lv_iadd hx hb dX9_switches_120 ?_
              refine my_iast hx hb hK hP hD hS 1 0 rfl rfl (22 + i) (rfl) (by have := nI_nle_lt (a := 3) (by omega) c_1; omega) (by decide) dX9_switches_121 (fun H locs hP hD hS => ?_)
              have hP : va_P D vwCl [(h0, .inr (9, [.ref a0, .ref b0, .int np, .int th, .int ed, .long hh])), (a0, .inl (cI, 129, .inl (upd (upd (upd w (13 + i) r_2) (16 + i) ((upd w (13 + i) r_2) 0)) (22 + i) (((upd (upd w (13 + i) r_2) (16 + i) ((upd w (13 + i) r_2) 0)) (22 + i)) + (1 : Int32))))), (b0, .inl (cI, 516, .inl pf))] H := hP
              have hD : va_D A [(h0, .inr (9, [.ref a0, .ref b0, .int np, .int th, .int ed, .long hh])), (a0, .inl (cI, 129, .inl (upd (upd (upd w (13 + i) r_2) (16 + i) ((upd w (13 + i) r_2) 0)) (22 + i) (((upd (upd w (13 + i) r_2) (16 + i) ((upd w (13 + i) r_2) 0)) (22 + i)) + (1 : Int32))))), (b0, .inl (cI, 516, .inl pf))] := hD
              refine lv_iload_n hx hb dX9_switches_122 rfl (lv_at hl 0 rfl) ?_
              refine lv_iconst (v := -1) hx hb dX9_switches_123 (by decide) ?_
              refine lv_icmp_ne (tgt := 155) hx hb dX9_switches_124 (by decide) (fun c9 => absurd c_7 c9) (fun _ => ?_)
              refine lv_aload_n hx hb dX9_switches_127 rfl (lv_at hl 1 rfl) ?_
              refine va_get (D := D) (ci := 9) (v := .ref a0) (C := RX9) (T := TX9) (N := 6) hx hb hts hiX9 hown hK hP 0 rfl rfl 0 (by decide) hk_7 (fun _ h9 => h9) rfl dX9_switches_128 ?_
              refine lv_bipush (v := 19) hx hb dX9_switches_131 (by decide) ?_
              refine lv_iload_n hx hb dX9_switches_133 rfl (lv_at hl 2 rfl) ?_
              refine my_iaddN hx hb 19 i rfl rfl dX9_switches_134 ?_
              refine lv_aload_n hx hb dX9_switches_135 rfl (lv_at hl 1 rfl) ?_
              refine va_get (D := D) (ci := 9) (v := .ref a0) (C := RX9) (T := TX9) (N := 6) hx hb hts hiX9 hown hK hP 0 rfl rfl 0 (by decide) hk_7 (fun _ h9 => h9) rfl dX9_switches_136 ?_
              refine lv_iconst (v := 0) hx hb dX9_switches_139 (by decide) ?_
              refine my_iald hx hb hK hP 1 0 rfl rfl 0 (rfl) (by decide) (by decide) dX9_switches_140 ?_
              refine my_iast hx hb hK hP hD hS 1 0 rfl rfl (19 + i) (rfl) (by have := nI_nle_lt (a := 3) (by omega) c_1; omega) (by decide) dX9_switches_141 (fun H locs hP hD hS => ?_)
              have hP : va_P D vwCl [(h0, .inr (9, [.ref a0, .ref b0, .int np, .int th, .int ed, .long hh])), (a0, .inl (cI, 129, .inl (upd (upd (upd (upd w (13 + i) r_2) (16 + i) ((upd w (13 + i) r_2) 0)) (22 + i) (((upd (upd w (13 + i) r_2) (16 + i) ((upd w (13 + i) r_2) 0)) (22 + i)) + (1 : Int32))) (19 + i) ((upd (upd (upd w (13 + i) r_2) (16 + i) ((upd w (13 + i) r_2) 0)) (22 + i) (((upd (upd w (13 + i) r_2) (16 + i) ((upd w (13 + i) r_2) 0)) (22 + i)) + (1 : Int32))) 0)))), (b0, .inl (cI, 516, .inl pf))] H := hP
              have hD : va_D A [(h0, .inr (9, [.ref a0, .ref b0, .int np, .int th, .int ed, .long hh])), (a0, .inl (cI, 129, .inl (upd (upd (upd (upd w (13 + i) r_2) (16 + i) ((upd w (13 + i) r_2) 0)) (22 + i) (((upd (upd w (13 + i) r_2) (16 + i) ((upd w (13 + i) r_2) 0)) (22 + i)) + (1 : Int32))) (19 + i) ((upd (upd (upd w (13 + i) r_2) (16 + i) ((upd w (13 + i) r_2) 0)) (22 + i) (((upd (upd w (13 + i) r_2) (16 + i) ((upd w (13 + i) r_2) 0)) (22 + i)) + (1 : Int32))) 0)))), (b0, .inl (cI, 516, .inl pf))] := hD
              refine lv_aload_n hx hb dX9_switches_142 rfl (lv_at hl 1 rfl) ?_
              refine va_get (D := D) (ci := 9) (v := .ref a0) (C := RX9) (T := TX9) (N := 6) hx hb hts hiX9 hown hK hP 0 rfl rfl 0 (by decide) hk_7 (fun _ h9 => h9) rfl dX9_switches_143 ?_
              refine lv_bipush (v := 25) hx hb dX9_switches_146 (by decide) ?_
              refine lv_iload_n hx hb dX9_switches_148 rfl (lv_at hl 2 rfl) ?_
              refine my_iaddN hx hb 25 i rfl rfl dX9_switches_149 ?_
              refine lv_dup2_11 hx hb dX9_switches_150 rfl rfl ?_
              refine my_iald hx hb hK hP 1 0 rfl rfl (25 + i) (rfl) (by have := nI_nle_lt (a := 3) (by omega) c_1; omega) (by decide) dX9_switches_151 ?_
              refine lv_iconst (v := 1) hx hb dX9_switches_152 (by decide) ?_
              refine lv_iadd hx hb dX9_switches_153 ?_
              refine my_iast hx hb hK hP hD hS 1 0 rfl rfl (25 + i) (rfl) (by have := nI_nle_lt (a := 3) (by omega) c_1; omega) (by decide) dX9_switches_154 (fun H locs hP hD hS => ?_)
              have hP : va_P D vwCl [(h0, .inr (9, [.ref a0, .ref b0, .int np, .int th, .int ed, .long hh])), (a0, .inl (cI, 129, .inl (upd (upd (upd (upd (upd w (13 + i) r_2) (16 + i) ((upd w (13 + i) r_2) 0)) (22 + i) (((upd (upd w (13 + i) r_2) (16 + i) ((upd w (13 + i) r_2) 0)) (22 + i)) + (1 : Int32))) (19 + i) ((upd (upd (upd w (13 + i) r_2) (16 + i) ((upd w (13 + i) r_2) 0)) (22 + i) (((upd (upd w (13 + i) r_2) (16 + i) ((upd w (13 + i) r_2) 0)) (22 + i)) + (1 : Int32))) 0)) (25 + i) (((upd (upd (upd (upd w (13 + i) r_2) (16 + i) ((upd w (13 + i) r_2) 0)) (22 + i) (((upd (upd w (13 + i) r_2) (16 + i) ((upd w (13 + i) r_2) 0)) (22 + i)) + (1 : Int32))) (19 + i) ((upd (upd (upd w (13 + i) r_2) (16 + i) ((upd w (13 + i) r_2) 0)) (22 + i) (((upd (upd w (13 + i) r_2) (16 + i) ((upd w (13 + i) r_2) 0)) (22 + i)) + (1 : Int32))) 0)) (25 + i)) + (1 : Int32))))), (b0, .inl (cI, 516, .inl pf))] H := hP
              have hD : va_D A [(h0, .inr (9, [.ref a0, .ref b0, .int np, .int th, .int ed, .long hh])), (a0, .inl (cI, 129, .inl (upd (upd (upd (upd (upd w (13 + i) r_2) (16 + i) ((upd w (13 + i) r_2) 0)) (22 + i) (((upd (upd w (13 + i) r_2) (16 + i) ((upd w (13 + i) r_2) 0)) (22 + i)) + (1 : Int32))) (19 + i) ((upd (upd (upd w (13 + i) r_2) (16 + i) ((upd w (13 + i) r_2) 0)) (22 + i) (((upd (upd w (13 + i) r_2) (16 + i) ((upd w (13 + i) r_2) 0)) (22 + i)) + (1 : Int32))) 0)) (25 + i) (((upd (upd (upd (upd w (13 + i) r_2) (16 + i) ((upd w (13 + i) r_2) 0)) (22 + i) (((upd (upd w (13 + i) r_2) (16 + i) ((upd w (13 + i) r_2) 0)) (22 + i)) + (1 : Int32))) (19 + i) ((upd (upd (upd w (13 + i) r_2) (16 + i) ((upd w (13 + i) r_2) 0)) (22 + i) (((upd (upd w (13 + i) r_2) (16 + i) ((upd w (13 + i) r_2) 0)) (22 + i)) + (1 : Int32))) 0)) (25 + i)) + (1 : Int32))))), (b0, .inl (cI, 516, .inl pf))] := hD
              refine lv_iinc (v := nI (i + 1)) (lv' := [(1, .int (nI (i + 1))), (2, .int r_2), (0, .ref h0)]) hx hb dX9_switches_155 hl (k := 2) rfl (nI_1 _) (by decide) rfl (fun ls hl => ?_)
              refine lv_goto (tgt := 2) hx hb dX9_switches_158 (by decide) ?_
              exact ih h0 a0 b0 np th ed hh (upd (upd (upd (upd (upd w (13 + i) r_2) (16 + i) ((upd w (13 + i) r_2) 0)) (22 + i) (((upd (upd w (13 + i) r_2) (16 + i) ((upd w (13 + i) r_2) 0)) (22 + i)) + (1 : Int32))) (19 + i) ((upd (upd (upd w (13 + i) r_2) (16 + i) ((upd w (13 + i) r_2) 0)) (22 + i) (((upd (upd w (13 + i) r_2) (16 + i) ((upd w (13 + i) r_2) 0)) (22 + i)) + (1 : Int32))) 0)) (25 + i) (((upd (upd (upd (upd w (13 + i) r_2) (16 + i) ((upd w (13 + i) r_2) 0)) (22 + i) (((upd (upd w (13 + i) r_2) (16 + i) ((upd w (13 + i) r_2) 0)) (22 + i)) + (1 : Int32))) (19 + i) ((upd (upd (upd w (13 + i) r_2) (16 + i) ((upd w (13 + i) r_2) 0)) (22 + i) (((upd (upd w (13 + i) r_2) (16 + i) ((upd w (13 + i) r_2) 0)) (22 + i)) + (1 : Int32))) 0)) (25 + i)) + (1 : Int32))) pf (i + 1) _ _ _ (nI_nle_lt (a := 3) (by omega) c_1) (by omega) (hP.subm [0, 1, 2] rfl) (hD.sub [0, 1, 2] rfl rfl) hS (lv_sub hl [2, 0] rfl) (fun y H locs ls hy => kk y H locs ls (by rw [hy]; simp only [LP_X9_switches, if_neg c_1, if_pos c_3, if_neg c_6, if_pos c_7, if_pos c_8, ← hw_2]))
            · skip
              refine lv_iconst (v := 0) hx hb dX9_switches_73 (by decide) ?_
              refine lv_goto (tgt := 78) hx hb dX9_switches_74 (by decide) ?_
              refine lv_istore_n (lv' := [(2, .int (0 : Int32)), (0, .ref h0), (1, .int (nI i))]) hx hb dX9_switches_78 rfl hl (by decide) rfl (fun ls hl => ?_)
              refine lv_aload_n hx hb dX9_switches_79 rfl (lv_at hl 1 rfl) ?_
              refine va_get (D := D) (ci := 9) (v := .ref a0) (C := RX9) (T := TX9) (N := 6) hx hb hts hiX9 hown hK hP 0 rfl rfl 0 (by decide) hk_7 (fun _ h9 => h9) rfl dX9_switches_80 ?_
              refine lv_bipush (v := 13) hx hb dX9_switches_83 (by decide) ?_
              refine lv_iload_n hx hb dX9_switches_85 rfl (lv_at hl 2 rfl) ?_
              refine my_iaddN hx hb 13 i rfl rfl dX9_switches_86 ?_
              refine lv_iload_n hx hb dX9_switches_87 rfl (lv_at hl 0 rfl) ?_
              refine my_iast hx hb hK hP hD hS 1 0 rfl rfl (13 + i) (rfl) (by have := nI_nle_lt (a := 3) (by omega) c_1; omega) (by decide) dX9_switches_88 (fun H locs hP hD hS => ?_)
              have hP : va_P D vwCl [(h0, .inr (9, [.ref a0, .ref b0, .int np, .int th, .int ed, .long hh])), (a0, .inl (cI, 129, .inl (upd w (13 + i) (0 : Int32)))), (b0, .inl (cI, 516, .inl pf))] H := hP
              have hD : va_D A [(h0, .inr (9, [.ref a0, .ref b0, .int np, .int th, .int ed, .long hh])), (a0, .inl (cI, 129, .inl (upd w (13 + i) (0 : Int32)))), (b0, .inl (cI, 516, .inl pf))] := hD
              refine lv_iload_n hx hb dX9_switches_89 rfl (lv_at hl 0 rfl) ?_
              refine lv_iconst (v := 1) hx hb dX9_switches_90 (by decide) ?_
              refine lv_icmp_ne (tgt := 122) hx hb dX9_switches_91 (by decide) (fun _ => ?_) (fun c9 => absurd c9 (by decide))
              refine lv_iload_n hx hb dX9_switches_122 rfl (lv_at hl 0 rfl) ?_
              refine lv_iconst (v := -1) hx hb dX9_switches_123 (by decide) ?_
              refine lv_icmp_ne (tgt := 155) hx hb dX9_switches_124 (by decide) (fun _ => ?_) (fun c9 => absurd c9 (by decide))
              refine lv_iinc (v := nI (i + 1)) (lv' := [(1, .int (nI (i + 1))), (2, .int (0 : Int32)), (0, .ref h0)]) hx hb dX9_switches_155 hl (k := 2) rfl (nI_1 _) (by decide) rfl (fun ls hl => ?_)
              refine lv_goto (tgt := 2) hx hb dX9_switches_158 (by decide) ?_
              exact ih h0 a0 b0 np th ed hh (upd w (13 + i) (0 : Int32)) pf (i + 1) _ _ _ (nI_nle_lt (a := 3) (by omega) c_1) (by omega) (hP.subm [0, 1, 2] rfl) (hD.sub [0, 1, 2] rfl rfl) hS (lv_sub hl [2, 0] rfl) (fun y H locs ls hy => kk y H locs ls (by rw [hy]; simp only [LP_X9_switches, if_neg c_1, if_pos c_3, if_neg c_6, if_pos c_7, if_neg c_8, ← hw_2]))
def F_X9_switches (np : Int32) (th : Int32) (ed : Int32) (hh : Int64) (w : Nat → Int32) (pf : Nat → Int32) : (Nat → Int32) :=
  let q1 := LP_X9_switches 4 np th ed hh w pf 0
  (q1.2)
set_option maxHeartbeats 4000000 in
set_option maxRecDepth 100000 in
theorem met_X9_switches (l : Launch) (D : va_G) (cI cJ cS : ClassId) (h0 : Nat) (a0 : Nat) (b0 : Nat) (np : Int32) (th : Int32) (ed : Int32) (hh : Int64) (w : Nat → Int32) (pf : Nat → Int32)  : ∀ sz : Nat, Met l yX9_switches wsX9_switches ({ frames := 2, cells := 0, slots := 0, locals := 46 } : Room) (va_Pc [.ref h0] (cPre D (tyz cI cJ cS) ([(h0, .inr (9, [.ref a0, .ref b0, .int np, .int th, .int ed, .long hh])), (a0, .inl (cI, 129, .inl w)), (b0, .inl (cI, 516, .inl pf))]) sz)) (va_Qv (fun (u : (Nat → Int32)) => u = F_X9_switches np th ed hh w pf) (fun u => cPost D (tyz cI cJ cS) (va_A ([(h0, .inr (9, [.ref a0, .ref b0, .int np, .int th, .int ed, .long hh])), (a0, .inl (cI, 129, .inl w)), (b0, .inl (cI, 516, .inl pf))]) sz) ([(h0, .inr (9, [.ref a0, .ref b0, .int np, .int th, .int ed, .long hh])), (a0, .inl (cI, 129, .inl u)), (b0, .inl (cI, 516, .inl pf))])) (va_A ([(h0, .inr (9, [.ref a0, .ref b0, .int np, .int th, .int ed, .long hh])), (a0, .inl (cI, 129, .inl w)), (b0, .inl (cI, 516, .inl pf))]) sz)) 0 0 (va_A ([(h0, .inr (9, [.ref a0, .ref b0, .int np, .int th, .int ed, .long hh])), (a0, .inl (cI, 129, .inl w)), (b0, .inl (cI, 516, .inl pf))]) sz) := by
  refine my_met (QC := fun A => (va_Qv (fun (u : (Nat → Int32)) => u = F_X9_switches np th ed hh w pf) (fun u => cPost D (tyz cI cJ cS) A ([(h0, .inr (9, [.ref a0, .ref b0, .int np, .int th, .int ed, .long hh])), (a0, .inl (cI, 129, .inl u)), (b0, .inl (cI, 516, .inl pf))])) A)) (cc := cX9_switches) (maxL := 3) (ret := none) (by decide) rfl (Nat.le_of_ble_eq_true rfl) ?_
  intro p e s m below meth c ls A hx hb hml hr hts hown hlocks hname hK hP hD hS hA hG hl
  have hown : s.vm.findClass RX9 = some m.cls := hown
  have hl : lv_has ls 3 [(0, .ref h0)] := hl
  have hP : va_P D vwCl [(h0, .inr (9, [.ref a0, .ref b0, .int np, .int th, .int ed, .long hh])), (a0, .inl (cI, 129, .inl w)), (b0, .inl (cI, 516, .inl pf))] s.heap := hP
  have hD : va_D A [(h0, .inr (9, [.ref a0, .ref b0, .int np, .int th, .int ed, .long hh])), (a0, .inl (cI, 129, .inl w)), (b0, .inl (cI, 516, .inl pf))] := hD
  refine lv_iconst (v := 0) hx hb dX9_switches_0 (by decide) ?_
  refine lv_istore_n (lv' := [(1, .int (0 : Int32)), (0, .ref h0)]) hx hb dX9_switches_1 rfl hl (by decide) rfl (fun ls hl => ?_)
  refine lps_X9_switches l D cI cJ cS hx hb hml hown hts hK hA hG (Nat.le_of_ble_eq_true rfl) (Nat.le_of_ble_eq_true rfl) (Nat.le_of_ble_eq_true rfl) (Nat.le_of_ble_eq_true rfl) 4 h0 a0 b0 np th ed hh w pf 0 _ _ _ (Nat.zero_le _) (by decide) (hP.subm [0, 1, 2] rfl) (hD.sub [0, 1, 2] rfl rfl) hS (lv_sub hl [1, 0] rfl) (fun y_1 H locs ls hw_1 hP hD hS hl => ?_)
  obtain ⟨y_1_0, y_1_1⟩ := y_1
  have hl : lv_has ls 3 [(0, .ref h0), (1, .int (nI y_1_0))] := hl
  have hP : va_P D vwCl [(h0, .inr (9, [.ref a0, .ref b0, .int np, .int th, .int ed, .long hh])), (a0, .inl (cI, 129, .inl y_1_1)), (b0, .inl (cI, 516, .inl pf))] H := hP
  have hD : va_D A [(h0, .inr (9, [.ref a0, .ref b0, .int np, .int th, .int ed, .long hh])), (a0, .inl (cI, 129, .inl y_1_1)), (b0, .inl (cI, 516, .inl pf))] := hD
  exact my_vret hx hb hr hlocks hK hP hD hS (y_1_1) (by show (y_1_1) = F_X9_switches np th ed hh w pf; simp only [F_X9_switches, ← hw_1]) [0, 1, 2] rfl rfl dX9_switches_161
