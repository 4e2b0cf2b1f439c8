def F_X9_in (t : Int32) (b : Int32) (d : Int32) : Int32 :=
  if t < b then
    (0 : Int32)
  else
    if d < t then
      (0 : Int32)
    else
      (1 : Int32)
set_option maxHeartbeats 4000000 in
set_option maxRecDepth 100000 in
theorem met_X9_in (l : Launch) (D : va_G) (cI cJ cS : ClassId) (t : Int32) (b : Int32) (d : Int32)  : ∀ sz : Nat, Met l yX9_in wsX9_in ({ frames := 0, cells := 0, slots := 0, locals := 0 } : Room) (va_Pc [.int t, .int b, .int d] (cPre D (tyz cI cJ cS) ([]) sz)) (va_Qi (fun (r : Int32) (_ : Unit) => r = F_X9_in t b d) (fun u => cPost D (tyz cI cJ cS) (va_A ([]) sz) ([])) (va_A ([]) sz)) 0 0 (va_A ([]) sz) := by
  refine my_met (QC := fun A => (va_Qi (fun (r : Int32) (_ : Unit) => r = F_X9_in t b d) (fun u => cPost D (tyz cI cJ cS) A ([])) A)) (cc := cX9_in) (maxL := 3) (ret := (some .boolean)) (by decide) rfl (Nat.le_of_ble_eq_true rfl) ?_
  intro p e s m below meth c ls A hx hb hml hr hts hown hlocks hname hK hP hD hS hA hG hl
  have hown : s.vm.findClass RX9 = some m.cls := hown
  have hl : lv_has ls 3 [(0, .int t), (1, .int b), (2, .int d)] := hl
  have hP : va_P D vwCl [] s.heap := hP
  have hD : va_D A [] := hD
  refine lv_iload_n hx hb dX9_in_0 rfl (lv_at hl 0 rfl) ?_
  refine lv_iload_n hx hb dX9_in_1 rfl (lv_at hl 1 rfl) ?_
  refine lv_icmp_lt (tgt := 14) hx hb dX9_in_2 (by decide) (fun c_1 => ?_) (fun c_1 => ?_)
  · skip
    refine lv_iconst (v := 0) hx hb dX9_in_14 (by decide) ?_
    exact my_iret hx hb hr rfl hlocks hK hP hD hS () (by show (0 : Int32) = F_X9_in t b d; simp only [F_X9_in, if_pos c_1]) [] rfl rfl dX9_in_15
  · skip
    refine lv_iload_n hx hb dX9_in_5 rfl (lv_at hl 0 rfl) ?_
    refine lv_iload_n hx hb dX9_in_6 rfl (lv_at hl 2 rfl) ?_
    refine lv_icmp_gt (tgt := 14) hx hb dX9_in_7 (by decide) (fun c_2 => ?_) (fun c_2 => ?_)
    · skip
      refine lv_iconst (v := 0) hx hb dX9_in_14 (by decide) ?_
      exact my_iret hx hb hr rfl hlocks hK hP hD hS () (by show (0 : Int32) = F_X9_in t b d; simp only [F_X9_in, if_neg c_1, if_pos c_2]) [] rfl rfl dX9_in_15
    · skip
      refine lv_iconst (v := 1) hx hb dX9_in_10 (by decide) ?_
      refine lv_goto (tgt := 15) hx hb dX9_in_11 (by decide) ?_
      exact my_iret hx hb hr rfl hlocks hK hP hD hS () (by show (1 : Int32) = F_X9_in t b d; simp only [F_X9_in, if_neg c_1, if_neg c_2]) [] rfl rfl dX9_in_15
def F_X9_sectorOf (t : Int32) : Int32 :=
  if t = (1 : Int32) then
    (0 : Int32)
  else
    if t = (2 : Int32) then
      (2 : Int32)
    else
      if t = (3 : Int32) then
        (1 : Int32)
      else
        if t = (4 : Int32) then
          (4 : Int32)
        else
          if t = (5 : Int32) then
            (5 : Int32)
          else
            if t = (6 : Int32) then
              (3 : Int32)
            else
              (-1 : Int32)
set_option maxHeartbeats 4000000 in
set_option maxRecDepth 100000 in
theorem met_X9_sectorOf (l : Launch) (D : va_G) (cI cJ cS : ClassId) (t : Int32)  : ∀ sz : Nat, Met l yX9_sectorOf wsX9_sectorOf ({ frames := 0, cells := 0, slots := 0, locals := 0 } : Room) (va_Pc [.int t] (cPre D (tyz cI cJ cS) ([]) sz)) (va_Qi (fun (r : Int32) (_ : Unit) => r = F_X9_sectorOf t) (fun u => cPost D (tyz cI cJ cS) (va_A ([]) sz) ([])) (va_A ([]) sz)) 0 0 (va_A ([]) sz) := by
  refine my_met (QC := fun A => (va_Qi (fun (r : Int32) (_ : Unit) => r = F_X9_sectorOf t) (fun u => cPost D (tyz cI cJ cS) A ([])) A)) (cc := cX9_sectorOf) (maxL := 1) (ret := (some .int)) (by decide) rfl (Nat.le_of_ble_eq_true rfl) ?_
  intro p e s m below meth c ls A hx hb hml hr hts hown hlocks hname hK hP hD hS hA hG hl
  have hown : s.vm.findClass RX9 = some m.cls := hown
  have hl : lv_has ls 1 [(0, .int t)] := hl
  have hP : va_P D vwCl [] s.heap := hP
  have hD : va_D A [] := hD
  refine lv_iload_n hx hb dX9_sectorOf_0 rfl (lv_at hl 0 rfl) ?_
  by_cases c_1 : t = (1 : Int32)
  · refine lv_tableIn (tgt := 40) hx hb dX9_sectorOf_1 (by rw [c_1]; decide) (by rw [c_1]; decide) (by rw [c_1]; rfl) (by decide) ?_
    refine lv_iconst (v := 0) hx hb dX9_sectorOf_40 (by decide) ?_
    exact my_iret hx hb hr rfl hlocks hK hP hD hS () (by show (0 : Int32) = F_X9_sectorOf t; simp only [F_X9_sectorOf, if_pos c_1]) [] rfl rfl dX9_sectorOf_41
  · skip
    by_cases c_2 : t = (2 : Int32)
    · refine lv_tableIn (tgt := 44) hx hb dX9_sectorOf_1 (by rw [c_2]; decide) (by rw [c_2]; decide) (by rw [c_2]; rfl) (by decide) ?_
      refine lv_iconst (v := 2) hx hb dX9_sectorOf_44 (by decide) ?_
      exact my_iret hx hb hr rfl hlocks hK hP hD hS () (by show (2 : Int32) = F_X9_sectorOf t; simp only [F_X9_sectorOf, if_neg c_1, if_pos c_2]) [] rfl rfl dX9_sectorOf_45
    · skip
      by_cases c_3 : t = (3 : Int32)
      · refine lv_tableIn (tgt := 42) hx hb dX9_sectorOf_1 (by rw [c_3]; decide) (by rw [c_3]; decide) (by rw [c_3]; rfl) (by decide) ?_
        refine lv_iconst (v := 1) hx hb dX9_sectorOf_42 (by decide) ?_
        exact my_iret hx hb hr rfl hlocks hK hP hD hS () (by show (1 : Int32) = F_X9_sectorOf t; simp only [F_X9_sectorOf, if_neg c_1, if_neg c_2, if_pos c_3]) [] rfl rfl dX9_sectorOf_43
      · skip
        by_cases c_4 : t = (4 : Int32)
        · refine lv_tableIn (tgt := 48) hx hb dX9_sectorOf_1 (by rw [c_4]; decide) (by rw [c_4]; decide) (by rw [c_4]; rfl) (by decide) ?_
          refine lv_iconst (v := 4) hx hb dX9_sectorOf_48 (by decide) ?_
          exact my_iret hx hb hr rfl hlocks hK hP hD hS () (by show (4 : Int32) = F_X9_sectorOf t; simp only [F_X9_sectorOf, if_neg c_1, if_neg c_2, if_neg c_3, if_pos c_4]) [] rfl rfl dX9_sectorOf_49
        · skip
          by_cases c_5 : t = (5 : Int32)
          · refine lv_tableIn (tgt := 50) hx hb dX9_sectorOf_1 (by rw [c_5]; decide) (by rw [c_5]; decide) (by rw [c_5]; rfl) (by decide) ?_
            refine lv_iconst (v := 5) hx hb dX9_sectorOf_50 (by decide) ?_
            exact my_iret hx hb hr rfl hlocks hK hP hD hS () (by show (5 : Int32) = F_X9_sectorOf t; simp only [F_X9_sectorOf, if_neg c_1, if_neg c_2, if_neg c_3, if_neg c_4, if_pos c_5]) [] rfl rfl dX9_sectorOf_51
          · skip
            by_cases c_6 : t = (6 : Int32)
            · refine lv_tableIn (tgt := 46) hx hb dX9_sectorOf_1 (by rw [c_6]; decide) (by rw [c_6]; decide) (by rw [c_6]; rfl) (by decide) ?_
              refine lv_iconst (v := 3) hx hb dX9_sectorOf_46 (by decide) ?_
              exact my_iret hx hb hr rfl hlocks hK hP hD hS () (by show (3 : Int32) = F_X9_sectorOf t; simp only [F_X9_sectorOf, if_neg c_1, if_neg c_2, if_neg c_3, if_neg c_4, if_neg c_5, if_pos c_6]) [] rfl rfl dX9_sectorOf_47
            · skip
              refine lv_tableOut (tgt := 52) hx hb dX9_sectorOf_1 (sw_out_1_6 c_1 c_2 c_3 c_4 c_5 c_6) (by decide) ?_
              refine lv_iconst (v := -1) hx hb dX9_sectorOf_52 (by decide) ?_
              exact my_iret hx hb hr rfl hlocks hK hP hD hS () (by show (-1 : Int32) = F_X9_sectorOf t; simp only [F_X9_sectorOf, if_neg c_1, if_neg c_2, if_neg c_3, if_neg c_4, if_neg c_5, if_neg c_6]) [] rfl rfl dX9_sectorOf_53
def F_X9_codeOf (t : Int32) : Int32 :=
  if t = (0 : Int32) then
    (1 : Int32)
  else
    if t = (1 : Int32) then
      (3 : Int32)
    else
      if t = (2 : Int32) then
        (2 : Int32)
      else
        if t = (3 : Int32) then
          (6 : Int32)
        else
          if t = (4 : Int32) then
            (4 : Int32)
          else
            (5 : Int32)
set_option maxHeartbeats 4000000 in
set_option maxRecDepth 100000 in
theorem met_X9_codeOf (l : Launch) (D : va_G) (cI cJ cS : ClassId) (t : Int32)  : ∀ sz : Nat, Met l yX9_codeOf wsX9_codeOf ({ frames := 0, cells := 0, slots := 0, locals := 0 } : Room) (va_Pc [.int t] (cPre D (tyz cI cJ cS) ([]) sz)) (va_Qi (fun (r : Int32) (_ : Unit) => r = F_X9_codeOf t) (fun u => cPost D (tyz cI cJ cS) (va_A ([]) sz) ([])) (va_A ([]) sz)) 0 0 (va_A ([]) sz) := by
  refine my_met (QC := fun A => (va_Qi (fun (r : Int32) (_ : Unit) => r = F_X9_codeOf t) (fun u => cPost D (tyz cI cJ cS) A ([])) A)) (cc := cX9_codeOf) (maxL := 1) (ret := (some .int)) (by decide) rfl (Nat.le_of_ble_eq_true rfl) ?_
  intro p e s m below meth c ls A hx hb hml hr hts hown hlocks hname hK hP hD hS hA hG hl
  have hown : s.vm.findClass RX9 = some m.cls := hown
  have hl : lv_has ls 1 [(0, .int t)] := hl
  have hP : va_P D vwCl [] s.heap := hP
  have hD : va_D A [] := hD
  refine lv_iload_n hx hb dX9_codeOf_0 rfl (lv_at hl 0 rfl) ?_
  refine lv_if_ne (tgt := 8) hx hb dX9_codeOf_1 (by decide) (fun c_1 => ?_) (fun c_1 => ?_)
  · skip
    refine lv_iload_n hx hb dX9_codeOf_8 rfl (lv_at hl 0 rfl) ?_
    refine lv_iconst (v := 1) hx hb dX9_codeOf_9 (by decide) ?_
    refine lv_icmp_ne (tgt := 17) hx hb dX9_codeOf_10 (by decide) (fun c_2 => ?_) (fun c_2 => ?_)
    · skip
      refine lv_iload_n hx hb dX9_codeOf_17 rfl (lv_at hl 0 rfl) ?_
      refine lv_iconst (v := 2) hx hb dX9_codeOf_18 (by decide) ?_
      refine lv_icmp_ne (tgt := 26) hx hb dX9_codeOf_19 (by decide) (fun c_3 => ?_) (fun c_3 => ?_)
      · skip
        refine lv_iload_n hx hb dX9_codeOf_26 rfl (lv_at hl 0 rfl) ?_
        refine lv_iconst (v := 3) hx hb dX9_codeOf_27 (by decide) ?_
        refine lv_icmp_ne (tgt := 36) hx hb dX9_codeOf_28 (by decide) (fun c_4 => ?_) (fun c_4 => ?_)
        · skip
          refine lv_iload_n hx hb dX9_codeOf_36 rfl (lv_at hl 0 rfl) ?_
          refine lv_iconst (v := 4) hx hb dX9_codeOf_37 (by decide) ?_
          refine lv_icmp_ne (tgt := 45) hx hb dX9_codeOf_38 (by decide) (fun c_5 => ?_) (fun c_5 => ?_)
          · skip
            refine lv_iconst (v := 5) hx hb dX9_codeOf_45 (by decide) ?_
            exact my_iret hx hb hr rfl hlocks hK hP hD hS () (by show (5 : Int32) = F_X9_codeOf t; simp only [F_X9_codeOf, if_neg c_1, if_neg c_2, if_neg c_3, if_neg c_4, if_neg c_5]) [] rfl rfl dX9_codeOf_46
          · skip
            refine lv_iconst (v := 4) hx hb dX9_codeOf_41 (by decide) ?_
            refine lv_goto (tgt := 46) hx hb dX9_codeOf_42 (by decide) ?_
            exact my_iret hx hb hr rfl hlocks hK hP hD hS () (by show (4 : Int32) = F_X9_codeOf t; simp only [F_X9_codeOf, if_neg c_1, if_neg c_2, if_neg c_3, if_neg c_4, if_pos c_5]) [] rfl rfl dX9_codeOf_46
        · skip
          refine lv_bipush (v := 6) hx hb dX9_codeOf_31 (by decide) ?_
          refine lv_goto (tgt := 46) hx hb dX9_codeOf_33 (by decide) ?_
          exact my_iret hx hb hr rfl hlocks hK hP hD hS () (by show (6 : Int32) = F_X9_codeOf t; simp only [F_X9_codeOf, if_neg c_1, if_neg c_2, if_neg c_3, if_pos c_4]) [] rfl rfl dX9_codeOf_46
      · skip
        refine lv_iconst (v := 2) hx hb dX9_codeOf_22 (by decide) ?_
        refine lv_goto (tgt := 46) hx hb dX9_codeOf_23 (by decide) ?_
        exact my_iret hx hb hr rfl hlocks hK hP hD hS () (by show (2 : Int32) = F_X9_codeOf t; simp only [F_X9_codeOf, if_neg c_1, if_neg c_2, if_pos c_3]) [] rfl rfl dX9_codeOf_46
    · skip
      refine lv_iconst (v := 3) hx hb dX9_codeOf_13 (by decide) ?_
      refine lv_goto (tgt := 46) hx hb dX9_codeOf_14 (by decide) ?_
      exact my_iret hx hb hr rfl hlocks hK hP hD hS () (by show (3 : Int32) = F_X9_codeOf t; simp only [F_X9_codeOf, if_neg c_1, if_pos c_2]) [] rfl rfl dX9_codeOf_46
  · skip
    refine lv_iconst (v := 1) hx hb dX9_codeOf_4 (by decide) ?_
    refine lv_goto (tgt := 46) hx hb dX9_codeOf_5 (by decide) ?_
    exact my_iret hx hb hr rfl hlocks hK hP hD hS () (by show (1 : Int32) = F_X9_codeOf t; simp only [F_X9_codeOf, if_pos c_1]) [] rfl rfl dX9_codeOf_46
def F_X9_legOf (t : Int32) (b : Int32) : Int32 :=
  if t = (0 : Int32) then
    if b = (0 : Int32) then
      (1 : Int32)
    else
      (0 : Int32)
  else
    if t = (1 : Int32) then
      if b = (0 : Int32) then
        (2 : Int32)
      else
        (0 : Int32)
    else
      if t = (2 : Int32) then
        if b = (0 : Int32) then
          (2 : Int32)
        else
          (1 : Int32)
      else
        if t = (3 : Int32) then
          if b = (0 : Int32) then
            (0 : Int32)
          else
            (1 : Int32)
        else
          if t = (4 : Int32) then
            if b = (0 : Int32) then
              (0 : Int32)
            else
              (2 : Int32)
          else
            if b = (0 : Int32) then
              (1 : Int32)
            else
              (2 : Int32)
set_option maxHeartbeats 4000000 in
set_option maxRecDepth 100000 in
theorem met_X9_legOf (l : Launch) (D : va_G) (cI cJ cS : ClassId) (t : Int32) (b : Int32)  : ∀ sz : Nat, Met l yX9_legOf wsX9_legOf ({ frames := 0, cells := 0, slots := 0, locals := 0 } : Room) (va_Pc [.int t, .int b] (cPre D (tyz cI cJ cS) ([]) sz)) (va_Qi (fun (r : Int32) (_ : Unit) => r = F_X9_legOf t b) (fun u => cPost D (tyz cI cJ cS) (va_A ([]) sz) ([])) (va_A ([]) sz)) 0 0 (va_A ([]) sz) := by
  refine my_met (QC := fun A => (va_Qi (fun (r : Int32) (_ : Unit) => r = F_X9_legOf t b) (fun u => cPost D (tyz cI cJ cS) A ([])) A)) (cc := cX9_legOf) (maxL := 3) (ret := (some .int)) (by decide) rfl (Nat.le_of_ble_eq_true rfl) ?_
  intro p e s m below meth c ls A hx hb hml hr hts hown hlocks hname hK hP hD hS hA hG hl
  have hown : s.vm.findClass RX9 = some m.cls := hown
  have hl : lv_has ls 3 [(0, .int t), (1, .int b)] := hl
  have hP : va_P D vwCl [] s.heap := hP
  have hD : va_D A [] := hD
  refine lv_iload_n hx hb dX9_legOf_0 rfl (lv_at hl 0 rfl) ?_
  refine lv_if_ne (tgt := 8) hx hb dX9_legOf_1 (by decide) (fun c_1 => ?_) (fun c_1 => ?_)
  · skip
    refine lv_iload_n hx hb dX9_legOf_8 rfl (lv_at hl 0 rfl) ?_
    refine lv_iconst (v := 1) hx hb dX9_legOf_9 (by decide) ?_
    refine lv_icmp_ne (tgt := 17) hx hb dX9_legOf_10 (by decide) (fun c_2 => ?_) (fun c_2 => ?_)
    · skip
      refine lv_iload_n hx hb dX9_legOf_17 rfl (lv_at hl 0 rfl) ?_
      refine lv_iconst (v := 2) hx hb dX9_legOf_18 (by decide) ?_
      refine lv_icmp_ne (tgt := 27) hx hb dX9_legOf_19 (by decide) (fun c_3 => ?_) (fun c_3 => ?_)
      · skip
        refine lv_iload_n hx hb dX9_legOf_27 rfl (lv_at hl 0 rfl) ?_
        refine lv_iconst (v := 3) hx hb dX9_legOf_28 (by decide) ?_
        refine lv_icmp_ne (tgt := 37) hx hb dX9_legOf_29 (by decide) (fun c_4 => ?_) (fun c_4 => ?_)
        · skip
          refine lv_iload_n hx hb dX9_legOf_37 rfl (lv_at hl 0 rfl) ?_
          refine lv_iconst (v := 4) hx hb dX9_legOf_38 (by decide) ?_
          refine lv_icmp_ne (tgt := 47) hx hb dX9_legOf_39 (by decide) (fun c_5 => ?_) (fun c_5 => ?_)
          · skip
            refine lv_bipush (v := 21) hx hb dX9_legOf_47 (by decide) ?_
            refine lv_istore_n (lv' := [(2, .int (21 : Int32)), (0, .int t), (1, .int b)]) hx hb dX9_legOf_49 rfl hl (by decide) rfl (fun ls hl => ?_)
            refine lv_iload_n hx hb dX9_legOf_50 rfl (lv_at hl 2 rfl) ?_
            refine lv_if_eq (tgt := 61) hx hb dX9_legOf_51 (by decide) (fun c_6 => ?_) (fun c_6 => ?_)
            · skip
              refine lv_iload_n hx hb dX9_legOf_61 rfl (lv_at hl 0 rfl) ?_
              refine lv_bipush (v := 10) hx hb dX9_legOf_62 (by decide) ?_
              refine lv_irem hx hb dX9_legOf_64 (by decide) ?_
              refine W.eq (g2 := F0 m 65 ls [.int (1 : Int32)]) rfl ?_
              exact my_iret hx hb hr rfl hlocks hK hP hD hS () (by show (1 : Int32) = F_X9_legOf t b; simp only [F_X9_legOf, if_neg c_1, if_neg c_2, if_neg c_3, if_neg c_4, if_neg c_5, if_pos c_6]) [] rfl rfl dX9_legOf_65
            · skip
              refine lv_iload_n hx hb dX9_legOf_54 rfl (lv_at hl 0 rfl) ?_
              refine lv_bipush (v := 10) hx hb dX9_legOf_55 (by decide) ?_
              refine lv_idiv hx hb dX9_legOf_57 (by decide) ?_
              refine W.eq (g2 := F0 m 58 ls [.int (2 : Int32)]) rfl ?_
              refine lv_goto (tgt := 65) hx hb dX9_legOf_58 (by decide) ?_
              exact my_iret hx hb hr rfl hlocks hK hP hD hS () (by show (2 : Int32) = F_X9_legOf t b; simp only [F_X9_legOf, if_neg c_1, if_neg c_2, if_neg c_3, if_neg c_4, if_neg c_5, if_neg c_6]) [] rfl rfl dX9_legOf_65
          · skip
            refine lv_bipush (v := 20) hx hb dX9_legOf_42 (by decide) ?_
            refine lv_goto (tgt := 49) hx hb dX9_legOf_44 (by decide) ?_
            refine lv_istore_n (lv' := [(2, .int (20 : Int32)), (0, .int t), (1, .int b)]) hx hb dX9_legOf_49 rfl hl (by decide) rfl (fun ls hl => ?_)
            refine lv_iload_n hx hb dX9_legOf_50 rfl (lv_at hl 2 rfl) ?_
            refine lv_if_eq (tgt := 61) hx hb dX9_legOf_51 (by decide) (fun c_7 => ?_) (fun c_7 => ?_)
            · skip
              refine lv_iload_n hx hb dX9_legOf_61 rfl (lv_at hl 0 rfl) ?_
              refine lv_bipush (v := 10) hx hb dX9_legOf_62 (by decide) ?_
              refine lv_irem hx hb dX9_legOf_64 (by decide) ?_
              refine W.eq (g2 := F0 m 65 ls [.int (0 : Int32)]) rfl ?_
              exact my_iret hx hb hr rfl hlocks hK hP hD hS () (by show (0 : Int32) = F_X9_legOf t b; simp only [F_X9_legOf, if_neg c_1, if_neg c_2, if_neg c_3, if_neg c_4, if_pos c_5, if_pos c_7]) [] rfl rfl dX9_legOf_65
            · skip
              refine lv_iload_n hx hb dX9_legOf_54 rfl (lv_at hl 0 rfl) ?_
              refine lv_bipush (v := 10) hx hb dX9_legOf_55 (by decide) ?_
              refine lv_idiv hx hb dX9_legOf_57 (by decide) ?_
              refine W.eq (g2 := F0 m 58 ls [.int (2 : Int32)]) rfl ?_
              refine lv_goto (tgt := 65) hx hb dX9_legOf_58 (by decide) ?_
              exact my_iret hx hb hr rfl hlocks hK hP hD hS () (by show (2 : Int32) = F_X9_legOf t b; simp only [F_X9_legOf, if_neg c_1, if_neg c_2, if_neg c_3, if_neg c_4, if_pos c_5, if_neg c_7]) [] rfl rfl dX9_legOf_65
        · skip
          refine lv_bipush (v := 10) hx hb dX9_legOf_32 (by decide) ?_
          refine lv_goto (tgt := 49) hx hb dX9_legOf_34 (by decide) ?_
          refine lv_istore_n (lv' := [(2, .int (10 : Int32)), (0, .int t), (1, .int b)]) hx hb dX9_legOf_49 rfl hl (by decide) rfl (fun ls hl => ?_)
          refine lv_iload_n hx hb dX9_legOf_50 rfl (lv_at hl 2 rfl) ?_
          refine lv_if_eq (tgt := 61) hx hb dX9_legOf_51 (by decide) (fun c_8 => ?_) (fun c_8 => ?_)
          · skip
            refine lv_iload_n hx hb dX9_legOf_61 rfl (lv_at hl 0 rfl) ?_
            refine lv_bipush (v := 10) hx hb dX9_legOf_62 (by decide) ?_
            refine lv_irem hx hb dX9_legOf_64 (by decide) ?_
            refine W.eq (g2 := F0 m 65 ls [.int (0 : Int32)]) rfl ?_
            exact my_iret hx hb hr rfl hlocks hK hP hD hS () (by show (0 : Int32) = F_X9_legOf t b; simp only [F_X9_legOf, if_neg c_1, if_neg c_2, if_neg c_3, if_pos c_4, if_pos c_8]) [] rfl rfl dX9_legOf_65
          · skip
            refine lv_iload_n hx hb dX9_legOf_54 rfl (lv_at hl 0 rfl) ?_
            refine lv_bipush (v := 10) hx hb dX9_legOf_55 (by decide) ?_
            refine lv_idiv hx hb dX9_legOf_57 (by decide) ?_
            refine W.eq (g2 := F0 m 58 ls [.int (1 : Int32)]) rfl ?_
            refine lv_goto (tgt := 65) hx hb dX9_legOf_58 (by decide) ?_
            exact my_iret hx hb hr rfl hlocks hK hP hD hS () (by show (1 : Int32) = F_X9_legOf t b; simp only [F_X9_legOf, if_neg c_1, if_neg c_2, if_neg c_3, if_pos c_4, if_neg c_8]) [] rfl rfl dX9_legOf_65
      · skip
        refine lv_bipush (v := 12) hx hb dX9_legOf_22 (by decide) ?_
        refine lv_goto (tgt := 49) hx hb dX9_legOf_24 (by decide) ?_
        refine lv_istore_n (lv' := [(2, .int (12 : Int32)), (0, .int t), (1, .int b)]) hx hb dX9_legOf_49 rfl hl (by decide) rfl (fun ls hl => ?_)
        refine lv_iload_n hx hb dX9_legOf_50 rfl (lv_at hl 2 rfl) ?_
        refine lv_if_eq (tgt := 61) hx hb dX9_legOf_51 (by decide) (fun c_9 => ?_) (fun c_9 => ?_)
        · skip
          refine lv_iload_n hx hb dX9_legOf_61 rfl (lv_at hl 0 rfl) ?_
          refine lv_bipush (v := 10) hx hb dX9_legOf_62 (by decide) ?_
          refine lv_irem hx hb dX9_legOf_64 (by decide) ?_
          refine W.eq (g2 := F0 m 65 ls [.int (2 : Int32)]) rfl ?_
          exact my_iret hx hb hr rfl hlocks hK hP hD hS () (by show (2 : Int32) = F_X9_legOf t b; simp only [F_X9_legOf, if_neg c_1, if_neg c_2, if_pos c_3, if_pos c_9]) [] rfl rfl dX9_legOf_65
        · skip
          refine lv_iload_n hx hb dX9_legOf_54 rfl (lv_at hl 0 rfl) ?_
          refine lv_bipush (v := 10) hx hb dX9_legOf_55 (by decide) ?_
          refine lv_idiv hx hb dX9_legOf_57 (by decide) ?_
          refine W.eq (g2 := F0 m 58 ls [.int (1 : Int32)]) rfl ?_
          refine lv_goto (tgt := 65) hx hb dX9_legOf_58 (by decide) ?_
          exact my_iret hx hb hr rfl hlocks hK hP hD hS () (by show (1 : Int32) = F_X9_legOf t b; simp only [F_X9_legOf, if_neg c_1, if_neg c_2, if_pos c_3, if_neg c_9]) [] rfl rfl dX9_legOf_65
    · skip
      refine lv_iconst (v := 2) hx hb dX9_legOf_13 (by decide) ?_
      refine lv_goto (tgt := 49) hx hb dX9_legOf_14 (by decide) ?_
      refine lv_istore_n (lv' := [(2, .int (2 : Int32)), (0, .int t), (1, .int b)]) hx hb dX9_legOf_49 rfl hl (by decide) rfl (fun ls hl => ?_)
      refine lv_iload_n hx hb dX9_legOf_50 rfl (lv_at hl 2 rfl) ?_
      refine lv_if_eq (tgt := 61) hx hb dX9_legOf_51 (by decide) (fun c_10 => ?_) (fun c_10 => ?_)
      · skip
        refine lv_iload_n hx hb dX9_legOf_61 rfl (lv_at hl 0 rfl) ?_
        refine lv_bipush (v := 10) hx hb dX9_legOf_62 (by decide) ?_
        refine lv_irem hx hb dX9_legOf_64 (by decide) ?_
        refine W.eq (g2 := F0 m 65 ls [.int (2 : Int32)]) rfl ?_
        exact my_iret hx hb hr rfl hlocks hK hP hD hS () (by show (2 : Int32) = F_X9_legOf t b; simp only [F_X9_legOf, if_neg c_1, if_pos c_2, if_pos c_10]) [] rfl rfl dX9_legOf_65
      · skip
        refine lv_iload_n hx hb dX9_legOf_54 rfl (lv_at hl 0 rfl) ?_
        refine lv_bipush (v := 10) hx hb dX9_legOf_55 (by decide) ?_
        refine lv_idiv hx hb dX9_legOf_57 (by decide) ?_
        refine W.eq (g2 := F0 m 58 ls [.int (0 : Int32)]) rfl ?_
        refine lv_goto (tgt := 65) hx hb dX9_legOf_58 (by decide) ?_
        exact my_iret hx hb hr rfl hlocks hK hP hD hS () (by show (0 : Int32) = F_X9_legOf t b; simp only [F_X9_legOf, if_neg c_1, if_pos c_2, if_neg c_10]) [] rfl rfl dX9_legOf_65
  · skip
    refine lv_iconst (v := 1) hx hb dX9_legOf_4 (by decide) ?_
    refine lv_goto (tgt := 49) hx hb dX9_legOf_5 (by decide) ?_
    refine lv_istore_n (lv' := [(2, .int (1 : Int32)), (0, .int t), (1, .int b)]) hx hb dX9_legOf_49 rfl hl (by decide) rfl (fun ls hl => ?_)
    refine lv_iload_n hx hb dX9_legOf_50 rfl (lv_at hl 2 rfl) ?_
    refine lv_if_eq (tgt := 61) hx hb dX9_legOf_51 (by decide) (fun c_11 => ?_) (fun c_11 => ?_)
    · skip
      refine lv_iload_n hx hb dX9_legOf_61 rfl (lv_at hl 0 rfl) ?_
      refine lv_bipush (v := 10) hx hb dX9_legOf_62 (by decide) ?_
      refine lv_irem hx hb dX9_legOf_64 (by decide) ?_
      refine W.eq (g2 := F0 m 65 ls [.int (1 : Int32)]) rfl ?_
      exact my_iret hx hb hr rfl hlocks hK hP hD hS () (by show (1 : Int32) = F_X9_legOf t b; simp only [F_X9_legOf, if_pos c_1, if_pos c_11]) [] rfl rfl dX9_legOf_65
    · skip
      refine lv_iload_n hx hb dX9_legOf_54 rfl (lv_at hl 0 rfl) ?_
      refine lv_bipush (v := 10) hx hb dX9_legOf_55 (by decide) ?_
      refine lv_idiv hx hb dX9_legOf_57 (by decide) ?_
      refine W.eq (g2 := F0 m 58 ls [.int (0 : Int32)]) rfl ?_
      refine lv_goto (tgt := 65) hx hb dX9_legOf_58 (by decide) ?_
      exact my_iret hx hb hr rfl hlocks hK hP hD hS () (by show (0 : Int32) = F_X9_legOf t b; simp only [F_X9_legOf, if_pos c_1, if_neg c_11]) [] rfl rfl dX9_legOf_65
def F_X9_thrown (np : Int32) (th : Int32) (ed : Int32) (hh : Int64) (w : Nat → Int32) (pf : Nat → Int32) : Int32 :=
  th
set_option maxHeartbeats 4000000 in
set_option maxRecDepth 100000 in
theorem met_X9_thrown (l : Launch) (D : va_G) (cI cJ cS : ClassId) (h0 : Nat) (a0 : Nat) (b0 : Nat) (np : Int32) (th : Int32) (ed : Int32) (hh : Int64) (w : Nat → Int32) (pf : Nat → Int32)  : ∀ sz : Nat, Met l yX9_thrown wsX9_thrown ({ frames := 0, cells := 0, slots := 0, locals := 0 } : Room) (va_Pc [.ref h0] (cPre D (tyz cI cJ cS) ([(h0, .inr (9, [.ref a0, .ref b0, .int np, .int th, .int ed, .long hh])), (a0, .inl (cI, 129, .inl w)), (b0, .inl (cI, 516, .inl pf))]) sz)) (va_Qi (fun (r : Int32) (_ : Unit) => r = F_X9_thrown np th ed hh w pf) (fun u => cPost D (tyz cI cJ cS) (va_A ([(h0, .inr (9, [.ref a0, .ref b0, .int np, .int th, .int ed, .long hh])), (a0, .inl (cI, 129, .inl w)), (b0, .inl (cI, 516, .inl pf))]) sz) ([(h0, .inr (9, [.ref a0, .ref b0, .int np, .int th, .int ed, .long hh])), (a0, .inl (cI, 129, .inl w)), (b0, .inl (cI, 516, .inl pf))])) (va_A ([(h0, .inr (9, [.ref a0, .ref b0, .int np, .int th, .int ed, .long hh])), (a0, .inl (cI, 129, .inl w)), (b0, .inl (cI, 516, .inl pf))]) sz)) 0 0 (va_A ([(h0, .inr (9, [.ref a0, .ref b0, .int np, .int th, .int ed, .long hh])), (a0, .inl (cI, 129, .inl w)), (b0, .inl (cI, 516, .inl pf))]) sz) := by
  refine my_met (QC := fun A => (va_Qi (fun (r : Int32) (_ : Unit) => r = F_X9_thrown np th ed hh w pf) (fun u => cPost D (tyz cI cJ cS) A ([(h0, .inr (9, [.ref a0, .ref b0, .int np, .int th, .int ed, .long hh])), (a0, .inl (cI, 129, .inl w)), (b0, .inl (cI, 516, .inl pf))])) A)) (cc := cX9_thrown) (maxL := 1) (ret := (some .int)) (by decide) rfl (Nat.le_of_ble_eq_true rfl) ?_
  intro p e s m below meth c ls A hx hb hml hr hts hown hlocks hname hK hP hD hS hA hG hl
  have hown : s.vm.findClass RX9 = some m.cls := hown
  have hl : lv_has ls 1 [(0, .ref h0)] := hl
  have hP : va_P D vwCl [(h0, .inr (9, [.ref a0, .ref b0, .int np, .int th, .int ed, .long hh])), (a0, .inl (cI, 129, .inl w)), (b0, .inl (cI, 516, .inl pf))] s.heap := hP
  have hD : va_D A [(h0, .inr (9, [.ref a0, .ref b0, .int np, .int th, .int ed, .long hh])), (a0, .inl (cI, 129, .inl w)), (b0, .inl (cI, 516, .inl pf))] := hD
  have hiX9 : ∀ w ∈ u_ws RX9 TX9 6, w ∈ wsX9_thrown := by decide +kernel
  have hk_16 := hts (.fieldLink RX9 16 "HallCommutatorModel" "thrown" "I") (by decide +kernel)
  refine lv_aload_n hx hb dX9_thrown_0 rfl (lv_at hl 0 rfl) ?_
  refine va_get (D := D) (ci := 9) (v := .int th) (C := RX9) (T := TX9) (N := 6) hx hb hts hiX9 hown hK hP 0 rfl rfl 3 (by decide) hk_16 (fun _ h9 => h9) rfl dX9_thrown_1 ?_
  exact my_iret hx hb hr rfl hlocks hK hP hD hS () (by show th = F_X9_thrown np th ed hh w pf; simp only [F_X9_thrown]) [0, 1, 2] rfl rfl dX9_thrown_4
def F_X9_fails (np : Int32) (th : Int32) (ed : Int32) (hh : Int64) (w : Nat → Int32) (pf : Nat → Int32) (t : Int32) : Int32 × Int32 :=
  ((0 : Int32), (t))
set_option maxHeartbeats 4000000 in
set_option maxRecDepth 100000 in
theorem met_X9_fails (l : Launch) (D : va_G) (cI cJ cS : ClassId) (h0 : Nat) (a0 : Nat) (b0 : Nat) (np : Int32) (th : Int32) (ed : Int32) (hh : Int64) (w : Nat → Int32) (pf : Nat → Int32) (t : Int32)  : ∀ sz : Nat, Met l yX9_fails wsX9_fails ({ frames := 0, cells := 0, slots := 0, locals := 0 } : Room) (va_Pc [.ref h0, .int t] (cPre D (tyz cI cJ cS) ([(h0, .inr (9, [.ref a0, .ref b0, .int np, .int th, .int ed, .long hh])), (a0, .inl (cI, 129, .inl w)), (b0, .inl (cI, 516, .inl pf))]) sz)) (va_Qi (fun (r : Int32) (u : Int32) => (r, u) = F_X9_fails np th ed hh w pf t) (fun u => cPost D (tyz cI cJ cS) (va_A ([(h0, .inr (9, [.ref a0, .ref b0, .int np, .int th, .int ed, .long hh])), (a0, .inl (cI, 129, .inl w)), (b0, .inl (cI, 516, .inl pf))]) sz) ([(h0, .inr (9, [.ref a0, .ref b0, .int np, .int u, .int ed, .long hh])), (a0, .inl (cI, 129, .inl w)), (b0, .inl (cI, 516, .inl pf))])) (va_A ([(h0, .inr (9, [.ref a0, .ref b0, .int np, .int th, .int ed, .long hh])), (a0, .inl (cI, 129, .inl w)), (b0, .inl (cI, 516, .inl pf))]) sz)) 0 0 (va_A ([(h0, .inr (9, [.ref a0, .ref b0, .int np, .int th, .int ed, .long hh])), (a0, .inl (cI, 129, .inl w)), (b0, .inl (cI, 516, .inl pf))]) sz) := by
  refine my_met (QC := fun A => (va_Qi (fun (r : Int32) (u : Int32) => (r, u) = F_X9_fails np th ed hh w pf t) (fun u => cPost D (tyz cI cJ cS) A ([(h0, .inr (9, [.ref a0, .ref b0, .int np, .int u, .int ed, .long hh])), (a0, .inl (cI, 129, .inl w)), (b0, .inl (cI, 516, .inl pf))])) A)) (cc := cX9_fails) (maxL := 2) (ret := (some .int)) (by decide) rfl (Nat.le_of_ble_eq_true rfl) ?_
  intro p e s m below meth c ls A hx hb hml hr hts hown hlocks hname hK hP hD hS hA hG hl
  have hown : s.vm.findClass RX9 = some m.cls := hown
  have hl : lv_has ls 2 [(0, .ref h0), (1, .int t)] := hl
  have hP : va_P D vwCl [(h0, .inr (9, [.ref a0, .ref b0, .int np, .int th, .int ed, .long hh])), (a0, .inl (cI, 129, .inl w)), (b0, .inl (cI, 516, .inl pf))] s.heap := hP
  have hD : va_D A [(h0, .inr (9, [.ref a0, .ref b0, .int np, .int th, .int ed, .long hh])), (a0, .inl (cI, 129, .inl w)), (b0, .inl (cI, 516, .inl pf))] := hD
  have hiX9 : ∀ w ∈ u_ws RX9 TX9 6, w ∈ wsX9_fails := by decide +kernel
  have hk_16 := hts (.fieldLink RX9 16 "HallCommutatorModel" "thrown" "I") (by decide +kernel)
  refine lv_aload_n hx hb dX9_fails_0 rfl (lv_at hl 0 rfl) ?_
  refine lv_iload_n hx hb dX9_fails_1 rfl (lv_at hl 1 rfl) ?_
  refine va_put (D := D) (ci := 9) (v := .int t) (ty := .int) (C := RX9) (T := TX9) (N := 6) hx hb hts hiX9 tyX9 tyX9_ok nmX9 hown hK hP hD hS 0 rfl rfl 3 (by decide) hk_16 (fun _ h9 => h9) rfl (by decide +kernel) rfl rfl (Nat.le_of_ble_eq_true rfl) dX9_fails_2 (fun H locs hP hD hS => ?_)
  have hP : va_P D vwCl [(h0, .inr (9, [.ref a0, .ref b0, .int np, .int t, .int ed, .long hh])), (a0, .inl (cI, 129, .inl w)), (b0, .inl (cI, 516, .inl pf))] H := hP
  have hD : va_D A [(h0, .inr (9, [.ref a0, .ref b0, .int np, .int t, .int ed, .long hh])), (a0, .inl (cI, 129, .inl w)), (b0, .inl (cI, 516, .inl pf))] := hD
  refine lv_iconst (v := 0) hx hb dX9_fails_5 (by decide) ?_
  exact my_iret hx hb hr rfl hlocks hK hP hD hS (t) (by show ((0 : Int32), (t)) = F_X9_fails np th ed hh w pf t; simp only [F_X9_fails]) [0, 1, 2] rfl rfl dX9_fails_6
def F_X9_tells (np : Int32) (th : Int32) (ed : Int32) (hh : Int64) (w : Nat → Int32) (pf : Nat → Int32) (t : Int32) : Int32 × Int32 :=
  (t, ((0 : Int32)))
set_option maxHeartbeats 4000000 in
set_option maxRecDepth 100000 in
theorem met_X9_tells (l : Launch) (D : va_G) (cI cJ cS : ClassId) (h0 : Nat) (a0 : Nat) (b0 : Nat) (np : Int32) (th : Int32) (ed : Int32) (hh : Int64) (w : Nat → Int32) (pf : Nat → Int32) (t : Int32)  : ∀ sz : Nat, Met l yX9_tells wsX9_tells ({ frames := 0, cells := 0, slots := 0, locals := 0 } : Room) (va_Pc [.ref h0, .int t] (cPre D (tyz cI cJ cS) ([(h0, .inr (9, [.ref a0, .ref b0, .int np, .int th, .int ed, .long hh])), (a0, .inl (cI, 129, .inl w)), (b0, .inl (cI, 516, .inl pf))]) sz)) (va_Qi (fun (r : Int32) (u : Int32) => (r, u) = F_X9_tells np th ed hh w pf t) (fun u => cPost D (tyz cI cJ cS) (va_A ([(h0, .inr (9, [.ref a0, .ref b0, .int np, .int th, .int ed, .long hh])), (a0, .inl (cI, 129, .inl w)), (b0, .inl (cI, 516, .inl pf))]) sz) ([(h0, .inr (9, [.ref a0, .ref b0, .int np, .int u, .int ed, .long hh])), (a0, .inl (cI, 129, .inl w)), (b0, .inl (cI, 516, .inl pf))])) (va_A ([(h0, .inr (9, [.ref a0, .ref b0, .int np, .int th, .int ed, .long hh])), (a0, .inl (cI, 129, .inl w)), (b0, .inl (cI, 516, .inl pf))]) sz)) 0 0 (va_A ([(h0, .inr (9, [.ref a0, .ref b0, .int np, .int th, .int ed, .long hh])), (a0, .inl (cI, 129, .inl w)), (b0, .inl (cI, 516, .inl pf))]) sz) := by
  refine my_met (QC := fun A => (va_Qi (fun (r : Int32) (u : Int32) => (r, u) = F_X9_tells np th ed hh w pf t) (fun u => cPost D (tyz cI cJ cS) A ([(h0, .inr (9, [.ref a0, .ref b0, .int np, .int u, .int ed, .long hh])), (a0, .inl (cI, 129, .inl w)), (b0, .inl (cI, 516, .inl pf))])) A)) (cc := cX9_tells) (maxL := 2) (ret := (some .int)) (by decide) rfl (Nat.le_of_ble_eq_true rfl) ?_
  intro p e s m below meth c ls A hx hb hml hr hts hown hlocks hname hK hP hD hS hA hG hl
  have hown : s.vm.findClass RX9 = some m.cls := hown
  have hl : lv_has ls 2 [(0, .ref h0), (1, .int t)] := hl
  have hP : va_P D vwCl [(h0, .inr (9, [.ref a0, .ref b0, .int np, .int th, .int ed, .long hh])), (a0, .inl (cI, 129, .inl w)), (b0, .inl (cI, 516, .inl pf))] s.heap := hP
  have hD : va_D A [(h0, .inr (9, [.ref a0, .ref b0, .int np, .int th, .int ed, .long hh])), (a0, .inl (cI, 129, .inl w)), (b0, .inl (cI, 516, .inl pf))] := hD
  have hiX9 : ∀ w ∈ u_ws RX9 TX9 6, w ∈ wsX9_tells := by decide +kernel
  have hk_16 := hts (.fieldLink RX9 16 "HallCommutatorModel" "thrown" "I") (by decide +kernel)
  refine lv_aload_n hx hb dX9_tells_0 rfl (lv_at hl 0 rfl) ?_
  refine lv_iconst (v := 0) hx hb dX9_tells_1 (by decide) ?_
  refine va_put (D := D) (ci := 9) (v := .int (0 : Int32)) (ty := .int) (C := RX9) (T := TX9) (N := 6) hx hb hts hiX9 tyX9 tyX9_ok nmX9 hown hK hP hD hS 0 rfl rfl 3 (by decide) hk_16 (fun _ h9 => h9) rfl (by decide +kernel) rfl rfl (Nat.le_of_ble_eq_true rfl) dX9_tells_2 (fun H locs hP hD hS => ?_)
  have hP : va_P D vwCl [(h0, .inr (9, [.ref a0, .ref b0, .int np, .int (0 : Int32), .int ed, .long hh])), (a0, .inl (cI, 129, .inl w)), (b0, .inl (cI, 516, .inl pf))] H := hP
  have hD : va_D A [(h0, .inr (9, [.ref a0, .ref b0, .int np, .int (0 : Int32), .int ed, .long hh])), (a0, .inl (cI, 129, .inl w)), (b0, .inl (cI, 516, .inl pf))] := hD
  refine lv_iload_n hx hb dX9_tells_5 rfl (lv_at hl 1 rfl) ?_
  exact my_iret hx hb hr rfl hlocks hK hP hD hS ((0 : Int32)) (by show (t, ((0 : Int32))) = F_X9_tells np th ed hh w pf t; simp only [F_X9_tells]) [0, 1, 2] rfl rfl dX9_tells_6
def F_X9_mode (np : Int32) (th : Int32) (ed : Int32) (hh : Int64) (w : Nat → Int32) (pf : Nat → Int32) : Int32 × Int32 :=
  let q1 := F_X9_tells np th ed hh w pf (w 6)
  (q1.1, (q1.2))
set_option maxHeartbeats 4000000 in
set_option maxRecDepth 100000 in
theorem met_X9_mode (l : Launch) (D : va_G) (cI cJ cS : ClassId) (h0 : Nat) (a0 : Nat) (b0 : Nat) (np : Int32) (th : Int32) (ed : Int32) (hh : Int64) (w : Nat → Int32) (pf : Nat → Int32)  : ∀ sz : Nat, Met l yX9_mode wsX9_mode ({ frames := 1, cells := 0, slots := 0, locals := 21 } : Room) (va_Pc [.ref h0] (cPre D (tyz cI cJ cS) ([(h0, .inr (9, [.ref a0, .ref b0, .int np, .int th, .int ed, .long hh])), (a0, .inl (cI, 129, .inl w)), (b0, .inl (cI, 516, .inl pf))]) sz)) (va_Qi (fun (r : Int32) (u : Int32) => (r, u) = F_X9_mode np th ed hh w pf) (fun u => cPost D (tyz cI cJ cS) (va_A ([(h0, .inr (9, [.ref a0, .ref b0, .int np, .int th, .int ed, .long hh])), (a0, .inl (cI, 129, .inl w)), (b0, .inl (cI, 516, .inl pf))]) sz) ([(h0, .inr (9, [.ref a0, .ref b0, .int np, .int u, .int ed, .long hh])), (a0, .inl (cI, 129, .inl w)), (b0, .inl (cI, 516, .inl pf))])) (va_A ([(h0, .inr (9, [.ref a0, .ref b0, .int np, .int th, .int ed, .long hh])), (a0, .inl (cI, 129, .inl w)), (b0, .inl (cI, 516, .inl pf))]) sz)) 0 0 (va_A ([(h0, .inr (9, [.ref a0, .ref b0, .int np, .int th, .int ed, .long hh])), (a0, .inl (cI, 129, .inl w)), (b0, .inl (cI, 516, .inl pf))]) sz) := by
  refine my_met (QC := fun A => (va_Qi (fun (r : Int32) (u : Int32) => (r, u) = F_X9_mode np th ed hh w pf) (fun u => cPost D (tyz cI cJ cS) A ([(h0, .inr (9, [.ref a0, .ref b0, .int np, .int u, .int ed, .long hh])), (a0, .inl (cI, 129, .inl w)), (b0, .inl (cI, 516, .inl pf))])) A)) (cc := cX9_mode) (maxL := 1) (ret := (some .int)) (by decide) rfl (Nat.le_of_ble_eq_true rfl) ?_
  intro p e s m below meth c ls A hx hb hml hr hts hown hlocks hname hK hP hD hS hA hG hl
  have hown : s.vm.findClass RX9 = some m.cls := hown
  have hl : lv_has ls 1 [(0, .ref h0)] := hl
  have hP : va_P D vwCl [(h0, .inr (9, [.ref a0, .ref b0, .int np, .int th, .int ed, .long hh])), (a0, .inl (cI, 129, .inl w)), (b0, .inl (cI, 516, .inl pf))] s.heap := hP
  have hD : va_D A [(h0, .inr (9, [.ref a0, .ref b0, .int np, .int th, .int ed, .long hh])), (a0, .inl (cI, 129, .inl w)), (b0, .inl (cI, 516, .inl pf))] := hD
  have hiX9 : ∀ w ∈ u_ws RX9 TX9 6, w ∈ wsX9_mode := by decide +kernel
  have hk_7 := hts (.fieldLink RX9 7 "HallCommutatorModel" "s" "[I") (by decide +kernel)
  refine lv_aload_n hx hb dX9_mode_0 rfl (lv_at hl 0 rfl) ?_
  refine lv_aload_n hx hb dX9_mode_1 rfl (lv_at hl 0 rfl) ?_
  refine va_get (D := D) (ci := 9) (v := .ref a0) (C := RX9) (T := TX9) (N := 6) hx hb hts hiX9 hown hK hP 0 rfl rfl 0 (by decide) hk_7 (fun _ h9 => h9) rfl dX9_mode_2 ?_
  refine lv_bipush (v := 6) hx hb dX9_mode_5 (by decide) ?_
  refine my_iald hx hb hK hP 1 0 rfl rfl 6 (rfl) (by decide) (by decide) dX9_mode_7 ?_
  refine my_callV_i (As := [.int (w 6)]) (rest := []) (wc := [(h0, .inr (9, [.ref a0, .ref b0, .int np, .int th, .int ed, .long hh])), (a0, .inl (cI, 129, .inl w)), (b0, .inl (cI, 516, .inl pf))]) (wr := []) ⟨hx, hb, hml, hown, hts⟩ (met_X9_tells l D cI cJ cS h0 a0 b0 np th ed hh w pf (w 6) _) (cwV 1 hts gX9_mode_X9_tells rfl rfl rfl (by decide +kernel) ⟨Nat.le_of_ble_eq_true rfl, Nat.le_of_ble_eq_true rfl⟩) hK hP hD hS hA hG [0, 1, 2] [] rfl rfl rfl rfl (by decide) 0 rfl rfl rfl hl.1 (Nat.le_of_ble_eq_true rfl) rfl dX9_mode_8 ⟨Nat.le_of_ble_eq_true rfl, Nat.le_of_ble_eq_true rfl⟩ (fun r_1 x_1_0 H locs hw_1 hP hD hS => ?_)
  have hP : va_P D vwCl [(h0, .inr (9, [.ref a0, .ref b0, .int np, .int x_1_0, .int ed, .long hh])), (a0, .inl (cI, 129, .inl w)), (b0, .inl (cI, 516, .inl pf))] H := hP
  have hD : va_D A [(h0, .inr (9, [.ref a0, .ref b0, .int np, .int x_1_0, .int ed, .long hh])), (a0, .inl (cI, 129, .inl w)), (b0, .inl (cI, 516, .inl pf))] := hD
  exact my_iret hx hb hr rfl hlocks hK hP hD hS (x_1_0) (by show (r_1, (x_1_0)) = F_X9_mode np th ed hh w pf; simp only [F_X9_mode, ← hw_1]) [0, 1, 2] rfl rfl dX9_mode_11
def F_X9_position (np : Int32) (th : Int32) (ed : Int32) (hh : Int64) (w : Nat → Int32) (pf : Nat → Int32) : Int32 × Int32 :=
  let q1 := F_X9_tells np th ed hh w pf (w 28)
  (q1.1, (q1.2))
set_option maxHeartbeats 4000000 in
set_option maxRecDepth 100000 in
theorem met_X9_position (l : Launch) (D : va_G) (cI cJ cS : ClassId) (h0 : Nat) (a0 : Nat) (b0 : Nat) (np : Int32) (th : Int32) (ed : Int32) (hh : Int64) (w : Nat → Int32) (pf : Nat → Int32)  : ∀ sz : Nat, Met l yX9_position wsX9_position ({ frames := 1, cells := 0, slots := 0, locals := 21 } : Room) (va_Pc [.ref h0] (cPre D (tyz cI cJ cS) ([(h0, .inr (9, [.ref a0, .ref b0, .int np, .int th, .int ed, .long hh])), (a0, .inl (cI, 129, .inl w)), (b0, .inl (cI, 516, .inl pf))]) sz)) (va_Qi (fun (r : Int32) (u : Int32) => (r, u) = F_X9_position np th ed hh w pf) (fun u => cPost D (tyz cI cJ cS) (va_A ([(h0, .inr (9, [.ref a0, .ref b0, .int np, .int th, .int ed, .long hh])), (a0, .inl (cI, 129, .inl w)), (b0, .inl (cI, 516, .inl pf))]) sz) ([(h0, .inr (9, [.ref a0, .ref b0, .int np, .int u, .int ed, .long hh])), (a0, .inl (cI, 129, .inl w)), (b0, .inl (cI, 516, .inl pf))])) (va_A ([(h0, .inr (9, [.ref a0, .ref b0, .int np, .int th, .int ed, .long hh])), (a0, .inl (cI, 129, .inl w)), (b0, .inl (cI, 516, .inl pf))]) sz)) 0 0 (va_A ([(h0, .inr (9, [.ref a0, .ref b0, .int np, .int th, .int ed, .long hh])), (a0, .inl (cI, 129, .inl w)), (b0, .inl (cI, 516, .inl pf))]) sz) := by
  refine my_met (QC := fun A => (va_Qi (fun (r : Int32) (u : Int32) => (r, u) = F_X9_position np th ed hh w pf) (fun u => cPost D (tyz cI cJ cS) A ([(h0, .inr (9, [.ref a0, .ref b0, .int np, .int u, .int ed, .long hh])), (a0, .inl (cI, 129, .inl w)), (b0, .inl (cI, 516, .inl pf))])) A)) (cc := cX9_position) (maxL := 1) (ret := (some .int)) (by decide) rfl (Nat.le_of_ble_eq_true rfl) ?_
  intro p e s m below meth c ls A hx hb hml hr hts hown hlocks hname hK hP hD hS hA hG hl
  have hown : s.vm.findClass RX9 = some m.cls := hown
  have hl : lv_has ls 1 [(0, .ref h0)] := hl
  have hP : va_P D vwCl [(h0, .inr (9, [.ref a0, .ref b0, .int np, .int th, .int ed, .long hh])), (a0, .inl (cI, 129, .inl w)), (b0, .inl (cI, 516, .inl pf))] s.heap := hP
  have hD : va_D A [(h0, .inr (9, [.ref a0, .ref b0, .int np, .int th, .int ed, .long hh])), (a0, .inl (cI, 129, .inl w)), (b0, .inl (cI, 516, .inl pf))] := hD
  have hiX9 : ∀ w ∈ u_ws RX9 TX9 6, w ∈ wsX9_position := by decide +kernel
  have hk_7 := hts (.fieldLink RX9 7 "HallCommutatorModel" "s" "[I") (by decide +kernel)
  refine lv_aload_n hx hb dX9_position_0 rfl (lv_at hl 0 rfl) ?_
  refine lv_aload_n hx hb dX9_position_1 rfl (lv_at hl 0 rfl) ?_
  refine va_get (D := D) (ci := 9) (v := .ref a0) (C := RX9) (T := TX9) (N := 6) hx hb hts hiX9 hown hK hP 0 rfl rfl 0 (by decide) hk_7 (fun _ h9 => h9) rfl dX9_position_2 ?_
  refine lv_bipush (v := 28) hx hb dX9_position_5 (by decide) ?_
  refine my_iald hx hb hK hP 1 0 rfl rfl 28 (rfl) (by decide) (by decide) dX9_position_7 ?_
  refine my_callV_i (As := [.int (w 28)]) (rest := []) (wc := [(h0, .inr (9, [.ref a0, .ref b0, .int np, .int th, .int ed, .long hh])), (a0, .inl (cI, 129, .inl w)), (b0, .inl (cI, 516, .inl pf))]) (wr := []) ⟨hx, hb, hml, hown, hts⟩ (met_X9_tells l D cI cJ cS h0 a0 b0 np th ed hh w pf (w 28) _) (cwV 1 hts gX9_position_X9_tells rfl rfl rfl (by decide +kernel) ⟨Nat.le_of_ble_eq_true rfl, Nat.le_of_ble_eq_true rfl⟩) hK hP hD hS hA hG [0, 1, 2] [] rfl rfl rfl rfl (by decide) 0 rfl rfl rfl hl.1 (Nat.le_of_ble_eq_true rfl) rfl dX9_position_8 ⟨Nat.le_of_ble_eq_true rfl, Nat.le_of_ble_eq_true rfl⟩ (fun r_1 x_1_0 H locs hw_1 hP hD hS => ?_)
  have hP : va_P D vwCl [(h0, .inr (9, [.ref a0, .ref b0, .int np, .int x_1_0, .int ed, .long hh])), (a0, .inl (cI, 129, .inl w)), (b0, .inl (cI, 516, .inl pf))] H := hP
  have hD : va_D A [(h0, .inr (9, [.ref a0, .ref b0, .int np, .int x_1_0, .int ed, .long hh])), (a0, .inl (cI, 129, .inl w)), (b0, .inl (cI, 516, .inl pf))] := hD
  exact my_iret hx hb hr rfl hlocks hK hP hD hS (x_1_0) (by show (r_1, (x_1_0)) = F_X9_position np th ed hh w pf; simp only [F_X9_position, ← hw_1]) [0, 1, 2] rfl rfl dX9_position_11
def F_X9_waiting (np : Int32) (th : Int32) (ed : Int32) (hh : Int64) (w : Nat → Int32) (pf : Nat → Int32) : Int32 × Int32 :=
  let q1 := F_X9_tells np th ed hh w pf (w 48)
  (q1.1, (q1.2))
set_option maxHeartbeats 4000000 in
set_option maxRecDepth 100000 in
theorem met_X9_waiting (l : Launch) (D : va_G) (cI cJ cS : ClassId) (h0 : Nat) (a0 : Nat) (b0 : Nat) (np : Int32) (th : Int32) (ed : Int32) (hh : Int64) (w : Nat → Int32) (pf : Nat → Int32)  : ∀ sz : Nat, Met l yX9_waiting wsX9_waiting ({ frames := 1, cells := 0, slots := 0, locals := 21 } : Room) (va_Pc [.ref h0] (cPre D (tyz cI cJ cS) ([(h0, .inr (9, [.ref a0, .ref b0, .int np, .int th, .int ed, .long hh])), (a0, .inl (cI, 129, .inl w)), (b0, .inl (cI, 516, .inl pf))]) sz)) (va_Qi (fun (r : Int32) (u : Int32) => (r, u) = F_X9_waiting np th ed hh w pf) (fun u => cPost D (tyz cI cJ cS) (va_A ([(h0, .inr (9, [.ref a0, .ref b0, .int np, .int th, .int ed, .long hh])), (a0, .inl (cI, 129, .inl w)), (b0, .inl (cI, 516, .inl pf))]) sz) ([(h0, .inr (9, [.ref a0, .ref b0, .int np, .int u, .int ed, .long hh])), (a0, .inl (cI, 129, .inl w)), (b0, .inl (cI, 516, .inl pf))])) (va_A ([(h0, .inr (9, [.ref a0, .ref b0, .int np, .int th, .int ed, .long hh])), (a0, .inl (cI, 129, .inl w)), (b0, .inl (cI, 516, .inl pf))]) sz)) 0 0 (va_A ([(h0, .inr (9, [.ref a0, .ref b0, .int np, .int th, .int ed, .long hh])), (a0, .inl (cI, 129, .inl w)), (b0, .inl (cI, 516, .inl pf))]) sz) := by
  refine my_met (QC := fun A => (va_Qi (fun (r : Int32) (u : Int32) => (r, u) = F_X9_waiting np th ed hh w pf) (fun u => cPost D (tyz cI cJ cS) A ([(h0, .inr (9, [.ref a0, .ref b0, .int np, .int u, .int ed, .long hh])), (a0, .inl (cI, 129, .inl w)), (b0, .inl (cI, 516, .inl pf))])) A)) (cc := cX9_waiting) (maxL := 1) (ret := (some .int)) (by decide) rfl (Nat.le_of_ble_eq_true rfl) ?_
  intro p e s m below meth c ls A hx hb hml hr hts hown hlocks hname hK hP hD hS hA hG hl
  have hown : s.vm.findClass RX9 = some m.cls := hown
  have hl : lv_has ls 1 [(0, .ref h0)] := hl
  have hP : va_P D vwCl [(h0, .inr (9, [.ref a0, .ref b0, .int np, .int th, .int ed, .long hh])), (a0, .inl (cI, 129, .inl w)), (b0, .inl (cI, 516, .inl pf))] s.heap := hP
  have hD : va_D A [(h0, .inr (9, [.ref a0, .ref b0, .int np, .int th, .int ed, .long hh])), (a0, .inl (cI, 129, .inl w)), (b0, .inl (cI, 516, .inl pf))] := hD
  have hiX9 : ∀ w ∈ u_ws RX9 TX9 6, w ∈ wsX9_waiting := by decide +kernel
  have hk_7 := hts (.fieldLink RX9 7 "HallCommutatorModel" "s" "[I") (by decide +kernel)
  refine lv_aload_n hx hb dX9_waiting_0 rfl (lv_at hl 0 rfl) ?_
  refine lv_aload_n hx hb dX9_waiting_1 rfl (lv_at hl 0 rfl) ?_
  refine va_get (D := D) (ci := 9) (v := .ref a0) (C := RX9) (T := TX9) (N := 6) hx hb hts hiX9 hown hK hP 0 rfl rfl 0 (by decide) hk_7 (fun _ h9 => h9) rfl dX9_waiting_2 ?_
  refine lv_bipush (v := 48) hx hb dX9_waiting_5 (by decide) ?_
  refine my_iald hx hb hK hP 1 0 rfl rfl 48 (rfl) (by decide) (by decide) dX9_waiting_7 ?_
  refine my_callV_i (As := [.int (w 48)]) (rest := []) (wc := [(h0, .inr (9, [.ref a0, .ref b0, .int np, .int th, .int ed, .long hh])), (a0, .inl (cI, 129, .inl w)), (b0, .inl (cI, 516, .inl pf))]) (wr := []) ⟨hx, hb, hml, hown, hts⟩ (met_X9_tells l D cI cJ cS h0 a0 b0 np th ed hh w pf (w 48) _) (cwV 1 hts gX9_waiting_X9_tells rfl rfl rfl (by decide +kernel) ⟨Nat.le_of_ble_eq_true rfl, Nat.le_of_ble_eq_true rfl⟩) hK hP hD hS hA hG [0, 1, 2] [] rfl rfl rfl rfl (by decide) 0 rfl rfl rfl hl.1 (Nat.le_of_ble_eq_true rfl) rfl dX9_waiting_8 ⟨Nat.le_of_ble_eq_true rfl, Nat.le_of_ble_eq_true rfl⟩ (fun r_1 x_1_0 H locs hw_1 hP hD hS => ?_)
  have hP : va_P D vwCl [(h0, .inr (9, [.ref a0, .ref b0, .int np, .int x_1_0, .int ed, .long hh])), (a0, .inl (cI, 129, .inl w)), (b0, .inl (cI, 516, .inl pf))] H := hP
  have hD : va_D A [(h0, .inr (9, [.ref a0, .ref b0, .int np, .int x_1_0, .int ed, .long hh])), (a0, .inl (cI, 129, .inl w)), (b0, .inl (cI, 516, .inl pf))] := hD
  exact my_iret hx hb hr rfl hlocks hK hP hD hS (x_1_0) (by show (r_1, (x_1_0)) = F_X9_waiting np th ed hh w pf; simp only [F_X9_waiting, ← hw_1]) [0, 1, 2] rfl rfl dX9_waiting_11
def F_X9_sensors (np : Int32) (th : Int32) (ed : Int32) (hh : Int64) (w : Nat → Int32) (pf : Nat → Int32) (t : Int32) : Int32 × Int32 :=
  let q1 := F_X9_in t (0 : Int32) (3 : Int32)
  if q1 = (0 : Int32) then
    let q10 := F_X9_fails np th ed hh w pf (1 : Int32)
    (q10.1, (q10.2))
  else
    if t = (0 : Int32) then
      let q9 := F_X9_tells np th ed hh w pf (w 7)
      (q9.1, (q9.2))
    else
      if t = (1 : Int32) then
        let q8 := F_X9_tells np th ed hh w pf (w 8)
        (q8.1, (q8.2))
      else
        if t = (2 : Int32) then
          let q7 := F_X9_tells np th ed hh w pf (w 9)
          (q7.1, (q7.2))
        else
          let q6 := F_X9_tells np th ed hh w pf (w 11)
          (q6.1, (q6.2))
set_option maxHeartbeats 4000000 in
set_option maxRecDepth 100000 in
theorem met_X9_sensors (l : Launch) (D : va_G) (cI cJ cS : ClassId) (h0 : Nat) (a0 : Nat) (b0 : Nat) (np : Int32) (th : Int32) (ed : Int32) (hh : Int64) (w : Nat → Int32) (pf : Nat → Int32) (t : Int32)  : ∀ sz : Nat, Met l yX9_sensors wsX9_sensors ({ frames := 1, cells := 0, slots := 0, locals := 22 } : Room) (va_Pc [.ref h0, .int t] (cPre D (tyz cI cJ cS) ([(h0, .inr (9, [.ref a0, .ref b0, .int np, .int th, .int ed, .long hh])), (a0, .inl (cI, 129, .inl w)), (b0, .inl (cI, 516, .inl pf))]) sz)) (va_Qi (fun (r : Int32) (u : Int32) => (r, u) = F_X9_sensors np th ed hh w pf t) (fun u => cPost D (tyz cI cJ cS) (va_A ([(h0, .inr (9, [.ref a0, .ref b0, .int np, .int th, .int ed, .long hh])), (a0, .inl (cI, 129, .inl w)), (b0, .inl (cI, 516, .inl pf))]) sz) ([(h0, .inr (9, [.ref a0, .ref b0, .int np, .int u, .int ed, .long hh])), (a0, .inl (cI, 129, .inl w)), (b0, .inl (cI, 516, .inl pf))])) (va_A ([(h0, .inr (9, [.ref a0, .ref b0, .int np, .int th, .int ed, .long hh])), (a0, .inl (cI, 129, .inl w)), (b0, .inl (cI, 516, .inl pf))]) sz)) 0 0 (va_A ([(h0, .inr (9, [.ref a0, .ref b0, .int np, .int th, .int ed, .long hh])), (a0, .inl (cI, 129, .inl w)), (b0, .inl (cI, 516, .inl pf))]) sz) := by
  refine my_met (QC := fun A => (va_Qi (fun (r : Int32) (u : Int32) => (r, u) = F_X9_sensors np th ed hh w pf t) (fun u => cPost D (tyz cI cJ cS) A ([(h0, .inr (9, [.ref a0, .ref b0, .int np, .int u, .int ed, .long hh])), (a0, .inl (cI, 129, .inl w)), (b0, .inl (cI, 516, .inl pf))])) A)) (cc := cX9_sensors) (maxL := 2) (ret := (some .int)) (by decide) rfl (Nat.le_of_ble_eq_true rfl) ?_
  intro p e s m below meth c ls A hx hb hml hr hts hown hlocks hname hK hP hD hS hA hG hl
  have hown : s.vm.findClass RX9 = some m.cls := hown
  have hl : lv_has ls 2 [(0, .ref h0), (1, .int t)] := hl
  have hP : va_P D vwCl [(h0, .inr (9, [.ref a0, .ref b0, .int np, .int th, .int ed, .long hh])), (a0, .inl (cI, 129, .inl w)), (b0, .inl (cI, 516, .inl pf))] s.heap := hP
  have hD : va_D A [(h0, .inr (9, [.ref a0, .ref b0, .int np, .int th, .int ed, .long hh])), (a0, .inl (cI, 129, .inl w)), (b0, .inl (cI, 516, .inl pf))] := hD
  have hiX9 : ∀ w ∈ u_ws RX9 TX9 6, w ∈ wsX9_sensors := by decide +kernel
  have hk_7 := hts (.fieldLink RX9 7 "HallCommutatorModel" "s" "[I") (by decide +kernel)
  refine lv_iload_n hx hb dX9_sensors_0 rfl (lv_at hl 1 rfl) ?_
  refine lv_iconst (v := 0) hx hb dX9_sensors_1 (by decide) ?_
  refine lv_iconst (v := 3) hx hb dX9_sensors_2 (by decide) ?_
  refine my_callS_i (As := [.int t, .int (0 : Int32), .int (3 : Int32)]) (rest := []) (wc := []) (wr := [(h0, .inr (9, [.ref a0, .ref b0, .int np, .int th, .int ed, .long hh])), (a0, .inl (cI, 129, .inl w)), (b0, .inl (cI, 516, .inl pf))]) ⟨hx, hb, hml, hown, hts⟩ (met_X9_in l D cI cJ cS t (0 : Int32) (3 : Int32) _) (va_cwS 3 hts gX9_sensors_X9_in rfl rfl rfl (by decide +kernel) ⟨Nat.le_of_ble_eq_true rfl, Nat.le_of_ble_eq_true rfl⟩) hK hP hD hS hA hG [] [0, 1, 2] rfl rfl rfl rfl (by decide) rfl hl.1 (Nat.le_of_ble_eq_true rfl) rfl dX9_sensors_3 ⟨Nat.le_of_ble_eq_true rfl, Nat.le_of_ble_eq_true rfl⟩ (fun r_1 _ H locs hw_1 hP hD hS => ?_)
  have hP : va_P D vwCl [(h0, .inr (9, [.ref a0, .ref b0, .int np, .int th, .int ed, .long hh])), (a0, .inl (cI, 129, .inl w)), (b0, .inl (cI, 516, .inl pf))] H := hP
  have hD : va_D A [(h0, .inr (9, [.ref a0, .ref b0, .int np, .int th, .int ed, .long hh])), (a0, .inl (cI, 129, .inl w)), (b0, .inl (cI, 516, .inl pf))] := hD
  refine lv_if_ne (tgt := 15) hx hb dX9_sensors_6 (by decide) (fun c_2 => ?_) (fun c_2 => ?_)
  · skip
    refine lv_aload_n hx hb dX9_sensors_15 rfl (lv_at hl 0 rfl) ?_
    refine lv_iload_n hx hb dX9_sensors_16 rfl (lv_at hl 1 rfl) ?_
    refine lv_if_ne (tgt := 30) hx hb dX9_sensors_17 (by decide) (fun c_3 => ?_) (fun c_3 => ?_)
    · skip
      refine lv_iload_n hx hb dX9_sensors_30 rfl (lv_at hl 1 rfl) ?_
      refine lv_iconst (v := 1) hx hb dX9_sensors_31 (by decide) ?_
      refine lv_icmp_ne (tgt := 45) hx hb dX9_sensors_32 (by decide) (fun c_4 => ?_) (fun c_4 => ?_)
      · skip
        refine lv_iload_n hx hb dX9_sensors_45 rfl (lv_at hl 1 rfl) ?_
        refine lv_iconst (v := 2) hx hb dX9_sensors_46 (by decide) ?_
        refine lv_icmp_ne (tgt := 60) hx hb dX9_sensors_47 (by decide) (fun c_5 => ?_) (fun c_5 => ?_)
        · skip
          refine lv_aload_n hx hb dX9_sensors_60 rfl (lv_at hl 0 rfl) ?_
          refine va_get (D := D) (ci := 9) (v := .ref a0) (C := RX9) (T := TX9) (N := 6) hx hb hts hiX9 hown hK hP 0 rfl rfl 0 (by decide) hk_7 (fun _ h9 => h9) rfl dX9_sensors_61 ?_
          refine lv_bipush (v := 11) hx hb dX9_sensors_64 (by decide) ?_
          refine my_iald hx hb hK hP 1 0 rfl rfl 11 (rfl) (by decide) (by decide) dX9_sensors_66 ?_
          refine my_callV_i (As := [.int (w 11)]) (rest := []) (wc := [(h0, .inr (9, [.ref a0, .ref b0, .int np, .int th, .int ed, .long hh])), (a0, .inl (cI, 129, .inl w)), (b0, .inl (cI, 516, .inl pf))]) (wr := []) ⟨hx, hb, hml, hown, hts⟩ (met_X9_tells l D cI cJ cS h0 a0 b0 np th ed hh w pf (w 11) _) (cwV 1 hts gX9_sensors_X9_tells rfl rfl rfl (by decide +kernel) ⟨Nat.le_of_ble_eq_true rfl, Nat.le_of_ble_eq_true rfl⟩) hK hP hD hS hA hG [0, 1, 2] [] rfl rfl rfl rfl (by decide) 0 rfl rfl rfl hl.1 (Nat.le_of_ble_eq_true rfl) rfl dX9_sensors_67 ⟨Nat.le_of_ble_eq_true rfl, Nat.le_of_ble_eq_true rfl⟩ (fun r_6 x_6_0 H locs hw_6 hP hD hS => ?_)
          have hP : va_P D vwCl [(h0, .inr (9, [.ref a0, .ref b0, .int np, .int x_6_0, .int ed, .long hh])), (a0, .inl (cI, 129, .inl w)), (b0, .inl (cI, 516, .inl pf))] H := hP
          have hD : va_D A [(h0, .inr (9, [.ref a0, .ref b0, .int np, .int x_6_0, .int ed, .long hh])), (a0, .inl (cI, 129, .inl w)), (b0, .inl (cI, 516, .inl pf))] := hD
          exact my_iret hx hb hr rfl hlocks hK hP hD hS (x_6_0) (by show (r_6, (x_6_0)) = F_X9_sensors np th ed hh w pf t; simp only [F_X9_sensors, if_neg c_2, if_neg c_3, if_neg c_4, if_neg c_5, ← hw_1, ← hw_6]) [0, 1, 2] rfl rfl dX9_sensors_70
        · skip
          refine lv_aload_n hx hb dX9_sensors_50 rfl (lv_at hl 0 rfl) ?_
          refine va_get (D := D) (ci := 9) (v := .ref a0) (C := RX9) (T := TX9) (N := 6) hx hb hts hiX9 hown hK hP 0 rfl rfl 0 (by decide) hk_7 (fun _ h9 => h9) rfl dX9_sensors_51 ?_
          refine lv_bipush (v := 9) hx hb dX9_sensors_54 (by decide) ?_
          refine my_iald hx hb hK hP 1 0 rfl rfl 9 (rfl) (by decide) (by decide) dX9_sensors_56 ?_
          refine lv_goto (tgt := 67) hx hb dX9_sensors_57 (by decide) ?_
          refine my_callV_i (As := [.int (w 9)]) (rest := []) (wc := [(h0, .inr (9, [.ref a0, .ref b0, .int np, .int th, .int ed, .long hh])), (a0, .inl (cI, 129, .inl w)), (b0, .inl (cI, 516, .inl pf))]) (wr := []) ⟨hx, hb, hml, hown, hts⟩ (met_X9_tells l D cI cJ cS h0 a0 b0 np th ed hh w pf (w 9) _) (cwV 1 hts gX9_sensors_X9_tells rfl rfl rfl (by decide +kernel) ⟨Nat.le_of_ble_eq_true rfl, Nat.le_of_ble_eq_true rfl⟩) hK hP hD hS hA hG [0, 1, 2] [] rfl rfl rfl rfl (by decide) 0 rfl rfl rfl hl.1 (Nat.le_of_ble_eq_true rfl) rfl dX9_sensors_67 ⟨Nat.le_of_ble_eq_true rfl, Nat.le_of_ble_eq_true rfl⟩ (fun r_7 x_7_0 H locs hw_7 hP hD hS => ?_)
          have hP : va_P D vwCl [(h0, .inr (9, [.ref a0, .ref b0, .int np, .int x_7_0, .int ed, .long hh])), (a0, .inl (cI, 129, .inl w)), (b0, .inl (cI, 516, .inl pf))] H := hP
          have hD : va_D A [(h0, .inr (9, [.ref a0, .ref b0, .int np, .int x_7_0, .int ed, .long hh])), (a0, .inl (cI, 129, .inl w)), (b0, .inl (cI, 516, .inl pf))] := hD
          exact my_iret hx hb hr rfl hlocks hK hP hD hS (x_7_0) (by show (r_7, (x_7_0)) = F_X9_sensors np th ed hh w pf t; simp only [F_X9_sensors, if_neg c_2, if_neg c_3, if_neg c_4, if_pos c_5, ← hw_1, ← hw_7]) [0, 1, 2] rfl rfl dX9_sensors_70
      · skip
        refine lv_aload_n hx hb dX9_sensors_35 rfl (lv_at hl 0 rfl) ?_
        refine va_get (D := D) (ci := 9) (v := .ref a0) (C := RX9) (T := TX9) (N := 6) hx hb hts hiX9 hown hK hP 0 rfl rfl 0 (by decide) hk_7 (fun _ h9 => h9) rfl dX9_sensors_36 ?_
        refine lv_bipush (v := 8) hx hb dX9_sensors_39 (by decide) ?_
        refine my_iald hx hb hK hP 1 0 rfl rfl 8 (rfl) (by decide) (by decide) dX9_sensors_41 ?_
        refine lv_goto (tgt := 67) hx hb dX9_sensors_42 (by decide) ?_
        refine my_callV_i (As := [.int (w 8)]) (rest := []) (wc := [(h0, .inr (9, [.ref a0, .ref b0, .int np, .int th, .int ed, .long hh])), (a0, .inl (cI, 129, .inl w)), (b0, .inl (cI, 516, .inl pf))]) (wr := []) ⟨hx, hb, hml, hown, hts⟩ (met_X9_tells l D cI cJ cS h0 a0 b0 np th ed hh w pf (w 8) _) (cwV 1 hts gX9_sensors_X9_tells rfl rfl rfl (by decide +kernel) ⟨Nat.le_of_ble_eq_true rfl, Nat.le_of_ble_eq_true rfl⟩) hK hP hD hS hA hG [0, 1, 2] [] rfl rfl rfl rfl (by decide) 0 rfl rfl rfl hl.1 (Nat.le_of_ble_eq_true rfl) rfl dX9_sensors_67 ⟨Nat.le_of_ble_eq_true rfl, Nat.le_of_ble_eq_true rfl⟩ (fun r_8 x_8_0 H locs hw_8 hP hD hS => ?_)
        have hP : va_P D vwCl [(h0, .inr (9, [.ref a0, .ref b0, .int np, .int x_8_0, .int ed, .long hh])), (a0, .inl (cI, 129, .inl w)), (b0, .inl (cI, 516, .inl pf))] H := hP
        have hD : va_D A [(h0, .inr (9, [.ref a0, .ref b0, .int np, .int x_8_0, .int ed, .long hh])), (a0, .inl (cI, 129, .inl w)), (b0, .inl (cI, 516, .inl pf))] := hD
        exact my_iret hx hb hr rfl hlocks hK hP hD hS (x_8_0) (by show (r_8, (x_8_0)) = F_X9_sensors np th ed hh w pf t; simp only [F_X9_sensors, if_neg c_2, if_neg c_3, if_pos c_4, ← hw_1, ← hw_8]) [0, 1, 2] rfl rfl dX9_sensors_70
    · skip
      refine lv_aload_n hx hb dX9_sensors_20 rfl (lv_at hl 0 rfl) ?_
      refine va_get (D := D) (ci := 9) (v := .ref a0) (C := RX9) (T := TX9) (N := 6) hx hb hts hiX9 hown hK hP 0 rfl rfl 0 (by decide) hk_7 (fun _ h9 => h9) rfl dX9_sensors_21 ?_
      refine lv_bipush (v := 7) hx hb dX9_sensors_24 (by decide) ?_
      refine my_iald hx hb hK hP 1 0 rfl rfl 7 (rfl) (by decide) (by decide) dX9_sensors_26 ?_
      refine lv_goto (tgt := 67) hx hb dX9_sensors_27 (by decide) ?_
      refine my_callV_i (As := [.int (w 7)]) (rest := []) (wc := [(h0, .inr (9, [.ref a0, .ref b0, .int np, .int th, .int ed, .long hh])), (a0, .inl (cI, 129, .inl w)), (b0, .inl (cI, 516, .inl pf))]) (wr := []) ⟨hx, hb, hml, hown, hts⟩ (met_X9_tells l D cI cJ cS h0 a0 b0 np th ed hh w pf (w 7) _) (cwV 1 hts gX9_sensors_X9_tells rfl rfl rfl (by decide +kernel) ⟨Nat.le_of_ble_eq_true rfl, Nat.le_of_ble_eq_true rfl⟩) hK hP hD hS hA hG [0, 1, 2] [] rfl rfl rfl rfl (by decide) 0 rfl rfl rfl hl.1 (Nat.le_of_ble_eq_true rfl) rfl dX9_sensors_67 ⟨Nat.le_of_ble_eq_true rfl, Nat.le_of_ble_eq_true rfl⟩ (fun r_9 x_9_0 H locs hw_9 hP hD hS => ?_)
      have hP : va_P D vwCl [(h0, .inr (9, [.ref a0, .ref b0, .int np, .int x_9_0, .int ed, .long hh])), (a0, .inl (cI, 129, .inl w)), (b0, .inl (cI, 516, .inl pf))] H := hP
      have hD : va_D A [(h0, .inr (9, [.ref a0, .ref b0, .int np, .int x_9_0, .int ed, .long hh])), (a0, .inl (cI, 129, .inl w)), (b0, .inl (cI, 516, .inl pf))] := hD
      exact my_iret hx hb hr rfl hlocks hK hP hD hS (x_9_0) (by show (r_9, (x_9_0)) = F_X9_sensors np th ed hh w pf t; simp only [F_X9_sensors, if_neg c_2, if_pos c_3, ← hw_1, ← hw_9]) [0, 1, 2] rfl rfl dX9_sensors_70
  · skip
    refine lv_aload_n hx hb dX9_sensors_9 rfl (lv_at hl 0 rfl) ?_
    refine lv_iconst (v := 1) hx hb dX9_sensors_10 (by decide) ?_
    refine my_callV_i (As := [.int (1 : Int32)]) (rest := []) (wc := [(h0, .inr (9, [.ref a0, .ref b0, .int np, .int th, .int ed, .long hh])), (a0, .inl (cI, 129, .inl w)), (b0, .inl (cI, 516, .inl pf))]) (wr := []) ⟨hx, hb, hml, hown, hts⟩ (met_X9_fails l D cI cJ cS h0 a0 b0 np th ed hh w pf (1 : Int32) _) (cwV 1 hts gX9_sensors_X9_fails rfl rfl rfl (by decide +kernel) ⟨Nat.le_of_ble_eq_true rfl, Nat.le_of_ble_eq_true rfl⟩) hK hP hD hS hA hG [0, 1, 2] [] rfl rfl rfl rfl (by decide) 0 rfl rfl rfl hl.1 (Nat.le_of_ble_eq_true rfl) rfl dX9_sensors_11 ⟨Nat.le_of_ble_eq_true rfl, Nat.le_of_ble_eq_true rfl⟩ (fun r_10 x_10_0 H locs hw_10 hP hD hS => ?_)
    have hP : va_P D vwCl [(h0, .inr (9, [.ref a0, .ref b0, .int np, .int x_10_0, .int ed, .long hh])), (a0, .inl (cI, 129, .inl w)), (b0, .inl (cI, 516, .inl pf))] H := hP
    have hD : va_D A [(h0, .inr (9, [.ref a0, .ref b0, .int np, .int x_10_0, .int ed, .long hh])), (a0, .inl (cI, 129, .inl w)), (b0, .inl (cI, 516, .inl pf))] := hD
    exact my_iret hx hb hr rfl hlocks hK hP hD hS (x_10_0) (by show (r_10, (x_10_0)) = F_X9_sensors np th ed hh w pf t; simp only [F_X9_sensors, if_pos c_2, ← hw_1, ← hw_10]) [0, 1, 2] rfl rfl dX9_sensors_14
def LP_X9_save1 : Nat → Int32 → Int32 → Int32 → Int64 → (Nat → Int32) → (Nat → Int32) → Nat → (Nat) × (Nat → Int32)
  | 0, _, _, _, _, _, pf, i => (i, pf)
  | n + 1, np, th, ed, hh, w, pf, i =>
    if (387 : Int32) ≤ nI i then
      (i, pf)
    else
      LP_X9_save1 n np th ed hh w (upd pf i (pf (i + 129))) (i + 1)
set_option maxHeartbeats 4000000 in
set_option maxRecDepth 100000 in
theorem lps_X9_save1 {p : Program} (l : Launch) {e : Env} {R : Room} {s : State} {m : MethodId} {args : Array Value} {below : List Frame} {meth : Method} {c : Code} {A : Nat → Prop} {cells slots : Nat} {Q : State → Prop} (D : va_G) (cI cJ cS : ClassId) (hx : p.tables.exec = Jvm.exec) (hb : c.code = cX9_save) (hml : c.maxLocals = 2) (hown : s.vm.findClass RX9 = some m.cls) (hts : ∀ w ∈ wsX9_save, w.before args s = true) (hK : va_K D vwCl (tyz cI cJ cS) s) (hA : ∀ q, s.heap.size ≤ q → A q) (hG : gG A s s.heap) : ∀ (n : Nat) (h0 : Nat) (a0 : Nat) (b0 : Nat) (np : Int32) (th : Int32) (ed : Int32) (hh : Int64) (w : Nat → Int32) (pf : Nat → Int32) (i : Nat) (H : Heap) (locs : List Loc) (ls : Array Slot), (i ≤ 387) → (387 < i + n) → va_P D vwCl [(h0, .inr (9, [.ref a0, .ref b0, .int np, .int th, .int ed, .long hh])), (a0, .inl (cI, 129, .inl w)), (b0, .inl (cI, 516, .inl pf))] H → va_D A [(h0, .inr (9, [.ref a0, .ref b0, .int np, .int th, .int ed, .long hh])), (a0, .inl (cI, 129, .inl w)), (b0, .inl (cI, 516, .inl pf))] → va_S A s.heap H locs → lv_has ls 2 [(0, .ref h0), (1, .int (nI i))] → (∀ (y : (Nat) × (Nat → Int32)) (H : Heap) (locs : List Loc) (ls : Array Slot), y = LP_X9_save1 n np th ed hh w pf i → va_P D vwCl [(h0, .inr (9, [.ref a0, .ref b0, .int np, .int th, .int ed, .long hh])), (a0, .inl (cI, 129, .inl w)), (b0, .inl (cI, 516, .inl y.2))] H → va_D A [(h0, .inr (9, [.ref a0, .ref b0, .int np, .int th, .int ed, .long hh])), (a0, .inl (cI, 129, .inl w)), (b0, .inl (cI, 516, .inl y.2))] → va_S A s.heap H locs → lv_has ls 2 [(0, .ref h0), (1, .int (nI y.1))] → W p l e R s m args below meth c H locs cells slots Q (F0 m 44 ls [])) → W p l e R s m args below meth c H locs cells slots Q (F0 m 15 ls []) := by
  have hk_13 := hts (.fieldLink RX9 13 "HallCommutatorModel" "past" "[I") (by decide +kernel)
  have hiX9 : ∀ w ∈ u_ws RX9 TX9 6, w ∈ wsX9_save := by decide +kernel
  intro n
  induction n with
  | zero =>
    intro h0 a0 b0 np th ed hh w pf i H locs ls hi hm
    exact absurd hm (by omega)
  | succ n ih =>
    intro h0 a0 b0 np th ed hh w pf i H locs ls hi hm hP hD hS hl kk
    refine lv_iload_n hx hb dX9_save_15 rfl (lv_at hl 1 rfl) ?_
    refine lv_sipush (v := 387) hx hb dX9_save_16 (by decide) ?_
    refine lv_icmp_ge (tgt := 44) hx hb dX9_save_19 (by decide) (fun c_1 => ?_) (fun c_1 => ?_)
    · skip
      exact kk (i, pf) _ _ _ (by simp only [LP_X9_save1, if_pos c_1]) (hP.subm [0, 1, 2] rfl) (hD.sub [0, 1, 2] rfl rfl) hS (lv_sub hl [0, 1] rfl)
    · skip
      refine lv_aload_n hx hb dX9_save_22 rfl (lv_at hl 0 rfl) ?_
      refine va_get (D := D) (ci := 9) (v := .ref b0) (C := RX9) (T := TX9) (N := 6) hx hb hts hiX9 hown hK hP 0 rfl rfl 1 (by decide) hk_13 (fun _ h9 => h9) rfl dX9_save_23 ?_
      refine lv_iload_n hx hb dX9_save_26 rfl (lv_at hl 1 rfl) ?_
      refine lv_aload_n hx hb dX9_save_27 rfl (lv_at hl 0 rfl) ?_
      refine va_get (D := D) (ci := 9) (v := .ref b0) (C := RX9) (T := TX9) (N := 6) hx hb hts hiX9 hown hK hP 0 rfl rfl 1 (by decide) hk_13 (fun _ h9 => h9) rfl dX9_save_28 ?_
      refine lv_iload_n hx hb dX9_save_31 rfl (lv_at hl 1 rfl) ?_
      refine lv_sipush (v := 129) hx hb dX9_save_32 (by decide) ?_
      refine my_iaddN hx hb i 129 rfl rfl dX9_save_35 ?_
      refine my_iald hx hb hK hP 2 0 rfl rfl (i + 129) (rfl) (by have := nI_nle_lt (a := 387) (by omega) c_1; omega) (by decide) dX9_save_36 ?_
      refine my_iast hx hb hK hP hD hS 2 0 rfl rfl i (rfl) (by have := nI_nle_lt (a := 387) (by omega) c_1; omega) (by decide) dX9_save_37 (fun H locs hP hD hS => ?_)
      have hP : va_P D vwCl [(h0, .inr (9, [.ref a0, .ref b0, .int np, .int th, .int ed, .long hh])), (a0, .inl (cI, 129, .inl w)), (b0, .inl (cI, 516, .inl (upd pf i (pf (i + 129)))))] H := hP
      have hD : va_D A [(h0, .inr (9, [.ref a0, .ref b0, .int np, .int th, .int ed, .long hh])), (a0, .inl (cI, 129, .inl w)), (b0, .inl (cI, 516, .inl (upd pf i (pf (i + 129)))))] := hD
      refine lv_iinc (v := nI (i + 1)) (lv' := [(1, .int (nI (i + 1))), (0, .ref h0)]) hx hb dX9_save_38 hl (k := 1) rfl (nI_1 _) (by decide) rfl (fun ls hl => ?_)
      refine lv_goto (tgt := 15) hx hb dX9_save_41 (by decide) ?_
      exact ih h0 a0 b0 np th ed hh w (upd pf i (pf (i + 129))) (i + 1) _ _ _ (by have := nI_nle_lt (a := 387) (by omega) c_1; omega) (by omega) (hP.subm [0, 1, 2] rfl) (hD.sub [0, 1, 2] rfl rfl) hS (lv_sub hl [1, 0] rfl) (fun y H locs ls hy => kk y H locs ls (by rw [hy]; simp only [LP_X9_save1, if_neg c_1]))
def LP_X9_save2 : Nat → Int32 → Int32 → Int32 → Int64 → (Nat → Int32) → (Nat → Int32) → Nat → (Nat) × (Nat → Int32)
  | 0, _, _, _, _, _, pf, i => (i, pf)
  | n + 1, np, th, ed, hh, w, pf, i =>
    if (129 : Int32) ≤ nI i then
      (i, pf)
    else
      LP_X9_save2 n np th ed hh w (upd pf ((129 * (tn np)) + i) (w i)) (i + 1)
set_option maxHeartbeats 4000000 in
set_option maxRecDepth 100000 in
theorem lps_X9_save2 {p : Program} (l : Launch) {e : Env} {R : Room} {s : State} {m : MethodId} {args : Array Value} {below : List Frame} {meth : Method} {c : Code} {A : Nat → Prop} {cells slots : Nat} {Q : State → Prop} (D : va_G) (cI cJ cS : ClassId) (hx : p.tables.exec = Jvm.exec) (hb : c.code = cX9_save) (hml : c.maxLocals = 2) (hown : s.vm.findClass RX9 = some m.cls) (hts : ∀ w ∈ wsX9_save, w.before args s = true) (hK : va_K D vwCl (tyz cI cJ cS) s) (hA : ∀ q, s.heap.size ≤ q → A q) (hG : gG A s s.heap) : ∀ (n : Nat) (h0 : Nat) (a0 : Nat) (b0 : Nat) (np : Int32) (th : Int32) (ed : Int32) (hh : Int64) (w : Nat → Int32) (pf : Nat → Int32) (i : Nat) (H : Heap) (locs : List Loc) (ls : Array Slot), (vp_in np 4) → (i ≤ 129) → (129 < i + n) → va_P D vwCl [(h0, .inr (9, [.ref a0, .ref b0, .int np, .int th, .int ed, .long hh])), (a0, .inl (cI, 129, .inl w)), (b0, .inl (cI, 516, .inl pf))] H → va_D A [(h0, .inr (9, [.ref a0, .ref b0, .int np, .int th, .int ed, .long hh])), (a0, .inl (cI, 129, .inl w)), (b0, .inl (cI, 516, .inl pf))] → va_S A s.heap H locs → lv_has ls 2 [(0, .ref h0), (1, .int (nI i))] → (∀ (y : (Nat) × (Nat → Int32)) (H : Heap) (locs : List Loc) (ls : Array Slot), y = LP_X9_save2 n np th ed hh w pf i → va_P D vwCl [(h0, .inr (9, [.ref a0, .ref b0, .int np, .int th, .int ed, .long hh])), (a0, .inl (cI, 129, .inl w)), (b0, .inl (cI, 516, .inl y.2))] H → va_D A [(h0, .inr (9, [.ref a0, .ref b0, .int np, .int th, .int ed, .long hh])), (a0, .inl (cI, 129, .inl w)), (b0, .inl (cI, 516, .inl y.2))] → va_S A s.heap H locs → lv_has ls 2 [(0, .ref h0), (1, .int (nI y.1))] → W p l e R s m args below meth c H locs cells slots Q (F0 m 90 ls [])) → W p l e R s m args below meth c H locs cells slots Q (F0 m 56 ls []) := by
  have hk_7 := hts (.fieldLink RX9 7 "HallCommutatorModel" "s" "[I") (by decide +kernel)
  have hk_20 := hts (.fieldLink RX9 20 "HallCommutatorModel" "pasts" "I") (by decide +kernel)
  have hk_13 := hts (.fieldLink RX9 13 "HallCommutatorModel" "past" "[I") (by decide +kernel)
  have hiX9 : ∀ w ∈ u_ws RX9 TX9 6, w ∈ wsX9_save := by decide +kernel
  intro n
  induction n with
  | zero =>
    intro h0 a0 b0 np th ed hh w pf i H locs ls hz hi hm
    exact absurd hm (by omega)
  | succ n ih =>
    intro h0 a0 b0 np th ed hh w pf i H locs ls hz hi hm hP hD hS hl kk
    refine lv_iload_n hx hb dX9_save_56 rfl (lv_at hl 1 rfl) ?_
    refine lv_sipush (v := 129) hx hb dX9_save_57 (by decide) ?_
    refine lv_icmp_ge (tgt := 90) hx hb dX9_save_60 (by decide) (fun c_1 => ?_) (fun c_1 => ?_)
    · skip
      exact kk (i, pf) _ _ _ (by simp only [LP_X9_save2, if_pos c_1]) (hP.subm [0, 1, 2] rfl) (hD.sub [0, 1, 2] rfl rfl) hS (lv_sub hl [0, 1] rfl)
    · skip
      refine lv_aload_n hx hb dX9_save_63 rfl (lv_at hl 0 rfl) ?_
      refine va_get (D := D) (ci := 9) (v := .ref b0) (C := RX9) (T := TX9) (N := 6) hx hb hts hiX9 hown hK hP 0 rfl rfl 1 (by decide) hk_13 (fun _ h9 => h9) rfl dX9_save_64 ?_
      refine lv_sipush (v := 129) hx hb dX9_save_67 (by decide) ?_
      refine lv_aload_n hx hb dX9_save_70 rfl (lv_at hl 0 rfl) ?_
      refine va_get (D := D) (ci := 9) (v := .int np) (C := RX9) (T := TX9) (N := 6) hx hb hts hiX9 hown hK hP 0 rfl rfl 2 (by decide) hk_20 (fun _ h9 => h9) rfl dX9_save_71 ?_
      refine W.eq (g2 := F0 m 74 ls [.int (nI (tn np)), .int (129 : Int32), .ref b0]) (by rw [← tn_eq hz]) ?_
      refine my_imulN hx hb 129 (tn np) rfl rfl dX9_save_74 ?_
      refine lv_iload_n hx hb dX9_save_75 rfl (lv_at hl 1 rfl) ?_
      refine my_iaddN hx hb (129 * (tn np)) i rfl rfl dX9_save_76 ?_
      refine lv_aload_n hx hb dX9_save_77 rfl (lv_at hl 0 rfl) ?_
      refine va_get (D := D) (ci := 9) (v := .ref a0) (C := RX9) (T := TX9) (N := 6) hx hb hts hiX9 hown hK hP 0 rfl rfl 0 (by decide) hk_7 (fun _ h9 => h9) rfl dX9_save_78 ?_
      refine lv_iload_n hx hb dX9_save_81 rfl (lv_at hl 1 rfl) ?_
      refine my_iald hx hb hK hP 1 0 rfl rfl i (rfl) (by have := nI_nle_lt (a := 129) (by omega) c_1; omega) (by decide) dX9_save_82 ?_
      refine my_iast hx hb hK hP hD hS 2 0 rfl rfl ((129 * (tn np)) + i) (rfl) (by have := nI_nle_lt (a := 129) (by omega) c_1; have := tn_lt hz; omega) (by decide) dX9_save_83 (fun H locs hP hD hS => ?_)
      have hP : va_P D vwCl [(h0, .inr (9, [.ref a0, .ref b0, .int np, .int th, .int ed, .long hh])), (a0, .inl (cI, 129, .inl w)), (b0, .inl (cI, 516, .inl (upd pf ((129 * (tn np)) + i) (w i))))] H := hP
      have hD : va_D A [(h0, .inr (9, [.ref a0, .ref b0, .int np, .int th, .int ed, .long hh])), (a0, .inl (cI, 129, .inl w)), (b0, .inl (cI, 516, .inl (upd pf ((129 * (tn np)) + i) (w i))))] := hD
      refine lv_iinc (v := nI (i + 1)) (lv' := [(1, .int (nI (i + 1))), (0, .ref h0)]) hx hb dX9_save_84 hl (k := 1) rfl (nI_1 _) (by decide) rfl (fun ls hl => ?_)
      refine lv_goto (tgt := 56) hx hb dX9_save_87 (by decide) ?_
      exact ih h0 a0 b0 np th ed hh w (upd pf ((129 * (tn np)) + i) (w i)) (i + 1) _ _ _ (hz) (by have := nI_nle_lt (a := 129) (by omega) c_1; omega) (by omega) (hP.subm [0, 1, 2] rfl) (hD.sub [0, 1, 2] rfl rfl) hS (lv_sub hl [1, 0] rfl) (fun y H locs ls hy => kk y H locs ls (by rw [hy]; simp only [LP_X9_save2, if_neg c_1]))
def F_X9_save (np : Int32) (th : Int32) (ed : Int32) (hh : Int64) (w : Nat → Int32) (pf : Nat → Int32) : Int32 × Int32 × (Nat → Int32) :=
  if np = (4 : Int32) then
    let q3 := LP_X9_save1 388 np (0 : Int32) ed hh w pf 0
    let q4 := LP_X9_save2 130 (np - (1 : Int32)) (0 : Int32) ed hh w q3.2 0
    ((np - (1 : Int32)) + (1 : Int32), (0 : Int32), q4.2)
  else
    let q2 := LP_X9_save2 130 np (0 : Int32) ed hh w pf 0
    (np + (1 : Int32), (0 : Int32), q2.2)
set_option maxHeartbeats 4000000 in
set_option maxRecDepth 100000 in
theorem met_X9_save (l : Launch) (D : va_G) (cI cJ cS : ClassId) (h0 : Nat) (a0 : Nat) (b0 : Nat) (np : Int32) (th : Int32) (ed : Int32) (hh : Int64) (w : Nat → Int32) (pf : Nat → Int32) (hz : vp_in np 5) : ∀ sz : Nat, Met l yX9_save wsX9_save ({ frames := 0, cells := 0, slots := 0, locals := 0 } : Room) (va_Pc [.ref h0] (cPre D (tyz cI cJ cS) ([(h0, .inr (9, [.ref a0, .ref b0, .int np, .int th, .int ed, .long hh])), (a0, .inl (cI, 129, .inl w)), (b0, .inl (cI, 516, .inl pf))]) sz)) (va_Qv (fun (u : Int32 × Int32 × (Nat → Int32)) => u = F_X9_save np th ed hh w pf) (fun u => cPost D (tyz cI cJ cS) (va_A ([(h0, .inr (9, [.ref a0, .ref b0, .int np, .int th, .int ed, .long hh])), (a0, .inl (cI, 129, .inl w)), (b0, .inl (cI, 516, .inl pf))]) sz) ([(h0, .inr (9, [.ref a0, .ref b0, .int u.1, .int u.2.1, .int ed, .long hh])), (a0, .inl (cI, 129, .inl w)), (b0, .inl (cI, 516, .inl u.2.2))])) (va_A ([(h0, .inr (9, [.ref a0, .ref b0, .int np, .int th, .int ed, .long hh])), (a0, .inl (cI, 129, .inl w)), (b0, .inl (cI, 516, .inl pf))]) sz)) 0 0 (va_A ([(h0, .inr (9, [.ref a0, .ref b0, .int np, .int th, .int ed, .long hh])), (a0, .inl (cI, 129, .inl w)), (b0, .inl (cI, 516, .inl pf))]) sz) := by
  refine my_met (QC := fun A => (va_Qv (fun (u : Int32 × Int32 × (Nat → Int32)) => u = F_X9_save np th ed hh w pf) (fun u => cPost D (tyz cI cJ cS) A ([(h0, .inr (9, [.ref a0, .ref b0, .int u.1, .int u.2.1, .int ed, .long hh])), (a0, .inl (cI, 129, .inl w)), (b0, .inl (cI, 516, .inl u.2.2))])) A)) (cc := cX9_save) (maxL := 2) (ret := none) (by decide) rfl (Nat.le_of_ble_eq_true rfl) ?_
  intro p e s m below meth c ls A hx hb hml hr hts hown hlocks hname hK hP hD hS hA hG hl
  have hown : s.vm.findClass RX9 = some m.cls := hown
  have hl : lv_has ls 2 [(0, .ref h0)] := hl
  have hP : va_P D vwCl [(h0, .inr (9, [.ref a0, .ref b0, .int np, .int th, .int ed, .long hh])), (a0, .inl (cI, 129, .inl w)), (b0, .inl (cI, 516, .inl pf))] s.heap := hP
  have hD : va_D A [(h0, .inr (9, [.ref a0, .ref b0, .int np, .int th, .int ed, .long hh])), (a0, .inl (cI, 129, .inl w)), (b0, .inl (cI, 516, .inl pf))] := hD
  have hiX9 : ∀ w ∈ u_ws RX9 TX9 6, w ∈ wsX9_save := by decide +kernel
  have hk_16 := hts (.fieldLink RX9 16 "HallCommutatorModel" "thrown" "I") (by decide +kernel)
  have hk_20 := hts (.fieldLink RX9 20 "HallCommutatorModel" "pasts" "I") (by decide +kernel)
  refine lv_aload_n hx hb dX9_save_0 rfl (lv_at hl 0 rfl) ?_
  refine lv_iconst (v := 0) hx hb dX9_save_1 (by decide) ?_
  refine va_put (D := D) (ci := 9) (v := .int (0 : Int32)) (ty := .int) (C := RX9) (T := TX9) (N := 6) hx hb hts hiX9 tyX9 tyX9_ok nmX9 hown hK hP hD hS 0 rfl rfl 3 (by decide) hk_16 (fun _ h9 => h9) rfl (by decide +kernel) rfl rfl (Nat.le_of_ble_eq_true rfl) dX9_save_2 (fun H locs hP hD hS => ?_)
  have hP : va_P D vwCl [(h0, .inr (9, [.ref a0, .ref b0, .int np, .int (0 : Int32), .int ed, .long hh])), (a0, .inl (cI, 129, .inl w)), (b0, .inl (cI, 516, .inl pf))] H := hP
  have hD : va_D A [(h0, .inr (9, [.ref a0, .ref b0, .int np, .int (0 : Int32), .int ed, .long hh])), (a0, .inl (cI, 129, .inl w)), (b0, .inl (cI, 516, .inl pf))] := hD
  refine lv_aload_n hx hb dX9_save_5 rfl (lv_at hl 0 rfl) ?_
  refine va_get (D := D) (ci := 9) (v := .int np) (C := RX9) (T := TX9) (N := 6) hx hb hts hiX9 hown hK hP 0 rfl rfl 2 (by decide) hk_20 (fun _ h9 => h9) rfl dX9_save_6 ?_
  refine lv_iconst (v := 4) hx hb dX9_save_9 (by decide) ?_
  refine lv_icmp_ne (tgt := 54) hx hb dX9_save_10 (by decide) (fun c_1 => ?_) (fun c_1 => ?_)
  · skip
    refine lv_iconst (v := 0) hx hb dX9_save_54 (by decide) ?_
    refine lv_istore_n (lv' := [(1, .int (0 : Int32)), (0, .ref h0)]) hx hb dX9_save_55 rfl hl (by decide) rfl (fun ls hl => ?_)
    refine lps_X9_save2 l D cI cJ cS hx hb hml hown hts hK hA hG 130 h0 a0 b0 np (0 : Int32) ed hh w pf 0 _ _ _ (vp_sub4 hz c_1) (Nat.zero_le _) (by omega) (hP.subm [0, 1, 2] rfl) (hD.sub [0, 1, 2] rfl rfl) hS (lv_sub hl [1, 0] rfl) (fun y_2 H locs ls hw_2 hP hD hS hl => ?_)
    obtain ⟨y_2_0, y_2_1⟩ := y_2
    have hl : lv_has ls 2 [(0, .ref h0), (1, .int (nI y_2_0))] := hl
    have hP : va_P D vwCl [(h0, .inr (9, [.ref a0, .ref b0, .int np, .int (0 : Int32), .int ed, .long hh])), (a0, .inl (cI, 129, .inl w)), (b0, .inl (cI, 516, .inl y_2_1))] H := hP
    have hD : va_D A [(h0, .inr (9, [.ref a0, .ref b0, .int np, .int (0 : Int32), .int ed, .long hh])), (a0, .inl (cI, 129, .inl w)), (b0, .inl (cI, 516, .inl y_2_1))] := hD
    refine lv_aload_n hx hb dX9_save_90 rfl (lv_at hl 0 rfl) ?_
    refine lv_dup hx hb dX9_save_91 rfl ?_
    refine va_get (D := D) (ci := 9) (v := .int np) (C := RX9) (T := TX9) (N := 6) hx hb hts hiX9 hown hK hP 0 rfl rfl 2 (by decide) hk_20 (fun _ h9 => h9) rfl dX9_save_92 ?_
    refine lv_iconst (v := 1) hx hb dX9_save_95 (by decide) ?_
    refine lv_iadd hx hb dX9_save_96 ?_
    refine va_put (D := D) (ci := 9) (v := .int (np + (1 : Int32))) (ty := .int) (C := RX9) (T := TX9) (N := 6) hx hb hts hiX9 tyX9 tyX9_ok nmX9 hown hK hP hD hS 0 rfl rfl 2 (by decide) hk_20 (fun _ h9 => h9) rfl (by decide +kernel) rfl rfl (Nat.le_of_ble_eq_true rfl) dX9_save_97 (fun H locs hP hD hS => ?_)
    have hP : va_P D vwCl [(h0, .inr (9, [.ref a0, .ref b0, .int (np + (1 : Int32)), .int (0 : Int32), .int ed, .long hh])), (a0, .inl (cI, 129, .inl w)), (b0, .inl (cI, 516, .inl y_2_1))] H := hP
    have hD : va_D A [(h0, .inr (9, [.ref a0, .ref b0, .int (np + (1 : Int32)), .int (0 : Int32), .int ed, .long hh])), (a0, .inl (cI, 129, .inl w)), (b0, .inl (cI, 516, .inl y_2_1))] := hD
    exact my_vret hx hb hr hlocks hK hP hD hS (np + (1 : Int32), (0 : Int32), y_2_1) (by show (np + (1 : Int32), (0 : Int32), y_2_1) = F_X9_save np th ed hh w pf; simp only [F_X9_save, if_neg c_1, ← hw_2]) [0, 1, 2] rfl rfl dX9_save_100
  · skip
    refine lv_iconst (v := 0) hx hb dX9_save_13 (by decide) ?_
    refine lv_istore_n (lv' := [(1, .int (0 : Int32)), (0, .ref h0)]) hx hb dX9_save_14 rfl hl (by decide) rfl (fun ls hl => ?_)
    refine lps_X9_save1 l D cI cJ cS hx hb hml hown hts hK hA hG 388 h0 a0 b0 np (0 : Int32) ed hh w pf 0 _ _ _ (Nat.zero_le _) (by omega) (hP.subm [0, 1, 2] rfl) (hD.sub [0, 1, 2] rfl rfl) hS (lv_sub hl [1, 0] rfl) (fun y_3 H locs ls hw_3 hP hD hS hl => ?_)
    obtain ⟨y_3_0, y_3_1⟩ := y_3
    have hl : lv_has ls 2 [(0, .ref h0), (1, .int (nI y_3_0))] := hl
    have hP : va_P D vwCl [(h0, .inr (9, [.ref a0, .ref b0, .int np, .int (0 : Int32), .int ed, .long hh])), (a0, .inl (cI, 129, .inl w)), (b0, .inl (cI, 516, .inl y_3_1))] H := hP
    have hD : va_D A [(h0, .inr (9, [.ref a0, .ref b0, .int np, .int (0 : Int32), .int ed, .long hh])), (a0, .inl (cI, 129, .inl w)), (b0, .inl (cI, 516, .inl y_3_1))] := hD
    refine lv_aload_n hx hb dX9_save_44 rfl (lv_at hl 0 rfl) ?_
    refine lv_dup hx hb dX9_save_45 rfl ?_
    refine va_get (D := D) (ci := 9) (v := .int np) (C := RX9) (T := TX9) (N := 6) hx hb hts hiX9 hown hK hP 0 rfl rfl 2 (by decide) hk_20 (fun _ h9 => h9) rfl dX9_save_46 ?_
    refine lv_iconst (v := 1) hx hb dX9_save_49 (by decide) ?_
    refine lv_isub hx hb dX9_save_50 ?_
    refine va_put (D := D) (ci := 9) (v := .int (np - (1 : Int32))) (ty := .int) (C := RX9) (T := TX9) (N := 6) hx hb hts hiX9 tyX9 tyX9_ok nmX9 hown hK hP hD hS 0 rfl rfl 2 (by decide) hk_20 (fun _ h9 => h9) rfl (by decide +kernel) rfl rfl (Nat.le_of_ble_eq_true rfl) dX9_save_51 (fun H locs hP hD hS => ?_)
    have hP : va_P D vwCl [(h0, .inr (9, [.ref a0, .ref b0, .int (np - (1 : Int32)), .int (0 : Int32), .int ed, .long hh])), (a0, .inl (cI, 129, .inl w)), (b0, .inl (cI, 516, .inl y_3_1))] H := hP
    have hD : va_D A [(h0, .inr (9, [.ref a0, .ref b0, .int (np - (1 : Int32)), .int (0 : Int32), .int ed, .long hh])), (a0, .inl (cI, 129, .inl w)), (b0, .inl (cI, 516, .inl y_3_1))] := hD
    refine lv_iconst (v := 0) hx hb dX9_save_54 (by decide) ?_
    refine lv_istore_n (lv' := [(1, .int (0 : Int32)), (0, .ref h0)]) hx hb dX9_save_55 rfl hl (by decide) rfl (fun ls hl => ?_)
    refine lps_X9_save2 l D cI cJ cS hx hb hml hown hts hK hA hG 130 h0 a0 b0 (np - (1 : Int32)) (0 : Int32) ed hh w y_3_1 0 _ _ _ (vp_dec4 c_1) (Nat.zero_le _) (by omega) (hP.subm [0, 1, 2] rfl) (hD.sub [0, 1, 2] rfl rfl) hS (lv_sub hl [1, 0] rfl) (fun y_4 H locs ls hw_4 hP hD hS hl => ?_)
    obtain ⟨y_4_0, y_4_1⟩ := y_4
    have hl : lv_has ls 2 [(0, .ref h0), (1, .int (nI y_4_0))] := hl
    have hP : va_P D vwCl [(h0, .inr (9, [.ref a0, .ref b0, .int (np - (1 : Int32)), .int (0 : Int32), .int ed, .long hh])), (a0, .inl (cI, 129, .inl w)), (b0, .inl (cI, 516, .inl y_4_1))] H := hP
    have hD : va_D A [(h0, .inr (9, [.ref a0, .ref b0, .int (np - (1 : Int32)), .int (0 : Int32), .int ed, .long hh])), (a0, .inl (cI, 129, .inl w)), (b0, .inl (cI, 516, .inl y_4_1))] := hD
    refine lv_aload_n hx hb dX9_save_90 rfl (lv_at hl 0 rfl) ?_
    refine lv_dup hx hb dX9_save_91 rfl ?_
    refine va_get (D := D) (ci := 9) (v := .int (np - (1 : Int32))) (C := RX9) (T := TX9) (N := 6) hx hb hts hiX9 hown hK hP 0 rfl rfl 2 (by decide) hk_20 (fun _ h9 => h9) rfl dX9_save_92 ?_
    refine lv_iconst (v := 1) hx hb dX9_save_95 (by decide) ?_
    refine lv_iadd hx hb dX9_save_96 ?_
    refine va_put (D := D) (ci := 9) (v := .int ((np - (1 : Int32)) + (1 : Int32))) (ty := .int) (C := RX9) (T := TX9) (N := 6) hx hb hts hiX9 tyX9 tyX9_ok nmX9 hown hK hP hD hS 0 rfl rfl 2 (by decide) hk_20 (fun _ h9 => h9) rfl (by decide +kernel) rfl rfl (Nat.le_of_ble_eq_true rfl) dX9_save_97 (fun H locs hP hD hS => ?_)
    have hP : va_P D vwCl [(h0, .inr (9, [.ref a0, .ref b0, .int ((np - (1 : Int32)) + (1 : Int32)), .int (0 : Int32), .int ed, .long hh])), (a0, .inl (cI, 129, .inl w)), (b0, .inl (cI, 516, .inl y_4_1))] H := hP
    have hD : va_D A [(h0, .inr (9, [.ref a0, .ref b0, .int ((np - (1 : Int32)) + (1 : Int32)), .int (0 : Int32), .int ed, .long hh])), (a0, .inl (cI, 129, .inl w)), (b0, .inl (cI, 516, .inl y_4_1))] := hD
    exact my_vret hx hb hr hlocks hK hP hD hS ((np - (1 : Int32)) + (1 : Int32), (0 : Int32), y_4_1) (by show ((np - (1 : Int32)) + (1 : Int32), (0 : Int32), y_4_1) = F_X9_save np th ed hh w pf; simp only [F_X9_save, if_pos c_1, ← hw_3, ← hw_4]) [0, 1, 2] rfl rfl dX9_save_100
def F_X9_becomes (np : Int32) (th : Int32) (ed : Int32) (hh : Int64) (w : Nat → Int32) (pf : Nat → Int32) (j : Nat) (t : Int32) : Int32 × Int32 × Int32 × (Nat → Int32) × (Nat → Int32) :=
  let q1 := F_X9_save np th ed hh w pf
  (w j, (q1.1, q1.2.1, upd w j t, q1.2.2))
set_option maxHeartbeats 4000000 in
set_option maxRecDepth 100000 in
theorem met_X9_becomes (l : Launch) (D : va_G) (cI cJ cS : ClassId) (h0 : Nat) (a0 : Nat) (b0 : Nat) (np : Int32) (th : Int32) (ed : Int32) (hh : Int64) (w : Nat → Int32) (pf : Nat → Int32) (j : Nat) (t : Int32) (hz : vp_in np 5) (hj : j < 129) : ∀ sz : Nat, Met l yX9_becomes wsX9_becomes ({ frames := 1, cells := 0, slots := 0, locals := 21 } : Room) (va_Pc [.ref h0, .int (nI j), .int t] (cPre D (tyz cI cJ cS) ([(h0, .inr (9, [.ref a0, .ref b0, .int np, .int th, .int ed, .long hh])), (a0, .inl (cI, 129, .inl w)), (b0, .inl (cI, 516, .inl pf))]) sz)) (va_Qi (fun (r : Int32) (u : Int32 × Int32 × (Nat → Int32) × (Nat → Int32)) => (r, u) = F_X9_becomes np th ed hh w pf j t) (fun u => cPost D (tyz cI cJ cS) (va_A ([(h0, .inr (9, [.ref a0, .ref b0, .int np, .int th, .int ed, .long hh])), (a0, .inl (cI, 129, .inl w)), (b0, .inl (cI, 516, .inl pf))]) sz) ([(h0, .inr (9, [.ref a0, .ref b0, .int u.1, .int u.2.1, .int ed, .long hh])), (a0, .inl (cI, 129, .inl u.2.2.1)), (b0, .inl (cI, 516, .inl u.2.2.2))])) (va_A ([(h0, .inr (9, [.ref a0, .ref b0, .int np, .int th, .int ed, .long hh])), (a0, .inl (cI, 129, .inl w)), (b0, .inl (cI, 516, .inl pf))]) sz)) 0 0 (va_A ([(h0, .inr (9, [.ref a0, .ref b0, .int np, .int th, .int ed, .long hh])), (a0, .inl (cI, 129, .inl w)), (b0, .inl (cI, 516, .inl pf))]) sz) := by
  refine my_met (QC := fun A => (va_Qi (fun (r : Int32) (u : Int32 × Int32 × (Nat → Int32) × (Nat → Int32)) => (r, u) = F_X9_becomes np th ed hh w pf j t) (fun u => cPost D (tyz cI cJ cS) A ([(h0, .inr (9, [.ref a0, .ref b0, .int u.1, .int u.2.1, .int ed, .long hh])), (a0, .inl (cI, 129, .inl u.2.2.1)), (b0, .inl (cI, 516, .inl u.2.2.2))])) A)) (cc := cX9_becomes) (maxL := 4) (ret := (some .int)) (by decide) rfl (Nat.le_of_ble_eq_true rfl) ?_
  intro p e s m below meth c ls A hx hb hml hr hts hown hlocks hname hK hP hD hS hA hG hl
  have hown : s.vm.findClass RX9 = some m.cls := hown
  have hl : lv_has ls 4 [(0, .ref h0), (1, .int (nI j)), (2, .int t)] := hl
  have hP : va_P D vwCl [(h0, .inr (9, [.ref a0, .ref b0, .int np, .int th, .int ed, .long hh])), (a0, .inl (cI, 129, .inl w)), (b0, .inl (cI, 516, .inl pf))] s.heap := hP
  have hD : va_D A [(h0, .inr (9, [.ref a0, .ref b0, .int np, .int th, .int ed, .long hh])), (a0, .inl (cI, 129, .inl w)), (b0, .inl (cI, 516, .inl pf))] := hD
  have hiX9 : ∀ w ∈ u_ws RX9 TX9 6, w ∈ wsX9_becomes := by decide +kernel
  have hk_7 := hts (.fieldLink RX9 7 "HallCommutatorModel" "s" "[I") (by decide +kernel)
  refine lv_aload_n hx hb dX9_becomes_0 rfl (lv_at hl 0 rfl) ?_
  refine my_callV_v (As := []) (rest := []) (wc := [(h0, .inr (9, [.ref a0, .ref b0, .int np, .int th, .int ed, .long hh])), (a0, .inl (cI, 129, .inl w)), (b0, .inl (cI, 516, .inl pf))]) (wr := []) ⟨hx, hb, hml, hown, hts⟩ (met_X9_save l D cI cJ cS h0 a0 b0 np th ed hh w pf (hz) _) (cwV 0 hts gX9_becomes_X9_save rfl rfl rfl (by decide +kernel) ⟨Nat.le_of_ble_eq_true rfl, Nat.le_of_ble_eq_true rfl⟩) hK hP hD hS hA hG [0, 1, 2] [] rfl rfl rfl rfl (by decide) 0 rfl rfl rfl hl.1 (Nat.le_of_ble_eq_true rfl) rfl dX9_becomes_1 ⟨Nat.le_of_ble_eq_true rfl, Nat.le_of_ble_eq_true rfl⟩ (fun u_1 H locs hw_1 hP hD hS => ?_)
  obtain ⟨x_1_0, x_1_1, x_1_2⟩ := u_1
  have hP : va_P D vwCl [(h0, .inr (9, [.ref a0, .ref b0, .int x_1_0, .int x_1_1, .int ed, .long hh])), (a0, .inl (cI, 129, .inl w)), (b0, .inl (cI, 516, .inl x_1_2))] H := hP
  have hD : va_D A [(h0, .inr (9, [.ref a0, .ref b0, .int x_1_0, .int x_1_1, .int ed, .long hh])), (a0, .inl (cI, 129, .inl w)), (b0, .inl (cI, 516, .inl x_1_2))] := hD
  refine lv_aload_n hx hb dX9_becomes_4 rfl (lv_at hl 0 rfl) ?_
  refine va_get (D := D) (ci := 9) (v := .ref a0) (C := RX9) (T := TX9) (N := 6) hx hb hts hiX9 hown hK hP 0 rfl rfl 0 (by decide) hk_7 (fun _ h9 => h9) rfl dX9_becomes_5 ?_
  refine lv_iload_n hx hb dX9_becomes_8 rfl (lv_at hl 1 rfl) ?_
  refine my_iald hx hb hK hP 1 0 rfl rfl j (rfl) (hj) (by decide) dX9_becomes_9 ?_
  refine lv_istore_n (lv' := [(3, .int (w j)), (0, .ref h0), (1, .int (nI j)), (2, .int t)]) hx hb dX9_becomes_10 rfl hl (by decide) rfl (fun ls hl => ?_)
  refine lv_aload_n hx hb dX9_becomes_11 rfl (lv_at hl 1 rfl) ?_
  refine va_get (D := D) (ci := 9) (v := .ref a0) (C := RX9) (T := TX9) (N := 6) hx hb hts hiX9 hown hK hP 0 rfl rfl 0 (by decide) hk_7 (fun _ h9 => h9) rfl dX9_becomes_12 ?_
  refine lv_iload_n hx hb dX9_becomes_15 rfl (lv_at hl 2 rfl) ?_
  refine lv_iload_n hx hb dX9_becomes_16 rfl (lv_at hl 3 rfl) ?_
  refine my_iast hx hb hK hP hD hS 1 0 rfl rfl j (rfl) (hj) (by decide) dX9_becomes_17 (fun H locs hP hD hS => ?_)
  have hP : va_P D vwCl [(h0, .inr (9, [.ref a0, .ref b0, .int x_1_0, .int x_1_1, .int ed, .long hh])), (a0, .inl (cI, 129, .inl (upd w j t))), (b0, .inl (cI, 516, .inl x_1_2))] H := hP
  have hD : va_D A [(h0, .inr (9, [.ref a0, .ref b0, .int x_1_0, .int x_1_1, .int ed, .long hh])), (a0, .inl (cI, 129, .inl (upd w j t))), (b0, .inl (cI, 516, .inl x_1_2))] := hD
  refine lv_iload_n hx hb dX9_becomes_18 rfl (lv_at hl 0 rfl) ?_
  exact my_iret hx hb hr rfl hlocks hK hP hD hS (x_1_0, x_1_1, upd w j t, x_1_2) (by show (w j, (x_1_0, x_1_1, upd w j t, x_1_2)) = F_X9_becomes np th ed hh w pf j t; simp only [F_X9_becomes, ← hw_1]) [0, 1, 2] rfl rfl dX9_becomes_19
def F_X9_setFilter (np : Int32) (th : Int32) (ed : Int32) (hh : Int64) (w : Nat → Int32) (pf : Nat → Int32) (t : Int32) : Int32 × Int32 × Int32 × (Nat → Int32) × (Nat → Int32) :=
  let q1 := F_X9_in t (1 : Int32) (50 : Int32)
  if q1 = (0 : Int32) then
    let q3 := F_X9_fails np th ed hh w pf (1 : Int32)
    (q3.1, (np, q3.2, w, pf))
  else
    let q4 := F_X9_becomes np th ed hh w pf 1 t
    (q4.1, (q4.2.1, q4.2.2.1, q4.2.2.2.1, q4.2.2.2.2))
set_option maxHeartbeats 4000000 in
set_option maxRecDepth 100000 in
theorem met_X9_setFilter (l : Launch) (D : va_G) (cI cJ cS : ClassId) (h0 : Nat) (a0 : Nat) (b0 : Nat) (np : Int32) (th : Int32) (ed : Int32) (hh : Int64) (w : Nat → Int32) (pf : Nat → Int32) (t : Int32) (hz : vp_in np 5) : ∀ sz : Nat, Met l yX9_setFilter wsX9_setFilter ({ frames := 2, cells := 0, slots := 0, locals := 44 } : Room) (va_Pc [.ref h0, .int t] (cPre D (tyz cI cJ cS) ([(h0, .inr (9, [.ref a0, .ref b0, .int np, .int th, .int ed, .long hh])), (a0, .inl (cI, 129, .inl w)), (b0, .inl (cI, 516, .inl pf))]) sz)) (va_Qi (fun (r : Int32) (u : Int32 × Int32 × (Nat → Int32) × (Nat → Int32)) => (r, u) = F_X9_setFilter np th ed hh w pf t) (fun u => cPost D (tyz cI cJ cS) (va_A ([(h0, .inr (9, [.ref a0, .ref b0, .int np, .int th, .int ed, .long hh])), (a0, .inl (cI, 129, .inl w)), (b0, .inl (cI, 516, .inl pf))]) sz) ([(h0, .inr (9, [.ref a0, .ref b0, .int u.1, .int u.2.1, .int ed, .long hh])), (a0, .inl (cI, 129, .inl u.2.2.1)), (b0, .inl (cI, 516, .inl u.2.2.2))])) (va_A ([(h0, .inr (9, [.ref a0, .ref b0, .int np, .int th, .int ed, .long hh])), (a0, .inl (cI, 129, .inl w)), (b0, .inl (cI, 516, .inl pf))]) sz)) 0 0 (va_A ([(h0, .inr (9, [.ref a0, .ref b0, .int np, .int th, .int ed, .long hh])), (a0, .inl (cI, 129, .inl w)), (b0, .inl (cI, 516, .inl pf))]) sz) := by
  refine my_met (QC := fun A => (va_Qi (fun (r : Int32) (u : Int32 × Int32 × (Nat → Int32) × (Nat → Int32)) => (r, u) = F_X9_setFilter np th ed hh w pf t) (fun u => cPost D (tyz cI cJ cS) A ([(h0, .inr (9, [.ref a0, .ref b0, .int u.1, .int u.2.1, .int ed, .long hh])), (a0, .inl (cI, 129, .inl u.2.2.1)), (b0, .inl (cI, 516, .inl u.2.2.2))])) A)) (cc := cX9_setFilter) (maxL := 2) (ret := (some .int)) (by decide) rfl (Nat.le_of_ble_eq_true rfl) ?_
  intro p e s m below meth c ls A hx hb hml hr hts hown hlocks hname hK hP hD hS hA hG hl
  have hown : s.vm.findClass RX9 = some m.cls := hown
  have hl : lv_has ls 2 [(0, .ref h0), (1, .int t)] := hl
  have hP : va_P D vwCl [(h0, .inr (9, [.ref a0, .ref b0, .int np, .int th, .int ed, .long hh])), (a0, .inl (cI, 129, .inl w)), (b0, .inl (cI, 516, .inl pf))] s.heap := hP
  have hD : va_D A [(h0, .inr (9, [.ref a0, .ref b0, .int np, .int th, .int ed, .long hh])), (a0, .inl (cI, 129, .inl w)), (b0, .inl (cI, 516, .inl pf))] := hD
  refine lv_iload_n hx hb dX9_setFilter_0 rfl (lv_at hl 1 rfl) ?_
  refine lv_iconst (v := 1) hx hb dX9_setFilter_1 (by decide) ?_
  refine lv_bipush (v := 50) hx hb dX9_setFilter_2 (by decide) ?_
  refine my_callS_i (As := [.int t, .int (1 : Int32), .int (50 : Int32)]) (rest := []) (wc := []) (wr := [(h0, .inr (9, [.ref a0, .ref b0, .int np, .int th, .int ed, .long hh])), (a0, .inl (cI, 129, .inl w)), (b0, .inl (cI, 516, .inl pf))]) ⟨hx, hb, hml, hown, hts⟩ (met_X9_in l D cI cJ cS t (1 : Int32) (50 : Int32) _) (va_cwS 3 hts gX9_setFilter_X9_in rfl rfl rfl (by decide +kernel) ⟨Nat.le_of_ble_eq_true rfl, Nat.le_of_ble_eq_true rfl⟩) hK hP hD hS hA hG [] [0, 1, 2] rfl rfl rfl rfl (by decide) rfl hl.1 (Nat.le_of_ble_eq_true rfl) rfl dX9_setFilter_4 ⟨Nat.le_of_ble_eq_true rfl, Nat.le_of_ble_eq_true rfl⟩ (fun r_1 _ H locs hw_1 hP hD hS => ?_)
  have hP : va_P D vwCl [(h0, .inr (9, [.ref a0, .ref b0, .int np, .int th, .int ed, .long hh])), (a0, .inl (cI, 129, .inl w)), (b0, .inl (cI, 516, .inl pf))] H := hP
  have hD : va_D A [(h0, .inr (9, [.ref a0, .ref b0, .int np, .int th, .int ed, .long hh])), (a0, .inl (cI, 129, .inl w)), (b0, .inl (cI, 516, .inl pf))] := hD
  refine lv_if_eq (tgt := 19) hx hb dX9_setFilter_7 (by decide) (fun c_2 => ?_) (fun c_2 => ?_)
  · skip
    refine lv_aload_n hx hb dX9_setFilter_19 rfl (lv_at hl 0 rfl) ?_
    refine lv_iconst (v := 1) hx hb dX9_setFilter_20 (by decide) ?_
    refine my_callV_i (As := [.int (1 : Int32)]) (rest := []) (wc := [(h0, .inr (9, [.ref a0, .ref b0, .int np, .int th, .int ed, .long hh])), (a0, .inl (cI, 129, .inl w)), (b0, .inl (cI, 516, .inl pf))]) (wr := []) ⟨hx, hb, hml, hown, hts⟩ (met_X9_fails l D cI cJ cS h0 a0 b0 np th ed hh w pf (1 : Int32) _) (cwV 1 hts gX9_setFilter_X9_fails rfl rfl rfl (by decide +kernel) ⟨Nat.le_of_ble_eq_true rfl, Nat.le_of_ble_eq_true rfl⟩) hK hP hD hS hA hG [0, 1, 2] [] rfl rfl rfl rfl (by decide) 0 rfl rfl rfl hl.1 (Nat.le_of_ble_eq_true rfl) rfl dX9_setFilter_21 ⟨Nat.le_of_ble_eq_true rfl, Nat.le_of_ble_eq_true rfl⟩ (fun r_3 x_3_0 H locs hw_3 hP hD hS => ?_)
    have hP : va_P D vwCl [(h0, .inr (9, [.ref a0, .ref b0, .int np, .int x_3_0, .int ed, .long hh])), (a0, .inl (cI, 129, .inl w)), (b0, .inl (cI, 516, .inl pf))] H := hP
    have hD : va_D A [(h0, .inr (9, [.ref a0, .ref b0, .int np, .int x_3_0, .int ed, .long hh])), (a0, .inl (cI, 129, .inl w)), (b0, .inl (cI, 516, .inl pf))] := hD
    exact my_iret hx hb hr rfl hlocks hK hP hD hS (np, x_3_0, w, pf) (by show (r_3, (np, x_3_0, w, pf)) = F_X9_setFilter np th ed hh w pf t; simp only [F_X9_setFilter, if_pos c_2, ← hw_1, ← hw_3]) [0, 1, 2] rfl rfl dX9_setFilter_24
  · skip
    refine lv_aload_n hx hb dX9_setFilter_10 rfl (lv_at hl 0 rfl) ?_
    refine lv_iconst (v := 1) hx hb dX9_setFilter_11 (by decide) ?_
    refine lv_iload_n hx hb dX9_setFilter_12 rfl (lv_at hl 1 rfl) ?_
    refine my_callV_i (As := [.int (nI 1), .int t]) (rest := []) (wc := [(h0, .inr (9, [.ref a0, .ref b0, .int np, .int th, .int ed, .long hh])), (a0, .inl (cI, 129, .inl w)), (b0, .inl (cI, 516, .inl pf))]) (wr := []) ⟨hx, hb, hml, hown, hts⟩ (met_X9_becomes l D cI cJ cS h0 a0 b0 np th ed hh w pf 1 t (hz) (by decide) _) (cwV 2 hts gX9_setFilter_X9_becomes rfl rfl rfl (by decide +kernel) ⟨Nat.le_of_ble_eq_true rfl, Nat.le_of_ble_eq_true rfl⟩) hK hP hD hS hA hG [0, 1, 2] [] rfl rfl rfl rfl (by decide) 0 rfl rfl rfl hl.1 (Nat.le_of_ble_eq_true rfl) rfl dX9_setFilter_13 ⟨Nat.le_of_ble_eq_true rfl, Nat.le_of_ble_eq_true rfl⟩ (fun r_4 u_4 H locs hw_4 hP hD hS => ?_)
    obtain ⟨x_4_0, x_4_1, x_4_2, x_4_3⟩ := u_4
    have hP : va_P D vwCl [(h0, .inr (9, [.ref a0, .ref b0, .int x_4_0, .int x_4_1, .int ed, .long hh])), (a0, .inl (cI, 129, .inl x_4_2)), (b0, .inl (cI, 516, .inl x_4_3))] H := hP
    have hD : va_D A [(h0, .inr (9, [.ref a0, .ref b0, .int x_4_0, .int x_4_1, .int ed, .long hh])), (a0, .inl (cI, 129, .inl x_4_2)), (b0, .inl (cI, 516, .inl x_4_3))] := hD
    refine lv_goto (tgt := 24) hx hb dX9_setFilter_16 (by decide) ?_
    exact my_iret hx hb hr rfl hlocks hK hP hD hS (x_4_0, x_4_1, x_4_2, x_4_3) (by show (r_4, (x_4_0, x_4_1, x_4_2, x_4_3)) = F_X9_setFilter np th ed hh w pf t; simp only [F_X9_setFilter, if_neg c_2, ← hw_1, ← hw_4]) [0, 1, 2] rfl rfl dX9_setFilter_24
def F_X9_setDeadTime (np : Int32) (th : Int32) (ed : Int32) (hh : Int64) (w : Nat → Int32) (pf : Nat → Int32) (t : Int32) : Int32 × Int32 × Int32 × (Nat → Int32) × (Nat → Int32) :=
  let q1 := F_X9_in t (0 : Int32) (20 : Int32)
  if q1 = (0 : Int32) then
    let q3 := F_X9_fails np th ed hh w pf (1 : Int32)
    (q3.1, (np, q3.2, w, pf))
  else
    let q4 := F_X9_becomes np th ed hh w pf 4 t
    (q4.1, (q4.2.1, q4.2.2.1, q4.2.2.2.1, q4.2.2.2.2))
set_option maxHeartbeats 4000000 in
set_option maxRecDepth 100000 in
theorem met_X9_setDeadTime (l : Launch) (D : va_G) (cI cJ cS : ClassId) (h0 : Nat) (a0 : Nat) (b0 : Nat) (np : Int32) (th : Int32) (ed : Int32) (hh : Int64) (w : Nat → Int32) (pf : Nat → Int32) (t : Int32) (hz : vp_in np 5) : ∀ sz : Nat, Met l yX9_setDeadTime wsX9_setDeadTime ({ frames := 2, cells := 0, slots := 0, locals := 44 } : Room) (va_Pc [.ref h0, .int t] (cPre D (tyz cI cJ cS) ([(h0, .inr (9, [.ref a0, .ref b0, .int np, .int th, .int ed, .long hh])), (a0, .inl (cI, 129, .inl w)), (b0, .inl (cI, 516, .inl pf))]) sz)) (va_Qi (fun (r : Int32) (u : Int32 × Int32 × (Nat → Int32) × (Nat → Int32)) => (r, u) = F_X9_setDeadTime np th ed hh w pf t) (fun u => cPost D (tyz cI cJ cS) (va_A ([(h0, .inr (9, [.ref a0, .ref b0, .int np, .int th, .int ed, .long hh])), (a0, .inl (cI, 129, .inl w)), (b0, .inl (cI, 516, .inl pf))]) sz) ([(h0, .inr (9, [.ref a0, .ref b0, .int u.1, .int u.2.1, .int ed, .long hh])), (a0, .inl (cI, 129, .inl u.2.2.1)), (b0, .inl (cI, 516, .inl u.2.2.2))])) (va_A ([(h0, .inr (9, [.ref a0, .ref b0, .int np, .int th, .int ed, .long hh])), (a0, .inl (cI, 129, .inl w)), (b0, .inl (cI, 516, .inl pf))]) sz)) 0 0 (va_A ([(h0, .inr (9, [.ref a0, .ref b0, .int np, .int th, .int ed, .long hh])), (a0, .inl (cI, 129, .inl w)), (b0, .inl (cI, 516, .inl pf))]) sz) := by
  refine my_met (QC := fun A => (va_Qi (fun (r : Int32) (u : Int32 × Int32 × (Nat → Int32) × (Nat → Int32)) => (r, u) = F_X9_setDeadTime np th ed hh w pf t) (fun u => cPost D (tyz cI cJ cS) A ([(h0, .inr (9, [.ref a0, .ref b0, .int u.1, .int u.2.1, .int ed, .long hh])), (a0, .inl (cI, 129, .inl u.2.2.1)), (b0, .inl (cI, 516, .inl u.2.2.2))])) A)) (cc := cX9_setDeadTime) (maxL := 2) (ret := (some .int)) (by decide) rfl (Nat.le_of_ble_eq_true rfl) ?_
  intro p e s m below meth c ls A hx hb hml hr hts hown hlocks hname hK hP hD hS hA hG hl
  have hown : s.vm.findClass RX9 = some m.cls := hown
  have hl : lv_has ls 2 [(0, .ref h0), (1, .int t)] := hl
  have hP : va_P D vwCl [(h0, .inr (9, [.ref a0, .ref b0, .int np, .int th, .int ed, .long hh])), (a0, .inl (cI, 129, .inl w)), (b0, .inl (cI, 516, .inl pf))] s.heap := hP
  have hD : va_D A [(h0, .inr (9, [.ref a0, .ref b0, .int np, .int th, .int ed, .long hh])), (a0, .inl (cI, 129, .inl w)), (b0, .inl (cI, 516, .inl pf))] := hD
  refine lv_iload_n hx hb dX9_setDeadTime_0 rfl (lv_at hl 1 rfl) ?_
  refine lv_iconst (v := 0) hx hb dX9_setDeadTime_1 (by decide) ?_
  refine lv_bipush (v := 20) hx hb dX9_setDeadTime_2 (by decide) ?_
  refine my_callS_i (As := [.int t, .int (0 : Int32), .int (20 : Int32)]) (rest := []) (wc := []) (wr := [(h0, .inr (9, [.ref a0, .ref b0, .int np, .int th, .int ed, .long hh])), (a0, .inl (cI, 129, .inl w)), (b0, .inl (cI, 516, .inl pf))]) ⟨hx, hb, hml, hown, hts⟩ (met_X9_in l D cI cJ cS t (0 : Int32) (20 : Int32) _) (va_cwS 3 hts gX9_setDeadTime_X9_in rfl rfl rfl (by decide +kernel) ⟨Nat.le_of_ble_eq_true rfl, Nat.le_of_ble_eq_true rfl⟩) hK hP hD hS hA hG [] [0, 1, 2] rfl rfl rfl rfl (by decide) rfl hl.1 (Nat.le_of_ble_eq_true rfl) rfl dX9_setDeadTime_4 ⟨Nat.le_of_ble_eq_true rfl, Nat.le_of_ble_eq_true rfl⟩ (fun r_1 _ H locs hw_1 hP hD hS => ?_)
  have hP : va_P D vwCl [(h0, .inr (9, [.ref a0, .ref b0, .int np, .int th, .int ed, .long hh])), (a0, .inl (cI, 129, .inl w)), (b0, .inl (cI, 516, .inl pf))] H := hP
  have hD : va_D A [(h0, .inr (9, [.ref a0, .ref b0, .int np, .int th, .int ed, .long hh])), (a0, .inl (cI, 129, .inl w)), (b0, .inl (cI, 516, .inl pf))] := hD
  refine lv_if_eq (tgt := 19) hx hb dX9_setDeadTime_7 (by decide) (fun c_2 => ?_) (fun c_2 => ?_)
  · skip
    refine lv_aload_n hx hb dX9_setDeadTime_19 rfl (lv_at hl 0 rfl) ?_
    refine lv_iconst (v := 1) hx hb dX9_setDeadTime_20 (by decide) ?_
    refine my_callV_i (As := [.int (1 : Int32)]) (rest := []) (wc := [(h0, .inr (9, [.ref a0, .ref b0, .int np, .int th, .int ed, .long hh])), (a0, .inl (cI, 129, .inl w)), (b0, .inl (cI, 516, .inl pf))]) (wr := []) ⟨hx, hb, hml, hown, hts⟩ (met_X9_fails l D cI cJ cS h0 a0 b0 np th ed hh w pf (1 : Int32) _) (cwV 1 hts gX9_setDeadTime_X9_fails rfl rfl rfl (by decide +kernel) ⟨Nat.le_of_ble_eq_true rfl, Nat.le_of_ble_eq_true rfl⟩) hK hP hD hS hA hG [0, 1, 2] [] rfl rfl rfl rfl (by decide) 0 rfl rfl rfl hl.1 (Nat.le_of_ble_eq_true rfl) rfl dX9_setDeadTime_21 ⟨Nat.le_of_ble_eq_true rfl, Nat.le_of_ble_eq_true rfl⟩ (fun r_3 x_3_0 H locs hw_3 hP hD hS => ?_)
    have hP : va_P D vwCl [(h0, .inr (9, [.ref a0, .ref b0, .int np, .int x_3_0, .int ed, .long hh])), (a0, .inl (cI, 129, .inl w)), (b0, .inl (cI, 516, .inl pf))] H := hP
    have hD : va_D A [(h0, .inr (9, [.ref a0, .ref b0, .int np, .int x_3_0, .int ed, .long hh])), (a0, .inl (cI, 129, .inl w)), (b0, .inl (cI, 516, .inl pf))] := hD
    exact my_iret hx hb hr rfl hlocks hK hP hD hS (np, x_3_0, w, pf) (by show (r_3, (np, x_3_0, w, pf)) = F_X9_setDeadTime np th ed hh w pf t; simp only [F_X9_setDeadTime, if_pos c_2, ← hw_1, ← hw_3]) [0, 1, 2] rfl rfl dX9_setDeadTime_24
  · skip
    refine lv_aload_n hx hb dX9_setDeadTime_10 rfl (lv_at hl 0 rfl) ?_
    refine lv_iconst (v := 4) hx hb dX9_setDeadTime_11 (by decide) ?_
    refine lv_iload_n hx hb dX9_setDeadTime_12 rfl (lv_at hl 1 rfl) ?_
    refine my_callV_i (As := [.int (nI 4), .int t]) (rest := []) (wc := [(h0, .inr (9, [.ref a0, .ref b0, .int np, .int th, .int ed, .long hh])), (a0, .inl (cI, 129, .inl w)), (b0, .inl (cI, 516, .inl pf))]) (wr := []) ⟨hx, hb, hml, hown, hts⟩ (met_X9_becomes l D cI cJ cS h0 a0 b0 np th ed hh w pf 4 t (hz) (by decide) _) (cwV 2 hts gX9_setDeadTime_X9_becomes rfl rfl rfl (by decide +kernel) ⟨Nat.le_of_ble_eq_true rfl, Nat.le_of_ble_eq_true rfl⟩) hK hP hD hS hA hG [0, 1, 2] [] rfl rfl rfl rfl (by decide) 0 rfl rfl rfl hl.1 (Nat.le_of_ble_eq_true rfl) rfl dX9_setDeadTime_13 ⟨Nat.le_of_ble_eq_true rfl, Nat.le_of_ble_eq_true rfl⟩ (fun r_4 u_4 H locs hw_4 hP hD hS => ?_)
    obtain ⟨x_4_0, x_4_1, x_4_2, x_4_3⟩ := u_4
    have hP : va_P D vwCl [(h0, .inr (9, [.ref a0, .ref b0, .int x_4_0, .int x_4_1, .int ed, .long hh])), (a0, .inl (cI, 129, .inl x_4_2)), (b0, .inl (cI, 516, .inl x_4_3))] H := hP
    have hD : va_D A [(h0, .inr (9, [.ref a0, .ref b0, .int x_4_0, .int x_4_1, .int ed, .long hh])), (a0, .inl (cI, 129, .inl x_4_2)), (b0, .inl (cI, 516, .inl x_4_3))] := hD
    refine lv_goto (tgt := 24) hx hb dX9_setDeadTime_16 (by decide) ?_
    exact my_iret hx hb hr rfl hlocks hK hP hD hS (x_4_0, x_4_1, x_4_2, x_4_3) (by show (r_4, (x_4_0, x_4_1, x_4_2, x_4_3)) = F_X9_setDeadTime np th ed hh w pf t; simp only [F_X9_setDeadTime, if_neg c_2, ← hw_1, ← hw_4]) [0, 1, 2] rfl rfl dX9_setDeadTime_24
def F_X9_setStall (np : Int32) (th : Int32) (ed : Int32) (hh : Int64) (w : Nat → Int32) (pf : Nat → Int32) (t : Int32) : Int32 × Int32 × Int32 × (Nat → Int32) × (Nat → Int32) :=
  let q1 := F_X9_in t (10 : Int32) (100000 : Int32)
  if q1 = (0 : Int32) then
    let q3 := F_X9_fails np th ed hh w pf (1 : Int32)
    (q3.1, (np, q3.2, w, pf))
  else
    let q4 := F_X9_becomes np th ed hh w pf 5 t
    (q4.1, (q4.2.1, q4.2.2.1, q4.2.2.2.1, q4.2.2.2.2))
set_option maxHeartbeats 4000000 in
set_option maxRecDepth 100000 in
theorem met_X9_setStall (l : Launch) (D : va_G) (cI cJ cS : ClassId) (h0 : Nat) (a0 : Nat) (b0 : Nat) (np : Int32) (th : Int32) (ed : Int32) (hh : Int64) (w : Nat → Int32) (pf : Nat → Int32) (t : Int32) (hz : vp_in np 5) : ∀ sz : Nat, Met l yX9_setStall wsX9_setStall ({ frames := 2, cells := 0, slots := 0, locals := 44 } : Room) (va_Pc [.ref h0, .int t] (cPre D (tyz cI cJ cS) ([(h0, .inr (9, [.ref a0, .ref b0, .int np, .int th, .int ed, .long hh])), (a0, .inl (cI, 129, .inl w)), (b0, .inl (cI, 516, .inl pf))]) sz)) (va_Qi (fun (r : Int32) (u : Int32 × Int32 × (Nat → Int32) × (Nat → Int32)) => (r, u) = F_X9_setStall np th ed hh w pf t) (fun u => cPost D (tyz cI cJ cS) (va_A ([(h0, .inr (9, [.ref a0, .ref b0, .int np, .int th, .int ed, .long hh])), (a0, .inl (cI, 129, .inl w)), (b0, .inl (cI, 516, .inl pf))]) sz) ([(h0, .inr (9, [.ref a0, .ref b0, .int u.1, .int u.2.1, .int ed, .long hh])), (a0, .inl (cI, 129, .inl u.2.2.1)), (b0, .inl (cI, 516, .inl u.2.2.2))])) (va_A ([(h0, .inr (9, [.ref a0, .ref b0, .int np, .int th, .int ed, .long hh])), (a0, .inl (cI, 129, .inl w)), (b0, .inl (cI, 516, .inl pf))]) sz)) 0 0 (va_A ([(h0, .inr (9, [.ref a0, .ref b0, .int np, .int th, .int ed, .long hh])), (a0, .inl (cI, 129, .inl w)), (b0, .inl (cI, 516, .inl pf))]) sz) := by
  refine my_met (QC := fun A => (va_Qi (fun (r : Int32) (u : Int32 × Int32 × (Nat → Int32) × (Nat → Int32)) => (r, u) = F_X9_setStall np th ed hh w pf t) (fun u => cPost D (tyz cI cJ cS) A ([(h0, .inr (9, [.ref a0, .ref b0, .int u.1, .int u.2.1, .int ed, .long hh])), (a0, .inl (cI, 129, .inl u.2.2.1)), (b0, .inl (cI, 516, .inl u.2.2.2))])) A)) (cc := cX9_setStall) (maxL := 2) (ret := (some .int)) (by decide) rfl (Nat.le_of_ble_eq_true rfl) ?_
  intro p e s m below meth c ls A hx hb hml hr hts hown hlocks hname hK hP hD hS hA hG hl
  have hown : s.vm.findClass RX9 = some m.cls := hown
  have hl : lv_has ls 2 [(0, .ref h0), (1, .int t)] := hl
  have hP : va_P D vwCl [(h0, .inr (9, [.ref a0, .ref b0, .int np, .int th, .int ed, .long hh])), (a0, .inl (cI, 129, .inl w)), (b0, .inl (cI, 516, .inl pf))] s.heap := hP
  have hD : va_D A [(h0, .inr (9, [.ref a0, .ref b0, .int np, .int th, .int ed, .long hh])), (a0, .inl (cI, 129, .inl w)), (b0, .inl (cI, 516, .inl pf))] := hD
  refine lv_iload_n hx hb dX9_setStall_0 rfl (lv_at hl 1 rfl) ?_
  refine lv_bipush (v := 10) hx hb dX9_setStall_1 (by decide) ?_
  refine lv_ldc (v := 100000) hx hb hown (hts (.constant RX9 38 (100000)) (by decide +kernel)) dX9_setStall_3 ?_
  refine my_callS_i (As := [.int t, .int (10 : Int32), .int (100000 : Int32)]) (rest := []) (wc := []) (wr := [(h0, .inr (9, [.ref a0, .ref b0, .int np, .int th, .int ed, .long hh])), (a0, .inl (cI, 129, .inl w)), (b0, .inl (cI, 516, .inl pf))]) ⟨hx, hb, hml, hown, hts⟩ (met_X9_in l D cI cJ cS t (10 : Int32) (100000 : Int32) _) (va_cwS 3 hts gX9_setStall_X9_in rfl rfl rfl (by decide +kernel) ⟨Nat.le_of_ble_eq_true rfl, Nat.le_of_ble_eq_true rfl⟩) hK hP hD hS hA hG [] [0, 1, 2] rfl rfl rfl rfl (by decide) rfl hl.1 (Nat.le_of_ble_eq_true rfl) rfl dX9_setStall_5 ⟨Nat.le_of_ble_eq_true rfl, Nat.le_of_ble_eq_true rfl⟩ (fun r_1 _ H locs hw_1 hP hD hS => ?_)
  have hP : va_P D vwCl [(h0, .inr (9, [.ref a0, .ref b0, .int np, .int th, .int ed, .long hh])), (a0, .inl (cI, 129, .inl w)), (b0, .inl (cI, 516, .inl pf))] H := hP
  have hD : va_D A [(h0, .inr (9, [.ref a0, .ref b0, .int np, .int th, .int ed, .long hh])), (a0, .inl (cI, 129, .inl w)), (b0, .inl (cI, 516, .inl pf))] := hD
  refine lv_if_eq (tgt := 20) hx hb dX9_setStall_8 (by decide) (fun c_2 => ?_) (fun c_2 => ?_)
  · skip
    refine lv_aload_n hx hb dX9_setStall_20 rfl (lv_at hl 0 rfl) ?_
    refine lv_iconst (v := 1) hx hb dX9_setStall_21 (by decide) ?_
    refine my_callV_i (As := [.int (1 : Int32)]) (rest := []) (wc := [(h0, .inr (9, [.ref a0, .ref b0, .int np, .int th, .int ed, .long hh])), (a0, .inl (cI, 129, .inl w)), (b0, .inl (cI, 516, .inl pf))]) (wr := []) ⟨hx, hb, hml, hown, hts⟩ (met_X9_fails l D cI cJ cS h0 a0 b0 np th ed hh w pf (1 : Int32) _) (cwV 1 hts gX9_setStall_X9_fails rfl rfl rfl (by decide +kernel) ⟨Nat.le_of_ble_eq_true rfl, Nat.le_of_ble_eq_true rfl⟩) hK hP hD hS hA hG [0, 1, 2] [] rfl rfl rfl rfl (by decide) 0 rfl rfl rfl hl.1 (Nat.le_of_ble_eq_true rfl) rfl dX9_setStall_22 ⟨Nat.le_of_ble_eq_true rfl, Nat.le_of_ble_eq_true rfl⟩ (fun r_3 x_3_0 H locs hw_3 hP hD hS => ?_)
    have hP : va_P D vwCl [(h0, .inr (9, [.ref a0, .ref b0, .int np, .int x_3_0, .int ed, .long hh])), (a0, .inl (cI, 129, .inl w)), (b0, .inl (cI, 516, .inl pf))] H := hP
    have hD : va_D A [(h0, .inr (9, [.ref a0, .ref b0, .int np, .int x_3_0, .int ed, .long hh])), (a0, .inl (cI, 129, .inl w)), (b0, .inl (cI, 516, .inl pf))] := hD
    exact my_iret hx hb hr rfl hlocks hK hP hD hS (np, x_3_0, w, pf) (by show (r_3, (np, x_3_0, w, pf)) = F_X9_setStall np th ed hh w pf t; simp only [F_X9_setStall, if_pos c_2, ← hw_1, ← hw_3]) [0, 1, 2] rfl rfl dX9_setStall_25
  · skip
    refine lv_aload_n hx hb dX9_setStall_11 rfl (lv_at hl 0 rfl) ?_
    refine lv_iconst (v := 5) hx hb dX9_setStall_12 (by decide) ?_
    refine lv_iload_n hx hb dX9_setStall_13 rfl (lv_at hl 1 rfl) ?_
    refine my_callV_i (As := [.int (nI 5), .int t]) (rest := []) (wc := [(h0, .inr (9, [.ref a0, .ref b0, .int np, .int th, .int ed, .long hh])), (a0, .inl (cI, 129, .inl w)), (b0, .inl (cI, 516, .inl pf))]) (wr := []) ⟨hx, hb, hml, hown, hts⟩ (met_X9_becomes l D cI cJ cS h0 a0 b0 np th ed hh w pf 5 t (hz) (by decide) _) (cwV 2 hts gX9_setStall_X9_becomes rfl rfl rfl (by decide +kernel) ⟨Nat.le_of_ble_eq_true rfl, Nat.le_of_ble_eq_true rfl⟩) hK hP hD hS hA hG [0, 1, 2] [] rfl rfl rfl rfl (by decide) 0 rfl rfl rfl hl.1 (Nat.le_of_ble_eq_true rfl) rfl dX9_setStall_14 ⟨Nat.le_of_ble_eq_true rfl, Nat.le_of_ble_eq_true rfl⟩ (fun r_4 u_4 H locs hw_4 hP hD hS => ?_)
    obtain ⟨x_4_0, x_4_1, x_4_2, x_4_3⟩ := u_4
    have hP : va_P D vwCl [(h0, .inr (9, [.ref a0, .ref b0, .int x_4_0, .int x_4_1, .int ed, .long hh])), (a0, .inl (cI, 129, .inl x_4_2)), (b0, .inl (cI, 516, .inl x_4_3))] H := hP
    have hD : va_D A [(h0, .inr (9, [.ref a0, .ref b0, .int x_4_0, .int x_4_1, .int ed, .long hh])), (a0, .inl (cI, 129, .inl x_4_2)), (b0, .inl (cI, 516, .inl x_4_3))] := hD
    refine lv_goto (tgt := 25) hx hb dX9_setStall_17 (by decide) ?_
    exact my_iret hx hb hr rfl hlocks hK hP hD hS (x_4_0, x_4_1, x_4_2, x_4_3) (by show (r_4, (x_4_0, x_4_1, x_4_2, x_4_3)) = F_X9_setStall np th ed hh w pf t; simp only [F_X9_setStall, if_neg c_2, ← hw_1, ← hw_4]) [0, 1, 2] rfl rfl dX9_setStall_25
def F_X9_setPulse (np : Int32) (th : Int32) (ed : Int32) (hh : Int64) (w : Nat → Int32) (pf : Nat → Int32) (t : Int32) (b : Int32) : Int32 × Int32 × Int32 × (Nat → Int32) × (Nat → Int32) :=
  let q1 := F_X9_in t (4 : Int32) (100 : Int32)
  if q1 = (0 : Int32) then
    let q3 := F_X9_fails np th ed hh w pf (1 : Int32)
    (q3.1, (np, q3.2, w, pf))
  else
    let q4 := F_X9_in b (0 : Int32) (100 : Int32)
    if q4 = (0 : Int32) then
      let q7 := F_X9_fails np th ed hh w pf (1 : Int32)
      (q7.1, (np, q7.2, w, pf))
    else
      let q6 := F_X9_becomes np th ed hh w pf 3 b
      (q6.1, (q6.2.1, q6.2.2.1, upd q6.2.2.2.1 2 t, q6.2.2.2.2))
set_option maxHeartbeats 4000000 in
set_option maxRecDepth 100000 in
theorem met_X9_setPulse (l : Launch) (D : va_G) (cI cJ cS : ClassId) (h0 : Nat) (a0 : Nat) (b0 : Nat) (np : Int32) (th : Int32) (ed : Int32) (hh : Int64) (w : Nat → Int32) (pf : Nat → Int32) (t : Int32) (b : Int32) (hz : vp_in np 5) : ∀ sz : Nat, Met l yX9_setPulse wsX9_setPulse ({ frames := 2, cells := 0, slots := 0, locals := 44 } : Room) (va_Pc [.ref h0, .int t, .int b] (cPre D (tyz cI cJ cS) ([(h0, .inr (9, [.ref a0, .ref b0, .int np, .int th, .int ed, .long hh])), (a0, .inl (cI, 129, .inl w)), (b0, .inl (cI, 516, .inl pf))]) sz)) (va_Qi (fun (r : Int32) (u : Int32 × Int32 × (Nat → Int32) × (Nat → Int32)) => (r, u) = F_X9_setPulse np th ed hh w pf t b) (fun u => cPost D (tyz cI cJ cS) (va_A ([(h0, .inr (9, [.ref a0, .ref b0, .int np, .int th, .int ed, .long hh])), (a0, .inl (cI, 129, .inl w)), (b0, .inl (cI, 516, .inl pf))]) sz) ([(h0, .inr (9, [.ref a0, .ref b0, .int u.1, .int u.2.1, .int ed, .long hh])), (a0, .inl (cI, 129, .inl u.2.2.1)), (b0, .inl (cI, 516, .inl u.2.2.2))])) (va_A ([(h0, .inr (9, [.ref a0, .ref b0, .int np, .int th, .int ed, .long hh])), (a0, .inl (cI, 129, .inl w)), (b0, .inl (cI, 516, .inl pf))]) sz)) 0 0 (va_A ([(h0, .inr (9, [.ref a0, .ref b0, .int np, .int th, .int ed, .long hh])), (a0, .inl (cI, 129, .inl w)), (b0, .inl (cI, 516, .inl pf))]) sz) := by
  refine my_met (QC := fun A => (va_Qi (fun (r : Int32) (u : Int32 × Int32 × (Nat → Int32) × (Nat → Int32)) => (r, u) = F_X9_setPulse np th ed hh w pf t b) (fun u => cPost D (tyz cI cJ cS) A ([(h0, .inr (9, [.ref a0, .ref b0, .int u.1, .int u.2.1, .int ed, .long hh])), (a0, .inl (cI, 129, .inl u.2.2.1)), (b0, .inl (cI, 516, .inl u.2.2.2))])) A)) (cc := cX9_setPulse) (maxL := 4) (ret := (some .int)) (by decide) rfl (Nat.le_of_ble_eq_true rfl) ?_
  intro p e s m below meth c ls A hx hb hml hr hts hown hlocks hname hK hP hD hS hA hG hl
  have hown : s.vm.findClass RX9 = some m.cls := hown
  have hl : lv_has ls 4 [(0, .ref h0), (1, .int t), (2, .int b)] := hl
  have hP : va_P D vwCl [(h0, .inr (9, [.ref a0, .ref b0, .int np, .int th, .int ed, .long hh])), (a0, .inl (cI, 129, .inl w)), (b0, .inl (cI, 516, .inl pf))] s.heap := hP
  have hD : va_D A [(h0, .inr (9, [.ref a0, .ref b0, .int np, .int th, .int ed, .long hh])), (a0, .inl (cI, 129, .inl w)), (b0, .inl (cI, 516, .inl pf))] := hD
  have hiX9 : ∀ w ∈ u_ws RX9 TX9 6, w ∈ wsX9_setPulse := by decide +kernel
  have hk_7 := hts (.fieldLink RX9 7 "HallCommutatorModel" "s" "[I") (by decide +kernel)
  refine lv_iload_n hx hb dX9_setPulse_0 rfl (lv_at hl 1 rfl) ?_
  refine lv_iconst (v := 4) hx hb dX9_setPulse_1 (by decide) ?_
  refine lv_bipush (v := 100) hx hb dX9_setPulse_2 (by decide) ?_
  refine my_callS_i (As := [.int t, .int (4 : Int32), .int (100 : Int32)]) (rest := []) (wc := []) (wr := [(h0, .inr (9, [.ref a0, .ref b0, .int np, .int th, .int ed, .long hh])), (a0, .inl (cI, 129, .inl w)), (b0, .inl (cI, 516, .inl pf))]) ⟨hx, hb, hml, hown, hts⟩ (met_X9_in l D cI cJ cS t (4 : Int32) (100 : Int32) _) (va_cwS 3 hts gX9_setPulse_X9_in rfl rfl rfl (by decide +kernel) ⟨Nat.le_of_ble_eq_true rfl, Nat.le_of_ble_eq_true rfl⟩) hK hP hD hS hA hG [] [0, 1, 2] rfl rfl rfl rfl (by decide) rfl hl.1 (Nat.le_of_ble_eq_true rfl) rfl dX9_setPulse_4 ⟨Nat.le_of_ble_eq_true rfl, Nat.le_of_ble_eq_true rfl⟩ (fun r_1 _ H locs hw_1 hP hD hS => ?_)
  have hP : va_P D vwCl [(h0, .inr (9, [.ref a0, .ref b0, .int np, .int th, .int ed, .long hh])), (a0, .inl (cI, 129, .inl w)), (b0, .inl (cI, 516, .inl pf))] H := hP
  have hD : va_D A [(h0, .inr (9, [.ref a0, .ref b0, .int np, .int th, .int ed, .long hh])), (a0, .inl (cI, 129, .inl w)), (b0, .inl (cI, 516, .inl pf))] := hD
  refine lv_if_eq (tgt := 20) hx hb dX9_setPulse_7 (by decide) (fun c_2 => ?_) (fun c_2 => ?_)
  · skip
    refine lv_aload_n hx hb dX9_setPulse_20 rfl (lv_at hl 0 rfl) ?_
    refine lv_iconst (v := 1) hx hb dX9_setPulse_21 (by decide) ?_
    refine my_callV_i (As := [.int (1 : Int32)]) (rest := []) (wc := [(h0, .inr (9, [.ref a0, .ref b0, .int np, .int th, .int ed, .long hh])), (a0, .inl (cI, 129, .inl w)), (b0, .inl (cI, 516, .inl pf))]) (wr := []) ⟨hx, hb, hml, hown, hts⟩ (met_X9_fails l D cI cJ cS h0 a0 b0 np th ed hh w pf (1 : Int32) _) (cwV 1 hts gX9_setPulse_X9_fails rfl rfl rfl (by decide +kernel) ⟨Nat.le_of_ble_eq_true rfl, Nat.le_of_ble_eq_true rfl⟩) hK hP hD hS hA hG [0, 1, 2] [] rfl rfl rfl rfl (by decide) 0 rfl rfl rfl hl.1 (Nat.le_of_ble_eq_true rfl) rfl dX9_setPulse_22 ⟨Nat.le_of_ble_eq_true rfl, Nat.le_of_ble_eq_true rfl⟩ (fun r_3 x_3_0 H locs hw_3 hP hD hS => ?_)
    have hP : va_P D vwCl [(h0, .inr (9, [.ref a0, .ref b0, .int np, .int x_3_0, .int ed, .long hh])), (a0, .inl (cI, 129, .inl w)), (b0, .inl (cI, 516, .inl pf))] H := hP
    have hD : va_D A [(h0, .inr (9, [.ref a0, .ref b0, .int np, .int x_3_0, .int ed, .long hh])), (a0, .inl (cI, 129, .inl w)), (b0, .inl (cI, 516, .inl pf))] := hD
    exact my_iret hx hb hr rfl hlocks hK hP hD hS (np, x_3_0, w, pf) (by show (r_3, (np, x_3_0, w, pf)) = F_X9_setPulse np th ed hh w pf t b; simp only [F_X9_setPulse, if_pos c_2, ← hw_1, ← hw_3]) [0, 1, 2] rfl rfl dX9_setPulse_25
  · skip
    refine lv_iload_n hx hb dX9_setPulse_10 rfl (lv_at hl 2 rfl) ?_
    refine lv_iconst (v := 0) hx hb dX9_setPulse_11 (by decide) ?_
    refine lv_bipush (v := 100) hx hb dX9_setPulse_12 (by decide) ?_
    refine my_callS_i (As := [.int b, .int (0 : Int32), .int (100 : Int32)]) (rest := []) (wc := []) (wr := [(h0, .inr (9, [.ref a0, .ref b0, .int np, .int th, .int ed, .long hh])), (a0, .inl (cI, 129, .inl w)), (b0, .inl (cI, 516, .inl pf))]) ⟨hx, hb, hml, hown, hts⟩ (met_X9_in l D cI cJ cS b (0 : Int32) (100 : Int32) _) (va_cwS 3 hts gX9_setPulse_X9_in rfl rfl rfl (by decide +kernel) ⟨Nat.le_of_ble_eq_true rfl, Nat.le_of_ble_eq_true rfl⟩) hK hP hD hS hA hG [] [0, 1, 2] rfl rfl rfl rfl (by decide) rfl hl.1 (Nat.le_of_ble_eq_true rfl) rfl dX9_setPulse_14 ⟨Nat.le_of_ble_eq_true rfl, Nat.le_of_ble_eq_true rfl⟩ (fun r_4 _ H locs hw_4 hP hD hS => ?_)
    have hP : va_P D vwCl [(h0, .inr (9, [.ref a0, .ref b0, .int np, .int th, .int ed, .long hh])), (a0, .inl (cI, 129, .inl w)), (b0, .inl (cI, 516, .inl pf))] H := hP
    have hD : va_D A [(h0, .inr (9, [.ref a0, .ref b0, .int np, .int th, .int ed, .long hh])), (a0, .inl (cI, 129, .inl w)), (b0, .inl (cI, 516, .inl pf))] := hD
    refine lv_if_ne (tgt := 26) hx hb dX9_setPulse_17 (by decide) (fun c_5 => ?_) (fun c_5 => ?_)
    · skip
      refine lv_aload_n hx hb dX9_setPulse_26 rfl (lv_at hl 0 rfl) ?_
      refine lv_iconst (v := 3) hx hb dX9_setPulse_27 (by decide) ?_
      refine lv_iload_n hx hb dX9_setPulse_28 rfl (lv_at hl 2 rfl) ?_
      refine my_callV_i (As := [.int (nI 3), .int b]) (rest := []) (wc := [(h0, .inr (9, [.ref a0, .ref b0, .int np, .int th, .int ed, .long hh])), (a0, .inl (cI, 129, .inl w)), (b0, .inl (cI, 516, .inl pf))]) (wr := []) ⟨hx, hb, hml, hown, hts⟩ (met_X9_becomes l D cI cJ cS h0 a0 b0 np th ed hh w pf 3 b (hz) (by decide) _) (cwV 2 hts gX9_setPulse_X9_becomes rfl rfl rfl (by decide +kernel) ⟨Nat.le_of_ble_eq_true rfl, Nat.le_of_ble_eq_true rfl⟩) hK hP hD hS hA hG [0, 1, 2] [] rfl rfl rfl rfl (by decide) 0 rfl rfl rfl hl.1 (Nat.le_of_ble_eq_true rfl) rfl dX9_setPulse_29 ⟨Nat.le_of_ble_eq_true rfl, Nat.le_of_ble_eq_true rfl⟩ (fun r_6 u_6 H locs hw_6 hP hD hS => ?_)
      obtain ⟨x_6_0, x_6_1, x_6_2, x_6_3⟩ := u_6
      have hP : va_P D vwCl [(h0, .inr (9, [.ref a0, .ref b0, .int x_6_0, .int x_6_1, .int ed, .long hh])), (a0, .inl (cI, 129, .inl x_6_2)), (b0, .inl (cI, 516, .inl x_6_3))] H := hP
      have hD : va_D A [(h0, .inr (9, [.ref a0, .ref b0, .int x_6_0, .int x_6_1, .int ed, .long hh])), (a0, .inl (cI, 129, .inl x_6_2)), (b0, .inl (cI, 516, .inl x_6_3))] := hD
      refine lv_istore_n (lv' := [(3, .int r_6), (0, .ref h0), (1, .int t), (2, .int b)]) hx hb dX9_setPulse_32 rfl hl (by decide) rfl (fun ls hl => ?_)
      refine lv_aload_n hx hb dX9_setPulse_33 rfl (lv_at hl 1 rfl) ?_
      refine va_get (D := D) (ci := 9) (v := .ref a0) (C := RX9) (T := TX9) (N := 6) hx hb hts hiX9 hown hK hP 0 rfl rfl 0 (by decide) hk_7 (fun _ h9 => h9) rfl dX9_setPulse_34 ?_
      refine lv_iconst (v := 2) hx hb dX9_setPulse_37 (by decide) ?_
      refine lv_iload_n hx hb dX9_setPulse_38 rfl (lv_at hl 2 rfl) ?_
      refine my_iast hx hb hK hP hD hS 1 0 rfl rfl 2 (rfl) (by decide) (by decide) dX9_setPulse_39 (fun H locs hP hD hS => ?_)
      have hP : va_P D vwCl [(h0, .inr (9, [.ref a0, .ref b0, .int x_6_0, .int x_6_1, .int ed, .long hh])), (a0, .inl (cI, 129, .inl (upd x_6_2 2 t))), (b0, .inl (cI, 516, .inl x_6_3))] H := hP
      have hD : va_D A [(h0, .inr (9, [.ref a0, .ref b0, .int x_6_0, .int x_6_1, .int ed, .long hh])), (a0, .inl (cI, 129, .inl (upd x_6_2 2 t))), (b0, .inl (cI, 516, .inl x_6_3))] := hD
      refine lv_iload_n hx hb dX9_setPulse_40 rfl (lv_at hl 0 rfl) ?_
      exact my_iret hx hb hr rfl hlocks hK hP hD hS (x_6_0, x_6_1, upd x_6_2 2 t, x_6_3) (by show (r_6, (x_6_0, x_6_1, upd x_6_2 2 t, x_6_3)) = F_X9_setPulse np th ed hh w pf t b; simp only [F_X9_setPulse, if_neg c_2, if_neg c_5, ← hw_1, ← hw_4, ← hw_6]) [0, 1, 2] rfl rfl dX9_setPulse_41
    · skip
      refine lv_aload_n hx hb dX9_setPulse_20 rfl (lv_at hl 0 rfl) ?_
      refine lv_iconst (v := 1) hx hb dX9_setPulse_21 (by decide) ?_
      refine my_callV_i (As := [.int (1 : Int32)]) (rest := []) (wc := [(h0, .inr (9, [.ref a0, .ref b0, .int np, .int th, .int ed, .long hh])), (a0, .inl (cI, 129, .inl w)), (b0, .inl (cI, 516, .inl pf))]) (wr := []) ⟨hx, hb, hml, hown, hts⟩ (met_X9_fails l D cI cJ cS h0 a0 b0 np th ed hh w pf (1 : Int32) _) (cwV 1 hts gX9_setPulse_X9_fails rfl rfl rfl (by decide +kernel) ⟨Nat.le_of_ble_eq_true rfl, Nat.le_of_ble_eq_true rfl⟩) hK hP hD hS hA hG [0, 1, 2] [] rfl rfl rfl rfl (by decide) 0 rfl rfl rfl hl.1 (Nat.le_of_ble_eq_true rfl) rfl dX9_setPulse_22 ⟨Nat.le_of_ble_eq_true rfl, Nat.le_of_ble_eq_true rfl⟩ (fun r_7 x_7_0 H locs hw_7 hP hD hS => ?_)
      have hP : va_P D vwCl [(h0, .inr (9, [.ref a0, .ref b0, .int np, .int x_7_0, .int ed, .long hh])), (a0, .inl (cI, 129, .inl w)), (b0, .inl (cI, 516, .inl pf))] H := hP
      have hD : va_D A [(h0, .inr (9, [.ref a0, .ref b0, .int np, .int x_7_0, .int ed, .long hh])), (a0, .inl (cI, 129, .inl w)), (b0, .inl (cI, 516, .inl pf))] := hD
      exact my_iret hx hb hr rfl hlocks hK hP hD hS (np, x_7_0, w, pf) (by show (r_7, (np, x_7_0, w, pf)) = F_X9_setPulse np th ed hh w pf t b; simp only [F_X9_setPulse, if_neg c_2, if_pos c_5, ← hw_1, ← hw_4, ← hw_7]) [0, 1, 2] rfl rfl dX9_setPulse_25
def F_X9_setMode (np : Int32) (th : Int32) (ed : Int32) (hh : Int64) (w : Nat → Int32) (pf : Nat → Int32) (t : Int32) : Int32 × Int32 × Int32 × (Nat → Int32) × (Nat → Int32) :=
  let q1 := F_X9_in t (0 : Int32) (4 : Int32)
  if q1 = (0 : Int32) then
    let q7 := F_X9_fails np th ed hh w pf (1 : Int32)
    (q7.1, (np, q7.2, w, pf))
  else
    if w 45 = (0 : Int32) then
      let q4 := F_X9_becomes np th ed hh w pf 6 t
      if q4.1 = t then
        (q4.1, (q4.2.1, q4.2.2.1, q4.2.2.2.1, q4.2.2.2.2))
      else
        (q4.1, (q4.2.1, q4.2.2.1, upd (upd (upd q4.2.2.2.1 42 (0 : Int32)) 43 (0 : Int32)) 44 (0 : Int32), q4.2.2.2.2))
    else
      let q6 := F_X9_fails np th ed hh w pf (2 : Int32)
      (q6.1, (np, q6.2, w, pf))
set_option maxHeartbeats 4000000 in
set_option maxRecDepth 100000 in
theorem met_X9_setMode (l : Launch) (D : va_G) (cI cJ cS : ClassId) (h0 : Nat) (a0 : Nat) (b0 : Nat) (np : Int32) (th : Int32) (ed : Int32) (hh : Int64) (w : Nat → Int32) (pf : Nat → Int32) (t : Int32) (hz : vp_in np 5) : ∀ sz : Nat, Met l yX9_setMode wsX9_setMode ({ frames := 2, cells := 0, slots := 0, locals := 44 } : Room) (va_Pc [.ref h0, .int t] (cPre D (tyz cI cJ cS) ([(h0, .inr (9, [.ref a0, .ref b0, .int np, .int th, .int ed, .long hh])), (a0, .inl (cI, 129, .inl w)), (b0, .inl (cI, 516, .inl pf))]) sz)) (va_Qi (fun (r : Int32) (u : Int32 × Int32 × (Nat → Int32) × (Nat → Int32)) => (r, u) = F_X9_setMode np th ed hh w pf t) (fun u => cPost D (tyz cI cJ cS) (va_A ([(h0, .inr (9, [.ref a0, .ref b0, .int np, .int th, .int ed, .long hh])), (a0, .inl (cI, 129, .inl w)), (b0, .inl (cI, 516, .inl pf))]) sz) ([(h0, .inr (9, [.ref a0, .ref b0, .int u.1, .int u.2.1, .int ed, .long hh])), (a0, .inl (cI, 129, .inl u.2.2.1)), (b0, .inl (cI, 516, .inl u.2.2.2))])) (va_A ([(h0, .inr (9, [.ref a0, .ref b0, .int np, .int th, .int ed, .long hh])), (a0, .inl (cI, 129, .inl w)), (b0, .inl (cI, 516, .inl pf))]) sz)) 0 0 (va_A ([(h0, .inr (9, [.ref a0, .ref b0, .int np, .int th, .int ed, .long hh])), (a0, .inl (cI, 129, .inl w)), (b0, .inl (cI, 516, .inl pf))]) sz) := by
  refine my_met (QC := fun A => (va_Qi (fun (r : Int32) (u : Int32 × Int32 × (Nat → Int32) × (Nat → Int32)) => (r, u) = F_X9_setMode np th ed hh w pf t) (fun u => cPost D (tyz cI cJ cS) A ([(h0, .inr (9, [.ref a0, .ref b0, .int u.1, .int u.2.1, .int ed, .long hh])), (a0, .inl (cI, 129, .inl u.2.2.1)), (b0, .inl (cI, 516, .inl u.2.2.2))])) A)) (cc := cX9_setMode) (maxL := 3) (ret := (some .int)) (by decide) rfl (Nat.le_of_ble_eq_true rfl) ?_
  intro p e s m below meth c ls A hx hb hml hr hts hown hlocks hname hK hP hD hS hA hG hl
  have hown : s.vm.findClass RX9 = some m.cls := hown
  have hl : lv_has ls 3 [(0, .ref h0), (1, .int t)] := hl
  have hP : va_P D vwCl [(h0, .inr (9, [.ref a0, .ref b0, .int np, .int th, .int ed, .long hh])), (a0, .inl (cI, 129, .inl w)), (b0, .inl (cI, 516, .inl pf))] s.heap := hP
  have hD : va_D A [(h0, .inr (9, [.ref a0, .ref b0, .int np, .int th, .int ed, .long hh])), (a0, .inl (cI, 129, .inl w)), (b0, .inl (cI, 516, .inl pf))] := hD
  have hiX9 : ∀ w ∈ u_ws RX9 TX9 6, w ∈ wsX9_setMode := by decide +kernel
  have hk_7 := hts (.fieldLink RX9 7 "HallCommutatorModel" "s" "[I") (by decide +kernel)
  refine lv_iload_n hx hb dX9_setMode_0 rfl (lv_at hl 1 rfl) ?_
  refine lv_iconst (v := 0) hx hb dX9_setMode_1 (by decide) ?_
  refine lv_iconst (v := 4) hx hb dX9_setMode_2 (by decide) ?_
  refine my_callS_i (As := [.int t, .int (0 : Int32), .int (4 : Int32)]) (rest := []) (wc := []) (wr := [(h0, .inr (9, [.ref a0, .ref b0, .int np, .int th, .int ed, .long hh])), (a0, .inl (cI, 129, .inl w)), (b0, .inl (cI, 516, .inl pf))]) ⟨hx, hb, hml, hown, hts⟩ (met_X9_in l D cI cJ cS t (0 : Int32) (4 : Int32) _) (va_cwS 3 hts gX9_setMode_X9_in rfl rfl rfl (by decide +kernel) ⟨Nat.le_of_ble_eq_true rfl, Nat.le_of_ble_eq_true rfl⟩) hK hP hD hS hA hG [] [0, 1, 2] rfl rfl rfl rfl (by decide) rfl hl.1 (Nat.le_of_ble_eq_true rfl) rfl dX9_setMode_3 ⟨Nat.le_of_ble_eq_true rfl, Nat.le_of_ble_eq_true rfl⟩ (fun r_1 _ H locs hw_1 hP hD hS => ?_)
  have hP : va_P D vwCl [(h0, .inr (9, [.ref a0, .ref b0, .int np, .int th, .int ed, .long hh])), (a0, .inl (cI, 129, .inl w)), (b0, .inl (cI, 516, .inl pf))] H := hP
  have hD : va_D A [(h0, .inr (9, [.ref a0, .ref b0, .int np, .int th, .int ed, .long hh])), (a0, .inl (cI, 129, .inl w)), (b0, .inl (cI, 516, .inl pf))] := hD
  refine lv_if_ne (tgt := 15) hx hb dX9_setMode_6 (by decide) (fun c_2 => ?_) (fun c_2 => ?_)
  · skip
    refine lv_aload_n hx hb dX9_setMode_15 rfl (lv_at hl 0 rfl) ?_
    refine va_get (D := D) (ci := 9) (v := .ref a0) (C := RX9) (T := TX9) (N := 6) hx hb hts hiX9 hown hK hP 0 rfl rfl 0 (by decide) hk_7 (fun _ h9 => h9) rfl dX9_setMode_16 ?_
    refine lv_bipush (v := 45) hx hb dX9_setMode_19 (by decide) ?_
    refine my_iald hx hb hK hP 1 0 rfl rfl 45 (rfl) (by decide) (by decide) dX9_setMode_21 ?_
    refine lv_if_eq (tgt := 31) hx hb dX9_setMode_22 (by decide) (fun c_3 => ?_) (fun c_3 => ?_)
    · skip
      refine lv_aload_n hx hb dX9_setMode_31 rfl (lv_at hl 0 rfl) ?_
      refine lv_bipush (v := 6) hx hb dX9_setMode_32 (by decide) ?_
      refine lv_iload_n hx hb dX9_setMode_34 rfl (lv_at hl 1 rfl) ?_
      refine my_callV_i (As := [.int (nI 6), .int t]) (rest := []) (wc := [(h0, .inr (9, [.ref a0, .ref b0, .int np, .int th, .int ed, .long hh])), (a0, .inl (cI, 129, .inl w)), (b0, .inl (cI, 516, .inl pf))]) (wr := []) ⟨hx, hb, hml, hown, hts⟩ (met_X9_becomes l D cI cJ cS h0 a0 b0 np th ed hh w pf 6 t (hz) (by decide) _) (cwV 2 hts gX9_setMode_X9_becomes rfl rfl rfl (by decide +kernel) ⟨Nat.le_of_ble_eq_true rfl, Nat.le_of_ble_eq_true rfl⟩) hK hP hD hS hA hG [0, 1, 2] [] rfl rfl rfl rfl (by decide) 0 rfl rfl rfl hl.1 (Nat.le_of_ble_eq_true rfl) rfl dX9_setMode_35 ⟨Nat.le_of_ble_eq_true rfl, Nat.le_of_ble_eq_true rfl⟩ (fun r_4 u_4 H locs hw_4 hP hD hS => ?_)
      obtain ⟨x_4_0, x_4_1, x_4_2, x_4_3⟩ := u_4
      have hP : va_P D vwCl [(h0, .inr (9, [.ref a0, .ref b0, .int x_4_0, .int x_4_1, .int ed, .long hh])), (a0, .inl (cI, 129, .inl x_4_2)), (b0, .inl (cI, 516, .inl x_4_3))] H := hP
      have hD : va_D A [(h0, .inr (9, [.ref a0, .ref b0, .int x_4_0, .int x_4_1, .int ed, .long hh])), (a0, .inl (cI, 129, .inl x_4_2)), (b0, .inl (cI, 516, .inl x_4_3))] := hD
      refine lv_istore_n (lv' := [(2, .int r_4), (0, .ref h0), (1, .int t)]) hx hb dX9_setMode_38 rfl hl (by decide) rfl (fun ls hl => ?_)
      refine lv_iload_n hx hb dX9_setMode_39 rfl (lv_at hl 0 rfl) ?_
      refine lv_iload_n hx hb dX9_setMode_40 rfl (lv_at hl 2 rfl) ?_
      refine lv_icmp_eq (tgt := 68) hx hb dX9_setMode_41 (by decide) (fun c_5 => ?_) (fun c_5 => ?_)
      · skip
        refine lv_iload_n hx hb dX9_setMode_68 rfl (lv_at hl 0 rfl) ?_
        exact my_iret hx hb hr rfl hlocks hK hP hD hS (x_4_0, x_4_1, x_4_2, x_4_3) (by show (r_4, (x_4_0, x_4_1, x_4_2, x_4_3)) = F_X9_setMode np th ed hh w pf t; simp only [F_X9_setMode, if_neg c_2, if_pos c_3, if_pos c_5, ← hw_1, ← hw_4]) [0, 1, 2] rfl rfl dX9_setMode_69
      · skip
        refine lv_aload_n hx hb dX9_setMode_44 rfl (lv_at hl 1 rfl) ?_
        refine va_get (D := D) (ci := 9) (v := .ref a0) (C := RX9) (T := TX9) (N := 6) hx hb hts hiX9 hown hK hP 0 rfl rfl 0 (by decide) hk_7 (fun _ h9 => h9) rfl dX9_setMode_45 ?_
        refine lv_bipush (v := 42) hx hb dX9_setMode_48 (by decide) ?_
        refine lv_iconst (v := 0) hx hb dX9_setMode_50 (by decide) ?_
        refine my_iast hx hb hK hP hD hS 1 0 rfl rfl 42 (rfl) (by decide) (by decide) dX9_setMode_51 (fun H locs hP hD hS => ?_)
        have hP : va_P D vwCl [(h0, .inr (9, [.ref a0, .ref b0, .int x_4_0, .int x_4_1, .int ed, .long hh])), (a0, .inl (cI, 129, .inl (upd x_4_2 42 (0 : Int32)))), (b0, .inl (cI, 516, .inl x_4_3))] H := hP
        have hD : va_D A [(h0, .inr (9, [.ref a0, .ref b0, .int x_4_0, .int x_4_1, .int ed, .long hh])), (a0, .inl (cI, 129, .inl (upd x_4_2 42 (0 : Int32)))), (b0, .inl (cI, 516, .inl x_4_3))] := hD
        refine lv_aload_n hx hb dX9_setMode_52 rfl (lv_at hl 1 rfl) ?_
        refine va_get (D := D) (ci := 9) (v := .ref a0) (C := RX9) (T := TX9) (N := 6) hx hb hts hiX9 hown hK hP 0 rfl rfl 0 (by decide) hk_7 (fun _ h9 => h9) rfl dX9_setMode_53 ?_
        refine lv_bipush (v := 43) hx hb dX9_setMode_56 (by decide) ?_
        refine lv_iconst (v := 0) hx hb dX9_setMode_58 (by decide) ?_
        refine my_iast hx hb hK hP hD hS 1 0 rfl rfl 43 (rfl) (by decide) (by decide) dX9_setMode_59 (fun H locs hP hD hS => ?_)
        have hP : va_P D vwCl [(h0, .inr (9, [.ref a0, .ref b0, .int x_4_0, .int x_4_1, .int ed, .long hh])), (a0, .inl (cI, 129, .inl (upd (upd x_4_2 42 (0 : Int32)) 43 (0 : Int32)))), (b0, .inl (cI, 516, .inl x_4_3))] H := hP
        have hD : va_D A [(h0, .inr (9, [.ref a0, .ref b0, .int x_4_0, .int x_4_1, .int ed, .long hh])), (a0, .inl (cI, 129, .inl (upd (upd x_4_2 42 (0 : Int32)) 43 (0 : Int32)))), (b0, .inl (cI, 516, .inl x_4_3))] := hD
        refine lv_aload_n hx hb dX9_setMode_60 rfl (lv_at hl 1 rfl) ?_
        refine va_get (D := D) (ci := 9) (v := .ref a0) (C := RX9) (T := TX9) (N := 6) hx hb hts hiX9 hown hK hP 0 rfl rfl 0 (by decide) hk_7 (fun _ h9 => h9) rfl dX9_setMode_61 ?_
        refine lv_bipush (v := 44) hx hb dX9_setMode_64 (by decide) ?_
        refine lv_iconst (v := 0) hx hb dX9_setMode_66 (by decide) ?_
        refine my_iast hx hb hK hP hD hS 1 0 rfl rfl 44 (rfl) (by decide) (by decide) dX9_setMode_67 (fun H locs hP hD hS => ?_)
        have hP : va_P D vwCl [(h0, .inr (9, [.ref a0, .ref b0, .int x_4_0, .int x_4_1, .int ed, .long hh])), (a0, .inl (cI, 129, .inl (upd (upd (upd x_4_2 42 (0 : Int32)) 43 (0 : Int32)) 44 (0 : Int32)))), (b0, .inl (cI, 516, .inl x_4_3))] H := hP
        have hD : va_D A [(h0, .inr (9, [.ref a0, .ref b0, .int x_4_0, .int x_4_1, .int ed, .long hh])), (a0, .inl (cI, 129, .inl (upd (upd (upd x_4_2 42 (0 : Int32)) 43 (0 : Int32)) 44 (0 : Int32)))), (b0, .inl (cI, 516, .inl x_4_3))] := hD
        refine lv_iload_n hx hb dX9_setMode_68 rfl (lv_at hl 0 rfl) ?_
        exact my_iret hx hb hr rfl hlocks hK hP hD hS (x_4_0, x_4_1, upd (upd (upd x_4_2 42 (0 : Int32)) 43 (0 : Int32)) 44 (0 : Int32), x_4_3) (by show (r_4, (x_4_0, x_4_1, upd (upd (upd x_4_2 42 (0 : Int32)) 43 (0 : Int32)) 44 (0 : Int32), x_4_3)) = F_X9_setMode np th ed hh w pf t; simp only [F_X9_setMode, if_neg c_2, if_pos c_3, if_neg c_5, ← hw_1, ← hw_4]) [0, 1, 2] rfl rfl dX9_setMode_69
    · skip
      refine lv_aload_n hx hb dX9_setMode_25 rfl (lv_at hl 0 rfl) ?_
      refine lv_iconst (v := 2) hx hb dX9_setMode_26 (by decide) ?_
      refine my_callV_i (As := [.int (2 : Int32)]) (rest := []) (wc := [(h0, .inr (9, [.ref a0, .ref b0, .int np, .int th, .int ed, .long hh])), (a0, .inl (cI, 129, .inl w)), (b0, .inl (cI, 516, .inl pf))]) (wr := []) ⟨hx, hb, hml, hown, hts⟩ (met_X9_fails l D cI cJ cS h0 a0 b0 np th ed hh w pf (2 : Int32) _) (cwV 1 hts gX9_setMode_X9_fails rfl rfl rfl (by decide +kernel) ⟨Nat.le_of_ble_eq_true rfl, Nat.le_of_ble_eq_true rfl⟩) hK hP hD hS hA hG [0, 1, 2] [] rfl rfl rfl rfl (by decide) 0 rfl rfl rfl hl.1 (Nat.le_of_ble_eq_true rfl) rfl dX9_setMode_27 ⟨Nat.le_of_ble_eq_true rfl, Nat.le_of_ble_eq_true rfl⟩ (fun r_6 x_6_0 H locs hw_6 hP hD hS => ?_)
      have hP : va_P D vwCl [(h0, .inr (9, [.ref a0, .ref b0, .int np, .int x_6_0, .int ed, .long hh])), (a0, .inl (cI, 129, .inl w)), (b0, .inl (cI, 516, .inl pf))] H := hP
      have hD : va_D A [(h0, .inr (9, [.ref a0, .ref b0, .int np, .int x_6_0, .int ed, .long hh])), (a0, .inl (cI, 129, .inl w)), (b0, .inl (cI, 516, .inl pf))] := hD
      exact my_iret hx hb hr rfl hlocks hK hP hD hS (np, x_6_0, w, pf) (by show (r_6, (np, x_6_0, w, pf)) = F_X9_setMode np th ed hh w pf t; simp only [F_X9_setMode, if_neg c_2, if_neg c_3, ← hw_1, ← hw_6]) [0, 1, 2] rfl rfl dX9_setMode_30
  · skip
    refine lv_aload_n hx hb dX9_setMode_9 rfl (lv_at hl 0 rfl) ?_
    refine lv_iconst (v := 1) hx hb dX9_setMode_10 (by decide) ?_
    refine my_callV_i (As := [.int (1 : Int32)]) (rest := []) (wc := [(h0, .inr (9, [.ref a0, .ref b0, .int np, .int th, .int ed, .long hh])), (a0, .inl (cI, 129, .inl w)), (b0, .inl (cI, 516, .inl pf))]) (wr := []) ⟨hx, hb, hml, hown, hts⟩ (met_X9_fails l D cI cJ cS h0 a0 b0 np th ed hh w pf (1 : Int32) _) (cwV 1 hts gX9_setMode_X9_fails rfl rfl rfl (by decide +kernel) ⟨Nat.le_of_ble_eq_true rfl, Nat.le_of_ble_eq_true rfl⟩) hK hP hD hS hA hG [0, 1, 2] [] rfl rfl rfl rfl (by decide) 0 rfl rfl rfl hl.1 (Nat.le_of_ble_eq_true rfl) rfl dX9_setMode_11 ⟨Nat.le_of_ble_eq_true rfl, Nat.le_of_ble_eq_true rfl⟩ (fun r_7 x_7_0 H locs hw_7 hP hD hS => ?_)
    have hP : va_P D vwCl [(h0, .inr (9, [.ref a0, .ref b0, .int np, .int x_7_0, .int ed, .long hh])), (a0, .inl (cI, 129, .inl w)), (b0, .inl (cI, 516, .inl pf))] H := hP
    have hD : va_D A [(h0, .inr (9, [.ref a0, .ref b0, .int np, .int x_7_0, .int ed, .long hh])), (a0, .inl (cI, 129, .inl w)), (b0, .inl (cI, 516, .inl pf))] := hD
    exact my_iret hx hb hr rfl hlocks hK hP hD hS (np, x_7_0, w, pf) (by show (r_7, (np, x_7_0, w, pf)) = F_X9_setMode np th ed hh w pf t; simp only [F_X9_setMode, if_pos c_2, ← hw_1, ← hw_7]) [0, 1, 2] rfl rfl dX9_setMode_14
def F_X9_clearFault (np : Int32) (th : Int32) (ed : Int32) (hh : Int64) (w : Nat → Int32) (pf : Nat → Int32) : Int32 × Int32 × Int32 × (Nat → Int32) × (Nat → Int32) :=
  if w 45 = (0 : Int32) then
    let q3 := F_X9_fails np th ed hh w pf (1 : Int32)
    (q3.1, (np, q3.2, w, pf))
  else
    let q2 := F_X9_becomes np th ed hh w pf 45 (0 : Int32)
    (q2.1, (q2.2.1, q2.2.2.1, upd (upd q2.2.2.2.1 46 (0 : Int32)) 47 (0 : Int32), q2.2.2.2.2))
set_option maxHeartbeats 4000000 in
set_option maxRecDepth 100000 in
theorem met_X9_clearFault (l : Launch) (D : va_G) (cI cJ cS : ClassId) (h0 : Nat) (a0 : Nat) (b0 : Nat) (np : Int32) (th : Int32) (ed : Int32) (hh : Int64) (w : Nat → Int32) (pf : Nat → Int32) (hz : vp_in np 5) : ∀ sz : Nat, Met l yX9_clearFault wsX9_clearFault ({ frames := 2, cells := 0, slots := 0, locals := 44 } : Room) (va_Pc [.ref h0] (cPre D (tyz cI cJ cS) ([(h0, .inr (9, [.ref a0, .ref b0, .int np, .int th, .int ed, .long hh])), (a0, .inl (cI, 129, .inl w)), (b0, .inl (cI, 516, .inl pf))]) sz)) (va_Qi (fun (r : Int32) (u : Int32 × Int32 × (Nat → Int32) × (Nat → Int32)) => (r, u) = F_X9_clearFault np th ed hh w pf) (fun u => cPost D (tyz cI cJ cS) (va_A ([(h0, .inr (9, [.ref a0, .ref b0, .int np, .int th, .int ed, .long hh])), (a0, .inl (cI, 129, .inl w)), (b0, .inl (cI, 516, .inl pf))]) sz) ([(h0, .inr (9, [.ref a0, .ref b0, .int u.1, .int u.2.1, .int ed, .long hh])), (a0, .inl (cI, 129, .inl u.2.2.1)), (b0, .inl (cI, 516, .inl u.2.2.2))])) (va_A ([(h0, .inr (9, [.ref a0, .ref b0, .int np, .int th, .int ed, .long hh])), (a0, .inl (cI, 129, .inl w)), (b0, .inl (cI, 516, .inl pf))]) sz)) 0 0 (va_A ([(h0, .inr (9, [.ref a0, .ref b0, .int np, .int th, .int ed, .long hh])), (a0, .inl (cI, 129, .inl w)), (b0, .inl (cI, 516, .inl pf))]) sz) := by
  refine my_met (QC := fun A => (va_Qi (fun (r : Int32) (u : Int32 × Int32 × (Nat → Int32) × (Nat → Int32)) => (r, u) = F_X9_clearFault np th ed hh w pf) (fun u => cPost D (tyz cI cJ cS) A ([(h0, .inr (9, [.ref a0, .ref b0, .int u.1, .int u.2.1, .int ed, .long hh])), (a0, .inl (cI, 129, .inl u.2.2.1)), (b0, .inl (cI, 516, .inl u.2.2.2))])) A)) (cc := cX9_clearFault) (maxL := 2) (ret := (some .int)) (by decide) rfl (Nat.le_of_ble_eq_true rfl) ?_
  intro p e s m below meth c ls A hx hb hml hr hts hown hlocks hname hK hP hD hS hA hG hl
  have hown : s.vm.findClass RX9 = some m.cls := hown
  have hl : lv_has ls 2 [(0, .ref h0)] := hl
  have hP : va_P D vwCl [(h0, .inr (9, [.ref a0, .ref b0, .int np, .int th, .int ed, .long hh])), (a0, .inl (cI, 129, .inl w)), (b0, .inl (cI, 516, .inl pf))] s.heap := hP
  have hD : va_D A [(h0, .inr (9, [.ref a0, .ref b0, .int np, .int th, .int ed, .long hh])), (a0, .inl (cI, 129, .inl w)), (b0, .inl (cI, 516, .inl pf))] := hD
  have hiX9 : ∀ w ∈ u_ws RX9 TX9 6, w ∈ wsX9_clearFault := by decide +kernel
  have hk_7 := hts (.fieldLink RX9 7 "HallCommutatorModel" "s" "[I") (by decide +kernel)
  refine lv_aload_n hx hb dX9_clearFault_0 rfl (lv_at hl 0 rfl) ?_
  refine va_get (D := D) (ci := 9) (v := .ref a0) (C := RX9) (T := TX9) (N := 6) hx hb hts hiX9 hown hK hP 0 rfl rfl 0 (by decide) hk_7 (fun _ h9 => h9) rfl dX9_clearFault_1 ?_
  refine lv_bipush (v := 45) hx hb dX9_clearFault_4 (by decide) ?_
  refine my_iald hx hb hK hP 1 0 rfl rfl 45 (rfl) (by decide) (by decide) dX9_clearFault_6 ?_
  refine lv_if_ne (tgt := 16) hx hb dX9_clearFault_7 (by decide) (fun c_1 => ?_) (fun c_1 => ?_)
  · skip
    refine lv_aload_n hx hb dX9_clearFault_16 rfl (lv_at hl 0 rfl) ?_
    refine lv_bipush (v := 45) hx hb dX9_clearFault_17 (by decide) ?_
    refine lv_iconst (v := 0) hx hb dX9_clearFault_19 (by decide) ?_
    refine my_callV_i (As := [.int (nI 45), .int (0 : Int32)]) (rest := []) (wc := [(h0, .inr (9, [.ref a0, .ref b0, .int np, .int th, .int ed, .long hh])), (a0, .inl (cI, 129, .inl w)), (b0, .inl (cI, 516, .inl pf))]) (wr := []) ⟨hx, hb, hml, hown, hts⟩ (met_X9_becomes l D cI cJ cS h0 a0 b0 np th ed hh w pf 45 (0 : Int32) (hz) (by decide) _) (cwV 2 hts gX9_clearFault_X9_becomes rfl rfl rfl (by decide +kernel) ⟨Nat.le_of_ble_eq_true rfl, Nat.le_of_ble_eq_true rfl⟩) hK hP hD hS hA hG [0, 1, 2] [] rfl rfl rfl rfl (by decide) 0 rfl rfl rfl hl.1 (Nat.le_of_ble_eq_true rfl) rfl dX9_clearFault_20 ⟨Nat.le_of_ble_eq_true rfl, Nat.le_of_ble_eq_true rfl⟩ (fun r_2 u_2 H locs hw_2 hP hD hS => ?_)
    obtain ⟨x_2_0, x_2_1, x_2_2, x_2_3⟩ := u_2
    have hP : va_P D vwCl [(h0, .inr (9, [.ref a0, .ref b0, .int x_2_0, .int x_2_1, .int ed, .long hh])), (a0, .inl (cI, 129, .inl x_2_2)), (b0, .inl (cI, 516, .inl x_2_3))] H := hP
    have hD : va_D A [(h0, .inr (9, [.ref a0, .ref b0, .int x_2_0, .int x_2_1, .int ed, .long hh])), (a0, .inl (cI, 129, .inl x_2_2)), (b0, .inl (cI, 516, .inl x_2_3))] := hD
    refine lv_istore_n (lv' := [(1, .int r_2), (0, .ref h0)]) hx hb dX9_clearFault_23 rfl hl (by decide) rfl (fun ls hl => ?_)
    refine lv_aload_n hx hb dX9_clearFault_24 rfl (lv_at hl 1 rfl) ?_
    refine va_get (D := D) (ci := 9) (v := .ref a0) (C := RX9) (T := TX9) (N := 6) hx hb hts hiX9 hown hK hP 0 rfl rfl 0 (by decide) hk_7 (fun _ h9 => h9) rfl dX9_clearFault_25 ?_
    refine lv_bipush (v := 46) hx hb dX9_clearFault_28 (by decide) ?_
    refine lv_iconst (v := 0) hx hb dX9_clearFault_30 (by decide) ?_
    refine my_iast hx hb hK hP hD hS 1 0 rfl rfl 46 (rfl) (by decide) (by decide) dX9_clearFault_31 (fun H locs hP hD hS => ?_)
    have hP : va_P D vwCl [(h0, .inr (9, [.ref a0, .ref b0, .int x_2_0, .int x_2_1, .int ed, .long hh])), (a0, .inl (cI, 129, .inl (upd x_2_2 46 (0 : Int32)))), (b0, .inl (cI, 516, .inl x_2_3))] H := hP
    have hD : va_D A [(h0, .inr (9, [.ref a0, .ref b0, .int x_2_0, .int x_2_1, .int ed, .long hh])), (a0, .inl (cI, 129, .inl (upd x_2_2 46 (0 : Int32)))), (b0, .inl (cI, 516, .inl x_2_3))] := hD
    refine lv_aload_n hx hb dX9_clearFault_32 rfl (lv_at hl 1 rfl) ?_
    refine va_get (D := D) (ci := 9) (v := .ref a0) (C := RX9) (T := TX9) (N := 6) hx hb hts hiX9 hown hK hP 0 rfl rfl 0 (by decide) hk_7 (fun _ h9 => h9) rfl dX9_clearFault_33 ?_
    refine lv_bipush (v := 47) hx hb dX9_clearFault_36 (by decide) ?_
    refine lv_iconst (v := 0) hx hb dX9_clearFault_38 (by decide) ?_
    refine my_iast hx hb hK hP hD hS 1 0 rfl rfl 47 (rfl) (by decide) (by decide) dX9_clearFault_39 (fun H locs hP hD hS => ?_)
    have hP : va_P D vwCl [(h0, .inr (9, [.ref a0, .ref b0, .int x_2_0, .int x_2_1, .int ed, .long hh])), (a0, .inl (cI, 129, .inl (upd (upd x_2_2 46 (0 : Int32)) 47 (0 : Int32)))), (b0, .inl (cI, 516, .inl x_2_3))] H := hP
    have hD : va_D A [(h0, .inr (9, [.ref a0, .ref b0, .int x_2_0, .int x_2_1, .int ed, .long hh])), (a0, .inl (cI, 129, .inl (upd (upd x_2_2 46 (0 : Int32)) 47 (0 : Int32)))), (b0, .inl (cI, 516, .inl x_2_3))] := hD
    refine lv_iload_n hx hb dX9_clearFault_40 rfl (lv_at hl 0 rfl) ?_
    exact my_iret hx hb hr rfl hlocks hK hP hD hS (x_2_0, x_2_1, upd (upd x_2_2 46 (0 : Int32)) 47 (0 : Int32), x_2_3) (by show (r_2, (x_2_0, x_2_1, upd (upd x_2_2 46 (0 : Int32)) 47 (0 : Int32), x_2_3)) = F_X9_clearFault np th ed hh w pf; simp only [F_X9_clearFault, if_neg c_1, ← hw_2]) [0, 1, 2] rfl rfl dX9_clearFault_41
  · skip
    refine lv_aload_n hx hb dX9_clearFault_10 rfl (lv_at hl 0 rfl) ?_
    refine lv_iconst (v := 1) hx hb dX9_clearFault_11 (by decide) ?_
    refine my_callV_i (As := [.int (1 : Int32)]) (rest := []) (wc := [(h0, .inr (9, [.ref a0, .ref b0, .int np, .int th, .int ed, .long hh])), (a0, .inl (cI, 129, .inl w)), (b0, .inl (cI, 516, .inl pf))]) (wr := []) ⟨hx, hb, hml, hown, hts⟩ (met_X9_fails l D cI cJ cS h0 a0 b0 np th ed hh w pf (1 : Int32) _) (cwV 1 hts gX9_clearFault_X9_fails rfl rfl rfl (by decide +kernel) ⟨Nat.le_of_ble_eq_true rfl, Nat.le_of_ble_eq_true rfl⟩) hK hP hD hS hA hG [0, 1, 2] [] rfl rfl rfl rfl (by decide) 0 rfl rfl rfl hl.1 (Nat.le_of_ble_eq_true rfl) rfl dX9_clearFault_12 ⟨Nat.le_of_ble_eq_true rfl, Nat.le_of_ble_eq_true rfl⟩ (fun r_3 x_3_0 H locs hw_3 hP hD hS => ?_)
    have hP : va_P D vwCl [(h0, .inr (9, [.ref a0, .ref b0, .int np, .int x_3_0, .int ed, .long hh])), (a0, .inl (cI, 129, .inl w)), (b0, .inl (cI, 516, .inl pf))] H := hP
    have hD : va_D A [(h0, .inr (9, [.ref a0, .ref b0, .int np, .int x_3_0, .int ed, .long hh])), (a0, .inl (cI, 129, .inl w)), (b0, .inl (cI, 516, .inl pf))] := hD
    exact my_iret hx hb hr rfl hlocks hK hP hD hS (np, x_3_0, w, pf) (by show (r_3, (np, x_3_0, w, pf)) = F_X9_clearFault np th ed hh w pf; simp only [F_X9_clearFault, if_pos c_1, ← hw_3]) [0, 1, 2] rfl rfl dX9_clearFault_15
