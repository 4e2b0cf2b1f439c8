def F_X8_sectorOf (t : Int32) : Int32 :=
  ent [-1, 0, 2, 1, 4, 5, 3, -1] t
set_option maxHeartbeats 4000000 in
set_option maxRecDepth 100000 in
theorem met_X8_sectorOf (l : Launch) (D : va_G) (cI cJ cS : ClassId) (t : Int32)  : ∀ sz : Nat, Met l yX8_sectorOf wsX8_sectorOf ({ frames := 1, cells := 0, slots := 0, locals := 40 } : Room) (va_Pc [.int t] (cPre D (tyz cI cJ cS) ([]) sz)) (va_Qi (fun (r : Int32) (_ : Unit) => r = F_X8_sectorOf t) (fun u => cPost D (tyz cI cJ cS) (va_A ([]) sz) ([])) (va_A ([]) sz)) 0 0 (va_A ([]) sz) := by
  refine my_met (QC := fun A => (va_Qi (fun (r : Int32) (_ : Unit) => r = F_X8_sectorOf t) (fun u => cPost D (tyz cI cJ cS) A ([])) A)) (cc := cX8_sectorOf) (maxL := 1) (ret := (some .int)) (by decide) rfl (Nat.le_of_ble_eq_true rfl) ?_
  intro p e s m below meth c ls A hx hb hml hr hts hown hlocks hname hK hP hD hS hA hG hl
  have hown : s.vm.findClass RX8 = some m.cls := hown
  have hl : lv_has ls 1 [(0, .int t)] := hl
  have hP : va_P D vwCl [] s.heap := hP
  have hD : va_D A [] := hD
  obtain ⟨t_1, hz_1, ht_1⟩ := hG.2.1
  refine va_gets hx hb hz_1 hS hown (hts (.fieldLink RX8 242 "HallCommutator" "SECTOR_OF_CODE" "[I") (by decide +kernel)) (fun _ h9 => h9) dX8_sectorOf_0 ?_
  refine lv_iload_n hx hb dX8_sectorOf_3 rfl (lv_at hl 0 rfl) ?_
  refine my_entry (xs := [-1, 0, 2, 1, 4, 5, 3, -1]) (i := t) (rest := []) ⟨hx, hb, hml, hown, hts⟩ (va_cwS 2 hts gX8_sectorOf_X8_entry rfl rfl rfl (by decide +kernel) ⟨Nat.le_of_ble_eq_true rfl, Nat.le_of_ble_eq_true rfl⟩) hK hP hD hS hA hG ht_1 (by decide) hl.1 (Nat.le_of_ble_eq_true rfl) dX8_sectorOf_4 ⟨Nat.le_of_ble_eq_true rfl, Nat.le_of_ble_eq_true rfl⟩ (fun H locs hP hD hS => ?_)
  have hP : va_P D vwCl [] H := hP
  have hD : va_D A [] := hD
  exact my_iret hx hb hr rfl hlocks hK hP hD hS () (by show ent [-1, 0, 2, 1, 4, 5, 3, -1] t = F_X8_sectorOf t; simp only [F_X8_sectorOf]) [] rfl rfl dX8_sectorOf_7
def F_X8_codeOf (t : Int32) : Int32 :=
  ent [1, 3, 2, 6, 4, 5] t
set_option maxHeartbeats 4000000 in
set_option maxRecDepth 100000 in
theorem met_X8_codeOf (l : Launch) (D : va_G) (cI cJ cS : ClassId) (t : Int32)  : ∀ sz : Nat, Met l yX8_codeOf wsX8_codeOf ({ frames := 1, cells := 0, slots := 0, locals := 40 } : Room) (va_Pc [.int t] (cPre D (tyz cI cJ cS) ([]) sz)) (va_Qi (fun (r : Int32) (_ : Unit) => r = F_X8_codeOf t) (fun u => cPost D (tyz cI cJ cS) (va_A ([]) sz) ([])) (va_A ([]) sz)) 0 0 (va_A ([]) sz) := by
  refine my_met (QC := fun A => (va_Qi (fun (r : Int32) (_ : Unit) => r = F_X8_codeOf t) (fun u => cPost D (tyz cI cJ cS) A ([])) A)) (cc := cX8_codeOf) (maxL := 1) (ret := (some .int)) (by decide) rfl (Nat.le_of_ble_eq_true rfl) ?_
  intro p e s m below meth c ls A hx hb hml hr hts hown hlocks hname hK hP hD hS hA hG hl
  have hown : s.vm.findClass RX8 = some m.cls := hown
  have hl : lv_has ls 1 [(0, .int t)] := hl
  have hP : va_P D vwCl [] s.heap := hP
  have hD : va_D A [] := hD
  obtain ⟨t_1, hz_1, ht_1⟩ := hG.2.2.1
  refine va_gets hx hb hz_1 hS hown (hts (.fieldLink RX8 249 "HallCommutator" "CODE_OF_SECTOR" "[I") (by decide +kernel)) (fun _ h9 => h9) dX8_codeOf_0 ?_
  refine lv_iload_n hx hb dX8_codeOf_3 rfl (lv_at hl 0 rfl) ?_
  refine my_entry (xs := [1, 3, 2, 6, 4, 5]) (i := t) (rest := []) ⟨hx, hb, hml, hown, hts⟩ (va_cwS 2 hts gX8_codeOf_X8_entry rfl rfl rfl (by decide +kernel) ⟨Nat.le_of_ble_eq_true rfl, Nat.le_of_ble_eq_true rfl⟩) hK hP hD hS hA hG ht_1 (by decide) hl.1 (Nat.le_of_ble_eq_true rfl) dX8_codeOf_4 ⟨Nat.le_of_ble_eq_true rfl, Nat.le_of_ble_eq_true rfl⟩ (fun H locs hP hD hS => ?_)
  have hP : va_P D vwCl [] H := hP
  have hD : va_D A [] := hD
  exact my_iret hx hb hr rfl hlocks hK hP hD hS () (by show ent [1, 3, 2, 6, 4, 5] t = F_X8_codeOf t; simp only [F_X8_codeOf]) [] rfl rfl dX8_codeOf_7
