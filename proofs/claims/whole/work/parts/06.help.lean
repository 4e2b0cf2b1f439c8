/-! helpers: places, tables, pictures -/
abbrev tyz (cI cJ cS : ClassId) : List (ClassId × FieldType) := [(cI, .int), (cJ, .long), (cS, .object "HallCommutator$State")]
abbrev tn (z : Int32) : Nat := z.toNatClampNeg
theorem tn_eq {z : Int32} {n : Nat} (h : vp_in z n) : z = nI (tn z) := by
  have h0 : ¬ z < 0 := fun q => h (Or.inl q)
  obtain ⟨j, hj, e⟩ := nI_of h0
  rw [e, tn, nI_clamp hj]
theorem tn_lt {z : Int32} {n : Nat} (h : vp_in z n) : tn z < n := Nat.lt_of_not_le (fun q => h (Or.inr q))
theorem tn_lt_of {z : Int32} {n : Nat} (k : Nat) (h : vp_in z n) (hk : k < 2 ^ 31) (c : ¬ nI k ≤ z) : tn z < k := by
  have h0 : ¬ z < 0 := fun q => h (Or.inl q)
  obtain ⟨j, hj, e⟩ := nI_of h0
  subst e
  rw [tn, nI_clamp hj]
  exact Nat.lt_of_not_le (fun q => c (nI_le q hj))
theorem tn_pos {z : Int32} {n : Nat} (h : vp_in z n) (c : 0 < z) : 0 < tn z := by
  have h0 : ¬ z < 0 := fun q => h (Or.inl q)
  obtain ⟨j, hj, e⟩ := nI_of h0
  subst e
  rw [tn, nI_clamp hj]
  rcases Nat.eq_zero_or_pos j with q | q
  · subst q; exact absurd c (by decide)
  · exact q
theorem nI_sub1 {j : Nat} (h : 0 < j) : nI j - 1 = nI (j - 1) := by
  obtain ⟨i, rfl⟩ : ∃ i, j = i + 1 := ⟨j - 1, by omega⟩
  rw [nI_pred]; rfl
theorem tn_pred {z : Int32} {n : Nat} (h : vp_in z n) (c : 0 < z) : z - 1 = nI (tn z - 1) := by
  have h1 := tn_eq h
  have h2 := tn_pos h c
  rw [← nI_sub1 h2, ← h1]
/-- a table's entry, NONE behind its ends -/
def ent (xs : List Int32) (i : Int32) : Int32 := if i < 0 then -1 else if nI xs.length ≤ i then -1 else xs.getD (tn i) 0
theorem sw_out_0_2 {x : Int32} (h0 : ¬ x = (0 : Int32)) (h1 : ¬ x = (1 : Int32)) (h2 : ¬ x = (2 : Int32)) : x.toInt < 0 ∨ 2 < x.toInt := by
  have e0 : ¬ x.toInt = 0 := fun h => h0 (Int32.toInt_inj.mp (by rw [h]; rfl))
  have e1 : ¬ x.toInt = 1 := fun h => h1 (Int32.toInt_inj.mp (by rw [h]; rfl))
  have e2 : ¬ x.toInt = 2 := fun h => h2 (Int32.toInt_inj.mp (by rw [h]; rfl))
  omega
theorem sw_out_1_4 {x : Int32} (h1 : ¬ x = (1 : Int32)) (h2 : ¬ x = (2 : Int32)) (h3 : ¬ x = (3 : Int32)) (h4 : ¬ x = (4 : Int32)) : x.toInt < 1 ∨ 4 < x.toInt := by
  have e1 : ¬ x.toInt = 1 := fun h => h1 (Int32.toInt_inj.mp (by rw [h]; rfl))
  have e2 : ¬ x.toInt = 2 := fun h => h2 (Int32.toInt_inj.mp (by rw [h]; rfl))
  have e3 : ¬ x.toInt = 3 := fun h => h3 (Int32.toInt_inj.mp (by rw [h]; rfl))
  have e4 : ¬ x.toInt = 4 := fun h => h4 (Int32.toInt_inj.mp (by rw [h]; rfl))
  omega
theorem sw_out_1_6 {x : Int32} (h1 : ¬ x = (1 : Int32)) (h2 : ¬ x = (2 : Int32)) (h3 : ¬ x = (3 : Int32)) (h4 : ¬ x = (4 : Int32)) (h5 : ¬ x = (5 : Int32)) (h6 : ¬ x = (6 : Int32)) : x.toInt < 1 ∨ 6 < x.toInt := by
  have e1 : ¬ x.toInt = 1 := fun h => h1 (Int32.toInt_inj.mp (by rw [h]; rfl))
  have e2 : ¬ x.toInt = 2 := fun h => h2 (Int32.toInt_inj.mp (by rw [h]; rfl))
  have e3 : ¬ x.toInt = 3 := fun h => h3 (Int32.toInt_inj.mp (by rw [h]; rfl))
  have e4 : ¬ x.toInt = 4 := fun h => h4 (Int32.toInt_inj.mp (by rw [h]; rfl))
  have e5 : ¬ x.toInt = 5 := fun h => h5 (Int32.toInt_inj.mp (by rw [h]; rfl))
  have e6 : ¬ x.toInt = 6 := fun h => h6 (Int32.toInt_inj.mp (by rw [h]; rfl))
  omega
theorem sw_out_0_20 {x : Int32} (h0 : ¬ x = (0 : Int32)) (h1 : ¬ x = (1 : Int32)) (h2 : ¬ x = (2 : Int32)) (h3 : ¬ x = (3 : Int32)) (h4 : ¬ x = (4 : Int32)) (h5 : ¬ x = (5 : Int32)) (h6 : ¬ x = (6 : Int32)) (h7 : ¬ x = (7 : Int32)) (h8 : ¬ x = (8 : Int32)) (h9 : ¬ x = (9 : Int32)) (h10 : ¬ x = (10 : Int32)) (h11 : ¬ x = (11 : Int32)) (h12 : ¬ x = (12 : Int32)) (h13 : ¬ x = (13 : Int32)) (h14 : ¬ x = (14 : Int32)) (h15 : ¬ x = (15 : Int32)) (h16 : ¬ x = (16 : Int32)) (h17 : ¬ x = (17 : Int32)) (h18 : ¬ x = (18 : Int32)) (h19 : ¬ x = (19 : Int32)) (h20 : ¬ x = (20 : Int32)) : x.toInt < 0 ∨ 20 < x.toInt := by
  have e0 : ¬ x.toInt = 0 := fun h => h0 (Int32.toInt_inj.mp (by rw [h]; rfl))
  have e1 : ¬ x.toInt = 1 := fun h => h1 (Int32.toInt_inj.mp (by rw [h]; rfl))
  have e2 : ¬ x.toInt = 2 := fun h => h2 (Int32.toInt_inj.mp (by rw [h]; rfl))
  have e3 : ¬ x.toInt = 3 := fun h => h3 (Int32.toInt_inj.mp (by rw [h]; rfl))
  have e4 : ¬ x.toInt = 4 := fun h => h4 (Int32.toInt_inj.mp (by rw [h]; rfl))
  have e5 : ¬ x.toInt = 5 := fun h => h5 (Int32.toInt_inj.mp (by rw [h]; rfl))
  have e6 : ¬ x.toInt = 6 := fun h => h6 (Int32.toInt_inj.mp (by rw [h]; rfl))
  have e7 : ¬ x.toInt = 7 := fun h => h7 (Int32.toInt_inj.mp (by rw [h]; rfl))
  have e8 : ¬ x.toInt = 8 := fun h => h8 (Int32.toInt_inj.mp (by rw [h]; rfl))
  have e9 : ¬ x.toInt = 9 := fun h => h9 (Int32.toInt_inj.mp (by rw [h]; rfl))
  have e10 : ¬ x.toInt = 10 := fun h => h10 (Int32.toInt_inj.mp (by rw [h]; rfl))
  have e11 : ¬ x.toInt = 11 := fun h => h11 (Int32.toInt_inj.mp (by rw [h]; rfl))
  have e12 : ¬ x.toInt = 12 := fun h => h12 (Int32.toInt_inj.mp (by rw [h]; rfl))
  have e13 : ¬ x.toInt = 13 := fun h => h13 (Int32.toInt_inj.mp (by rw [h]; rfl))
  have e14 : ¬ x.toInt = 14 := fun h => h14 (Int32.toInt_inj.mp (by rw [h]; rfl))
  have e15 : ¬ x.toInt = 15 := fun h => h15 (Int32.toInt_inj.mp (by rw [h]; rfl))
  have e16 : ¬ x.toInt = 16 := fun h => h16 (Int32.toInt_inj.mp (by rw [h]; rfl))
  have e17 : ¬ x.toInt = 17 := fun h => h17 (Int32.toInt_inj.mp (by rw [h]; rfl))
  have e18 : ¬ x.toInt = 18 := fun h => h18 (Int32.toInt_inj.mp (by rw [h]; rfl))
  have e19 : ¬ x.toInt = 19 := fun h => h19 (Int32.toInt_inj.mp (by rw [h]; rfl))
  have e20 : ¬ x.toInt = 20 := fun h => h20 (Int32.toInt_inj.mp (by rw [h]; rfl))
  omega

abbrev stc (g : Nat → Nat) (v : Nat → Int32) (a : Nat → Nat → Int32) (cI : ClassId) : va_W := [((g 0), .inr (7, [.int (v 0), .ref (g 1), .ref (g 2), .ref (g 3), .ref (g 4), .ref (g 5), .ref (g 6)])), ((g 1), .inr (6, [.int (v 1), .int (v 2), .int (v 3), .int (v 4), .int (v 5)])), ((g 2), .inr (4, [.ref (g 7), .ref (g 8), .int (v 48)])), ((g 3), .inr (5, [.int (v 7), .int (v 8), .int (v 9), .int (v 10), .int (v 11)])), ((g 4), .inr (3, [.int (v 28), .int (v 29), .int (v 30), .int (v 31), .ref (g 9), .int (v 35), .int (v 33), .int (v 34)])), ((g 5), .inr (1, [.int (v 6), .int (v 42), .int (v 43), .int (v 44), .int (v 32), .int (v 45), .int (v 46), .int (v 47)])), ((g 6), .inr (0, [.int (v 12), .ref (g 10), .ref (g 11), .ref (g 12), .ref (g 13), .ref (g 14)])), ((g 7), .inl (cI, 40, .inl (a 0))), ((g 8), .inl (cI, 40, .inl (a 1))), ((g 9), .inl (cI, 6, .inl (a 2))), ((g 10), .inl (cI, 3, .inl (a 3))), ((g 11), .inl (cI, 3, .inl (a 4))), ((g 12), .inl (cI, 3, .inl (a 5))), ((g 13), .inl (cI, 3, .inl (a 6))), ((g 14), .inl (cI, 3, .inl (a 7)))]
/-- entry(table, i) over one of the tables -/
def ePre (D : va_G) (tys : List (ClassId × FieldType)) (t : Nat) (xs : List Int32) (sz : Nat) : State → Prop := fun U => cPre D tys [] sz U ∧ va_T .int t xs.length (fun j => .int (xs.getD j 0)) (va_A [] sz) U U.heap
set_option maxHeartbeats 4000000 in
theorem met_entry (l : Launch) (D : va_G) (tys : List (ClassId × FieldType)) (t : Nat) (xs : List Int32) (i : Int32) (hxs : xs.length < 2 ^ 31) (sz : Nat) : Met l yX8_entry wsX8_entry ({ frames := 0, cells := 0, slots := 0, locals := 0 }) (va_Pc [.ref t, .int i] (ePre D tys t xs sz)) (va_Qi (fun (r : Int32) (_ : Unit) => r = ent xs i) (fun _ _ => True) (va_A [] sz)) 0 0 (va_A [] sz) := by
  refine Met.ofW (cc := cX8_entry) (maxL := 2) (ret := some .int) (by decide) rfl ?_
  intro p e s m args below meth c s₁ B hml hv
  obtain ⟨rfl, ⟨hsz, hP, hK, hD0, hG⟩, hT⟩ := hv
  have hx := B.exec
  have hb := B.bytes
  have hr := B.returns
  have hlocks := B.notSynchronized
  subst hsz
  have hS : va_S (va_A [] s.heap.size) s.heap s.heap [] := va_S.rf
  have hl := lv_entry ([.ref t, .int i]) (n := 2) (Nat.le_of_ble_eq_true rfl)
  rw [lg_entry_eq]
  generalize (lg_sl ([.ref t, .int i]) ++ List.replicate (2 - (lg_sl ([.ref t, .int i])).length) Slot.unset).toArray = ls at hl ⊢
  have hl : lv_has ls 2 [(0, .ref t), (1, .int i)] := hl
  refine lv_iload_n hx hb dX8_entry_0 rfl (lv_at hl 1 rfl) ?_
  refine lv_if_lt (tgt := 16) hx hb dX8_entry_1 (by decide) (fun c1 => ?_) (fun c1 => ?_)
  · refine lv_iconst (v := -1) hx hb dX8_entry_16 (by decide) ?_
    exact W.iret hx hb hr (fun t ht hW => ⟨⟨_, (), rfl, by simp only [ent, if_pos c1], trivial⟩, hS.F ht⟩) hS.2.2 dX8_entry_17
  refine lv_iload_n hx hb dX8_entry_4 rfl (lv_at hl 1 rfl) ?_
  refine lv_aload_n hx hb dX8_entry_5 rfl (lv_at hl 0 rfl) ?_
  refine va_tlen (v := nI xs.length) hx hb hT hS rfl dX8_entry_6 ?_
  refine lv_icmp_ge (tgt := 16) hx hb dX8_entry_7 (by decide) (fun c2 => ?_) (fun c2 => ?_)
  · refine lv_iconst (v := -1) hx hb dX8_entry_16 (by decide) ?_
    exact W.iret hx hb hr (fun t ht hW => ⟨⟨_, (), rfl, by simp only [ent, if_neg c1, if_pos c2], trivial⟩, hS.F ht⟩) hS.2.2 dX8_entry_17
  obtain ⟨j, hj, ej⟩ := nI_of c1
  have hjl : j < xs.length := Nat.lt_of_not_le (fun q => c2 (by rw [ej]; exact nI_le q hj))
  refine lv_aload_n hx hb dX8_entry_10 rfl (lv_at hl 0 rfl) ?_
  refine lv_iload_n hx hb dX8_entry_11 rfl (lv_at hl 1 rfl) ?_
  refine va_ti (v := .int (xs.getD (tn i) 0)) hx hb hT hS (by rw [ej]; exact vp_in_nI hjl hxs) rfl dX8_entry_12 ?_
  refine lv_goto (tgt := 17) hx hb dX8_entry_13 (by decide) ?_
  exact W.iret hx hb hr (fun t ht hW => ⟨⟨_, (), rfl, by simp only [ent, if_neg c1, if_neg c2], trivial⟩, hS.F ht⟩) hS.2.2 dX8_entry_17
section Ent
variable {p : Program} {l : Launch} {e : Env} {R : Room} {s : State} {m : MethodId} {args : Array Value} {below : List Frame} {meth : Method} {c : Code} {H : Heap} {locs : List Loc} {cells slots : Nat} {Q : State → Prop}
variable {D : va_G} {tys : List (ClassId × FieldType)} {A : Nat → Prop} {ws : va_W} {pc : Nat} {ls : Array Slot} {rest st0 : List Value} {cc : ByteArray}
theorem ePre.at {t : Nat} {xs : List Int32} (hK : va_K D vwCl tys s) (hP : va_P D vwCl ws H) (hD : va_D A ws) (hS : va_S A s.heap H locs) (hA : ∀ q, s.heap.size ≤ q → A q) (hG : gG A s s.heap) (hT : va_T .int t xs.length (fun j => .int (xs.getD j 0)) A s s.heap) :
    ∀ U : State, U.heap = H → s.WarmedH U.vm → ePre D tys t xs H.size U := fun U hU hW => by
  refine ⟨cPre.at hK hP hD hS hA hG [] rfl rfl U hU hW, ?_⟩
  rw [hU]
  exact ((hT.kept hS.2.1).narrow (va_free hD hS hA [] rfl)).moved hW.alike
theorem ePre.blind {t : Nat} {xs : List Int32} {sz : Nat} {av : List Value} : FrameBlind (va_Pc av (ePre D tys t xs sz)) := fun a U g mk h => ⟨h.1, (cPre.blind (av := av) a U g mk ⟨h.1, h.2.1⟩).2, va_T.moved (u := U) (U := U.calling g mk a) (Vm.Alike.refl U.vm) h.2.2⟩
theorem my_entry {nL index : Nat} {Ts : List Cond} {own : String} {t : Nat} {xs : List Int32} {i : Int32} (SF : CallFix p m c cc nL s args Ts own) (cw : CallB R s args own index yX8_entry cX8_entry 2 (some .int) wsX8_entry ({ frames := 0, cells := 0, slots := 0, locals := 0 } : Room) 0 0 2 ∧ (Cond.static yX8_entry).before args s = true) (hK : va_K D vwCl tys s) (hP : va_P D vwCl ws H) (hD : va_D A ws) (hS : va_S A s.heap H locs) (hA : ∀ q, s.heap.size ≤ q → A q) (hG : gG A s s.heap) (hT : va_T .int t xs.length (fun j => .int (xs.getD j 0)) A s s.heap) (hxs : xs.length < 2 ^ 31) (hsz : ls.size = nL) (hrest : (rest.map fun v => v.category).sum ≤ 8) (hdg : decode cc pc = .ok (.invokestatic index, 3)) (hf : cells + 0 ≤ R.cells ∧ slots + 0 ≤ R.slots)
    (kk : ∀ (H1 : Heap) (locs1 : List Loc), va_P D vwCl ws H1 → va_D A ws → va_S A s.heap H1 locs1 → W p l e R s m args below meth c H1 locs1 cells slots Q (F0 m (pc + 3) ls (.int (ent xs i) :: rest))) : W p l e R s m args below meth c H locs cells slots Q (F0 m pc ls (.int i :: .ref t :: rest)) := by
  have hFc := va_free (wc := []) hD hS hA [] rfl
  refine va_calli (va_runS (As := [.ref t, .int i]) (rest := rest) SF (met_entry l D tys t xs i hxs H.size) cw ⟨ePre.blind, fun U hU hW => ⟨rfl, ePre.at hK hP hD hS hA hG hT U hU hW⟩⟩ rfl rfl hsz rfl (lv_room hrest) hdg hf) hS (fun q _ h => hFc q h) hFc (fun r u t9 H1 locs1 ht hvm hw hB hz1 hk1 hS1 => ?_)
  have hw : r = ent xs i := hw
  subst hw
  exact kk H1 locs1 (hP.kept (fun k q hk => hk1 q.1 ((hP k q hk).lt) (fun z => by
    rcases z with ⟨k', e', h⟩ | h
    · simp at h
    · exact absurd ((hP k q hk).lt) (Nat.not_lt.mpr h)))) hD hS1
theorem my_entryN {nL index : Nat} {Ts : List Cond} {own host : String} {t : Nat} {xs : List Int32} {i : Int32} (SF : CallFix p m c cc nL s args Ts own) (cw : va_CN R s args own index yX8_entry host cX8_entry 2 (some .int) wsX8_entry ({ frames := 0, cells := 0, slots := 0, locals := 0 } : Room) 0 0 2 ∧ (Cond.static yX8_entry).before args s = true ∧ True) (hK : va_K D vwCl tys s) (hP : va_P D vwCl ws H) (hD : va_D A ws) (hS : va_S A s.heap H locs) (hA : ∀ q, s.heap.size ≤ q → A q) (hG : gG A s s.heap) (hT : va_T .int t xs.length (fun j => .int (xs.getD j 0)) A s s.heap) (hxs : xs.length < 2 ^ 31) (hsz : ls.size = nL) (hrest : (rest.map fun v => v.category).sum ≤ 8) (hdg : decode cc pc = .ok (.invokestatic index, 3)) (hf : cells + 0 ≤ R.cells ∧ slots + 0 ≤ R.slots)
    (kk : ∀ (H1 : Heap) (locs1 : List Loc), va_P D vwCl ws H1 → va_D A ws → va_S A s.heap H1 locs1 → W p l e R s m args below meth c H1 locs1 cells slots Q (F0 m (pc + 3) ls (.int (ent xs i) :: rest))) : W p l e R s m args below meth c H locs cells slots Q (F0 m pc ls (.int i :: .ref t :: rest)) := by
  have hFc := va_free (wc := []) hD hS hA [] rfl
  refine va_calli (va_runSN (As := [.ref t, .int i]) (rest := rest) SF (met_entry l D tys t xs i hxs H.size) cw ⟨ePre.blind, fun U hU hW => ⟨rfl, ePre.at hK hP hD hS hA hG hT U hU hW⟩⟩ rfl rfl hsz rfl (lv_room hrest) hdg hf) hS (fun q _ h => hFc q h) hFc (fun r u t9 H1 locs1 ht hvm hw hB hz1 hk1 hS1 => ?_)
  have hw : r = ent xs i := hw
  subst hw
  exact kk H1 locs1 (hP.kept (fun k q hk => hk1 q.1 ((hP k q hk).lt) (fun z => by
    rcases z with ⟨k', e', h⟩ | h
    · simp at h
    · exact absurd ((hP k q hk).lt) (Nat.not_lt.mpr h)))) hD hS1

end Ent
