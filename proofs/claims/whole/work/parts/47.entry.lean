/-! the law, from its entry -/
section NewL
variable {p : Program} {l : Launch} {e : Env} {R : Room} {s : State} {m : MethodId} {args : Array Value} {below : List Frame} {meth : Method} {c : Code} {H : Heap} {locs : List Loc} {cells slots : Nat} {Q : State → Prop} {pc : Nat} {ls : Array Slot} {rest : List Value} {cc : ByteArray} {D : va_G} {tys : List (ClassId × FieldType)} {A : Nat → Prop} {ws : va_W}
theorem my_newl (hx : p.tables.exec = Jvm.exec) (hb : c.code = cc) (harr : (Cond.arrayClass .long).before args s = true) (hK : va_K D vwCl tys s) (hP : va_P D vwCl ws H) (hD : va_D A ws) (hS : va_S A s.heap H locs) (hA : ∀ q, s.heap.size ≤ q → A q) (t0 : Nat) {cI : ClassId} (ht : tys[t0]? = some (cI, .long)) {n : Int32} (N : Nat) (hn : n = nI N) (hN : N ≤ 1000) (hcells : cells + 1 ≤ R.cells) (hslots : slots + N ≤ R.slots) (hdg : decode cc pc = .ok (.newarray .long, 2))
    (kk : ∀ (q : Nat) (H1 : Heap), va_P D vwCl (ws ++ [(q, .inl (cI, N, .inr (.inl (fun _ => 0))))]) H1 → va_D A (ws ++ [(q, .inl (cI, N, .inr (.inl (fun _ => 0))))]) → va_S A s.heap H1 locs → W p l e R s m args below meth c H1 locs (cells + 1) (slots + N) Q (F0 m (pc + 2) ls (.ref q :: rest))) : W p l e R s m args below meth c H locs cells slots Q (F0 m pc ls (.int n :: rest)) := by
  subst hn
  have hz : N < 2 ^ 31 := Nat.lt_of_le_of_lt hN (by decide)
  refine va_newa (atype := .long) (ty := .long) (a0 := (N, .inr (.inl (fun _ => 0)))) hx hb harr rfl hK hP hD hS hA (fun cA => rfl) (nI_pos hz) (nI_clamp hz) (by show N * 8 ≤ 536870912; omega) hcells hslots hdg (fun q cA H1 hK1 hP1 hD1 hS1 => ?_)
  have e1 : s.vm.findClass "[J" = some cI := (hK.2 t0 _ ht).2
  have e2 : s.vm.findClass "[J" = some cA := (hK1.2 tys.length (cA, .long) (by simp)).2
  have e3 : cA = cI := Option.some.inj (e2.symm.trans e1)
  subst e3
  exact kk q H1 hP1 hD1 hS1
end NewL
set_option maxHeartbeats 4000000 in
set_option maxRecDepth 100000 in
theorem whole_start {p : Program} {e : Env} {s : State} {m : MethodId} {below : List Frame} {meth : Method} {c : Code} (l : Launch) (hflags : l.flags = flags0) {b L : Nat} {xs : Nat → Int32} (hL : L ≤ 2048) (C0 : lw_At p s m meth c b L xs) : W p l e room_1 s m #[Value.ref b] below meth c s.heap [] 0 0 (lw_Z below #[Value.ref b] s) (entryFrame m ([Value.ref b] : List Value).toArray 9) := by
  obtain ⟨hx, hb, hr, hml, hown, hts0, hX, hbl, hlocks, hgv⟩ := C0
  have hlt : l.stackTraces = false := by
    unfold Launch.stackTraces
    rw [hflags]
    decide +kernel
  have hb : c.code = cL_law := hb
  have hown : s.vm.findClass RL = some m.cls := hown
  have hts : ∀ w ∈ wsL_law, w.before #[Value.ref b] s = true := fun w h => hts0 w (wsL_law_in w h)
  have ht : ∀ (k : Nat) (w : Cond), tables_1[k]? = some w → w.before #[Value.ref b] s = true := fun k w h => hts0 w (List.mem_append_right _ (List.mem_of_getElem? h))
  have hn : ∀ (k : Nat) (w : Cond), (flatC (Jvm.Cond.and given_1 narrow_1))[k]? = some w → w.before #[Value.ref b] s = true := fun k w h => flat_of_before _ hgv w (List.mem_of_getElem? h)
  have hG : gG (lwA s) s s.heap := ⟨start_V ht hn, start_H ht hn⟩
  have hN := start_N hn
  obtain ⟨D, cI, cJ, cS, hK⟩ := start_K hts0 ht
  have X : LX p s m c D cI cJ cS b L xs := ⟨hx, hb, hml, hown, hts, hX, hbl, hK, hG, hN⟩
  have hA : ∀ q : Nat, s.heap.size ≤ q → lwA s q := fun _ h => h
  have hS : va_S (lwA s) s.heap s.heap [] := va_S.rf
  have hP : va_P D vwCl [] s.heap := fun k q h => by simp at h
  have hD : va_D (lwA s) [] := ⟨fun i j p q h => by simp at h, fun k q h => by simp at h⟩
  have hl := lv_entry ([.ref b]) (n := 9) (Nat.le_of_ble_eq_true rfl)
  rw [lg_entry_eq]
  generalize (lg_sl ([.ref b]) ++ List.replicate (9 - (lg_sl ([.ref b])).length) Slot.unset).toArray = ls at hl ⊢
  have hl : lv_has ls 9 [(0, .ref b)] := hl
  refine va_new (ci := 8) (fs := [.null, .null]) (C := RX8) (T := TX8) (N := 2) hx hb hts0 inX8 tyX8 tyX8_ok hown (own := RL) (ht 18 _ (by decide +kernel)) (ht 19 _ (by decide +kernel)) (ht 1 _ (by decide +kernel)) hK hP hD hS hA rfl (fun j hj => by rcases (show j = 0 ∨ j = 1 by omega) with rfl | rfl <;> rfl) (Nat.le_of_ble_eq_true rfl) (Nat.le_of_ble_eq_true rfl) dL_law_0 (fun h0 H hP hD hS => ?_)
  have hP : va_P D vwCl ([] ++ [(h0, .inr (8, [.null, .null]))]) H := hP
  refine lv_dup hx hb dL_law_3 rfl ?_
  refine my_callI_v (ret := none) (As := []) (rest := [.ref h0]) (wc := [(h0, .inr (8, [.null, .null]))]) (wr := []) ⟨hx, hb, hml, hown, hts⟩ (met_X8_init l D cI cJ cS h0 _) (cwI 0 hts gL_law_X8_init rfl rfl rfl (ht 1 _ (by decide +kernel)) (ht 20 _ (by decide +kernel)) (ht 21 _ (by decide +kernel)) rfl (by decide +kernel) ⟨Nat.le_of_ble_eq_true rfl, Nat.le_of_ble_eq_true rfl⟩) hK hP hD hS hA hG [0] [] rfl rfl rfl rfl (by decide) rfl hl.1 (Nat.le_of_ble_eq_true rfl) rfl dL_law_4 ⟨Nat.le_of_ble_eq_true rfl, Nat.le_of_ble_eq_true rfl⟩ (fun u H locs hw hP hD hS => ?_)
  have hP : va_P D vwCl (hcw h0 u.1 u.2.1 0 u.2.2.2 (fun _ => iniV) (fun _ => iniA) u.2.2.1 iniV iniA cI cS) H := hP
  have hD : va_D (lwA s) (hcw h0 u.1 u.2.1 0 u.2.2.2 (fun _ => iniV) (fun _ => iniA) u.2.2.1 iniV iniA cI cS) := hD
  refine lv_astore_n (lv' := [(1, .ref h0), (0, .ref b)]) hx hb dL_law_7 rfl hl (by decide) rfl (fun ls hl => ?_)
  refine va_new (ci := 9) (fs := [.null, .null, .int (0 : Int32), .int (0 : Int32), .int (0 : Int32), .long (0 : Int64)]) (C := RX9) (T := TX9) (N := 6) hx hb hts0 inX9 tyX9 tyX9_ok hown (own := RL) (ht 745 _ (by decide +kernel)) (ht 746 _ (by decide +kernel)) (ht 10 _ (by decide +kernel)) hK hP hD hS hA rfl (fun j hj => by rcases (show j = 0 ∨ j = 1 ∨ j = 2 ∨ j = 3 ∨ j = 4 ∨ j = 5 by omega) with rfl | rfl | rfl | rfl | rfl | rfl <;> rfl) (Nat.le_of_ble_eq_true rfl) (Nat.le_of_ble_eq_true rfl) dL_law_8 (fun h9 H hP hD hS => ?_)
  refine lv_dup hx hb dL_law_11 rfl ?_
  refine my_callI_v (ret := none) (As := []) (rest := [.ref h9]) (wc := [(h9, .inr (9, [.null, .null, .int (0 : Int32), .int (0 : Int32), .int (0 : Int32), .long (0 : Int64)]))]) (wr := hcw h0 u.1 u.2.1 0 u.2.2.2 (fun _ => iniV) (fun _ => iniA) u.2.2.1 iniV iniA cI cS) ⟨hx, hb, hml, hown, hts⟩ (met_X9_init l D cI cJ cS h9 _) (cwI 0 hts gL_law_X9_init rfl rfl rfl (ht 10 _ (by decide +kernel)) (ht 747 _ (by decide +kernel)) (ht 748 _ (by decide +kernel)) rfl (by decide +kernel) ⟨Nat.le_of_ble_eq_true rfl, Nat.le_of_ble_eq_true rfl⟩) hK hP hD hS hA hG _ _ (sp_C _ _) (sp_R _ _) (sp_nC _ _) (sp_nR _) (sp_dis _ _) rfl hl.1 (Nat.le_of_ble_eq_true rfl) rfl dL_law_12 ⟨Nat.le_of_ble_eq_true rfl, Nat.le_of_ble_eq_true rfl⟩ (fun u9 H locs hw9 hP hD hS => ?_)
  refine lv_astore_n (lv' := [(2, .ref h9), (1, .ref h0), (0, .ref b)]) hx hb dL_law_15 rfl hl (by decide) rfl (fun ls hl => ?_)
  refine lv_iconst (v := 1) hx hb dL_law_16 (by decide) ?_
  refine my_newl hx hb (ht 947 _ (by decide +kernel)) hK hP hD hS hA 1 rfl 1 rfl (by decide) (Nat.le_of_ble_eq_true rfl) (Nat.le_of_ble_eq_true rfl) dL_law_17 (fun o0 H hP hD hS => ?_)
  rw [List.append_assoc] at hP hD
  have hP := hP.swp
  have hD := hD.swp
  refine lv_astore_n (lv' := [(3, .ref o0), (2, .ref h9), (1, .ref h0), (0, .ref b)]) hx hb dL_law_19 rfl hl (by decide) rfl (fun ls hl => ?_)
  refine lv_iconst (v := 0) hx hb dL_law_20 (by decide) ?_
  refine lv_istore (lv' := [(4, .int 0), (3, .ref o0), (2, .ref h9), (1, .ref h0), (0, .ref b)]) hx hb dL_law_21 hl (by decide) rfl (fun ls hl => ?_)
  refine W.widen (k := 82 + 0) (n := 1376 + 6 * 0) (Nat.le_of_ble_eq_true rfl) (Nat.le_of_ble_eq_true rfl) ?_
  exact law_loop X hlt hr hlocks hL (L + 1) 0 (by omega) (by omega) iniV iniA 0 u.2.2.2 (fun _ => iniV) (fun _ => iniA) (fun _ => 0) 0 0 0 0 _ (fun _ => 0) li_ini H locs ls hP hD hS (lv_sub hl [4, 3, 2, 1, 0] rfl)
