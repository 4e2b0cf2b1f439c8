theorem waits_keep : ∀ (n : Nat) (np th ed : Int32) (hh : Int64) (w pf : Nat → Int32) (t b : Int32) (i k : Nat), k < 49 → (LP_X9_waits n np th ed hh w pf t b i).2 k = w k := by
  intro n
  induction n with
  | zero => intro np th ed hh w pf t b i k hk; rfl
  | succ n ih =>
    intro np th ed hh w pf t b i k hk
    simp only [LP_X9_waits]
    split
    · rfl
    · split
      · rfl
      · rw [ih _ _ _ _ _ _ _ _ _ _ hk, pk_un (by omega), pk_un (by omega)]
theorem waits_48 {np th ed : Int32} {hh : Int64} {w pf x : Nat → Int32} {t b : Int32} (h : x = F_X9_waits np th ed hh w pf t b) : x 48 = w 48 + 1 := by
  rw [h]
  simp only [F_X9_waits]
  rw [pk_us, pk_un (by omega), pk_un (by omega), waits_keep _ _ _ _ _ _ _ _ _ _ _ (by decide)]
theorem in_rng {t b d r : Int32} (h : r = F_X9_in t b d) (c : ¬ r = 0) : ¬ t < b ∧ ¬ d < t := by
  simp only [F_X9_in] at h
  split at h
  · exact absurd h c
  · rename_i c1
    split at h
    · exact absurd h c
    · rename_i c2
      exact ⟨c1, c2⟩
theorem in_vpg {t r : Int32} (a n : Nat) (h : r = F_X9_in t (nI a) (nI n)) (c : ¬ r = 0) (hn : n < 10000 ∧ a < 10000) : vp_in t (n + 1) := by
  obtain ⟨c1, c2⟩ := in_rng h c
  have c0 : ¬ t < 0 := fun q => c1 (Int32.lt_of_lt_of_le q (nI_pos' (by omega)))
  obtain ⟨j, hj, e⟩ := nI_of c0
  subst e
  have : ¬ n < j := fun q => c2 (nI_lt q hj)
  exact vp_in_nI (by omega) (by omega)
theorem room40 {a b : Int32} (ha : vp_in a 41) (hb : vp_in b 41) (c : ¬ (40 : Int32) < a + b) : tn a + tn b ≤ 40 := by
  have h1 := tn_lt ha
  have h2 := tn_lt hb
  rw [tn_eq ha, tn_eq hb, nI_add] at c
  rcases Nat.lt_or_ge 40 (tn a + tn b) with q | q
  · exact absurd (nI_lt q (by omega)) c
  · exact q
def LP_X9_spin : Nat → Int32 → Int32 → Int32 → Int64 → (Nat → Int32) → (Nat → Int32) → Int32 → Int32 → Int32 → Nat → Int32 → Int32 → (Nat) × (Int32) × (Int32) × (Nat → Int32)
  | 0, _, _, _, _, w, _, _, _, _, i, tt, ss => (i, tt, ss, w)
  | n + 1, np, th, ed, hh, w, pf, t, b, d, i, tt, ss =>
    if d ≤ nI i then
      (i, tt, ss, w)
    else
      let q2 := F_X9_codeOf (((ss + t) + (6 : Int32)) - ((ss + t) + (6 : Int32)) / (6 : Int32) * (6 : Int32))
      let q3 := F_X9_waits np th ed hh w pf (tt + b) q2
      LP_X9_spin n np th ed hh q3 pf t b d (i + 1) (tt + b) (((ss + t) + (6 : Int32)) - ((ss + t) + (6 : Int32)) / (6 : Int32) * (6 : Int32))
set_option maxHeartbeats 4000000 in
set_option maxRecDepth 100000 in
theorem lps_X9_spin {p : Program} (l : Launch) {e : Env} {R : Room} {s : State} {m : MethodId} {args : Array Value} {below : List Frame} {meth : Method} {c : Code} {A : Nat → Prop} {cells slots : Nat} {Q : State → Prop} (D : va_G) (cI cJ cS : ClassId) (hx : p.tables.exec = Jvm.exec) (hb : c.code = cX9_spin) (hml : c.maxLocals = 8) (hown : s.vm.findClass RX9 = some m.cls) (hts : ∀ w ∈ wsX9_spin, w.before args s = true) (hK : va_K D vwCl (tyz cI cJ cS) s) (hA : ∀ q, s.heap.size ≤ q → A q) (hG : gG A s s.heap) (hR1 : 1 ≤ R.frames) (hR2 : 23 ≤ R.locals) (hRc : cells ≤ R.cells) (hRs : slots ≤ R.slots) : ∀ (n : Nat) (h0 : Nat) (a0 : Nat) (b0 : Nat) (np : Int32) (th : Int32) (ed : Int32) (hh : Int64) (w : Nat → Int32) (pf : Nat → Int32) (t : Int32) (b : Int32) (d : Int32) (m0 : Nat) (i : Nat) (tt : Int32) (ss : Int32) (H : Heap) (locs : List Loc) (ls : Array Slot), (vp_in d 41) → (i ≤ tn d) → (tn d < i + n) → (w 48 = nI (m0 + i)) → (m0 + tn d ≤ 40) → va_P D vwCl [(h0, .inr (9, [.ref a0, .ref b0, .int np, .int th, .int ed, .long hh])), (a0, .inl (cI, 129, .inl w)), (b0, .inl (cI, 516, .inl pf))] H → va_D A [(h0, .inr (9, [.ref a0, .ref b0, .int np, .int th, .int ed, .long hh])), (a0, .inl (cI, 129, .inl w)), (b0, .inl (cI, 516, .inl pf))] → va_S A s.heap H locs → lv_has ls 8 [(0, .ref h0), (1, .int t), (2, .int b), (3, .int d), (5, .int tt), (6, .int ss), (7, .int (nI i))] → (∀ (y : (Nat) × (Int32) × (Int32) × (Nat → Int32)) (H : Heap) (locs : List Loc) (ls : Array Slot), y = LP_X9_spin n np th ed hh w pf t b d i tt ss → va_P D vwCl [(h0, .inr (9, [.ref a0, .ref b0, .int np, .int th, .int ed, .long hh])), (a0, .inl (cI, 129, .inl y.2.2.2)), (b0, .inl (cI, 516, .inl pf))] H → va_D A [(h0, .inr (9, [.ref a0, .ref b0, .int np, .int th, .int ed, .long hh])), (a0, .inl (cI, 129, .inl y.2.2.2)), (b0, .inl (cI, 516, .inl pf))] → va_S A s.heap H locs → lv_has ls 8 [(0, .ref h0), (1, .int t), (2, .int b), (3, .int d), (5, .int y.2.1), (6, .int y.2.2.1), (7, .int (nI y.1))] → W p l e R s m args below meth c H locs cells slots Q (F0 m 189 ls [])) → W p l e R s m args below meth c H locs cells slots Q (F0 m 148 ls []) := by
  intro n
  induction n with
  | zero =>
    intro h0 a0 b0 np th ed hh w pf t b d m0 i tt ss H locs ls hd hi hm hc hs
    exact absurd hm (by omega)
  | succ n ih =>
    intro h0 a0 b0 np th ed hh w pf t b d m0 i tt ss H locs ls hd hi hm hc hs hP hD hS hl kk
    refine lv_iload hx hb dX9_spin_148 (lv_at hl 6 rfl) ?_
    refine lv_iload_n hx hb dX9_spin_150 rfl (lv_at hl 3 rfl) ?_
    refine lv_icmp_ge (tgt := 189) hx hb dX9_spin_151 (by decide) (fun c_1 => ?_) (fun c_1 => ?_)
    · skip
      exact kk (i, tt, ss, w) _ _ _ (by simp only [LP_X9_spin, if_pos c_1]) (hP.subm [0, 1, 2] rfl) (hD.sub [0, 1, 2] rfl rfl) hS (lv_sub hl [0, 1, 2, 3, 4, 5, 6] rfl)
    · skip
      refine lv_iload hx hb dX9_spin_154 (lv_at hl 4 rfl) ?_
      refine lv_iload_n hx hb dX9_spin_156 rfl (lv_at hl 2 rfl) ?_
      refine lv_iadd hx hb dX9_spin_157 ?_
      refine lv_istore (lv' := [(5, .int (tt + b)), (0, .ref h0), (1, .int t), (2, .int b), (3, .int d), (6, .int ss), (7, .int (nI i))]) hx hb dX9_spin_158 hl (by decide) rfl (fun ls hl => ?_)
      refine lv_iload hx hb dX9_spin_160 (lv_at hl 5 rfl) ?_
      refine lv_iload_n hx hb dX9_spin_162 rfl (lv_at hl 2 rfl) ?_
      refine lv_iadd hx hb dX9_spin_163 ?_
      refine lv_bipush (v := 6) hx hb dX9_spin_164 (by decide) ?_
      refine lv_iadd hx hb dX9_spin_166 ?_
      refine lv_bipush (v := 6) hx hb dX9_spin_167 (by decide) ?_
      refine lv_irem hx hb dX9_spin_169 (by decide) ?_
      refine lv_istore (lv' := [(6, .int (((ss + t) + (6 : Int32)) - ((ss + t) + (6 : Int32)) / (6 : Int32) * (6 : Int32))), (5, .int (tt + b)), (0, .ref h0), (1, .int t), (2, .int b), (3, .int d), (7, .int (nI i))]) hx hb dX9_spin_170 hl (by decide) rfl (fun ls hl => ?_)
      refine lv_aload_n hx hb dX9_spin_172 rfl (lv_at hl 2 rfl) ?_
      refine lv_iload hx hb dX9_spin_173 (lv_at hl 1 rfl) ?_
      refine lv_iload hx hb dX9_spin_175 (lv_at hl 0 rfl) ?_
      refine my_callS_i (As := [.int (((ss + t) + (6 : Int32)) - ((ss + t) + (6 : Int32)) / (6 : Int32) * (6 : Int32))]) (rest := [.int (tt + b), .ref h0]) (wc := []) (wr := [(h0, .inr (9, [.ref a0, .ref b0, .int np, .int th, .int ed, .long hh])), (a0, .inl (cI, 129, .inl w)), (b0, .inl (cI, 516, .inl pf))]) ⟨hx, hb, hml, hown, hts⟩ (met_X9_codeOf l D cI cJ cS (((ss + t) + (6 : Int32)) - ((ss + t) + (6 : Int32)) / (6 : Int32) * (6 : Int32)) _) (va_cwS 1 hts gX9_spin_X9_codeOf rfl rfl rfl (by decide +kernel) ⟨Nat.le_trans (Nat.le_of_ble_eq_true rfl) hR1, Nat.le_trans (Nat.le_of_ble_eq_true rfl) hR2⟩) hK hP hD hS hA hG [] [0, 1, 2] rfl rfl rfl rfl (by decide) rfl hl.1 (Nat.le_of_ble_eq_true rfl) rfl dX9_spin_177 ⟨hRc, hRs⟩ (fun r_2 _ H locs hw_2 hP hD hS => ?_)
      have hP : va_P D vwCl [(h0, .inr (9, [.ref a0, .ref b0, .int np, .int th, .int ed, .long hh])), (a0, .inl (cI, 129, .inl w)), (b0, .inl (cI, 516, .inl pf))] H := hP
      have hD : va_D A [(h0, .inr (9, [.ref a0, .ref b0, .int np, .int th, .int ed, .long hh])), (a0, .inl (cI, 129, .inl w)), (b0, .inl (cI, 516, .inl pf))] := hD
      refine my_callV_v (As := [.int (tt + b), .int r_2]) (rest := []) (wc := [(h0, .inr (9, [.ref a0, .ref b0, .int np, .int th, .int ed, .long hh])), (a0, .inl (cI, 129, .inl w)), (b0, .inl (cI, 516, .inl pf))]) (wr := []) ⟨hx, hb, hml, hown, hts⟩ (met_X9_waits l D cI cJ cS h0 a0 b0 np th ed hh w pf (tt + b) r_2 (by rw [hc]; exact vp_in_nI (by have := nz_lt hd hi c_1; omega) (by decide)) _) (cwV 2 hts gX9_spin_X9_waits rfl rfl rfl (by decide +kernel) ⟨Nat.le_trans (Nat.le_of_ble_eq_true rfl) hR1, Nat.le_trans (Nat.le_of_ble_eq_true rfl) hR2⟩) hK hP hD hS hA hG [0, 1, 2] [] rfl rfl rfl rfl (by decide) 0 rfl rfl rfl hl.1 (Nat.le_of_ble_eq_true rfl) rfl dX9_spin_180 ⟨hRc, hRs⟩ (fun x_3_0 H locs hw_3 hP hD hS => ?_)
      have hP : va_P D vwCl [(h0, .inr (9, [.ref a0, .ref b0, .int np, .int th, .int ed, .long hh])), (a0, .inl (cI, 129, .inl x_3_0)), (b0, .inl (cI, 516, .inl pf))] H := hP
      have hD : va_D A [(h0, .inr (9, [.ref a0, .ref b0, .int np, .int th, .int ed, .long hh])), (a0, .inl (cI, 129, .inl x_3_0)), (b0, .inl (cI, 516, .inl pf))] := hD
      refine lv_iinc (v := nI (i + 1)) (lv' := [(7, .int (nI (i + 1))), (6, .int (((ss + t) + (6 : Int32)) - ((ss + t) + (6 : Int32)) / (6 : Int32) * (6 : Int32))), (5, .int (tt + b)), (0, .ref h0), (1, .int t), (2, .int b), (3, .int d)]) hx hb dX9_spin_183 hl (k := 6) rfl (nI_1 _) (by decide) rfl (fun ls hl => ?_)
      refine lv_goto (tgt := 148) hx hb dX9_spin_186 (by decide) ?_
      exact ih h0 a0 b0 np th ed hh x_3_0 pf t b d m0 (i + 1) (tt + b) (((ss + t) + (6 : Int32)) - ((ss + t) + (6 : Int32)) / (6 : Int32) * (6 : Int32)) _ _ _ (hd) (nz_lt hd hi c_1) (by omega) (by rw [waits_48 hw_3, hc, nI_1]; rfl) (hs) (hP.subm [0, 1, 2] rfl) (hD.sub [0, 1, 2] rfl rfl) hS (lv_sub hl [3, 4, 5, 6, 2, 1, 0] rfl) (fun y H locs ls hy => kk y H locs ls (by rw [hy]; simp only [LP_X9_spin, if_neg c_1, ← hw_2, ← hw_3]))
def F_X9_spin (np : Int32) (th : Int32) (ed : Int32) (hh : Int64) (w : Nat → Int32) (pf : Nat → Int32) (t : Int32) (b : Int32) (d : Int32) : Int32 × Int32 × Int32 × (Nat → Int32) × (Nat → Int32) :=
  if t = (1 : Int32) then
    let q2 := F_X9_in b (1 : Int32) (1000 : Int32)
    if q2 = (0 : Int32) then
      let q4 := F_X9_fails np th ed hh w pf (1 : Int32)
      (q4.1, (np, q4.2, w, pf))
    else
      let q5 := F_X9_in d (1 : Int32) (40 : Int32)
      if q5 = (0 : Int32) then
        let q22 := F_X9_fails np th ed hh w pf (1 : Int32)
        (q22.1, (np, q22.2, w, pf))
      else
        if w 48 = (0 : Int32) then
          let q15 := F_X9_sectorOf (w 7)
          if (40 : Int32) < (w 48) + d then
            let q17 := F_X9_fails np th ed hh w pf (2 : Int32)
            (q17.1, (np, q17.2, w, pf))
          else
            if q15 = (-1 : Int32) then
              let q21 := F_X9_fails np th ed hh w pf (2 : Int32)
              (q21.1, (np, q21.2, w, pf))
            else
              let q19 := F_X9_save np th ed hh w pf
              let q20 := LP_X9_spin 41 q19.1 q19.2.1 ed hh w q19.2.2 t b d 0 (w 0) q15
              (q20.2.2.2 48, (q19.1, q19.2.1, q20.2.2.2, q19.2.2))
        else
          let q8 := F_X9_sectorOf (w (((49 + (2 * (tn (w 48)))) - 2) + 1))
          if (40 : Int32) < (w 48) + d then
            let q10 := F_X9_fails np th ed hh w pf (2 : Int32)
            (q10.1, (np, q10.2, w, pf))
          else
            if q8 = (-1 : Int32) then
              let q14 := F_X9_fails np th ed hh w pf (2 : Int32)
              (q14.1, (np, q14.2, w, pf))
            else
              let q12 := F_X9_save np th ed hh w pf
              let q13 := LP_X9_spin 41 q12.1 q12.2.1 ed hh w q12.2.2 t b d 0 (w ((49 + (2 * (tn (w 48)))) - 2)) q8
              (q13.2.2.2 48, (q12.1, q12.2.1, q13.2.2.2, q12.2.2))
  else
    if t = (-1 : Int32) then
      let q25 := F_X9_in b (1 : Int32) (1000 : Int32)
      if q25 = (0 : Int32) then
        let q27 := F_X9_fails np th ed hh w pf (1 : Int32)
        (q27.1, (np, q27.2, w, pf))
      else
        let q28 := F_X9_in d (1 : Int32) (40 : Int32)
        if q28 = (0 : Int32) then
          let q45 := F_X9_fails np th ed hh w pf (1 : Int32)
          (q45.1, (np, q45.2, w, pf))
        else
          if w 48 = (0 : Int32) then
            let q38 := F_X9_sectorOf (w 7)
            if (40 : Int32) < (w 48) + d then
              let q40 := F_X9_fails np th ed hh w pf (2 : Int32)
              (q40.1, (np, q40.2, w, pf))
            else
              if q38 = (-1 : Int32) then
                let q44 := F_X9_fails np th ed hh w pf (2 : Int32)
                (q44.1, (np, q44.2, w, pf))
              else
                let q42 := F_X9_save np th ed hh w pf
                let q43 := LP_X9_spin 41 q42.1 q42.2.1 ed hh w q42.2.2 t b d 0 (w 0) q38
                (q43.2.2.2 48, (q42.1, q42.2.1, q43.2.2.2, q42.2.2))
          else
            let q31 := F_X9_sectorOf (w (((49 + (2 * (tn (w 48)))) - 2) + 1))
            if (40 : Int32) < (w 48) + d then
              let q33 := F_X9_fails np th ed hh w pf (2 : Int32)
              (q33.1, (np, q33.2, w, pf))
            else
              if q31 = (-1 : Int32) then
                let q37 := F_X9_fails np th ed hh w pf (2 : Int32)
                (q37.1, (np, q37.2, w, pf))
              else
                let q35 := F_X9_save np th ed hh w pf
                let q36 := LP_X9_spin 41 q35.1 q35.2.1 ed hh w q35.2.2 t b d 0 (w ((49 + (2 * (tn (w 48)))) - 2)) q31
                (q36.2.2.2 48, (q35.1, q35.2.1, q36.2.2.2, q35.2.2))
    else
      let q24 := F_X9_fails np th ed hh w pf (1 : Int32)
      (q24.1, (np, q24.2, w, pf))
set_option maxHeartbeats 4000000 in
set_option maxRecDepth 100000 in
theorem met_X9_spin (l : Launch) (D : va_G) (cI cJ cS : ClassId) (h0 : Nat) (a0 : Nat) (b0 : Nat) (np : Int32) (th : Int32) (ed : Int32) (hh : Int64) (w : Nat → Int32) (pf : Nat → Int32) (t : Int32) (b : Int32) (d : Int32) (hz : vp_in np 5) (hv : vp_in (w 48) 41) : ∀ sz : Nat, Met l yX9_spin wsX9_spin ({ frames := 1, cells := 0, slots := 0, locals := 23 } : Room) (va_Pc [.ref h0, .int t, .int b, .int d] (cPre D (tyz cI cJ cS) ([(h0, .inr (9, [.ref a0, .ref b0, .int np, .int th, .int ed, .long hh])), (a0, .inl (cI, 129, .inl w)), (b0, .inl (cI, 516, .inl pf))]) sz)) (va_Qi (fun (r : Int32) (u : Int32 × Int32 × (Nat → Int32) × (Nat → Int32)) => (r, u) = F_X9_spin np th ed hh w pf t b d) (fun u => cPost D (tyz cI cJ cS) (va_A ([(h0, .inr (9, [.ref a0, .ref b0, .int np, .int th, .int ed, .long hh])), (a0, .inl (cI, 129, .inl w)), (b0, .inl (cI, 516, .inl pf))]) sz) ([(h0, .inr (9, [.ref a0, .ref b0, .int u.1, .int u.2.1, .int ed, .long hh])), (a0, .inl (cI, 129, .inl u.2.2.1)), (b0, .inl (cI, 516, .inl u.2.2.2))])) (va_A ([(h0, .inr (9, [.ref a0, .ref b0, .int np, .int th, .int ed, .long hh])), (a0, .inl (cI, 129, .inl w)), (b0, .inl (cI, 516, .inl pf))]) sz)) 0 0 (va_A ([(h0, .inr (9, [.ref a0, .ref b0, .int np, .int th, .int ed, .long hh])), (a0, .inl (cI, 129, .inl w)), (b0, .inl (cI, 516, .inl pf))]) sz) := by
  refine my_met (QC := fun A => (va_Qi (fun (r : Int32) (u : Int32 × Int32 × (Nat → Int32) × (Nat → Int32)) => (r, u) = F_X9_spin np th ed hh w pf t b d) (fun u => cPost D (tyz cI cJ cS) A ([(h0, .inr (9, [.ref a0, .ref b0, .int u.1, .int u.2.1, .int ed, .long hh])), (a0, .inl (cI, 129, .inl u.2.2.1)), (b0, .inl (cI, 516, .inl u.2.2.2))])) A)) (cc := cX9_spin) (maxL := 8) (ret := (some .int)) (by decide) rfl (Nat.le_of_ble_eq_true rfl) ?_
  intro p e s m below meth c ls A hx hb hml hr hts hown hlocks hname hK hP hD hS hA hG hl
  have hown : s.vm.findClass RX9 = some m.cls := hown
  have hl : lv_has ls 8 [(0, .ref h0), (1, .int t), (2, .int b), (3, .int d)] := hl
  have hP : va_P D vwCl [(h0, .inr (9, [.ref a0, .ref b0, .int np, .int th, .int ed, .long hh])), (a0, .inl (cI, 129, .inl w)), (b0, .inl (cI, 516, .inl pf))] s.heap := hP
  have hD : va_D A [(h0, .inr (9, [.ref a0, .ref b0, .int np, .int th, .int ed, .long hh])), (a0, .inl (cI, 129, .inl w)), (b0, .inl (cI, 516, .inl pf))] := hD
  have hiX9 : ∀ w ∈ u_ws RX9 TX9 6, w ∈ wsX9_spin := by decide +kernel
  have hk_7 := hts (.fieldLink RX9 7 "HallCommutatorModel" "s" "[I") (by decide +kernel)
  refine lv_iload_n hx hb dX9_spin_0 rfl (lv_at hl 1 rfl) ?_
  refine lv_iconst (v := 1) hx hb dX9_spin_1 (by decide) ?_
  refine lv_icmp_eq (tgt := 10) hx hb dX9_spin_2 (by decide) (fun c_1 => ?_) (fun c_1 => ?_)
  · skip
    refine lv_iload_n hx hb dX9_spin_10 rfl (lv_at hl 2 rfl) ?_
    refine lv_iconst (v := 1) hx hb dX9_spin_11 (by decide) ?_
    refine lv_sipush (v := 1000) hx hb dX9_spin_12 (by decide) ?_
    refine my_callS_i (As := [.int b, .int (1 : Int32), .int (1000 : Int32)]) (rest := []) (wc := []) (wr := [(h0, .inr (9, [.ref a0, .ref b0, .int np, .int th, .int ed, .long hh])), (a0, .inl (cI, 129, .inl w)), (b0, .inl (cI, 516, .inl pf))]) ⟨hx, hb, hml, hown, hts⟩ (met_X9_in l D cI cJ cS b (1 : Int32) (1000 : Int32) _) (va_cwS 3 hts gX9_spin_X9_in rfl rfl rfl (by decide +kernel) ⟨Nat.le_of_ble_eq_true rfl, Nat.le_of_ble_eq_true rfl⟩) hK hP hD hS hA hG [] [0, 1, 2] rfl rfl rfl rfl (by decide) rfl hl.1 (Nat.le_of_ble_eq_true rfl) rfl dX9_spin_15 ⟨Nat.le_of_ble_eq_true rfl, Nat.le_of_ble_eq_true rfl⟩ (fun r_2 _ H locs hw_2 hP hD hS => ?_)
    have hP : va_P D vwCl [(h0, .inr (9, [.ref a0, .ref b0, .int np, .int th, .int ed, .long hh])), (a0, .inl (cI, 129, .inl w)), (b0, .inl (cI, 516, .inl pf))] H := hP
    have hD : va_D A [(h0, .inr (9, [.ref a0, .ref b0, .int np, .int th, .int ed, .long hh])), (a0, .inl (cI, 129, .inl w)), (b0, .inl (cI, 516, .inl pf))] := hD
    refine lv_if_eq (tgt := 31) hx hb dX9_spin_18 (by decide) (fun c_3 => ?_) (fun c_3 => ?_)
    · skip
      refine lv_aload_n hx hb dX9_spin_31 rfl (lv_at hl 0 rfl) ?_
      refine lv_iconst (v := 1) hx hb dX9_spin_32 (by decide) ?_
      refine my_callV_i (As := [.int (1 : Int32)]) (rest := []) (wc := [(h0, .inr (9, [.ref a0, .ref b0, .int np, .int th, .int ed, .long hh])), (a0, .inl (cI, 129, .inl w)), (b0, .inl (cI, 516, .inl pf))]) (wr := []) ⟨hx, hb, hml, hown, hts⟩ (met_X9_fails l D cI cJ cS h0 a0 b0 np th ed hh w pf (1 : Int32) _) (cwV 1 hts gX9_spin_X9_fails rfl rfl rfl (by decide +kernel) ⟨Nat.le_of_ble_eq_true rfl, Nat.le_of_ble_eq_true rfl⟩) hK hP hD hS hA hG [0, 1, 2] [] rfl rfl rfl rfl (by decide) 0 rfl rfl rfl hl.1 (Nat.le_of_ble_eq_true rfl) rfl dX9_spin_33 ⟨Nat.le_of_ble_eq_true rfl, Nat.le_of_ble_eq_true rfl⟩ (fun r_4 x_4_0 H locs hw_4 hP hD hS => ?_)
      have hP : va_P D vwCl [(h0, .inr (9, [.ref a0, .ref b0, .int np, .int x_4_0, .int ed, .long hh])), (a0, .inl (cI, 129, .inl w)), (b0, .inl (cI, 516, .inl pf))] H := hP
      have hD : va_D A [(h0, .inr (9, [.ref a0, .ref b0, .int np, .int x_4_0, .int ed, .long hh])), (a0, .inl (cI, 129, .inl w)), (b0, .inl (cI, 516, .inl pf))] := hD
      exact my_iret hx hb hr rfl hlocks hK hP hD hS (np, x_4_0, w, pf) (by show (r_4, (np, x_4_0, w, pf)) = F_X9_spin np th ed hh w pf t b d; simp only [F_X9_spin, if_pos c_1, if_pos c_3, ← hw_2, ← hw_4]) [0, 1, 2] rfl rfl dX9_spin_36
    · skip
      refine lv_iload_n hx hb dX9_spin_21 rfl (lv_at hl 3 rfl) ?_
      refine lv_iconst (v := 1) hx hb dX9_spin_22 (by decide) ?_
      refine lv_bipush (v := 40) hx hb dX9_spin_23 (by decide) ?_
      refine my_callS_i (As := [.int d, .int (1 : Int32), .int (40 : Int32)]) (rest := []) (wc := []) (wr := [(h0, .inr (9, [.ref a0, .ref b0, .int np, .int th, .int ed, .long hh])), (a0, .inl (cI, 129, .inl w)), (b0, .inl (cI, 516, .inl pf))]) ⟨hx, hb, hml, hown, hts⟩ (met_X9_in l D cI cJ cS d (1 : Int32) (40 : Int32) _) (va_cwS 3 hts gX9_spin_X9_in rfl rfl rfl (by decide +kernel) ⟨Nat.le_of_ble_eq_true rfl, Nat.le_of_ble_eq_true rfl⟩) hK hP hD hS hA hG [] [0, 1, 2] rfl rfl rfl rfl (by decide) rfl hl.1 (Nat.le_of_ble_eq_true rfl) rfl dX9_spin_25 ⟨Nat.le_of_ble_eq_true rfl, Nat.le_of_ble_eq_true rfl⟩ (fun r_5 _ H locs hw_5 hP hD hS => ?_)
      have hP : va_P D vwCl [(h0, .inr (9, [.ref a0, .ref b0, .int np, .int th, .int ed, .long hh])), (a0, .inl (cI, 129, .inl w)), (b0, .inl (cI, 516, .inl pf))] H := hP
      have hD : va_D A [(h0, .inr (9, [.ref a0, .ref b0, .int np, .int th, .int ed, .long hh])), (a0, .inl (cI, 129, .inl w)), (b0, .inl (cI, 516, .inl pf))] := hD
      refine lv_if_ne (tgt := 37) hx hb dX9_spin_28 (by decide) (fun c_6 => ?_) (fun c_6 => ?_)
      · skip
        refine lv_bipush (v := 49) hx hb dX9_spin_37 (by decide) ?_
        refine lv_iconst (v := 2) hx hb dX9_spin_39 (by decide) ?_
        refine lv_aload_n hx hb dX9_spin_40 rfl (lv_at hl 0 rfl) ?_
        refine va_get (D := D) (ci := 9) (v := .ref a0) (C := RX9) (T := TX9) (N := 6) hx hb hts hiX9 hown hK hP 0 rfl rfl 0 (by decide) hk_7 (fun _ h9 => h9) rfl dX9_spin_41 ?_
        refine lv_bipush (v := 48) hx hb dX9_spin_44 (by decide) ?_
        refine my_iald hx hb hK hP 1 0 rfl rfl 48 (rfl) (by decide) (by decide) dX9_spin_46 ?_
        refine W.eq (g2 := F0 m 47 ls [.int (nI (tn (w 48))), .int (2 : Int32), .int (49 : Int32)]) (by rw [← tn_eq hv]) ?_
        refine my_imulN hx hb 2 (tn (w 48)) rfl rfl dX9_spin_47 ?_
        refine my_iaddN hx hb 49 (2 * (tn (w 48))) rfl rfl dX9_spin_48 ?_
        refine lv_iconst (v := 2) hx hb dX9_spin_49 (by decide) ?_
        refine my_isubN hx hb (49 + (2 * (tn (w 48)))) 2 rfl rfl (by omega) dX9_spin_50 ?_
        refine lv_istore (lv' := [(4, .int (nI ((49 + (2 * (tn (w 48)))) - 2))), (0, .ref h0), (1, .int t), (2, .int b), (3, .int d)]) hx hb dX9_spin_51 hl (by decide) rfl (fun ls hl => ?_)
        refine lv_aload_n hx hb dX9_spin_53 rfl (lv_at hl 1 rfl) ?_
        refine va_get (D := D) (ci := 9) (v := .ref a0) (C := RX9) (T := TX9) (N := 6) hx hb hts hiX9 hown hK hP 0 rfl rfl 0 (by decide) hk_7 (fun _ h9 => h9) rfl dX9_spin_54 ?_
        refine lv_bipush (v := 48) hx hb dX9_spin_57 (by decide) ?_
        refine my_iald hx hb hK hP 1 0 rfl rfl 48 (rfl) (by decide) (by decide) dX9_spin_59 ?_
        refine lv_if_ne (tgt := 72) hx hb dX9_spin_60 (by decide) (fun c_7 => ?_) (fun c_7 => ?_)
        · skip
          refine lv_aload_n hx hb dX9_spin_72 rfl (lv_at hl 1 rfl) ?_
          refine va_get (D := D) (ci := 9) (v := .ref a0) (C := RX9) (T := TX9) (N := 6) hx hb hts hiX9 hown hK hP 0 rfl rfl 0 (by decide) hk_7 (fun _ h9 => h9) rfl dX9_spin_73 ?_
          refine lv_iload hx hb dX9_spin_76 (lv_at hl 0 rfl) ?_
          refine my_iald hx hb hK hP 1 0 rfl rfl ((49 + (2 * (tn (w 48)))) - 2) (rfl) (by have := tn_lt hv; omega) (by decide) dX9_spin_78 ?_
          refine lv_istore (lv' := [(5, .int (w ((49 + (2 * (tn (w 48)))) - 2))), (4, .int (nI ((49 + (2 * (tn (w 48)))) - 2))), (0, .ref h0), (1, .int t), (2, .int b), (3, .int d)]) hx hb dX9_spin_79 hl (by decide) rfl (fun ls hl => ?_)
          refine lv_aload_n hx hb dX9_spin_81 rfl (lv_at hl 2 rfl) ?_
          refine va_get (D := D) (ci := 9) (v := .ref a0) (C := RX9) (T := TX9) (N := 6) hx hb hts hiX9 hown hK hP 0 rfl rfl 0 (by decide) hk_7 (fun _ h9 => h9) rfl dX9_spin_82 ?_
          refine lv_bipush (v := 48) hx hb dX9_spin_85 (by decide) ?_
          refine my_iald hx hb hK hP 1 0 rfl rfl 48 (rfl) (by decide) (by decide) dX9_spin_87 ?_
          refine lv_if_ne (tgt := 101) hx hb dX9_spin_88 (by decide) (fun _ => ?_) (fun c9 => absurd c9 c_7)
          refine lv_aload_n hx hb dX9_spin_101 rfl (lv_at hl 2 rfl) ?_
          refine va_get (D := D) (ci := 9) (v := .ref a0) (C := RX9) (T := TX9) (N := 6) hx hb hts hiX9 hown hK hP 0 rfl rfl 0 (by decide) hk_7 (fun _ h9 => h9) rfl dX9_spin_102 ?_
          refine lv_iload hx hb dX9_spin_105 (lv_at hl 1 rfl) ?_
          refine lv_iconst (v := 1) hx hb dX9_spin_107 (by decide) ?_
          refine my_iaddN hx hb ((49 + (2 * (tn (w 48)))) - 2) 1 rfl rfl dX9_spin_108 ?_
          refine my_iald hx hb hK hP 1 0 rfl rfl (((49 + (2 * (tn (w 48)))) - 2) + 1) (rfl) (by have := tn_lt hv; omega) (by decide) dX9_spin_109 ?_
          refine my_callS_i (As := [.int (w (((49 + (2 * (tn (w 48)))) - 2) + 1))]) (rest := []) (wc := []) (wr := [(h0, .inr (9, [.ref a0, .ref b0, .int np, .int th, .int ed, .long hh])), (a0, .inl (cI, 129, .inl w)), (b0, .inl (cI, 516, .inl pf))]) ⟨hx, hb, hml, hown, hts⟩ (met_X9_sectorOf l D cI cJ cS (w (((49 + (2 * (tn (w 48)))) - 2) + 1)) _) (va_cwS 1 hts gX9_spin_X9_sectorOf rfl rfl rfl (by decide +kernel) ⟨Nat.le_of_ble_eq_true rfl, Nat.le_of_ble_eq_true rfl⟩) hK hP hD hS hA hG [] [0, 1, 2] rfl rfl rfl rfl (by decide) rfl hl.1 (Nat.le_of_ble_eq_true rfl) rfl dX9_spin_110 ⟨Nat.le_of_ble_eq_true rfl, Nat.le_of_ble_eq_true rfl⟩ (fun r_8 _ H locs hw_8 hP hD hS => ?_)
          have hP : va_P D vwCl [(h0, .inr (9, [.ref a0, .ref b0, .int np, .int th, .int ed, .long hh])), (a0, .inl (cI, 129, .inl w)), (b0, .inl (cI, 516, .inl pf))] H := hP
          have hD : va_D A [(h0, .inr (9, [.ref a0, .ref b0, .int np, .int th, .int ed, .long hh])), (a0, .inl (cI, 129, .inl w)), (b0, .inl (cI, 516, .inl pf))] := hD
          refine lv_istore (lv' := [(6, .int r_8), (5, .int (w ((49 + (2 * (tn (w 48)))) - 2))), (4, .int (nI ((49 + (2 * (tn (w 48)))) - 2))), (0, .ref h0), (1, .int t), (2, .int b), (3, .int d)]) hx hb dX9_spin_113 hl (by decide) rfl (fun ls hl => ?_)
          refine lv_aload_n hx hb dX9_spin_115 rfl (lv_at hl 3 rfl) ?_
          refine va_get (D := D) (ci := 9) (v := .ref a0) (C := RX9) (T := TX9) (N := 6) hx hb hts hiX9 hown hK hP 0 rfl rfl 0 (by decide) hk_7 (fun _ h9 => h9) rfl dX9_spin_116 ?_
          refine lv_bipush (v := 48) hx hb dX9_spin_119 (by decide) ?_
          refine my_iald hx hb hK hP 1 0 rfl rfl 48 (rfl) (by decide) (by decide) dX9_spin_121 ?_
          refine lv_iload_n hx hb dX9_spin_122 rfl (lv_at hl 6 rfl) ?_
          refine lv_iadd hx hb dX9_spin_123 ?_
          refine lv_bipush (v := 40) hx hb dX9_spin_124 (by decide) ?_
          refine lv_icmp_gt (tgt := 135) hx hb dX9_spin_126 (by decide) (fun c_9 => ?_) (fun c_9 => ?_)
          · skip
            refine lv_aload_n hx hb dX9_spin_135 rfl (lv_at hl 3 rfl) ?_
            refine lv_iconst (v := 2) hx hb dX9_spin_136 (by decide) ?_
            refine my_callV_i (As := [.int (2 : Int32)]) (rest := []) (wc := [(h0, .inr (9, [.ref a0, .ref b0, .int np, .int th, .int ed, .long hh])), (a0, .inl (cI, 129, .inl w)), (b0, .inl (cI, 516, .inl pf))]) (wr := []) ⟨hx, hb, hml, hown, hts⟩ (met_X9_fails l D cI cJ cS h0 a0 b0 np th ed hh w pf (2 : Int32) _) (cwV 1 hts gX9_spin_X9_fails rfl rfl rfl (by decide +kernel) ⟨Nat.le_of_ble_eq_true rfl, Nat.le_of_ble_eq_true rfl⟩) hK hP hD hS hA hG [0, 1, 2] [] rfl rfl rfl rfl (by decide) 0 rfl rfl rfl hl.1 (Nat.le_of_ble_eq_true rfl) rfl dX9_spin_137 ⟨Nat.le_of_ble_eq_true rfl, Nat.le_of_ble_eq_true rfl⟩ (fun r_10 x_10_0 H locs hw_10 hP hD hS => ?_)
            have hP : va_P D vwCl [(h0, .inr (9, [.ref a0, .ref b0, .int np, .int x_10_0, .int ed, .long hh])), (a0, .inl (cI, 129, .inl w)), (b0, .inl (cI, 516, .inl pf))] H := hP
            have hD : va_D A [(h0, .inr (9, [.ref a0, .ref b0, .int np, .int x_10_0, .int ed, .long hh])), (a0, .inl (cI, 129, .inl w)), (b0, .inl (cI, 516, .inl pf))] := hD
            exact my_iret hx hb hr rfl hlocks hK hP hD hS (np, x_10_0, w, pf) (by show (r_10, (np, x_10_0, w, pf)) = F_X9_spin np th ed hh w pf t b d; simp only [F_X9_spin, if_pos c_1, if_neg c_3, if_neg c_6, if_neg c_7, if_pos c_9, ← hw_2, ← hw_5, ← hw_8, ← hw_10]) [0, 1, 2] rfl rfl dX9_spin_140
          · skip
            refine lv_iload hx hb dX9_spin_129 (lv_at hl 0 rfl) ?_
            refine lv_iconst (v := -1) hx hb dX9_spin_131 (by decide) ?_
            refine lv_icmp_ne (tgt := 141) hx hb dX9_spin_132 (by decide) (fun c_11 => ?_) (fun c_11 => ?_)
            · skip
              refine lv_aload_n hx hb dX9_spin_141 rfl (lv_at hl 3 rfl) ?_
              refine my_callV_v (As := []) (rest := []) (wc := [(h0, .inr (9, [.ref a0, .ref b0, .int np, .int th, .int ed, .long hh])), (a0, .inl (cI, 129, .inl w)), (b0, .inl (cI, 516, .inl pf))]) (wr := []) ⟨hx, hb, hml, hown, hts⟩ (met_X9_save l D cI cJ cS h0 a0 b0 np th ed hh w pf (hz) _) (cwV 0 hts gX9_spin_X9_save rfl rfl rfl (by decide +kernel) ⟨Nat.le_of_ble_eq_true rfl, Nat.le_of_ble_eq_true rfl⟩) hK hP hD hS hA hG [0, 1, 2] [] rfl rfl rfl rfl (by decide) 0 rfl rfl rfl hl.1 (Nat.le_of_ble_eq_true rfl) rfl dX9_spin_142 ⟨Nat.le_of_ble_eq_true rfl, Nat.le_of_ble_eq_true rfl⟩ (fun u_12 H locs hw_12 hP hD hS => ?_)
              obtain ⟨x_12_0, x_12_1, x_12_2⟩ := u_12
              have hP : va_P D vwCl [(h0, .inr (9, [.ref a0, .ref b0, .int x_12_0, .int x_12_1, .int ed, .long hh])), (a0, .inl (cI, 129, .inl w)), (b0, .inl (cI, 516, .inl x_12_2))] H := hP
              have hD : va_D A [(h0, .inr (9, [.ref a0, .ref b0, .int x_12_0, .int x_12_1, .int ed, .long hh])), (a0, .inl (cI, 129, .inl w)), (b0, .inl (cI, 516, .inl x_12_2))] := hD
              refine lv_iconst (v := 0) hx hb dX9_spin_145 (by decide) ?_
              refine lv_istore (lv' := [(7, .int (0 : Int32)), (6, .int r_8), (5, .int (w ((49 + (2 * (tn (w 48)))) - 2))), (4, .int (nI ((49 + (2 * (tn (w 48)))) - 2))), (0, .ref h0), (1, .int t), (2, .int b), (3, .int d)]) hx hb dX9_spin_146 hl (by decide) rfl (fun ls hl => ?_)
              refine lps_X9_spin l D cI cJ cS hx hb hml hown hts hK hA hG (Nat.le_of_ble_eq_true rfl) (Nat.le_of_ble_eq_true rfl) (Nat.le_of_ble_eq_true rfl) (Nat.le_of_ble_eq_true rfl) 41 h0 a0 b0 x_12_0 x_12_1 ed hh w x_12_2 t b d (tn (w 48)) 0 (w ((49 + (2 * (tn (w 48)))) - 2)) r_8 _ _ _ (in_vpg 1 40 hw_5 c_6 (by decide)) (Nat.zero_le _) (by have := tn_lt (in_vpg 1 40 hw_5 c_6 (by decide)); omega) (tn_eq hv) (room40 hv (in_vpg 1 40 hw_5 c_6 (by decide)) c_9) (hP.subm [0, 1, 2] rfl) (hD.sub [0, 1, 2] rfl rfl) hS (lv_sub hl [4, 5, 6, 7, 2, 1, 0] rfl) (fun y_13 H locs ls hw_13 hP hD hS hl => ?_)
              obtain ⟨y_13_0, y_13_1, y_13_2, y_13_3⟩ := y_13
              have hl : lv_has ls 8 [(0, .ref h0), (1, .int t), (2, .int b), (3, .int d), (5, .int y_13_1), (6, .int y_13_2), (7, .int (nI y_13_0))] := hl
              have hP : va_P D vwCl [(h0, .inr (9, [.ref a0, .ref b0, .int x_12_0, .int x_12_1, .int ed, .long hh])), (a0, .inl (cI, 129, .inl y_13_3)), (b0, .inl (cI, 516, .inl x_12_2))] H := hP
              have hD : va_D A [(h0, .inr (9, [.ref a0, .ref b0, .int x_12_0, .int x_12_1, .int ed, .long hh])), (a0, .inl (cI, 129, .inl y_13_3)), (b0, .inl (cI, 516, .inl x_12_2))] := hD
              refine lv_aload_n hx hb dX9_spin_189 rfl (lv_at hl 0 rfl) ?_
              refine va_get (D := D) (ci := 9) (v := .ref a0) (C := RX9) (T := TX9) (N := 6) hx hb hts hiX9 hown hK hP 0 rfl rfl 0 (by decide) hk_7 (fun _ h9 => h9) rfl dX9_spin_190 ?_
              refine lv_bipush (v := 48) hx hb dX9_spin_193 (by decide) ?_
              refine my_iald hx hb hK hP 1 0 rfl rfl 48 (rfl) (by decide) (by decide) dX9_spin_195 ?_
              exact my_iret hx hb hr rfl hlocks hK hP hD hS (x_12_0, x_12_1, y_13_3, x_12_2) (by show (y_13_3 48, (x_12_0, x_12_1, y_13_3, x_12_2)) = F_X9_spin np th ed hh w pf t b d; simp only [F_X9_spin, if_pos c_1, if_neg c_3, if_neg c_6, if_neg c_7, if_neg c_9, if_neg c_11, ← hw_2, ← hw_5, ← hw_8, ← hw_12, ← hw_13]) [0, 1, 2] rfl rfl dX9_spin_196
            · skip
              refine lv_aload_n hx hb dX9_spin_135 rfl (lv_at hl 3 rfl) ?_
              refine lv_iconst (v := 2) hx hb dX9_spin_136 (by decide) ?_
              refine my_callV_i (As := [.int (2 : Int32)]) (rest := []) (wc := [(h0, .inr (9, [.ref a0, .ref b0, .int np, .int th, .int ed, .long hh])), (a0, .inl (cI, 129, .inl w)), (b0, .inl (cI, 516, .inl pf))]) (wr := []) ⟨hx, hb, hml, hown, hts⟩ (met_X9_fails l D cI cJ cS h0 a0 b0 np th ed hh w pf (2 : Int32) _) (cwV 1 hts gX9_spin_X9_fails rfl rfl rfl (by decide +kernel) ⟨Nat.le_of_ble_eq_true rfl, Nat.le_of_ble_eq_true rfl⟩) hK hP hD hS hA hG [0, 1, 2] [] rfl rfl rfl rfl (by decide) 0 rfl rfl rfl hl.1 (Nat.le_of_ble_eq_true rfl) rfl dX9_spin_137 ⟨Nat.le_of_ble_eq_true rfl, Nat.le_of_ble_eq_true rfl⟩ (fun r_14 x_14_0 H locs hw_14 hP hD hS => ?_)
              have hP : va_P D vwCl [(h0, .inr (9, [.ref a0, .ref b0, .int np, .int x_14_0, .int ed, .long hh])), (a0, .inl (cI, 129, .inl w)), (b0, .inl (cI, 516, .inl pf))] H := hP
              have hD : va_D A [(h0, .inr (9, [.ref a0, .ref b0, .int np, .int x_14_0, .int ed, .long hh])), (a0, .inl (cI, 129, .inl w)), (b0, .inl (cI, 516, .inl pf))] := hD
              exact my_iret hx hb hr rfl hlocks hK hP hD hS (np, x_14_0, w, pf) (by show (r_14, (np, x_14_0, w, pf)) = F_X9_spin np th ed hh w pf t b d; simp only [F_X9_spin, if_pos c_1, if_neg c_3, if_neg c_6, if_neg c_7, if_neg c_9, if_pos c_11, ← hw_2, ← hw_5, ← hw_8, ← hw_14]) [0, 1, 2] rfl rfl dX9_spin_140
        · skip
          refine lv_aload_n hx hb dX9_spin_63 rfl (lv_at hl 1 rfl) ?_
          refine va_get (D := D) (ci := 9) (v := .ref a0) (C := RX9) (T := TX9) (N := 6) hx hb hts hiX9 hown hK hP 0 rfl rfl 0 (by decide) hk_7 (fun _ h9 => h9) rfl dX9_spin_64 ?_
          refine lv_iconst (v := 0) hx hb dX9_spin_67 (by decide) ?_
          refine my_iald hx hb hK hP 1 0 rfl rfl 0 (rfl) (by decide) (by decide) dX9_spin_68 ?_
          refine lv_goto (tgt := 79) hx hb dX9_spin_69 (by decide) ?_
          refine lv_istore (lv' := [(5, .int (w 0)), (4, .int (nI ((49 + (2 * (tn (w 48)))) - 2))), (0, .ref h0), (1, .int t), (2, .int b), (3, .int d)]) hx hb dX9_spin_79 hl (by decide) rfl (fun ls hl => ?_)
          refine lv_aload_n hx hb dX9_spin_81 rfl (lv_at hl 2 rfl) ?_
          refine va_get (D := D) (ci := 9) (v := .ref a0) (C := RX9) (T := TX9) (N := 6) hx hb hts hiX9 hown hK hP 0 rfl rfl 0 (by decide) hk_7 (fun _ h9 => h9) rfl dX9_spin_82 ?_
          refine lv_bipush (v := 48) hx hb dX9_spin_85 (by decide) ?_
          refine my_iald hx hb hK hP 1 0 rfl rfl 48 (rfl) (by decide) (by decide) dX9_spin_87 ?_
          refine lv_if_ne (tgt := 101) hx hb dX9_spin_88 (by decide) (fun c9 => absurd c_7 c9) (fun _ => ?_)
          refine lv_aload_n hx hb dX9_spin_91 rfl (lv_at hl 2 rfl) ?_
          refine va_get (D := D) (ci := 9) (v := .ref a0) (C := RX9) (T := TX9) (N := 6) hx hb hts hiX9 hown hK hP 0 rfl rfl 0 (by decide) hk_7 (fun _ h9 => h9) rfl dX9_spin_92 ?_
          refine lv_bipush (v := 7) hx hb dX9_spin_95 (by decide) ?_
          refine my_iald hx hb hK hP 1 0 rfl rfl 7 (rfl) (by decide) (by decide) dX9_spin_97 ?_
          refine lv_goto (tgt := 110) hx hb dX9_spin_98 (by decide) ?_
          refine my_callS_i (As := [.int (w 7)]) (rest := []) (wc := []) (wr := [(h0, .inr (9, [.ref a0, .ref b0, .int np, .int th, .int ed, .long hh])), (a0, .inl (cI, 129, .inl w)), (b0, .inl (cI, 516, .inl pf))]) ⟨hx, hb, hml, hown, hts⟩ (met_X9_sectorOf l D cI cJ cS (w 7) _) (va_cwS 1 hts gX9_spin_X9_sectorOf rfl rfl rfl (by decide +kernel) ⟨Nat.le_of_ble_eq_true rfl, Nat.le_of_ble_eq_true rfl⟩) hK hP hD hS hA hG [] [0, 1, 2] rfl rfl rfl rfl (by decide) rfl hl.1 (Nat.le_of_ble_eq_true rfl) rfl dX9_spin_110 ⟨Nat.le_of_ble_eq_true rfl, Nat.le_of_ble_eq_true rfl⟩ (fun r_15 _ H locs hw_15 hP hD hS => ?_)
          have hP : va_P D vwCl [(h0, .inr (9, [.ref a0, .ref b0, .int np, .int th, .int ed, .long hh])), (a0, .inl (cI, 129, .inl w)), (b0, .inl (cI, 516, .inl pf))] H := hP
          have hD : va_D A [(h0, .inr (9, [.ref a0, .ref b0, .int np, .int th, .int ed, .long hh])), (a0, .inl (cI, 129, .inl w)), (b0, .inl (cI, 516, .inl pf))] := hD
          refine lv_istore (lv' := [(6, .int r_15), (5, .int (w 0)), (4, .int (nI ((49 + (2 * (tn (w 48)))) - 2))), (0, .ref h0), (1, .int t), (2, .int b), (3, .int d)]) hx hb dX9_spin_113 hl (by decide) rfl (fun ls hl => ?_)
          refine lv_aload_n hx hb dX9_spin_115 rfl (lv_at hl 3 rfl) ?_
          refine va_get (D := D) (ci := 9) (v := .ref a0) (C := RX9) (T := TX9) (N := 6) hx hb hts hiX9 hown hK hP 0 rfl rfl 0 (by decide) hk_7 (fun _ h9 => h9) rfl dX9_spin_116 ?_
          refine lv_bipush (v := 48) hx hb dX9_spin_119 (by decide) ?_
          refine my_iald hx hb hK hP 1 0 rfl rfl 48 (rfl) (by decide) (by decide) dX9_spin_121 ?_
          refine lv_iload_n hx hb dX9_spin_122 rfl (lv_at hl 6 rfl) ?_
          refine lv_iadd hx hb dX9_spin_123 ?_
          refine lv_bipush (v := 40) hx hb dX9_spin_124 (by decide) ?_
          refine lv_icmp_gt (tgt := 135) hx hb dX9_spin_126 (by decide) (fun c_16 => ?_) (fun c_16 => ?_)
          · skip
            refine lv_aload_n hx hb dX9_spin_135 rfl (lv_at hl 3 rfl) ?_
            refine lv_iconst (v := 2) hx hb dX9_spin_136 (by decide) ?_
            refine my_callV_i (As := [.int (2 : Int32)]) (rest := []) (wc := [(h0, .inr (9, [.ref a0, .ref b0, .int np, .int th, .int ed, .long hh])), (a0, .inl (cI, 129, .inl w)), (b0, .inl (cI, 516, .inl pf))]) (wr := []) ⟨hx, hb, hml, hown, hts⟩ (met_X9_fails l D cI cJ cS h0 a0 b0 np th ed hh w pf (2 : Int32) _) (cwV 1 hts gX9_spin_X9_fails rfl rfl rfl (by decide +kernel) ⟨Nat.le_of_ble_eq_true rfl, Nat.le_of_ble_eq_true rfl⟩) hK hP hD hS hA hG [0, 1, 2] [] rfl rfl rfl rfl (by decide) 0 rfl rfl rfl hl.1 (Nat.le_of_ble_eq_true rfl) rfl dX9_spin_137 ⟨Nat.le_of_ble_eq_true rfl, Nat.le_of_ble_eq_true rfl⟩ (fun r_17 x_17_0 H locs hw_17 hP hD hS => ?_)
            have hP : va_P D vwCl [(h0, .inr (9, [.ref a0, .ref b0, .int np, .int x_17_0, .int ed, .long hh])), (a0, .inl (cI, 129, .inl w)), (b0, .inl (cI, 516, .inl pf))] H := hP
            have hD : va_D A [(h0, .inr (9, [.ref a0, .ref b0, .int np, .int x_17_0, .int ed, .long hh])), (a0, .inl (cI, 129, .inl w)), (b0, .inl (cI, 516, .inl pf))] := hD
            exact my_iret hx hb hr rfl hlocks hK hP hD hS (np, x_17_0, w, pf) (by show (r_17, (np, x_17_0, w, pf)) = F_X9_spin np th ed hh w pf t b d; simp only [F_X9_spin, if_pos c_1, if_neg c_3, if_neg c_6, if_pos c_7, if_pos c_16, ← hw_2, ← hw_5, ← hw_15, ← hw_17]) [0, 1, 2] rfl rfl dX9_spin_140
          · skip
            refine lv_iload hx hb dX9_spin_129 (lv_at hl 0 rfl) ?_
            refine lv_iconst (v := -1) hx hb dX9_spin_131 (by decide) ?_
            refine lv_icmp_ne (tgt := 141) hx hb dX9_spin_132 (by decide) (fun c_18 => ?_) (fun c_18 => ?_)
            · skip
              refine lv_aload_n hx hb dX9_spin_141 rfl (lv_at hl 3 rfl) ?_
              refine my_callV_v (As := []) (rest := []) (wc := [(h0, .inr (9, [.ref a0, .ref b0, .int np, .int th, .int ed, .long hh])), (a0, .inl (cI, 129, .inl w)), (b0, .inl (cI, 516, .inl pf))]) (wr := []) ⟨hx, hb, hml, hown, hts⟩ (met_X9_save l D cI cJ cS h0 a0 b0 np th ed hh w pf (hz) _) (cwV 0 hts gX9_spin_X9_save rfl rfl rfl (by decide +kernel) ⟨Nat.le_of_ble_eq_true rfl, Nat.le_of_ble_eq_true rfl⟩) hK hP hD hS hA hG [0, 1, 2] [] rfl rfl rfl rfl (by decide) 0 rfl rfl rfl hl.1 (Nat.le_of_ble_eq_true rfl) rfl dX9_spin_142 ⟨Nat.le_of_ble_eq_true rfl, Nat.le_of_ble_eq_true rfl⟩ (fun u_19 H locs hw_19 hP hD hS => ?_)
              obtain ⟨x_19_0, x_19_1, x_19_2⟩ := u_19
              have hP : va_P D vwCl [(h0, .inr (9, [.ref a0, .ref b0, .int x_19_0, .int x_19_1, .int ed, .long hh])), (a0, .inl (cI, 129, .inl w)), (b0, .inl (cI, 516, .inl x_19_2))] H := hP
              have hD : va_D A [(h0, .inr (9, [.ref a0, .ref b0, .int x_19_0, .int x_19_1, .int ed, .long hh])), (a0, .inl (cI, 129, .inl w)), (b0, .inl (cI, 516, .inl x_19_2))] := hD
              refine lv_iconst (v := 0) hx hb dX9_spin_145 (by decide) ?_
              refine lv_istore (lv' := [(7, .int (0 : Int32)), (6, .int r_15), (5, .int (w 0)), (4, .int (nI ((49 + (2 * (tn (w 48)))) - 2))), (0, .ref h0), (1, .int t), (2, .int b), (3, .int d)]) hx hb dX9_spin_146 hl (by decide) rfl (fun ls hl => ?_)
              refine lps_X9_spin l D cI cJ cS hx hb hml hown hts hK hA hG (Nat.le_of_ble_eq_true rfl) (Nat.le_of_ble_eq_true rfl) (Nat.le_of_ble_eq_true rfl) (Nat.le_of_ble_eq_true rfl) 41 h0 a0 b0 x_19_0 x_19_1 ed hh w x_19_2 t b d (tn (w 48)) 0 (w 0) r_15 _ _ _ (in_vpg 1 40 hw_5 c_6 (by decide)) (Nat.zero_le _) (by have := tn_lt (in_vpg 1 40 hw_5 c_6 (by decide)); omega) (tn_eq hv) (room40 hv (in_vpg 1 40 hw_5 c_6 (by decide)) c_16) (hP.subm [0, 1, 2] rfl) (hD.sub [0, 1, 2] rfl rfl) hS (lv_sub hl [4, 5, 6, 7, 2, 1, 0] rfl) (fun y_20 H locs ls hw_20 hP hD hS hl => ?_)
              obtain ⟨y_20_0, y_20_1, y_20_2, y_20_3⟩ := y_20
              have hl : lv_has ls 8 [(0, .ref h0), (1, .int t), (2, .int b), (3, .int d), (5, .int y_20_1), (6, .int y_20_2), (7, .int (nI y_20_0))] := hl
              have hP : va_P D vwCl [(h0, .inr (9, [.ref a0, .ref b0, .int x_19_0, .int x_19_1, .int ed, .long hh])), (a0, .inl (cI, 129, .inl y_20_3)), (b0, .inl (cI, 516, .inl x_19_2))] H := hP
              have hD : va_D A [(h0, .inr (9, [.ref a0, .ref b0, .int x_19_0, .int x_19_1, .int ed, .long hh])), (a0, .inl (cI, 129, .inl y_20_3)), (b0, .inl (cI, 516, .inl x_19_2))] := hD
              refine lv_aload_n hx hb dX9_spin_189 rfl (lv_at hl 0 rfl) ?_
              refine va_get (D := D) (ci := 9) (v := .ref a0) (C := RX9) (T := TX9) (N := 6) hx hb hts hiX9 hown hK hP 0 rfl rfl 0 (by decide) hk_7 (fun _ h9 => h9) rfl dX9_spin_190 ?_
              refine lv_bipush (v := 48) hx hb dX9_spin_193 (by decide) ?_
              refine my_iald hx hb hK hP 1 0 rfl rfl 48 (rfl) (by decide) (by decide) dX9_spin_195 ?_
              exact my_iret hx hb hr rfl hlocks hK hP hD hS (x_19_0, x_19_1, y_20_3, x_19_2) (by show (y_20_3 48, (x_19_0, x_19_1, y_20_3, x_19_2)) = F_X9_spin np th ed hh w pf t b d; simp only [F_X9_spin, if_pos c_1, if_neg c_3, if_neg c_6, if_pos c_7, if_neg c_16, if_neg c_18, ← hw_2, ← hw_5, ← hw_15, ← hw_19, ← hw_20]) [0, 1, 2] rfl rfl dX9_spin_196
            · skip
              refine lv_aload_n hx hb dX9_spin_135 rfl (lv_at hl 3 rfl) ?_
              refine lv_iconst (v := 2) hx hb dX9_spin_136 (by decide) ?_
              refine my_callV_i (As := [.int (2 : Int32)]) (rest := []) (wc := [(h0, .inr (9, [.ref a0, .ref b0, .int np, .int th, .int ed, .long hh])), (a0, .inl (cI, 129, .inl w)), (b0, .inl (cI, 516, .inl pf))]) (wr := []) ⟨hx, hb, hml, hown, hts⟩ (met_X9_fails l D cI cJ cS h0 a0 b0 np th ed hh w pf (2 : Int32) _) (cwV 1 hts gX9_spin_X9_fails rfl rfl rfl (by decide +kernel) ⟨Nat.le_of_ble_eq_true rfl, Nat.le_of_ble_eq_true rfl⟩) hK hP hD hS hA hG [0, 1, 2] [] rfl rfl rfl rfl (by decide) 0 rfl rfl rfl hl.1 (Nat.le_of_ble_eq_true rfl) rfl dX9_spin_137 ⟨Nat.le_of_ble_eq_true rfl, Nat.le_of_ble_eq_true rfl⟩ (fun r_21 x_21_0 H locs hw_21 hP hD hS => ?_)
              have hP : va_P D vwCl [(h0, .inr (9, [.ref a0, .ref b0, .int np, .int x_21_0, .int ed, .long hh])), (a0, .inl (cI, 129, .inl w)), (b0, .inl (cI, 516, .inl pf))] H := hP
              have hD : va_D A [(h0, .inr (9, [.ref a0, .ref b0, .int np, .int x_21_0, .int ed, .long hh])), (a0, .inl (cI, 129, .inl w)), (b0, .inl (cI, 516, .inl pf))] := hD
              exact my_iret hx hb hr rfl hlocks hK hP hD hS (np, x_21_0, w, pf) (by show (r_21, (np, x_21_0, w, pf)) = F_X9_spin np th ed hh w pf t b d; simp only [F_X9_spin, if_pos c_1, if_neg c_3, if_neg c_6, if_pos c_7, if_neg c_16, if_pos c_18, ← hw_2, ← hw_5, ← hw_15, ← hw_21]) [0, 1, 2] rfl rfl dX9_spin_140
      · skip
        refine lv_aload_n hx hb dX9_spin_31 rfl (lv_at hl 0 rfl) ?_
        refine lv_iconst (v := 1) hx hb dX9_spin_32 (by decide) ?_
        refine my_callV_i (As := [.int (1 : Int32)]) (rest := []) (wc := [(h0, .inr (9, [.ref a0, .ref b0, .int np, .int th, .int ed, .long hh])), (a0, .inl (cI, 129, .inl w)), (b0, .inl (cI, 516, .inl pf))]) (wr := []) ⟨hx, hb, hml, hown, hts⟩ (met_X9_fails l D cI cJ cS h0 a0 b0 np th ed hh w pf (1 : Int32) _) (cwV 1 hts gX9_spin_X9_fails rfl rfl rfl (by decide +kernel) ⟨Nat.le_of_ble_eq_true rfl, Nat.le_of_ble_eq_true rfl⟩) hK hP hD hS hA hG [0, 1, 2] [] rfl rfl rfl rfl (by decide) 0 rfl rfl rfl hl.1 (Nat.le_of_ble_eq_true rfl) rfl dX9_spin_33 ⟨Nat.le_of_ble_eq_true rfl, Nat.le_of_ble_eq_true rfl⟩ (fun r_22 x_22_0 H locs hw_22 hP hD hS => ?_)
        have hP : va_P D vwCl [(h0, .inr (9, [.ref a0, .ref b0, .int np, .int x_22_0, .int ed, .long hh])), (a0, .inl (cI, 129, .inl w)), (b0, .inl (cI, 516, .inl pf))] H := hP
        have hD : va_D A [(h0, .inr (9, [.ref a0, .ref b0, .int np, .int x_22_0, .int ed, .long hh])), (a0, .inl (cI, 129, .inl w)), (b0, .inl (cI, 516, .inl pf))] := hD
        exact my_iret hx hb hr rfl hlocks hK hP hD hS (np, x_22_0, w, pf) (by show (r_22, (np, x_22_0, w, pf)) = F_X9_spin np th ed hh w pf t b d; simp only [F_X9_spin, if_pos c_1, if_neg c_3, if_pos c_6, ← hw_2, ← hw_5, ← hw_22]) [0, 1, 2] rfl rfl dX9_spin_36
  · skip
    refine lv_iload_n hx hb dX9_spin_5 rfl (lv_at hl 1 rfl) ?_
    refine lv_iconst (v := -1) hx hb dX9_spin_6 (by decide) ?_
    refine lv_icmp_ne (tgt := 31) hx hb dX9_spin_7 (by decide) (fun c_23 => ?_) (fun c_23 => ?_)
    · skip
      refine lv_aload_n hx hb dX9_spin_31 rfl (lv_at hl 0 rfl) ?_
      refine lv_iconst (v := 1) hx hb dX9_spin_32 (by decide) ?_
      refine my_callV_i (As := [.int (1 : Int32)]) (rest := []) (wc := [(h0, .inr (9, [.ref a0, .ref b0, .int np, .int th, .int ed, .long hh])), (a0, .inl (cI, 129, .inl w)), (b0, .inl (cI, 516, .inl pf))]) (wr := []) ⟨hx, hb, hml, hown, hts⟩ (met_X9_fails l D cI cJ cS h0 a0 b0 np th ed hh w pf (1 : Int32) _) (cwV 1 hts gX9_spin_X9_fails rfl rfl rfl (by decide +kernel) ⟨Nat.le_of_ble_eq_true rfl, Nat.le_of_ble_eq_true rfl⟩) hK hP hD hS hA hG [0, 1, 2] [] rfl rfl rfl rfl (by decide) 0 rfl rfl rfl hl.1 (Nat.le_of_ble_eq_true rfl) rfl dX9_spin_33 ⟨Nat.le_of_ble_eq_true rfl, Nat.le_of_ble_eq_true rfl⟩ (fun r_24 x_24_0 H locs hw_24 hP hD hS => ?_)
      have hP : va_P D vwCl [(h0, .inr (9, [.ref a0, .ref b0, .int np, .int x_24_0, .int ed, .long hh])), (a0, .inl (cI, 129, .inl w)), (b0, .inl (cI, 516, .inl pf))] H := hP
      have hD : va_D A [(h0, .inr (9, [.ref a0, .ref b0, .int np, .int x_24_0, .int ed, .long hh])), (a0, .inl (cI, 129, .inl w)), (b0, .inl (cI, 516, .inl pf))] := hD
      exact my_iret hx hb hr rfl hlocks hK hP hD hS (np, x_24_0, w, pf) (by show (r_24, (np, x_24_0, w, pf)) = F_X9_spin np th ed hh w pf t b d; simp only [F_X9_spin, if_neg c_1, if_neg c_23, ← hw_24]) [0, 1, 2] rfl rfl dX9_spin_36
    · skip
      refine lv_iload_n hx hb dX9_spin_10 rfl (lv_at hl 2 rfl) ?_
      refine lv_iconst (v := 1) hx hb dX9_spin_11 (by decide) ?_
      refine lv_sipush (v := 1000) hx hb dX9_spin_12 (by decide) ?_
      refine my_callS_i (As := [.int b, .int (1 : Int32), .int (1000 : Int32)]) (rest := []) (wc := []) (wr := [(h0, .inr (9, [.ref a0, .ref b0, .int np, .int th, .int ed, .long hh])), (a0, .inl (cI, 129, .inl w)), (b0, .inl (cI, 516, .inl pf))]) ⟨hx, hb, hml, hown, hts⟩ (met_X9_in l D cI cJ cS b (1 : Int32) (1000 : Int32) _) (va_cwS 3 hts gX9_spin_X9_in rfl rfl rfl (by decide +kernel) ⟨Nat.le_of_ble_eq_true rfl, Nat.le_of_ble_eq_true rfl⟩) hK hP hD hS hA hG [] [0, 1, 2] rfl rfl rfl rfl (by decide) rfl hl.1 (Nat.le_of_ble_eq_true rfl) rfl dX9_spin_15 ⟨Nat.le_of_ble_eq_true rfl, Nat.le_of_ble_eq_true rfl⟩ (fun r_25 _ H locs hw_25 hP hD hS => ?_)
      have hP : va_P D vwCl [(h0, .inr (9, [.ref a0, .ref b0, .int np, .int th, .int ed, .long hh])), (a0, .inl (cI, 129, .inl w)), (b0, .inl (cI, 516, .inl pf))] H := hP
      have hD : va_D A [(h0, .inr (9, [.ref a0, .ref b0, .int np, .int th, .int ed, .long hh])), (a0, .inl (cI, 129, .inl w)), (b0, .inl (cI, 516, .inl pf))] := hD
      refine lv_if_eq (tgt := 31) hx hb dX9_spin_18 (by decide) (fun c_26 => ?_) (fun c_26 => ?_)
      · skip
        refine lv_aload_n hx hb dX9_spin_31 rfl (lv_at hl 0 rfl) ?_
        refine lv_iconst (v := 1) hx hb dX9_spin_32 (by decide) ?_
        refine my_callV_i (As := [.int (1 : Int32)]) (rest := []) (wc := [(h0, .inr (9, [.ref a0, .ref b0, .int np, .int th, .int ed, .long hh])), (a0, .inl (cI, 129, .inl w)), (b0, .inl (cI, 516, .inl pf))]) (wr := []) ⟨hx, hb, hml, hown, hts⟩ (met_X9_fails l D cI cJ cS h0 a0 b0 np th ed hh w pf (1 : Int32) _) (cwV 1 hts gX9_spin_X9_fails rfl rfl rfl (by decide +kernel) ⟨Nat.le_of_ble_eq_true rfl, Nat.le_of_ble_eq_true rfl⟩) hK hP hD hS hA hG [0, 1, 2] [] rfl rfl rfl rfl (by decide) 0 rfl rfl rfl hl.1 (Nat.le_of_ble_eq_true rfl) rfl dX9_spin_33 ⟨Nat.le_of_ble_eq_true rfl, Nat.le_of_ble_eq_true rfl⟩ (fun r_27 x_27_0 H locs hw_27 hP hD hS => ?_)
        have hP : va_P D vwCl [(h0, .inr (9, [.ref a0, .ref b0, .int np, .int x_27_0, .int ed, .long hh])), (a0, .inl (cI, 129, .inl w)), (b0, .inl (cI, 516, .inl pf))] H := hP
        have hD : va_D A [(h0, .inr (9, [.ref a0, .ref b0, .int np, .int x_27_0, .int ed, .long hh])), (a0, .inl (cI, 129, .inl w)), (b0, .inl (cI, 516, .inl pf))] := hD
        exact my_iret hx hb hr rfl hlocks hK hP hD hS (np, x_27_0, w, pf) (by show (r_27, (np, x_27_0, w, pf)) = F_X9_spin np th ed hh w pf t b d; simp only [F_X9_spin, if_neg c_1, if_pos c_23, if_pos c_26, ← hw_25, ← hw_27]) [0, 1, 2] rfl rfl dX9_spin_36
      · skip
        refine lv_iload_n hx hb dX9_spin_21 rfl (lv_at hl 3 rfl) ?_
        refine lv_iconst (v := 1) hx hb dX9_spin_22 (by decide) ?_
        refine lv_bipush (v := 40) hx hb dX9_spin_23 (by decide) ?_
        refine my_callS_i (As := [.int d, .int (1 : Int32), .int (40 : Int32)]) (rest := []) (wc := []) (wr := [(h0, .inr (9, [.ref a0, .ref b0, .int np, .int th, .int ed, .long hh])), (a0, .inl (cI, 129, .inl w)), (b0, .inl (cI, 516, .inl pf))]) ⟨hx, hb, hml, hown, hts⟩ (met_X9_in l D cI cJ cS d (1 : Int32) (40 : Int32) _) (va_cwS 3 hts gX9_spin_X9_in rfl rfl rfl (by decide +kernel) ⟨Nat.le_of_ble_eq_true rfl, Nat.le_of_ble_eq_true rfl⟩) hK hP hD hS hA hG [] [0, 1, 2] rfl rfl rfl rfl (by decide) rfl hl.1 (Nat.le_of_ble_eq_true rfl) rfl dX9_spin_25 ⟨Nat.le_of_ble_eq_true rfl, Nat.le_of_ble_eq_true rfl⟩ (fun r_28 _ H locs hw_28 hP hD hS => ?_)
        have hP : va_P D vwCl [(h0, .inr (9, [.ref a0, .ref b0, .int np, .int th, .int ed, .long hh])), (a0, .inl (cI, 129, .inl w)), (b0, .inl (cI, 516, .inl pf))] H := hP
        have hD : va_D A [(h0, .inr (9, [.ref a0, .ref b0, .int np, .int th, .int ed, .long hh])), (a0, .inl (cI, 129, .inl w)), (b0, .inl (cI, 516, .inl pf))] := hD
        refine lv_if_ne (tgt := 37) hx hb dX9_spin_28 (by decide) (fun c_29 => ?_) (fun c_29 => ?_)
        · skip
          refine lv_bipush (v := 49) hx hb dX9_spin_37 (by decide) ?_
          refine lv_iconst (v := 2) hx hb dX9_spin_39 (by decide) ?_
          refine lv_aload_n hx hb dX9_spin_40 rfl (lv_at hl 0 rfl) ?_
          refine va_get (D := D) (ci := 9) (v := .ref a0) (C := RX9) (T := TX9) (N := 6) hx hb hts hiX9 hown hK hP 0 rfl rfl 0 (by decide) hk_7 (fun _ h9 => h9) rfl dX9_spin_41 ?_
          refine lv_bipush (v := 48) hx hb dX9_spin_44 (by decide) ?_
          refine my_iald hx hb hK hP 1 0 rfl rfl 48 (rfl) (by decide) (by decide) dX9_spin_46 ?_
          refine W.eq (g2 := F0 m 47 ls [.int (nI (tn (w 48))), .int (2 : Int32), .int (49 : Int32)]) (by rw [← tn_eq hv]) ?_
          refine my_imulN hx hb 2 (tn (w 48)) rfl rfl dX9_spin_47 ?_
          refine my_iaddN hx hb 49 (2 * (tn (w 48))) rfl rfl dX9_spin_48 ?_
          refine lv_iconst (v := 2) hx hb dX9_spin_49 (by decide) ?_
          refine my_isubN hx hb (49 + (2 * (tn (w 48)))) 2 rfl rfl (by omega) dX9_spin_50 ?_
          refine lv_istore (lv' := [(4, .int (nI ((49 + (2 * (tn (w 48)))) - 2))), (0, .ref h0), (1, .int t), (2, .int b), (3, .int d)]) hx hb dX9_spin_51 hl (by decide) rfl (fun ls hl => ?_)
          refine lv_aload_n hx hb dX9_spin_53 rfl (lv_at hl 1 rfl) ?_
          refine va_get (D := D) (ci := 9) (v := .ref a0) (C := RX9) (T := TX9) (N := 6) hx hb hts hiX9 hown hK hP 0 rfl rfl 0 (by decide) hk_7 (fun _ h9 => h9) rfl dX9_spin_54 ?_
          refine lv_bipush (v := 48) hx hb dX9_spin_57 (by decide) ?_
          refine my_iald hx hb hK hP 1 0 rfl rfl 48 (rfl) (by decide) (by decide) dX9_spin_59 ?_
          refine lv_if_ne (tgt := 72) hx hb dX9_spin_60 (by decide) (fun c_30 => ?_) (fun c_30 => ?_)
          · skip
            refine lv_aload_n hx hb dX9_spin_72 rfl (lv_at hl 1 rfl) ?_
            refine va_get (D := D) (ci := 9) (v := .ref a0) (C := RX9) (T := TX9) (N := 6) hx hb hts hiX9 hown hK hP 0 rfl rfl 0 (by decide) hk_7 (fun _ h9 => h9) rfl dX9_spin_73 ?_
            refine lv_iload hx hb dX9_spin_76 (lv_at hl 0 rfl) ?_
            refine my_iald hx hb hK hP 1 0 rfl rfl ((49 + (2 * (tn (w 48)))) - 2) (rfl) (by have := tn_lt hv; omega) (by decide) dX9_spin_78 ?_
            refine lv_istore (lv' := [(5, .int (w ((49 + (2 * (tn (w 48)))) - 2))), (4, .int (nI ((49 + (2 * (tn (w 48)))) - 2))), (0, .ref h0), (1, .int t), (2, .int b), (3, .int d)]) hx hb dX9_spin_79 hl (by decide) rfl (fun ls hl => ?_)
            refine lv_aload_n hx hb dX9_spin_81 rfl (lv_at hl 2 rfl) ?_
            refine va_get (D := D) (ci := 9) (v := .ref a0) (C := RX9) (T := TX9) (N := 6) hx hb hts hiX9 hown hK hP 0 rfl rfl 0 (by decide) hk_7 (fun _ h9 => h9) rfl dX9_spin_82 ?_
            refine lv_bipush (v := 48) hx hb dX9_spin_85 (by decide) ?_
            refine my_iald hx hb hK hP 1 0 rfl rfl 48 (rfl) (by decide) (by decide) dX9_spin_87 ?_
            refine lv_if_ne (tgt := 101) hx hb dX9_spin_88 (by decide) (fun _ => ?_) (fun c9 => absurd c9 c_30)
            refine lv_aload_n hx hb dX9_spin_101 rfl (lv_at hl 2 rfl) ?_
            refine va_get (D := D) (ci := 9) (v := .ref a0) (C := RX9) (T := TX9) (N := 6) hx hb hts hiX9 hown hK hP 0 rfl rfl 0 (by decide) hk_7 (fun _ h9 => h9) rfl dX9_spin_102 ?_
            refine lv_iload hx hb dX9_spin_105 (lv_at hl 1 rfl) ?_
            refine lv_iconst (v := 1) hx hb dX9_spin_107 (by decide) ?_
            refine my_iaddN hx hb ((49 + (2 * (tn (w 48)))) - 2) 1 rfl rfl dX9_spin_108 ?_
            refine my_iald hx hb hK hP 1 0 rfl rfl (((49 + (2 * (tn (w 48)))) - 2) + 1) (rfl) (by have := tn_lt hv; omega) (by decide) dX9_spin_109 ?_
            refine my_callS_i (As := [.int (w (((49 + (2 * (tn (w 48)))) - 2) + 1))]) (rest := []) (wc := []) (wr := [(h0, .inr (9, [.ref a0, .ref b0, .int np, .int th, .int ed, .long hh])), (a0, .inl (cI, 129, .inl w)), (b0, .inl (cI, 516, .inl pf))]) ⟨hx, hb, hml, hown, hts⟩ (met_X9_sectorOf l D cI cJ cS (w (((49 + (2 * (tn (w 48)))) - 2) + 1)) _) (va_cwS 1 hts gX9_spin_X9_sectorOf rfl rfl rfl (by decide +kernel) ⟨Nat.le_of_ble_eq_true rfl, Nat.le_of_ble_eq_true rfl⟩) hK hP hD hS hA hG [] [0, 1, 2] rfl rfl rfl rfl (by decide) rfl hl.1 (Nat.le_of_ble_eq_true rfl) rfl dX9_spin_110 ⟨Nat.le_of_ble_eq_true rfl, Nat.le_of_ble_eq_true rfl⟩ (fun r_31 _ H locs hw_31 hP hD hS => ?_)
            have hP : va_P D vwCl [(h0, .inr (9, [.ref a0, .ref b0, .int np, .int th, .int ed, .long hh])), (a0, .inl (cI, 129, .inl w)), (b0, .inl (cI, 516, .inl pf))] H := hP
            have hD : va_D A [(h0, .inr (9, [.ref a0, .ref b0, .int np, .int th, .int ed, .long hh])), (a0, .inl (cI, 129, .inl w)), (b0, .inl (cI, 516, .inl pf))] := hD
            refine lv_istore (lv' := [(6, .int r_31), (5, .int (w ((49 + (2 * (tn (w 48)))) - 2))), (4, .int (nI ((49 + (2 * (tn (w 48)))) - 2))), (0, .ref h0), (1, .int t), (2, .int b), (3, .int d)]) hx hb dX9_spin_113 hl (by decide) rfl (fun ls hl => ?_)
            refine lv_aload_n hx hb dX9_spin_115 rfl (lv_at hl 3 rfl) ?_
            refine va_get (D := D) (ci := 9) (v := .ref a0) (C := RX9) (T := TX9) (N := 6) hx hb hts hiX9 hown hK hP 0 rfl rfl 0 (by decide) hk_7 (fun _ h9 => h9) rfl dX9_spin_116 ?_
            refine lv_bipush (v := 48) hx hb dX9_spin_119 (by decide) ?_
            refine my_iald hx hb hK hP 1 0 rfl rfl 48 (rfl) (by decide) (by decide) dX9_spin_121 ?_
            refine lv_iload_n hx hb dX9_spin_122 rfl (lv_at hl 6 rfl) ?_
            refine lv_iadd hx hb dX9_spin_123 ?_
            refine lv_bipush (v := 40) hx hb dX9_spin_124 (by decide) ?_
            refine lv_icmp_gt (tgt := 135) hx hb dX9_spin_126 (by decide) (fun c_32 => ?_) (fun c_32 => ?_)
            · skip
              refine lv_aload_n hx hb dX9_spin_135 rfl (lv_at hl 3 rfl) ?_
              refine lv_iconst (v := 2) hx hb dX9_spin_136 (by decide) ?_
              refine my_callV_i (As := [.int (2 : Int32)]) (rest := []) (wc := [(h0, .inr (9, [.ref a0, .ref b0, .int np, .int th, .int ed, .long hh])), (a0, .inl (cI, 129, .inl w)), (b0, .inl (cI, 516, .inl pf))]) (wr := []) ⟨hx, hb, hml, hown, hts⟩ (met_X9_fails l D cI cJ cS h0 a0 b0 np th ed hh w pf (2 : Int32) _) (cwV 1 hts gX9_spin_X9_fails rfl rfl rfl (by decide +kernel) ⟨Nat.le_of_ble_eq_true rfl, Nat.le_of_ble_eq_true rfl⟩) hK hP hD hS hA hG [0, 1, 2] [] rfl rfl rfl rfl (by decide) 0 rfl rfl rfl hl.1 (Nat.le_of_ble_eq_true rfl) rfl dX9_spin_137 ⟨Nat.le_of_ble_eq_true rfl, Nat.le_of_ble_eq_true rfl⟩ (fun r_33 x_33_0 H locs hw_33 hP hD hS => ?_)
              have hP : va_P D vwCl [(h0, .inr (9, [.ref a0, .ref b0, .int np, .int x_33_0, .int ed, .long hh])), (a0, .inl (cI, 129, .inl w)), (b0, .inl (cI, 516, .inl pf))] H := hP
              have hD : va_D A [(h0, .inr (9, [.ref a0, .ref b0, .int np, .int x_33_0, .int ed, .long hh])), (a0, .inl (cI, 129, .inl w)), (b0, .inl (cI, 516, .inl pf))] := hD
              exact my_iret hx hb hr rfl hlocks hK hP hD hS (np, x_33_0, w, pf) (by show (r_33, (np, x_33_0, w, pf)) = F_X9_spin np th ed hh w pf t b d; simp only [F_X9_spin, if_neg c_1, if_pos c_23, if_neg c_26, if_neg c_29, if_neg c_30, if_pos c_32, ← hw_25, ← hw_28, ← hw_31, ← hw_33]) [0, 1, 2] rfl rfl dX9_spin_140
            · skip
              refine lv_iload hx hb dX9_spin_129 (lv_at hl 0 rfl) ?_
              refine lv_iconst (v := -1) hx hb dX9_spin_131 (by decide) ?_
              refine lv_icmp_ne (tgt := 141) hx hb dX9_spin_132 (by decide) (fun c_34 => ?_) (fun c_34 => ?_)
              · skip
                refine lv_aload_n hx hb dX9_spin_141 rfl (lv_at hl 3 rfl) ?_
                refine my_callV_v (As := []) (rest := []) (wc := [(h0, .inr (9, [.ref a0, .ref b0, .int np, .int th, .int ed, .long hh])), (a0, .inl (cI, 129, .inl w)), (b0, .inl (cI, 516, .inl pf))]) (wr := []) ⟨hx, hb, hml, hown, hts⟩ (met_X9_save l D cI cJ cS h0 a0 b0 np th ed hh w pf (hz) _) (cwV 0 hts gX9_spin_X9_save rfl rfl rfl (by decide +kernel) ⟨Nat.le_of_ble_eq_true rfl, Nat.le_of_ble_eq_true rfl⟩) hK hP hD hS hA hG [0, 1, 2] [] rfl rfl rfl rfl (by decide) 0 rfl rfl rfl hl.1 (Nat.le_of_ble_eq_true rfl) rfl dX9_spin_142 ⟨Nat.le_of_ble_eq_true rfl, Nat.le_of_ble_eq_true rfl⟩ (fun u_35 H locs hw_35 hP hD hS => ?_)
                obtain ⟨x_35_0, x_35_1, x_35_2⟩ := u_35
                have hP : va_P D vwCl [(h0, .inr (9, [.ref a0, .ref b0, .int x_35_0, .int x_35_1, .int ed, .long hh])), (a0, .inl (cI, 129, .inl w)), (b0, .inl (cI, 516, .inl x_35_2))] H := hP
                have hD : va_D A [(h0, .inr (9, [.ref a0, .ref b0, .int x_35_0, .int x_35_1, .int ed, .long hh])), (a0, .inl (cI, 129, .inl w)), (b0, .inl (cI, 516, .inl x_35_2))] := hD
                refine lv_iconst (v := 0) hx hb dX9_spin_145 (by decide) ?_
                refine lv_istore (lv' := [(7, .int (0 : Int32)), (6, .int r_31), (5, .int (w ((49 + (2 * (tn (w 48)))) - 2))), (4, .int (nI ((49 + (2 * (tn (w 48)))) - 2))), (0, .ref h0), (1, .int t), (2, .int b), (3, .int d)]) hx hb dX9_spin_146 hl (by decide) rfl (fun ls hl => ?_)
                refine lps_X9_spin l D cI cJ cS hx hb hml hown hts hK hA hG (Nat.le_of_ble_eq_true rfl) (Nat.le_of_ble_eq_true rfl) (Nat.le_of_ble_eq_true rfl) (Nat.le_of_ble_eq_true rfl) 41 h0 a0 b0 x_35_0 x_35_1 ed hh w x_35_2 t b d (tn (w 48)) 0 (w ((49 + (2 * (tn (w 48)))) - 2)) r_31 _ _ _ (in_vpg 1 40 hw_28 c_29 (by decide)) (Nat.zero_le _) (by have := tn_lt (in_vpg 1 40 hw_28 c_29 (by decide)); omega) (tn_eq hv) (room40 hv (in_vpg 1 40 hw_28 c_29 (by decide)) c_32) (hP.subm [0, 1, 2] rfl) (hD.sub [0, 1, 2] rfl rfl) hS (lv_sub hl [4, 5, 6, 7, 2, 1, 0] rfl) (fun y_36 H locs ls hw_36 hP hD hS hl => ?_)
                obtain ⟨y_36_0, y_36_1, y_36_2, y_36_3⟩ := y_36
                have hl : lv_has ls 8 [(0, .ref h0), (1, .int t), (2, .int b), (3, .int d), (5, .int y_36_1), (6, .int y_36_2), (7, .int (nI y_36_0))] := hl
                have hP : va_P D vwCl [(h0, .inr (9, [.ref a0, .ref b0, .int x_35_0, .int x_35_1, .int ed, .long hh])), (a0, .inl (cI, 129, .inl y_36_3)), (b0, .inl (cI, 516, .inl x_35_2))] H := hP
                have hD : va_D A [(h0, .inr (9, [.ref a0, .ref b0, .int x_35_0, .int x_35_1, .int ed, .long hh])), (a0, .inl (cI, 129, .inl y_36_3)), (b0, .inl (cI, 516, .inl x_35_2))] := hD
                refine lv_aload_n hx hb dX9_spin_189 rfl (lv_at hl 0 rfl) ?_
                refine va_get (D := D) (ci := 9) (v := .ref a0) (C := RX9) (T := TX9) (N := 6) hx hb hts hiX9 hown hK hP 0 rfl rfl 0 (by decide) hk_7 (fun _ h9 => h9) rfl dX9_spin_190 ?_
                refine lv_bipush (v := 48) hx hb dX9_spin_193 (by decide) ?_
                refine my_iald hx hb hK hP 1 0 rfl rfl 48 (rfl) (by decide) (by decide) dX9_spin_195 ?_
                exact my_iret hx hb hr rfl hlocks hK hP hD hS (x_35_0, x_35_1, y_36_3, x_35_2) (by show (y_36_3 48, (x_35_0, x_35_1, y_36_3, x_35_2)) = F_X9_spin np th ed hh w pf t b d; simp only [F_X9_spin, if_neg c_1, if_pos c_23, if_neg c_26, if_neg c_29, if_neg c_30, if_neg c_32, if_neg c_34, ← hw_25, ← hw_28, ← hw_31, ← hw_35, ← hw_36]) [0, 1, 2] rfl rfl dX9_spin_196
              · skip
                refine lv_aload_n hx hb dX9_spin_135 rfl (lv_at hl 3 rfl) ?_
                refine lv_iconst (v := 2) hx hb dX9_spin_136 (by decide) ?_
                refine my_callV_i (As := [.int (2 : Int32)]) (rest := []) (wc := [(h0, .inr (9, [.ref a0, .ref b0, .int np, .int th, .int ed, .long hh])), (a0, .inl (cI, 129, .inl w)), (b0, .inl (cI, 516, .inl pf))]) (wr := []) ⟨hx, hb, hml, hown, hts⟩ (met_X9_fails l D cI cJ cS h0 a0 b0 np th ed hh w pf (2 : Int32) _) (cwV 1 hts gX9_spin_X9_fails rfl rfl rfl (by decide +kernel) ⟨Nat.le_of_ble_eq_true rfl, Nat.le_of_ble_eq_true rfl⟩) hK hP hD hS hA hG [0, 1, 2] [] rfl rfl rfl rfl (by decide) 0 rfl rfl rfl hl.1 (Nat.le_of_ble_eq_true rfl) rfl dX9_spin_137 ⟨Nat.le_of_ble_eq_true rfl, Nat.le_of_ble_eq_true rfl⟩ (fun r_37 x_37_0 H locs hw_37 hP hD hS => ?_)
                have hP : va_P D vwCl [(h0, .inr (9, [.ref a0, .ref b0, .int np, .int x_37_0, .int ed, .long hh])), (a0, .inl (cI, 129, .inl w)), (b0, .inl (cI, 516, .inl pf))] H := hP
                have hD : va_D A [(h0, .inr (9, [.ref a0, .ref b0, .int np, .int x_37_0, .int ed, .long hh])), (a0, .inl (cI, 129, .inl w)), (b0, .inl (cI, 516, .inl pf))] := hD
                exact my_iret hx hb hr rfl hlocks hK hP hD hS (np, x_37_0, w, pf) (by show (r_37, (np, x_37_0, w, pf)) = F_X9_spin np th ed hh w pf t b d; simp only [F_X9_spin, if_neg c_1, if_pos c_23, if_neg c_26, if_neg c_29, if_neg c_30, if_neg c_32, if_pos c_34, ← hw_25, ← hw_28, ← hw_31, ← hw_37]) [0, 1, 2] rfl rfl dX9_spin_140
          · skip
            refine lv_aload_n hx hb dX9_spin_63 rfl (lv_at hl 1 rfl) ?_
            refine va_get (D := D) (ci := 9) (v := .ref a0) (C := RX9) (T := TX9) (N := 6) hx hb hts hiX9 hown hK hP 0 rfl rfl 0 (by decide) hk_7 (fun _ h9 => h9) rfl dX9_spin_64 ?_
            refine lv_iconst (v := 0) hx hb dX9_spin_67 (by decide) ?_
            refine my_iald hx hb hK hP 1 0 rfl rfl 0 (rfl) (by decide) (by decide) dX9_spin_68 ?_
            refine lv_goto (tgt := 79) hx hb dX9_spin_69 (by decide) ?_
            refine lv_istore (lv' := [(5, .int (w 0)), (4, .int (nI ((49 + (2 * (tn (w 48)))) - 2))), (0, .ref h0), (1, .int t), (2, .int b), (3, .int d)]) hx hb dX9_spin_79 hl (by decide) rfl (fun ls hl => ?_)
            refine lv_aload_n hx hb dX9_spin_81 rfl (lv_at hl 2 rfl) ?_
            refine va_get (D := D) (ci := 9) (v := .ref a0) (C := RX9) (T := TX9) (N := 6) hx hb hts hiX9 hown hK hP 0 rfl rfl 0 (by decide) hk_7 (fun _ h9 => h9) rfl dX9_spin_82 ?_
            refine lv_bipush (v := 48) hx hb dX9_spin_85 (by decide) ?_
            refine my_iald hx hb hK hP 1 0 rfl rfl 48 (rfl) (by decide) (by decide) dX9_spin_87 ?_
            refine lv_if_ne (tgt := 101) hx hb dX9_spin_88 (by decide) (fun c9 => absurd c_30 c9) (fun _ => ?_)
            refine lv_aload_n hx hb dX9_spin_91 rfl (lv_at hl 2 rfl) ?_
            refine va_get (D := D) (ci := 9) (v := .ref a0) (C := RX9) (T := TX9) (N := 6) hx hb hts hiX9 hown hK hP 0 rfl rfl 0 (by decide) hk_7 (fun _ h9 => h9) rfl dX9_spin_92 ?_
            refine lv_bipush (v := 7) hx hb dX9_spin_95 (by decide) ?_
            refine my_iald hx hb hK hP 1 0 rfl rfl 7 (rfl) (by decide) (by decide) dX9_spin_97 ?_
            refine lv_goto (tgt := 110) hx hb dX9_spin_98 (by decide) ?_
            refine my_callS_i (As := [.int (w 7)]) (rest := []) (wc := []) (wr := [(h0, .inr (9, [.ref a0, .ref b0, .int np, .int th, .int ed, .long hh])), (a0, .inl (cI, 129, .inl w)), (b0, .inl (cI, 516, .inl pf))]) ⟨hx, hb, hml, hown, hts⟩ (met_X9_sectorOf l D cI cJ cS (w 7) _) (va_cwS 1 hts gX9_spin_X9_sectorOf rfl rfl rfl (by decide +kernel) ⟨Nat.le_of_ble_eq_true rfl, Nat.le_of_ble_eq_true rfl⟩) hK hP hD hS hA hG [] [0, 1, 2] rfl rfl rfl rfl (by decide) rfl hl.1 (Nat.le_of_ble_eq_true rfl) rfl dX9_spin_110 ⟨Nat.le_of_ble_eq_true rfl, Nat.le_of_ble_eq_true rfl⟩ (fun r_38 _ H locs hw_38 hP hD hS => ?_)
            have hP : va_P D vwCl [(h0, .inr (9, [.ref a0, .ref b0, .int np, .int th, .int ed, .long hh])), (a0, .inl (cI, 129, .inl w)), (b0, .inl (cI, 516, .inl pf))] H := hP
            have hD : va_D A [(h0, .inr (9, [.ref a0, .ref b0, .int np, .int th, .int ed, .long hh])), (a0, .inl (cI, 129, .inl w)), (b0, .inl (cI, 516, .inl pf))] := hD
            refine lv_istore (lv' := [(6, .int r_38), (5, .int (w 0)), (4, .int (nI ((49 + (2 * (tn (w 48)))) - 2))), (0, .ref h0), (1, .int t), (2, .int b), (3, .int d)]) hx hb dX9_spin_113 hl (by decide) rfl (fun ls hl => ?_)
            refine lv_aload_n hx hb dX9_spin_115 rfl (lv_at hl 3 rfl) ?_
            refine va_get (D := D) (ci := 9) (v := .ref a0) (C := RX9) (T := TX9) (N := 6) hx hb hts hiX9 hown hK hP 0 rfl rfl 0 (by decide) hk_7 (fun _ h9 => h9) rfl dX9_spin_116 ?_
            refine lv_bipush (v := 48) hx hb dX9_spin_119 (by decide) ?_
            refine my_iald hx hb hK hP 1 0 rfl rfl 48 (rfl) (by decide) (by decide) dX9_spin_121 ?_
            refine lv_iload_n hx hb dX9_spin_122 rfl (lv_at hl 6 rfl) ?_
            refine lv_iadd hx hb dX9_spin_123 ?_
            refine lv_bipush (v := 40) hx hb dX9_spin_124 (by decide) ?_
            refine lv_icmp_gt (tgt := 135) hx hb dX9_spin_126 (by decide) (fun c_39 => ?_) (fun c_39 => ?_)
            · skip
              refine lv_aload_n hx hb dX9_spin_135 rfl (lv_at hl 3 rfl) ?_
              refine lv_iconst (v := 2) hx hb dX9_spin_136 (by decide) ?_
              refine my_callV_i (As := [.int (2 : Int32)]) (rest := []) (wc := [(h0, .inr (9, [.ref a0, .ref b0, .int np, .int th, .int ed, .long hh])), (a0, .inl (cI, 129, .inl w)), (b0, .inl (cI, 516, .inl pf))]) (wr := []) ⟨hx, hb, hml, hown, hts⟩ (met_X9_fails l D cI cJ cS h0 a0 b0 np th ed hh w pf (2 : Int32) _) (cwV 1 hts gX9_spin_X9_fails rfl rfl rfl (by decide +kernel) ⟨Nat.le_of_ble_eq_true rfl, Nat.le_of_ble_eq_true rfl⟩) hK hP hD hS hA hG [0, 1, 2] [] rfl rfl rfl rfl (by decide) 0 rfl rfl rfl hl.1 (Nat.le_of_ble_eq_true rfl) rfl dX9_spin_137 ⟨Nat.le_of_ble_eq_true rfl, Nat.le_of_ble_eq_true rfl⟩ (fun r_40 x_40_0 H locs hw_40 hP hD hS => ?_)
              have hP : va_P D vwCl [(h0, .inr (9, [.ref a0, .ref b0, .int np, .int x_40_0, .int ed, .long hh])), (a0, .inl (cI, 129, .inl w)), (b0, .inl (cI, 516, .inl pf))] H := hP
              have hD : va_D A [(h0, .inr (9, [.ref a0, .ref b0, .int np, .int x_40_0, .int ed, .long hh])), (a0, .inl (cI, 129, .inl w)), (b0, .inl (cI, 516, .inl pf))] := hD
              exact my_iret hx hb hr rfl hlocks hK hP hD hS (np, x_40_0, w, pf) (by show (r_40, (np, x_40_0, w, pf)) = F_X9_spin np th ed hh w pf t b d; simp only [F_X9_spin, if_neg c_1, if_pos c_23, if_neg c_26, if_neg c_29, if_pos c_30, if_pos c_39, ← hw_25, ← hw_28, ← hw_38, ← hw_40]) [0, 1, 2] rfl rfl dX9_spin_140
            · skip
              refine lv_iload hx hb dX9_spin_129 (lv_at hl 0 rfl) ?_
              refine lv_iconst (v := -1) hx hb dX9_spin_131 (by decide) ?_
              refine lv_icmp_ne (tgt := 141) hx hb dX9_spin_132 (by decide) (fun c_41 => ?_) (fun c_41 => ?_)
              · skip
                refine lv_aload_n hx hb dX9_spin_141 rfl (lv_at hl 3 rfl) ?_
                refine my_callV_v (As := []) (rest := []) (wc := [(h0, .inr (9, [.ref a0, .ref b0, .int np, .int th, .int ed, .long hh])), (a0, .inl (cI, 129, .inl w)), (b0, .inl (cI, 516, .inl pf))]) (wr := []) ⟨hx, hb, hml, hown, hts⟩ (met_X9_save l D cI cJ cS h0 a0 b0 np th ed hh w pf (hz) _) (cwV 0 hts gX9_spin_X9_save rfl rfl rfl (by decide +kernel) ⟨Nat.le_of_ble_eq_true rfl, Nat.le_of_ble_eq_true rfl⟩) hK hP hD hS hA hG [0, 1, 2] [] rfl rfl rfl rfl (by decide) 0 rfl rfl rfl hl.1 (Nat.le_of_ble_eq_true rfl) rfl dX9_spin_142 ⟨Nat.le_of_ble_eq_true rfl, Nat.le_of_ble_eq_true rfl⟩ (fun u_42 H locs hw_42 hP hD hS => ?_)
                obtain ⟨x_42_0, x_42_1, x_42_2⟩ := u_42
                have hP : va_P D vwCl [(h0, .inr (9, [.ref a0, .ref b0, .int x_42_0, .int x_42_1, .int ed, .long hh])), (a0, .inl (cI, 129, .inl w)), (b0, .inl (cI, 516, .inl x_42_2))] H := hP
                have hD : va_D A [(h0, .inr (9, [.ref a0, .ref b0, .int x_42_0, .int x_42_1, .int ed, .long hh])), (a0, .inl (cI, 129, .inl w)), (b0, .inl (cI, 516, .inl x_42_2))] := hD
                refine lv_iconst (v := 0) hx hb dX9_spin_145 (by decide) ?_
                refine lv_istore (lv' := [(7, .int (0 : Int32)), (6, .int r_38), (5, .int (w 0)), (4, .int (nI ((49 + (2 * (tn (w 48)))) - 2))), (0, .ref h0), (1, .int t), (2, .int b), (3, .int d)]) hx hb dX9_spin_146 hl (by decide) rfl (fun ls hl => ?_)
                refine lps_X9_spin l D cI cJ cS hx hb hml hown hts hK hA hG (Nat.le_of_ble_eq_true rfl) (Nat.le_of_ble_eq_true rfl) (Nat.le_of_ble_eq_true rfl) (Nat.le_of_ble_eq_true rfl) 41 h0 a0 b0 x_42_0 x_42_1 ed hh w x_42_2 t b d (tn (w 48)) 0 (w 0) r_38 _ _ _ (in_vpg 1 40 hw_28 c_29 (by decide)) (Nat.zero_le _) (by have := tn_lt (in_vpg 1 40 hw_28 c_29 (by decide)); omega) (tn_eq hv) (room40 hv (in_vpg 1 40 hw_28 c_29 (by decide)) c_39) (hP.subm [0, 1, 2] rfl) (hD.sub [0, 1, 2] rfl rfl) hS (lv_sub hl [4, 5, 6, 7, 2, 1, 0] rfl) (fun y_43 H locs ls hw_43 hP hD hS hl => ?_)
                obtain ⟨y_43_0, y_43_1, y_43_2, y_43_3⟩ := y_43
                have hl : lv_has ls 8 [(0, .ref h0), (1, .int t), (2, .int b), (3, .int d), (5, .int y_43_1), (6, .int y_43_2), (7, .int (nI y_43_0))] := hl
                have hP : va_P D vwCl [(h0, .inr (9, [.ref a0, .ref b0, .int x_42_0, .int x_42_1, .int ed, .long hh])), (a0, .inl (cI, 129, .inl y_43_3)), (b0, .inl (cI, 516, .inl x_42_2))] H := hP
                have hD : va_D A [(h0, .inr (9, [.ref a0, .ref b0, .int x_42_0, .int x_42_1, .int ed, .long hh])), (a0, .inl (cI, 129, .inl y_43_3)), (b0, .inl (cI, 516, .inl x_42_2))] := hD
                refine lv_aload_n hx hb dX9_spin_189 rfl (lv_at hl 0 rfl) ?_
                refine va_get (D := D) (ci := 9) (v := .ref a0) (C := RX9) (T := TX9) (N := 6) hx hb hts hiX9 hown hK hP 0 rfl rfl 0 (by decide) hk_7 (fun _ h9 => h9) rfl dX9_spin_190 ?_
                refine lv_bipush (v := 48) hx hb dX9_spin_193 (by decide) ?_
                refine my_iald hx hb hK hP 1 0 rfl rfl 48 (rfl) (by decide) (by decide) dX9_spin_195 ?_
                exact my_iret hx hb hr rfl hlocks hK hP hD hS (x_42_0, x_42_1, y_43_3, x_42_2) (by show (y_43_3 48, (x_42_0, x_42_1, y_43_3, x_42_2)) = F_X9_spin np th ed hh w pf t b d; simp only [F_X9_spin, if_neg c_1, if_pos c_23, if_neg c_26, if_neg c_29, if_pos c_30, if_neg c_39, if_neg c_41, ← hw_25, ← hw_28, ← hw_38, ← hw_42, ← hw_43]) [0, 1, 2] rfl rfl dX9_spin_196
              · skip
                refine lv_aload_n hx hb dX9_spin_135 rfl (lv_at hl 3 rfl) ?_
                refine lv_iconst (v := 2) hx hb dX9_spin_136 (by decide) ?_
                refine my_callV_i (As := [.int (2 : Int32)]) (rest := []) (wc := [(h0, .inr (9, [.ref a0, .ref b0, .int np, .int th, .int ed, .long hh])), (a0, .inl (cI, 129, .inl w)), (b0, .inl (cI, 516, .inl pf))]) (wr := []) ⟨hx, hb, hml, hown, hts⟩ (met_X9_fails l D cI cJ cS h0 a0 b0 np th ed hh w pf (2 : Int32) _) (cwV 1 hts gX9_spin_X9_fails rfl rfl rfl (by decide +kernel) ⟨Nat.le_of_ble_eq_true rfl, Nat.le_of_ble_eq_true rfl⟩) hK hP hD hS hA hG [0, 1, 2] [] rfl rfl rfl rfl (by decide) 0 rfl rfl rfl hl.1 (Nat.le_of_ble_eq_true rfl) rfl dX9_spin_137 ⟨Nat.le_of_ble_eq_true rfl, Nat.le_of_ble_eq_true rfl⟩ (fun r_44 x_44_0 H locs hw_44 hP hD hS => ?_)
                have hP : va_P D vwCl [(h0, .inr (9, [.ref a0, .ref b0, .int np, .int x_44_0, .int ed, .long hh])), (a0, .inl (cI, 129, .inl w)), (b0, .inl (cI, 516, .inl pf))] H := hP
                have hD : va_D A [(h0, .inr (9, [.ref a0, .ref b0, .int np, .int x_44_0, .int ed, .long hh])), (a0, .inl (cI, 129, .inl w)), (b0, .inl (cI, 516, .inl pf))] := hD
                exact my_iret hx hb hr rfl hlocks hK hP hD hS (np, x_44_0, w, pf) (by show (r_44, (np, x_44_0, w, pf)) = F_X9_spin np th ed hh w pf t b d; simp only [F_X9_spin, if_neg c_1, if_pos c_23, if_neg c_26, if_neg c_29, if_pos c_30, if_neg c_39, if_pos c_41, ← hw_25, ← hw_28, ← hw_38, ← hw_44]) [0, 1, 2] rfl rfl dX9_spin_140
        · skip
          refine lv_aload_n hx hb dX9_spin_31 rfl (lv_at hl 0 rfl) ?_
          refine lv_iconst (v := 1) hx hb dX9_spin_32 (by decide) ?_
          refine my_callV_i (As := [.int (1 : Int32)]) (rest := []) (wc := [(h0, .inr (9, [.ref a0, .ref b0, .int np, .int th, .int ed, .long hh])), (a0, .inl (cI, 129, .inl w)), (b0, .inl (cI, 516, .inl pf))]) (wr := []) ⟨hx, hb, hml, hown, hts⟩ (met_X9_fails l D cI cJ cS h0 a0 b0 np th ed hh w pf (1 : Int32) _) (cwV 1 hts gX9_spin_X9_fails rfl rfl rfl (by decide +kernel) ⟨Nat.le_of_ble_eq_true rfl, Nat.le_of_ble_eq_true rfl⟩) hK hP hD hS hA hG [0, 1, 2] [] rfl rfl rfl rfl (by decide) 0 rfl rfl rfl hl.1 (Nat.le_of_ble_eq_true rfl) rfl dX9_spin_33 ⟨Nat.le_of_ble_eq_true rfl, Nat.le_of_ble_eq_true rfl⟩ (fun r_45 x_45_0 H locs hw_45 hP hD hS => ?_)
          have hP : va_P D vwCl [(h0, .inr (9, [.ref a0, .ref b0, .int np, .int x_45_0, .int ed, .long hh])), (a0, .inl (cI, 129, .inl w)), (b0, .inl (cI, 516, .inl pf))] H := hP
          have hD : va_D A [(h0, .inr (9, [.ref a0, .ref b0, .int np, .int x_45_0, .int ed, .long hh])), (a0, .inl (cI, 129, .inl w)), (b0, .inl (cI, 516, .inl pf))] := hD
          exact my_iret hx hb hr rfl hlocks hK hP hD hS (np, x_45_0, w, pf) (by show (r_45, (np, x_45_0, w, pf)) = F_X9_spin np th ed hh w pf t b d; simp only [F_X9_spin, if_neg c_1, if_pos c_23, if_neg c_26, if_pos c_29, ← hw_25, ← hw_28, ← hw_45]) [0, 1, 2] rfl rfl dX9_spin_36
