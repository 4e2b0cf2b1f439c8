/-! what stays so over a tick -/
theorem fb_bmod {z : Int} (h1 : -2147483648 ≤ z) (h2 : z < 2147483648) : z.bmod (2 ^ 32) = z := by
  rw [Int.bmod_eq_of_le (by omega) (by omega)]
theorem fb_addI {x y : Int32} (h1 : -2147483648 ≤ x.toInt + y.toInt) (h2 : x.toInt + y.toInt < 2147483648) : (x + y).toInt = x.toInt + y.toInt := by
  rw [Int32.toInt_add, fb_bmod h1 h2]
theorem fb_subI {x y : Int32} (h1 : -2147483648 ≤ x.toInt - y.toInt) (h2 : x.toInt - y.toInt < 2147483648) : (x - y).toInt = x.toInt - y.toInt := by
  rw [Int32.toInt_sub, fb_bmod h1 h2]
theorem ti_1 : (1 : Int32).toInt = 1 := rfl
theorem ti_0 : (0 : Int32).toInt = 0 := rfl
theorem ti_nlt {x y : Int32} (h : y.toInt ≤ x.toInt) : ¬ x < y := fun q => by
  have := Int32.lt_iff_toInt_lt.mp q
  omega
theorem IQ.due {z t b : Int32} {tk cd : Nat → Int32} {T C : Int} (h : IQ z tk T C) (ht : t.toInt = T + 1) : IQ (F_X4_takeDue z tk cd t b).2.1 (F_X4_takeDue z tk cd t b).2.2.1 (T + 1) C := by
  obtain ⟨hz, h1, h2⟩ := h
  have hl := tn_lt hz
  have hle := td1_le 41 z tk cd t b 0 41 hz (Nat.zero_le _)
  have hst := td1_stop 41 z tk cd t b 0 41 hz (Nat.zero_le _) (by omega)
  simp only [F_X4_takeDue]
  generalize LP_X4_takeDue1 41 z tk cd t b 0 = L at hle hst ⊢
  rcases Nat.eq_zero_or_pos L with e | e
  · subst e
    rw [if_pos (by decide)]
    dsimp only
    refine ⟨hz, fun k hk => ?_, h2⟩
    have a1 := Int32.lt_iff_toInt_lt.mp (hst (by omega))
    have a2 := h2 0 k (Nat.zero_le _) hk
    have a3 := (h1 k hk).2
    exact ⟨by omega, a3⟩
  · have c2 : ¬ nI L = 0 := nI_ne0 e (by omega)
    rw [if_neg c2]
    have f1 := fun k => (td2_form 41 z tk cd t b (cd (L - 1)) L L 41 hz e (Nat.le_refl _) hle (by omega) k).1
    generalize (LP_X4_takeDue2 41 z tk cd t b (cd (L - 1)) L L).2.1 = tk' at f1 ⊢
    have ez : z - nI L = nI (tn z - L) := (congrArg (fun x => x - nI L) (tn_eq hz)).trans (pk_sub hle)
    have et : tn (z - nI L) = tn z - L := by rw [ez]; exact nI_clamp (by omega)
    refine ⟨by rw [ez]; exact vp_in_nI (by omega) (by decide), fun k hk => ?_, fun i j hij hj => ?_⟩
    · rw [et] at hk
      rw [f1 k, if_pos (by omega)]
      have a1 := Int32.lt_iff_toInt_lt.mp (hst (by omega))
      have a2 := h2 L (k + L) (by omega) (by omega)
      have a3 := (h1 (k + L) (by omega)).2
      exact ⟨by omega, a3⟩
    · rw [et] at hj
      rw [f1 i, f1 j, if_pos (by omega), if_pos (by omega)]
      exact h2 (i + L) (j + L) (by omega) (by omega)
theorem IM.mono {z dir et : Int32} {iv : Nat → Int32} {T B T' B' : Int} (h : IM z dir et iv T B) (hT : T ≤ T') (hB : B ≤ B') : IM z dir et iv T' B' := by
  obtain ⟨h1, h2, h3⟩ := h
  refine ⟨h1, fun k hk => ⟨(h2 k hk).1, Int.le_trans (h2 k hk).2 hB⟩, ?_⟩
  rcases h3 with h3 | ⟨a, b, c⟩
  · exact Or.inl h3
  · exact Or.inr ⟨a, b, Int.le_trans c hT⟩
theorem IM.edge {z dir et : Int32} {iv : Nat → Int32} {T B : Int} {f0 f1 f2 f3 t b : Int32} (h : IM z dir et iv T B) (ht : t = 1 ∨ t = -1) (hb : b.toInt = T + 1) (hT : 0 ≤ T) (hTB : T ≤ B) (hB : B < 1000000000) :
    IM (F_X3_addEdge f0 f1 f2 f3 z et dir iv t b).2.2.1 (F_X3_addEdge f0 f1 f2 f3 z et dir iv t b).2.2.2.2.1 (F_X3_addEdge f0 f1 f2 f3 z et dir iv t b).2.2.2.1 (F_X3_addEdge f0 f1 f2 f3 z et dir iv t b).2.2.2.2.2 (T + 1) (B + 1) := by
  have t0 : ¬ t = 0 := by rcases ht with e | e <;> rw [e] <;> decide
  obtain ⟨hz, h2, h3⟩ := h
  simp only [F_X3_addEdge]
  by_cases c : t = dir
  · rw [if_pos c]
    dsimp only
    obtain ⟨q1, q2⟩ : 0 ≤ et.toInt ∧ et.toInt ≤ T := by
      rcases h3 with ⟨q, _⟩ | ⟨_, q⟩
      · exact absurd (c.trans q) t0
      · exact q
    have hx : (b - et).toInt = T + 1 - et.toInt := by
      rw [fb_subI (by omega) (by omega), hb]
    refine ⟨?_, ?_, Or.inr ⟨ht, by omega, by omega⟩⟩
    · simp only [F_X3_appendInterval]
      split
      · rename_i c6
        have l6 := tn_lt_lt 6 hz (by decide) c6
        rw [tn_eq hz, nI_1]
        exact vp_in_nI (by omega) (by decide)
      · exact vp_in_nI (n := 6) (by decide) (by decide)
    · simp only [F_X3_appendInterval]
      have hlt := tn_lt hz
      split
      · rename_i c6
        have l6 := tn_lt_lt 6 hz (by decide) c6
        have e1 : tn (z + 1) = tn z + 1 := by
          have : z + 1 = nI (tn z + 1) := (congrArg (fun x => x + 1) (tn_eq hz)).trans (nI_1 _)
          rw [this]; exact nI_clamp (by omega)
        intro k hk
        dsimp only at hk ⊢
        rw [e1] at hk
        by_cases e : k = tn z
        · subst e; rw [pk_us, hx]; omega
        · rw [pk_un e]
          have := h2 k (by omega)
          omega
      · rename_i c6
        have e6 : z = 6 := by
          rcases Nat.lt_or_ge (tn z) 6 with q | q
          · exact absurd (by rw [tn_eq hz]; exact nI_lt q (by decide)) c6
          · rw [tn_eq hz, show tn z = 6 by omega]; rfl
        subst e6
        intro k hk
        have hk6 : k < 6 := hk
        have i0 := h2 0 (by decide)
        have i1 := h2 1 (by decide)
        have i2 := h2 2 (by decide)
        have i3 := h2 3 (by decide)
        have i4 := h2 4 (by decide)
        have i5 := h2 5 (by decide)
        match k, hk6 with
        | 0, _ => show 1 ≤ (iv 1).toInt ∧ (iv 1).toInt ≤ B + 1; omega
        | 1, _ => show 1 ≤ (iv 2).toInt ∧ (iv 2).toInt ≤ B + 1; omega
        | 2, _ => show 1 ≤ (iv 3).toInt ∧ (iv 3).toInt ≤ B + 1; omega
        | 3, _ => show 1 ≤ (iv 4).toInt ∧ (iv 4).toInt ≤ B + 1; omega
        | 4, _ => show 1 ≤ (iv 5).toInt ∧ (iv 5).toInt ≤ B + 1; omega
        | 5, _ => show 1 ≤ (b - et).toInt ∧ (b - et).toInt ≤ B + 1; omega
  · rw [if_neg c]
    refine ⟨vp_in_nI (n := 0) (by decide) (by decide), fun k hk => absurd (show k < 0 from hk) (by omega), Or.inr ⟨ht, ?_, ?_⟩⟩ <;> dsimp only <;> omega
theorem IG.judge {f0 f1 f2 f3 f4 f5 f6 f7 t b d : Int32} (h : IG f0 f1 f2) : IG (F_X1_judgeEdge f0 f1 f2 f3 f4 f5 f6 f7 t b d).1 (F_X1_judgeEdge f0 f1 f2 f3 f4 f5 f6 f7 t b d).2.1 (F_X1_judgeEdge f0 f1 f2 f3 f4 f5 f6 f7 t b d).2.2.1 := by
  obtain ⟨hm, hx, hy⟩ := h
  have z5 : vp_in 0 5 := vp_in_nI (n := 0) (by decide) (by decide)
  have z3 : 0 ≤ (0 : Int32).toInt ∧ (0 : Int32).toInt < 3 := by decide
  have z20 : 0 ≤ (0 : Int32).toInt ∧ (0 : Int32).toInt < 20 := by decide
  have hin : f1 + 1 < 3 → 0 ≤ (f1 + 1).toInt ∧ (f1 + 1).toInt < 3 := fun c => by
    have h1 := Int32.lt_iff_toInt_lt.mp c
    have e : (f1 + 1).toInt = f1.toInt + 1 := by rw [fb_addI (by rw [ti_1]; omega) (by rw [ti_1]; omega), ti_1]
    have e3 : (3 : Int32).toInt = 3 := rfl
    omega
  simp only [F_X1_judgeEdge, F_X1_raiseFault, F_X1_enterMode]
  (repeat' split) <;> first | exact ⟨hm, hx, hy⟩ | exact ⟨hm, z3, hy⟩ | exact ⟨z5, z3, z20⟩ | exact ⟨hm, hin (by assumption), hy⟩
theorem IG.watch {v : Nat → Int32} {a : Nat → Nat → Int32} {t : Int32} (h : IG (v 6) (v 42) (v 43)) : IG ((F_X7_watchTimes v a t).1 6) ((F_X7_watchTimes v a t).1 42) ((F_X7_watchTimes v a t).1 43) := by
  obtain ⟨hm, hx, hy⟩ := h
  have z5 : vp_in 0 5 := vp_in_nI (n := 0) (by decide) (by decide)
  have z3 : 0 ≤ (0 : Int32).toInt ∧ (0 : Int32).toInt < 3 := by decide
  have z20 : 0 ≤ (0 : Int32).toInt ∧ (0 : Int32).toInt < 20 := by decide
  have hin : v 43 + 1 < 20 → 0 ≤ (v 43 + 1).toInt ∧ (v 43 + 1).toInt < 20 := fun c => by
    have h1 := Int32.lt_iff_toInt_lt.mp c
    have e : (v 43 + 1).toInt = (v 43).toInt + 1 := by rw [fb_addI (by rw [ti_1]; omega) (by rw [ti_1]; omega), ti_1]
    have e3 : (20 : Int32).toInt = 20 := rfl
    omega
  simp only [F_X7_watchTimes, F_X7_watchIllegalTime, F_X7_watchIdleTime, F_X1_raiseFault, F_X1_enterMode]
  (repeat' split) <;> first | exact ⟨hm, hx, z20⟩ | exact ⟨z5, z3, z20⟩ | exact ⟨hm, hx, hin (by assumption)⟩
theorem filt0 {f0 f1 f2 f3 f4 t : Int32} (h : (F_X5_filterRaw f0 f1 f2 f3 f4 t).1 = 0) : (F_X5_filterRaw f0 f1 f2 f3 f4 t).2.1 = f1 := by
  revert h
  simp only [F_X5_filterRaw]
  (repeat' split) <;> intro h <;> first | rfl | exact absurd (show (1 : Int32) = 0 from h) (by decide)
/-- what follows an accepted code -/
theorem follow_inv {v : Nat → Int32} {a : Nat → Nat → Int32} {T B C : Int} (hb : (v 0).toInt = T + 1) (hT : 0 ≤ T) (hTB : T ≤ B) (hB : B < 1000000000) (hM : IM (v 35) (v 34) (v 33) (a 2) T B) (hG : IG (v 6) (v 42) (v 43)) :
    ((F_X7_followAcceptedCode v a).1 = 0 ∨ (F_X7_followAcceptedCode v a).1 = 1) ∧ (F_X7_followAcceptedCode v a).2.1 0 = v 0 ∧ (F_X7_followAcceptedCode v a).2.1 48 = v 48 ∧ (F_X7_followAcceptedCode v a).2.1 10 = v 10 ∧ (F_X7_followAcceptedCode v a).2.1 11 = v 11 ∧ (F_X7_followAcceptedCode v a).2.1 9 = F_X9_sectorOf ((F_X7_followAcceptedCode v a).2.1 8) ∧ IM ((F_X7_followAcceptedCode v a).2.1 35) ((F_X7_followAcceptedCode v a).2.1 34) ((F_X7_followAcceptedCode v a).2.1 33) ((F_X7_followAcceptedCode v a).2.2 2) (T + 1) (B + 1) ∧ IG ((F_X7_followAcceptedCode v a).2.1 6) ((F_X7_followAcceptedCode v a).2.1 42) ((F_X7_followAcceptedCode v a).2.1 43) := by
  have hM' := hM.mono (T' := T + 1) (B' := B + 1) (by omega) (by omega)
  have hM0 : IM 0 0 (v 33) (a 2) (T + 1) (B + 1) := ⟨vp_in_nI (n := 0) (by decide) (by decide), fun k hk => absurd (show k < 0 from hk) (by omega), Or.inl ⟨rfl, rfl⟩⟩
  have he := fun (t : Int32) (ht : t = 1 ∨ t = -1) => IM.edge (f0 := v 28) (f1 := v 29) (f2 := v 30) (f3 := v 31) (b := v 0) hM ht hb hT hTB hB
  have hj := fun (t d : Int32) => IG.judge (f3 := v 44) (f4 := v 32) (f5 := v 45) (f6 := v 46) (f7 := v 47) (t := t) (b := v 0) (d := d) hG
  simp only [F_X7_followAcceptedCode]
  rw [sec_eq]
  split
  · exact ⟨Or.inl rfl, rfl, rfl, rfl, rfl, rfl, hM0, hG⟩
  · split
    · exact ⟨Or.inl rfl, rfl, rfl, rfl, rfl, rfl, hM', hG⟩
    · split
      · exact ⟨Or.inl rfl, rfl, rfl, rfl, rfl, rfl, hM', hG⟩
      · split
        · exact ⟨Or.inr rfl, rfl, rfl, rfl, rfl, rfl, he 1 (Or.inl rfl), hj 1 _⟩
        · split
          · exact ⟨Or.inr rfl, rfl, rfl, rfl, rfl, rfl, he (-1) (Or.inr rfl), hj (-1) _⟩
          · exact ⟨Or.inl rfl, rfl, rfl, rfl, rfl, rfl, hM0, hG⟩
