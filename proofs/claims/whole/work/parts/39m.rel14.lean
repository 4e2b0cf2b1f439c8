/-! spin, the questions, digest, speed, the start -/
section OneCall2
variable {n : Nat} {v : Nat → Int32} {a : Nat → Nat → Int32} {c : Nat} {vs : Nat → Nat → Int32} {bs : Nat → Nat → Nat → Int32} {w pf : Nat → Int32} {np th ed : Int32} {hh : Int64}
def SB8 (v : Nat → Int32) (a : Nat → Nat → Int32) (t b d : Int32) : Int32 × Int32 × (Nat → Int32) × (Nat → Nat → Int32) :=
  if b < (1 : Int32) ∨ (1000 : Int32) < b then
    ((1 : Int32), (0 : Int32), (v, a))
  else
    if d < (1 : Int32) ∨ (40 : Int32) < d then
      ((1 : Int32), (0 : Int32), (v, a))
    else
      if (40 : Int32) - (v 48) < d then
        ((2 : Int32), (0 : Int32), (v, a))
      else
        if F_X8_sectorOf (F_X4_lastCode (v 48) (a 0) (a 1) (v 7)) = (-1 : Int32) then
          ((2 : Int32), (0 : Int32), (v, a))
        else
          ((0 : Int32), ((LP_X8_spin 41 v a t b d 0 (F_X8_sectorOf (F_X4_lastCode (v 48) (a 0) (a 1) (v 7))) (F_X4_lastTick (v 48) (a 0) (a 1) (v 0))).2.2.2.1 48), ((LP_X8_spin 41 v a t b d 0 (F_X8_sectorOf (F_X4_lastCode (v 48) (a 0) (a 1) (v 7))) (F_X4_lastTick (v 48) (a 0) (a 1) (v 0))).2.2.2.1, (LP_X8_spin 41 v a t b d 0 (F_X8_sectorOf (F_X4_lastCode (v 48) (a 0) (a 1) (v 7))) (F_X4_lastTick (v 48) (a 0) (a 1) (v 0))).2.2.2.2))
theorem spin8 {t b d : Int32} : F_X8_spin v a t b d = if t = 1 then SB8 v a t b d else if t = -1 then SB8 v a t b d else (1, 0, v, a) := by
  simp only [F_X8_spin, SB8]
def SC9 (np th ed : Int32) (hh : Int64) (w pf : Nat → Int32) (t b d s k : Int32) : Int32 × Int32 × Int32 × (Nat → Int32) × (Nat → Int32) :=
  if (40 : Int32) < (w 48) + d then (0, np, 2, w, pf)
  else if s = (-1 : Int32) then (0, np, 2, w, pf)
  else ((LP_X9_spin 41 (F_X9_save np th ed hh w pf).1 (F_X9_save np th ed hh w pf).2.1 ed hh w (F_X9_save np th ed hh w pf).2.2 t b d 0 k s).2.2.2 48, (F_X9_save np th ed hh w pf).1, (F_X9_save np th ed hh w pf).2.1, (LP_X9_spin 41 (F_X9_save np th ed hh w pf).1 (F_X9_save np th ed hh w pf).2.1 ed hh w (F_X9_save np th ed hh w pf).2.2 t b d 0 k s).2.2.2, (F_X9_save np th ed hh w pf).2.2)
def SB9 (np th ed : Int32) (hh : Int64) (w pf : Nat → Int32) (t b d : Int32) : Int32 × Int32 × Int32 × (Nat → Int32) × (Nat → Int32) :=
  if F_X9_in b 1 1000 = 0 then (0, np, 1, w, pf)
  else if F_X9_in d 1 40 = 0 then (0, np, 1, w, pf)
  else if w 48 = 0 then SC9 np th ed hh w pf t b d (F_X9_sectorOf (w 7)) (w 0)
  else SC9 np th ed hh w pf t b d (F_X9_sectorOf (w (((49 + (2 * (tn (w 48)))) - 2) + 1))) (w ((49 + (2 * (tn (w 48)))) - 2))
theorem spin9 {t b d : Int32} : F_X9_spin np th ed hh w pf t b d = if t = 1 then SB9 np th ed hh w pf t b d else if t = -1 then SB9 np th ed hh w pf t b d else (0, np, 1, w, pf) := by
  simp only [F_X9_spin, SB9, SC9, F_X9_fails]
theorem ok_spinB (h : LI n v a c vs bs w pf np) (hn : n ≤ 512) {t b d : Int32} (ht : t = 1 ∨ t = -1) : OK n v a c vs bs (SB8 v a t b d) (SB9 np th ed hh w pf t b d).1 (SB9 np th ed hh w pf t b d).2.1 (SB9 np th ed hh w pf t b d).2.2.1 (SB9 np th ed hh w pf t b d).2.2.2.1 (SB9 np th ed hh w pf t b d).2.2.2.2 := by
  unfold SB8 SB9
  by_cases q : b < 1 ∨ 1000 < b
  · rw [if_pos q, if_pos (in_0 q)]
    exact ok_fail h (by decide)
  · rw [if_neg q, if_neg (in_1 q)]
    by_cases q2 : d < 1 ∨ 40 < d
    · rw [if_pos q2, if_pos (in_0 q2)]
      exact ok_fail h (by decide)
    · rw [if_neg q2, if_neg (in_1 q2)]
      have rb := rng_of (lo := 1) (hi := 1000) q rfl rfl
      have rd := rng_of (lo := 1) (hi := 40) q2 rfl rfl
      obtain ⟨hR, hQ, _⟩ := h.1
      obtain ⟨i0, iq, _⟩ := h.2.1
      have e48 := hR 48 (by decide)
      have e0 := hR 0 (by decide)
      have e7 := hR 7 (by decide)
      have hz := vp_in_iff.mp iq.1
      have hzt := tn_lt iq.1
      have hd : vp_in d 41 := by rw [vp_in_iff]; omega
      have e40 : (40 : Int32).toInt = 40 := rfl
      have es : ((40 : Int32) - v 48).toInt = 40 - (v 48).toInt := by rw [fb_subI (by omega) (by omega), e40]
      have ea : (v 48 + d).toInt = (v 48).toInt + d.toInt := fb_addI (by omega) (by omega)
      have ez : ((tn (v 48) : Nat) : Int) = (v 48).toInt := by
        have := nI_toInt (show tn (v 48) < 2 ^ 31 by omega)
        rw [← tn_eq iq.1] at this
        omega
      have ed' : ((tn d : Nat) : Int) = d.toInt := by
        have := nI_toInt (show tn d < 2 ^ 31 by have := tn_lt hd; omega)
        rw [← tn_eq hd] at this
        omega
      -- the last code and its tick
      obtain ⟨k, s, ek, ec, hk1, hk2, hY⟩ : ∃ k s : Int32, F_X4_lastTick (v 48) (a 0) (a 1) (v 0) = k ∧ F_X8_sectorOf (F_X4_lastCode (v 48) (a 0) (a 1) (v 7)) = s ∧ (v 0).toInt ≤ k.toInt ∧ k.toInt ≤ 200000 + 50000 * n ∧ (if w 48 = 0 then SC9 np th ed hh w pf t b d (F_X9_sectorOf (w 7)) (w 0) else SC9 np th ed hh w pf t b d (F_X9_sectorOf (w (((49 + (2 * (tn (w 48)))) - 2) + 1))) (w ((49 + (2 * (tn (w 48)))) - 2))) = SC9 np th ed hh w pf t b d s k := by
        rw [← e48]
        by_cases q3 : v 48 = 0
        · have l0 : v 48 ≤ 0 := by rw [q3]; decide
          refine ⟨v 0, F_X8_sectorOf (v 7), ?_, ?_, Int.le_refl _, by omega, ?_⟩
          · simp only [F_X4_lastTick]; rw [if_pos l0]
          · simp only [F_X4_lastCode]; rw [if_pos l0]
          · rw [if_pos q3, sec_eq, e0, e7]
        · have l0 : ¬ v 48 ≤ 0 := fun e => by
            rw [Int32.le_iff_toInt_le, ti_0] at e
            exact q3 (Int32.toInt_inj.mp (by rw [ti_0]; omega))
          have lp : 0 < tn (v 48) := by
            rcases Nat.eq_zero_or_pos (tn (v 48)) with e | e
            · exact absurd (by rw [tn_eq iq.1, e]; rfl) q3
            · exact e
          have hq := hQ (tn (v 48) - 1) (by omega)
          have hb := iq.2.1 (tn (v 48) - 1) (by omega)
          refine ⟨a 0 (tn (v 48) - 1), F_X8_sectorOf (a 1 (tn (v 48) - 1)), ?_, ?_, by omega, hb.2, ?_⟩
          · simp only [F_X4_lastTick]; rw [if_neg l0]
          · simp only [F_X4_lastCode]; rw [if_neg l0]
          · rw [if_neg q3, sec_eq, hq.1, hq.2, show 49 + 2 * tn (v 48) - 2 + 1 = 50 + 2 * (tn (v 48) - 1) by omega, show 49 + 2 * tn (v 48) - 2 = 49 + 2 * (tn (v 48) - 1) by omega]
      rw [hY, ek, ec]
      unfold SC9
      rw [← e48]
      by_cases q4 : (40 : Int32) - v 48 < d
      · have q4' : 40 < v 48 + d := by
          rw [Int32.lt_iff_toInt_lt, es] at q4
          rw [Int32.lt_iff_toInt_lt, ea, e40]
          omega
        rw [if_pos q4, if_pos q4']
        exact ok_fail h (by decide)
      · have q4' : ¬ 40 < v 48 + d := by
          rw [Int32.lt_iff_toInt_lt, es] at q4
          rw [Int32.lt_iff_toInt_lt, ea, e40]
          omega
        rw [if_neg q4, if_neg q4']
        rw [Int32.lt_iff_toInt_lt, es] at q4
        by_cases q5 : s = -1
        · rw [if_pos q5, if_pos q5]
          exact ok_fail h (by decide)
        · rw [if_neg q5, if_neg q5]
          obtain ⟨j, hj, rfl⟩ := sec_nat (by rw [← ec, sec_eq]; exact sec_rng _) q5
          have hx := spin_rel (np := (F_X9_save np th ed hh w pf).1) (th := (F_X9_save np th ed hh w pf).2.1) (ed := ed) (hh := hh) (pf := (F_X9_save np th ed hh w pf).2.2) hd ht rb 41 v w a k _ _ 0 j h.1 h.2.1 (by omega) (by have := tn_lt hd; omega) (by omega) hj hk1 hk2 (by omega)
          dsimp only
          rw [hx.1.1 48 (by decide)]
          exact ok_put h hx.1 (hx.2.mono (by omega) (by omega))
theorem ok_spin (h : LI n v a c vs bs w pf np) (hn : n ≤ 512) (t b d : Int32) : OK n v a c vs bs (F_X8_spin v a t b d) (F_X9_spin np th ed hh w pf t b d).1 (F_X9_spin np th ed hh w pf t b d).2.1 (F_X9_spin np th ed hh w pf t b d).2.2.1 (F_X9_spin np th ed hh w pf t b d).2.2.2.1 (F_X9_spin np th ed hh w pf t b d).2.2.2.2 := by
  rw [spin8, spin9]
  by_cases q : t = 1
  · rw [if_pos q, if_pos q]; exact ok_spinB h hn (Or.inl q)
  · rw [if_neg q, if_neg q]
    by_cases q2 : t = -1
    · rw [if_pos q2, if_pos q2]; exact ok_spinB h hn (Or.inr q2)
    · rw [if_neg q2, if_neg q2]; exact ok_fail h (by decide)
/-- a question: the same thrown code, the same answer -/
def QK (X Y : Int32 × Int32) : Prop := Y.2 = X.1 ∧ (X.1 = 0 → Y.1 = X.2)
theorem qk_sensors (h : LI n v a c vs bs w pf np) (t : Int32) : QK (F_X8_sensors v a t) (F_X9_sensors np th ed hh w pf t) := by
  simp only [F_X8_sensors, F_X9_sensors, F_X9_fails, F_X9_tells]
  rw [← h.eq (k := 7) (by decide), ← h.eq (k := 8) (by decide), ← h.eq (k := 9) (by decide), ← h.eq (k := 11) (by decide)]
  by_cases q : t < 0 ∨ 3 < t
  · rw [if_pos q, if_pos (in_0 q)]; exact ⟨rfl, fun e => absurd e (by decide)⟩
  · rw [if_neg q, if_neg (in_1 q)]
    (repeat' split) <;> exact ⟨rfl, fun _ => rfl⟩
theorem small3 {t : Int32} (q : ¬ (t < 0 ∨ 3 < t)) : t = 0 ∨ t = 1 ∨ t = 2 ∨ t = 3 := by
  have r := rng_of (lo := 0) (hi := 3) q rfl rfl
  have e := vp_in_of (x := t) (n := 4) (by rw [vp_in_iff]; omega) (by decide)
  obtain ⟨j, hj, rfl⟩ := e
  rcases (show j = 0 ∨ j = 1 ∨ j = 2 ∨ j = 3 by omega) with rfl | rfl | rfl | rfl
  · exact Or.inl rfl
  · exact Or.inr (Or.inl rfl)
  · exact Or.inr (Or.inr (Or.inl rfl))
  · exact Or.inr (Or.inr (Or.inr rfl))
theorem qk_counts (h : LI n v a c vs bs w pf np) (t : Int32) : QK (F_X8_counts v a t) (F_X9_counts np th ed hh w pf t) := by
  simp only [F_X8_counts, F_X9_counts, F_X9_fails, F_X9_tells]
  by_cases q : t < 0 ∨ 3 < t
  · rw [if_pos q, if_pos (in_0 q)]; exact ⟨rfl, fun e => absurd e (by decide)⟩
  · rw [if_neg q, if_neg (in_1 q)]
    rcases small3 q with rfl | rfl | rfl | rfl
    · exact ⟨rfl, fun _ => (h.eq (k := 29) (by decide)).symm⟩
    · exact ⟨rfl, fun _ => (h.eq (k := 30) (by decide)).symm⟩
    · exact ⟨rfl, fun _ => (h.eq (k := 31) (by decide)).symm⟩
    · exact ⟨rfl, fun _ => (h.eq (k := 32) (by decide)).symm⟩
theorem small2 {t : Int32} (q : ¬ (t < 0 ∨ 2 < t)) : t = 0 ∨ t = 1 ∨ t = 2 := by
  have r := rng_of (lo := 0) (hi := 2) q rfl rfl
  have e := vp_in_of (x := t) (n := 3) (by rw [vp_in_iff]; omega) (by decide)
  obtain ⟨j, hj, rfl⟩ := e
  rcases (show j = 0 ∨ j = 1 ∨ j = 2 by omega) with rfl | rfl | rfl
  · exact Or.inl rfl
  · exact Or.inr (Or.inl rfl)
  · exact Or.inr (Or.inr rfl)
theorem qk_fault (h : LI n v a c vs bs w pf np) (t : Int32) : QK (F_X8_fault v a t) (F_X9_fault np th ed hh w pf t) := by
  simp only [F_X8_fault, F_X9_fault, F_X9_fails, F_X9_tells]
  by_cases q : t < 0 ∨ 2 < t
  · rw [if_pos q, if_pos (in_0 q)]; exact ⟨rfl, fun e => absurd e (by decide)⟩
  · rw [if_neg q, if_neg (in_1 q)]
    rcases small2 q with rfl | rfl | rfl
    · exact ⟨rfl, fun _ => (h.eq (k := 45) (by decide)).symm⟩
    · exact ⟨rfl, fun _ => (h.eq (k := 46) (by decide)).symm⟩
    · exact ⟨rfl, fun _ => (h.eq (k := 47) (by decide)).symm⟩
theorem leg_iff {t : Int32} : (t < 0 ∨ 3 ≤ t) ↔ (t < 0 ∨ 2 < t) := by
  have e3 : (3 : Int32).toInt = 3 := rfl
  have e2 : (2 : Int32).toInt = 2 := rfl
  rw [Int32.le_iff_toInt_le, Int32.lt_iff_toInt_lt (x := 2), e3, e2]
  constructor
  · rintro (q | q)
    · exact Or.inl q
    · exact Or.inr (by omega)
  · rintro (q | q)
    · exact Or.inl q
    · exact Or.inr (by omega)
theorem tn_lt3 {t : Int32} (q : ¬ (t < 0 ∨ 2 < t)) : tn t < 3 := by
  rcases small2 q with rfl | rfl | rfl <;> decide
theorem qk_leg (h : LI n v a c vs bs w pf np) (t : Int32) : QK (F_X8_leg v a t) (F_X9_leg np th ed hh w pf t) := by
  simp only [F_X8_leg, F_X9_leg, F_X9_fails, F_X9_tells]
  by_cases q : t < 0 ∨ 2 < t
  · rw [if_pos (leg_iff.mpr q), if_pos (in_0 q)]; exact ⟨rfl, fun e => absurd e (by decide)⟩
  · rw [if_neg (fun e => q (leg_iff.mp e)), if_neg (in_1 q)]
    exact ⟨rfl, fun _ => (h.1.2.2.2.1 (tn t) (tn_lt3 q)).1.symm⟩
theorem qk_onTicks (h : LI n v a c vs bs w pf np) (t b : Int32) : QK (F_X8_onTicks v a t b) (F_X9_onTicks np th ed hh w pf t b) := by
  simp only [F_X8_onTicks, F_X9_onTicks, F_X9_fails, F_X9_tells]
  by_cases q : t < 0 ∨ 2 < t
  · rw [if_pos (leg_iff.mpr q), if_pos (in_0 q)]; exact ⟨rfl, fun e => absurd e (by decide)⟩
  · rw [if_neg (fun e => q (leg_iff.mp e)), if_neg (in_1 q)]
    by_cases q2 : b = 0
    · rw [if_pos q2, if_pos q2]
      exact ⟨rfl, fun _ => (h.1.2.2.2.1 (tn t) (tn_lt3 q)).2.2.1.symm⟩
    · rw [if_neg q2, if_neg q2]
      exact ⟨rfl, fun _ => (h.1.2.2.2.1 (tn t) (tn_lt3 q)).2.1.symm⟩
theorem qk_interval (h : LI n v a c vs bs w pf np) (t : Int32) : QK (F_X8_interval v a t) (F_X9_interval np th ed hh w pf t) := by
  have e35 := h.eq (k := 35) (by decide)
  have hz := h.2.1.2.2.1.1
  have r := vp_in_iff.mp hz
  have es : (v 35 - 1).toInt = (v 35).toInt - 1 := by rw [fb_subI (by rw [ti_1]; omega) (by rw [ti_1]; omega), ti_1]
  simp only [F_X8_interval, F_X9_interval, F_X9_fails, F_X9_tells]
  rw [← e35]
  by_cases q : t < 0 ∨ v 35 - 1 < t
  · rw [if_pos (in_0 q)]
    by_cases q0 : t < 0
    · rw [if_pos q0]; exact ⟨rfl, fun e => absurd e (by decide)⟩
    · have q1 := q.resolve_left q0
      rw [Int32.lt_iff_toInt_lt, es] at q1
      rw [if_neg q0, if_neg (ti_nlt (by omega))]; exact ⟨rfl, fun e => absurd e (by decide)⟩
  · rw [if_neg (in_1 q)]
    have q0 : ¬ t < 0 := fun e => q (Or.inl e)
    have q1 : ¬ v 35 - 1 < t := fun e => q (Or.inr e)
    rw [Int32.lt_iff_toInt_lt, es] at q1
    have q2 : t < v 35 := by rw [Int32.lt_iff_toInt_lt]; omega
    rw [if_neg q0, if_pos q2]
    have hv := ivp hz q0 q2
    exact ⟨rfl, fun _ => (h.1.2.2.1 (tn t) (tn_lt hv)).symm⟩
/-- undo, where nothing is saved -/
theorem undo_none (h : LI n v a 0 vs bs w pf np) : F_X9_undo np th ed hh w pf = (0, np, 1, w) := by
  simp only [F_X9_undo, F_X9_fails]
  rw [if_pos (show np = 0 from h.2.2.1)]
theorem li_ini : LI 0 iniV iniA 0 (fun _ => iniV) (fun _ => iniA) (upd (upd (upd (upd (upd (upd (upd (upd (upd (upd (upd (upd (upd (upd (fun _ => 0) 1 (3 : Int32)) 2 (10 : Int32)) 3 (50 : Int32)) 4 (2 : Int32)) 5 (500 : Int32)) 7 (1 : Int32)) 8 (1 : Int32)) 16 (-1000 : Int32)) 19 (-1000 : Int32)) 17 (-1000 : Int32)) 20 (-1000 : Int32)) 18 (-1000 : Int32)) 21 (-1000 : Int32)) 33 (-1 : Int32)) (fun _ => 0) 0 := by
  refine ⟨⟨?_, ?_, ?_, ?_, ?_, ?_⟩, ⟨?_, ?_, ?_, ?_, ?_⟩, ?_⟩
  · exact RS.mk25 ⟨rfl, rfl, rfl, rfl, rfl, rfl, rfl, rfl, rfl, rfl, rfl, rfl, rfl, rfl, rfl, rfl, rfl, rfl, rfl, rfl, rfl, rfl, rfl, rfl, rfl⟩
  · intro k hk
    rw [pk_un (by omega), pk_un (by omega), pk_un (by omega), pk_un (by omega), pk_un (by omega), pk_un (by omega), pk_un (by omega), pk_un (by omega), pk_un (by omega), pk_un (by omega), pk_un (by omega), pk_un (by omega), pk_un (by omega), pk_un (by omega), pk_un (by omega), pk_un (by omega), pk_un (by omega), pk_un (by omega), pk_un (by omega), pk_un (by omega), pk_un (by omega), pk_un (by omega), pk_un (by omega), pk_un (by omega), pk_un (by omega), pk_un (by omega), pk_un (by omega), pk_un (by omega)]
    exact ⟨rfl, rfl⟩
  · intro k hk
    rw [pk_un (by omega), pk_un (by omega), pk_un (by omega), pk_un (by omega), pk_un (by omega), pk_un (by omega), pk_un (by omega), pk_un (by omega), pk_un (by omega), pk_un (by omega), pk_un (by omega), pk_un (by omega), pk_un (by omega), pk_un (by omega)]
    rfl
  · intro k hk
    rcases (show k = 0 ∨ k = 1 ∨ k = 2 by omega) with rfl | rfl | rfl
    · exact ⟨rfl, rfl, rfl, rfl, rfl⟩
    · exact ⟨rfl, rfl, rfl, rfl, rfl⟩
    · exact ⟨rfl, rfl, rfl, rfl, rfl⟩
  · exact fun q => absurd (show (0 : Int32) < 0 from q) (by decide)
  · exact Or.inl ⟨rfl, rfl⟩
  · exact (by decide : 0 ≤ (0 : Int32).toInt ∧ (0 : Int32).toInt ≤ 5000 * ((0 : Nat) : Int))
  · exact ⟨vp_in_nI (n := 0) (by decide) (by decide), fun k hk => absurd (show k < 0 from hk) (by omega), fun i j _ hj => absurd (show j < 0 from hj) (by omega)⟩
  · exact ⟨vp_in_nI (n := 0) (by decide) (by decide), fun k hk => absurd (show k < 0 from hk) (by omega), Or.inl ⟨rfl, rfl⟩⟩
  · show (0 : Int32) = F_X9_sectorOf 1
    decide +kernel
  · exact ⟨vp_in_nI (n := 0) (by decide) (by decide), (by decide : 0 ≤ (0 : Int32).toInt ∧ (0 : Int32).toInt < 3), (by decide : 0 ≤ (0 : Int32).toInt ∧ (0 : Int32).toInt < 20)⟩
  · exact ⟨rfl, by omega, fun i hi => absurd hi (by omega)⟩
end OneCall2
