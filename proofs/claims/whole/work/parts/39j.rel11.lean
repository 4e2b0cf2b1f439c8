/-! a code more, and many: class and model alike -/
def insP (R : Nat × (Nat → Int32) × (Nat → Int32)) (tk : Nat → Int32) (t : Int32) (i : Nat) : Prop := R.1 ≤ i ∧ (R.1 = 0 ∨ tk (R.1 - 1) ≤ t) ∧ (∀ k, R.1 ≤ k → k < i → ¬ tk k ≤ t) ∧ (∀ k, R.2.1 k = if R.1 < k ∧ k ≤ i then tk (k - 1) else tk k)
theorem ins_form : ∀ (n : Nat) (z : Int32) (tk cd : Nat → Int32) (t b : Int32) (i : Nat), i < n → i < 2 ^ 31 → insP (LP_X4_insert n z tk cd t b i) tk t i := by
  intro n
  induction n with
  | zero => intro z tk cd t b i h; omega
  | succ n ih =>
    intro z tk cd t b i h h31
    simp only [LP_X4_insert]
    by_cases c : nI i ≤ 0
    · rw [if_pos c]
      have e : i = 0 := by
        rcases Nat.eq_zero_or_pos i with q | q
        · exact q
        · exact absurd c (nI_nle q h31)
      subst e
      exact ⟨Nat.le_refl _, Or.inl rfl, fun k a b => by omega, fun k => by rw [if_neg (by dsimp only; omega)]⟩
    · rw [if_neg c]
      have e := nI_p0 c
      by_cases c2 : tk (i - 1) ≤ t
      · rw [if_pos c2]
        exact ⟨Nat.le_refl _, Or.inr c2, fun k a b => by dsimp only at a; omega, fun k => by rw [if_neg (by dsimp only; omega)]⟩
      · rw [if_neg c2]
        obtain ⟨r1, r2, r3, r4⟩ := ih z (upd tk i (tk (i - 1))) (upd cd i (cd (i - 1))) t b (i - 1) (by omega) (by omega)
        generalize LP_X4_insert n z (upd tk i (tk (i - 1))) (upd cd i (cd (i - 1))) t b (i - 1) = R at r1 r2 r3 r4 ⊢
        refine ⟨by omega, ?_, fun k a1 a2 => ?_, fun k => ?_⟩
        · rcases r2 with q | q
          · exact Or.inl q
          · right
            rw [pk_un (by omega)] at q
            exact q
        · by_cases ek : k = i - 1
          · subst ek; exact c2
          · have := r3 k a1 (by omega)
            rw [pk_un (by omega)] at this
            exact this
        · rw [r4 k]
          by_cases ek : k = i
          · subst ek
            rw [if_neg (by omega), pk_us, if_pos (by omega)]
          · by_cases c3 : R.1 < k ∧ k ≤ i - 1
            · rw [if_pos c3, if_pos (by omega), pk_un (by omega)]
            · rw [if_neg c3, if_neg (by omega), pk_un ek]
theorem wait_lock : ∀ (n : Nat) (np th ed : Int32) (hh : Int64) (w pf : Nat → Int32) (z : Int32) (tk cd : Nat → Int32) (t b : Int32) (i : Nat), RQ tk cd w → i < 40 → (LP_X9_waits n np th ed hh w pf t b i).1 = (LP_X4_insert n z tk cd t b i).1 ∧ RQ (LP_X4_insert n z tk cd t b i).2.1 (LP_X4_insert n z tk cd t b i).2.2 (LP_X9_waits n np th ed hh w pf t b i).2 := by
  intro n
  induction n with
  | zero => intro np th ed hh w pf z tk cd t b i hq hi; exact ⟨rfl, hq⟩
  | succ n ih =>
    intro np th ed hh w pf z tk cd t b i hq hi
    simp only [LP_X9_waits, LP_X4_insert]
    by_cases c : nI i ≤ 0
    · rw [if_pos c, if_pos c]; exact ⟨rfl, hq⟩
    · rw [if_neg c, if_neg c]
      have e := nI_p0 c
      have e1 := (hq (i - 1) (by omega)).1
      have e2 := (hq (i - 1) (by omega)).2
      have x1 : 49 + 2 * i - 2 = 49 + 2 * (i - 1) := by omega
      have x2 : 49 + 2 * i - 1 = 50 + 2 * (i - 1) := by omega
      rw [x1, x2, ← e1]
      by_cases c2 : tk (i - 1) ≤ t
      · rw [if_pos c2, if_pos c2]; exact ⟨rfl, hq⟩
      · rw [if_neg c2, if_neg c2]
        refine ih _ _ _ _ _ _ _ _ _ _ _ _ ?_ (by omega)
        intro k hk
        rw [pk_un (show 50 + 2 * (i - 1) ≠ 49 + 2 * i by omega), ← e2]
        by_cases ek : k = i
        · subst ek
          rw [pk_us, pk_us, pk_un (show 49 + 2 * k ≠ 49 + 2 * k + 1 by omega), pk_us, show 50 + 2 * k = 49 + 2 * k + 1 by omega, pk_us]
          exact ⟨rfl, rfl⟩
        · rw [pk_un ek, pk_un ek, pk_un (by omega), pk_un (by omega), pk_un (by omega), pk_un (by omega)]
          exact hq k hk
theorem insF {z : Int32} {tk cd : Nat → Int32} {t b : Int32} (hz : vp_in z 40) : F_X4_insert z tk cd t b = (z + 1, upd (LP_X4_insert 41 z tk cd t b (tn z)).2.1 (LP_X4_insert 41 z tk cd t b (tn z)).1 t, upd (LP_X4_insert 41 z tk cd t b (tn z)).2.2 (LP_X4_insert 41 z tk cd t b (tn z)).1 b) := by
  have hl := tn_lt hz
  have c1 : ¬ z < 0 := fun q => hz (Or.inl q)
  have c2 : z < 40 := by rw [tn_eq hz]; exact nI_lt hl (by decide)
  simp only [F_X4_insert]
  rw [if_neg c1, if_pos c2]
theorem ins_rel {np th ed : Int32} {hh : Int64} {w pf : Nat → Int32} {z : Int32} {tk cd : Nat → Int32} {t b : Int32} (hq : RQ tk cd w) (h48 : w 48 = z) (hz : vp_in z 40) :
    RQ (F_X4_insert z tk cd t b).2.1 (F_X4_insert z tk cd t b).2.2 (F_X9_waits np th ed hh w pf t b) ∧ F_X9_waits np th ed hh w pf t b 48 = (F_X4_insert z tk cd t b).1 ∧ ∀ k, k < 48 → F_X9_waits np th ed hh w pf t b k = w k := by
  have hl := tn_lt hz
  obtain ⟨r1, r2⟩ := wait_lock 41 np th ed hh w pf z tk cd t b (tn z) hq hl
  obtain ⟨f1, _, _, _⟩ := ins_form 41 z tk cd t b (tn z) (by omega) (by omega)
  have hk := fun k (hk : k < 49) => waits_keep 41 np th ed hh w pf t b (tn z) k hk
  rw [insF hz]
  simp only [F_X9_waits]
  rw [h48]
  generalize LP_X4_insert 41 z tk cd t b (tn z) = R at r1 r2 f1 ⊢
  generalize LP_X9_waits 41 np th ed hh w pf t b (tn z) = Y at r1 r2 hk ⊢
  refine ⟨fun k hk9 => ?_, ?_, fun k hk9 => ?_⟩
  · rw [r1, pk_un (show 49 + 2 * k ≠ 48 by omega), pk_un (show 50 + 2 * k ≠ 48 by omega)]
    by_cases ek : k = R.1
    · subst ek
      rw [pk_us, pk_us, pk_un (show 49 + 2 * R.1 ≠ 49 + 2 * R.1 + 1 by omega), pk_us, show 50 + 2 * R.1 = 49 + 2 * R.1 + 1 by omega, pk_us]
      exact ⟨rfl, rfl⟩
    · rw [pk_un ek, pk_un ek, pk_un (by omega), pk_un (by omega), pk_un (by omega), pk_un (by omega)]
      exact r2 k hk9
  · rw [pk_us, pk_un (by omega), pk_un (by omega), hk 48 (by decide), h48]
  · rw [pk_un (by omega), pk_un (by omega), pk_un (by omega), hk k (by omega)]
theorem IQ.insert {z : Int32} {tk cd : Nat → Int32} {t b : Int32} {T C C' : Int} (h : IQ z tk T C) (hz : vp_in z 40) (h1 : T < t.toInt) (h2 : t.toInt ≤ C') (hC : C ≤ C') : IQ (F_X4_insert z tk cd t b).1 (F_X4_insert z tk cd t b).2.1 T C' := by
  obtain ⟨_, q1, q2⟩ := h
  have hl := tn_lt hz
  obtain ⟨f1, f2, f3, f4⟩ := ins_form 41 z tk cd t b (tn z) (by omega) (by omega)
  rw [insF hz]
  generalize LP_X4_insert 41 z tk cd t b (tn z) = R at f1 f2 f3 f4 ⊢
  have ez : z + 1 = nI (tn z + 1) := (congrArg (fun x => x + 1) (tn_eq hz)).trans (nI_1 _)
  have et : tn (z + 1) = tn z + 1 := by rw [ez]; exact nI_clamp (by omega)
  dsimp only
  have g : ∀ k, k < tn z + 1 → (upd R.2.1 R.1 t k = if k < R.1 then tk k else if k = R.1 then t else tk (k - 1)) := fun k hk => by
    by_cases e1 : k = R.1
    · subst e1; rw [pk_us, if_neg (by omega), if_pos rfl]
    · rw [pk_un e1, f4 k]
      by_cases e2 : k < R.1
      · rw [if_pos e2, if_neg (by omega)]
      · rw [if_neg e2, if_neg e1, if_pos (by omega)]
  have lo : ∀ k, k < R.1 → (tk k).toInt ≤ t.toInt := fun k hk => by
    rcases f2 with q | q
    · omega
    · have a1 := Int32.le_iff_toInt_le.mp q
      have a2 := q2 k (R.1 - 1) (by omega) (by omega)
      omega
  have hi : ∀ k, R.1 ≤ k → k < tn z → t.toInt ≤ (tk k).toInt := fun k a1 a2 => by
    have := Int32.lt_iff_toInt_lt.mp (Int32.not_le.mp (f3 k a1 a2))
    omega
  refine ⟨by rw [ez]; exact vp_in_nI (by omega) (by decide), fun k hk => ?_, fun i j hij hj => ?_⟩
  · rw [et] at hk
    rw [g k hk]
    by_cases e1 : k < R.1
    · rw [if_pos e1]
      have := q1 k (by omega)
      omega
    · rw [if_neg e1]
      by_cases e2 : k = R.1
      · rw [if_pos e2]; omega
      · rw [if_neg e2]
        have := q1 (k - 1) (by omega)
        omega
  · rw [et] at hj
    rw [g i (by omega), g j hj]
    by_cases a1 : i < R.1
    · rw [if_pos a1]
      by_cases b1 : j < R.1
      · rw [if_pos b1]; exact q2 i j hij (by omega)
      · rw [if_neg b1]
        by_cases b2 : j = R.1
        · rw [if_pos b2]; exact lo i a1
        · rw [if_neg b2]; exact q2 i (j - 1) (by omega) (by omega)
    · rw [if_neg a1]
      by_cases b2 : j = R.1
      · rw [if_pos (show i = R.1 by omega), if_neg (by omega), if_pos b2]; exact Int.le_refl _
      · rw [if_neg (show ¬ j < R.1 by omega), if_neg b2]
        by_cases a2 : i = R.1
        · rw [if_pos a2]; exact hi (j - 1) (by omega) (by omega)
        · rw [if_neg a2]; exact q2 (i - 1) (j - 1) (by omega) (by omega)
/-- one code more -/
theorem put_rel {np th ed : Int32} {hh : Int64} {v w pf : Nat → Int32} {a : Nat → Nat → Int32} {t b : Int32} {B C C' : Int} (hl : Rel v a w) (hi : Inv v a B C) (hz : vp_in (v 48) 40) (h1 : (v 0).toInt < t.toInt) (h2 : t.toInt ≤ C') (hC : C ≤ C') :
    Rel (upd v 48 (F_X4_insert (v 48) (a 0) (a 1) t b).1) (va_up (va_up a 0 (F_X4_insert (v 48) (a 0) (a 1) t b).2.1) 1 (F_X4_insert (v 48) (a 0) (a 1) t b).2.2) (F_X9_waits np th ed hh w pf t b) ∧ Inv (upd v 48 (F_X4_insert (v 48) (a 0) (a 1) t b).1) (va_up (va_up a 0 (F_X4_insert (v 48) (a 0) (a 1) t b).2.1) 1 (F_X4_insert (v 48) (a 0) (a 1) t b).2.2) B C' := by
  obtain ⟨hR, hQ, hI, hL, hCc, hE⟩ := hl
  obtain ⟨i0, iq, im, is, ig⟩ := hi
  have h48 := hR 48 (by decide)
  obtain ⟨r1, r2, r3⟩ := ins_rel (np := np) (th := th) (ed := ed) (hh := hh) (pf := pf) (t := t) (b := b) hQ h48.symm hz
  have hI2 := iq.insert (cd := a 1) (b := b) hz h1 h2 hC
  generalize F_X9_waits np th ed hh w pf t b = W2 at r1 r2 r3 ⊢
  generalize F_X4_insert (v 48) (a 0) (a 1) t b = Y at r1 r2 hI2 ⊢
  refine ⟨⟨?_, r1, hI.kept (fun j a1 a2 => r3 j (by omega)), hL.kept (fun j a1 a2 => r3 j (by omega)), ?_, ?_⟩, i0, hI2, im, is, ig⟩
  · intro k hk
    by_cases e : k = 48
    · subst e; rw [pk_us, r2]
    · have hk2 : k < 48 := by
        simp only [rsL, List.mem_cons, List.not_mem_nil, or_false] at hk
        omega
      rw [pk_un e, r3 k hk2]; exact hR k hk
  · intro h
    rw [r3 10 (by decide)]
    exact hCc h
  · show (v 34 = 0 ∧ W2 33 = -1) ∨ ((v 34 = 1 ∨ v 34 = -1) ∧ v 34 = W2 34 ∧ v 33 = W2 33 ∧ ¬ W2 33 = -1)
    rw [r3 33 (by decide), r3 34 (by decide)]
    exact hE
theorem code_tab1 : ∀ s, s < 6 → ∃ r, r < 6 ∧ ((nI s + 1) + 6) - ((nI s + 1) + 6) / 6 * 6 = nI r ∧ F_X8_codeOf (nI r) = F_X9_codeOf (nI r) := by decide +kernel
theorem code_tab2 : ∀ s, s < 6 → ∃ r, r < 6 ∧ ((nI s + -1) + 6) - ((nI s + -1) + 6) / 6 * 6 = nI r ∧ F_X8_codeOf (nI r) = F_X9_codeOf (nI r) := by decide +kernel
theorem spin_rel {np th ed : Int32} {hh : Int64} {pf : Nat → Int32} {t b d : Int32} (hd : vp_in d 41) (ht : t = 1 ∨ t = -1) (hb : 1 ≤ b.toInt ∧ b.toInt ≤ 1000) : ∀ (n : Nat) (v w : Nat → Int32) (a : Nat → Nat → Int32) (tt : Int32) (B C : Int) (i s : Nat), Rel v a w → Inv v a B C → i ≤ tn d → tn d < i + n → tn (v 48) + (tn d - i) ≤ 40 → s < 6 → (v 0).toInt ≤ tt.toInt → tt.toInt ≤ C → C + 1000 * (tn d - i : Nat) < 1000000000 →
    Rel (LP_X8_spin n v a t b d i (nI s) tt).2.2.2.1 (LP_X8_spin n v a t b d i (nI s) tt).2.2.2.2 (LP_X9_spin n np th ed hh w pf t b d i tt (nI s)).2.2.2 ∧ Inv (LP_X8_spin n v a t b d i (nI s) tt).2.2.2.1 (LP_X8_spin n v a t b d i (nI s) tt).2.2.2.2 B (C + 1000 * (tn d - i : Nat)) := by
  intro n
  induction n with
  | zero => intro v w a tt B C i s _ _ _ h; omega
  | succ n ih =>
    intro v w a tt B C i s hl hi h1 h2 h3 hs ht1 ht2 hC
    simp only [LP_X8_spin, LP_X9_spin]
    by_cases c : d ≤ nI i
    · rw [if_pos c, if_pos c]
      obtain ⟨i0, iq, im, is, ig⟩ := hi
      refine ⟨hl, i0, ⟨iq.1, fun k hk => ?_, iq.2.2⟩, im, is, ig⟩
      have := iq.2.1 k hk
      dsimp only
      omega
    · rw [if_neg c, if_neg c]
      have hlt := nz_lt hd h1 c
      obtain ⟨r, hr, er, ec⟩ : ∃ r, r < 6 ∧ ((nI s + t) + 6) - ((nI s + t) + 6) / 6 * 6 = nI r ∧ F_X8_codeOf (nI r) = F_X9_codeOf (nI r) := by
        rcases ht with e | e
        · subst e; exact code_tab1 s hs
        · subst e; exact code_tab2 s hs
      rw [er, ec]
      have i0 := hi.1
      have hz40 : vp_in (v 48) 40 := vp_le_in hi.2.1.1 40 (by omega)
      have e1 : (tt + b).toInt = tt.toInt + b.toInt := fb_addI (by omega) (by omega)
      have hp := put_rel (np := np) (th := th) (ed := ed) (hh := hh) (pf := pf) (t := tt + b) (b := F_X9_codeOf (nI r)) (C' := C + 1000) hl hi hz40 (by omega) (by omega) (by omega)
      have e48 : tn ((F_X4_insert (v 48) (a 0) (a 1) (tt + b) (F_X9_codeOf (nI r))).1) = tn (v 48) + 1 := by
        rw [insF hz40]
        dsimp only
        rw [show v 48 + 1 = nI (tn (v 48) + 1) from (congrArg (fun x => x + 1) (tn_eq hz40)).trans (nI_1 _)]
        exact nI_clamp (by omega)
      have hr2 := ih _ _ _ (tt + b) B (C + 1000) (i + 1) r hp.1 hp.2 (by omega) (by omega) (by rw [pk_us, e48]; omega) hr (by rw [pk_un (by decide)]; omega) (by omega) (by omega)
      rw [show C + 1000 * ((tn d - i : Nat) : Int) = C + 1000 + 1000 * ((tn d - (i + 1) : Nat) : Int) by omega]
      exact hr2
