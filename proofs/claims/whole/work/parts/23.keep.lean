/-! what the model's parts of a tick leave alone -/
theorem due1_keep : ∀ (n : Nat) (np th ed : Int32) (hh : Int64) (w pf : Nat → Int32) (zz : Int32) (i k : Nat), k ≠ 7 → (LP_X9_due1 n np th ed hh w pf zz i).2 k = w k := by
  intro n
  induction n with
  | zero => intro np th ed hh w pf zz i k hk; rfl
  | succ n ih =>
    intro np th ed hh w pf zz i k hk
    simp only [LP_X9_due1]
    split
    · rfl
    · split
      · rw [ih _ _ _ _ _ _ _ _ _ hk, pk_un hk]
      · rfl
theorem due1_le : ∀ (n : Nat) (np th ed : Int32) (hh : Int64) (w pf : Nat → Int32) (zz : Int32) (i m : Nat), vp_in zz m → i ≤ tn zz → (LP_X9_due1 n np th ed hh w pf zz i).1 ≤ tn zz := by
  intro n
  induction n with
  | zero => intro np th ed hh w pf zz i m hz hi; exact hi
  | succ n ih =>
    intro np th ed hh w pf zz i m hz hi
    simp only [LP_X9_due1]
    split
    · exact hi
    · rename_i c
      split
      · exact ih _ _ _ _ _ _ _ _ m hz (nz_lt hz hi c)
      · exact hi
theorem due2_keep : ∀ (n : Nat) (np th ed : Int32) (hh : Int64) (w pf : Nat → Int32) (zz : Int32) (d i k : Nat), k < 49 → 2 * d ≤ i → (LP_X9_due2 n np th ed hh w pf zz d i).2 k = w k := by
  intro n
  induction n with
  | zero => intro np th ed hh w pf zz d i k hk hd; rfl
  | succ n ih =>
    intro np th ed hh w pf zz d i k hk hd
    simp only [LP_X9_due2]
    split
    · rfl
    · rw [ih _ _ _ _ _ _ _ _ _ _ hk (by omega), pk_un (by omega)]
theorem due_keep {np th ed : Int32} {hh : Int64} {w pf : Nat → Int32} {k : Nat} (h7 : k ≠ 7) (hk : k < 48) : F_X9_due np th ed hh w pf k = w k := by
  simp only [F_X9_due]
  split
  · rw [due1_keep _ _ _ _ _ _ _ _ _ _ h7]
  · rw [pk_un (by omega), due2_keep _ _ _ _ _ _ _ _ _ _ _ (by omega) (Nat.le_refl _), due1_keep _ _ _ _ _ _ _ _ _ _ h7]
theorem due_35 {np th ed : Int32} {hh : Int64} {w pf x : Nat → Int32} (h : x = F_X9_due np th ed hh w pf) : x 35 = w 35 := by rw [h, due_keep (by decide) (by decide)]
theorem filt_35 {np th ed r : Int32} {hh : Int64} {w pf x : Nat → Int32} (h : (r, x) = F_X9_filters np th ed hh w pf) : x 35 = w 35 := by
  have h2 : x = (F_X9_filters np th ed hh w pf).2 := congrArg Prod.snd h
  rw [h2]
  simp only [F_X9_filters]
  (repeat' split) <;> rfl
theorem in_vp {t r : Int32} (n : Nat) (h : r = F_X9_in t 0 (nI n)) (c : ¬ r = 0) (hn : n < 10000) : vp_in t (n + 1) := by
  simp only [F_X9_in] at h
  split at h
  · exact absurd h c
  · rename_i c1
    split at h
    · exact absurd h c
    · rename_i c2
      obtain ⟨j, hj, e⟩ := nI_of c1
      subst e
      have : ¬ n < j := fun q => c2 (nI_lt q hj)
      exact vp_in_nI (by omega) (by omega)
theorem in_vp35 {t r z : Int32} (hz : vp_in z 7) (h : r = F_X9_in t 0 (z - 1)) (c : ¬ r = 0) : vp_in t 6 := by
  have e := tn_eq hz
  have hl := tn_lt hz
  generalize hn : tn z = n at e hl
  subst e
  rcases Nat.eq_zero_or_pos n with q | q
  · subst q
    simp only [F_X9_in] at h
    split at h
    · exact absurd h c
    · rename_i c1
      split at h
      · exact absurd h c
      · rename_i c2
        obtain ⟨j, hj, e⟩ := nI_of c1
        subst e
        exact absurd (by rw [Int32.lt_iff_toInt_lt, nI_toInt hj]; have : (nI 0 - 1).toInt = -1 := by decide
                         rw [this]; omega) c2
  · rw [nI_sub1 q] at h
    have := in_vp (n - 1) h c (by omega)
    exact vp_le_in this 6 (by have := tn_lt this; omega)
