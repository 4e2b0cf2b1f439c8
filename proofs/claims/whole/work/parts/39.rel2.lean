/-! filter, sectors, faults, watch, edges: class and model alike -/
theorem RS.all {v w : Nat → Int32} (h : RS v w) : v 0 = w 0 ∧ v 1 = w 1 ∧ v 2 = w 2 ∧ v 3 = w 3 ∧ v 4 = w 4 ∧ v 5 = w 5 ∧ v 6 = w 6 ∧ v 7 = w 7 ∧ v 8 = w 8 ∧ v 9 = w 9 ∧ v 11 = w 11 ∧ v 12 = w 12 ∧ v 28 = w 28 ∧ v 29 = w 29 ∧ v 30 = w 30 ∧ v 31 = w 31 ∧ v 32 = w 32 ∧ v 35 = w 35 ∧ v 42 = w 42 ∧ v 43 = w 43 ∧ v 44 = w 44 ∧ v 45 = w 45 ∧ v 46 = w 46 ∧ v 47 = w 47 ∧ v 48 = w 48 := by
  refine ⟨?_, ?_, ?_, ?_, ?_, ?_, ?_, ?_, ?_, ?_, ?_, ?_, ?_, ?_, ?_, ?_, ?_, ?_, ?_, ?_, ?_, ?_, ?_, ?_, ?_⟩ <;> exact h _ (by decide)
theorem RS.mk25 {v w : Nat → Int32} (h : v 0 = w 0 ∧ v 1 = w 1 ∧ v 2 = w 2 ∧ v 3 = w 3 ∧ v 4 = w 4 ∧ v 5 = w 5 ∧ v 6 = w 6 ∧ v 7 = w 7 ∧ v 8 = w 8 ∧ v 9 = w 9 ∧ v 11 = w 11 ∧ v 12 = w 12 ∧ v 28 = w 28 ∧ v 29 = w 29 ∧ v 30 = w 30 ∧ v 31 = w 31 ∧ v 32 = w 32 ∧ v 35 = w 35 ∧ v 42 = w 42 ∧ v 43 = w 43 ∧ v 44 = w 44 ∧ v 45 = w 45 ∧ v 46 = w 46 ∧ v 47 = w 47 ∧ v 48 = w 48) : RS v w := by
  obtain ⟨h0, h1, h2, h3, h4, h5, h6, h7, h8, h9, h11, h12, h28, h29, h30, h31, h32, h35, h42, h43, h44, h45, h46, h47, h48⟩ := h
  intro k hk
  simp only [rsL, List.mem_cons, List.not_mem_nil, or_false] at hk
  rcases hk with rfl | rfl | rfl | rfl | rfl | rfl | rfl | rfl | rfl | rfl | rfl | rfl | rfl | rfl | rfl | rfl | rfl | rfl | rfl | rfl | rfl | rfl | rfl | rfl | rfl <;> assumption
/-- a place of the row that holds a scalar -/
def isSc (k : Nat) : Prop := k < 13 ∨ (28 ≤ k ∧ k < 36) ∨ (42 ≤ k ∧ k < 49)
theorem RQ.kept {tk cd w w' : Nat → Int32} (h : RQ tk cd w) (hk : ∀ j, 49 ≤ j → j < 129 → w' j = w j) : RQ tk cd w' := fun k hk9 => by rw [hk _ (by omega) (by omega), hk _ (by omega) (by omega)]; exact h k hk9
theorem RI.kept {iv w w' : Nat → Int32} (h : RI iv w) (hk : ∀ j, 36 ≤ j → j < 42 → w' j = w j) : RI iv w' := fun k hk9 => by rw [hk _ (by omega) (by omega)]; exact h k hk9
theorem RL3.kept {a : Nat → Nat → Int32} {w w' : Nat → Int32} (h : RL3 a w) (hk : ∀ j, 13 ≤ j → j < 28 → w' j = w j) : RL3 a w' := fun k hk9 => by rw [hk _ (by omega) (by omega), hk _ (by omega) (by omega), hk _ (by omega) (by omega), hk _ (by omega) (by omega), hk _ (by omega) (by omega)]; exact h k hk9
theorem filt_rel {np th ed : Int32} {hh : Int64} {w pf : Nat → Int32} {r f c n F s : Int32} (h7 : w 7 = r) (h8 : w 8 = f) (hc : 0 < n → c = w 10) (h11 : w 11 = n) (h1 : w 1 = F) :
    (F_X9_filters np th ed hh w pf).1 = (F_X5_filterRaw r f s c n F).1 ∧ (F_X9_filters np th ed hh w pf).2 8 = (F_X5_filterRaw r f s c n F).2.1 ∧ (F_X9_filters np th ed hh w pf).2 11 = (F_X5_filterRaw r f s c n F).2.2.2 ∧ (0 < (F_X5_filterRaw r f s c n F).2.2.2 → (F_X5_filterRaw r f s c n F).2.2.1 = (F_X9_filters np th ed hh w pf).2 10) ∧ ∀ k, k ≠ 8 → k ≠ 10 → k ≠ 11 → (F_X9_filters np th ed hh w pf).2 k = w k := by
  subst h7; subst h8; subst h11; subst h1
  simp only [F_X9_filters, F_X5_filterRaw]
  by_cases c1 : w 7 = w 8
  · rw [if_pos c1, if_pos c1]
    refine ⟨rfl, rfl, rfl, fun h => absurd (show (0 : Int32) < 0 from h) (by decide), fun k a b d => pk_un d⟩
  · rw [if_neg c1, if_neg c1]
    by_cases c2 : w 11 ≤ 0
    · rw [if_pos c2, if_pos c2]
      have e1 : ∀ {α : Type} (p : Prop) [Decidable p] (x : α), (if p then x else x) = x := fun p _ x => by split <;> rfl
      rw [e1, e1]
      by_cases c3 : w 1 ≤ 1
      · rw [if_pos c3, if_pos c3]
        refine ⟨rfl, rfl, rfl, fun h => absurd (show (0 : Int32) < 0 from h) (by decide), fun k a b d => ?_⟩
        show upd (upd (upd (upd w 11 1) 10 (w 7)) 8 (w 7)) 11 0 k = w k
        rw [pk_un d, pk_un a, pk_un b, pk_un d]
      · rw [if_neg c3, if_neg c3]
        refine ⟨rfl, rfl, rfl, fun _ => rfl, fun k a b d => ?_⟩
        show upd (upd w 11 1) 10 (w 7) k = w k
        rw [pk_un b, pk_un d]
    · rw [if_neg c2, if_neg c2]
      have e10 := hc (Int32.not_le.mp c2)
      subst e10
      by_cases c4 : w 7 = w 10
      · rw [if_pos c4, if_pos c4]
        by_cases c3 : w 1 ≤ w 11 + 1
        · rw [if_pos c3, if_pos c3]
          refine ⟨rfl, rfl, rfl, fun h => absurd (show (0 : Int32) < 0 from h) (by decide), fun k a b d => ?_⟩
          show upd (upd (upd (upd w 11 (w 11 + 1)) 10 (w 7)) 8 (w 7)) 11 0 k = w k
          rw [pk_un d, pk_un a, pk_un b, pk_un d]
        · rw [if_neg c3, if_neg c3]
          refine ⟨rfl, rfl, rfl, fun _ => c4.symm, fun k a b d => ?_⟩
          show upd (upd w 11 (w 11 + 1)) 10 (w 7) k = w k
          rw [pk_un b, pk_un d]
      · rw [if_neg c4, if_neg c4]
        by_cases c3 : w 1 ≤ 1
        · rw [if_pos c3, if_pos c3]
          refine ⟨rfl, rfl, rfl, fun h => absurd (show (0 : Int32) < 0 from h) (by decide), fun k a b d => ?_⟩
          show upd (upd (upd (upd w 11 1) 10 (w 7)) 8 (w 7)) 11 0 k = w k
          rw [pk_un d, pk_un a, pk_un b, pk_un d]
        · rw [if_neg c3, if_neg c3]
          refine ⟨rfl, rfl, rfl, fun _ => rfl, fun k a b d => ?_⟩
          show upd (upd w 11 1) 10 (w 7) k = w k
          rw [pk_un b, pk_un d]
theorem int_cases {t : Int32} (n : Nat) (hn : n < 2 ^ 31) : t < 0 ∨ nI n ≤ t ∨ ∃ j, j < n ∧ t = nI j := pk_ix t hn
theorem sec_tab : ∀ j, j < 8 → F_X8_sectorOf (nI j) = F_X9_sectorOf (nI j) ∧ -1 ≤ (F_X9_sectorOf (nI j)).toInt ∧ (F_X9_sectorOf (nI j)).toInt < 6 := by decide +kernel
theorem sec9_out {t : Int32} (h : t < 0 ∨ nI 8 ≤ t) : F_X9_sectorOf t = -1 := by
  have hne : ∀ j, 0 < j → j < 8 → ¬ t = nI j := by
    intro j hj0 hj q
    subst q
    rcases h with h | h
    · exact nI_pos (by omega) h
    · exact nI_ge hj (by decide) h
  simp only [F_X9_sectorOf]
  have h1 : ¬ t = (1 : Int32) := hne 1 (by decide) (by decide)
  have h2 : ¬ t = (2 : Int32) := hne 2 (by decide) (by decide)
  have h3 : ¬ t = (3 : Int32) := hne 3 (by decide) (by decide)
  have h4 : ¬ t = (4 : Int32) := hne 4 (by decide) (by decide)
  have h5 : ¬ t = (5 : Int32) := hne 5 (by decide) (by decide)
  have h6 : ¬ t = (6 : Int32) := hne 6 (by decide) (by decide)
  rw [if_neg h1, if_neg h2, if_neg h3, if_neg h4, if_neg h5, if_neg h6]
theorem sec_eq (t : Int32) : F_X8_sectorOf t = F_X9_sectorOf t := by
  rcases int_cases (t := t) 8 (by decide) with h | h | ⟨j, hj, rfl⟩
  · rw [sec9_out (Or.inl h)]
    simp only [F_X8_sectorOf, ent]
    rw [if_pos h]
  · rw [sec9_out (Or.inr h)]
    simp only [F_X8_sectorOf, ent]
    split
    · rfl
    · exact if_pos h
  · exact (sec_tab j hj).1
theorem sec_rng (t : Int32) : -1 ≤ (F_X9_sectorOf t).toInt ∧ (F_X9_sectorOf t).toInt < 6 := by
  rcases int_cases (t := t) 8 (by decide) with h | h | ⟨j, hj, rfl⟩
  · rw [sec9_out (Or.inl h)]; decide
  · rw [sec9_out (Or.inr h)]; decide
  · exact (sec_tab j hj).2
