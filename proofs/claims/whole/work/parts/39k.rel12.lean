/-! what is saved and brought back: class and model alike -/
theorem Rel.cong {v : Nat → Int32} {a : Nat → Nat → Int32} {w w' : Nat → Int32} (h : Rel v a w) (e : ∀ k, k < 129 → w' k = w k) : Rel v a w' := by
  obtain ⟨hR, hQ, hI, hL, hC, hE⟩ := h
  refine ⟨fun k hk => ?_, hQ.kept (fun j _ q => e j q), hI.kept (fun j _ q => e j (by omega)), hL.kept (fun j _ q => e j (by omega)), fun q => ?_, ?_⟩
  · have hk2 : k < 129 := by
      simp only [rsL, List.mem_cons, List.not_mem_nil, or_false] at hk
      omega
    rw [e k hk2]; exact hR k hk
  · rw [e 10 (by decide)]; exact hC q
  · show (v 34 = 0 ∧ w' 33 = -1) ∨ ((v 34 = 1 ∨ v 34 = -1) ∧ v 34 = w' 34 ∧ v 33 = w' 33 ∧ ¬ w' 33 = -1)
    rw [e 33 (by decide), e 34 (by decide)]; exact hE
theorem cp_lt {a x : Nat → Nat → Int32} {j k : Nat} (h : k < szA j) : cpA a x j k = a j k := by
  simp only [cpA, va_cpy]
  rw [if_pos (by omega)]
  congr 1
  omega
theorem Rel.cp {v : Nat → Int32} {a x : Nat → Nat → Int32} {w : Nat → Int32} (h : Rel v a w) : Rel v (cpA a x) w := by
  obtain ⟨hR, hQ, hI, hL, hC, hE⟩ := h
  refine ⟨hR, fun k hk => ?_, fun k hk => ?_, fun k hk => ?_, hC, hE⟩
  · rw [cp_lt (show k < szA 0 from hk), cp_lt (show k < szA 1 from hk)]; exact hQ k hk
  · rw [cp_lt (show k < szA 2 from hk)]; exact hI k hk
  · rw [cp_lt (show k < szA 3 from hk), cp_lt (show k < szA 4 from hk), cp_lt (show k < szA 5 from hk), cp_lt (show k < szA 6 from hk), cp_lt (show k < szA 7 from hk)]; exact hL k hk
theorem Inv.cp {v : Nat → Int32} {a x : Nat → Nat → Int32} {B C : Int} (h : Inv v a B C) : Inv v (cpA a x) B C := by
  obtain ⟨i0, iq, im, is, ig⟩ := h
  have l1 := tn_lt iq.1
  have l2 := tn_lt im.1
  have e0 : ∀ k, k < 40 → cpA a x 0 k = a 0 k := fun k hk => cp_lt (show k < szA 0 from hk)
  have e2 : ∀ k, k < 6 → cpA a x 2 k = a 2 k := fun k hk => cp_lt (show k < szA 2 from hk)
  refine ⟨i0, ⟨iq.1, fun k hk => ?_, fun i j hij hj => ?_⟩, ⟨im.1, fun k hk => ?_, im.2.2⟩, is, ig⟩
  · rw [e0 k (by omega)]; exact iq.2.1 k hk
  · rw [e0 i (by omega), e0 j (by omega)]; exact iq.2.2 i j hij hj
  · rw [e2 k (by omega)]; exact im.2.1 k hk
theorem Inv.mono {v : Nat → Int32} {a : Nat → Nat → Int32} {B C B' C' : Int} (h : Inv v a B C) (hB : B ≤ B') (hC : C ≤ C') : Inv v a B' C' := by
  obtain ⟨i0, iq, im, is, ig⟩ := h
  refine ⟨⟨i0.1, by omega⟩, ⟨iq.1, fun k hk => ?_, iq.2.2⟩, im.mono (Int.le_refl _) hB, is, ig⟩
  have := iq.2.1 k hk
  omega
theorem save2_form : ∀ (n : Nat) (np th ed : Int32) (hh : Int64) (w pf : Nat → Int32) (i : Nat), i ≤ 129 → 129 < i + n → ∀ j, (LP_X9_save2 n np th ed hh w pf i).2 j = if 129 * tn np + i ≤ j ∧ j < 129 * tn np + 129 then w (j - 129 * tn np) else pf j := by
  intro n
  induction n with
  | zero => intro np th ed hh w pf i h1 h2; omega
  | succ n ih =>
    intro np th ed hh w pf i h1 h2 j
    simp only [LP_X9_save2]
    by_cases c : (129 : Int32) ≤ nI i
    · rw [if_pos c]
      have : ¬ i < 129 := fun q => nI_ge q (by decide) c
      rw [if_neg (by omega)]
    · rw [if_neg c]
      have hlt : i < 129 := nI_nle_lt (a := 129) (by omega) c
      rw [ih _ _ _ _ _ _ _ (by omega) (by omega) j]
      by_cases e : j = 129 * tn np + i
      · subst e
        rw [if_neg (by omega), pk_us, if_pos (by omega)]
        congr 1
        omega
      · by_cases c2 : 129 * tn np + (i + 1) ≤ j ∧ j < 129 * tn np + 129
        · rw [if_pos c2, if_pos (by omega)]
        · rw [if_neg c2, if_neg (by omega), pk_un e]
theorem save1_form : ∀ (n : Nat) (np th ed : Int32) (hh : Int64) (w pf : Nat → Int32) (i : Nat), i ≤ 387 → 387 < i + n → ∀ j, (LP_X9_save1 n np th ed hh w pf i).2 j = if i ≤ j ∧ j < 387 then pf (j + 129) else pf j := by
  intro n
  induction n with
  | zero => intro np th ed hh w pf i h1 h2; omega
  | succ n ih =>
    intro np th ed hh w pf i h1 h2 j
    simp only [LP_X9_save1]
    by_cases c : (387 : Int32) ≤ nI i
    · rw [if_pos c]
      have : ¬ i < 387 := fun q => nI_ge q (by decide) c
      rw [if_neg (by omega)]
    · rw [if_neg c]
      have hlt : i < 387 := nI_nle_lt (a := 387) (by omega) c
      rw [ih _ _ _ _ _ _ _ (by omega) (by omega) j]
      by_cases e : j = i
      · subst e
        rw [if_neg (by omega), pk_us, if_pos (by omega)]
      · by_cases c2 : i + 1 ≤ j ∧ j < 387
        · rw [if_pos c2, if_pos (by omega), pk_un (by omega)]
        · rw [if_neg c2, if_neg (by omega), pk_un e]
theorem undo_form : ∀ (n : Nat) (np th ed : Int32) (hh : Int64) (w pf : Nat → Int32) (i : Nat), i ≤ 129 → 129 < i + n → ∀ j, (LP_X9_undo n np th ed hh w pf i).2 j = if i ≤ j ∧ j < 129 then pf (129 * tn np + j) else w j := by
  intro n
  induction n with
  | zero => intro np th ed hh w pf i h1 h2; omega
  | succ n ih =>
    intro np th ed hh w pf i h1 h2 j
    simp only [LP_X9_undo]
    by_cases c : (129 : Int32) ≤ nI i
    · rw [if_pos c]
      have : ¬ i < 129 := fun q => nI_ge q (by decide) c
      rw [if_neg (by omega)]
    · rw [if_neg c]
      have hlt : i < 129 := nI_nle_lt (a := 129) (by omega) c
      rw [ih _ _ _ _ _ _ _ (by omega) (by omega) j]
      by_cases e : j = i
      · subst e
        rw [if_neg (by omega), pk_us, if_pos (by omega)]
      · by_cases c2 : i + 1 ≤ j ∧ j < 129
        · rw [if_pos c2, if_pos (by omega)]
        · rw [if_neg c2, if_neg (by omega), pk_un e]
/-- the saved states, class and model -/
def RP (np : Int32) (c : Nat) (pf : Nat → Int32) (vs : Nat → Nat → Int32) (bs : Nat → Nat → Nat → Int32) (B C : Int) : Prop := np = nI c ∧ c ≤ 4 ∧ ∀ i, i < c → Rel (vs i) (bs i) (fun k => pf (129 * i + k)) ∧ Inv (vs i) (bs i) B C
theorem RP.mono {np : Int32} {c : Nat} {pf : Nat → Int32} {vs : Nat → Nat → Int32} {bs : Nat → Nat → Nat → Int32} {B C B' C' : Int} (h : RP np c pf vs bs B C) (hB : B ≤ B') (hC : C ≤ C') : RP np c pf vs bs B' C' := ⟨h.1, h.2.1, fun i hi => ⟨(h.2.2 i hi).1, (h.2.2 i hi).2.mono hB hC⟩⟩
theorem save_rel {np th ed : Int32} {hh : Int64} {v w pf : Nat → Int32} {a : Nat → Nat → Int32} {c : Nat} {vs : Nat → Nat → Int32} {bs : Nat → Nat → Nat → Int32} {B C : Int} (hl : Rel v a w) (hi : Inv v a B C) (hp : RP np c pf vs bs B C) :
    (F_X9_save np th ed hh w pf).2.1 = 0 ∧ RP (F_X9_save np th ed hh w pf).1 (svC c) (F_X9_save np th ed hh w pf).2.2 (svV c vs v) (svB c bs a) B C := by
  obtain ⟨e, h4, hs⟩ := hp
  subst e
  simp only [F_X9_save]
  by_cases c4 : c = 4
  · subst c4
    rw [if_pos (show nI 4 = 4 from rfl)]
    have t3 : tn (nI 4 - 1) = 3 := by decide +kernel
    have f1 := save1_form 388 (nI 4) 0 ed hh w pf 0 (by omega) (by omega)
    generalize (LP_X9_save1 388 (nI 4) 0 ed hh w pf 0).2 = p1 at f1 ⊢
    have f2 := save2_form 130 (nI 4 - 1) 0 ed hh w p1 0 (by omega) (by omega)
    rw [t3] at f2
    generalize (LP_X9_save2 130 (nI 4 - 1) 0 ed hh w p1 0).2 = p2 at f2 ⊢
    refine ⟨rfl, rfl, by decide, fun i hi4 => ?_⟩
    have hi4 : i < 4 := hi4
    simp only [svV, svB, if_pos]
    by_cases e3 : i < 3
    · rw [if_pos e3, if_pos e3]
      have := hs (i + 1) (by omega)
      refine ⟨this.1.cong (fun k hk => ?_), this.2⟩
      rw [f2, if_neg (by omega), f1, if_pos (by omega)]
      congr 1
      omega
    · rw [if_neg e3, if_neg e3]
      refine ⟨(hl.cp).cong (fun k hk => ?_), hi.cp⟩
      rw [f2, if_pos (by omega)]
      exact congrArg w (show 129 * i + k - 129 * 3 = k by omega)
  · have c5 : ¬ nI c = 4 := fun q => c4 ((nI_eq (by omega) (by decide)).mp (show nI c = nI 4 from q))
    rw [if_neg c5]
    have tc : tn (nI c) = c := nI_clamp (by omega)
    have f2 := save2_form 130 (nI c) 0 ed hh w pf 0 (by omega) (by omega)
    rw [tc] at f2
    generalize (LP_X9_save2 130 (nI c) 0 ed hh w pf 0).2 = p2 at f2 ⊢
    have e1 : svC c = c + 1 := if_neg c4
    have e2 : svV c vs v = va_up vs c v := if_neg c4
    have e3 : svB c bs a = va_up bs c (cpA a (bs c)) := if_neg c4
    rw [e1, e2, e3]
    refine ⟨rfl, nI_1 c, by omega, fun i hi4 => ?_⟩
    by_cases e : i = c
    · subst e
      rw [va_up_self, va_up_self]
      refine ⟨(hl.cp).cong (fun k hk => ?_), hi.cp⟩
      rw [f2, if_pos (by omega)]
      congr 1
      omega
    · rw [va_up_ne _ _ e, va_up_ne _ _ e]
      have := hs i (by omega)
      refine ⟨this.1.cong (fun k hk => ?_), this.2⟩
      rw [f2, if_neg (by omega)]
/-- undo, where something is saved -/
theorem undo_rel {np th ed : Int32} {hh : Int64} {w pf : Nat → Int32} {a : Nat → Nat → Int32} {c : Nat} {vs : Nat → Nat → Int32} {bs : Nat → Nat → Nat → Int32} {B C : Int} (hp : RP np (c + 1) pf vs bs B C) :
    (F_X9_undo np th ed hh w pf).2.2.1 = 0 ∧ (F_X9_undo np th ed hh w pf).1 = nI c ∧ RP (F_X9_undo np th ed hh w pf).2.1 c pf vs bs B C ∧ Rel (vs c) (cpA (bs c) a) (F_X9_undo np th ed hh w pf).2.2.2 ∧ Inv (vs c) (cpA (bs c) a) B C := by
  obtain ⟨e, h4, hs⟩ := hp
  subst e
  simp only [F_X9_undo, F_X9_tells]
  have c0 : ¬ nI (c + 1) = 0 := nI_ne0 (by omega) (by omega)
  rw [if_neg c0, nI_pred]
  have tc : tn (nI c) = c := nI_clamp (by omega)
  have f := undo_form 130 (nI c) th ed hh w pf 0 (by omega) (by omega)
  rw [tc] at f
  generalize (LP_X9_undo 130 (nI c) th ed hh w pf 0).2 = p2 at f ⊢
  have := hs c (by omega)
  refine ⟨rfl, rfl, ⟨rfl, by omega, fun i hi => hs i (by omega)⟩, (this.1.cp).cong (fun k hk => ?_), this.2.cp⟩
  rw [f, if_pos (by omega)]
