/-! a whole tick: class and model alike, and what stays so -/
theorem tail_inv {v : Nat → Int32} {a : Nat → Nat → Int32} {B C : Int} (h : Inv v a B C) : Inv (P3 (v, a)).1 (P3 (v, a)).2 B C := by
  obtain ⟨h1, h2, h3, h4, h5⟩ := h
  exact ⟨h1, h2, h3, h4, h5⟩
theorem rest_rel {np th ed : Int32} {hh : Int64} {v w pf : Nat → Int32} {a : Nat → Nat → Int32} {B C : Int} (hl : Rel v a w) (hi : Inv v a B C) :
    Rel (P3 (F_X7_watchTimes v a ed)).1 (P3 (F_X7_watchTimes v a ed)).2 (T3 np th hh pf ed (F_X9_watches np th ed hh w pf)) ∧ Inv (P3 (F_X7_watchTimes v a ed)).1 (P3 (F_X7_watchTimes v a ed)).2 B C := by
  obtain ⟨i0, iq, im, is, ig⟩ := hi
  have hW := watch_Rel (np := np) (th := th) (ed := ed) (hh := hh) (pf := pf) hl is ig.2.2.1 ig.2.2.2
  have ha := (watch_rel (np := np) (th := th) (ed := ed) (hh := hh) (pf := pf) (a := a) hl.1 is ig.2.2.1 ig.2.2.2).2
  have hg := IG.watch (a := a) (t := ed) ig
  have nw : ∀ k, (k = 0 ∨ k = 48 ∨ k = 35 ∨ k = 34 ∨ k = 33 ∨ k = 9 ∨ k = 8) → ¬ isW k := fun k hk q => by simp only [isW] at q; omega
  have e0 := watch_keepV (ed := ed) (v := v) (a := a) (nw 0 (by omega))
  have e48 := watch_keepV (ed := ed) (v := v) (a := a) (nw 48 (by omega))
  have e35 := watch_keepV (ed := ed) (v := v) (a := a) (nw 35 (by omega))
  have e34 := watch_keepV (ed := ed) (v := v) (a := a) (nw 34 (by omega))
  have e33 := watch_keepV (ed := ed) (v := v) (a := a) (nw 33 (by omega))
  have e9 := watch_keepV (ed := ed) (v := v) (a := a) (nw 9 (by omega))
  have e8 := watch_keepV (ed := ed) (v := v) (a := a) (nw 8 (by omega))
  generalize F_X7_watchTimes v a ed = X at hW ha hg e0 e48 e35 e34 e33 e9 e8 ⊢
  obtain ⟨x1, x2⟩ := X
  dsimp only at hW ha hg e0 e48 e35 e34 e33 e9 e8
  subst ha
  have hI : Inv x1 x2 B C := ⟨by rw [e0]; exact i0, by rw [e48, e0]; exact iq, by rw [e35, e34, e33, e0]; exact im, by rw [e9, e8]; exact is, hg⟩
  exact ⟨tail_rel hW hg.1 (by rw [e9, is]; exact sec_rng _), tail_inv hI⟩
theorem tick_rel {np th ed : Int32} {hh : Int64} {v w pf : Nat → Int32} {a : Nat → Nat → Int32} {B C : Int} (hl : Rel v a w) (hi : Inv v a B C) (hB : B < 1000000000) :
    Rel (F_X7_passTick v a).1 (F_X7_passTick v a).2 (F_X9_tick np th ed hh w pf).2 ∧ Inv (F_X7_passTick v a).1 (F_X7_passTick v a).2 (B + 1) C := by
  obtain ⟨i0, iq, im, is, ig⟩ := hi
  have e1 : (v 0 + 1).toInt = (v 0).toInt + 1 := by rw [fb_addI (by rw [ti_1]; omega) (by rw [ti_1]; omega), ti_1]
  obtain ⟨s1, s2⟩ := step1_rel (np := np) (th := th) (hh := hh) (pf := pf) hl iq.1 (fun k hk => ti_nlt (by have := (iq.2.1 k hk).1; omega))
  have q1 : IQ ((P1 v a).1 48) ((P1 v a).2 0) ((v 0).toInt + 1) C := iq.due e1
  rw [pass_eq, tick_eq, s1]
  generalize (F_X9_filters np th 0 hh (F_X9_due np th 0 hh (upd w 0 (w 0 + 1)) pf) pf).2 = G at s2 ⊢
  have p0 : (P1 v a).1 0 = v 0 + 1 := rfl
  by_cases c : fl1 v a = 0
  · rw [if_pos c, if_pos c]
    have hI : Inv (P1 v a).1 (P1 v a).2 (B + 1) C := by
      refine ⟨by rw [p0, e1]; omega, by rw [p0, e1]; exact q1, ?_, ?_, ig⟩
      · rw [p0, e1]
        exact im.mono (by omega) (by omega)
      · show v 9 = F_X9_sectorOf (F_X5_filterRaw (F_X4_takeDue (v 48) (a 0) (a 1) (v 0 + 1) (v 7)).1 (v 8) (v 9) (v 10) (v 11) (v 1)).2.1
        rw [filt0 c]
        exact is
    exact rest_rel s2 hI
  · rw [if_neg c, if_neg c]
    have p9 : (P1 v a).1 9 = v 9 := rfl
    obtain ⟨sR, sQ, sI, sL, sC, sE⟩ := s2
    obtain ⟨r1, r2, r3, r4, r5, r6⟩ := follow_rel (np := np) (th := th) (hh := hh) (pf := pf) (v := (P1 v a).1) (a := (P1 v a).2) sR sI sE im.1 ig.2.1.1 ig.2.1.2 (fun q => by
      rw [p0] at q
      rw [q] at e1
      have : (-1 : Int32).toInt = -1 := rfl
      omega) (by rw [p9, is]; exact sec_rng _)
    obtain ⟨t1, t0, t48, t10, t11, t9, tM, tG⟩ := follow_inv (v := (P1 v a).1) (a := (P1 v a).2) (T := (v 0).toInt) (B := B) (C := C) (by rw [p0, e1]) (by omega) (by omega) hB im ig
    have hA0 := r5 0 (by decide)
    have hA1 := r5 1 (by decide)
    have hA3 := r5 3 (by decide)
    have hA4 := r5 4 (by decide)
    have hA5 := r5 5 (by decide)
    have hA6 := r5 6 (by decide)
    have hA7 := r5 7 (by decide)
    generalize F_X7_followAcceptedCode (P1 v a).1 (P1 v a).2 = Y at r1 r2 r3 r4 r5 t1 t0 t48 t10 t11 t9 tM tG hA0 hA1 hA3 hA4 hA5 hA6 hA7 ⊢
    obtain ⟨y0, y1, y2⟩ := Y
    generalize F_X9_accepts np th 0 hh G pf = Z at r1 r2 r3 r4 r6 ⊢
    obtain ⟨z0, z1⟩ := Z
    dsimp only at r1 r2 r3 r4 r5 r6 t1 t0 t48 t10 t11 t9 tM tG hA0 hA1 hA3 hA4 hA5 hA6 hA7 ⊢
    subst r1
    have hRel : Rel y1 y2 z1 := by
      refine ⟨r2, ?_, r3, ?_, ?_, r4⟩
      · rw [hA0, hA1]
        exact sQ.kept (fun j a1 a2 => r6 j (by omega))
      · have h := sL.kept (w' := z1) (fun j a1 a2 => r6 j (by omega))
        intro k hk
        rw [hA3, hA4, hA5, hA6, hA7]
        exact h k hk
      · intro h
        rw [t11] at h
        rw [t10, r6 10 (by omega)]
        exact sC h
    have hI : Inv y1 y2 (B + 1) C := ⟨by rw [t0, p0, e1]; omega, by rw [t48, hA0, t0, p0, e1]; exact q1, by rw [t0, p0, e1]; exact tM, t9, tG⟩
    rcases t1 with q | q
    · rw [if_pos q, q]
      exact rest_rel hRel hI
    · rw [if_neg (by rw [q]; decide), q]
      exact rest_rel hRel hI
