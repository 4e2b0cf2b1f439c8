/-! a whole tick -/
def P1 (v : Nat → Int32) (a : Nat → Nat → Int32) : (Nat → Int32) × (Nat → Nat → Int32) :=
  (upd (upd (upd (upd (upd (upd v 0 (v 0 + 1)) 48 (F_X4_takeDue (v 48) (a 0) (a 1) (v 0 + 1) (v 7)).2.1) 7 (F_X4_takeDue (v 48) (a 0) (a 1) (v 0 + 1) (v 7)).1) 8 (F_X5_filterRaw (F_X4_takeDue (v 48) (a 0) (a 1) (v 0 + 1) (v 7)).1 (v 8) (v 9) (v 10) (v 11) (v 1)).2.1) 10 (F_X5_filterRaw (F_X4_takeDue (v 48) (a 0) (a 1) (v 0 + 1) (v 7)).1 (v 8) (v 9) (v 10) (v 11) (v 1)).2.2.1) 11 (F_X5_filterRaw (F_X4_takeDue (v 48) (a 0) (a 1) (v 0 + 1) (v 7)).1 (v 8) (v 9) (v 10) (v 11) (v 1)).2.2.2, va_up (va_up a 0 (F_X4_takeDue (v 48) (a 0) (a 1) (v 0 + 1) (v 7)).2.2.1) 1 (F_X4_takeDue (v 48) (a 0) (a 1) (v 0 + 1) (v 7)).2.2.2)
def fl1 (v : Nat → Int32) (a : Nat → Nat → Int32) : Int32 := (F_X5_filterRaw (F_X4_takeDue (v 48) (a 0) (a 1) (v 0 + 1) (v 7)).1 (v 8) (v 9) (v 10) (v 11) (v 1)).1
def pls (x y : Int32) : Int32 := if x + 1 < y then x + 1 else 0
def LG (v : Nat → Int32) (a : Nat → Nat → Int32) : (Nat → Int32) × (Nat → Int32) × (Nat → Int32) × (Nat → Int32) × (Nat → Int32) := F_X0_setLegs (pls (v 12) (v 2)) (a 3) (a 4) (a 5) (a 6) (a 7) (v 1) (v 2) (v 3) (v 4) (v 5) (v 6) (v 9) (v 0)
def P3 (x : (Nat → Int32) × (Nat → Nat → Int32)) : (Nat → Int32) × (Nat → Nat → Int32) :=
  (upd x.1 12 (pls (x.1 12) (x.1 2)), va_up (va_up (va_up (va_up (va_up x.2 3 (LG x.1 x.2).1) 4 (LG x.1 x.2).2.1) 5 (LG x.1 x.2).2.2.1) 6 (LG x.1 x.2).2.2.2.1) 7 (LG x.1 x.2).2.2.2.2)
theorem pass_eq (v : Nat → Int32) (a : Nat → Nat → Int32) : F_X7_passTick v a = if fl1 v a = 0 then P3 (F_X7_watchTimes (P1 v a).1 (P1 v a).2 0) else if (F_X7_followAcceptedCode (P1 v a).1 (P1 v a).2).1 = 0 then P3 (F_X7_watchTimes (F_X7_followAcceptedCode (P1 v a).1 (P1 v a).2).2.1 (F_X7_followAcceptedCode (P1 v a).1 (P1 v a).2).2.2 0) else P3 (F_X7_watchTimes (F_X7_followAcceptedCode (P1 v a).1 (P1 v a).2).2.1 (F_X7_followAcceptedCode (P1 v a).1 (P1 v a).2).2.2 1) := by
  have hA : ∀ x : (Nat → Int32) × (Nat → Nat → Int32), (upd x.1 12 (F_X0_advancePulse (x.1 12) (x.2 3) (x.2 4) (x.2 5) (x.2 6) (x.2 7) (x.1 2)), va_up (va_up (va_up (va_up (va_up x.2 3 (F_X0_setLegs (F_X0_advancePulse (x.1 12) (x.2 3) (x.2 4) (x.2 5) (x.2 6) (x.2 7) (x.1 2)) (x.2 3) (x.2 4) (x.2 5) (x.2 6) (x.2 7) (x.1 1) (x.1 2) (x.1 3) (x.1 4) (x.1 5) (x.1 6) (x.1 9) (x.1 0)).1) 4 (F_X0_setLegs (F_X0_advancePulse (x.1 12) (x.2 3) (x.2 4) (x.2 5) (x.2 6) (x.2 7) (x.1 2)) (x.2 3) (x.2 4) (x.2 5) (x.2 6) (x.2 7) (x.1 1) (x.1 2) (x.1 3) (x.1 4) (x.1 5) (x.1 6) (x.1 9) (x.1 0)).2.1) 5 (F_X0_setLegs (F_X0_advancePulse (x.1 12) (x.2 3) (x.2 4) (x.2 5) (x.2 6) (x.2 7) (x.1 2)) (x.2 3) (x.2 4) (x.2 5) (x.2 6) (x.2 7) (x.1 1) (x.1 2) (x.1 3) (x.1 4) (x.1 5) (x.1 6) (x.1 9) (x.1 0)).2.2.1) 6 (F_X0_setLegs (F_X0_advancePulse (x.1 12) (x.2 3) (x.2 4) (x.2 5) (x.2 6) (x.2 7) (x.1 2)) (x.2 3) (x.2 4) (x.2 5) (x.2 6) (x.2 7) (x.1 1) (x.1 2) (x.1 3) (x.1 4) (x.1 5) (x.1 6) (x.1 9) (x.1 0)).2.2.2.1) 7 (F_X0_setLegs (F_X0_advancePulse (x.1 12) (x.2 3) (x.2 4) (x.2 5) (x.2 6) (x.2 7) (x.1 2)) (x.2 3) (x.2 4) (x.2 5) (x.2 6) (x.2 7) (x.1 1) (x.1 2) (x.1 3) (x.1 4) (x.1 5) (x.1 6) (x.1 9) (x.1 0)).2.2.2.2) = P3 x := by
    intro x
    have e : F_X0_advancePulse (x.1 12) (x.2 3) (x.2 4) (x.2 5) (x.2 6) (x.2 7) (x.1 2) = pls (x.1 12) (x.1 2) := rfl
    rw [e]
    rfl
  unfold F_X7_passTick
  by_cases c : fl1 v a = 0
  · rw [if_pos c]
    refine (if_pos c).trans ?_
    rw [← hA]
    simp only [P1]
  · rw [if_neg c]
    refine (if_neg c).trans ?_
    by_cases c2 : (F_X7_followAcceptedCode (P1 v a).1 (P1 v a).2).1 = 0
    · rw [if_pos c2]
      refine (if_pos c2).trans ?_
      rw [← hA]
      simp only [P1]
    · rw [if_neg c2]
      refine (if_neg c2).trans ?_
      rw [← hA]
      simp only [P1]
def T3 (np th : Int32) (hh : Int64) (pf : Nat → Int32) (ed : Int32) (w : Nat → Int32) : Nat → Int32 := F_X9_switches np th ed hh (upd w 12 (pls (w 12) (w 2))) pf
theorem tick_eq (np th ed : Int32) (hh : Int64) (w pf : Nat → Int32) : F_X9_tick np th ed hh w pf = if (F_X9_filters np th 0 hh (F_X9_due np th 0 hh (upd w 0 (w 0 + 1)) pf) pf).1 = 0 then (0, T3 np th hh pf 0 (F_X9_watches np th 0 hh (F_X9_filters np th 0 hh (F_X9_due np th 0 hh (upd w 0 (w 0 + 1)) pf) pf).2 pf)) else ((F_X9_accepts np th 0 hh (F_X9_filters np th 0 hh (F_X9_due np th 0 hh (upd w 0 (w 0 + 1)) pf) pf).2 pf).1, T3 np th hh pf (F_X9_accepts np th 0 hh (F_X9_filters np th 0 hh (F_X9_due np th 0 hh (upd w 0 (w 0 + 1)) pf) pf).2 pf).1 (F_X9_watches np th (F_X9_accepts np th 0 hh (F_X9_filters np th 0 hh (F_X9_due np th 0 hh (upd w 0 (w 0 + 1)) pf) pf).2 pf).1 hh (F_X9_accepts np th 0 hh (F_X9_filters np th 0 hh (F_X9_due np th 0 hh (upd w 0 (w 0 + 1)) pf) pf).2 pf).2 pf)) := by
  simp only [F_X9_tick, T3, pls]
  split
  · split <;> rfl
  · split <;> rfl
theorem tail_rel {np th ed : Int32} {hh : Int64} {v w pf : Nat → Int32} {a : Nat → Nat → Int32} (hl : Rel v a w) (h6r : vp_in (v 6) 5) (h9r : -1 ≤ (v 9).toInt ∧ (v 9).toInt < 6) : Rel (P3 (v, a)).1 (P3 (v, a)).2 (T3 np th hh pf ed w) := by
  obtain ⟨hR, hQ, hI, hL, hC, hE⟩ := hl
  have hR0 := hR
  obtain ⟨h0, h1, h2, h3, h4, h5, h6, h7, h8, h9, h11, h12, h28, h29, h30, h31, h32, h35, h42, h43, h44, h45, h46, h47, h48⟩ := hR.all
  have ep : pls (v 12) (v 2) = pls (w 12) (w 2) := by rw [h12, h2]
  have hg := legs_rel (np := np) (th := th) (ed := ed) (hh := hh) (pf := pf) (w := upd w 12 (pls (w 12) (w 2))) (w0 := a 3) (w1 := a 4) (w2 := a 5) (w3 := a 6) (w4 := a 7) (fun k hk => by
    rw [pk_un (by omega), pk_un (by omega), pk_un (by omega), pk_un (by omega), pk_un (by omega)]
    exact hL k hk) (show vp_in (w 6) 5 by rw [← h6]; exact h6r) (show -1 ≤ (w 9).toInt ∧ (w 9).toInt < 6 by rw [← h9]; exact h9r)
  have eL : LG v a = F_X0_setLegs (upd w 12 (pls (w 12) (w 2)) 12) (a 3) (a 4) (a 5) (a 6) (a 7) (upd w 12 (pls (w 12) (w 2)) 1) (upd w 12 (pls (w 12) (w 2)) 2) (upd w 12 (pls (w 12) (w 2)) 3) (upd w 12 (pls (w 12) (w 2)) 4) (upd w 12 (pls (w 12) (w 2)) 5) (upd w 12 (pls (w 12) (w 2)) 6) (upd w 12 (pls (w 12) (w 2)) 9) (upd w 12 (pls (w 12) (w 2)) 0) := by
    show F_X0_setLegs (pls (v 12) (v 2)) (a 3) (a 4) (a 5) (a 6) (a 7) (v 1) (v 2) (v 3) (v 4) (v 5) (v 6) (v 9) (v 0) = F_X0_setLegs (pls (w 12) (w 2)) (a 3) (a 4) (a 5) (a 6) (a 7) (w 1) (w 2) (w 3) (w 4) (w 5) (w 6) (w 9) (w 0)
    rw [ep, h0, h1, h2, h3, h4, h5, h6, h9]
  rw [← eL] at hg
  obtain ⟨g1, g2⟩ := hg
  have gk : ∀ k, (k < 12 ∨ 28 ≤ k) → T3 np th hh pf ed w k = w k := fun k hk => by
    show F_X9_switches np th ed hh (upd w 12 (pls (w 12) (w 2))) pf k = w k
    rw [g2 k (by omega), pk_un (by omega)]
  have g12 : T3 np th hh pf ed w 12 = pls (w 12) (w 2) := by
    show F_X9_switches np th ed hh (upd w 12 (pls (w 12) (w 2))) pf 12 = _
    rw [g2 12 (by omega), pk_us]
  refine ⟨?_, ?_, ?_, ?_, ?_, ?_⟩
  · refine fun k hk => ?_
    by_cases e : k = 12
    · subst e
      show pls (v 12) (v 2) = _
      rw [g12, ep]
    · have hk2 : k < 12 ∨ 28 ≤ k := by
        simp only [rsL, List.mem_cons, List.not_mem_nil, or_false] at hk
        omega
      rw [gk k hk2]
      show upd v 12 _ k = w k
      rw [pk_un e]
      exact hR0 k hk
  · exact hQ.kept (fun j q1 q2 => gk j (by omega))
  · exact hI.kept (fun j q1 q2 => gk j (by omega))
  · exact fun k hk => g1 k hk
  · intro h
    rw [gk 10 (by omega)]
    exact hC h
  · have e33 := gk 33 (by omega)
    have e34 := gk 34 (by omega)
    show (v 34 = 0 ∧ T3 np th hh pf ed w 33 = -1) ∨ ((v 34 = 1 ∨ v 34 = -1) ∧ v 34 = T3 np th hh pf ed w 34 ∧ v 33 = T3 np th hh pf ed w 33 ∧ ¬ T3 np th hh pf ed w 33 = -1)
    rw [e33, e34]
    exact hE
theorem watch_Rel {np th ed : Int32} {hh : Int64} {v w pf : Nat → Int32} {a : Nat → Nat → Int32} (hl : Rel v a w) (h9s : v 9 = F_X9_sectorOf (v 8)) (h43a : 0 ≤ (v 43).toInt) (h43b : (v 43).toInt < 20) : Rel (F_X7_watchTimes v a ed).1 (F_X7_watchTimes v a ed).2 (F_X9_watches np th ed hh w pf) := by
  obtain ⟨hR, hQ, hI, hL, hC, hE⟩ := hl
  obtain ⟨w1, w2⟩ := watch_rel (np := np) (th := th) (ed := ed) (hh := hh) (pf := pf) (a := a) hR h9s h43a h43b
  rw [w2]
  have nw : ∀ k, (k = 10 ∨ k = 11 ∨ k = 33 ∨ k = 34 ∨ (13 ≤ k ∧ k < 28) ∨ (36 ≤ k ∧ k < 42) ∨ 49 ≤ k) → ¬ isW k := fun k hk q => by simp only [isW] at q; omega
  refine ⟨w1, hQ.kept (fun j q1 q2 => watch_keepW (nw j (by omega))), hI.kept (fun j q1 q2 => watch_keepW (nw j (by omega))), hL.kept (fun j q1 q2 => watch_keepW (nw j (by omega))), ?_, ?_⟩
  · intro h
    rw [watch_keepV (nw 11 (by omega))] at h
    rw [watch_keepV (nw 10 (by omega)), watch_keepW (nw 10 (by omega))]
    exact hC h
  · show ((F_X7_watchTimes v a ed).1 34 = 0 ∧ F_X9_watches np th ed hh w pf 33 = -1) ∨ (((F_X7_watchTimes v a ed).1 34 = 1 ∨ (F_X7_watchTimes v a ed).1 34 = -1) ∧ (F_X7_watchTimes v a ed).1 34 = F_X9_watches np th ed hh w pf 34 ∧ (F_X7_watchTimes v a ed).1 33 = F_X9_watches np th ed hh w pf 33 ∧ ¬ F_X9_watches np th ed hh w pf 33 = -1)
    rw [watch_keepV (nw 33 (by omega)), watch_keepV (nw 34 (by omega)), watch_keepW (nw 33 (by omega)), watch_keepW (nw 34 (by omega))]
    exact hE
/-- what of the class's own state is always so -/
def IQ (z : Int32) (tk : Nat → Int32) (T C : Int) : Prop := vp_in z 41 ∧ (∀ k, k < tn z → T < (tk k).toInt ∧ (tk k).toInt ≤ C) ∧ (∀ i j, i ≤ j → j < tn z → (tk i).toInt ≤ (tk j).toInt)
def IM (z dir et : Int32) (iv : Nat → Int32) (T B : Int) : Prop := vp_in z 7 ∧ (∀ k, k < tn z → 1 ≤ (iv k).toInt ∧ (iv k).toInt ≤ B) ∧ ((dir = 0 ∧ z = 0) ∨ ((dir = 1 ∨ dir = -1) ∧ 0 ≤ et.toInt ∧ et.toInt ≤ T))
def IG (m x y : Int32) : Prop := vp_in m 5 ∧ (0 ≤ x.toInt ∧ x.toInt < 3) ∧ (0 ≤ y.toInt ∧ y.toInt < 20)
def Inv (v : Nat → Int32) (a : Nat → Nat → Int32) (B C : Int) : Prop := (0 ≤ (v 0).toInt ∧ (v 0).toInt ≤ B) ∧ IQ (v 48) (a 0) (v 0).toInt C ∧ IM (v 35) (v 34) (v 33) (a 2) (v 0).toInt B ∧ v 9 = F_X9_sectorOf (v 8) ∧ IG (v 6) (v 42) (v 43)
theorem step1_rel {np th : Int32} {hh : Int64} {v w pf : Nat → Int32} {a : Nat → Nat → Int32} (hl : Rel v a w) (hz : vp_in (v 48) 41) (hge : ∀ k, k < tn (v 48) → ¬ a 0 k < v 0 + 1) :
    (F_X9_filters np th 0 hh (F_X9_due np th 0 hh (upd w 0 (w 0 + 1)) pf) pf).1 = fl1 v a ∧ Rel (P1 v a).1 (P1 v a).2 (F_X9_filters np th 0 hh (F_X9_due np th 0 hh (upd w 0 (w 0 + 1)) pf) pf).2 := by
  obtain ⟨hR, hQ, hI, hL, hC, hE⟩ := hl
  have hR0 := hR
  obtain ⟨h0, h1, h2, h3, h4, h5, h6, h7, h8, h9, h11, h12, h28, h29, h30, h31, h32, h35, h42, h43, h44, h45, h46, h47, h48⟩ := hR.all
  obtain ⟨d7, d48, dQ⟩ := due_rel (np := np) (th := th) (ed := 0) (hh := hh) (pf := pf) (w := upd w 0 (w 0 + 1)) (z := v 48) (t := v 0 + 1) (b := v 7) (tk := a 0) (cd := a 1) (fun k hk => by rw [pk_un (by omega), pk_un (by omega)]; exact hQ k hk) h48.symm (by rw [pk_us, h0]) h7.symm hz hge
  have dk : ∀ k, k ≠ 7 → k < 48 → k ≠ 0 → F_X9_due np th 0 hh (upd w 0 (w 0 + 1)) pf k = w k := fun k q1 q2 q3 => by rw [due_keep q1 q2, pk_un q3]
  have d0 : F_X9_due np th 0 hh (upd w 0 (w 0 + 1)) pf 0 = w 0 + 1 := by rw [due_keep (by decide) (by decide), pk_us]
  obtain ⟨f1, f8, f11, fc, fk⟩ := filt_rel (np := np) (th := th) (ed := 0) (hh := hh) (pf := pf) (w := F_X9_due np th 0 hh (upd w 0 (w 0 + 1)) pf) (r := (F_X4_takeDue (v 48) (a 0) (a 1) (v 0 + 1) (v 7)).1) (f := v 8) (c := v 10) (n := v 11) (F := v 1) (s := v 9) d7 (by rw [dk 8 (by decide) (by decide) (by decide), h8]) (fun q => by rw [dk 10 (by decide) (by decide) (by decide)]; exact hC q) (by rw [dk 11 (by decide) (by decide) (by decide), h11]) (by rw [dk 1 (by decide) (by decide) (by decide), h1])
  refine ⟨f1, ?_⟩
  have gk : ∀ k, k ≠ 7 → k < 48 → k ≠ 0 → k ≠ 8 → k ≠ 10 → k ≠ 11 → (F_X9_filters np th 0 hh (F_X9_due np th 0 hh (upd w 0 (w 0 + 1)) pf) pf).2 k = w k := fun k q1 q2 q3 q4 q5 q6 => by rw [fk k q4 q5 q6, dk k q1 q2 q3]
  have g0 := fk 0 (by decide) (by decide) (by decide)
  rw [d0] at g0
  have g7 := fk 7 (by decide) (by decide) (by decide)
  rw [d7] at g7
  have g48 := fk 48 (by decide) (by decide) (by decide)
  rw [d48] at g48
  generalize hG : (F_X9_filters np th 0 hh (F_X9_due np th 0 hh (upd w 0 (w 0 + 1)) pf) pf).2 = G at *
  refine ⟨RS.mk25 ⟨?_, ?_, ?_, ?_, ?_, ?_, ?_, ?_, ?_, ?_, ?_, ?_, ?_, ?_, ?_, ?_, ?_, ?_, ?_, ?_, ?_, ?_, ?_, ?_, ?_⟩, ?_, ?_, ?_, ?_, ?_⟩
  · show v 0 + 1 = G 0
    rw [g0, h0]
  · exact h1.trans (gk 1 (by decide) (by decide) (by decide) (by decide) (by decide) (by decide)).symm
  · exact h2.trans (gk 2 (by decide) (by decide) (by decide) (by decide) (by decide) (by decide)).symm
  · exact h3.trans (gk 3 (by decide) (by decide) (by decide) (by decide) (by decide) (by decide)).symm
  · exact h4.trans (gk 4 (by decide) (by decide) (by decide) (by decide) (by decide) (by decide)).symm
  · exact h5.trans (gk 5 (by decide) (by decide) (by decide) (by decide) (by decide) (by decide)).symm
  · exact h6.trans (gk 6 (by decide) (by decide) (by decide) (by decide) (by decide) (by decide)).symm
  · show (F_X4_takeDue (v 48) (a 0) (a 1) (v 0 + 1) (v 7)).1 = G 7
    exact g7.symm
  · exact f8.symm
  · exact h9.trans (gk 9 (by decide) (by decide) (by decide) (by decide) (by decide) (by decide)).symm
  · exact f11.symm
  · exact h12.trans (gk 12 (by decide) (by decide) (by decide) (by decide) (by decide) (by decide)).symm
  · exact h28.trans (gk 28 (by decide) (by decide) (by decide) (by decide) (by decide) (by decide)).symm
  · exact h29.trans (gk 29 (by decide) (by decide) (by decide) (by decide) (by decide) (by decide)).symm
  · exact h30.trans (gk 30 (by decide) (by decide) (by decide) (by decide) (by decide) (by decide)).symm
  · exact h31.trans (gk 31 (by decide) (by decide) (by decide) (by decide) (by decide) (by decide)).symm
  · exact h32.trans (gk 32 (by decide) (by decide) (by decide) (by decide) (by decide) (by decide)).symm
  · exact h35.trans (gk 35 (by decide) (by decide) (by decide) (by decide) (by decide) (by decide)).symm
  · exact h42.trans (gk 42 (by decide) (by decide) (by decide) (by decide) (by decide) (by decide)).symm
  · exact h43.trans (gk 43 (by decide) (by decide) (by decide) (by decide) (by decide) (by decide)).symm
  · exact h44.trans (gk 44 (by decide) (by decide) (by decide) (by decide) (by decide) (by decide)).symm
  · exact h45.trans (gk 45 (by decide) (by decide) (by decide) (by decide) (by decide) (by decide)).symm
  · exact h46.trans (gk 46 (by decide) (by decide) (by decide) (by decide) (by decide) (by decide)).symm
  · exact h47.trans (gk 47 (by decide) (by decide) (by decide) (by decide) (by decide) (by decide)).symm
  · show (F_X4_takeDue (v 48) (a 0) (a 1) (v 0 + 1) (v 7)).2.1 = G 48
    exact g48.symm
  · exact dQ.kept (fun j q1 q2 => fk j (by omega) (by omega) (by omega))
  · exact hI.kept (fun j q1 q2 => gk j (by omega) (by omega) (by omega) (by omega) (by omega) (by omega))
  · exact hL.kept (fun j q1 q2 => gk j (by omega) (by omega) (by omega) (by omega) (by omega) (by omega))
  · exact fc
  · have e33 := gk 33 (by decide) (by decide) (by decide) (by decide) (by decide) (by decide)
    have e34 := gk 34 (by decide) (by decide) (by decide) (by decide) (by decide) (by decide)
    show (v 34 = 0 ∧ G 33 = -1) ∨ ((v 34 = 1 ∨ v 34 = -1) ∧ v 34 = G 34 ∧ v 33 = G 33 ∧ ¬ G 33 = -1)
    rw [e33, e34]
    exact hE
