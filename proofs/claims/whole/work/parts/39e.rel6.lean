def SHf (on : Bool) (m s t : Int32) : Int32 :=
  if m = (3 : Int32) then
    (-1 : Int32)
  else
    if m = (0 : Int32) then
      (0 : Int32)
    else
      if s = (-1 : Int32) then
        (0 : Int32)
      else
        if on = false then
          if m = (2 : Int32) then
            let q6 := F_X9_legOf s (0 : Int32)
            if t = q6 then
              let q12 := F_X9_legOf s (1 : Int32)
              if t = q12 then
                if m = (4 : Int32) then
                  (0 : Int32)
                else
                  (0 : Int32)
              else
                if m = (4 : Int32) then
                  (0 : Int32)
                else
                  (0 : Int32)
            else
              let q8 := F_X9_legOf s (1 : Int32)
              if t = q8 then
                if m = (4 : Int32) then
                  (0 : Int32)
                else
                  (-1 : Int32)
              else
                if m = (4 : Int32) then
                  (0 : Int32)
                else
                  (0 : Int32)
          else
            let q16 := F_X9_legOf s (1 : Int32)
            if t = q16 then
              let q22 := F_X9_legOf s (0 : Int32)
              if t = q22 then
                if m = (4 : Int32) then
                  (0 : Int32)
                else
                  (0 : Int32)
              else
                if m = (4 : Int32) then
                  (0 : Int32)
                else
                  (0 : Int32)
            else
              let q18 := F_X9_legOf s (0 : Int32)
              if t = q18 then
                if m = (4 : Int32) then
                  (0 : Int32)
                else
                  (-1 : Int32)
              else
                if m = (4 : Int32) then
                  (0 : Int32)
                else
                  (0 : Int32)
        else
          if m = (2 : Int32) then
            let q27 := F_X9_legOf s (0 : Int32)
            if t = q27 then
              let q33 := F_X9_legOf s (1 : Int32)
              if t = q33 then
                if m = (4 : Int32) then
                  (-1 : Int32)
                else
                  (1 : Int32)
              else
                if m = (4 : Int32) then
                  (-1 : Int32)
                else
                  (1 : Int32)
            else
              let q29 := F_X9_legOf s (1 : Int32)
              if t = q29 then
                if m = (4 : Int32) then
                  (-1 : Int32)
                else
                  (-1 : Int32)
              else
                if m = (4 : Int32) then
                  (0 : Int32)
                else
                  (0 : Int32)
          else
            let q37 := F_X9_legOf s (1 : Int32)
            if t = q37 then
              let q43 := F_X9_legOf s (0 : Int32)
              if t = q43 then
                if m = (4 : Int32) then
                  (-1 : Int32)
                else
                  (1 : Int32)
              else
                if m = (4 : Int32) then
                  (-1 : Int32)
                else
                  (1 : Int32)
            else
              let q39 := F_X9_legOf s (0 : Int32)
              if t = q39 then
                if m = (4 : Int32) then
                  (-1 : Int32)
                else
                  (-1 : Int32)
              else
                if m = (4 : Int32) then
                  (0 : Int32)
                else
                  (0 : Int32)
def SW (w : Nat → Int32) (i : Nat) (q2 : Int32) : Nat → Int32 :=
      if q2 = (1 : Int32) then
        if (w 0) - (w (19 + i)) ≤ w 4 then
          (upd w (13 + i) (0 : Int32))
        else
          if q2 = (-1 : Int32) then
            if w 4 < (w 0) - (w (16 + i)) then
              (upd (upd (upd (upd (upd w (13 + i) q2) (16 + i) ((upd w (13 + i) q2) 0)) (22 + i) (((upd (upd w (13 + i) q2) (16 + i) ((upd w (13 + i) q2) 0)) (22 + i)) + (1 : Int32))) (19 + i) ((upd (upd (upd w (13 + i) q2) (16 + i) ((upd w (13 + i) q2) 0)) (22 + i) (((upd (upd w (13 + i) q2) (16 + i) ((upd w (13 + i) q2) 0)) (22 + i)) + (1 : Int32))) 0)) (25 + i) (((upd (upd (upd (upd w (13 + i) q2) (16 + i) ((upd w (13 + i) q2) 0)) (22 + i) (((upd (upd w (13 + i) q2) (16 + i) ((upd w (13 + i) q2) 0)) (22 + i)) + (1 : Int32))) (19 + i) ((upd (upd (upd w (13 + i) q2) (16 + i) ((upd w (13 + i) q2) 0)) (22 + i) (((upd (upd w (13 + i) q2) (16 + i) ((upd w (13 + i) q2) 0)) (22 + i)) + (1 : Int32))) 0)) (25 + i)) + (1 : Int32)))
            else
              (upd w (13 + i) (0 : Int32))
          else
            (upd (upd (upd w (13 + i) q2) (16 + i) ((upd w (13 + i) q2) 0)) (22 + i) (((upd (upd w (13 + i) q2) (16 + i) ((upd w (13 + i) q2) 0)) (22 + i)) + (1 : Int32)))
      else
        if q2 = (-1 : Int32) then
          if w 4 < (w 0) - (w (16 + i)) then
            (upd (upd (upd w (13 + i) q2) (19 + i) ((upd w (13 + i) q2) 0)) (25 + i) (((upd (upd w (13 + i) q2) (19 + i) ((upd w (13 + i) q2) 0)) (25 + i)) + (1 : Int32)))
          else
            (upd w (13 + i) (0 : Int32))
        else
          (upd w (13 + i) q2)
theorem sw_unf {n : Nat} {np th ed : Int32} {hh : Int64} {w pf : Nat → Int32} {i : Nat} (hi : i < 3) : LP_X9_switches (n + 1) np th ed hh w pf i = LP_X9_switches n np th ed hh (SW w i (F_X9_should np th ed hh w pf (nI i))) pf (i + 1) := by
  have c : ¬ (3 : Int32) ≤ nI i := nI_ge hi (by decide)
  simp only [LP_X9_switches, SW, if_neg c]
  (repeat' split) <;> rfl
theorem shf_eq {np th ed : Int32} {hh : Int64} {w pf : Nat → Int32} {t : Int32} : F_X9_should np th ed hh w pf t = SHf (decide (¬ (w 2 * w 3) / 100 ≤ w 12)) (w 6) (w 9) t := by
  simp only [F_X9_should, SHf]
  by_cases c : (w 2 * w 3) / 100 ≤ w 12 <;> simp [c]
def sx (s : Nat) : Int32 := if s = 6 then -1 else nI s
theorem sh_tab1 : ∀ m, m < 5 → ∀ s, s < 7 → ∀ j, j < 3 → F_X0_wantedLeg (nI j) (nI m) (sx s) 1 = SHf true (nI m) (sx s) (nI j) := by decide +kernel
theorem sh_tab0 : ∀ m, m < 5 → ∀ s, s < 7 → ∀ j, j < 3 → F_X0_wantedLeg (nI j) (nI m) (sx s) 0 = SHf false (nI m) (sx s) (nI j) := by decide +kernel
theorem sx_of {x : Int32} (h : -1 ≤ x.toInt ∧ x.toInt < 6) : ∃ s, s < 7 ∧ x = sx s := by
  by_cases c : x = -1
  · exact ⟨6, by decide, c⟩
  · obtain ⟨i, hi, e⟩ := sec_nat h c
    exact ⟨i, by omega, by rw [e, sx, if_neg (by omega)]⟩
theorem should_rel {np th ed : Int32} {hh : Int64} {w pf x0 x1 x2 x3 x4 : Nat → Int32} {p f0 f1 f2 f3 f4 : Int32} {j : Nat} (h6 : vp_in (w 6) 5) (h9 : -1 ≤ (w 9).toInt ∧ (w 9).toInt < 6) (hj : j < 3) (e12 : p = w 12) (e2 : f1 = w 2) (e3 : f2 = w 3) : F_X0_wantedLeg (nI j) (w 6) (w 9) (F_X0_isPulseOn p x0 x1 x2 x3 x4 f0 f1 f2 f3 f4) = F_X9_should np th ed hh w pf (nI j) := by
  subst e12; subst e2; subst e3
  rw [shf_eq]
  obtain ⟨s, hs, es⟩ := sx_of h9
  have em := tn_eq h6
  have hm := tn_lt h6
  rw [es, em]
  simp only [F_X0_isPulseOn]
  by_cases c : (w 2 * w 3) / 100 ≤ w 12
  · simp only [if_pos c, c, not_true_eq_false, decide_false]
    exact sh_tab0 _ hm s hs j hj
  · simp only [if_neg c, c, not_false_eq_true, decide_true]
    exact sh_tab1 _ hm s hs j hj
def RV (w0 w1 w2 w3 w4 w : Nat → Int32) : Prop := ∀ k, k < 3 → w0 k = w (13 + k) ∧ w1 k = w (22 + k) ∧ w2 k = w (25 + k) ∧ w3 k = w (16 + k) ∧ w4 k = w (19 + k)
theorem sw_keep {w : Nat → Int32} {i k : Nat} {q : Int32} (hi : i < 3) (hk : k < 13 ∨ 28 ≤ k) : SW w i q k = w k := by
  simp only [SW]
  (repeat' split) <;> (repeat rw [pk_un (by omega)])
set_option maxHeartbeats 2000000 in
theorem leg_step {w w0 w1 w2 w3 w4 : Nat → Int32} {j : Nat} {q p t d : Int32} (hj : j < 3) (hV : RV w0 w1 w2 w3 w4 w) (ht : t = w 0) (hd : d = w 4) :
    RV (F_X0_switchLeg p w0 w1 w2 w3 w4 j (F_X0_afterDeadTime p w0 w1 w2 w3 w4 j q t d) t).1 (F_X0_switchLeg p w0 w1 w2 w3 w4 j (F_X0_afterDeadTime p w0 w1 w2 w3 w4 j q t d) t).2.1 (F_X0_switchLeg p w0 w1 w2 w3 w4 j (F_X0_afterDeadTime p w0 w1 w2 w3 w4 j q t d) t).2.2.1 (F_X0_switchLeg p w0 w1 w2 w3 w4 j (F_X0_afterDeadTime p w0 w1 w2 w3 w4 j q t d) t).2.2.2.1 (F_X0_switchLeg p w0 w1 w2 w3 w4 j (F_X0_afterDeadTime p w0 w1 w2 w3 w4 j q t d) t).2.2.2.2 (SW w j q) := by
  subst ht; subst hd
  have n1 : ¬ (1 : Int32) = -1 := by decide
  have n2 : ¬ (-1 : Int32) = 1 := by decide
  obtain ⟨a0, b0, c0, d0, e0⟩ := hV 0 (by decide)
  obtain ⟨a1, b1, c1, d1, e1⟩ := hV 1 (by decide)
  obtain ⟨a2, b2, c2, d2, e2⟩ := hV 2 (by decide)
  have hj4 := (hV j hj).2.2.2.2
  have hj3 := (hV j hj).2.2.2.1
  simp only [Nat.reduceAdd] at a0 b0 c0 d0 e0 a1 b1 c1 d1 e1 a2 b2 c2 d2 e2
  by_cases q1 : q = 1
  · subst q1
    have hS : F_X0_afterDeadTime p w0 w1 w2 w3 w4 j 1 (w 0) (w 4) = if w 4 < w 0 - w (19 + j) then 1 else 0 := by
      simp only [F_X0_afterDeadTime, hj4]
      rw [if_pos trivial, if_neg n1]
    rw [hS]
    by_cases cd : w 0 - w (19 + j) ≤ w 4
    · have hW : SW w j 1 = upd w (13 + j) 0 := by
        simp only [SW]; rw [if_pos trivial, if_pos cd]
      rw [if_neg (Int32.not_lt.mpr cd), hW]
      intro k hk
      rcases (show j = 0 ∨ j = 1 ∨ j = 2 by omega) with rfl | rfl | rfl <;> rcases (show k = 0 ∨ k = 1 ∨ k = 2 by omega) with rfl | rfl | rfl <;> simp [F_X0_switchLeg, upd, a0, b0, c0, d0, e0, a1, b1, c1, d1, e1, a2, b2, c2, d2, e2]
    · have hW : SW w j 1 = upd (upd (upd w (13 + j) 1) (16 + j) (w 0)) (22 + j) (w (22 + j) + 1) := by
        simp only [SW]; rw [if_pos trivial, if_neg cd, if_neg n1, pk_un (show 22 + j ≠ 16 + j by omega), pk_un (show 22 + j ≠ 13 + j by omega), pk_un (show 0 ≠ 13 + j by omega)]
      rw [if_pos (Int32.not_le.mp cd), hW]
      intro k hk
      rcases (show j = 0 ∨ j = 1 ∨ j = 2 by omega) with rfl | rfl | rfl <;> rcases (show k = 0 ∨ k = 1 ∨ k = 2 by omega) with rfl | rfl | rfl <;> simp [F_X0_switchLeg, upd, a0, b0, c0, d0, e0, a1, b1, c1, d1, e1, a2, b2, c2, d2, e2]
  · by_cases q2 : q = -1
    · subst q2
      have hS : F_X0_afterDeadTime p w0 w1 w2 w3 w4 j (-1) (w 0) (w 4) = if w 4 < w 0 - w (16 + j) then -1 else 0 := by
        simp only [F_X0_afterDeadTime, hj3]
        rw [if_neg n2, if_pos trivial]
      rw [hS]
      by_cases cd : w 4 < w 0 - w (16 + j)
      · have hW : SW w j (-1) = upd (upd (upd w (13 + j) (-1)) (19 + j) (w 0)) (25 + j) (w (25 + j) + 1) := by
          simp only [SW]; rw [if_neg n2, if_pos trivial, if_pos cd, pk_un (show 25 + j ≠ 19 + j by omega), pk_un (show 25 + j ≠ 13 + j by omega), pk_un (show 0 ≠ 13 + j by omega)]
        rw [if_pos cd, hW]
        intro k hk
        rcases (show j = 0 ∨ j = 1 ∨ j = 2 by omega) with rfl | rfl | rfl <;> rcases (show k = 0 ∨ k = 1 ∨ k = 2 by omega) with rfl | rfl | rfl <;> simp [F_X0_switchLeg, upd, a0, b0, c0, d0, e0, a1, b1, c1, d1, e1, a2, b2, c2, d2, e2]
      · have hW : SW w j (-1) = upd w (13 + j) 0 := by
          simp only [SW]; rw [if_neg n2, if_pos trivial, if_neg cd]
        rw [if_neg cd, hW]
        intro k hk
        rcases (show j = 0 ∨ j = 1 ∨ j = 2 by omega) with rfl | rfl | rfl <;> rcases (show k = 0 ∨ k = 1 ∨ k = 2 by omega) with rfl | rfl | rfl <;> simp [F_X0_switchLeg, upd, a0, b0, c0, d0, e0, a1, b1, c1, d1, e1, a2, b2, c2, d2, e2]
    · have hS : F_X0_afterDeadTime p w0 w1 w2 w3 w4 j q (w 0) (w 4) = q := by
        simp only [F_X0_afterDeadTime]
        rw [if_neg q1, if_neg q2]
      have hW : SW w j q = upd w (13 + j) q := by
        simp only [SW]; rw [if_neg q1, if_neg q2]
      rw [hS, hW]
      have hL : F_X0_switchLeg p w0 w1 w2 w3 w4 j q (w 0) = (upd w0 j q, w1, w2, w3, w4) := by
        simp only [F_X0_switchLeg]
        rw [if_neg q1, if_neg q2]
      rw [hL]
      intro k hk
      rcases (show j = 0 ∨ j = 1 ∨ j = 2 by omega) with rfl | rfl | rfl <;> rcases (show k = 0 ∨ k = 1 ∨ k = 2 by omega) with rfl | rfl | rfl <;> simp [upd, a0, b0, c0, d0, e0, a1, b1, c1, d1, e1, a2, b2, c2, d2, e2]
theorem legs_rel {np th ed : Int32} {hh : Int64} {w pf w0 w1 w2 w3 w4 : Nat → Int32} (hV : RV w0 w1 w2 w3 w4 w) (h6 : vp_in (w 6) 5) (h9 : -1 ≤ (w 9).toInt ∧ (w 9).toInt < 6) :
    RV (F_X0_setLegs (w 12) w0 w1 w2 w3 w4 (w 1) (w 2) (w 3) (w 4) (w 5) (w 6) (w 9) (w 0)).1 (F_X0_setLegs (w 12) w0 w1 w2 w3 w4 (w 1) (w 2) (w 3) (w 4) (w 5) (w 6) (w 9) (w 0)).2.1 (F_X0_setLegs (w 12) w0 w1 w2 w3 w4 (w 1) (w 2) (w 3) (w 4) (w 5) (w 6) (w 9) (w 0)).2.2.1 (F_X0_setLegs (w 12) w0 w1 w2 w3 w4 (w 1) (w 2) (w 3) (w 4) (w 5) (w 6) (w 9) (w 0)).2.2.2.1 (F_X0_setLegs (w 12) w0 w1 w2 w3 w4 (w 1) (w 2) (w 3) (w 4) (w 5) (w 6) (w 9) (w 0)).2.2.2.2 (F_X9_switches np th ed hh w pf) ∧ ∀ k, (k < 13 ∨ 28 ≤ k) → F_X9_switches np th ed hh w pf k = w k := by
  have hF : F_X9_switches np th ed hh w pf = SW (SW (SW w 0 (F_X9_should np th ed hh w pf (nI 0))) 1 (F_X9_should np th ed hh (SW w 0 (F_X9_should np th ed hh w pf (nI 0))) pf (nI 1))) 2 (F_X9_should np th ed hh (SW (SW w 0 (F_X9_should np th ed hh w pf (nI 0))) 1 (F_X9_should np th ed hh (SW w 0 (F_X9_should np th ed hh w pf (nI 0))) pf (nI 1))) pf (nI 2)) := by
    simp only [F_X9_switches]
    rw [sw_unf (by decide), sw_unf (by decide), sw_unf (by decide)]
    simp only [LP_X9_switches]
    rw [if_pos (by decide)]
  rw [hF]
  have k0 : ∀ k, (k < 13 ∨ 28 ≤ k) → SW w 0 (F_X9_should np th ed hh w pf (nI 0)) k = w k := fun k hk => sw_keep (by decide) hk
  generalize eA : SW w 0 (F_X9_should np th ed hh w pf (nI 0)) = A at k0 ⊢
  have k1 : ∀ k, (k < 13 ∨ 28 ≤ k) → SW A 1 (F_X9_should np th ed hh A pf (nI 1)) k = w k := fun k hk => by rw [sw_keep (by decide) hk, k0 k hk]
  generalize eB : SW A 1 (F_X9_should np th ed hh A pf (nI 1)) = B at k1 ⊢
  simp only [F_X0_setLegs]
  have s0 := should_rel (np := np) (th := th) (ed := ed) (hh := hh) (pf := pf) (x0 := w0) (x1 := w1) (x2 := w2) (x3 := w3) (x4 := w4) (f0 := w 1) (f3 := w 4) (f4 := w 5) h6 h9 (show 0 < 3 by decide) rfl rfl rfl
  have s1 := should_rel (np := np) (th := th) (ed := ed) (hh := hh) (pf := pf) (x0 := w0) (x1 := w1) (x2 := w2) (x3 := w3) (x4 := w4) (f0 := w 1) (f3 := w 4) (f4 := w 5) (w := A) (p := w 12) (f1 := w 2) (f2 := w 3) (j := 1) (by rw [k0 6 (by decide)]; exact h6) (by rw [k0 9 (by decide)]; exact h9) (by decide) (k0 12 (by decide)).symm (k0 2 (by decide)).symm (k0 3 (by decide)).symm
  have s2 := should_rel (np := np) (th := th) (ed := ed) (hh := hh) (pf := pf) (x0 := w0) (x1 := w1) (x2 := w2) (x3 := w3) (x4 := w4) (f0 := w 1) (f3 := w 4) (f4 := w 5) (w := B) (p := w 12) (f1 := w 2) (f2 := w 3) (j := 2) (by rw [k1 6 (by decide)]; exact h6) (by rw [k1 9 (by decide)]; exact h9) (by decide) (k1 12 (by decide)).symm (k1 2 (by decide)).symm (k1 3 (by decide)).symm
  rw [k0 6 (by decide), k0 9 (by decide)] at s1
  rw [k1 6 (by decide), k1 9 (by decide)] at s2
  have z0 : (0 : Int32) = nI 0 := rfl
  have z1 : (1 : Int32) = nI 1 := rfl
  have z2 : (2 : Int32) = nI 2 := rfl
  have g0 := leg_step (p := w 12) (q := F_X9_should np th ed hh w pf (nI 0)) (show 0 < 3 by decide) hV rfl rfl
  rw [eA] at g0
  have g1 := leg_step (p := w 12) (q := F_X9_should np th ed hh A pf (nI 1)) (t := w 0) (d := w 4) (show 1 < 3 by decide) g0 (k0 0 (by decide)).symm (k0 4 (by decide)).symm
  rw [eB] at g1
  have g2 := leg_step (p := w 12) (q := F_X9_should np th ed hh B pf (nI 2)) (t := w 0) (d := w 4) (show 2 < 3 by decide) g1 (k1 0 (by decide)).symm (k1 4 (by decide)).symm
  refine ⟨?_, fun k hk => by rw [sw_keep (by decide) hk, k1 k hk]⟩
  rw [show F_X0_wantedLeg 0 (w 6) (w 9) _ = _ from s0, show F_X0_wantedLeg 1 (w 6) (w 9) _ = _ from s1, show F_X0_wantedLeg 2 (w 6) (w 9) _ = _ from s2]
  exact g2
