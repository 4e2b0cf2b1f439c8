/-! edges -/
def JG (np th : Int32) (hh : Int64) (pf w : Nat → Int32) (m6 m42 t d : Int32) : Nat → Int32 :=
  if F_X9_isDriven np th 1 hh w pf = 0 then w
  else if m6 = 1 then
    if t = 1 then upd w 42 0
    else if m42 + 1 = 3 then F_X9_faults np th 1 hh (upd w 42 (m42 + 1)) pf 2 d
    else upd w 42 (m42 + 1)
  else
    if t = -1 then upd w 42 0
    else if m42 + 1 = 3 then F_X9_faults np th 1 hh (upd w 42 (m42 + 1)) pf 2 d
    else upd w 42 (m42 + 1)
theorem turns_reset {np th ed : Int32} {hh : Int64} {w pf : Nat → Int32} {t : Int32} (h : w 33 = -1 ∨ ¬ w 34 = t) : F_X9_turns np th ed hh w pf t = (1, JG np th hh pf (upd (upd (upd (upd (upd w 31 (w 31 + 1)) 28 (w 28 + t)) 35 0) 33 (w 0)) 34 t) (w 6) (w 42) t (w 9)) := by
  simp only [F_X9_turns, JG, apply_ite (Prod.mk (1 : Int32))]
  by_cases c : w 33 = -1
  · rw [if_pos c]
  · rw [if_neg c, if_neg (h.resolve_left c)]
theorem turns_app {np th ed : Int32} {hh : Int64} {w pf X : Nat → Int32} {t : Int32} (h1 : ¬ w 33 = -1) (h2 : w 34 = t) (hX : F_X9_addsInterval np th 1 hh (upd (upd w 31 (w 31 + 1)) 28 (w 28 + t)) pf (w 0 - w 33) = X) : F_X9_turns np th ed hh w pf t = (1, JG np th hh pf (upd (upd X 33 (X 0)) 34 t) (X 6) (X 42) t (X 9)) := by
  simp only [F_X9_turns, JG, apply_ite (Prod.mk (1 : Int32))]
  rw [if_neg h1, if_pos h2, hX]
theorem judge_rel {np th : Int32} {hh : Int64} {v w pf : Nat → Int32} {t d : Int32} (hR : RS v w) (ha : 0 ≤ (v 42).toInt) (hb : (v 42).toInt < 3) : RS (upd (upd (upd (upd (upd (upd (upd (upd v 6 (F_X1_judgeEdge (v 6) (v 42) (v 43) (v 44) (v 32) (v 45) (v 46) (v 47) t (v 0) d).1) 42 (F_X1_judgeEdge (v 6) (v 42) (v 43) (v 44) (v 32) (v 45) (v 46) (v 47) t (v 0) d).2.1) 43 (F_X1_judgeEdge (v 6) (v 42) (v 43) (v 44) (v 32) (v 45) (v 46) (v 47) t (v 0) d).2.2.1) 44 (F_X1_judgeEdge (v 6) (v 42) (v 43) (v 44) (v 32) (v 45) (v 46) (v 47) t (v 0) d).2.2.2.1) 32 (F_X1_judgeEdge (v 6) (v 42) (v 43) (v 44) (v 32) (v 45) (v 46) (v 47) t (v 0) d).2.2.2.2.1) 45 (F_X1_judgeEdge (v 6) (v 42) (v 43) (v 44) (v 32) (v 45) (v 46) (v 47) t (v 0) d).2.2.2.2.2.1) 46 (F_X1_judgeEdge (v 6) (v 42) (v 43) (v 44) (v 32) (v 45) (v 46) (v 47) t (v 0) d).2.2.2.2.2.2.1) 47 (F_X1_judgeEdge (v 6) (v 42) (v 43) (v 44) (v 32) (v 45) (v 46) (v 47) t (v 0) d).2.2.2.2.2.2.2) (JG np th hh pf w (w 6) (w 42) t d) := by
  have hR0 := hR
  obtain ⟨h0, h1, h2, h3, h4, h5, h6, h7, h8, h9, h11, h12, h28, h29, h30, h31, h32, h35, h42, h43, h44, h45, h46, h47, h48⟩ := hR.all
  have e3 := lt3 ha hb
  simp only [JG, F_X1_judgeEdge]
  rw [drv_eq (np := np) (th := th) (ed := 1) (hh := hh) (pf := pf) h6]
  by_cases c : F_X9_isDriven np th 1 hh w pf = 0
  · simp only [if_pos c]
    exact RS.mk25 (by simp [upd, h0, h1, h2, h3, h4, h5, h6, h7, h8, h9, h11, h12, h28, h29, h30, h31, h32, h35, h42, h43, h44, h45, h46, h47, h48])
  · simp only [if_neg c, ← h6, ← h42]
    by_cases c1 : v 6 = 1
    · simp only [if_pos c1]
      by_cases c2 : t = 1
      · simp only [if_pos c2]
        exact RS.mk25 (by simp [upd, h0, h1, h2, h3, h4, h5, h6, h7, h8, h9, h11, h12, h28, h29, h30, h31, h32, h35, h42, h43, h44, h45, h46, h47, h48])
      · simp only [if_neg c2]
        by_cases c3 : v 42 + 1 = 3
        · simp only [if_pos c3, if_neg (fun q => e3.mp q c3)]
          exact RS.mk25 (by simp [upd, F_X1_raiseFault, F_X1_enterMode, F_X9_faults, h0, h1, h2, h3, h4, h5, h6, h7, h8, h9, h11, h12, h28, h29, h30, h31, h32, h35, h42, h43, h44, h45, h46, h47, h48])
        · simp only [if_neg c3, if_pos (e3.mpr c3)]
          exact RS.mk25 (by simp [upd, h0, h1, h2, h3, h4, h5, h6, h7, h8, h9, h11, h12, h28, h29, h30, h31, h32, h35, h42, h43, h44, h45, h46, h47, h48])
    · simp only [if_neg c1]
      by_cases c2 : t = -1
      · simp only [if_pos c2]
        exact RS.mk25 (by simp [upd, h0, h1, h2, h3, h4, h5, h6, h7, h8, h9, h11, h12, h28, h29, h30, h31, h32, h35, h42, h43, h44, h45, h46, h47, h48])
      · simp only [if_neg c2]
        by_cases c3 : v 42 + 1 = 3
        · simp only [if_pos c3, if_neg (fun q => e3.mp q c3)]
          exact RS.mk25 (by simp [upd, F_X1_raiseFault, F_X1_enterMode, F_X9_faults, h0, h1, h2, h3, h4, h5, h6, h7, h8, h9, h11, h12, h28, h29, h30, h31, h32, h35, h42, h43, h44, h45, h46, h47, h48])
        · simp only [if_neg c3, if_pos (e3.mpr c3)]
          exact RS.mk25 (by simp [upd, h0, h1, h2, h3, h4, h5, h6, h7, h8, h9, h11, h12, h28, h29, h30, h31, h32, h35, h42, h43, h44, h45, h46, h47, h48])
theorem JG_keep {np th : Int32} {hh : Int64} {w pf : Nat → Int32} {m6 m42 t d : Int32} {k : Nat} (hk : ¬ isW k) : JG np th hh pf w m6 m42 t d k = w k := by
  have h6 : k ≠ 6 := fun e => hk (by simp [isW, e])
  have h42 : k ≠ 42 := fun e => hk (by simp [isW, e])
  have h43 : k ≠ 43 := fun e => hk (by simp [isW, e])
  have h44 : k ≠ 44 := fun e => hk (by simp [isW, e])
  have h32 : k ≠ 32 := fun e => hk (by simp [isW, e])
  have h45 : k ≠ 45 := fun e => hk (by simp [isW, e])
  have h46 : k ≠ 46 := fun e => hk (by simp [isW, e])
  have h47 : k ≠ 47 := fun e => hk (by simp [isW, e])
  simp only [JG, F_X9_faults]
  (repeat' split) <;> simp [upd, h6, h42, h43, h44, h32, h45, h46, h47]
/-- an interval more, on both sides -/
theorem app_rel {np th ed : Int32} {hh : Int64} {w pf iv : Nat → Int32} {z x f0 f1 f2 f3 f6 f7 : Int32} (hI : RI iv w) (h35 : w 35 = z) (hz : vp_in z 7) :
    F_X9_addsInterval np th ed hh w pf x 35 = (F_X3_appendInterval f0 f1 f2 f3 z f6 f7 iv x).1 ∧ RI (F_X3_appendInterval f0 f1 f2 f3 z f6 f7 iv x).2 (F_X9_addsInterval np th ed hh w pf x) ∧ ∀ k, k ≠ 35 → (k < 36 ∨ 42 ≤ k) → F_X9_addsInterval np th ed hh w pf x k = w k := by
  have hl := tn_lt hz
  simp only [F_X9_addsInterval, F_X3_appendInterval, h35]
  by_cases c : z = 6
  · subst c
    rw [if_pos rfl, if_neg (by decide)]
    refine ⟨rfl, ?_, fun k h1 h2 => ?_⟩
    · intro k hk
      have i1 := hI 1 (by decide)
      have i2 := hI 2 (by decide)
      have i3 := hI 3 (by decide)
      have i4 := hI 4 (by decide)
      have i5 := hI 5 (by decide)
      match k, hk with
      | 0, _ => exact i1
      | 1, _ => exact i2
      | 2, _ => exact i3
      | 3, _ => exact i4
      | 4, _ => exact i5
      | 5, _ => rfl
    · rw [pk_un h1, pk_un (by omega), pk_un h1, pk_un (by omega), pk_un (by omega), pk_un (by omega), pk_un (by omega), pk_un (by omega)]
  · rw [if_neg c]
    have hl6 := tn_lt (vp_sub6 hz c)
    have c6 : z < 6 := by
      rw [tn_eq hz]
      exact nI_lt hl6 (by decide)
    rw [if_pos c6]
    refine ⟨?_, fun k hk => ?_, fun k h1 h2 => ?_⟩
    · rw [pk_us, pk_un (by omega), h35]
    · show upd iv (tn z) x k = upd (upd w (36 + tn z) x) 35 _ (36 + k)
      rw [pk_un (show 36 + k ≠ 35 by omega)]
      by_cases e : k = tn z
      · subst e; rw [pk_us, pk_us]
      · rw [pk_un e, pk_un (by omega)]; exact hI k hk
    · rw [pk_un h1, pk_un (by omega)]
theorem rem_tab : ∀ i, i < 6 → ∀ j, j < 6 → ((nI i - nI j + 6) - (nI i - nI j + 6) / 6 * 6 = 0 ↔ i = j) ∧ (i = j → ¬ (nI i - nI j + 6) - (nI i - nI j + 6) / 6 * 6 = 1 ∧ ¬ (nI i - nI j + 6) - (nI i - nI j + 6) / 6 * 6 = 5) := by decide +kernel
theorem sec_nat {x : Int32} (h : -1 ≤ x.toInt ∧ x.toInt < 6) (h1 : ¬ x = -1) : ∃ i, i < 6 ∧ x = nI i := by
  obtain ⟨j, hj, e⟩ := nI_of (x := x) (fun q => by
    have := Int32.lt_iff_toInt_lt.mp q
    have e0 : (0 : Int32).toInt = 0 := rfl
    have e1 : x.toInt = -1 := by omega
    exact h1 (Int32.toInt_inj.mp (by rw [e1]; rfl)))
  subst e
  rw [nI_toInt hj] at h
  exact ⟨j, by omega, rfl⟩
