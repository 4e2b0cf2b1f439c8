/-! the watch over times, the edges -/
def isW (k : Nat) : Prop := k = 6 ∨ k = 42 ∨ k = 43 ∨ k = 44 ∨ k = 32 ∨ k = 45 ∨ k = 46 ∨ k = 47
theorem RS.up {v w : Nat → Int32} (h : RS v w) (k : Nat) (x : Int32) : RS (upd v k x) (upd w k x) := fun j hj => by
  by_cases e : j = k
  · subst e; rw [pk_us, pk_us]
  · rw [pk_un e, pk_un e]; exact h j hj
/-- a fault, on both sides -/
theorem fault_rel {np th ed : Int32} {hh : Int64} {v w pf : Nat → Int32} {n d f1 f2 f3 : Int32} (hR : RS v w) :
    RS (upd (upd (upd (upd (upd (upd (upd (upd v 6 (F_X1_raiseFault (v 6) f1 f2 f3 (v 32) (v 45) (v 46) (v 47) n (v 0) d).1) 42 (F_X1_raiseFault (v 6) f1 f2 f3 (v 32) (v 45) (v 46) (v 47) n (v 0) d).2.1) 43 (F_X1_raiseFault (v 6) f1 f2 f3 (v 32) (v 45) (v 46) (v 47) n (v 0) d).2.2.1) 44 (F_X1_raiseFault (v 6) f1 f2 f3 (v 32) (v 45) (v 46) (v 47) n (v 0) d).2.2.2.1) 32 (F_X1_raiseFault (v 6) f1 f2 f3 (v 32) (v 45) (v 46) (v 47) n (v 0) d).2.2.2.2.1) 45 (F_X1_raiseFault (v 6) f1 f2 f3 (v 32) (v 45) (v 46) (v 47) n (v 0) d).2.2.2.2.2.1) 46 (F_X1_raiseFault (v 6) f1 f2 f3 (v 32) (v 45) (v 46) (v 47) n (v 0) d).2.2.2.2.2.2.1) 47 (F_X1_raiseFault (v 6) f1 f2 f3 (v 32) (v 45) (v 46) (v 47) n (v 0) d).2.2.2.2.2.2.2) (F_X9_faults np th ed hh w pf n d) := by
  obtain ⟨h0, h1, h2, h3, h4, h5, h6, h7, h8, h9, h11, h12, h28, h29, h30, h31, h32, h35, h42, h43, h44, h45, h46, h47, h48⟩ := hR.all
  exact RS.mk25 (by simp [upd, F_X1_raiseFault, F_X1_enterMode, F_X9_faults, h0, h1, h2, h3, h4, h5, h6, h7, h8, h9, h11, h12, h28, h29, h30, h31, h32, h35, h42, h43, h44, h45, h46, h47, h48])
theorem drv_eq {np th ed : Int32} {hh : Int64} {v w pf : Nat → Int32} {f1 f2 f3 f4 f5 f6 f7 : Int32} (h6 : v 6 = w 6) : F_X1_isDriving (v 6) f1 f2 f3 f4 f5 f6 f7 = F_X9_isDriven np th ed hh w pf := by
  simp only [F_X1_isDriving, F_X9_isDriven, h6]
theorem lt20 {x : Int32} (h0 : 0 ≤ x.toInt) (h : x.toInt < 20) : (x + 1 < 20) ↔ ¬ (x + 1 = 20) := by
  obtain ⟨j, hj, e⟩ := nI_of (x := x) (fun q => by
    have := Int32.lt_iff_toInt_lt.mp q
    have e0 : (0 : Int32).toInt = 0 := rfl
    omega)
  subst e
  rw [nI_toInt hj] at h
  rw [nI_1]
  have e1 : (20 : Int32) = nI 20 := rfl
  rw [e1, nI_ltI (by omega) (by decide), nI_eq (by omega) (by decide)]
  omega
theorem lt3 {x : Int32} (h0 : 0 ≤ x.toInt) (h : x.toInt < 3) : (x + 1 < 3) ↔ ¬ (x + 1 = 3) := by
  obtain ⟨j, hj, e⟩ := nI_of (x := x) (fun q => by
    have := Int32.lt_iff_toInt_lt.mp q
    have e0 : (0 : Int32).toInt = 0 := rfl
    omega)
  subst e
  rw [nI_toInt hj] at h
  rw [nI_1]
  have e1 : (3 : Int32) = nI 3 := rfl
  rw [e1, nI_ltI (by omega) (by decide), nI_eq (by omega) (by decide)]
  omega
theorem watch_rel {np th ed : Int32} {hh : Int64} {v w pf : Nat → Int32} {a : Nat → Nat → Int32} (hR : RS v w) (h9s : v 9 = F_X9_sectorOf (v 8)) (h43a : 0 ≤ (v 43).toInt) (h43b : (v 43).toInt < 20) :
    RS (F_X7_watchTimes v a ed).1 (F_X9_watches np th ed hh w pf) ∧ (F_X7_watchTimes v a ed).2 = a := by
  have hR0 := hR
  obtain ⟨h0, h1, h2, h3, h4, h5, h6, h7, h8, h9, h11, h12, h28, h29, h30, h31, h32, h35, h42, h43, h44, h45, h46, h47, h48⟩ := hR.all
  simp only [F_X7_watchTimes, F_X9_watches]
  rw [drv_eq (np := np) (th := th) (ed := ed) (hh := hh) (pf := pf) h6]
  by_cases c : F_X9_isDriven np th ed hh w pf = 0
  · rw [if_pos c, if_pos c]
    exact ⟨(hR0.up 43 0).up 44 0, rfl⟩
  · rw [if_neg c, if_neg c]
    rw [← h8, ← h9s]
    by_cases c9 : v 9 = -1
    · rw [if_pos c9, if_pos c9]
      simp only [F_X7_watchIllegalTime]
      rw [← h43]
      by_cases c20 : v 43 + 1 = 20
      · rw [if_neg (fun q => (lt20 h43a h43b).mp q c20), if_pos c20]
        refine ⟨?_, rfl⟩
        exact RS.mk25 (by simp [upd, F_X1_raiseFault, F_X1_enterMode, F_X9_faults, h0, h1, h2, h3, h4, h5, h6, h7, h8, h9, h11, h12, h28, h29, h30, h31, h32, h35, h42, h43, h44, h45, h46, h47, h48])
      · rw [if_pos ((lt20 h43a h43b).mpr c20), if_neg c20]
        exact ⟨hR0.up 43 (v 43 + 1), rfl⟩
    · rw [if_neg c9, if_neg c9]
      simp only [F_X7_watchIdleTime]
      rw [show upd v 43 0 3 = v 3 from rfl, show upd v 43 0 5 = v 5 from rfl, show upd v 43 0 44 = v 44 from rfl, ← h3, ← h5, ← h44]
      by_cases c3 : v 3 = 0
      · rw [if_pos c3, if_pos c3]
        have e1 : ∀ {α : Type} (p : Prop) [Decidable p] (x : α), (if p then x else x) = x := fun p _ x => by split <;> rfl
        rw [e1]
        by_cases c5 : 0 < v 5
        · rw [if_pos c5, if_pos c5]
          exact ⟨(hR0.up 43 0).up 44 0, rfl⟩
        · rw [if_neg c5, if_neg c5]
          exact ⟨RS.mk25 (by simp [upd, F_X1_raiseFault, F_X1_enterMode, F_X9_faults, h0, h1, h2, h3, h4, h5, h6, h7, h8, h9, h11, h12, h28, h29, h30, h31, h32, h35, h42, h43, h44, h45, h46, h47, h48]), rfl⟩
      · rw [if_neg c3, if_neg c3]
        by_cases ce : ed = 0
        · rw [if_pos ce, if_pos ce]
          by_cases c5 : v 44 + 1 < v 5
          · rw [if_pos c5, if_pos c5]
            exact ⟨(hR0.up 43 0).up 44 _, rfl⟩
          · rw [if_neg c5, if_neg c5]
            exact ⟨RS.mk25 (by simp [upd, F_X1_raiseFault, F_X1_enterMode, F_X9_faults, h0, h1, h2, h3, h4, h5, h6, h7, h8, h9, h11, h12, h28, h29, h30, h31, h32, h35, h42, h43, h44, h45, h46, h47, h48]), rfl⟩
        · rw [if_neg ce, if_neg ce]
          by_cases c5 : 0 < v 5
          · rw [if_pos c5, if_pos c5]
            exact ⟨(hR0.up 43 0).up 44 0, rfl⟩
          · rw [if_neg c5, if_neg c5]
            exact ⟨RS.mk25 (by simp [upd, F_X1_raiseFault, F_X1_enterMode, F_X9_faults, h0, h1, h2, h3, h4, h5, h6, h7, h8, h9, h11, h12, h28, h29, h30, h31, h32, h35, h42, h43, h44, h45, h46, h47, h48]), rfl⟩
theorem watch_keepW {np th ed : Int32} {hh : Int64} {w pf : Nat → Int32} {k : Nat} (hk : ¬ isW k) : F_X9_watches np th ed hh w pf k = w k := by
  have h6 : k ≠ 6 := fun e => hk (by simp [isW, e])
  have h42 : k ≠ 42 := fun e => hk (by simp [isW, e])
  have h43 : k ≠ 43 := fun e => hk (by simp [isW, e])
  have h44 : k ≠ 44 := fun e => hk (by simp [isW, e])
  have h32 : k ≠ 32 := fun e => hk (by simp [isW, e])
  have h45 : k ≠ 45 := fun e => hk (by simp [isW, e])
  have h46 : k ≠ 46 := fun e => hk (by simp [isW, e])
  have h47 : k ≠ 47 := fun e => hk (by simp [isW, e])
  simp only [F_X9_watches, F_X9_faults]
  (repeat' split) <;> simp [upd, h6, h42, h43, h44, h32, h45, h46, h47]
theorem watch_keepV {ed : Int32} {v : Nat → Int32} {a : Nat → Nat → Int32} {k : Nat} (hk : ¬ isW k) : (F_X7_watchTimes v a ed).1 k = v k := by
  have h6 : k ≠ 6 := fun e => hk (by simp [isW, e])
  have h42 : k ≠ 42 := fun e => hk (by simp [isW, e])
  have h43 : k ≠ 43 := fun e => hk (by simp [isW, e])
  have h44 : k ≠ 44 := fun e => hk (by simp [isW, e])
  have h32 : k ≠ 32 := fun e => hk (by simp [isW, e])
  have h45 : k ≠ 45 := fun e => hk (by simp [isW, e])
  have h46 : k ≠ 46 := fun e => hk (by simp [isW, e])
  have h47 : k ≠ 47 := fun e => hk (by simp [isW, e])
  simp only [F_X7_watchTimes, F_X7_watchIllegalTime, F_X7_watchIdleTime]
  (repeat' split) <;> simp [upd, h6, h42, h43, h44, h32, h45, h46, h47]
