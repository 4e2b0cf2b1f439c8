/-! an edge, and the accepted code, on both sides -/
theorem edge_rel {np th ed : Int32} {hh : Int64} {v w pf : Nat → Int32} {a : Nat → Nat → Int32} {t S : Int32} (ht : t = 1 ∨ t = -1) (hR : RS v w) (hI : RI (a 2) w) (hE : RE v w) (hz : vp_in (v 35) 7) (h42a : 0 ≤ (v 42).toInt) (h42b : (v 42).toInt < 3) (h0n : ¬ v 0 = -1) :
    (F_X9_turns np th ed hh (upd w 9 S) pf t).1 = 1 ∧ RS (upd (upd (upd (upd (upd (upd (upd (upd (upd (upd (upd (upd (upd (upd v 9 S) 28 (F_X3_addEdge (v 28) (v 29) (v 30) (v 31) (v 35) (v 33) (v 34) (a 2) t (v 0)).1) 31 (F_X3_addEdge (v 28) (v 29) (v 30) (v 31) (v 35) (v 33) (v 34) (a 2) t (v 0)).2.1) 35 (F_X3_addEdge (v 28) (v 29) (v 30) (v 31) (v 35) (v 33) (v 34) (a 2) t (v 0)).2.2.1) 33 (F_X3_addEdge (v 28) (v 29) (v 30) (v 31) (v 35) (v 33) (v 34) (a 2) t (v 0)).2.2.2.1) 34 (F_X3_addEdge (v 28) (v 29) (v 30) (v 31) (v 35) (v 33) (v 34) (a 2) t (v 0)).2.2.2.2.1) 6 (F_X1_judgeEdge (v 6) (v 42) (v 43) (v 44) (v 32) (v 45) (v 46) (v 47) t (v 0) S).1) 42 (F_X1_judgeEdge (v 6) (v 42) (v 43) (v 44) (v 32) (v 45) (v 46) (v 47) t (v 0) S).2.1) 43 (F_X1_judgeEdge (v 6) (v 42) (v 43) (v 44) (v 32) (v 45) (v 46) (v 47) t (v 0) S).2.2.1) 44 (F_X1_judgeEdge (v 6) (v 42) (v 43) (v 44) (v 32) (v 45) (v 46) (v 47) t (v 0) S).2.2.2.1) 32 (F_X1_judgeEdge (v 6) (v 42) (v 43) (v 44) (v 32) (v 45) (v 46) (v 47) t (v 0) S).2.2.2.2.1) 45 (F_X1_judgeEdge (v 6) (v 42) (v 43) (v 44) (v 32) (v 45) (v 46) (v 47) t (v 0) S).2.2.2.2.2.1) 46 (F_X1_judgeEdge (v 6) (v 42) (v 43) (v 44) (v 32) (v 45) (v 46) (v 47) t (v 0) S).2.2.2.2.2.2.1) 47 (F_X1_judgeEdge (v 6) (v 42) (v 43) (v 44) (v 32) (v 45) (v 46) (v 47) t (v 0) S).2.2.2.2.2.2.2) (F_X9_turns np th ed hh (upd w 9 S) pf t).2 ∧ RI (F_X3_addEdge (v 28) (v 29) (v 30) (v 31) (v 35) (v 33) (v 34) (a 2) t (v 0)).2.2.2.2.2 (F_X9_turns np th ed hh (upd w 9 S) pf t).2 ∧ RE (upd (upd (upd (upd (upd (upd (upd (upd (upd (upd (upd (upd (upd (upd v 9 S) 28 (F_X3_addEdge (v 28) (v 29) (v 30) (v 31) (v 35) (v 33) (v 34) (a 2) t (v 0)).1) 31 (F_X3_addEdge (v 28) (v 29) (v 30) (v 31) (v 35) (v 33) (v 34) (a 2) t (v 0)).2.1) 35 (F_X3_addEdge (v 28) (v 29) (v 30) (v 31) (v 35) (v 33) (v 34) (a 2) t (v 0)).2.2.1) 33 (F_X3_addEdge (v 28) (v 29) (v 30) (v 31) (v 35) (v 33) (v 34) (a 2) t (v 0)).2.2.2.1) 34 (F_X3_addEdge (v 28) (v 29) (v 30) (v 31) (v 35) (v 33) (v 34) (a 2) t (v 0)).2.2.2.2.1) 6 (F_X1_judgeEdge (v 6) (v 42) (v 43) (v 44) (v 32) (v 45) (v 46) (v 47) t (v 0) S).1) 42 (F_X1_judgeEdge (v 6) (v 42) (v 43) (v 44) (v 32) (v 45) (v 46) (v 47) t (v 0) S).2.1) 43 (F_X1_judgeEdge (v 6) (v 42) (v 43) (v 44) (v 32) (v 45) (v 46) (v 47) t (v 0) S).2.2.1) 44 (F_X1_judgeEdge (v 6) (v 42) (v 43) (v 44) (v 32) (v 45) (v 46) (v 47) t (v 0) S).2.2.2.1) 32 (F_X1_judgeEdge (v 6) (v 42) (v 43) (v 44) (v 32) (v 45) (v 46) (v 47) t (v 0) S).2.2.2.2.1) 45 (F_X1_judgeEdge (v 6) (v 42) (v 43) (v 44) (v 32) (v 45) (v 46) (v 47) t (v 0) S).2.2.2.2.2.1) 46 (F_X1_judgeEdge (v 6) (v 42) (v 43) (v 44) (v 32) (v 45) (v 46) (v 47) t (v 0) S).2.2.2.2.2.2.1) 47 (F_X1_judgeEdge (v 6) (v 42) (v 43) (v 44) (v 32) (v 45) (v 46) (v 47) t (v 0) S).2.2.2.2.2.2.2) (F_X9_turns np th ed hh (upd w 9 S) pf t).2 ∧ ∀ k, (k = 10 ∨ (13 ≤ k ∧ k < 28) ∨ 49 ≤ k) → (F_X9_turns np th ed hh (upd w 9 S) pf t).2 k = w k := by
  have hR0 := hR
  obtain ⟨h0, h1, h2, h3, h4, h5, h6, h7, h8, h9, h11, h12, h28, h29, h30, h31, h32, h35, h42, h43, h44, h45, h46, h47, h48⟩ := hR.all
  have t0 : ¬ t = 0 := by rcases ht with e | e <;> rw [e] <;> decide
  have hw : ∀ k, (k = 10 ∨ (13 ≤ k ∧ k < 28) ∨ 49 ≤ k) → ¬ isW k := fun k hk q => by simp only [isW] at q; omega
  have hi : ∀ k, (36 ≤ k ∧ k < 42) → ¬ isW k := fun k hk q => by simp only [isW] at q; omega
  by_cases ca : t = v 34
  · -- an interval more
    obtain ⟨e34, e33, n33⟩ : v 34 = w 34 ∧ v 33 = w 33 ∧ ¬ w 33 = -1 := by
      rcases hE with ⟨q, _⟩ | ⟨_, q1, q2, q3⟩
      · exact absurd (ca.trans q) t0
      · exact ⟨q1, q2, q3⟩
    have hX := app_rel (np := np) (th := th) (ed := 1) (hh := hh) (pf := pf) (w := upd (upd (upd w 9 S) 31 (w 31 + 1)) 28 (w 28 + t)) (iv := a 2) (z := v 35) (x := w 0 - w 33) (f0 := v 28 + t) (f1 := v 29) (f2 := v 30) (f3 := v 31 + 1) (f6 := v 33) (f7 := v 34) (hI.kept (fun j q1 q2 => by rw [pk_un (by omega), pk_un (by omega), pk_un (by omega)])) (by rw [h35]; rfl) hz
    have hT := turns_app (np := np) (th := th) (ed := ed) (hh := hh) (pf := pf) (w := upd w 9 S) (t := t) n33 (by rw [ca, e34]; rfl) rfl
    generalize hXe : F_X9_addsInterval np th 1 hh (upd (upd (upd w 9 S) 31 (upd w 9 S 31 + 1)) 28 (upd w 9 S 28 + t)) pf (upd w 9 S 0 - upd w 9 S 33) = X at hT
    have hX := show X 35 = _ ∧ RI _ X ∧ ∀ k, k ≠ 35 → (k < 36 ∨ 42 ≤ k) → X k = _ by rw [← hXe]; exact hX
    obtain ⟨hX1, hX2, hX3⟩ := hX
    have x0 : X 0 = w 0 := hX3 0 (by decide) (by decide)
    have x1 : X 1 = w 1 := hX3 1 (by decide) (by decide)
    have x2 : X 2 = w 2 := hX3 2 (by decide) (by decide)
    have x3 : X 3 = w 3 := hX3 3 (by decide) (by decide)
    have x4 : X 4 = w 4 := hX3 4 (by decide) (by decide)
    have x5 : X 5 = w 5 := hX3 5 (by decide) (by decide)
    have x6 : X 6 = w 6 := hX3 6 (by decide) (by decide)
    have x7 : X 7 = w 7 := hX3 7 (by decide) (by decide)
    have x8 : X 8 = w 8 := hX3 8 (by decide) (by decide)
    have x9 : X 9 = S := hX3 9 (by decide) (by decide)
    have x11 : X 11 = w 11 := hX3 11 (by decide) (by decide)
    have x12 : X 12 = w 12 := hX3 12 (by decide) (by decide)
    have x28 : X 28 = w 28 + t := hX3 28 (by decide) (by decide)
    have x29 : X 29 = w 29 := hX3 29 (by decide) (by decide)
    have x30 : X 30 = w 30 := hX3 30 (by decide) (by decide)
    have x31 : X 31 = w 31 + 1 := hX3 31 (by decide) (by decide)
    have x32 : X 32 = w 32 := hX3 32 (by decide) (by decide)
    have x42 : X 42 = w 42 := hX3 42 (by decide) (by decide)
    have x43 : X 43 = w 43 := hX3 43 (by decide) (by decide)
    have x44 : X 44 = w 44 := hX3 44 (by decide) (by decide)
    have x45 : X 45 = w 45 := hX3 45 (by decide) (by decide)
    have x46 : X 46 = w 46 := hX3 46 (by decide) (by decide)
    have x47 : X 47 = w 47 := hX3 47 (by decide) (by decide)
    have x48 : X 48 = w 48 := hX3 48 (by decide) (by decide)
    have x34 : X 34 = w 34 := hX3 34 (by decide) (by decide)
    have x10 : X 10 = w 10 := hX3 10 (by decide) (by decide)
    rw [hT]
    have hq : F_X3_addEdge (v 28) (v 29) (v 30) (v 31) (v 35) (v 33) (v 34) (a 2) t (v 0) = (v 28 + t, v 31 + 1, (F_X3_appendInterval (v 28 + t) (v 29) (v 30) (v 31 + 1) (v 35) (v 33) (v 34) (a 2) (w 0 - w 33)).1, v 0, t, (F_X3_appendInterval (v 28 + t) (v 29) (v 30) (v 31 + 1) (v 35) (v 33) (v 34) (a 2) (w 0 - w 33)).2) := by
      simp only [F_X3_addEdge]
      rw [if_pos ca, h0, e33]
    rw [hq]
    dsimp only
    rw [← hX1]
    have hR1 : RS (upd (upd (upd (upd (upd (upd v 9 S) 28 (v 28 + t)) 31 (v 31 + 1)) 35 (X 35)) 33 (v 0)) 34 t) (upd (upd X 33 (X 0)) 34 t) := RS.mk25 (by simp [upd, h0, h1, h2, h3, h4, h5, h6, h7, h8, h9, h11, h12, h28, h29, h30, h31, h32, h35, h42, h43, h44, h45, h46, h47, h48, x0, x1, x2, x3, x4, x5, x6, x7, x8, x9, x11, x12, x28, x29, x30, x31, x32, x42, x43, x44, x45, x46, x47, x48])
    refine ⟨rfl, judge_rel (v := upd (upd (upd (upd (upd (upd v 9 S) 28 (v 28 + t)) 31 (v 31 + 1)) 35 (X 35)) 33 (v 0)) 34 t) (w := upd (upd X 33 (X 0)) 34 t) (t := t) (d := S) hR1 h42a h42b |> fun h => by rw [x9]; exact h, ?_, ?_, ?_⟩
    · exact hX2.kept (fun j q1 q2 => by rw [JG_keep (hi j ⟨q1, q2⟩), pk_un (by omega), pk_un (by omega)])
    · refine Or.inr ⟨ht, ?_, ?_, ?_⟩
      · rw [JG_keep (by simp [isW])]; rfl
      · rw [JG_keep (by simp [isW])]
        show v 0 = X 0
        rw [x0, h0]
      · rw [JG_keep (by simp [isW])]
        show ¬ X 0 = -1
        rw [x0, ← h0]; exact h0n
    · intro k hk
      rw [JG_keep (hw k hk), pk_un (by omega), pk_un (by omega), hX3 k (by omega) (by omega), pk_un (by omega), pk_un (by omega), pk_un (by omega)]
  · have hr : (upd w 9 S) 33 = -1 ∨ ¬ (upd w 9 S) 34 = t := by
      rcases hE with ⟨_, q⟩ | ⟨_, q1, _, _⟩
      · exact Or.inl q
      · exact Or.inr (fun q => ca (by rw [q1]; exact q.symm))
    rw [turns_reset (np := np) (th := th) (ed := ed) (hh := hh) (pf := pf) hr]
    have hq : F_X3_addEdge (v 28) (v 29) (v 30) (v 31) (v 35) (v 33) (v 34) (a 2) t (v 0) = (v 28 + t, v 31 + 1, 0, v 0, t, a 2) := by
      simp only [F_X3_addEdge]
      rw [if_neg ca]
    rw [hq]
    dsimp only
    have hR1 : RS (upd (upd (upd (upd (upd (upd v 9 S) 28 (v 28 + t)) 31 (v 31 + 1)) 35 0) 33 (v 0)) 34 t) (upd (upd (upd (upd (upd (upd w 9 S) 31 (upd w 9 S 31 + 1)) 28 (upd w 9 S 28 + t)) 35 0) 33 (upd w 9 S 0)) 34 t) := RS.mk25 (by simp [upd, h0, h1, h2, h3, h4, h5, h6, h7, h8, h9, h11, h12, h28, h29, h30, h31, h32, h35, h42, h43, h44, h45, h46, h47, h48])
    refine ⟨rfl, judge_rel (v := upd (upd (upd (upd (upd (upd v 9 S) 28 (v 28 + t)) 31 (v 31 + 1)) 35 0) 33 (v 0)) 34 t) (w := upd (upd (upd (upd (upd (upd w 9 S) 31 (upd w 9 S 31 + 1)) 28 (upd w 9 S 28 + t)) 35 0) 33 (upd w 9 S 0)) 34 t) (t := t) (d := S) hR1 h42a h42b, ?_, ?_, ?_⟩
    · exact hI.kept (fun j q1 q2 => by rw [JG_keep (hi j ⟨q1, q2⟩), pk_un (by omega), pk_un (by omega), pk_un (by omega), pk_un (by omega), pk_un (by omega), pk_un (by omega)])
    · refine Or.inr ⟨ht, ?_, ?_, ?_⟩
      · rw [JG_keep (by simp [isW])]; rfl
      · rw [JG_keep (by simp [isW])]
        show v 0 = w 0
        exact h0
      · rw [JG_keep (by simp [isW])]
        show ¬ w 0 = -1
        rw [← h0]; exact h0n
    · intro k hk
      rw [JG_keep (hw k hk), pk_un (by omega), pk_un (by omega), pk_un (by omega), pk_un (by omega), pk_un (by omega), pk_un (by omega)]
theorem follow_rel {np th : Int32} {hh : Int64} {v w pf : Nat → Int32} {a : Nat → Nat → Int32} (hR : RS v w) (hI : RI (a 2) w) (hE : RE v w) (hz : vp_in (v 35) 7) (h42a : 0 ≤ (v 42).toInt) (h42b : (v 42).toInt < 3) (h0n : ¬ v 0 = -1) (h9r : -1 ≤ (v 9).toInt ∧ (v 9).toInt < 6) :
    (F_X7_followAcceptedCode v a).1 = (F_X9_accepts np th 0 hh w pf).1 ∧ RS (F_X7_followAcceptedCode v a).2.1 (F_X9_accepts np th 0 hh w pf).2 ∧ RI ((F_X7_followAcceptedCode v a).2.2 2) (F_X9_accepts np th 0 hh w pf).2 ∧ RE (F_X7_followAcceptedCode v a).2.1 (F_X9_accepts np th 0 hh w pf).2 ∧ (∀ j, j ≠ 2 → (F_X7_followAcceptedCode v a).2.2 j = a j) ∧ ∀ k, (k = 10 ∨ (13 ≤ k ∧ k < 28) ∨ 49 ≤ k) → (F_X9_accepts np th 0 hh w pf).2 k = w k := by
  have hR0 := hR
  obtain ⟨h0, h1, h2, h3, h4, h5, h6, h7, h8, h9, h11, h12, h28, h29, h30, h31, h32, h35, h42, h43, h44, h45, h46, h47, h48⟩ := hR.all
  have hs := sec_rng (v 8)
  simp only [F_X7_followAcceptedCode, F_X9_accepts]
  rw [← h8, sec_eq, ← h9]
  generalize F_X9_sectorOf (v 8) = S at hs ⊢
  by_cases c1 : S = -1
  · rw [if_pos c1, if_pos c1]
    refine ⟨rfl, RS.mk25 (by simp [upd, F_X3_addIllegalCode, F_X3_forgetEdge, F_X9_forgetsEdges, h0, h1, h2, h3, h4, h5, h6, h7, h8, h9, h11, h12, h28, h29, h30, h31, h32, h35, h42, h43, h44, h45, h46, h47, h48]), ?_, Or.inl ⟨rfl, rfl⟩, fun j _ => rfl, fun k hk => ?_⟩
    · exact hI.kept (fun j q1 q2 => by simp only [F_X9_forgetsEdges]; rw [pk_un (by omega), pk_un (by omega), pk_un (by omega), pk_un (by omega)])
    · simp only [F_X9_forgetsEdges]; rw [pk_un (by omega), pk_un (by omega), pk_un (by omega), pk_un (by omega)]
  · rw [if_neg c1, if_neg c1]
    by_cases c2 : v 9 = -1
    · rw [if_pos c2, if_pos c2]
      exact ⟨rfl, hR0.up 9 S, hI.kept (fun j q1 q2 => pk_un (by omega)), hE, fun j _ => rfl, fun k hk => pk_un (by omega)⟩
    · rw [if_neg c2, if_neg c2]
      obtain ⟨i, hi, ei⟩ := sec_nat hs c1
      obtain ⟨j, hj, ej⟩ := sec_nat h9r c2
      have ht := rem_tab i hi j hj
      rw [← ei, ← ej] at ht
      by_cases c3 : v 9 = S
      · have hij : i = j := (nI_eq (by omega) (by omega)).mp (by rw [← ei, ← ej, c3])
        rw [if_pos c3, if_neg (ht.2 hij).1, if_neg (ht.2 hij).2, if_pos (ht.1.mpr hij)]
        exact ⟨rfl, hR0.up 9 S, hI.kept (fun j q1 q2 => pk_un (by omega)), hE, fun j _ => rfl, fun k hk => pk_un (by omega)⟩
      · have hij : ¬ i = j := fun q => c3 (by rw [ei, ej, q])
        rw [if_neg c3]
        by_cases c4 : S - v 9 + 6 - (S - v 9 + 6) / 6 * 6 = 1
        · rw [if_pos c4, if_pos c4]
          obtain ⟨r1, r2, r3, r4, r5⟩ := edge_rel (np := np) (th := th) (ed := 0) (hh := hh) (pf := pf) (S := S) (Or.inl rfl) hR0 hI hE hz h42a h42b h0n
          exact ⟨r1.symm, r2, r3, r4, fun j hj => va_up_ne _ _ hj, r5⟩
        · rw [if_neg c4, if_neg c4]
          by_cases c5 : S - v 9 + 6 - (S - v 9 + 6) / 6 * 6 = 5
          · rw [if_pos c5, if_pos c5]
            obtain ⟨r1, r2, r3, r4, r5⟩ := edge_rel (np := np) (th := th) (ed := 0) (hh := hh) (pf := pf) (S := S) (Or.inr rfl) hR0 hI hE hz h42a h42b h0n
            exact ⟨r1.symm, r2, r3, r4, fun j hj => va_up_ne _ _ hj, r5⟩
          · rw [if_neg c5, if_neg c5, if_neg (fun q => hij (ht.1.mp q))]
            refine ⟨rfl, RS.mk25 (by simp [upd, F_X3_addSkip, F_X3_forgetEdge, F_X9_forgetsEdges, h0, h1, h2, h3, h4, h5, h6, h7, h8, h9, h11, h12, h28, h29, h30, h31, h32, h35, h42, h43, h44, h45, h46, h47, h48]), ?_, Or.inl ⟨rfl, rfl⟩, fun j _ => rfl, fun k hk => ?_⟩
            · exact hI.kept (fun j q1 q2 => by simp only [F_X9_forgetsEdges]; rw [pk_un (by omega), pk_un (by omega), pk_un (by omega), pk_un (by omega)])
            · simp only [F_X9_forgetsEdges]; rw [pk_un (by omega), pk_un (by omega), pk_un (by omega), pk_un (by omega)]
