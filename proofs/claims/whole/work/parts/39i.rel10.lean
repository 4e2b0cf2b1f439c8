/-! sizes over ticks, without any bound of time; ticks in a row -/
theorem due_vp {z t b : Int32} {tk cd : Nat → Int32} (hz : vp_in z 41) : vp_in (F_X4_takeDue z tk cd t b).2.1 41 := by
  have hl := tn_lt hz
  have hle := td1_le 41 z tk cd t b 0 41 hz (Nat.zero_le _)
  simp only [F_X4_takeDue]
  generalize LP_X4_takeDue1 41 z tk cd t b 0 = L at hle ⊢
  split
  · exact hz
  · dsimp only
    rw [show z - nI L = nI (tn z - L) from (congrArg (fun x => x - nI L) (tn_eq hz)).trans (pk_sub hle)]
    exact vp_in_nI (by omega) (by decide)
theorem app_vp {f0 f1 f2 f3 z f6 f7 x : Int32} {iv : Nat → Int32} (hz : vp_in z 7) : vp_in (F_X3_appendInterval f0 f1 f2 f3 z f6 f7 iv x).1 7 := by
  simp only [F_X3_appendInterval]
  split
  · rename_i c6
    have l6 := tn_lt_lt 6 hz (by decide) c6
    dsimp only
    rw [tn_eq hz, nI_1]
    exact vp_in_nI (by omega) (by decide)
  · exact vp_in_nI (n := 6) (by decide) (by decide)
theorem add_vp {f0 f1 f2 f3 z f6 f7 t b : Int32} {iv : Nat → Int32} (hz : vp_in z 7) : vp_in (F_X3_addEdge f0 f1 f2 f3 z f6 f7 iv t b).2.2.1 7 := by
  simp only [F_X3_addEdge]
  split
  · exact app_vp hz
  · exact vp_in_nI (n := 0) (by decide) (by decide)
theorem follow_vp {v : Nat → Int32} {a : Nat → Nat → Int32} (hz : vp_in (v 35) 7) : vp_in ((F_X7_followAcceptedCode v a).2.1 35) 7 ∧ (F_X7_followAcceptedCode v a).2.1 48 = v 48 := by
  have z7 : vp_in 0 7 := vp_in_nI (n := 0) (by decide) (by decide)
  simp only [F_X7_followAcceptedCode]
  split
  · exact ⟨z7, rfl⟩
  · split
    · exact ⟨hz, rfl⟩
    · split
      · exact ⟨hz, rfl⟩
      · split
        · exact ⟨add_vp hz, rfl⟩
        · split
          · exact ⟨add_vp hz, rfl⟩
          · exact ⟨z7, rfl⟩
theorem rest_vp {v : Nat → Int32} {a : Nat → Nat → Int32} {ed : Int32} : (P3 (F_X7_watchTimes v a ed)).1 48 = v 48 ∧ (P3 (F_X7_watchTimes v a ed)).1 35 = v 35 :=
  ⟨watch_keepV (fun q => by simp only [isW] at q; omega), watch_keepV (fun q => by simp only [isW] at q; omega)⟩
theorem pass_vp {v : Nat → Int32} {a : Nat → Nat → Int32} (h : vp_in (v 48) 41 ∧ vp_in (v 35) 7) : vp_in ((F_X7_passTick v a).1 48) 41 ∧ vp_in ((F_X7_passTick v a).1 35) 7 := by
  have h48 : vp_in ((P1 v a).1 48) 41 := due_vp h.1
  have h35 : vp_in ((P1 v a).1 35) 7 := h.2
  rw [pass_eq]
  split
  · rw [rest_vp.1, rest_vp.2]; exact ⟨h48, h35⟩
  · have hf := follow_vp (a := (P1 v a).2) h35
    split
    · rw [rest_vp.1, rest_vp.2, hf.2]; exact ⟨h48, hf.1⟩
    · rw [rest_vp.1, rest_vp.2, hf.2]; exact ⟨h48, hf.1⟩
theorem pit_vp : ∀ (j : Nat) (x : (Nat → Int32) × (Nat → Nat → Int32)), vp_in (x.1 48) 41 ∧ vp_in (x.1 35) 7 → vp_in ((pit j x).1 48) 41 ∧ vp_in ((pit j x).1 35) 7 := by
  intro j
  induction j with
  | zero => intro x h; exact h
  | succ j ih => intro x h; rw [pit_s]; exact ih _ (pass_vp h)
theorem sws_keep {np th ed : Int32} {hh : Int64} {w pf : Nat → Int32} {k : Nat} (hk : k < 13 ∨ 28 ≤ k) : F_X9_switches np th ed hh w pf k = w k := by
  simp only [F_X9_switches]
  rw [sw_unf (by decide), sw_unf (by decide), sw_unf (by decide)]
  simp only [LP_X9_switches]
  rw [if_pos (by decide)]
  dsimp only
  rw [sw_keep (by decide) hk, sw_keep (by decide) hk, sw_keep (by decide) hk]
theorem filt_keep {np th ed : Int32} {hh : Int64} {w pf : Nat → Int32} : (F_X9_filters np th ed hh w pf).2 35 = w 35 ∧ (F_X9_filters np th ed hh w pf).2 48 = w 48 := by
  simp only [F_X9_filters]
  (repeat' split) <;> exact ⟨rfl, rfl⟩
theorem mdue_vp {np th ed : Int32} {hh : Int64} {w pf : Nat → Int32} (hz : vp_in (w 48) 41) : vp_in (F_X9_due np th ed hh w pf 48) 41 := by
  have hl := tn_lt hz
  have hle := due1_le 41 np th ed hh w pf (w 48) 0 41 hz (Nat.zero_le _)
  have hk := due1_keep 41 np th ed hh w pf (w 48) 0
  simp only [F_X9_due]
  generalize LP_X9_due1 41 np th ed hh w pf (w 48) 0 = Y at hle hk ⊢
  split
  · rw [hk 48 (by decide)]; exact hz
  · rw [pk_us, due2_keep _ _ _ _ _ _ _ _ _ _ _ (by decide) (Nat.le_refl _), hk 48 (by decide)]
    rw [show w 48 - nI Y.1 = nI (tn (w 48) - Y.1) from (congrArg (fun x => x - nI Y.1) (tn_eq hz)).trans (pk_sub hle)]
    exact vp_in_nI (by omega) (by decide)
theorem turns_vp {np th ed : Int32} {hh : Int64} {w pf : Nat → Int32} {t : Int32} (hz : vp_in (w 35) 7) : vp_in ((F_X9_turns np th ed hh w pf t).2 35) 7 ∧ (F_X9_turns np th ed hh w pf t).2 48 = w 48 := by
  have n35 : ¬ isW 35 := fun q => by simp only [isW] at q; omega
  have n48 : ¬ isW 48 := fun q => by simp only [isW] at q; omega
  by_cases c : w 33 = -1 ∨ ¬ w 34 = t
  · rw [turns_reset c]
    dsimp only
    rw [JG_keep n35, JG_keep n48]
    exact ⟨vp_in_nI (n := 0) (by decide) (by decide), rfl⟩
  · have c1 : ¬ w 33 = -1 := fun q => c (Or.inl q)
    have c2 : w 34 = t := Classical.byContradiction (fun q => c (Or.inr q))
    have hX := app_rel (np := np) (th := th) (ed := 1) (hh := hh) (pf := pf) (w := upd (upd w 31 (w 31 + 1)) 28 (w 28 + t)) (iv := fun k => w (36 + k)) (z := w 35) (x := w 0 - w 33) (f0 := 0) (f1 := 0) (f2 := 0) (f3 := 0) (f6 := 0) (f7 := 0) (fun k hk => by rw [pk_un (by omega), pk_un (by omega)]) rfl hz
    rw [turns_app c1 c2 rfl]
    dsimp only
    rw [JG_keep n35, JG_keep n48, pk_un (by decide), pk_un (by decide), pk_un (by decide), pk_un (by decide), hX.1, hX.2.2 48 (by decide) (by decide)]
    exact ⟨app_vp hz, rfl⟩
theorem acc_vp {np th ed : Int32} {hh : Int64} {w pf : Nat → Int32} (hz : vp_in (w 35) 7) : vp_in ((F_X9_accepts np th ed hh w pf).2 35) 7 ∧ (F_X9_accepts np th ed hh w pf).2 48 = w 48 := by
  have z7 : vp_in 0 7 := vp_in_nI (n := 0) (by decide) (by decide)
  simp only [F_X9_accepts]
  split
  · exact ⟨z7, rfl⟩
  · split
    · exact ⟨hz, rfl⟩
    · split
      · exact turns_vp (np := np) (th := th) (ed := ed) (hh := hh) (pf := pf) (t := 1) (w := upd w 9 (F_X9_sectorOf (w 8))) hz
      · split
        · exact turns_vp (np := np) (th := th) (ed := ed) (hh := hh) (pf := pf) (t := -1) (w := upd w 9 (F_X9_sectorOf (w 8))) hz
        · split
          · exact ⟨hz, rfl⟩
          · exact ⟨z7, rfl⟩
theorem mtick_vp {np th ed : Int32} {hh : Int64} {w pf : Nat → Int32} (h : vp_in (w 48) 41 ∧ vp_in (w 35) 7) : vp_in ((F_X9_tick np th ed hh w pf).2 48) 41 ∧ vp_in ((F_X9_tick np th ed hh w pf).2 35) 7 := by
  have n35 : ¬ isW 35 := fun q => by simp only [isW] at q; omega
  have n48 : ¬ isW 48 := fun q => by simp only [isW] at q; omega
  have hT : ∀ (ed : Int32) (x : Nat → Int32), T3 np th hh pf ed (F_X9_watches np th ed hh x pf) 48 = x 48 ∧ T3 np th hh pf ed (F_X9_watches np th ed hh x pf) 35 = x 35 := fun ed x => by
    simp only [T3]
    rw [sws_keep (by omega), sws_keep (by omega), pk_un (by decide), pk_un (by decide), watch_keepW n48, watch_keepW n35]
    exact ⟨rfl, rfl⟩
  have h48 : vp_in ((F_X9_filters np th 0 hh (F_X9_due np th 0 hh (upd w 0 (w 0 + 1)) pf) pf).2 48) 41 := by
    rw [filt_keep.2]
    exact mdue_vp (w := upd w 0 (w 0 + 1)) h.1
  have h35 : vp_in ((F_X9_filters np th 0 hh (F_X9_due np th 0 hh (upd w 0 (w 0 + 1)) pf) pf).2 35) 7 := by
    rw [filt_keep.1, due_keep (by decide) (by decide), pk_un (by decide)]
    exact h.2
  rw [tick_eq]
  split
  · dsimp only
    rw [(hT _ _).1, (hT _ _).2]; exact ⟨h48, h35⟩
  · have hf := acc_vp (np := np) (th := th) (ed := 0) (hh := hh) (pf := pf) h35
    dsimp only
    rw [(hT _ _).1, (hT _ _).2, hf.2]; exact ⟨h48, hf.1⟩
theorem tit_vp {np th : Int32} {hh : Int64} {pf : Nat → Int32} : ∀ (j : Nat) (x : Int32 × (Nat → Int32)), vp_in (x.2 48) 41 ∧ vp_in (x.2 35) 7 → vp_in ((tit np th hh pf j x).2 48) 41 ∧ vp_in ((tit np th hh pf j x).2 35) 7 := by
  intro j
  induction j with
  | zero => intro x h; exact h
  | succ j ih => intro x h; rw [tit_s]; exact ih _ (mtick_vp h)
/-- as many ticks as `run` asks for, on both sides -/
theorem run_rel {np th : Int32} {hh : Int64} {pf : Nat → Int32} {t : Int32} {m : Nat} (ht : vp_in t m) : ∀ (n : Nat) (ed : Int32) (v w : Nat → Int32) (a : Nat → Nat → Int32) (B C : Int) (i : Nat), Rel v a w → Inv v a B C → i ≤ tn t → tn t < i + n → B + (tn t - i : Nat) < 1000000000 →
    Rel (LP_X8_run n v a t i).2.1 (LP_X8_run n v a t i).2.2 (LP_X9_run n np th ed hh w pf t i).2.2 ∧ Inv (LP_X8_run n v a t i).2.1 (LP_X8_run n v a t i).2.2 (B + (tn t - i : Nat)) C := by
  intro n
  induction n with
  | zero => intro ed v w a B C i _ _ _ h; omega
  | succ n ih =>
    intro ed v w a B C i hl hi h1 h2 h3
    simp only [LP_X8_run, LP_X9_run]
    by_cases c : t ≤ nI i
    · rw [if_pos c, if_pos c]
      obtain ⟨i0, iq, im, is, ig⟩ := hi
      exact ⟨hl, ⟨i0.1, by dsimp only; omega⟩, iq, im.mono (Int.le_refl _) (by omega), is, ig⟩
    · rw [if_neg c, if_neg c]
      have hlt := nz_lt ht h1 c
      have hs := tick_rel (np := np) (th := th) (ed := ed) (hh := hh) (pf := pf) hl hi (by omega)
      have hr := ih (F_X9_tick np th ed hh w pf).1 _ _ _ _ _ (i + 1) hs.1 hs.2 (by omega) (by omega) (by omega)
      rw [show B + ((tn t - i : Nat) : Int) = B + 1 + ((tn t - (i + 1) : Nat) : Int) by omega]
      exact hr
