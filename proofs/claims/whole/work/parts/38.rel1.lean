/-! the relation between the class's state (v, a) and the model's row w; the queue -/
def rsL : List Nat := [0, 1, 2, 3, 4, 5, 6, 7, 8, 9, 11, 12, 28, 29, 30, 31, 32, 35, 42, 43, 44, 45, 46, 47, 48]
def RS (v w : Nat → Int32) : Prop := ∀ k, k ∈ rsL → v k = w k
def RQ (tk cd w : Nat → Int32) : Prop := ∀ k, k < 40 → tk k = w (49 + 2 * k) ∧ cd k = w (50 + 2 * k)
def RI (iv w : Nat → Int32) : Prop := ∀ k, k < 6 → iv k = w (36 + k)
def RL3 (a : Nat → Nat → Int32) (w : Nat → Int32) : Prop := ∀ k, k < 3 → a 3 k = w (13 + k) ∧ a 4 k = w (22 + k) ∧ a 5 k = w (25 + k) ∧ a 6 k = w (16 + k) ∧ a 7 k = w (19 + k)
def RC (v w : Nat → Int32) : Prop := 0 < v 11 → v 10 = w 10
def RE (v w : Nat → Int32) : Prop := (v 34 = 0 ∧ w 33 = -1) ∨ ((v 34 = 1 ∨ v 34 = -1) ∧ v 34 = w 34 ∧ v 33 = w 33 ∧ ¬ w 33 = -1)
def Rel (v : Nat → Int32) (a : Nat → Nat → Int32) (w : Nat → Int32) : Prop := RS v w ∧ RQ (a 0) (a 1) w ∧ RI (a 2) w ∧ RL3 a w ∧ RC v w ∧ RE v w
theorem td1_ge : ∀ (n : Nat) (z : Int32) (tk cd : Nat → Int32) (t b : Int32) (i : Nat), i ≤ LP_X4_takeDue1 n z tk cd t b i := by
  intro n
  induction n with
  | zero => intro z tk cd t b i; exact Nat.le_refl _
  | succ n ih =>
    intro z tk cd t b i
    simp only [LP_X4_takeDue1]
    split
    · exact Nat.le_refl _
    · split
      · exact Nat.le_refl _
      · exact Nat.le_trans (Nat.le_succ i) (ih z tk cd t b (i + 1))
theorem td1_le : ∀ (n : Nat) (z : Int32) (tk cd : Nat → Int32) (t b : Int32) (i m : Nat), vp_in z m → i ≤ tn z → LP_X4_takeDue1 n z tk cd t b i ≤ tn z := by
  intro n
  induction n with
  | zero => intro z tk cd t b i m hz hi; exact hi
  | succ n ih =>
    intro z tk cd t b i m hz hi
    simp only [LP_X4_takeDue1]
    split
    · exact hi
    · rename_i c
      split
      · exact hi
      · exact ih z tk cd t b (i + 1) m hz (nz_lt hz hi c)
/-- where it stops, the next code isn't due; all that it passed were -/
theorem td1_stop : ∀ (n : Nat) (z : Int32) (tk cd : Nat → Int32) (t b : Int32) (i m : Nat), vp_in z m → i ≤ tn z → tn z < i + n → LP_X4_takeDue1 n z tk cd t b i < tn z → t < tk (LP_X4_takeDue1 n z tk cd t b i) := by
  intro n
  induction n with
  | zero => intro z tk cd t b i m hz hi hm h; omega
  | succ n ih =>
    intro z tk cd t b i m hz hi hm
    simp only [LP_X4_takeDue1]
    split
    · rename_i c
      intro h
      have h1 := tn_eq hz
      have h2 := tn_lt hz
      exact absurd (by rw [h1] at c; exact c) (by
        intro q
        have : ¬ nI (tn z) ≤ nI i := nI_ge h (by
          obtain ⟨j, hj, e⟩ := nI_of (fun q => hz (Or.inl q))
          rw [e, tn, nI_clamp hj]; exact hj)
        exact this q)
    · rename_i c
      split
      · rename_i c2; intro _; exact c2
      · exact ih z tk cd t b (i + 1) m hz (nz_lt hz hi c) (by omega)
theorem due1_rel : ∀ (n : Nat) (np th ed : Int32) (hh : Int64) (w pf : Nat → Int32) (z : Int32) (tk cd : Nat → Int32) (t b : Int32) (i : Nat), RQ tk cd w → w 0 = t → (∀ k, k < tn z → ¬ tk k < t) → vp_in z 41 → i ≤ tn z →
    (LP_X9_due1 n np th ed hh w pf z i).1 = LP_X4_takeDue1 n z tk cd t b i ∧ (LP_X4_takeDue1 n z tk cd t b i = i → (LP_X9_due1 n np th ed hh w pf z i).2 7 = w 7) ∧ (¬ LP_X4_takeDue1 n z tk cd t b i = i → (LP_X9_due1 n np th ed hh w pf z i).2 7 = cd (LP_X4_takeDue1 n z tk cd t b i - 1)) := by
  intro n
  induction n with
  | zero => intro np th ed hh w pf z tk cd t b i _ _ _ _ _; simp [LP_X9_due1, LP_X4_takeDue1]
  | succ n ih =>
    intro np th ed hh w pf z tk cd t b i hq h0 hge hz hi
    simp only [LP_X9_due1, LP_X4_takeDue1]
    by_cases c : z ≤ nI i
    · simp [c]
    · rw [if_neg c, if_neg c]
      have hlt := nz_lt hz hi c
      have hl := tn_lt hz
      have e1 := (hq i (by omega)).1
      have e2 := (hq i (by omega)).2
      by_cases c2 : t < tk i
      · have hne : ¬ w (49 + 2 * i) = w 0 := fun q => by
          rw [← e1, h0] at q
          rw [q] at c2
          exact Int32.lt_irrefl c2
        rw [if_neg hne, if_pos c2]
        simp
      · have heq : w (49 + 2 * i) = w 0 := by
          rw [← e1, h0]
          exact Int32.le_antisymm (Int32.not_lt.mp c2) (Int32.not_lt.mp (hge i hlt))
        rw [if_pos heq, if_neg c2]
        have hq' : RQ tk cd (upd w 7 (w ((49 + 2 * i) + 1))) := fun k hk => by
          rw [pk_un (by omega), pk_un (by omega)]
          exact hq k hk
        obtain ⟨r1, r2, r3⟩ := ih np th ed hh (upd w 7 (w ((49 + 2 * i) + 1))) pf z tk cd t b (i + 1) hq' (by rw [pk_un (by decide)]; exact h0) hge hz hlt
        have hg := td1_ge n z tk cd t b (i + 1)
        refine ⟨r1, fun e => ?_, fun _ => ?_⟩
        · omega
        · by_cases e : LP_X4_takeDue1 n z tk cd t b (i + 1) = i + 1
          · rw [r2 e, pk_us, e, show i + 1 - 1 = i by omega, e2, show 49 + 2 * i + 1 = 50 + 2 * i by omega]
          · exact r3 e
theorem td2_form : ∀ (n : Nat) (z : Int32) (tk cd : Nat → Int32) (t b o : Int32) (d i m : Nat), vp_in z m → 0 < d → d ≤ i → i ≤ tn z → tn z < i + n → ∀ k, ((LP_X4_takeDue2 n z tk cd t b o d i).2.1 k = if i - d ≤ k ∧ k < tn z - d then tk (k + d) else tk k) ∧ ((LP_X4_takeDue2 n z tk cd t b o d i).2.2 k = if i - d ≤ k ∧ k < tn z - d then cd (k + d) else cd k) := by
  intro n
  induction n with
  | zero => intro z tk cd t b o d i m hz h0 hd hi hm; omega
  | succ n ih =>
    intro z tk cd t b o d i m hz h0 hd hi hm k
    simp only [LP_X4_takeDue2]
    by_cases c : z ≤ nI i
    · rw [if_pos c]
      have hge : ¬ i < tn z := fun q => by
        have h1 := tn_eq hz
        have : ¬ nI (tn z) ≤ nI i := nI_ge q (by
          obtain ⟨j, hj, e⟩ := nI_of (fun q => hz (Or.inl q))
          rw [e, tn, nI_clamp hj]; exact hj)
        exact this (by rw [← h1]; exact c)
      rw [if_neg (by omega), if_neg (by omega)]
      exact ⟨rfl, rfl⟩
    · rw [if_neg c]
      have hlt := nz_lt hz hi c
      obtain ⟨r1, r2⟩ := ih z (upd tk (i - d) (tk i)) (upd cd (i - d) (cd i)) t b o d (i + 1) m hz h0 (by omega) hlt (by omega) k
      rw [r1, r2]
      by_cases e : k = i - d
      · subst e
        have n1 : ¬ (i + 1 - d ≤ i - d ∧ i - d < tn z - d) := by omega
        have p1 : i - d ≤ i - d ∧ i - d < tn z - d := by omega
        rw [if_neg n1, if_neg n1, if_pos p1, if_pos p1, pk_us, pk_us, show i - d + d = i by omega]
        exact ⟨rfl, rfl⟩
      · by_cases e2 : i + 1 - d ≤ k ∧ k < tn z - d
        · have p1 : i - d ≤ k ∧ k < tn z - d := by omega
          rw [if_pos e2, if_pos e2, if_pos p1, if_pos p1, pk_un (show k + d ≠ i - d by omega), pk_un (show k + d ≠ i - d by omega)]
          exact ⟨rfl, rfl⟩
        · have n1 : ¬ (i - d ≤ k ∧ k < tn z - d) := by omega
          rw [if_neg e2, if_neg e2, if_neg n1, if_neg n1, pk_un e, pk_un e]
          exact ⟨rfl, rfl⟩
theorem due2_form : ∀ (n : Nat) (np th ed : Int32) (hh : Int64) (w pf : Nat → Int32) (zz : Int32) (d i : Nat), vp_in zz 41 → 0 < d → 2 * d ≤ i → i ≤ 2 * tn zz → 2 * tn zz < i + n → ∀ j, (LP_X9_due2 n np th ed hh w pf zz d i).2 j = if 49 + i - 2 * d ≤ j ∧ j < 49 + 2 * tn zz - 2 * d then w (j + 2 * d) else w j := by
  intro n
  induction n with
  | zero => intro np th ed hh w pf zz d i hz h0 hd hi hm; omega
  | succ n ih =>
    intro np th ed hh w pf zz d i hz h0 hd hi hm j
    have hl := tn_lt hz
    simp only [LP_X9_due2]
    by_cases c : nI (2 * tn zz) ≤ nI i
    · rw [if_pos c]
      have hge : ¬ i < 2 * tn zz := fun q => nI_ge q (by omega) c
      rw [if_neg (by omega)]
    · rw [if_neg c]
      have hlt := nI_nle_lt (by omega) c
      rw [ih np th ed hh _ pf zz d (i + 1) hz h0 (by omega) (by omega) (by omega) j]
      by_cases e : j = 49 + i - 2 * d
      · subst e
        rw [if_neg (by omega), if_pos (by omega), pk_us, show 49 + i - 2 * d + 2 * d = 49 + i by omega]
      · by_cases e2 : 49 + (i + 1) - 2 * d ≤ j ∧ j < 49 + 2 * tn zz - 2 * d
        · rw [if_pos e2, if_pos (by omega), pk_un (by omega)]
        · rw [if_neg e2, if_neg (by omega), pk_un e]
/-- the codes that are due: class and model alike -/
theorem due_rel {np th ed : Int32} {hh : Int64} {w pf : Nat → Int32} {z t b : Int32} {tk cd : Nat → Int32} (hq : RQ tk cd w) (h48 : w 48 = z) (h0 : w 0 = t) (h7 : w 7 = b) (hz : vp_in z 41) (hge : ∀ k, k < tn z → ¬ tk k < t) :
    F_X9_due np th ed hh w pf 7 = (F_X4_takeDue z tk cd t b).1 ∧ F_X9_due np th ed hh w pf 48 = (F_X4_takeDue z tk cd t b).2.1 ∧ RQ (F_X4_takeDue z tk cd t b).2.2.1 (F_X4_takeDue z tk cd t b).2.2.2 (F_X9_due np th ed hh w pf) := by
  have hl := tn_lt hz
  obtain ⟨r1, r2, r3⟩ := due1_rel 41 np th ed hh w pf z tk cd t b 0 hq h0 hge hz (Nat.zero_le _)
  have hk := due1_keep 41 np th ed hh w pf z 0
  have hle := td1_le 41 z tk cd t b 0 41 hz (Nat.zero_le _)
  simp only [F_X9_due, F_X4_takeDue, h48]
  generalize LP_X4_takeDue1 41 z tk cd t b 0 = L at r1 r2 r3 hle ⊢
  generalize LP_X9_due1 41 np th ed hh w pf z 0 = Y at r1 r2 r3 hk ⊢
  obtain ⟨y1, y2⟩ := Y
  dsimp only at r1 r2 r3 hk ⊢
  subst r1
  rcases Nat.eq_zero_or_pos y1 with e | e
  · subst e
    rw [if_pos (by decide), if_pos (by decide)]
    refine ⟨by rw [r2 rfl, h7], by rw [hk 48 (by decide), h48], fun k hk9 => ?_⟩
    rw [hk _ (by omega), hk _ (by omega)]
    exact hq k hk9
  · have c1 : ¬ nI y1 ≤ 0 := fun q => by
      have := nI_nle e (by omega)
      exact this q
    have c2 : ¬ nI y1 = 0 := nI_ne0 e (by omega)
    rw [if_neg c1, if_neg c2]
    have r2 := r3 (by omega)
    have f2 := due2_form 82 np th ed hh y2 pf z y1 (2 * y1) hz e (Nat.le_refl _) (by omega) (by omega)
    have f1 := td2_form 41 z tk cd t b (cd (y1 - 1)) y1 y1 41 hz e (Nat.le_refl _) hle (by omega)
    refine ⟨?_, ?_, fun k hk9 => ?_⟩
    · rw [pk_un (by decide), f2 7, if_neg (by omega), r2]
    · rw [pk_us, f2 48, if_neg (by omega), hk 48 (by decide), h48]
    · rw [pk_un (by omega), pk_un (by omega), f2, f2, (f1 k).1, (f1 k).2]
      by_cases e2 : y1 - y1 ≤ k ∧ k < tn z - y1
      · rw [if_pos e2, if_pos e2, if_pos (by omega), if_pos (by omega), hk _ (by omega), hk _ (by omega)]
        have := hq (k + y1) (by omega)
        rw [show 49 + 2 * k + 2 * y1 = 49 + 2 * (k + y1) by omega, show 50 + 2 * k + 2 * y1 = 50 + 2 * (k + y1) by omega]
        exact this
      · rw [if_neg e2, if_neg e2, if_neg (by omega), if_neg (by omega), hk _ (by omega), hk _ (by omega)]
        exact hq k hk9
