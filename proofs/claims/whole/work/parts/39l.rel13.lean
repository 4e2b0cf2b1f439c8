/-! one call, class and model alike -/
def LI (n : Nat) (v : Nat → Int32) (a : Nat → Nat → Int32) (c : Nat) (vs : Nat → Nat → Int32) (bs : Nat → Nat → Nat → Int32) (w pf : Nat → Int32) (np : Int32) : Prop :=
  Rel v a w ∧ Inv v a (5000 * n) (200000 + 50000 * n) ∧ RP np c pf vs bs (5000 * n) (200000 + 50000 * n)
def OK (n : Nat) (v : Nat → Int32) (a : Nat → Nat → Int32) (c : Nat) (vs : Nat → Nat → Int32) (bs : Nat → Nat → Nat → Int32) (X : Int32 × Int32 × (Nat → Int32) × (Nat → Nat → Int32)) (r np th : Int32) (w pf : Nat → Int32) : Prop :=
  th = X.1 ∧ (X.1 = 0 → r = X.2.1 ∧ LI (n + 1) X.2.2.1 X.2.2.2 (svC c) (svV c vs v) (svB c bs a) w pf np) ∧ (¬ X.1 = 0 → LI (n + 1) v a c vs bs w pf np)
section OneCall
variable {n : Nat} {v : Nat → Int32} {a : Nat → Nat → Int32} {c : Nat} {vs : Nat → Nat → Int32} {bs : Nat → Nat → Nat → Int32} {w pf : Nat → Int32} {np th ed : Int32} {hh : Int64}
theorem LI.up (h : LI n v a c vs bs w pf np) : LI (n + 1) v a c vs bs w pf np := ⟨h.1, h.2.1.mono (by omega) (by omega), h.2.2.mono (by omega) (by omega)⟩
theorem ok_fail {k : Int32} (h : LI n v a c vs bs w pf np) (hk : ¬ k = 0) : OK n v a c vs bs (k, 0, v, a) 0 np k w pf := ⟨rfl, fun q => absurd q hk, fun _ => h.up⟩
theorem ok_put {v' w' : Nat → Int32} {a' : Nat → Nat → Int32} {r : Int32} (h : LI n v a c vs bs w pf np) (h1 : Rel v' a' w') (h2 : Inv v' a' (5000 * (n + 1 : Nat)) (200000 + 50000 * (n + 1 : Nat))) : OK n v a c vs bs (0, r, v', a') r (F_X9_save np th ed hh w pf).1 (F_X9_save np th ed hh w pf).2.1 w' (F_X9_save np th ed hh w pf).2.2 := by
  have hs := save_rel (th := th) (ed := ed) (hh := hh) h.1 h.2.1 h.2.2
  exact ⟨hs.1, fun _ => ⟨rfl, h1, h2, hs.2.mono (by omega) (by omega)⟩, fun q => absurd rfl q⟩
theorem in_iff {t b d : Int32} : F_X9_in t b d = if t < b ∨ d < t then 0 else 1 := by
  simp only [F_X9_in]
  by_cases c1 : t < b
  · simp [c1]
  · by_cases c2 : d < t
    · simp [c1, c2]
    · simp [c1, c2]
theorem in_0 {t b d : Int32} (q : t < b ∨ d < t) : F_X9_in t b d = 0 := by rw [in_iff, if_pos q]
theorem in_1 {t b d : Int32} (q : ¬ (t < b ∨ d < t)) : ¬ F_X9_in t b d = 0 := by rw [in_iff, if_neg q]; decide
def isU (k : Nat) : Prop := k = 1 ∨ k = 2 ∨ k = 3 ∨ k = 4 ∨ k = 5 ∨ k = 6 ∨ k = 42 ∨ k = 43 ∨ k = 44 ∨ k = 45 ∨ k = 46 ∨ k = 47
theorem Rel.up (h : Rel v a w) {k : Nat} (x : Int32) (hk : isU k) : Rel (upd v k x) a (upd w k x) := by
  simp only [isU] at hk
  obtain ⟨hR, hQ, hI, hL, hC, hE⟩ := h
  refine ⟨hR.up k x, hQ.kept (fun j q1 q2 => pk_un (by omega)), hI.kept (fun j q1 q2 => pk_un (by omega)), hL.kept (fun j q1 q2 => pk_un (by omega)), ?_, ?_⟩
  · intro q
    rw [pk_un (by omega)] at q
    rw [pk_un (by omega), pk_un (by omega)]
    exact hC q
  · show (upd v k x 34 = 0 ∧ upd w k x 33 = -1) ∨ ((upd v k x 34 = 1 ∨ upd v k x 34 = -1) ∧ upd v k x 34 = upd w k x 34 ∧ upd v k x 33 = upd w k x 33 ∧ ¬ upd w k x 33 = -1)
    rw [pk_un (show 34 ≠ k by omega), pk_un (show 34 ≠ k by omega), pk_un (show 33 ≠ k by omega), pk_un (show 33 ≠ k by omega)]
    exact hE
theorem Inv.up1 {B C : Int} (h : Inv v a B C) {k : Nat} (x : Int32) (hk : isU k) (h6 : k ≠ 6) (h42 : k ≠ 42) (h43 : k ≠ 43) : Inv (upd v k x) a B C := by
  simp only [isU] at hk
  obtain ⟨i0, iq, im, is, ig⟩ := h
  refine ⟨by rw [pk_un (by omega)]; exact i0, by rw [pk_un (by omega), pk_un (by omega)]; exact iq, by rw [pk_un (by omega), pk_un (by omega), pk_un (by omega), pk_un (by omega)]; exact im, by rw [pk_un (by omega), pk_un (by omega)]; exact is, by rw [pk_un (by omega), pk_un (by omega), pk_un (by omega)]; exact ig⟩
theorem Inv.mode {B C : Int} (h : Inv v a B C) {x : Int32} (hx : vp_in x 5) : Inv (upd (upd (upd (upd v 6 x) 42 0) 43 0) 44 0) a B C := by
  obtain ⟨i0, iq, im, is, ig⟩ := h
  exact ⟨i0, iq, im, is, hx, (by decide : 0 ≤ (0 : Int32).toInt ∧ (0 : Int32).toInt < 3), (by decide : 0 ≤ (0 : Int32).toInt ∧ (0 : Int32).toInt < 20)⟩
theorem LI.inv (h : LI n v a c vs bs w pf np) : Inv v a (5000 * (n + 1 : Nat)) (200000 + 50000 * (n + 1 : Nat)) := h.2.1.mono (by omega) (by omega)
theorem LI.eq (h : LI n v a c vs bs w pf np) {k : Nat} (hk : k ∈ rsL) : v k = w k := h.1.1 k hk
theorem ok_setFilter (h : LI n v a c vs bs w pf np) (t : Int32) : OK n v a c vs bs (F_X8_setFilter v a t) (F_X9_setFilter np th ed hh w pf t).1 (F_X9_setFilter np th ed hh w pf t).2.1 (F_X9_setFilter np th ed hh w pf t).2.2.1 (F_X9_setFilter np th ed hh w pf t).2.2.2.1 (F_X9_setFilter np th ed hh w pf t).2.2.2.2 := by
  simp only [F_X8_setFilter, F_X9_setFilter, F_X9_becomes, F_X9_fails]
  by_cases q : t < 1 ∨ 50 < t
  · rw [if_pos q, if_pos (in_0 q)]
    exact ok_fail h (by decide)
  · rw [if_neg q, if_neg (in_1 q), h.eq (k := 1) (by decide)]
    exact ok_put h (h.1.up t (by simp [isU])) (h.inv.up1 t (by simp [isU]) (by decide) (by decide) (by decide))
theorem ok_setDeadTime (h : LI n v a c vs bs w pf np) (t : Int32) : OK n v a c vs bs (F_X8_setDeadTime v a t) (F_X9_setDeadTime np th ed hh w pf t).1 (F_X9_setDeadTime np th ed hh w pf t).2.1 (F_X9_setDeadTime np th ed hh w pf t).2.2.1 (F_X9_setDeadTime np th ed hh w pf t).2.2.2.1 (F_X9_setDeadTime np th ed hh w pf t).2.2.2.2 := by
  simp only [F_X8_setDeadTime, F_X9_setDeadTime, F_X9_becomes, F_X9_fails]
  by_cases q : t < 0 ∨ 20 < t
  · rw [if_pos q, if_pos (in_0 q)]
    exact ok_fail h (by decide)
  · rw [if_neg q, if_neg (in_1 q), h.eq (k := 4) (by decide)]
    exact ok_put h (h.1.up t (by simp [isU])) (h.inv.up1 t (by simp [isU]) (by decide) (by decide) (by decide))
theorem ok_setStall (h : LI n v a c vs bs w pf np) (t : Int32) : OK n v a c vs bs (F_X8_setStall v a t) (F_X9_setStall np th ed hh w pf t).1 (F_X9_setStall np th ed hh w pf t).2.1 (F_X9_setStall np th ed hh w pf t).2.2.1 (F_X9_setStall np th ed hh w pf t).2.2.2.1 (F_X9_setStall np th ed hh w pf t).2.2.2.2 := by
  simp only [F_X8_setStall, F_X9_setStall, F_X9_becomes, F_X9_fails]
  by_cases q : t < 10 ∨ 100000 < t
  · rw [if_pos q, if_pos (in_0 q)]
    exact ok_fail h (by decide)
  · rw [if_neg q, if_neg (in_1 q), h.eq (k := 5) (by decide)]
    exact ok_put h (h.1.up t (by simp [isU])) (h.inv.up1 t (by simp [isU]) (by decide) (by decide) (by decide))
theorem upd_comm {f : Nat → Int32} {i j : Nat} {x y : Int32} (hij : i ≠ j) : upd (upd f i x) j y = upd (upd f j y) i x := by
  funext k
  by_cases e1 : k = i
  · subst e1; rw [pk_un hij, pk_us, pk_us]
  · by_cases e2 : k = j
    · subst e2; rw [pk_us, pk_un e1, pk_us]
    · rw [pk_un e2, pk_un e1, pk_un e1, pk_un e2]
theorem ok_setPulse (h : LI n v a c vs bs w pf np) (t b : Int32) : OK n v a c vs bs (F_X8_setPulse v a t b) (F_X9_setPulse np th ed hh w pf t b).1 (F_X9_setPulse np th ed hh w pf t b).2.1 (F_X9_setPulse np th ed hh w pf t b).2.2.1 (F_X9_setPulse np th ed hh w pf t b).2.2.2.1 (F_X9_setPulse np th ed hh w pf t b).2.2.2.2 := by
  simp only [F_X8_setPulse, F_X9_setPulse, F_X9_becomes, F_X9_fails]
  by_cases q : t < 4 ∨ 100 < t
  · rw [if_pos q, if_pos (in_0 q)]
    exact ok_fail h (by decide)
  · rw [if_neg q, if_neg (in_1 q)]
    by_cases q2 : b < 0 ∨ 100 < b
    · rw [if_pos q2, if_pos (in_0 q2)]
      exact ok_fail h (by decide)
    · rw [if_neg q2, if_neg (in_1 q2), h.eq (k := 3) (by decide), upd_comm (f := v) (show 2 ≠ 3 by decide)]
      exact ok_put h ((h.1.up b (by simp [isU])).up t (by simp [isU])) ((h.inv.up1 b (by simp [isU]) (by decide) (by decide) (by decide)).up1 t (by simp [isU]) (by decide) (by decide) (by decide))
theorem upd_same {f : Nat → Int32} {i : Nat} : upd f i (f i) = f := by
  funext k
  by_cases e1 : k = i
  · subst e1; rw [pk_us]
  · rw [pk_un e1]
theorem ok_setMode (h : LI n v a c vs bs w pf np) (t : Int32) : OK n v a c vs bs (F_X8_setMode v a t) (F_X9_setMode np th ed hh w pf t).1 (F_X9_setMode np th ed hh w pf t).2.1 (F_X9_setMode np th ed hh w pf t).2.2.1 (F_X9_setMode np th ed hh w pf t).2.2.2.1 (F_X9_setMode np th ed hh w pf t).2.2.2.2 := by
  simp only [F_X8_setMode, F_X9_setMode, F_X9_fails, F_X1_enterMode]
  by_cases q : t < 0 ∨ 4 < t
  · rw [if_pos q, if_pos (in_0 q)]
    exact ok_fail h (by decide)
  · rw [if_neg q, if_neg (in_1 q), ← h.eq (k := 45) (by decide)]
    by_cases q2 : v 45 = 0
    · have e6 := h.eq (k := 6) (by decide)
      rw [if_pos q2, if_pos q2]
      by_cases q3 : t = v 6
      · have q3' : w 6 = t := by rw [q3, e6]
        rw [if_pos q3, if_pos (show (F_X9_becomes np th ed hh w pf 6 t).1 = t from q3')]
        simp only [F_X9_becomes]
        rw [q3, e6]
        refine ok_put h ?_ h.inv
        rw [upd_same]
        exact h.1
      · have q3' : ¬ w 6 = t := fun e => q3 (by rw [e6, e])
        rw [if_neg q3, if_neg (show ¬ (F_X9_becomes np th ed hh w pf 6 t).1 = t from q3')]
        simp only [F_X9_becomes]
        rw [e6]
        refine ok_put h ((((h.1.up t (by simp [isU])).up 0 (by simp [isU])).up 0 (by simp [isU])).up 0 (by simp [isU])) (h.inv.mode ?_)
        have q0 : ¬ t < 0 := fun e => q (Or.inl e)
        have q4 : ¬ 4 < t := fun e => q (Or.inr e)
        have e4 : (4 : Int32).toInt = 4 := rfl
        have e0 : (0 : Int32).toInt = 0 := rfl
        rw [Int32.lt_iff_toInt_lt] at q0 q4
        rw [vp_in_iff]
        omega
    · rw [if_neg q2, if_neg q2]
      exact ok_fail h (by decide)
theorem ok_clearFault (h : LI n v a c vs bs w pf np) : OK n v a c vs bs (F_X8_clearFault v a) (F_X9_clearFault np th ed hh w pf).1 (F_X9_clearFault np th ed hh w pf).2.1 (F_X9_clearFault np th ed hh w pf).2.2.1 (F_X9_clearFault np th ed hh w pf).2.2.2.1 (F_X9_clearFault np th ed hh w pf).2.2.2.2 := by
  simp only [F_X8_clearFault, F_X9_clearFault, F_X9_becomes, F_X9_fails, F_X1_forgetFault]
  rw [← h.eq (k := 45) (by decide)]
  by_cases q2 : v 45 = 0
  · rw [if_pos q2, if_pos q2]
    exact ok_fail h (by decide)
  · rw [if_neg q2, if_neg q2]
    exact ok_put h (((h.1.up 0 (by simp [isU])).up 0 (by simp [isU])).up 0 (by simp [isU])) (((h.inv.up1 0 (by simp [isU]) (by decide) (by decide) (by decide)).up1 0 (by simp [isU]) (by decide) (by decide) (by decide)).up1 0 (by simp [isU]) (by decide) (by decide) (by decide))
theorem rng_of {t : Int32} {lo hi : Int} {b d : Int32} (q : ¬ (t < b ∨ d < t)) (hb : b.toInt = lo) (hd : d.toInt = hi) : lo ≤ t.toInt ∧ t.toInt ≤ hi := by
  have q0 : ¬ t < b := fun e => q (Or.inl e)
  have q4 : ¬ d < t := fun e => q (Or.inr e)
  rw [Int32.lt_iff_toInt_lt] at q0 q4
  omega
theorem ok_run (h : LI n v a c vs bs w pf np) (hn : n ≤ 512) (t : Int32) : OK n v a c vs bs (F_X8_run v a t) (F_X9_run np th ed hh w pf t).1 (F_X9_run np th ed hh w pf t).2.1 (F_X9_run np th ed hh w pf t).2.2.1 (F_X9_run np th ed hh w pf t).2.2.2.2.1 (F_X9_run np th ed hh w pf t).2.2.2.2.2 := by
  simp only [F_X8_run, F_X9_run, F_X9_fails]
  by_cases q : t < 0 ∨ 5000 < t
  · rw [if_pos q, if_pos (in_0 q)]
    exact ok_fail h (by decide)
  · rw [if_neg q, if_neg (in_1 q)]
    have hr := rng_of (lo := 0) (hi := 5000) q rfl rfl
    have hv : vp_in t 5001 := by rw [vp_in_iff]; omega
    have hl := tn_lt hv
    have hx := run_rel (np := (F_X9_save np th ed hh w pf).1) (th := (F_X9_save np th ed hh w pf).2.1) (hh := hh) (pf := (F_X9_save np th ed hh w pf).2.2) hv 5001 ed v w a _ _ 0 h.1 h.2.1 (by omega) (by omega) (by omega)
    dsimp only
    rw [hx.1.1 0 (by decide)]
    exact ok_put h hx.1 (hx.2.mono (by omega) (by omega))
theorem ok_schedule (h : LI n v a c vs bs w pf np) (hn : n ≤ 512) (t b : Int32) : OK n v a c vs bs (F_X8_schedule v a t b) (F_X9_schedule np th ed hh w pf t b).1 (F_X9_schedule np th ed hh w pf t b).2.1 (F_X9_schedule np th ed hh w pf t b).2.2.1 (F_X9_schedule np th ed hh w pf t b).2.2.2.1 (F_X9_schedule np th ed hh w pf t b).2.2.2.2 := by
  simp only [F_X8_schedule, F_X9_schedule, F_X9_fails]
  by_cases q : t < 1 ∨ 100000 < t
  · rw [if_pos q, if_pos (in_0 q)]
    exact ok_fail h (by decide)
  · rw [if_neg q, if_neg (in_1 q)]
    by_cases q2 : b < 0 ∨ 7 < b
    · rw [if_pos q2, if_pos (in_0 q2)]
      exact ok_fail h (by decide)
    · rw [if_neg q2, if_neg (in_1 q2), ← h.eq (k := 48) (by decide), ← h.eq (k := 0) (by decide)]
      have hr := rng_of (lo := 1) (hi := 100000) q rfl rfl
      obtain ⟨i0, iq, _⟩ := h.2.1
      have hz := vp_in_iff.mp iq.1
      have e40 : (40 : Int32).toInt = 40 := rfl
      have es : ((40 : Int32) - v 48).toInt = 40 - (v 48).toInt := by rw [fb_subI (by omega) (by omega), e40]
      by_cases q3 : v 48 = 40
      · rw [if_pos q3, q3, if_pos (by decide)]
        exact ok_fail h (by decide)
      · have n3 : ¬ ((40 : Int32) - v 48 < 1) := fun e => by
          rw [Int32.lt_iff_toInt_lt, es, ti_1] at e
          exact q3 (Int32.toInt_inj.mp (by rw [e40]; omega))
        rw [if_neg q3, if_neg n3]
        have e1 : (v 0 + t).toInt = (v 0).toInt + t.toInt := fb_addI (by omega) (by omega)
        have hp := put_rel (np := (F_X9_save np th ed hh w pf).1) (th := (F_X9_save np th ed hh w pf).2.1) (ed := ed) (hh := hh) (pf := (F_X9_save np th ed hh w pf).2.2) (t := v 0 + t) (b := b) (C' := 200000 + 50000 * (n + 1 : Nat)) h.1 h.2.1 (vp_sub40 iq.1 q3) (by omega) (by omega) (by omega)
        have e48 := hp.1.1 48 (by decide)
        rw [pk_us] at e48
        dsimp only
        rw [e48] 
        rw [e48] at hp
        exact ok_put h hp.1 (hp.2.mono (by omega) (by omega))
end OneCall
