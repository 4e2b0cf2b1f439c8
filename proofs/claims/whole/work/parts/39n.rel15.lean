/-! digest and speed -/
def mxs (w : Nat → Int32) : Nat → Nat → Int64 → Int64
  | 0, _, h => h
  | k + 1, i, h => mxs w k (i + 1) (((31 : Int64) * h) + ((w i).toInt64))
theorem mx_form {np th ed : Int32} {w pf : Nat → Int32} {m : Nat} (hm : m < 1000000) : ∀ (k n i : Nat) (h : Int64), k < n → i + k = m + 1 → (LP_X9_mixes n np th ed h w pf (nI m) i).2 = mxs w k i h := by
  intro k
  induction k with
  | zero =>
    intro n i h hn hi
    obtain ⟨n, rfl⟩ : ∃ q, n = q + 1 := ⟨n - 1, by omega⟩
    simp only [LP_X9_mixes, mxs]
    rw [if_pos (nI_lt (by omega) (by omega))]
  | succ k ih =>
    intro n i h hn hi
    obtain ⟨n, rfl⟩ : ∃ q, n = q + 1 := ⟨n - 1, by omega⟩
    simp only [LP_X9_mixes, mxs]
    rw [if_neg (nI_nlt (by omega) (by omega))]
    exact ih n (i + 1) _ (by omega) (by omega)
theorem mx_at {np th ed : Int32} {w pf : Nat → Int32} {h : Int64} {j m : Nat} (k : Nat) (hm : m < 1000000) (hk : k < 130) (hj : j + k = m + 1) : F_X9_mixes np th ed h w pf j (nI m) = mxs w k j h := mx_form hm k 130 j h hk hj
theorem mi_form {f0 f1 f2 f3 z f6 f7 : Int32} {iv w : Nat → Int32} (hI : RI iv w) (hz : vp_in z 7) : ∀ (k n i : Nat) (h : Int64), k < n → i + k = tn z → (LP_X3_mixIntervalsInto n f0 f1 f2 f3 z f6 f7 iv i h).2 = mxs w k (36 + i) h := by
  have hl := tn_lt hz
  have ez := tn_eq hz
  intro k
  induction k with
  | zero =>
    intro n i h hn hi
    obtain ⟨n, rfl⟩ : ∃ q, n = q + 1 := ⟨n - 1, by omega⟩
    simp only [LP_X3_mixIntervalsInto, mxs]
    rw [if_pos (by rw [ez]; exact nI_le (by omega) (by omega))]
  | succ k ih =>
    intro n i h hn hi
    obtain ⟨n, rfl⟩ : ∃ q, n = q + 1 := ⟨n - 1, by omega⟩
    simp only [LP_X3_mixIntervalsInto, mxs, F_X8_mix]
    rw [if_neg (by rw [ez]; exact nI_ge (by omega) (by omega)), hI i (by omega)]
    exact ih n (i + 1) _ (by omega) (by omega)
theorem mq_form {z : Int32} {tk cd w : Nat → Int32} (hQ : RQ tk cd w) (hz : vp_in z 41) : ∀ (k n i : Nat) (h : Int64), k < n → i + k = tn z → (LP_X4_mixInto n z tk cd i h).2 = mxs w (2 * k) (49 + 2 * i) h := by
  have hl := tn_lt hz
  have ez := tn_eq hz
  intro k
  induction k with
  | zero =>
    intro n i h hn hi
    obtain ⟨n, rfl⟩ : ∃ q, n = q + 1 := ⟨n - 1, by omega⟩
    simp only [LP_X4_mixInto, mxs]
    rw [if_pos (by rw [ez]; exact nI_le (by omega) (by omega))]
  | succ k ih =>
    intro n i h hn hi
    obtain ⟨n, rfl⟩ : ∃ q, n = q + 1 := ⟨n - 1, by omega⟩
    rw [show 2 * (k + 1) = 2 * k + 1 + 1 by omega]
    simp only [LP_X4_mixInto, mxs, F_X8_mix]
    have hq := hQ i (by omega)
    rw [if_neg (by rw [ez]; exact nI_ge (by omega) (by omega)), hq.1, hq.2, ih n (i + 1) _ (by omega) (by omega), show 49 + 2 * i + 1 = 50 + 2 * i by omega, show 49 + 2 * (i + 1) = 50 + 2 * i + 1 by omega]
theorem dig_eq {np th ed : Int32} {hh : Int64} {v w pf : Nat → Int32} {a : Nat → Nat → Int32} {c : Nat} {B C : Int} (hl : Rel v a w) (hi : Inv v a B C) (hn : np = nI c) : (F_X9_digest np th ed hh w pf).1 = F_X8_digest v a c := by
  obtain ⟨hR, hQ, hI, hL, hC, hE⟩ := hl
  obtain ⟨h0, h1, h2, h3, h4, h5, h6, h7, h8, h9, h11, h12, h28, h29, h30, h31, h32, h35, h42, h43, h44, h45, h46, h47, h48⟩ := hR.all
  have l0 := hL 0 (by decide)
  have l1 := hL 1 (by decide)
  have l2 := hL 2 (by decide)
  have z7 := hi.2.2.1.1
  have z41 := hi.2.1.1
  have t7 := tn_lt z7
  have t41 := tn_lt z41
  have e9 : (9 : Int32) = nI 9 := rfl
  have e15 : (15 : Int32) = nI 15 := rfl
  have e22 : (22 : Int32) = nI 22 := rfl
  have e25 : (25 : Int32) = nI 25 := rfl
  have e23 : (23 : Int32) = nI 23 := rfl
  have e26 : (26 : Int32) = nI 26 := rfl
  have e24 : (24 : Int32) = nI 24 := rfl
  have e27 : (27 : Int32) = nI 27 := rfl
  have e32 : (32 : Int32) = nI 32 := rfl
  have e35 : (35 : Int32) = nI 35 := rfl
  have e48 : (48 : Int32) = nI 48 := rfl
  subst hn
  simp only [F_X9_digest]
  rw [e9, e15, e22, e25, e23, e26, e24, e27, e32, e35, e48, mx_at (j := 0) (m := 9) 10 (by omega) (by omega) (by omega), mx_at (j := 11) (m := 15) 5 (by omega) (by omega) (by omega), mx_at (j := 22) (m := 22) 1 (by omega) (by omega) (by omega), mx_at (j := 25) (m := 25) 1 (by omega) (by omega) (by omega), mx_at (j := 23) (m := 23) 1 (by omega) (by omega) (by omega), mx_at (j := 26) (m := 26) 1 (by omega) (by omega) (by omega), mx_at (j := 24) (m := 24) 1 (by omega) (by omega) (by omega), mx_at (j := 27) (m := 27) 1 (by omega) (by omega) (by omega), mx_at (j := 28) (m := 32) 5 (by omega) (by omega) (by omega), mx_at (j := 35) (m := 35) 1 (by omega) (by omega) (by omega), ← h35, mx_at (j := 36) (m := 36 + tn (v 35) - 1) (tn (v 35)) (by omega) (by omega) (by omega), mx_at (j := 42) (m := 48) 7 (by omega) (by omega) (by omega), ← h48, mx_at (j := 49) (m := 49 + 2 * tn (v 48) - 1) (2 * tn (v 48)) (by omega) (by omega) (by omega)]
  simp only [F_X8_digest, F_X3_mixIntervalsInto, F_X4_mixInto]
  rw [mi_form hI z7 (tn (v 35)) 7 0 _ t7 (by omega), mq_form hQ z41 (tn (v 48)) 41 0 _ t41 (by omega)]
  simp only [F_X8_mix, F_X6_mixInto, F_X5_mixInto, F_X0_mixInto, F_X3_mixCountsInto, F_X1_mixTimesInto, F_X1_mixFaultInto, mxs, Nat.reduceAdd, Nat.reduceMul, Nat.mul_zero, Nat.add_zero]
  rw [h0, h1, h2, h3, h4, h5, h6, h7, h8, h9, h11, h12, h28, h29, h30, h31, h32, h35, h42, h43, h44, h45, h46, h47, h48, l0.1, l1.1, l2.1, l0.2.1, l1.2.1, l2.2.1, l0.2.2.1, l1.2.2.1, l2.2.2.1]
theorem sum_rel {np th ed : Int32} {hh : Int64} {w pf iv : Nat → Int32} {f0 f1 f2 f3 z f6 f7 : Int32} {B : Int} (hI : RI iv w) (hz : vp_in z 7) (h35 : w 35 = z) (hB : B < 10000000) (hv : ∀ k, k < tn z → 1 ≤ (iv k).toInt ∧ (iv k).toInt ≤ B) : ∀ (n i : Nat) (h : Int64) (s : Int32), i ≤ tn z → tn z < i + n → h.toInt = s.toInt → 0 ≤ s.toInt → s.toInt ≤ 10000000 * i →
    (LP_X3_estimateSpeed n f0 f1 f2 f3 z f6 f7 iv i h).2.toInt = (LP_X9_speed n np th ed hh w pf i s).2.toInt ∧ s.toInt + (tn z - i : Nat) ≤ (LP_X9_speed n np th ed hh w pf i s).2.toInt := by
  have hl := tn_lt hz
  intro n
  induction n with
  | zero => intro i h s h1 h2; omega
  | succ n ih =>
    intro i h s h1 h2 he h0 hm
    simp only [LP_X3_estimateSpeed, LP_X9_speed]
    rw [h35]
    by_cases c : z ≤ nI i
    · rw [if_pos c, if_pos c]
      refine ⟨he, ?_⟩
      have : ¬ i < tn z := fun q => nI_ge q (by omega) (by rw [← tn_eq hz]; exact c)
      dsimp only
      omega
    · rw [if_neg c, if_neg c]
      have hlt := nz_lt hz h1 c
      have hvi := hv i hlt
      have e1 : (s + w (36 + i)).toInt = s.toInt + (iv i).toInt := by
        rw [← hI i (by omega)]
        exact fb_addI (by omega) (by omega)
      have e2 : (h + (iv i).toInt64).toInt = h.toInt + (iv i).toInt := by
        rw [Int64.toInt_add, Int32.toInt_toInt64, Int.bmod_eq_of_le (by omega) (by omega)]
      have r := ih (i + 1) (h + (iv i).toInt64) (s + w (36 + i)) (by omega) (by omega) (by omega) (by omega) (by omega)
      refine ⟨r.1, ?_⟩
      have := r.2
      omega
theorem spd_eq {np th ed : Int32} {hh : Int64} {v w pf : Nat → Int32} {a : Nat → Nat → Int32} {B C : Int} (hl : Rel v a w) (hi : Inv v a B C) (hB : B < 10000000) : (F_X9_speed np th ed hh w pf).1 = F_X8_speed v a := by
  obtain ⟨hR, hQ, hI, hL, hC, hE⟩ := hl
  have h35 := hR 35 (by decide)
  have hM := hi.2.2.1
  have hl7 := tn_lt hM.1
  have hs := sum_rel (np := np) (th := 0) (ed := ed) (hh := hh) (pf := pf) (f0 := v 28) (f1 := v 29) (f2 := v 30) (f3 := v 31) (f6 := v 33) (f7 := v 34) hI hM.1 h35.symm hB hM.2.1 7 0 0 0 (by omega) (by omega) rfl (by decide) (by decide)
  simp only [F_X9_speed, F_X8_speed, F_X3_estimateSpeed]
  rw [← h35]
  by_cases c : v 35 = 0
  · have hS : (LP_X3_estimateSpeed 7 (v 28) (v 29) (v 30) (v 31) (v 35) (v 33) (v 34) (a 2) 0 0).2 = 0 := by
      simp only [LP_X3_estimateSpeed]
      rw [c, if_pos (by decide)]
    rw [if_pos c, hS, if_neg (by decide)]
  · have hp : 0 < tn (v 35) := by
      rcases Nat.eq_zero_or_pos (tn (v 35)) with e | e
      · exact absurd (by rw [tn_eq hM.1, e]; rfl) c
      · exact e
    generalize (LP_X3_estimateSpeed 7 (v 28) (v 29) (v 30) (v 31) (v 35) (v 33) (v 34) (a 2) 0 0).2 = S at hs ⊢
    generalize (LP_X9_speed 7 np 0 ed hh w pf 0 0).2 = S2 at hs ⊢
    rw [ti_0] at hs
    have hc : (0 : Int32) < lg_cmp S 0 := by
      rw [lg_cmp_gt, Int64.lt_iff_toInt_lt]
      have e0 : (0 : Int64).toInt = 0 := rfl
      omega
    rw [if_neg c, if_pos hc]
    have e34 : v 34 = w 34 := by
      rcases hE with ⟨q, _⟩ | ⟨_, q, _⟩
      · rcases hM.2.2 with ⟨_, q2⟩ | ⟨q2, _⟩
        · exact absurd q2 c
        · rw [q] at q2
          exact absurd q2 (by decide)
      · exact q
    have ec : FP.l2d S = FP.i2d S2 := by
      unfold FP.l2d FP.i2d FP.Core.l2d FP.Core.i2d
      rw [hs.1]
    rw [e34, ec]
