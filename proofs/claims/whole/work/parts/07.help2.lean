theorem tn_lt_lt {z : Int32} {n : Nat} (k : Nat) (h : vp_in z n) (hk : k < 2 ^ 31) (c : z < nI k) : tn z < k := by
  have h0 : ¬ z < 0 := fun q => h (Or.inl q)
  obtain ⟨j, hj, e⟩ := nI_of h0
  subst e
  rw [tn, nI_clamp hj]
  exact (nI_ltI hj hk).mp c
theorem nz_lt {z : Int32} {n i : Nat} (h : vp_in z n) (hi : i ≤ tn z) (c : ¬ z ≤ nI i) : i < tn z := by
  rcases Nat.lt_or_ge i (tn z) with q | q
  · exact q
  · have e : i = tn z := Nat.le_antisymm hi q
    exact absurd (by rw [e, ← tn_eq h]; exact Int32.le_refl z) c
theorem nI_p0 {i : Nat} (c : ¬ nI i ≤ 0) : 0 < i := by
  rcases Nat.eq_zero_or_pos i with q | q
  · subst q; exact absurd (by decide) c
  · exact q
theorem nI_p1 {i : Nat} (c : ¬ nI i = 0) : 0 < i := by
  rcases Nat.eq_zero_or_pos i with q | q
  · subst q; exact absurd rfl c
  · exact q
theorem nI_m1 {i : Nat} (h : 0 < i) : nI i + Int32.ofInt (-1) = nI (i - 1) := by
  obtain ⟨j, rfl⟩ : ∃ j, i = j + 1 := ⟨i - 1, by omega⟩
  exact pk_m1 j
theorem nI_nle_lt {a i : Nat} (hi : i < 2 ^ 31) (c : ¬ nI a ≤ nI i) : i < a := by
  rcases Nat.lt_or_ge i a with q | q
  · exact q
  · exact absurd (nI_le q hi) c
theorem nI_nlt_le {t : Int32} {i : Nat} (hi : i < 2 ^ 31) (c : ¬ t < nI i) : (i : Int) ≤ t.toInt := by
  rcases Int.lt_or_le t.toInt (i : Int) with q | q
  · exact absurd (by rw [Int32.lt_iff_toInt_lt, nI_toInt hi]; exact q) c
  · exact q
section NatRows
variable {p : Program} {l : Launch} {e : Env} {R : Room} {s : State} {m : MethodId} {args : Array Value} {below : List Frame} {meth : Method} {c : Code} {H : Heap} {locs : List Loc} {cells slots : Nat} {Q : State → Prop} {pc : Nat} {ls : Array Slot} {rest : List Value} {cc : ByteArray}
theorem my_iaddN (hx : p.tables.exec = Jvm.exec) (hb : c.code = cc) {x y : Int32} (a b : Nat) (ex : x = nI a) (ey : y = nI b) (hdg : decode cc pc = .ok (.iadd, 1)) (k : W p l e R s m args below meth c H locs cells slots Q (F0 m (pc + 1) ls (.int (nI (a + b)) :: rest))) : W p l e R s m args below meth c H locs cells slots Q (F0 m pc ls (.int y :: .int x :: rest)) := by
  subst ex; subst ey
  refine lv_iadd hx hb hdg ?_
  rw [nI_add]
  exact k
theorem my_imulN (hx : p.tables.exec = Jvm.exec) (hb : c.code = cc) {x y : Int32} (a b : Nat) (ex : x = nI a) (ey : y = nI b) (hdg : decode cc pc = .ok (.imul, 1)) (k : W p l e R s m args below meth c H locs cells slots Q (F0 m (pc + 1) ls (.int (nI (a * b)) :: rest))) : W p l e R s m args below meth c H locs cells slots Q (F0 m pc ls (.int y :: .int x :: rest)) := by
  subst ex; subst ey
  refine lv_imul hx hb hdg ?_
  rw [pk_mul]
  exact k
theorem my_isubN (hx : p.tables.exec = Jvm.exec) (hb : c.code = cc) {x y : Int32} (a b : Nat) (ex : x = nI a) (ey : y = nI b) (h : b ≤ a) (hdg : decode cc pc = .ok (.isub, 1)) (k : W p l e R s m args below meth c H locs cells slots Q (F0 m (pc + 1) ls (.int (nI (a - b)) :: rest))) : W p l e R s m args below meth c H locs cells slots Q (F0 m pc ls (.int y :: .int x :: rest)) := by
  subst ex; subst ey
  refine lv_isub hx hb hdg ?_
  rw [pk_sub h]
  exact k
end NatRows
theorem vp_le_in {z : Int32} {n : Nat} (h : vp_in z n) (k : Nat) (hk : tn z < k) : vp_in z k := fun q => q.elim (fun a => h (Or.inl a)) (fun a => absurd hk (Nat.not_lt.mpr a))
theorem tn_ne {z : Int32} {n : Nat} (h : vp_in z n) (k : Nat) (c : ¬ z = nI k) : tn z ≠ k := fun e => c (by rw [tn_eq h, e])
theorem vp_sub4 {z : Int32} (h : vp_in z 5) (c : ¬ z = 4) : vp_in z 4 := vp_le_in h 4 (by have := tn_lt h; have := tn_ne h 4 c; omega)
theorem vp_dec4 {z : Int32} (c : z = 4) : vp_in (z - 1) 4 := by rw [c]; exact vp_in_nI (n := 3) (N := 4) (by decide) (by decide)
theorem vp_sub40 {z : Int32} (h : vp_in z 41) (c : ¬ z = 40) : vp_in z 40 := vp_le_in h 40 (by have := tn_lt h; have := tn_ne h 40 c; omega)
theorem vp_sub6 {z : Int32} (h : vp_in z 7) (c : ¬ z = 6) : vp_in z 6 := vp_le_in h 6 (by have := tn_lt h; have := tn_ne h 6 c; omega)
theorem add36 {z : Int32} {n : Nat} (h : vp_in z n) : 36 + z = nI (36 + tn z) := by
  have e := nI_add 36 (tn z)
  rw [← tn_eq h] at e
  exact e
