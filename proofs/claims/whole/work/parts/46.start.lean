/-! the start -/
theorem vk_ex {args : Array Value} {s : State} {own tx : String} {k : Nat} (h1 : (Cond.stringRef own k tx).before args s = true) (h2 : (Cond.exactly (Term.string own k) "java/lang/String").before args s = true) : ∃ a, vk_R own k tx a s := by
  obtain ⟨a, c, cell, kk, ha, _⟩ := Cond.exactly_spec h2
  exact ⟨a, vk_R.of h1 ha⟩
section Start
variable {s : State} {args : Array Value}
set_option maxRecDepth 100000 in
theorem start_V (ht : ∀ (k : Nat) (w : Cond), tables_1[k]? = some w → w.before args s = true) (hn : ∀ (k : Nat) (w : Cond), (flatC (Jvm.Cond.and given_1 narrow_1))[k]? = some w → w.before args s = true) : gV s := by
  refine ⟨?_, ?_, ?_, ?_, ?_, ?_⟩
  · exact List.forall_mem_cons.mpr ⟨va_Nw.of rfl (ht 28 _ (by decide +kernel)), List.forall_mem_cons.mpr ⟨va_Nw.of rfl (ht 34 _ (by decide +kernel)), List.forall_mem_cons.mpr ⟨va_Nw.of rfl (ht 68 _ (by decide +kernel)), List.forall_mem_cons.mpr ⟨va_Nw.of rfl (ht 86 _ (by decide +kernel)), List.forall_mem_cons.mpr ⟨va_Nw.of rfl (ht 115 _ (by decide +kernel)), List.forall_mem_cons.mpr ⟨va_Nw.of rfl (ht 153 _ (by decide +kernel)), List.forall_mem_cons.mpr ⟨va_Nw.of rfl (ht 192 _ (by decide +kernel)), List.forall_mem_cons.mpr ⟨va_Nw.of rfl (ht 249 _ (by decide +kernel)), List.forall_mem_cons.mpr ⟨va_Nw.of rfl (ht 255 _ (by decide +kernel)), List.forall_mem_cons.mpr ⟨va_Nw.of rfl (ht 306 _ (by decide +kernel)), List.forall_mem_cons.mpr ⟨va_Nw.of rfl (ht 311 _ (by decide +kernel)), List.forall_mem_cons.mpr ⟨va_Nw.of rfl (ht 316 _ (by decide +kernel)), List.forall_mem_cons.mpr ⟨va_Nw.of rfl (ht 321 _ (by decide +kernel)), List.forall_mem_cons.mpr ⟨va_Nw.of rfl (ht 330 _ (by decide +kernel)), List.forall_mem_cons.mpr ⟨va_Nw.of rfl (ht 339 _ (by decide +kernel)), List.forall_mem_cons.mpr ⟨va_Nw.of rfl (ht 591 _ (by decide +kernel)), List.forall_mem_cons.mpr ⟨va_Nw.of rfl (ht 656 _ (by decide +kernel)), fun _ h => absurd h List.not_mem_nil⟩⟩⟩⟩⟩⟩⟩⟩⟩⟩⟩⟩⟩⟩⟩⟩⟩
  · exact List.forall_mem_cons.mpr ⟨vk_ex (ht 392 _ (by decide +kernel)) (hn 80 _ (by decide +kernel)), List.forall_mem_cons.mpr ⟨vk_ex (ht 499 _ (by decide +kernel)) (hn 111 _ (by decide +kernel)), List.forall_mem_cons.mpr ⟨vk_ex (ht 517 _ (by decide +kernel)) (hn 131 _ (by decide +kernel)), List.forall_mem_cons.mpr ⟨vk_ex (ht 533 _ (by decide +kernel)) (hn 153 _ (by decide +kernel)), List.forall_mem_cons.mpr ⟨vk_ex (ht 545 _ (by decide +kernel)) (hn 191 _ (by decide +kernel)), List.forall_mem_cons.mpr ⟨vk_ex (ht 558 _ (by decide +kernel)) (hn 216 _ (by decide +kernel)), List.forall_mem_cons.mpr ⟨vk_ex (ht 697 _ (by decide +kernel)) (hn 258 _ (by decide +kernel)), List.forall_mem_cons.mpr ⟨vk_ex (ht 725 _ (by decide +kernel)) (hn 288 _ (by decide +kernel)), List.forall_mem_cons.mpr ⟨vk_ex (ht 740 _ (by decide +kernel)) (hn 315 _ (by decide +kernel)), fun _ h => absurd h List.not_mem_nil⟩⟩⟩⟩⟩⟩⟩⟩⟩
  · exact List.forall_mem_cons.mpr ⟨va_Nw.of rfl (ht 353 _ (by decide +kernel)), List.forall_mem_cons.mpr ⟨va_Nw.of rfl (ht 492 _ (by decide +kernel)), List.forall_mem_cons.mpr ⟨va_Nw.of rfl (ht 690 _ (by decide +kernel)), fun _ h => absurd h List.not_mem_nil⟩⟩⟩
  · exact List.forall_mem_cons.mpr ⟨va_Nw.of rfl (ht 654 _ (by decide +kernel)), List.forall_mem_cons.mpr ⟨va_Nw.of rfl (ht 657 _ (by decide +kernel)), fun _ h => absurd h List.not_mem_nil⟩⟩
  · exact List.forall_mem_cons.mpr ⟨va_Nw.of rfl (ht 355 _ (by decide +kernel)), List.forall_mem_cons.mpr ⟨va_Nw.of rfl (ht 357 _ (by decide +kernel)), List.forall_mem_cons.mpr ⟨va_Nw.of rfl (ht 359 _ (by decide +kernel)), fun _ h => absurd h List.not_mem_nil⟩⟩⟩
  · exact va_AO.of (ht 254 _ (by decide +kernel))
set_option maxRecDepth 100000 in
theorem start_SECTOR_OF_CODE (ht : ∀ (k : Nat) (w : Cond), tables_1[k]? = some w → w.before args s = true) (hn : ∀ (k : Nat) (w : Cond), (flatC (Jvm.Cond.and given_1 narrow_1))[k]? = some w → w.before args s = true) : gT "SECTOR_OF_CODE" [-1, 0, 2, 1, 4, 5, 3, -1] (fun q => s.heap.size ≤ q) s s.heap := by
  have hA : ∀ a : Nat, a < s.heap.size → ¬ (fun q => s.heap.size ≤ q) a := fun a h => Nat.not_le.mpr h
  have hel : ∀ j : Nat, j < 8 → (Term.elem (Term.static "HallCommutator" "SECTOR_OF_CODE" "[I") (.int (Int32.ofNat j))).eval args s none [] s = some (.int (([-1, 0, 2, 1, 4, 5, 3, -1] : List Int32).getD j 0)) := by
    intro j hj
    match j, hj with
    | 0, _ => exact va_eqt (hn 9 _ (by decide +kernel))
    | 1, _ => exact va_eqt (hn 10 _ (by decide +kernel))
    | 2, _ => exact va_eqt (hn 11 _ (by decide +kernel))
    | 3, _ => exact va_eqt (hn 12 _ (by decide +kernel))
    | 4, _ => exact va_eqt (hn 13 _ (by decide +kernel))
    | 5, _ => exact va_eqt (hn 14 _ (by decide +kernel))
    | 6, _ => exact va_eqt (hn 15 _ (by decide +kernel))
    | 7, _ => exact va_eqt (hn 16 _ (by decide +kernel))
  obtain ⟨t, h1, h2⟩ := va_Tof (args := args) (s := s) (tm := Term.static "HallCommutator" "SECTOR_OF_CODE" "[I") (ty := .int) (N := 8) (f := fun j => .int (([-1, 0, 2, 1, 4, 5, 3, -1] : List Int32).getD j 0)) (A := fun q => s.heap.size ≤ q) (by decide) (hn 7 _ (by decide +kernel)) (va_eqt (hn 8 _ (by decide +kernel))) hel hA
  exact ⟨t, va_Zref (ht 554 _ (by decide +kernel)) (ht 1 _ (by decide +kernel)) h1 hA, h2⟩
set_option maxRecDepth 100000 in
theorem start_CODE_OF_SECTOR (ht : ∀ (k : Nat) (w : Cond), tables_1[k]? = some w → w.before args s = true) (hn : ∀ (k : Nat) (w : Cond), (flatC (Jvm.Cond.and given_1 narrow_1))[k]? = some w → w.before args s = true) : gT "CODE_OF_SECTOR" [1, 3, 2, 6, 4, 5] (fun q => s.heap.size ≤ q) s s.heap := by
  have hA : ∀ a : Nat, a < s.heap.size → ¬ (fun q => s.heap.size ≤ q) a := fun a h => Nat.not_le.mpr h
  have hel : ∀ j : Nat, j < 6 → (Term.elem (Term.static "HallCommutator" "CODE_OF_SECTOR" "[I") (.int (Int32.ofNat j))).eval args s none [] s = some (.int (([1, 3, 2, 6, 4, 5] : List Int32).getD j 0)) := by
    intro j hj
    match j, hj with
    | 0, _ => exact va_eqt (hn 20 _ (by decide +kernel))
    | 1, _ => exact va_eqt (hn 21 _ (by decide +kernel))
    | 2, _ => exact va_eqt (hn 22 _ (by decide +kernel))
    | 3, _ => exact va_eqt (hn 23 _ (by decide +kernel))
    | 4, _ => exact va_eqt (hn 24 _ (by decide +kernel))
    | 5, _ => exact va_eqt (hn 25 _ (by decide +kernel))
  obtain ⟨t, h1, h2⟩ := va_Tof (args := args) (s := s) (tm := Term.static "HallCommutator" "CODE_OF_SECTOR" "[I") (ty := .int) (N := 6) (f := fun j => .int (([1, 3, 2, 6, 4, 5] : List Int32).getD j 0)) (A := fun q => s.heap.size ≤ q) (by decide) (hn 18 _ (by decide +kernel)) (va_eqt (hn 19 _ (by decide +kernel))) hel hA
  exact ⟨t, va_Zref (ht 567 _ (by decide +kernel)) (ht 1 _ (by decide +kernel)) h1 hA, h2⟩
set_option maxRecDepth 100000 in
theorem start_HIGH_LEG_OF_SECTOR (ht : ∀ (k : Nat) (w : Cond), tables_1[k]? = some w → w.before args s = true) (hn : ∀ (k : Nat) (w : Cond), (flatC (Jvm.Cond.and given_1 narrow_1))[k]? = some w → w.before args s = true) : gT "HIGH_LEG_OF_SECTOR" [0, 0, 1, 1, 2, 2] (fun q => s.heap.size ≤ q) s s.heap := by
  have hA : ∀ a : Nat, a < s.heap.size → ¬ (fun q => s.heap.size ≤ q) a := fun a h => Nat.not_le.mpr h
  have hel : ∀ j : Nat, j < 6 → (Term.elem (Term.static "HallCommutator" "HIGH_LEG_OF_SECTOR" "[I") (.int (Int32.ofNat j))).eval args s none [] s = some (.int (([0, 0, 1, 1, 2, 2] : List Int32).getD j 0)) := by
    intro j hj
    match j, hj with
    | 0, _ => exact va_eqt (hn 29 _ (by decide +kernel))
    | 1, _ => exact va_eqt (hn 30 _ (by decide +kernel))
    | 2, _ => exact va_eqt (hn 31 _ (by decide +kernel))
    | 3, _ => exact va_eqt (hn 32 _ (by decide +kernel))
    | 4, _ => exact va_eqt (hn 33 _ (by decide +kernel))
    | 5, _ => exact va_eqt (hn 34 _ (by decide +kernel))
  obtain ⟨t, h1, h2⟩ := va_Tof (args := args) (s := s) (tm := Term.static "HallCommutator" "HIGH_LEG_OF_SECTOR" "[I") (ty := .int) (N := 6) (f := fun j => .int (([0, 0, 1, 1, 2, 2] : List Int32).getD j 0)) (A := fun q => s.heap.size ≤ q) (by decide) (hn 27 _ (by decide +kernel)) (va_eqt (hn 28 _ (by decide +kernel))) hel hA
  exact ⟨t, va_Zref (ht 655 _ (by decide +kernel)) (ht 1 _ (by decide +kernel)) h1 hA, h2⟩
set_option maxRecDepth 100000 in
theorem start_LOW_LEG_OF_SECTOR (ht : ∀ (k : Nat) (w : Cond), tables_1[k]? = some w → w.before args s = true) (hn : ∀ (k : Nat) (w : Cond), (flatC (Jvm.Cond.and given_1 narrow_1))[k]? = some w → w.before args s = true) : gT "LOW_LEG_OF_SECTOR" [1, 2, 2, 0, 0, 1] (fun q => s.heap.size ≤ q) s s.heap := by
  have hA : ∀ a : Nat, a < s.heap.size → ¬ (fun q => s.heap.size ≤ q) a := fun a h => Nat.not_le.mpr h
  have hel : ∀ j : Nat, j < 6 → (Term.elem (Term.static "HallCommutator" "LOW_LEG_OF_SECTOR" "[I") (.int (Int32.ofNat j))).eval args s none [] s = some (.int (([1, 2, 2, 0, 0, 1] : List Int32).getD j 0)) := by
    intro j hj
    match j, hj with
    | 0, _ => exact va_eqt (hn 38 _ (by decide +kernel))
    | 1, _ => exact va_eqt (hn 39 _ (by decide +kernel))
    | 2, _ => exact va_eqt (hn 40 _ (by decide +kernel))
    | 3, _ => exact va_eqt (hn 41 _ (by decide +kernel))
    | 4, _ => exact va_eqt (hn 42 _ (by decide +kernel))
    | 5, _ => exact va_eqt (hn 43 _ (by decide +kernel))
  obtain ⟨t, h1, h2⟩ := va_Tof (args := args) (s := s) (tm := Term.static "HallCommutator" "LOW_LEG_OF_SECTOR" "[I") (ty := .int) (N := 6) (f := fun j => .int (([1, 2, 2, 0, 0, 1] : List Int32).getD j 0)) (A := fun q => s.heap.size ≤ q) (by decide) (hn 36 _ (by decide +kernel)) (va_eqt (hn 37 _ (by decide +kernel))) hel hA
  exact ⟨t, va_Zref (ht 658 _ (by decide +kernel)) (ht 1 _ (by decide +kernel)) h1 hA, h2⟩
set_option maxRecDepth 100000 in
theorem start_H (ht : ∀ (k : Nat) (w : Cond), tables_1[k]? = some w → w.before args s = true) (hn : ∀ (k : Nat) (w : Cond), (flatC (Jvm.Cond.and given_1 narrow_1))[k]? = some w → w.before args s = true) : gH (fun q => s.heap.size ≤ q) s s.heap := by
  have hA : ∀ a : Nat, a < s.heap.size → ¬ (fun q => s.heap.size ≤ q) a := fun a h => Nat.not_le.mpr h
  exact ⟨start_SECTOR_OF_CODE ht hn, start_CODE_OF_SECTOR ht hn, start_HIGH_LEG_OF_SECTOR ht hn, start_LOW_LEG_OF_SECTOR ht hn, vx_Zqof (ht 378 _ (by decide +kernel)) (ht 11 _ (by decide +kernel)) (hn 4 _ (by decide +kernel)) hA, vx_Zqof (ht 380 _ (by decide +kernel)) (ht 11 _ (by decide +kernel)) (hn 5 _ (by decide +kernel)) hA⟩
theorem start_N (hn : ∀ (k : Nat) (w : Cond), (flatC (Jvm.Cond.and given_1 narrow_1))[k]? = some w → w.before args s = true) : va_Nc eISE eIAE s := va_Nc.of (hn 54 _ (by decide +kernel))
set_option maxRecDepth 100000 in
theorem start_K (hts : ∀ w ∈ lw_tbl, w.before args s = true) (ht : ∀ (k : Nat) (w : Cond), tables_1[k]? = some w → w.before args s = true) : ∃ (D : va_G) (cI cJ cS : ClassId), va_K D vwCl (tyz cI cJ cS) s := by
  obtain ⟨c0, i0, k0⟩ := u_known (C := RX0) (T := TX0) (N := 6) (n := 6) hts inX0 (ht 191 _ (by decide +kernel))
  obtain ⟨c1, i1, k1⟩ := u_known (C := RX1) (T := TX1) (N := 8) (n := 8) hts inX1 (ht 152 _ (by decide +kernel))
  obtain ⟨c2, i2, k2⟩ := u_known (C := RX2) (T := TX2) (N := 2) (n := 2) hts inX2 (ht 248 _ (by decide +kernel))
  obtain ⟨c3, i3, k3⟩ := u_known (C := RX3) (T := TX3) (N := 8) (n := 8) hts inX3 (ht 114 _ (by decide +kernel))
  obtain ⟨c4, i4, k4⟩ := u_known (C := RX4) (T := TX4) (N := 3) (n := 3) hts inX4 (ht 67 _ (by decide +kernel))
  obtain ⟨c5, i5, k5⟩ := u_known (C := RX5) (T := TX5) (N := 5) (n := 5) hts inX5 (ht 85 _ (by decide +kernel))
  obtain ⟨c6, i6, k6⟩ := u_known (C := RX6) (T := TX6) (N := 5) (n := 5) hts inX6 (ht 33 _ (by decide +kernel))
  obtain ⟨c7, i7, k7⟩ := u_known (C := RX7) (T := TX7) (N := 7) (n := 7) hts inX7 (ht 27 _ (by decide +kernel))
  obtain ⟨c8, i8, k8⟩ := u_known (C := RX8) (T := TX8) (N := 2) (n := 2) hts inX8 (ht 19 _ (by decide +kernel))
  obtain ⟨c9, i9, k9⟩ := u_known (C := RX9) (T := TX9) (N := 6) (n := 6) hts inX9 (ht 746 _ (by decide +kernel))
  obtain ⟨cI, kI, pI, a1, a2, a3⟩ := Cond.arrayClass_spec (type := .int) (ht 83 _ (by decide +kernel))
  obtain ⟨cJ, kJ, pJ, b1, b2, b3⟩ := Cond.arrayClass_spec (type := .long) (ht 947 _ (by decide +kernel))
  obtain ⟨pS, cS, kS, e1, e0, e2, e3, e4⟩ := Cond.arrayOver_spec (n := "HallCommutator$State") (ht 254 _ (by decide +kernel))
  refine ⟨(fun k => if k = 0 then c0 else if k = 1 then c1 else if k = 2 then c2 else if k = 3 then c3 else if k = 4 then c4 else if k = 5 then c5 else if k = 6 then c6 else if k = 7 then c7 else if k = 8 then c8 else c9, fun k => if k = 0 then i0 else if k = 1 then i1 else if k = 2 then i2 else if k = 3 then i3 else if k = 4 then i4 else if k = 5 then i5 else if k = 6 then i6 else if k = 7 then i7 else if k = 8 then i8 else i9), cI, cJ, cS, ?_, ?_⟩
  · intro k q hq
    match k, hq with
    | 0, hq => cases hq; exact k0
    | 1, hq => cases hq; exact k1
    | 2, hq => cases hq; exact k2
    | 3, hq => cases hq; exact k3
    | 4, hq => cases hq; exact k4
    | 5, hq => cases hq; exact k5
    | 6, hq => cases hq; exact k6
    | 7, hq => cases hq; exact k7
    | 8, hq => cases hq; exact k8
    | 9, hq => cases hq; exact k9
    | k + 10, hq => exact absurd hq (by simp [vwCl])
  · intro k q hq
    match k, hq with
    | 0, hq => cases hq; exact ⟨fun n z => ⟨fun k h => (by cases h), kI, a2, pI, a3⟩, a1⟩
    | 1, hq => cases hq; exact ⟨fun n z => ⟨fun k h => (by cases h), kJ, b2, pJ, b3⟩, b1⟩
    | 2, hq => cases hq; exact ⟨fun n z => ⟨fun k h => (by cases h), kS, e2, pS, e3⟩, kS, pS, e2, e3, e1, e4⟩
    | k + 3, hq => exact absurd hq (by simp [tyz])
end Start
