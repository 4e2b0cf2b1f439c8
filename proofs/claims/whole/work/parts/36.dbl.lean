/-! doubles: ends and calls; what the speed is -/
section DRows
variable {p : Program} {l : Launch} {e : Env} {R : Room} {s : State} {m : MethodId} {args : Array Value} {below : List Frame} {meth : Method} {c : Code} {H : Heap} {locs : List Loc} {cells slots : Nat} {Q : State → Prop}
variable {D : va_G} {tys : List (ClassId × FieldType)} {A : Nat → Prop} {ws : va_W} {pc : Nat} {ls : Array Slot} {rest st0 : List Value} {cc : ByteArray}
theorem my_dret {S : Type} {post : UInt64 → S → Prop} {W' : S → va_W} {v : UInt64} (hx : p.tables.exec = Jvm.exec) (hb : c.code = cc) (hr : meth.sig.returnType = some .double) (hlocks : meth.locks = false) (hK : va_K D vwCl tys s) (hP : va_P D vwCl ws H) (hD : va_D A ws) (hS : va_S A s.heap H locs) (u : S) (hp : post v u) (is : List Nat) (hs : is.map (fun i => ws[i]?) = (W' u).map some) (hnd : va_nd is = true) (hdg : decode cc pc = .ok (.dreturn, 1)) :
    W p l e R s m args below meth c H locs cells slots (MQ below (va_Qd post (fun u => cPost D tys A (W' u)) A) args s cells slots A) (F0 m pc ls [.double v]) :=
  W.dret hx hb hr (fun t ht hW => ⟨⟨v, u, rfl, hp, by rw [ht]; exact hP.subm is hs, va_K.moved hW.alike hK, hD.sub is hnd hs⟩, hS.F ht⟩) hS.2.2 hdg hlocks
theorem my_callV_d {S : Type} {post : UInt64 → S → Prop} {W' : S → va_W} {y : MethodName} {bytes : ByteArray} {maxL nL mc ms n index : Nat} {ret : Option FieldType} {wl : List Cond} {rm : Room} {Ts : List Cond} {own C : String} {b : Nat} {As : List Value} {wc wr : va_W}
    (SF : CallFix p m c cc nL s args Ts own) (hM : Met l y wl rm (va_Pc (.ref b :: As) (cPre D tys wc H.size)) (va_Qd post (fun u => cPost D tys (va_A wc H.size) (W' u)) (va_A wc H.size)) mc ms (va_A wc H.size)) (cw : CallW R s args own C index y bytes maxL ret wl rm mc ms n)
    (hK : va_K D vwCl tys s) (hP : va_P D vwCl ws H) (hD : va_D A ws) (hS : va_S A s.heap H locs) (hA : ∀ q, s.heap.size ≤ q → A q) (hG : gG A s s.heap) (isC isR : List Nat) (hC : isC.map (fun i => ws[i]?) = wc.map some) (hR : isR.map (fun i => ws[i]?) = wr.map some) (hnC : va_nd isC = true) (hnR : va_nd isR = true) (hdis : ∀ i ∈ isR, i ∉ isC) (q0 : Nat) {ci : Nat} {T : u_T} {N : Nat} {fs : List Value} (hq : wc[q0]? = some (b, .inr (ci, fs))) (hcl : vwCl[ci]? = some (C, T, N)) (hn : As.length = n) (hsz : ls.size = nL) (hrest : (rest.map fun v => v.category).sum ≤ 8) (hst : st0 = As.reverse ++ .ref b :: rest) (hdg : decode cc pc = .ok (.invokevirtual index, 3)) (hf : cells + mc ≤ R.cells ∧ slots + ms ≤ R.slots)
    (kk : ∀ (r : UInt64) (u : S) (H1 : Heap) (locs1 : List Loc), post r u → va_P D vwCl (wr ++ W' u) H1 → va_D A (wr ++ W' u) → va_S A s.heap H1 locs1 → W p l e R s m args below meth c H1 locs1 (cells + mc) (slots + ms) Q (F0 m (pc + 3) ls (.double r :: rest))) : W p l e R s m args below meth c H locs cells slots Q (F0 m pc ls st0) := by
  subst hst
  have hFc := va_free hD hS hA isC hC
  have hPc := hP.subm isC hC
  refine va_calld (va_runV (As := As) (rest := rest) SF hM cw ⟨cPre.blind, va_recv hK hPc (ci := ci) (q0 := q0) hcl hq, fun U hU hW => ⟨rfl, cPre.at hK hP hD hS hA hG isC hC hnC U hU hW⟩⟩ rfl hn hsz rfl (lv_room hrest) hdg hf) hS (fun q _ h => hFc q h) hFc (fun r u t H1 locs1 ht hvm hw hB hz1 hk1 hS1 => ?_)
  obtain ⟨hP1, hK1, hD1⟩ := hB
  rw [ht] at hP1
  obtain ⟨hP2, hD2⟩ := va_join hP hD isC isR hC hR hnR hdis hk1 hFc hP1 hD1
  exact kk r u H1 locs1 hw hP2 hD2 hS1
end DRows
theorem n64_of {r : UInt64} (h : FP.Core.dIsNaN r = false) : vf_n64 r := by
  unfold vf_n64
  rw [UInt64.le_iff_toNat_le, UInt64.toNat_and]
  have e1 : (0x7fffffffffffffff : UInt64).toNat = 2 ^ 63 - 1 := rfl
  have e2 : (0x7ff0000000000000 : UInt64).toNat = 9218868437227405312 := rfl
  rw [e1, e2, Nat.and_two_pow_sub_one_eq_mod]
  have h1 : ¬ 9218868437227405312 < r.toNat % 2 ^ 63 := fun q => by
    rw [(FP.Core.isNaN_bits r).mpr q] at h
    exact absurd h (by decide)
  omega
abbrev bM : UInt64 := 4696837146684686336
abbrev bS : UInt64 := 4618441417868443648
theorem bM_fin : FP.Core.DFin bM := by rw [FP.Core.fin_bits]; decide +kernel
theorem bS_fin : FP.Core.DFin bS := by rw [FP.Core.fin_bits]; decide +kernel
theorem spd1 (z : Int32) : vf_n64 (FP.dmul bM (FP.i2d z)) := n64_of (FP.Core.dmul_out bM_fin (FP.Core.i2d_fin z))
theorem spd3 (z : Int64) : FP.Core.dIsNaN (FP.dmul bS (FP.l2d z)) = false := FP.Core.dmul_out bS_fin (FP.Core.l2d_fin z)
theorem spd3i (z : Int32) : FP.Core.dIsNaN (FP.dmul bS (FP.i2d z)) = false := FP.Core.dmul_out bS_fin (FP.Core.i2d_fin z)
theorem spdT : ∀ n, n < 6 → (FP.dmul (FP.i2d 1) (FP.dmul bM (FP.i2d (nI (n + 1))))).toNat % 2 ^ 63 < 9218868437227405312 ∧ (FP.dmul (FP.i2d 1) (FP.dmul bM (FP.i2d (nI (n + 1))))).toNat % 2 ^ 63 ≠ 0 ∧ (FP.dmul (FP.i2d (-1)) (FP.dmul bM (FP.i2d (nI (n + 1))))).toNat % 2 ^ 63 < 9218868437227405312 ∧ (FP.dmul (FP.i2d (-1)) (FP.dmul bM (FP.i2d (nI (n + 1))))).toNat % 2 ^ 63 ≠ 0 := by decide +kernel
theorem spdF {z f : Int32} (hz : vp_in z 7) (h0 : ¬ z = 0) (hf : f = 1 ∨ f = -1) : FP.Core.DFin (FP.dmul (FP.i2d f) (FP.dmul bM (FP.i2d z))) ∧ ¬ FP.Core.DZero (FP.dmul (FP.i2d f) (FP.dmul bM (FP.i2d z))) := by
  have h1 := tn_lt hz
  have h2 := tn_ne hz 0 h0
  obtain ⟨n, hn, e⟩ : ∃ n, n < 6 ∧ z = nI (n + 1) := ⟨tn z - 1, by omega, by rw [show tn z - 1 + 1 = tn z by omega]; exact tn_eq hz⟩
  subst e
  have h := spdT n hn
  rw [FP.Core.fin_bits, FP.Core.zero_bits2]
  rcases hf with rfl | rfl
  · exact ⟨h.1, h.2.1⟩
  · exact ⟨h.2.2.1, h.2.2.2⟩
theorem fin_no {a : UInt64} (h : FP.Core.DFin a) : FP.Core.dIsNaN a = false := by
  cases hc : FP.Core.dIsNaN a with
  | false => rfl
  | true =>
    have h1 := (FP.Core.isNaN_bits a).mp hc
    have h2 := (FP.Core.fin_bits a).mp h
    omega
theorem spd2 {z f : Int32} (hz : vp_in z 7) (h0 : ¬ z = 0) (hf : f = 1 ∨ f = -1) : vf_n64 (FP.dmul (FP.i2d f) (FP.dmul bM (FP.i2d z))) := n64_of (fin_no (spdF hz h0 hf).1)
theorem spd4 {z f : Int32} {r : UInt64} (hz : vp_in z 7) (h0 : ¬ z = 0) (hf : f = 1 ∨ f = -1) (hr : FP.Core.dIsNaN r = false) : vf_n64 (FP.ddiv (FP.dmul (FP.i2d f) (FP.dmul bM (FP.i2d z))) r) := n64_of (FP.Core.ddiv_out' (spdF hz h0 hf).1 (spdF hz h0 hf).2 hr)
theorem spd_or {z f : Int32} (h0 : ¬ z = 0) (hf : f = 1 ∨ f = -1 ∨ z = 0) : f = 1 ∨ f = -1 := by
  rcases hf with h | h | h
  · exact Or.inl h
  · exact Or.inr h
  · exact absurd h h0
