/-! throwing -/
abbrev exNames : List String := ["java/lang/RuntimeException", "java/lang/Exception"]
section Throws
variable {p : Program} {l : Launch} {e : Env} {R : Room} {s : State} {m : MethodId} {args : Array Value} {below : List Frame} {meth : Method} {c : Code} {H : Heap} {locs : List Loc} {cells slots : Nat}
variable {D : va_G} {tys : List (ClassId × FieldType)} {A : Nat → Prop} {ws : va_W} {pc : Nat} {ls : Array Slot} {rest : List Value} {cc : ByteArray}
theorem my_throw {PX : String → Prop} {W0 : va_W} {Qc : Array Value → State → Outcome → State → Prop} {cls text : String} {ik is_ ic mc ms : Nat} (hx : p.tables.exec = Jvm.exec) (hb : c.code = cc) (hlt : l.stackTraces = false) (hown : s.vm.findClass RX8 = some m.cls) (hcls : Bundle.fit cls = true) (hnm : ∀ n ∈ exNames, Bundle.fit n = true) (hk : (Cond.classLink RX8 ik cls).before args s = true) (hini : (Cond.initialized cls).before args s = true) (hstr : (is_, text) ∈ gSl) (hEl : cls ∈ gEl)
    (h1 : ∀ w ∈ (vx_atS RX8 ic cls exNames).filter goodWord, w.before args s = true) (h2 : ∀ w ∈ (vx_atS RX8 ic cls exNames).filter (fun w => !goodWord w), w ∈ [Cond.castable cls cls]) (hgood : ∀ w ∈ Cond.classLink RX8 ik cls :: Cond.initialized cls :: vx_atS RX8 ic cls exNames, vx_ot w = true)
    (hG : gG A s s.heap) (hS : va_S A s.heap H locs) (hsize : ls.size = c.maxLocals) (d0 : decode cc pc = .ok (.new ik, 3)) (d3 : decode cc (pc + 3) = .ok (.dup, 1)) (d4 : decode cc (pc + 4) = .ok (.ldc is_, 2)) (d6 : decode cc (pc + 6) = .ok (.invokespecial ic, 3)) (d9 : decode cc (pc + 9) = .ok (.athrow, 1)) (hte : ∀ x ∈ c.exceptionTable.toList, False)
    (hRf : 5 < R.frames) (hRl : (rest.map fun v => v.category).sum + 82 ≤ R.locals) (hRc : cells + 1 ≤ R.cells) (hRs : slots + 6 ≤ R.slots) (hlocks : meth.locks = false) (hK : va_K D vwCl tys s) (hP : va_P D vwCl ws H) (hD : va_D A ws) (is : List Nat) (hs : is.map (fun i => ws[i]?) = W0.map some) (hnd : va_nd is = true) (hp : PX cls) (hc : cells + 1 ≤ mc) (hsl : slots + 6 ≤ ms) :
    W p l e R s m args below meth c H locs cells slots (vx_MQ below Qc (vx_X (fun _ : Unit => True) (fun E _ t => PX E ∧ cPost D tys A W0 t) A) args s mc ms A) (F0 m pc ls rest) := by
  obtain ⟨sa, hsa⟩ := hG.1.2.1 _ hstr
  refine vx_throwS hx hb hlt hown hcls hnm hk hini hsa (vx_hat h1 h2 (vx_c (va_Nw.use rfl (hG.1.2.2.1 cls hEl)) vx_n)) hgood hG.2.2.2.2.2.1 hG.2.2.2.2.2.2 hS hsize d0 d3 d4 d6 d9 (fun x hx => (hte x hx).elim) hRf hRl hRc hRs hlocks (fun t hvm hz hq => ⟨(), trivial, ⟨hp, ?_, va_K.moved hvm hK, hD.sub is hnd hs⟩, Nat.le_trans hS.1 hz, fun q h1 h2 => (hq q (Nat.lt_of_lt_of_le h1 hS.1)).trans (hS.2.1 q h1 h2)⟩) hS.2.2 hc hsl
  have hP0 := hP.subm is hs
  exact hP0.kept (fun k q hk => hq q.1 ((hP0 k q hk).lt))
end Throws
theorem atS_IAE : ∀ w ∈ (vx_atS RX8 105 "java/lang/IllegalArgumentException" exNames).filter (fun w => !goodWord w), w ∈ [Cond.castable "java/lang/IllegalArgumentException" "java/lang/IllegalArgumentException"] := by decide +kernel
theorem atS_ISE : ∀ w ∈ (vx_atS RX8 67 "java/lang/IllegalStateException" exNames).filter (fun w => !goodWord w), w ∈ [Cond.castable "java/lang/IllegalStateException" "java/lang/IllegalStateException"] := by decide +kernel
theorem atS_IOE : ∀ w ∈ (vx_atS RX8 189 "java/lang/IndexOutOfBoundsException" exNames).filter (fun w => !goodWord w), w ∈ [Cond.castable "java/lang/IndexOutOfBoundsException" "java/lang/IndexOutOfBoundsException"] := by decide +kernel
