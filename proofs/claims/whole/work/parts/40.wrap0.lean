/-! worlds in two halves; methods with a table of their own -/
theorem nd_of_nodup : ∀ (l : List Nat), l.Nodup → va_nd l = true
  | [], _ => rfl
  | a :: l, h => by
    have h1 := List.nodup_cons.mp h
    have h2 := nd_of_nodup l h1.2
    simp [va_nd, h1.1, h2]
theorem sp_R (wr wc : va_W) : (List.range wr.length).map (fun i => (wr ++ wc)[i]?) = wr.map some := by
  apply List.ext_getElem?
  intro i
  rw [List.getElem?_map, List.getElem?_map]
  rcases Nat.lt_or_ge i wr.length with h | h
  · rw [List.getElem?_range h]
    simp [List.getElem?_append_left h, List.getElem?_eq_getElem h]
  · rw [List.getElem?_eq_none (by simpa using h), List.getElem?_eq_none h]
    rfl
theorem sp_C (wr wc : va_W) : ((List.range wc.length).map (fun i => wr.length + i)).map (fun i => (wr ++ wc)[i]?) = wc.map some := by
  apply List.ext_getElem?
  intro i
  rw [List.getElem?_map, List.getElem?_map, List.getElem?_map]
  rcases Nat.lt_or_ge i wc.length with h | h
  · rw [List.getElem?_range h]
    simp [List.getElem?_append_right, List.getElem?_eq_getElem h]
  · rw [List.getElem?_eq_none (by simpa using h), List.getElem?_eq_none h]
    rfl
theorem sp_nR (n : Nat) : va_nd (List.range n) = true := nd_of_nodup _ List.nodup_range
theorem sp_nodC (n k : Nat) : ((List.range n).map (fun i => k + i)).Nodup := by
  rw [List.nodup_iff_pairwise_ne, List.pairwise_map]
  exact (List.nodup_iff_pairwise_ne.mp List.nodup_range).imp (fun h => by omega)
theorem sp_nC (n k : Nat) : va_nd ((List.range n).map (fun i => k + i)) = true := nd_of_nodup _ (sp_nodC n k)
theorem sp_dis (n k : Nat) : ∀ i ∈ List.range k, i ∉ (List.range n).map (fun i => k + i) := by
  intro i hi hj
  obtain ⟨j, -, e⟩ := List.mem_map.mp hj
  have := List.mem_range.mp hi
  omega
theorem va_P.swp {D : va_G} {cl : List vw_C} {x y : va_W} {H : Heap} (h : va_P D cl (x ++ y) H) : va_P D cl (y ++ x) H := (h.subm _ (sp_C x y)).app (h.subm _ (sp_R x y))
theorem va_D.swp {A : Nat → Prop} {x y : va_W} (h : va_D A (x ++ y)) : va_D A (y ++ x) := by
  refine h.sub (((List.range y.length).map (fun i => x.length + i)) ++ List.range x.length) (nd_of_nodup _ ?_) ?_
  · rw [List.nodup_append]
    refine ⟨sp_nodC _ _, List.nodup_range, ?_⟩
    intro a ha b hb e
    subst e
    exact sp_dis y.length x.length a hb ha
  · rw [List.map_append, sp_C, sp_R, List.map_append]
abbrev eISE : String := "java/lang/IllegalStateException"
abbrev eIAE : String := "java/lang/IllegalArgumentException"
abbrev eIOE : String := "java/lang/IndexOutOfBoundsException"
def wPre (D : va_G) (tys : List (ClassId × FieldType)) (ws : va_W) (sz : Nat) : State → Prop := fun U => cPre D tys ws sz U ∧ va_Nc eISE eIAE U
theorem wPre.blind {D : va_G} {tys : List (ClassId × FieldType)} {ws : va_W} {sz : Nat} {av : List Value} : FrameBlind (va_Pc av (wPre D tys ws sz)) := fun a U g mk h => ⟨h.1, (cPre.blind (av := av) a U g mk ⟨h.1, h.2.1⟩).2, va_Nc.moved (u := U) (U := U.calling g mk a) (Vm.Alike.refl U.vm) h.2.2⟩
section WRows
variable {p : Program} {l : Launch} {e : Env} {R : Room} {s : State} {m : MethodId} {args : Array Value} {below : List Frame} {meth : Method} {c : Code} {H : Heap} {locs : List Loc} {cells slots : Nat} {Q : State → Prop}
variable {D : va_G} {tys : List (ClassId × FieldType)} {A : Nat → Prop} {ws : va_W} {pc : Nat} {ls : Array Slot} {rest st0 : List Value} {cc : ByteArray}
theorem my_metW {y : MethodName} {wl wl' : List Cond} {rm : Room} {av : List Value} {wc : va_W} {QC : (Nat → Prop) → Array Value → State → Outcome → State → Prop} {mc ms maxL : Nat} {ret : Option FieldType} {hh : List (Nat × Nat × Nat × Nat)} (hy : plainName y.cls = true) (hw : wl = Cond.codeWith y cc maxL ret hh :: wl') (hav : (lg_sl av).length ≤ maxL)
    (body : ∀ (p : Program) (e : Env) (s : State) (m : MethodId) (below : List Frame) (meth : Method) (c : Code) (ls : Array Slot) (A : Nat → Prop), p.tables.exec = Jvm.exec → c.code = cc → c.maxLocals = maxL → meth.sig.returnType = ret → (∀ w ∈ wl, w.before av.toArray s = true) → s.vm.findClass y.cls = some m.cls → meth.locks = false → c.exceptionTable.toList = tableOf hh → va_K D vwCl tys s → va_P D vwCl wc s.heap → va_D A wc → va_S A s.heap s.heap [] → (∀ q, s.heap.size ≤ q → A q) → gG A s s.heap → va_Nc eISE eIAE s → lv_has ls maxL (lv_args 0 av) →
      W p l e rm s m av.toArray below meth c s.heap [] 0 0 (MQ below (QC A) av.toArray s mc ms A) (F0 m 0 ls [])) : ∀ sz : Nat, Met l y wl rm (va_Pc av (wPre D tys wc sz)) (QC (va_A wc sz)) mc ms (va_A wc sz) := by
  intro sz
  refine va_MetW (cc := cc) (maxL := maxL) (ret := ret) (hh := hh) hy hw ?_
  intro p e s m args below meth c s₁ B hml hv
  obtain ⟨rfl, ⟨hsz, hP, hK, hD0, hG⟩, hN⟩ := hv
  have hl := lv_entry av (n := maxL) hav
  rw [lg_entry_eq]
  subst hsz
  have hts := atoms_spec (ws := wl) B.pre
  exact body p e s m below meth c _ (va_A wc s.heap.size) B.exec B.bytes hml B.returns hts (findClass_of_methodNamed B.named) B.notSynchronized (vx_table (x := y) B (hts _ (by rw [hw]; exact List.mem_cons_self))) hK hP hD0.self va_S.rf (fun q h => Or.inr h) hG hN hl
theorem my_callW_i {S : Type} {post : Int32 → S → Prop} {W' : S → va_W} {y : MethodName} {bytes : ByteArray} {maxL nL mc ms n index : Nat} {ret : Option FieldType} {hh : List (Nat × Nat × Nat × Nat)} {wl : List Cond} {rm : Room} {Ts : List Cond} {own : String} {As : List Value} {wc wr : va_W}
    (SF : CallFix p m c cc nL s args Ts own) (hM : Met l y wl rm (va_Pc As (wPre D tys wc H.size)) (va_Qi post (fun u => cPost D tys (va_A wc H.size) (W' u)) (va_A wc H.size)) mc ms (va_A wc H.size)) (cw : vx_CSW R s args own index y bytes maxL ret hh wl rm mc ms n)
    (hN : va_Nc eISE eIAE s) (hK : va_K D vwCl tys s) (hP : va_P D vwCl (wr ++ wc) H) (hD : va_D A (wr ++ wc)) (hS : va_S A s.heap H locs) (hA : ∀ q, s.heap.size ≤ q → A q) (hG : gG A s s.heap) (hn : As.length = n) (hsz : ls.size = nL) (hrest : (rest.map fun v => v.category).sum ≤ 8) (hst : st0 = As.reverse ++ rest) (hdg : decode cc pc = .ok (.invokestatic index, 3)) (hf : cells + mc ≤ R.cells ∧ slots + ms ≤ R.slots)
    (kk : ∀ (r : Int32) (u : S) (H1 : Heap) (locs1 : List Loc), post r u → va_P D vwCl (wr ++ W' u) H1 → va_D A (wr ++ W' u) → va_S A s.heap H1 locs1 → W p l e R s m args below meth c H1 locs1 (cells + mc) (slots + ms) Q (F0 m (pc + 3) ls (.int r :: rest))) : W p l e R s m args below meth c H locs cells slots Q (F0 m pc ls st0) := by
  subst hst
  have hFc := va_free hD hS hA _ (sp_C wr wc)
  refine va_calli (vx_runSW (As := As) (rest := rest) SF hM cw ⟨wPre.blind, fun U hU hW => ⟨rfl, cPre.at hK hP hD hS hA hG _ (sp_C wr wc) (sp_nC _ _) U hU hW, va_Nc.moved hW.alike hN⟩⟩ rfl hn hsz rfl (lv_room hrest) hdg hf) hS (fun q _ h => hFc q h) hFc (fun r u t H1 locs1 ht hvm hw hB hz1 hk1 hS1 => ?_)
  obtain ⟨hP1, hK1, hD1⟩ := hB
  rw [ht] at hP1
  obtain ⟨hP2, hD2⟩ := va_join hP hD _ _ (sp_C wr wc) (sp_R wr wc) (sp_nR _) (sp_dis _ _) hk1 hFc hP1 hD1
  exact kk r u H1 locs1 hw hP2 hD2 hS1
theorem my_last {a : Nat} (hx : p.tables.exec = Jvm.exec) (hb : c.code = cc) (hK : va_K D vwCl tys s) (hP : va_P D vwCl ws H) (hD : va_D A ws) (hS : va_S A s.heap H locs) (q0 t0 : Nat) {cA : ClassId} {f : Nat → Int64} (ha : ws[q0]? = some (a, .inl (cA, 1, .inr (.inl f)))) (ht : tys[t0]? = some (cA, .long)) {x : Int64} (hdg : decode cc pc = .ok (.lastore, 1))
    (kk : ∀ (H1 : Heap) (locs1 : List Loc), va_P D vwCl (ws.set q0 (a, .inl (cA, 1, .inr (.inl (vp_updL f 0 x))))) H1 → va_D A (ws.set q0 (a, .inl (cA, 1, .inr (.inl (vp_updL f 0 x))))) → va_S A s.heap H1 locs1 → W p l e R s m args below meth c H1 locs1 cells slots Q (F0 m (pc + 1) ls rest)) : W p l e R s m args below meth c H locs cells slots Q (F0 m pc ls (.long x :: .int 0 :: .ref a :: rest)) :=
  va_last hx hb hK hP hD hS q0 t0 ha ht (vp_in_nI (n := 0) (N := 1) (by decide) (by decide)) hdg kk
theorem my_lald {a : Nat} (hx : p.tables.exec = Jvm.exec) (hb : c.code = cc) (hK : va_K D vwCl tys s) (hP : va_P D vwCl ws H) (q0 t0 : Nat) {cA : ClassId} {f : Nat → Int64} (ha : ws[q0]? = some (a, .inl (cA, 1, .inr (.inl f)))) (ht : tys[t0]? = some (cA, .long)) (hdg : decode cc pc = .ok (.laload, 1))
    (kk : W p l e R s m args below meth c H locs cells slots Q (F0 m (pc + 1) ls (.long (f 0) :: rest))) : W p l e R s m args below meth c H locs cells slots Q (F0 m pc ls (.int 0 :: .ref a :: rest)) :=
  va_lald hx hb hK hP q0 t0 ha ht (vp_in_nI (n := 0) (N := 1) (by decide) (by decide)) hdg kk
end WRows
theorem sp_id (ws : va_W) : (List.range ws.length).map (fun i => ws[i]?) = ws.map some := by
  have h := sp_R ws []
  rw [List.append_nil] at h
  exact h
abbrev HS : Type := (Nat → Int32) × (Nat → Nat → Int32) × Nat × (Nat → Nat → Nat) × (Nat → Nat → Int32) × (Nat → Nat → Nat → Int32)
abbrev oxw (o0 : Nat) (f : Nat → Int64) (cJ : ClassId) (h0 hH hs c : Nat) (gs : Nat → Nat → Nat) (vs : Nat → Nat → Int32) (bs : Nat → Nat → Nat → Int32) (g : Nat → Nat) (v : Nat → Int32) (a : Nat → Nat → Int32) (cI cS : ClassId) : va_W := [(o0, .inl (cJ, 1, .inr (.inl f)))] ++ hcw h0 hH hs c gs vs bs g v a cI cS
