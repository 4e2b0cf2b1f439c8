/-! the law: its rows -/
abbrev lwA (s : State) : Nat → Prop := fun q => s.heap.size ≤ q
abbrev lwM (h9 a9 b9 : Nat) (np th ed : Int32) (hh : Int64) (w pf : Nat → Int32) (cI : ClassId) : va_W := [(h9, .inr (9, [.ref a9, .ref b9, .int np, .int th, .int ed, .long hh])), (a9, .inl (cI, 129, .inl w)), (b9, .inl (cI, 516, .inl pf))]
def LX (p : Program) (s : State) (m : MethodId) (c : Code) (D : va_G) (cI cJ cS : ClassId) (b L : Nat) (xs : Nat → Int32) : Prop := p.tables.exec = Jvm.exec ∧ c.code = cL_law ∧ c.maxLocals = 9 ∧ s.vm.findClass RL = some m.cls ∧ (∀ w ∈ wsL_law, w.before #[Value.ref b] s = true) ∧ va_X b L xs s s.heap ∧ b < s.heap.size ∧ va_K D vwCl (tyz cI cJ cS) s ∧ gG (lwA s) s s.heap ∧ va_Nc eISE eIAE s
section LawRows
variable {p : Program} {l : Launch} {e : Env} {s : State} {m : MethodId} {below : List Frame} {meth : Method} {c : Code} {Q : State → Prop} {D : va_G} {cI cJ cS : ClassId} {b L : Nat} {xs : Nat → Int32}
variable {H : Heap} {locs : List Loc} {cells slots : Nat} {ls : Array Slot} {rest : List Value}
theorem law_arg (X : LX p s m c D cI cJ cS b L xs) (hS : va_S (lwA s) s.heap H locs) {j T q : Nat} {n : Int} (hq : 4 * j + q < L) (hL : L ≤ 2048) (e0 : ls[0]? = some (.val (.ref b))) (e4 : ls[4]? = some (.val (.int (nI (4 * j))))) (d0 : decode cL_law T = .ok (.aload_n 0, 1)) (d1 : decode cL_law (T + 1) = .ok (.iload 4, 2)) (d3 : decode cL_law (T + 3) = .ok (.iconst n, 1)) (hn : Int32.ofInt n = nI q) (d4 : decode cL_law (T + 4) = .ok (.iadd, 1)) (d5 : decode cL_law (T + 5) = .ok (.iaload, 1))
    (kk : W p l e room_1 s m #[Value.ref b] below meth c H locs cells slots Q (F0 m (T + 6) ls (.int (xs (4 * j + q)) :: rest))) : W p l e room_1 s m #[Value.ref b] below meth c H locs cells slots Q (F0 m T ls rest) := by
  obtain ⟨hx, hb, hml, hown, hts, hX, hbl, hK, hG, hN⟩ := X
  refine lv_aload_n hx hb d0 rfl e0 ?_
  refine lv_iload hx hb d1 e4 ?_
  refine lv_iconst (v := nI q) hx hb d3 hn ?_
  refine my_iaddN hx hb (4 * j) q rfl rfl d4 ?_
  refine va_sld hx hb hX hbl (Nat.not_le.mpr hbl) hS (vp_in_nI hq (by omega)) d5 ?_
  rw [nI_clamp (by omega)]
  exact kk
theorem law_tail (X : LX p s m c D cI cJ cS b L xs) {h9 a9 b9 : Nat} {np th ed : Int32} {hh : Int64} {w pf : Nat → Int32} {o0 : Nat} {f : Nat → Int64} {h0 hH hs cn : Nat} {gs : Nat → Nat → Nat} {vs : Nat → Nat → Int32} {bs : Nat → Nat → Nat → Int32} {g : Nat → Nat} {v : Nat → Int32} {a : Nat → Nat → Int32} {i k r : Int32} {T : Nat} {off : Int} (hc : cells ≤ 1115) (hsl : slots ≤ 9621) (hoff : ((T + 28 : Nat) : Int) + off = ((1178 : Nat) : Int))
    (d0 : decode cL_law T = .ok (.aload_n 2, 1)) (d1 : decode cL_law (T + 1) = .ok (.invokevirtual 78, 3)) (d4 : decode cL_law (T + 4) = .ok (.iload 5, 2)) (d6 : decode cL_law (T + 6) = .ok (.if_icmp .eq 5, 3)) (d11 : decode cL_law (T + 11) = .ok (.iload 5, 2)) (d13 : decode cL_law (T + 13) = .ok (.ifCond .ne 15, 3)) (d16 : decode cL_law (T + 16) = .ok (.aload_n 3, 1)) (d17 : decode cL_law (T + 17) = .ok (.iconst 0, 1)) (d18 : decode cL_law (T + 18) = .ok (.laload, 1)) (d19 : decode cL_law (T + 19) = .ok (.iload 6, 2)) (d21 : decode cL_law (T + 21) = .ok (.i2l, 1)) (d22 : decode cL_law (T + 22) = .ok (.lcmp, 1)) (d23 : decode cL_law (T + 23) = .ok (.ifCond .eq 5, 3)) (d28 : decode cL_law (T + 28) = .ok (.goto off, 3))
    (hk : th = k) (hr : k = 0 → f 0 = r.toInt64) (hP : va_P D vwCl (lwM h9 a9 b9 np th ed hh w pf cI ++ oxw o0 f cJ h0 hH hs cn gs vs bs g v a cI cS) H) (hD : va_D (lwA s) (lwM h9 a9 b9 np th ed hh w pf cI ++ oxw o0 f cJ h0 hH hs cn gs vs bs g v a cI cS)) (hS : va_S (lwA s) s.heap H locs) (hl : lv_has ls 9 [(6, .int r), (5, .int k), (0, .ref b), (1, .ref h0), (2, .ref h9), (3, .ref o0), (4, .int i)])
    (kk : ∀ (H : Heap) (locs : List Loc), va_P D vwCl (lwM h9 a9 b9 np th ed hh w pf cI ++ oxw o0 f cJ h0 hH hs cn gs vs bs g v a cI cS) H → va_D (lwA s) (lwM h9 a9 b9 np th ed hh w pf cI ++ oxw o0 f cJ h0 hH hs cn gs vs bs g v a cI cS) → va_S (lwA s) s.heap H locs → W p l e room_1 s m #[Value.ref b] below meth c H locs cells slots Q (F0 m 1178 ls [])) : W p l e room_1 s m #[Value.ref b] below meth c H locs cells slots Q (F0 m T ls []) := by
  obtain ⟨hx, hb, hml, hown, hts, hX, hbl, hK, hG, hN⟩ := X
  refine lv_aload_n hx hb d0 rfl (lv_at hl 4 rfl) ?_
  refine my_callV_i (As := []) (rest := []) (wc := lwM h9 a9 b9 np th ed hh w pf cI) (wr := oxw o0 f cJ h0 hH hs cn gs vs bs g v a cI cS) ⟨hx, hb, hml, hown, hts⟩ (met_X9_thrown l D cI cJ cS h9 a9 b9 np th ed hh w pf _) (cwV 0 hts gL_law_X9_thrown rfl rfl rfl (by decide +kernel) ⟨Nat.le_of_ble_eq_true rfl, Nat.le_of_ble_eq_true rfl⟩) hK hP.swp hD.swp hS (fun _ h => h) hG _ _ (sp_C _ _) (sp_R _ _) (sp_nC _ _) (sp_nR _) (sp_dis _ _) 0 rfl rfl rfl hl.1 (Nat.le_of_ble_eq_true rfl) rfl d1 ⟨hc, hsl⟩ (fun r1 u H locs hw hP hD hS => ?_)
  have hP := hP.swp
  have hD := hD.swp
  obtain rfl : r1 = k := hw.trans hk
  refine lv_iload hx hb d4 (lv_at hl 1 rfl) ?_
  refine lv_icmp_eq (tgt := T + 11) hx hb d6 (by omega) (fun _ => ?_) (fun q => absurd rfl q)
  refine lv_iload hx hb d11 (lv_at hl 1 rfl) ?_
  refine lv_if_ne (tgt := T + 28) hx hb d13 (by omega) (fun _ => ?_) (fun q => ?_)
  · refine lv_goto (tgt := 1178) hx hb d28 hoff ?_
    exact kk H locs hP hD hS
  · refine lv_aload_n hx hb d16 rfl (lv_at hl 5 rfl) ?_
    refine lv_iconst (v := 0) hx hb d17 (by decide) ?_
    refine my_lald hx hb hK hP 3 1 rfl rfl d18 ?_
    refine lv_iload hx hb d19 (lv_at hl 0 rfl) ?_
    refine lv_i2l hx hb d21 rfl ?_
    refine W.lcmp hx hb d22 ?_
    have hz : lg_cmp (f 0) r.toInt64 = 0 := by
      rw [hr q]
      simp [lg_cmp]
    rw [hz]
    refine lv_if_eq (tgt := T + 28) hx hb d23 (by omega) (fun _ => ?_) (fun z => absurd rfl z)
    refine lv_goto (tgt := 1178) hx hb d28 hoff ?_
    exact kk H locs hP hD hS
end LawRows
