def LP_X9_waits : Nat → Int32 → Int32 → Int32 → Int64 → (Nat → Int32) → (Nat → Int32) → Int32 → Int32 → Nat → (Nat) × (Nat → Int32)
  | 0, _, _, _, _, w, _, _, _, i => (i, w)
  | n + 1, np, th, ed, hh, w, pf, t, b, i =>
    if nI i ≤ (0 : Int32) then
      (i, w)
    else
      if w ((49 + (2 * i)) - 2) ≤ t then
        (i, w)
      else
        LP_X9_waits n np th ed hh (upd (upd w (49 + (2 * i)) (w ((49 + (2 * i)) - 2))) ((49 + (2 * i)) + 1) ((upd w (49 + (2 * i)) (w ((49 + (2 * i)) - 2))) ((49 + (2 * i)) - 1))) pf t b (i - 1)
set_option maxHeartbeats 4000000 in
set_option maxRecDepth 100000 in
theorem lps_X9_waits {p : Program} (l : Launch) {e : Env} {R : Room} {s : State} {m : MethodId} {args : Array Value} {below : List Frame} {meth : Method} {c : Code} {A : Nat → Prop} {cells slots : Nat} {Q : State → Prop} (D : va_G) (cI cJ cS : ClassId) (hx : p.tables.exec = Jvm.exec) (hb : c.code = cX9_waits) (hml : c.maxLocals = 4) (hown : s.vm.findClass RX9 = some m.cls) (hts : ∀ w ∈ wsX9_waits, w.before args s = true) (hK : va_K D vwCl (tyz cI cJ cS) s) (hA : ∀ q, s.heap.size ≤ q → A q) (hG : gG A s s.heap) : ∀ (n : Nat) (h0 : Nat) (a0 : Nat) (b0 : Nat) (np : Int32) (th : Int32) (ed : Int32) (hh : Int64) (w : Nat → Int32) (pf : Nat → Int32) (t : Int32) (b : Int32) (i : Nat) (H : Heap) (locs : List Loc) (ls : Array Slot), (i < 40) → (i < n) → va_P D vwCl [(h0, .inr (9, [.ref a0, .ref b0, .int np, .int th, .int ed, .long hh])), (a0, .inl (cI, 129, .inl w)), (b0, .inl (cI, 516, .inl pf))] H → va_D A [(h0, .inr (9, [.ref a0, .ref b0, .int np, .int th, .int ed, .long hh])), (a0, .inl (cI, 129, .inl w)), (b0, .inl (cI, 516, .inl pf))] → va_S A s.heap H locs → lv_has ls 4 [(0, .ref h0), (1, .int t), (2, .int b), (3, .int (nI i))] → (∀ (y : (Nat) × (Nat → Int32)) (H : Heap) (locs : List Loc) (ls : Array Slot), y = LP_X9_waits n np th ed hh w pf t b i → (y.1 < 40) → va_P D vwCl [(h0, .inr (9, [.ref a0, .ref b0, .int np, .int th, .int ed, .long hh])), (a0, .inl (cI, 129, .inl y.2)), (b0, .inl (cI, 516, .inl pf))] H → va_D A [(h0, .inr (9, [.ref a0, .ref b0, .int np, .int th, .int ed, .long hh])), (a0, .inl (cI, 129, .inl y.2)), (b0, .inl (cI, 516, .inl pf))] → va_S A s.heap H locs → lv_has ls 4 [(0, .ref h0), (1, .int t), (2, .int b), (3, .int (nI y.1))] → W p l e R s m args below meth c H locs cells slots Q (F0 m 85 ls [])) → W p l e R s m args below meth c H locs cells slots Q (F0 m 8 ls []) := by
  have hk_7 := hts (.fieldLink RX9 7 "HallCommutatorModel" "s" "[I") (by decide +kernel)
  have hiX9 : ∀ w ∈ u_ws RX9 TX9 6, w ∈ wsX9_waits := by decide +kernel
  intro n
  induction n with
  | zero =>
    intro h0 a0 b0 np th ed hh w pf t b i H locs ls hi hm
    exact absurd hm (by omega)
  | succ n ih =>
    intro h0 a0 b0 np th ed hh w pf t b i H locs ls hi hm hP hD hS hl kk
    refine lv_iload_n hx hb dX9_waits_8 rfl (lv_at hl 3 rfl) ?_
    refine lv_if_le (tgt := 85) hx hb dX9_waits_9 (by decide) (fun c_1 => ?_) (fun c_1 => ?_)
    · skip
      exact kk (i, w) _ _ _ (by simp only [LP_X9_waits, if_pos c_1]) (hi) (hP.subm [0, 1, 2] rfl) (hD.sub [0, 1, 2] rfl rfl) hS (lv_sub hl [0, 1, 2, 3] rfl)
    · skip
      refine lv_aload_n hx hb dX9_waits_12 rfl (lv_at hl 0 rfl) ?_
      refine va_get (D := D) (ci := 9) (v := .ref a0) (C := RX9) (T := TX9) (N := 6) hx hb hts hiX9 hown hK hP 0 rfl rfl 0 (by decide) hk_7 (fun _ h9 => h9) rfl dX9_waits_13 ?_
      refine lv_bipush (v := 49) hx hb dX9_waits_16 (by decide) ?_
      refine lv_iconst (v := 2) hx hb dX9_waits_18 (by decide) ?_
      refine lv_iload_n hx hb dX9_waits_19 rfl (lv_at hl 3 rfl) ?_
      refine my_imulN hx hb 2 i rfl rfl dX9_waits_20 ?_
      refine my_iaddN hx hb 49 (2 * i) rfl rfl dX9_waits_21 ?_
      refine lv_iconst (v := 2) hx hb dX9_waits_22 (by decide) ?_
      refine my_isubN hx hb (49 + (2 * i)) 2 rfl rfl (by omega) dX9_waits_23 ?_
      refine my_iald hx hb hK hP 1 0 rfl rfl ((49 + (2 * i)) - 2) (rfl) (by have := nI_p0 c_1; omega) (by decide) dX9_waits_24 ?_
      refine lv_iload_n hx hb dX9_waits_25 rfl (lv_at hl 1 rfl) ?_
      refine lv_icmp_le (tgt := 85) hx hb dX9_waits_26 (by decide) (fun c_2 => ?_) (fun c_2 => ?_)
      · skip
        exact kk (i, w) _ _ _ (by simp only [LP_X9_waits, if_neg c_1, if_pos c_2]) (hi) (hP.subm [0, 1, 2] rfl) (hD.sub [0, 1, 2] rfl rfl) hS (lv_sub hl [0, 1, 2, 3] rfl)
      · skip
        refine lv_aload_n hx hb dX9_waits_29 rfl (lv_at hl 0 rfl) ?_
        refine va_get (D := D) (ci := 9) (v := .ref a0) (C := RX9) (T := TX9) (N := 6) hx hb hts hiX9 hown hK hP 0 rfl rfl 0 (by decide) hk_7 (fun _ h9 => h9) rfl dX9_waits_30 ?_
        refine lv_bipush (v := 49) hx hb dX9_waits_33 (by decide) ?_
        refine lv_iconst (v := 2) hx hb dX9_waits_35 (by decide) ?_
        refine lv_iload_n hx hb dX9_waits_36 rfl (lv_at hl 3 rfl) ?_
        refine my_imulN hx hb 2 i rfl rfl dX9_waits_37 ?_
        refine my_iaddN hx hb 49 (2 * i) rfl rfl dX9_waits_38 ?_
        refine lv_aload_n hx hb dX9_waits_39 rfl (lv_at hl 0 rfl) ?_
        refine va_get (D := D) (ci := 9) (v := .ref a0) (C := RX9) (T := TX9) (N := 6) hx hb hts hiX9 hown hK hP 0 rfl rfl 0 (by decide) hk_7 (fun _ h9 => h9) rfl dX9_waits_40 ?_
        refine lv_bipush (v := 49) hx hb dX9_waits_43 (by decide) ?_
        refine lv_iconst (v := 2) hx hb dX9_waits_45 (by decide) ?_
        refine lv_iload_n hx hb dX9_waits_46 rfl (lv_at hl 3 rfl) ?_
        refine my_imulN hx hb 2 i rfl rfl dX9_waits_47 ?_
        refine my_iaddN hx hb 49 (2 * i) rfl rfl dX9_waits_48 ?_
        refine lv_iconst (v := 2) hx hb dX9_waits_49 (by decide) ?_
        refine my_isubN hx hb (49 + (2 * i)) 2 rfl rfl (by omega) dX9_waits_50 ?_
        refine my_iald hx hb hK hP 1 0 rfl rfl ((49 + (2 * i)) - 2) (rfl) (by have := nI_p0 c_1; omega) (by decide) dX9_waits_51 ?_
        refine my_iast hx hb hK hP hD hS 1 0 rfl rfl (49 + (2 * i)) (rfl) (by omega) (by decide) dX9_waits_52 (fun H locs hP hD hS => ?_)
        have hP : va_P D vwCl [(h0, .inr (9, [.ref a0, .ref b0, .int np, .int th, .int ed, .long hh])), (a0, .inl (cI, 129, .inl (upd w (49 + (2 * i)) (w ((49 + (2 * i)) - 2))))), (b0, .inl (cI, 516, .inl pf))] H := hP
        have hD : va_D A [(h0, .inr (9, [.ref a0, .ref b0, .int np, .int th, .int ed, .long hh])), (a0, .inl (cI, 129, .inl (upd w (49 + (2 * i)) (w ((49 + (2 * i)) - 2))))), (b0, .inl (cI, 516, .inl pf))] := hD
        refine lv_aload_n hx hb dX9_waits_53 rfl (lv_at hl 0 rfl) ?_
        refine va_get (D := D) (ci := 9) (v := .ref a0) (C := RX9) (T := TX9) (N := 6) hx hb hts hiX9 hown hK hP 0 rfl rfl 0 (by decide) hk_7 (fun _ h9 => h9) rfl dX9_waits_54 ?_
        refine lv_bipush (v := 49) hx hb dX9_waits_57 (by decide) ?_
        refine lv_iconst (v := 2) hx hb dX9_waits_59 (by decide) ?_
        refine lv_iload_n hx hb dX9_waits_60 rfl (lv_at hl 3 rfl) ?_
        refine my_imulN hx hb 2 i rfl rfl dX9_waits_61 ?_
        refine my_iaddN hx hb 49 (2 * i) rfl rfl dX9_waits_62 ?_
        refine lv_iconst (v := 1) hx hb dX9_waits_63 (by decide) ?_
        refine my_iaddN hx hb (49 + (2 * i)) 1 rfl rfl dX9_waits_64 ?_
        refine lv_aload_n hx hb dX9_waits_65 rfl (lv_at hl 0 rfl) ?_
        refine va_get (D := D) (ci := 9) (v := .ref a0) (C := RX9) (T := TX9) (N := 6) hx hb hts hiX9 hown hK hP 0 rfl rfl 0 (by decide) hk_7 (fun _ h9 => h9) rfl dX9_waits_66 ?_
        refine lv_bipush (v := 49) hx hb dX9_waits_69 (by decide) ?_
        refine lv_iconst (v := 2) hx hb dX9_waits_71 (by decide) ?_
        refine lv_iload_n hx hb dX9_waits_72 rfl (lv_at hl 3 rfl) ?_
        refine my_imulN hx hb 2 i rfl rfl dX9_waits_73 ?_
        refine my_iaddN hx hb 49 (2 * i) rfl rfl dX9_waits_74 ?_
        refine lv_iconst (v := 1) hx hb dX9_waits_75 (by decide) ?_
        refine my_isubN hx hb (49 + (2 * i)) 1 rfl rfl (by omega) dX9_waits_76 ?_
        refine my_iald hx hb hK hP 1 0 rfl rfl ((49 + (2 * i)) - 1) (rfl) (by have := nI_p0 c_1; omega) (by decide) dX9_waits_77 ?_
        refine my_iast hx hb hK hP hD hS 1 0 rfl rfl ((49 + (2 * i)) + 1) (rfl) (by omega) (by decide) dX9_waits_78 (fun H locs hP hD hS => ?_)
        have hP : va_P D vwCl [(h0, .inr (9, [.ref a0, .ref b0, .int np, .int th, .int ed, .long hh])), (a0, .inl (cI, 129, .inl (upd (upd w (49 + (2 * i)) (w ((49 + (2 * i)) - 2))) ((49 + (2 * i)) + 1) ((upd w (49 + (2 * i)) (w ((49 + (2 * i)) - 2))) ((49 + (2 * i)) - 1))))), (b0, .inl (cI, 516, .inl pf))] H := hP
        have hD : va_D A [(h0, .inr (9, [.ref a0, .ref b0, .int np, .int th, .int ed, .long hh])), (a0, .inl (cI, 129, .inl (upd (upd w (49 + (2 * i)) (w ((49 + (2 * i)) - 2))) ((49 + (2 * i)) + 1) ((upd w (49 + (2 * i)) (w ((49 + (2 * i)) - 2))) ((49 + (2 * i)) - 1))))), (b0, .inl (cI, 516, .inl pf))] := hD
        refine lv_iinc (v := nI (i - 1)) (lv' := [(3, .int (nI (i - 1))), (0, .ref h0), (1, .int t), (2, .int b)]) hx hb dX9_waits_79 hl (k := 3) rfl (nI_m1 (nI_p0 c_1)) (by decide) rfl (fun ls hl => ?_)
        refine lv_goto (tgt := 8) hx hb dX9_waits_82 (by decide) ?_
        exact ih h0 a0 b0 np th ed hh (upd (upd w (49 + (2 * i)) (w ((49 + (2 * i)) - 2))) ((49 + (2 * i)) + 1) ((upd w (49 + (2 * i)) (w ((49 + (2 * i)) - 2))) ((49 + (2 * i)) - 1))) pf t b (i - 1) _ _ _ (by have := nI_p0 c_1; omega) (by have := nI_p0 c_1; omega) (hP.subm [0, 1, 2] rfl) (hD.sub [0, 1, 2] rfl rfl) hS (lv_sub hl [1, 2, 3, 0] rfl) (fun y H locs ls hy => kk y H locs ls (by rw [hy]; simp only [LP_X9_waits, if_neg c_1, if_neg c_2]))
def F_X9_waits (np : Int32) (th : Int32) (ed : Int32) (hh : Int64) (w : Nat → Int32) (pf : Nat → Int32) (t : Int32) (b : Int32) : (Nat → Int32) :=
  let q1 := LP_X9_waits 41 np th ed hh w pf t b (tn (w 48))
  (upd (upd (upd q1.2 (49 + (2 * q1.1)) t) ((49 + (2 * q1.1)) + 1) b) 48 (((upd (upd q1.2 (49 + (2 * q1.1)) t) ((49 + (2 * q1.1)) + 1) b) 48) + (1 : Int32)))
set_option maxHeartbeats 4000000 in
set_option maxRecDepth 100000 in
theorem met_X9_waits (l : Launch) (D : va_G) (cI cJ cS : ClassId) (h0 : Nat) (a0 : Nat) (b0 : Nat) (np : Int32) (th : Int32) (ed : Int32) (hh : Int64) (w : Nat → Int32) (pf : Nat → Int32) (t : Int32) (b : Int32) (hz : vp_in (w 48) 40) : ∀ sz : Nat, Met l yX9_waits wsX9_waits ({ frames := 0, cells := 0, slots := 0, locals := 0 } : Room) (va_Pc [.ref h0, .int t, .int b] (cPre D (tyz cI cJ cS) ([(h0, .inr (9, [.ref a0, .ref b0, .int np, .int th, .int ed, .long hh])), (a0, .inl (cI, 129, .inl w)), (b0, .inl (cI, 516, .inl pf))]) sz)) (va_Qv (fun (u : (Nat → Int32)) => u = F_X9_waits np th ed hh w pf t b) (fun u => cPost D (tyz cI cJ cS) (va_A ([(h0, .inr (9, [.ref a0, .ref b0, .int np, .int th, .int ed, .long hh])), (a0, .inl (cI, 129, .inl w)), (b0, .inl (cI, 516, .inl pf))]) sz) ([(h0, .inr (9, [.ref a0, .ref b0, .int np, .int th, .int ed, .long hh])), (a0, .inl (cI, 129, .inl u)), (b0, .inl (cI, 516, .inl pf))])) (va_A ([(h0, .inr (9, [.ref a0, .ref b0, .int np, .int th, .int ed, .long hh])), (a0, .inl (cI, 129, .inl w)), (b0, .inl (cI, 516, .inl pf))]) sz)) 0 0 (va_A ([(h0, .inr (9, [.ref a0, .ref b0, .int np, .int th, .int ed, .long hh])), (a0, .inl (cI, 129, .inl w)), (b0, .inl (cI, 516, .inl pf))]) sz) := by
  refine my_met (QC := fun A => (va_Qv (fun (u : (Nat → Int32)) => u = F_X9_waits np th ed hh w pf t b) (fun u => cPost D (tyz cI cJ cS) A ([(h0, .inr (9, [.ref a0, .ref b0, .int np, .int th, .int ed, .long hh])), (a0, .inl (cI, 129, .inl u)), (b0, .inl (cI, 516, .inl pf))])) A)) (cc := cX9_waits) (maxL := 4) (ret := none) (by decide) rfl (Nat.le_of_ble_eq_true rfl) ?_
  intro p e s m below meth c ls A hx hb hml hr hts hown hlocks hname hK hP hD hS hA hG hl
  have hown : s.vm.findClass RX9 = some m.cls := hown
  have hl : lv_has ls 4 [(0, .ref h0), (1, .int t), (2, .int b)] := hl
  have hP : va_P D vwCl [(h0, .inr (9, [.ref a0, .ref b0, .int np, .int th, .int ed, .long hh])), (a0, .inl (cI, 129, .inl w)), (b0, .inl (cI, 516, .inl pf))] s.heap := hP
  have hD : va_D A [(h0, .inr (9, [.ref a0, .ref b0, .int np, .int th, .int ed, .long hh])), (a0, .inl (cI, 129, .inl w)), (b0, .inl (cI, 516, .inl pf))] := hD
  have hiX9 : ∀ w ∈ u_ws RX9 TX9 6, w ∈ wsX9_waits := by decide +kernel
  have hk_7 := hts (.fieldLink RX9 7 "HallCommutatorModel" "s" "[I") (by decide +kernel)
  refine lv_aload_n hx hb dX9_waits_0 rfl (lv_at hl 0 rfl) ?_
  refine va_get (D := D) (ci := 9) (v := .ref a0) (C := RX9) (T := TX9) (N := 6) hx hb hts hiX9 hown hK hP 0 rfl rfl 0 (by decide) hk_7 (fun _ h9 => h9) rfl dX9_waits_1 ?_
  refine lv_bipush (v := 48) hx hb dX9_waits_4 (by decide) ?_
  refine my_iald hx hb hK hP 1 0 rfl rfl 48 (rfl) (by decide) (by decide) dX9_waits_6 ?_
  refine W.eq (g2 := F0 m 7 ls [.int (nI (tn (w 48)))]) (by rw [← tn_eq hz]) ?_
  refine lv_istore_n (lv' := [(3, .int (nI (tn (w 48)))), (0, .ref h0), (1, .int t), (2, .int b)]) hx hb dX9_waits_7 rfl hl (by decide) rfl (fun ls hl => ?_)
  refine lps_X9_waits l D cI cJ cS hx hb hml hown hts hK hA hG 41 h0 a0 b0 np th ed hh w pf t b (tn (w 48)) _ _ _ (tn_lt hz) (by have := tn_lt hz; omega) (hP.subm [0, 1, 2] rfl) (hD.sub [0, 1, 2] rfl rfl) hS (lv_sub hl [1, 2, 3, 0] rfl) (fun y_1 H locs ls hw_1 hq_1_h1 hP hD hS hl => ?_)
  obtain ⟨y_1_0, y_1_1⟩ := y_1
  have hq_1_h1 : y_1_0 < 40 := hq_1_h1
  have hl : lv_has ls 4 [(0, .ref h0), (1, .int t), (2, .int b), (3, .int (nI y_1_0))] := hl
  have hP : va_P D vwCl [(h0, .inr (9, [.ref a0, .ref b0, .int np, .int th, .int ed, .long hh])), (a0, .inl (cI, 129, .inl y_1_1)), (b0, .inl (cI, 516, .inl pf))] H := hP
  have hD : va_D A [(h0, .inr (9, [.ref a0, .ref b0, .int np, .int th, .int ed, .long hh])), (a0, .inl (cI, 129, .inl y_1_1)), (b0, .inl (cI, 516, .inl pf))] := hD
  refine lv_aload_n hx hb dX9_waits_85 rfl (lv_at hl 0 rfl) ?_
  refine va_get (D := D) (ci := 9) (v := .ref a0) (C := RX9) (T := TX9) (N := 6) hx hb hts hiX9 hown hK hP 0 rfl rfl 0 (by decide) hk_7 (fun _ h9 => h9) rfl dX9_waits_86 ?_
  refine lv_bipush (v := 49) hx hb dX9_waits_89 (by decide) ?_
  refine lv_iconst (v := 2) hx hb dX9_waits_91 (by decide) ?_
  refine lv_iload_n hx hb dX9_waits_92 rfl (lv_at hl 3 rfl) ?_
  refine my_imulN hx hb 2 y_1_0 rfl rfl dX9_waits_93 ?_
  refine my_iaddN hx hb 49 (2 * y_1_0) rfl rfl dX9_waits_94 ?_
  refine lv_iload_n hx hb dX9_waits_95 rfl (lv_at hl 1 rfl) ?_
  refine my_iast hx hb hK hP hD hS 1 0 rfl rfl (49 + (2 * y_1_0)) (rfl) (by have := hq_1_h1; omega) (by decide) dX9_waits_96 (fun H locs hP hD hS => ?_)
  have hP : va_P D vwCl [(h0, .inr (9, [.ref a0, .ref b0, .int np, .int th, .int ed, .long hh])), (a0, .inl (cI, 129, .inl (upd y_1_1 (49 + (2 * y_1_0)) t))), (b0, .inl (cI, 516, .inl pf))] H := hP
  have hD : va_D A [(h0, .inr (9, [.ref a0, .ref b0, .int np, .int th, .int ed, .long hh])), (a0, .inl (cI, 129, .inl (upd y_1_1 (49 + (2 * y_1_0)) t))), (b0, .inl (cI, 516, .inl pf))] := hD
  refine lv_aload_n hx hb dX9_waits_97 rfl (lv_at hl 0 rfl) ?_
  refine va_get (D := D) (ci := 9) (v := .ref a0) (C := RX9) (T := TX9) (N := 6) hx hb hts hiX9 hown hK hP 0 rfl rfl 0 (by decide) hk_7 (fun _ h9 => h9) rfl dX9_waits_98 ?_
  refine lv_bipush (v := 49) hx hb dX9_waits_101 (by decide) ?_
  refine lv_iconst (v := 2) hx hb dX9_waits_103 (by decide) ?_
  refine lv_iload_n hx hb dX9_waits_104 rfl (lv_at hl 3 rfl) ?_
  refine my_imulN hx hb 2 y_1_0 rfl rfl dX9_waits_105 ?_
  refine my_iaddN hx hb 49 (2 * y_1_0) rfl rfl dX9_waits_106 ?_
  refine lv_iconst (v := 1) hx hb dX9_waits_107 (by decide) ?_
  refine my_iaddN hx hb (49 + (2 * y_1_0)) 1 rfl rfl dX9_waits_108 ?_
  refine lv_iload_n hx hb dX9_waits_109 rfl (lv_at hl 2 rfl) ?_
  refine my_iast hx hb hK hP hD hS 1 0 rfl rfl ((49 + (2 * y_1_0)) + 1) (rfl) (by have := hq_1_h1; omega) (by decide) dX9_waits_110 (fun H locs hP hD hS => ?_)
  have hP : va_P D vwCl [(h0, .inr (9, [.ref a0, .ref b0, .int np, .int th, .int ed, .long hh])), (a0, .inl (cI, 129, .inl (upd (upd y_1_1 (49 + (2 * y_1_0)) t) ((49 + (2 * y_1_0)) + 1) b))), (b0, .inl (cI, 516, .inl pf))] H := hP
  have hD : va_D A [(h0, .inr (9, [.ref a0, .ref b0, .int np, .int th, .int ed, .long hh])), (a0, .inl (cI, 129, .inl (upd (upd y_1_1 (49 + (2 * y_1_0)) t) ((49 + (2 * y_1_0)) + 1) b))), (b0, .inl (cI, 516, .inl pf))] := hD
  refine lv_aload_n hx hb dX9_waits_111 rfl (lv_at hl 0 rfl) ?_
  refine va_get (D := D) (ci := 9) (v := .ref a0) (C := RX9) (T := TX9) (N := 6) hx hb hts hiX9 hown hK hP 0 rfl rfl 0 (by decide) hk_7 (fun _ h9 => h9) rfl dX9_waits_112 ?_
  refine lv_bipush (v := 48) hx hb dX9_waits_115 (by decide) ?_
  refine lv_dup2_11 hx hb dX9_waits_117 rfl rfl ?_
  refine my_iald hx hb hK hP 1 0 rfl rfl 48 (rfl) (by decide) (by decide) dX9_waits_118 ?_
  refine lv_iconst (v := 1) hx hb dX9_waits_119 (by decide) ?_
  refine lv_iadd hx hb dX9_waits_120 ?_
  refine my_iast hx hb hK hP hD hS 1 0 rfl rfl 48 (rfl) (by decide) (by decide) dX9_waits_121 (fun H locs hP hD hS => ?_)
  have hP : va_P D vwCl [(h0, .inr (9, [.ref a0, .ref b0, .int np, .int th, .int ed, .long hh])), (a0, .inl (cI, 129, .inl (upd (upd (upd y_1_1 (49 + (2 * y_1_0)) t) ((49 + (2 * y_1_0)) + 1) b) 48 (((upd (upd y_1_1 (49 + (2 * y_1_0)) t) ((49 + (2 * y_1_0)) + 1) b) 48) + (1 : Int32))))), (b0, .inl (cI, 516, .inl pf))] H := hP
  have hD : va_D A [(h0, .inr (9, [.ref a0, .ref b0, .int np, .int th, .int ed, .long hh])), (a0, .inl (cI, 129, .inl (upd (upd (upd y_1_1 (49 + (2 * y_1_0)) t) ((49 + (2 * y_1_0)) + 1) b) 48 (((upd (upd y_1_1 (49 + (2 * y_1_0)) t) ((49 + (2 * y_1_0)) + 1) b) 48) + (1 : Int32))))), (b0, .inl (cI, 516, .inl pf))] := hD
  exact my_vret hx hb hr hlocks hK hP hD hS (upd (upd (upd y_1_1 (49 + (2 * y_1_0)) t) ((49 + (2 * y_1_0)) + 1) b) 48 (((upd (upd y_1_1 (49 + (2 * y_1_0)) t) ((49 + (2 * y_1_0)) + 1) b) 48) + (1 : Int32))) (by show (upd (upd (upd y_1_1 (49 + (2 * y_1_0)) t) ((49 + (2 * y_1_0)) + 1) b) 48 (((upd (upd y_1_1 (49 + (2 * y_1_0)) t) ((49 + (2 * y_1_0)) + 1) b) 48) + (1 : Int32))) = F_X9_waits np th ed hh w pf t b; simp only [F_X9_waits, ← hw_1]) [0, 1, 2] rfl rfl dX9_waits_122
def LP_X9_due1 : Nat → Int32 → Int32 → Int32 → Int64 → (Nat → Int32) → (Nat → Int32) → Int32 → Nat → (Nat) × (Nat → Int32)
  | 0, _, _, _, _, w, _, _, i => (i, w)
  | n + 1, np, th, ed, hh, w, pf, zz, i =>
    if zz ≤ nI i then
      (i, w)
    else
      if w (49 + (2 * i)) = w 0 then
        LP_X9_due1 n np th ed hh (upd w 7 (w ((49 + (2 * i)) + 1))) pf zz (i + 1)
      else
        (i, w)
set_option maxHeartbeats 4000000 in
set_option maxRecDepth 100000 in
theorem lps_X9_due1 {p : Program} (l : Launch) {e : Env} {R : Room} {s : State} {m : MethodId} {args : Array Value} {below : List Frame} {meth : Method} {c : Code} {A : Nat → Prop} {cells slots : Nat} {Q : State → Prop} (D : va_G) (cI cJ cS : ClassId) (hx : p.tables.exec = Jvm.exec) (hb : c.code = cX9_due) (hml : c.maxLocals = 3) (hown : s.vm.findClass RX9 = some m.cls) (hts : ∀ w ∈ wsX9_due, w.before args s = true) (hK : va_K D vwCl (tyz cI cJ cS) s) (hA : ∀ q, s.heap.size ≤ q → A q) (hG : gG A s s.heap) : ∀ (n : Nat) (h0 : Nat) (a0 : Nat) (b0 : Nat) (np : Int32) (th : Int32) (ed : Int32) (hh : Int64) (w : Nat → Int32) (pf : Nat → Int32) (zz : Int32) (i : Nat) (H : Heap) (locs : List Loc) (ls : Array Slot), (vp_in zz 41) → (w 48 = zz) → (i ≤ tn zz) → (tn zz < i + n) → va_P D vwCl [(h0, .inr (9, [.ref a0, .ref b0, .int np, .int th, .int ed, .long hh])), (a0, .inl (cI, 129, .inl w)), (b0, .inl (cI, 516, .inl pf))] H → va_D A [(h0, .inr (9, [.ref a0, .ref b0, .int np, .int th, .int ed, .long hh])), (a0, .inl (cI, 129, .inl w)), (b0, .inl (cI, 516, .inl pf))] → va_S A s.heap H locs → lv_has ls 3 [(0, .ref h0), (1, .int (nI i))] → (∀ (y : (Nat) × (Nat → Int32)) (H : Heap) (locs : List Loc) (ls : Array Slot), y = LP_X9_due1 n np th ed hh w pf zz i → (y.1 ≤ tn zz) → (y.2 48 = zz) → va_P D vwCl [(h0, .inr (9, [.ref a0, .ref b0, .int np, .int th, .int ed, .long hh])), (a0, .inl (cI, 129, .inl y.2)), (b0, .inl (cI, 516, .inl pf))] H → va_D A [(h0, .inr (9, [.ref a0, .ref b0, .int np, .int th, .int ed, .long hh])), (a0, .inl (cI, 129, .inl y.2)), (b0, .inl (cI, 516, .inl pf))] → va_S A s.heap H locs → lv_has ls 3 [(0, .ref h0), (1, .int (nI y.1))] → W p l e R s m args below meth c H locs cells slots Q (F0 m 59 ls [])) → W p l e R s m args below meth c H locs cells slots Q (F0 m 2 ls []) := by
  have hk_7 := hts (.fieldLink RX9 7 "HallCommutatorModel" "s" "[I") (by decide +kernel)
  have hiX9 : ∀ w ∈ u_ws RX9 TX9 6, w ∈ wsX9_due := by decide +kernel
  intro n
  induction n with
  | zero =>
    intro h0 a0 b0 np th ed hh w pf zz i H locs ls hz hw hi hm
    exact absurd hm (by omega)
  | succ n ih =>
    intro h0 a0 b0 np th ed hh w pf zz i H locs ls hz hw hi hm hP hD hS hl kk
    refine lv_iload_n hx hb dX9_due_2 rfl (lv_at hl 1 rfl) ?_
    refine lv_aload_n hx hb dX9_due_3 rfl (lv_at hl 0 rfl) ?_
    refine va_get (D := D) (ci := 9) (v := .ref a0) (C := RX9) (T := TX9) (N := 6) hx hb hts hiX9 hown hK hP 0 rfl rfl 0 (by decide) hk_7 (fun _ h9 => h9) rfl dX9_due_4 ?_
    refine lv_bipush (v := 48) hx hb dX9_due_7 (by decide) ?_
    refine my_iald hx hb hK hP 1 0 rfl rfl 48 (rfl) (by decide) (by decide) dX9_due_9 ?_
    refine W.eq (g2 := F0 m 10 ls [.int zz, .int (nI i)]) (by rw [hw]) ?_
    refine lv_icmp_ge (tgt := 59) hx hb dX9_due_10 (by decide) (fun c_1 => ?_) (fun c_1 => ?_)
    · skip
      exact kk (i, w) _ _ _ (by simp only [LP_X9_due1, if_pos c_1]) (hi) (hw) (hP.subm [0, 1, 2] rfl) (hD.sub [0, 1, 2] rfl rfl) hS (lv_sub hl [0, 1] rfl)
    · skip
      refine lv_aload_n hx hb dX9_due_13 rfl (lv_at hl 0 rfl) ?_
      refine va_get (D := D) (ci := 9) (v := .ref a0) (C := RX9) (T := TX9) (N := 6) hx hb hts hiX9 hown hK hP 0 rfl rfl 0 (by decide) hk_7 (fun _ h9 => h9) rfl dX9_due_14 ?_
      refine lv_bipush (v := 49) hx hb dX9_due_17 (by decide) ?_
      refine lv_iconst (v := 2) hx hb dX9_due_19 (by decide) ?_
      refine lv_iload_n hx hb dX9_due_20 rfl (lv_at hl 1 rfl) ?_
      refine my_imulN hx hb 2 i rfl rfl dX9_due_21 ?_
      refine my_iaddN hx hb 49 (2 * i) rfl rfl dX9_due_22 ?_
      refine my_iald hx hb hK hP 1 0 rfl rfl (49 + (2 * i)) (rfl) (by have := nz_lt hz hi c_1; have := tn_lt hz; omega) (by decide) dX9_due_23 ?_
      refine lv_aload_n hx hb dX9_due_24 rfl (lv_at hl 0 rfl) ?_
      refine va_get (D := D) (ci := 9) (v := .ref a0) (C := RX9) (T := TX9) (N := 6) hx hb hts hiX9 hown hK hP 0 rfl rfl 0 (by decide) hk_7 (fun _ h9 => h9) rfl dX9_due_25 ?_
      refine lv_iconst (v := 0) hx hb dX9_due_28 (by decide) ?_
      refine my_iald hx hb hK hP 1 0 rfl rfl 0 (rfl) (by decide) (by decide) dX9_due_29 ?_
      refine lv_icmp_ne (tgt := 59) hx hb dX9_due_30 (by decide) (fun c_2 => ?_) (fun c_2 => ?_)
      · skip
        exact kk (i, w) _ _ _ (by simp only [LP_X9_due1, if_neg c_1, if_neg c_2]) (hi) (hw) (hP.subm [0, 1, 2] rfl) (hD.sub [0, 1, 2] rfl rfl) hS (lv_sub hl [0, 1] rfl)
      · skip
        refine lv_aload_n hx hb dX9_due_33 rfl (lv_at hl 0 rfl) ?_
        refine va_get (D := D) (ci := 9) (v := .ref a0) (C := RX9) (T := TX9) (N := 6) hx hb hts hiX9 hown hK hP 0 rfl rfl 0 (by decide) hk_7 (fun _ h9 => h9) rfl dX9_due_34 ?_
        refine lv_bipush (v := 7) hx hb dX9_due_37 (by decide) ?_
        refine lv_aload_n hx hb dX9_due_39 rfl (lv_at hl 0 rfl) ?_
        refine va_get (D := D) (ci := 9) (v := .ref a0) (C := RX9) (T := TX9) (N := 6) hx hb hts hiX9 hown hK hP 0 rfl rfl 0 (by decide) hk_7 (fun _ h9 => h9) rfl dX9_due_40 ?_
        refine lv_bipush (v := 49) hx hb dX9_due_43 (by decide) ?_
        refine lv_iconst (v := 2) hx hb dX9_due_45 (by decide) ?_
        refine lv_iload_n hx hb dX9_due_46 rfl (lv_at hl 1 rfl) ?_
        refine my_imulN hx hb 2 i rfl rfl dX9_due_47 ?_
        refine my_iaddN hx hb 49 (2 * i) rfl rfl dX9_due_48 ?_
        refine lv_iconst (v := 1) hx hb dX9_due_49 (by decide) ?_
        refine my_iaddN hx hb (49 + (2 * i)) 1 rfl rfl dX9_due_50 ?_
        refine my_iald hx hb hK hP 1 0 rfl rfl ((49 + (2 * i)) + 1) (rfl) (by have := nz_lt hz hi c_1; have := tn_lt hz; omega) (by decide) dX9_due_51 ?_
        refine my_iast hx hb hK hP hD hS 1 0 rfl rfl 7 (rfl) (by decide) (by decide) dX9_due_52 (fun H locs hP hD hS => ?_)
        have hP : va_P D vwCl [(h0, .inr (9, [.ref a0, .ref b0, .int np, .int th, .int ed, .long hh])), (a0, .inl (cI, 129, .inl (upd w 7 (w ((49 + (2 * i)) + 1))))), (b0, .inl (cI, 516, .inl pf))] H := hP
        have hD : va_D A [(h0, .inr (9, [.ref a0, .ref b0, .int np, .int th, .int ed, .long hh])), (a0, .inl (cI, 129, .inl (upd w 7 (w ((49 + (2 * i)) + 1))))), (b0, .inl (cI, 516, .inl pf))] := hD
        refine lv_iinc (v := nI (i + 1)) (lv' := [(1, .int (nI (i + 1))), (0, .ref h0)]) hx hb dX9_due_53 hl (k := 1) rfl (nI_1 _) (by decide) rfl (fun ls hl => ?_)
        refine lv_goto (tgt := 2) hx hb dX9_due_56 (by decide) ?_
        exact ih h0 a0 b0 np th ed hh (upd w 7 (w ((49 + (2 * i)) + 1))) pf zz (i + 1) _ _ _ (hz) (hw) (nz_lt hz hi c_1) (by omega) (hP.subm [0, 1, 2] rfl) (hD.sub [0, 1, 2] rfl rfl) hS (lv_sub hl [1, 0] rfl) (fun y H locs ls hy => kk y H locs ls (by rw [hy]; simp only [LP_X9_due1, if_neg c_1, if_pos c_2]))
def LP_X9_due2 : Nat → Int32 → Int32 → Int32 → Int64 → (Nat → Int32) → (Nat → Int32) → Int32 → Nat → Nat → (Nat) × (Nat → Int32)
  | 0, _, _, _, _, w, _, _, _, i => (i, w)
  | n + 1, np, th, ed, hh, w, pf, zz, d, i =>
    if nI (2 * (tn zz)) ≤ nI i then
      (i, w)
    else
      LP_X9_due2 n np th ed hh (upd w ((49 + i) - (2 * d)) (w (49 + i))) pf zz d (i + 1)
set_option maxHeartbeats 4000000 in
set_option maxRecDepth 100000 in
theorem lps_X9_due2 {p : Program} (l : Launch) {e : Env} {R : Room} {s : State} {m : MethodId} {args : Array Value} {below : List Frame} {meth : Method} {c : Code} {A : Nat → Prop} {cells slots : Nat} {Q : State → Prop} (D : va_G) (cI cJ cS : ClassId) (hx : p.tables.exec = Jvm.exec) (hb : c.code = cX9_due) (hml : c.maxLocals = 3) (hown : s.vm.findClass RX9 = some m.cls) (hts : ∀ w ∈ wsX9_due, w.before args s = true) (hK : va_K D vwCl (tyz cI cJ cS) s) (hA : ∀ q, s.heap.size ≤ q → A q) (hG : gG A s s.heap) : ∀ (n : Nat) (h0 : Nat) (a0 : Nat) (b0 : Nat) (np : Int32) (th : Int32) (ed : Int32) (hh : Int64) (w : Nat → Int32) (pf : Nat → Int32) (zz : Int32) (d : Nat) (i : Nat) (H : Heap) (locs : List Loc) (ls : Array Slot), (vp_in zz 41) → (w 48 = zz) → (2 * d ≤ i) → (i ≤ 2 * tn zz) → (2 * tn zz < i + n) → va_P D vwCl [(h0, .inr (9, [.ref a0, .ref b0, .int np, .int th, .int ed, .long hh])), (a0, .inl (cI, 129, .inl w)), (b0, .inl (cI, 516, .inl pf))] H → va_D A [(h0, .inr (9, [.ref a0, .ref b0, .int np, .int th, .int ed, .long hh])), (a0, .inl (cI, 129, .inl w)), (b0, .inl (cI, 516, .inl pf))] → va_S A s.heap H locs → lv_has ls 3 [(0, .ref h0), (1, .int (nI d)), (2, .int (nI i))] → (∀ (y : (Nat) × (Nat → Int32)) (H : Heap) (locs : List Loc) (ls : Array Slot), y = LP_X9_due2 n np th ed hh w pf zz d i → va_P D vwCl [(h0, .inr (9, [.ref a0, .ref b0, .int np, .int th, .int ed, .long hh])), (a0, .inl (cI, 129, .inl y.2)), (b0, .inl (cI, 516, .inl pf))] H → va_D A [(h0, .inr (9, [.ref a0, .ref b0, .int np, .int th, .int ed, .long hh])), (a0, .inl (cI, 129, .inl y.2)), (b0, .inl (cI, 516, .inl pf))] → va_S A s.heap H locs → lv_has ls 3 [(0, .ref h0), (1, .int (nI d)), (2, .int (nI y.1))] → W p l e R s m args below meth c H locs cells slots Q (F0 m 108 ls [])) → W p l e R s m args below meth c H locs cells slots Q (F0 m 67 ls []) := by
  have hk_7 := hts (.fieldLink RX9 7 "HallCommutatorModel" "s" "[I") (by decide +kernel)
  have hiX9 : ∀ w ∈ u_ws RX9 TX9 6, w ∈ wsX9_due := by decide +kernel
  intro n
  induction n with
  | zero =>
    intro h0 a0 b0 np th ed hh w pf zz d i H locs ls hz hw hd hi hm
    exact absurd hm (by omega)
  | succ n ih =>
    intro h0 a0 b0 np th ed hh w pf zz d i H locs ls hz hw hd hi hm hP hD hS hl kk
    refine lv_iload_n hx hb dX9_due_67 rfl (lv_at hl 2 rfl) ?_
    refine lv_iconst (v := 2) hx hb dX9_due_68 (by decide) ?_
    refine lv_aload_n hx hb dX9_due_69 rfl (lv_at hl 0 rfl) ?_
    refine va_get (D := D) (ci := 9) (v := .ref a0) (C := RX9) (T := TX9) (N := 6) hx hb hts hiX9 hown hK hP 0 rfl rfl 0 (by decide) hk_7 (fun _ h9 => h9) rfl dX9_due_70 ?_
    refine lv_bipush (v := 48) hx hb dX9_due_73 (by decide) ?_
    refine my_iald hx hb hK hP 1 0 rfl rfl 48 (rfl) (by decide) (by decide) dX9_due_75 ?_
    refine W.eq (g2 := F0 m 76 ls [.int (nI (tn zz)), .int (2 : Int32), .int (nI i)]) (by rw [hw, ← tn_eq hz]) ?_
    refine my_imulN hx hb 2 (tn zz) rfl rfl dX9_due_76 ?_
    refine lv_icmp_ge (tgt := 108) hx hb dX9_due_77 (by decide) (fun c_1 => ?_) (fun c_1 => ?_)
    · skip
      exact kk (i, w) _ _ _ (by simp only [LP_X9_due2, if_pos c_1]) (hP.subm [0, 1, 2] rfl) (hD.sub [0, 1, 2] rfl rfl) hS (lv_sub hl [0, 1, 2] rfl)
    · skip
      refine lv_aload_n hx hb dX9_due_80 rfl (lv_at hl 0 rfl) ?_
      refine va_get (D := D) (ci := 9) (v := .ref a0) (C := RX9) (T := TX9) (N := 6) hx hb hts hiX9 hown hK hP 0 rfl rfl 0 (by decide) hk_7 (fun _ h9 => h9) rfl dX9_due_81 ?_
      refine lv_bipush (v := 49) hx hb dX9_due_84 (by decide) ?_
      refine lv_iload_n hx hb dX9_due_86 rfl (lv_at hl 2 rfl) ?_
      refine my_iaddN hx hb 49 i rfl rfl dX9_due_87 ?_
      refine lv_iconst (v := 2) hx hb dX9_due_88 (by decide) ?_
      refine lv_iload_n hx hb dX9_due_89 rfl (lv_at hl 1 rfl) ?_
      refine my_imulN hx hb 2 d rfl rfl dX9_due_90 ?_
      refine my_isubN hx hb (49 + i) (2 * d) rfl rfl (by omega) dX9_due_91 ?_
      refine lv_aload_n hx hb dX9_due_92 rfl (lv_at hl 0 rfl) ?_
      refine va_get (D := D) (ci := 9) (v := .ref a0) (C := RX9) (T := TX9) (N := 6) hx hb hts hiX9 hown hK hP 0 rfl rfl 0 (by decide) hk_7 (fun _ h9 => h9) rfl dX9_due_93 ?_
      refine lv_bipush (v := 49) hx hb dX9_due_96 (by decide) ?_
      refine lv_iload_n hx hb dX9_due_98 rfl (lv_at hl 2 rfl) ?_
      refine my_iaddN hx hb 49 i rfl rfl dX9_due_99 ?_
      refine my_iald hx hb hK hP 1 0 rfl rfl (49 + i) (rfl) (by have := nI_nle_lt (a := 2 * tn zz) (by have := tn_lt hz; omega) c_1; have := tn_lt hz; omega) (by decide) dX9_due_100 ?_
      refine my_iast hx hb hK hP hD hS 1 0 rfl rfl ((49 + i) - (2 * d)) (rfl) (by have := nI_nle_lt (a := 2 * tn zz) (by have := tn_lt hz; omega) c_1; have := tn_lt hz; omega) (by decide) dX9_due_101 (fun H locs hP hD hS => ?_)
      have hP : va_P D vwCl [(h0, .inr (9, [.ref a0, .ref b0, .int np, .int th, .int ed, .long hh])), (a0, .inl (cI, 129, .inl (upd w ((49 + i) - (2 * d)) (w (49 + i))))), (b0, .inl (cI, 516, .inl pf))] H := hP
      have hD : va_D A [(h0, .inr (9, [.ref a0, .ref b0, .int np, .int th, .int ed, .long hh])), (a0, .inl (cI, 129, .inl (upd w ((49 + i) - (2 * d)) (w (49 + i))))), (b0, .inl (cI, 516, .inl pf))] := hD
      refine lv_iinc (v := nI (i + 1)) (lv' := [(2, .int (nI (i + 1))), (0, .ref h0), (1, .int (nI d))]) hx hb dX9_due_102 hl (k := 2) rfl (nI_1 _) (by decide) rfl (fun ls hl => ?_)
      refine lv_goto (tgt := 67) hx hb dX9_due_105 (by decide) ?_
      exact ih h0 a0 b0 np th ed hh (upd w ((49 + i) - (2 * d)) (w (49 + i))) pf zz d (i + 1) _ _ _ (hz) (by rw [pk_un (by omega)]; exact hw) (by omega) (by have := nI_nle_lt (a := 2 * tn zz) (by have := tn_lt hz; omega) c_1; omega) (by omega) (hP.subm [0, 1, 2] rfl) (hD.sub [0, 1, 2] rfl rfl) hS (lv_sub hl [1, 2, 0] rfl) (fun y H locs ls hy => kk y H locs ls (by rw [hy]; simp only [LP_X9_due2, if_neg c_1]))
def F_X9_due (np : Int32) (th : Int32) (ed : Int32) (hh : Int64) (w : Nat → Int32) (pf : Nat → Int32) : (Nat → Int32) :=
  let q1 := LP_X9_due1 41 np th ed hh w pf (w 48) 0
  if nI q1.1 ≤ (0 : Int32) then
    (q1.2)
  else
    let q3 := LP_X9_due2 82 np th ed hh q1.2 pf (w 48) q1.1 (2 * q1.1)
    (upd q3.2 48 ((q3.2 48) - (nI q1.1)))
set_option maxHeartbeats 4000000 in
set_option maxRecDepth 100000 in
theorem met_X9_due (l : Launch) (D : va_G) (cI cJ cS : ClassId) (h0 : Nat) (a0 : Nat) (b0 : Nat) (np : Int32) (th : Int32) (ed : Int32) (hh : Int64) (w : Nat → Int32) (pf : Nat → Int32) (hz : vp_in (w 48) 41) : ∀ sz : Nat, Met l yX9_due wsX9_due ({ frames := 0, cells := 0, slots := 0, locals := 0 } : Room) (va_Pc [.ref h0] (cPre D (tyz cI cJ cS) ([(h0, .inr (9, [.ref a0, .ref b0, .int np, .int th, .int ed, .long hh])), (a0, .inl (cI, 129, .inl w)), (b0, .inl (cI, 516, .inl pf))]) sz)) (va_Qv (fun (u : (Nat → Int32)) => u = F_X9_due np th ed hh w pf) (fun u => cPost D (tyz cI cJ cS) (va_A ([(h0, .inr (9, [.ref a0, .ref b0, .int np, .int th, .int ed, .long hh])), (a0, .inl (cI, 129, .inl w)), (b0, .inl (cI, 516, .inl pf))]) sz) ([(h0, .inr (9, [.ref a0, .ref b0, .int np, .int th, .int ed, .long hh])), (a0, .inl (cI, 129, .inl u)), (b0, .inl (cI, 516, .inl pf))])) (va_A ([(h0, .inr (9, [.ref a0, .ref b0, .int np, .int th, .int ed, .long hh])), (a0, .inl (cI, 129, .inl w)), (b0, .inl (cI, 516, .inl pf))]) sz)) 0 0 (va_A ([(h0, .inr (9, [.ref a0, .ref b0, .int np, .int th, .int ed, .long hh])), (a0, .inl (cI, 129, .inl w)), (b0, .inl (cI, 516, .inl pf))]) sz) := by
  refine my_met (QC := fun A => (va_Qv (fun (u : (Nat → Int32)) => u = F_X9_due np th ed hh w pf) (fun u => cPost D (tyz cI cJ cS) A ([(h0, .inr (9, [.ref a0, .ref b0, .int np, .int th, .int ed, .long hh])), (a0, .inl (cI, 129, .inl u)), (b0, .inl (cI, 516, .inl pf))])) A)) (cc := cX9_due) (maxL := 3) (ret := none) (by decide) rfl (Nat.le_of_ble_eq_true rfl) ?_
  intro p e s m below meth c ls A hx hb hml hr hts hown hlocks hname hK hP hD hS hA hG hl
  have hown : s.vm.findClass RX9 = some m.cls := hown
  have hl : lv_has ls 3 [(0, .ref h0)] := hl
  have hP : va_P D vwCl [(h0, .inr (9, [.ref a0, .ref b0, .int np, .int th, .int ed, .long hh])), (a0, .inl (cI, 129, .inl w)), (b0, .inl (cI, 516, .inl pf))] s.heap := hP
  have hD : va_D A [(h0, .inr (9, [.ref a0, .ref b0, .int np, .int th, .int ed, .long hh])), (a0, .inl (cI, 129, .inl w)), (b0, .inl (cI, 516, .inl pf))] := hD
  have hiX9 : ∀ w ∈ u_ws RX9 TX9 6, w ∈ wsX9_due := by decide +kernel
  have hk_7 := hts (.fieldLink RX9 7 "HallCommutatorModel" "s" "[I") (by decide +kernel)
  refine lv_iconst (v := 0) hx hb dX9_due_0 (by decide) ?_
  refine lv_istore_n (lv' := [(1, .int (0 : Int32)), (0, .ref h0)]) hx hb dX9_due_1 rfl hl (by decide) rfl (fun ls hl => ?_)
  refine lps_X9_due1 l D cI cJ cS hx hb hml hown hts hK hA hG 41 h0 a0 b0 np th ed hh w pf (w 48) 0 _ _ _ (hz) (rfl) (Nat.zero_le _) (by have := tn_lt hz; omega) (hP.subm [0, 1, 2] rfl) (hD.sub [0, 1, 2] rfl rfl) hS (lv_sub hl [1, 0] rfl) (fun y_1 H locs ls hw_1 hq_1_h1 hq_1_h2 hP hD hS hl => ?_)
  obtain ⟨y_1_0, y_1_1⟩ := y_1
  have hq_1_h1 : y_1_0 ≤ tn (w 48) := hq_1_h1
  have hq_1_h2 : y_1_1 48 = (w 48) := hq_1_h2
  have hl : lv_has ls 3 [(0, .ref h0), (1, .int (nI y_1_0))] := hl
  have hP : va_P D vwCl [(h0, .inr (9, [.ref a0, .ref b0, .int np, .int th, .int ed, .long hh])), (a0, .inl (cI, 129, .inl y_1_1)), (b0, .inl (cI, 516, .inl pf))] H := hP
  have hD : va_D A [(h0, .inr (9, [.ref a0, .ref b0, .int np, .int th, .int ed, .long hh])), (a0, .inl (cI, 129, .inl y_1_1)), (b0, .inl (cI, 516, .inl pf))] := hD
  refine lv_iload_n hx hb dX9_due_59 rfl (lv_at hl 1 rfl) ?_
  refine lv_if_le (tgt := 119) hx hb dX9_due_60 (by decide) (fun c_2 => ?_) (fun c_2 => ?_)
  · skip
    exact my_vret hx hb hr hlocks hK hP hD hS (y_1_1) (by show (y_1_1) = F_X9_due np th ed hh w pf; simp only [F_X9_due, if_pos c_2, ← hw_1]) [0, 1, 2] rfl rfl dX9_due_119
  · skip
    refine lv_iconst (v := 2) hx hb dX9_due_63 (by decide) ?_
    refine lv_iload_n hx hb dX9_due_64 rfl (lv_at hl 1 rfl) ?_
    refine my_imulN hx hb 2 y_1_0 rfl rfl dX9_due_65 ?_
    refine lv_istore_n (lv' := [(2, .int (nI (2 * y_1_0))), (0, .ref h0), (1, .int (nI y_1_0))]) hx hb dX9_due_66 rfl hl (by decide) rfl (fun ls hl => ?_)
    refine lps_X9_due2 l D cI cJ cS hx hb hml hown hts hK hA hG 82 h0 a0 b0 np th ed hh y_1_1 pf (w 48) y_1_0 (2 * y_1_0) _ _ _ (hz) (hq_1_h2) (Nat.le_refl _) (by have := hq_1_h1; omega) (by have := tn_lt hz; omega) (hP.subm [0, 1, 2] rfl) (hD.sub [0, 1, 2] rfl rfl) hS (lv_sub hl [1, 2, 0] rfl) (fun y_3 H locs ls hw_3 hP hD hS hl => ?_)
    obtain ⟨y_3_0, y_3_1⟩ := y_3
    have hl : lv_has ls 3 [(0, .ref h0), (1, .int (nI y_1_0)), (2, .int (nI y_3_0))] := hl
    have hP : va_P D vwCl [(h0, .inr (9, [.ref a0, .ref b0, .int np, .int th, .int ed, .long hh])), (a0, .inl (cI, 129, .inl y_3_1)), (b0, .inl (cI, 516, .inl pf))] H := hP
    have hD : va_D A [(h0, .inr (9, [.ref a0, .ref b0, .int np, .int th, .int ed, .long hh])), (a0, .inl (cI, 129, .inl y_3_1)), (b0, .inl (cI, 516, .inl pf))] := hD
    refine lv_aload_n hx hb dX9_due_108 rfl (lv_at hl 0 rfl) ?_
    refine va_get (D := D) (ci := 9) (v := .ref a0) (C := RX9) (T := TX9) (N := 6) hx hb hts hiX9 hown hK hP 0 rfl rfl 0 (by decide) hk_7 (fun _ h9 => h9) rfl dX9_due_109 ?_
    refine lv_bipush (v := 48) hx hb dX9_due_112 (by decide) ?_
    refine lv_dup2_11 hx hb dX9_due_114 rfl rfl ?_
    refine my_iald hx hb hK hP 1 0 rfl rfl 48 (rfl) (by decide) (by decide) dX9_due_115 ?_
    refine lv_iload_n hx hb dX9_due_116 rfl (lv_at hl 1 rfl) ?_
    refine lv_isub hx hb dX9_due_117 ?_
    refine my_iast hx hb hK hP hD hS 1 0 rfl rfl 48 (rfl) (by decide) (by decide) dX9_due_118 (fun H locs hP hD hS => ?_)
    have hP : va_P D vwCl [(h0, .inr (9, [.ref a0, .ref b0, .int np, .int th, .int ed, .long hh])), (a0, .inl (cI, 129, .inl (upd y_3_1 48 ((y_3_1 48) - (nI y_1_0))))), (b0, .inl (cI, 516, .inl pf))] H := hP
    have hD : va_D A [(h0, .inr (9, [.ref a0, .ref b0, .int np, .int th, .int ed, .long hh])), (a0, .inl (cI, 129, .inl (upd y_3_1 48 ((y_3_1 48) - (nI y_1_0))))), (b0, .inl (cI, 516, .inl pf))] := hD
    exact my_vret hx hb hr hlocks hK hP hD hS (upd y_3_1 48 ((y_3_1 48) - (nI y_1_0))) (by show (upd y_3_1 48 ((y_3_1 48) - (nI y_1_0))) = F_X9_due np th ed hh w pf; simp only [F_X9_due, if_neg c_2, ← hw_1, ← hw_3]) [0, 1, 2] rfl rfl dX9_due_119
def F_X9_filters (np : Int32) (th : Int32) (ed : Int32) (hh : Int64) (w : Nat → Int32) (pf : Nat → Int32) : Int32 × (Nat → Int32) :=
  if w 7 = w 8 then
    ((0 : Int32), (upd w 11 (0 : Int32)))
  else
    if w 7 = w 10 then
      if w 11 ≤ (0 : Int32) then
        if w 1 ≤ (1 : Int32) then
          ((1 : Int32), (upd (upd (upd (upd w 11 (1 : Int32)) 10 (w 7)) 8 (w 7)) 11 (0 : Int32)))
        else
          ((0 : Int32), (upd (upd w 11 (1 : Int32)) 10 (w 7)))
      else
        if w 1 ≤ (w 11) + (1 : Int32) then
          ((1 : Int32), (upd (upd (upd (upd w 11 ((w 11) + (1 : Int32))) 10 (w 7)) 8 (w 7)) 11 (0 : Int32)))
        else
          ((0 : Int32), (upd (upd w 11 ((w 11) + (1 : Int32))) 10 (w 7)))
    else
      if w 1 ≤ (1 : Int32) then
        ((1 : Int32), (upd (upd (upd (upd w 11 (1 : Int32)) 10 (w 7)) 8 (w 7)) 11 (0 : Int32)))
      else
        ((0 : Int32), (upd (upd w 11 (1 : Int32)) 10 (w 7)))
set_option maxHeartbeats 4000000 in
set_option maxRecDepth 100000 in
theorem met_X9_filters (l : Launch) (D : va_G) (cI cJ cS : ClassId) (h0 : Nat) (a0 : Nat) (b0 : Nat) (np : Int32) (th : Int32) (ed : Int32) (hh : Int64) (w : Nat → Int32) (pf : Nat → Int32)  : ∀ sz : Nat, Met l yX9_filters wsX9_filters ({ frames := 0, cells := 0, slots := 0, locals := 0 } : Room) (va_Pc [.ref h0] (cPre D (tyz cI cJ cS) ([(h0, .inr (9, [.ref a0, .ref b0, .int np, .int th, .int ed, .long hh])), (a0, .inl (cI, 129, .inl w)), (b0, .inl (cI, 516, .inl pf))]) sz)) (va_Qi (fun (r : Int32) (u : (Nat → Int32)) => (r, u) = F_X9_filters np th ed hh w pf) (fun u => cPost D (tyz cI cJ cS) (va_A ([(h0, .inr (9, [.ref a0, .ref b0, .int np, .int th, .int ed, .long hh])), (a0, .inl (cI, 129, .inl w)), (b0, .inl (cI, 516, .inl pf))]) sz) ([(h0, .inr (9, [.ref a0, .ref b0, .int np, .int th, .int ed, .long hh])), (a0, .inl (cI, 129, .inl u)), (b0, .inl (cI, 516, .inl pf))])) (va_A ([(h0, .inr (9, [.ref a0, .ref b0, .int np, .int th, .int ed, .long hh])), (a0, .inl (cI, 129, .inl w)), (b0, .inl (cI, 516, .inl pf))]) sz)) 0 0 (va_A ([(h0, .inr (9, [.ref a0, .ref b0, .int np, .int th, .int ed, .long hh])), (a0, .inl (cI, 129, .inl w)), (b0, .inl (cI, 516, .inl pf))]) sz) := by
  refine my_met (QC := fun A => (va_Qi (fun (r : Int32) (u : (Nat → Int32)) => (r, u) = F_X9_filters np th ed hh w pf) (fun u => cPost D (tyz cI cJ cS) A ([(h0, .inr (9, [.ref a0, .ref b0, .int np, .int th, .int ed, .long hh])), (a0, .inl (cI, 129, .inl u)), (b0, .inl (cI, 516, .inl pf))])) A)) (cc := cX9_filters) (maxL := 1) (ret := (some .boolean)) (by decide) rfl (Nat.le_of_ble_eq_true rfl) ?_
  intro p e s m below meth c ls A hx hb hml hr hts hown hlocks hname hK hP hD hS hA hG hl
  have hown : s.vm.findClass RX9 = some m.cls := hown
  have hl : lv_has ls 1 [(0, .ref h0)] := hl
  have hP : va_P D vwCl [(h0, .inr (9, [.ref a0, .ref b0, .int np, .int th, .int ed, .long hh])), (a0, .inl (cI, 129, .inl w)), (b0, .inl (cI, 516, .inl pf))] s.heap := hP
  have hD : va_D A [(h0, .inr (9, [.ref a0, .ref b0, .int np, .int th, .int ed, .long hh])), (a0, .inl (cI, 129, .inl w)), (b0, .inl (cI, 516, .inl pf))] := hD
  have hiX9 : ∀ w ∈ u_ws RX9 TX9 6, w ∈ wsX9_filters := by decide +kernel
  have hk_7 := hts (.fieldLink RX9 7 "HallCommutatorModel" "s" "[I") (by decide +kernel)
  refine lv_aload_n hx hb dX9_filters_0 rfl (lv_at hl 0 rfl) ?_
  refine va_get (D := D) (ci := 9) (v := .ref a0) (C := RX9) (T := TX9) (N := 6) hx hb hts hiX9 hown hK hP 0 rfl rfl 0 (by decide) hk_7 (fun _ h9 => h9) rfl dX9_filters_1 ?_
  refine lv_bipush (v := 7) hx hb dX9_filters_4 (by decide) ?_
  refine my_iald hx hb hK hP 1 0 rfl rfl 7 (rfl) (by decide) (by decide) dX9_filters_6 ?_
  refine lv_aload_n hx hb dX9_filters_7 rfl (lv_at hl 0 rfl) ?_
  refine va_get (D := D) (ci := 9) (v := .ref a0) (C := RX9) (T := TX9) (N := 6) hx hb hts hiX9 hown hK hP 0 rfl rfl 0 (by decide) hk_7 (fun _ h9 => h9) rfl dX9_filters_8 ?_
  refine lv_bipush (v := 8) hx hb dX9_filters_11 (by decide) ?_
  refine my_iald hx hb hK hP 1 0 rfl rfl 8 (rfl) (by decide) (by decide) dX9_filters_13 ?_
  refine lv_icmp_ne (tgt := 27) hx hb dX9_filters_14 (by decide) (fun c_1 => ?_) (fun c_1 => ?_)
  · skip
    refine lv_aload_n hx hb dX9_filters_27 rfl (lv_at hl 0 rfl) ?_
    refine va_get (D := D) (ci := 9) (v := .ref a0) (C := RX9) (T := TX9) (N := 6) hx hb hts hiX9 hown hK hP 0 rfl rfl 0 (by decide) hk_7 (fun _ h9 => h9) rfl dX9_filters_28 ?_
    refine lv_bipush (v := 11) hx hb dX9_filters_31 (by decide) ?_
    refine lv_aload_n hx hb dX9_filters_33 rfl (lv_at hl 0 rfl) ?_
    refine va_get (D := D) (ci := 9) (v := .ref a0) (C := RX9) (T := TX9) (N := 6) hx hb hts hiX9 hown hK hP 0 rfl rfl 0 (by decide) hk_7 (fun _ h9 => h9) rfl dX9_filters_34 ?_
    refine lv_bipush (v := 7) hx hb dX9_filters_37 (by decide) ?_
    refine my_iald hx hb hK hP 1 0 rfl rfl 7 (rfl) (by decide) (by decide) dX9_filters_39 ?_
    refine lv_aload_n hx hb dX9_filters_40 rfl (lv_at hl 0 rfl) ?_
    refine va_get (D := D) (ci := 9) (v := .ref a0) (C := RX9) (T := TX9) (N := 6) hx hb hts hiX9 hown hK hP 0 rfl rfl 0 (by decide) hk_7 (fun _ h9 => h9) rfl dX9_filters_41 ?_
    refine lv_bipush (v := 10) hx hb dX9_filters_44 (by decide) ?_
    refine my_iald hx hb hK hP 1 0 rfl rfl 10 (rfl) (by decide) (by decide) dX9_filters_46 ?_
    refine lv_icmp_ne (tgt := 72) hx hb dX9_filters_47 (by decide) (fun c_2 => ?_) (fun c_2 => ?_)
    · skip
      refine lv_iconst (v := 1) hx hb dX9_filters_72 (by decide) ?_
      refine my_iast hx hb hK hP hD hS 1 0 rfl rfl 11 (rfl) (by decide) (by decide) dX9_filters_73 (fun H locs hP hD hS => ?_)
      have hP : va_P D vwCl [(h0, .inr (9, [.ref a0, .ref b0, .int np, .int th, .int ed, .long hh])), (a0, .inl (cI, 129, .inl (upd w 11 (1 : Int32)))), (b0, .inl (cI, 516, .inl pf))] H := hP
      have hD : va_D A [(h0, .inr (9, [.ref a0, .ref b0, .int np, .int th, .int ed, .long hh])), (a0, .inl (cI, 129, .inl (upd w 11 (1 : Int32)))), (b0, .inl (cI, 516, .inl pf))] := hD
      refine lv_aload_n hx hb dX9_filters_74 rfl (lv_at hl 0 rfl) ?_
      refine va_get (D := D) (ci := 9) (v := .ref a0) (C := RX9) (T := TX9) (N := 6) hx hb hts hiX9 hown hK hP 0 rfl rfl 0 (by decide) hk_7 (fun _ h9 => h9) rfl dX9_filters_75 ?_
      refine lv_bipush (v := 10) hx hb dX9_filters_78 (by decide) ?_
      refine lv_aload_n hx hb dX9_filters_80 rfl (lv_at hl 0 rfl) ?_
      refine va_get (D := D) (ci := 9) (v := .ref a0) (C := RX9) (T := TX9) (N := 6) hx hb hts hiX9 hown hK hP 0 rfl rfl 0 (by decide) hk_7 (fun _ h9 => h9) rfl dX9_filters_81 ?_
      refine lv_bipush (v := 7) hx hb dX9_filters_84 (by decide) ?_
      refine my_iald hx hb hK hP 1 0 rfl rfl 7 (rfl) (by decide) (by decide) dX9_filters_86 ?_
      refine W.eq (g2 := F0 m 87 ls [.int (w 7), .int (10 : Int32), .ref a0]) rfl ?_
      refine my_iast hx hb hK hP hD hS 1 0 rfl rfl 10 (rfl) (by decide) (by decide) dX9_filters_87 (fun H locs hP hD hS => ?_)
      have hP : va_P D vwCl [(h0, .inr (9, [.ref a0, .ref b0, .int np, .int th, .int ed, .long hh])), (a0, .inl (cI, 129, .inl (upd (upd w 11 (1 : Int32)) 10 (w 7)))), (b0, .inl (cI, 516, .inl pf))] H := hP
      have hD : va_D A [(h0, .inr (9, [.ref a0, .ref b0, .int np, .int th, .int ed, .long hh])), (a0, .inl (cI, 129, .inl (upd (upd w 11 (1 : Int32)) 10 (w 7)))), (b0, .inl (cI, 516, .inl pf))] := hD
      refine lv_aload_n hx hb dX9_filters_88 rfl (lv_at hl 0 rfl) ?_
      refine va_get (D := D) (ci := 9) (v := .ref a0) (C := RX9) (T := TX9) (N := 6) hx hb hts hiX9 hown hK hP 0 rfl rfl 0 (by decide) hk_7 (fun _ h9 => h9) rfl dX9_filters_89 ?_
      refine lv_bipush (v := 11) hx hb dX9_filters_92 (by decide) ?_
      refine my_iald hx hb hK hP 1 0 rfl rfl 11 (rfl) (by decide) (by decide) dX9_filters_94 ?_
      refine W.eq (g2 := F0 m 95 ls [.int (1 : Int32)]) rfl ?_
      refine lv_aload_n hx hb dX9_filters_95 rfl (lv_at hl 0 rfl) ?_
      refine va_get (D := D) (ci := 9) (v := .ref a0) (C := RX9) (T := TX9) (N := 6) hx hb hts hiX9 hown hK hP 0 rfl rfl 0 (by decide) hk_7 (fun _ h9 => h9) rfl dX9_filters_96 ?_
      refine lv_iconst (v := 1) hx hb dX9_filters_99 (by decide) ?_
      refine my_iald hx hb hK hP 1 0 rfl rfl 1 (rfl) (by decide) (by decide) dX9_filters_100 ?_
      refine W.eq (g2 := F0 m 101 ls [.int (w 1), .int (1 : Int32)]) rfl ?_
      refine lv_icmp_ge (tgt := 106) hx hb dX9_filters_101 (by decide) (fun c_3 => ?_) (fun c_3 => ?_)
      · skip
        refine lv_aload_n hx hb dX9_filters_106 rfl (lv_at hl 0 rfl) ?_
        refine va_get (D := D) (ci := 9) (v := .ref a0) (C := RX9) (T := TX9) (N := 6) hx hb hts hiX9 hown hK hP 0 rfl rfl 0 (by decide) hk_7 (fun _ h9 => h9) rfl dX9_filters_107 ?_
        refine lv_bipush (v := 8) hx hb dX9_filters_110 (by decide) ?_
        refine lv_aload_n hx hb dX9_filters_112 rfl (lv_at hl 0 rfl) ?_
        refine va_get (D := D) (ci := 9) (v := .ref a0) (C := RX9) (T := TX9) (N := 6) hx hb hts hiX9 hown hK hP 0 rfl rfl 0 (by decide) hk_7 (fun _ h9 => h9) rfl dX9_filters_113 ?_
        refine lv_bipush (v := 7) hx hb dX9_filters_116 (by decide) ?_
        refine my_iald hx hb hK hP 1 0 rfl rfl 7 (rfl) (by decide) (by decide) dX9_filters_118 ?_
        refine W.eq (g2 := F0 m 119 ls [.int (w 7), .int (8 : Int32), .ref a0]) rfl ?_
        refine my_iast hx hb hK hP hD hS 1 0 rfl rfl 8 (rfl) (by decide) (by decide) dX9_filters_119 (fun H locs hP hD hS => ?_)
        have hP : va_P D vwCl [(h0, .inr (9, [.ref a0, .ref b0, .int np, .int th, .int ed, .long hh])), (a0, .inl (cI, 129, .inl (upd (upd (upd w 11 (1 : Int32)) 10 (w 7)) 8 (w 7)))), (b0, .inl (cI, 516, .inl pf))] H := hP
        have hD : va_D A [(h0, .inr (9, [.ref a0, .ref b0, .int np, .int th, .int ed, .long hh])), (a0, .inl (cI, 129, .inl (upd (upd (upd w 11 (1 : Int32)) 10 (w 7)) 8 (w 7)))), (b0, .inl (cI, 516, .inl pf))] := hD
        refine lv_aload_n hx hb dX9_filters_120 rfl (lv_at hl 0 rfl) ?_
        refine va_get (D := D) (ci := 9) (v := .ref a0) (C := RX9) (T := TX9) (N := 6) hx hb hts hiX9 hown hK hP 0 rfl rfl 0 (by decide) hk_7 (fun _ h9 => h9) rfl dX9_filters_121 ?_
        refine lv_bipush (v := 11) hx hb dX9_filters_124 (by decide) ?_
        refine lv_iconst (v := 0) hx hb dX9_filters_126 (by decide) ?_
        refine my_iast hx hb hK hP hD hS 1 0 rfl rfl 11 (rfl) (by decide) (by decide) dX9_filters_127 (fun H locs hP hD hS => ?_)
        have hP : va_P D vwCl [(h0, .inr (9, [.ref a0, .ref b0, .int np, .int th, .int ed, .long hh])), (a0, .inl (cI, 129, .inl (upd (upd (upd (upd w 11 (1 : Int32)) 10 (w 7)) 8 (w 7)) 11 (0 : Int32)))), (b0, .inl (cI, 516, .inl pf))] H := hP
        have hD : va_D A [(h0, .inr (9, [.ref a0, .ref b0, .int np, .int th, .int ed, .long hh])), (a0, .inl (cI, 129, .inl (upd (upd (upd (upd w 11 (1 : Int32)) 10 (w 7)) 8 (w 7)) 11 (0 : Int32)))), (b0, .inl (cI, 516, .inl pf))] := hD
        refine lv_iconst (v := 1) hx hb dX9_filters_128 (by decide) ?_
        exact my_iret hx hb hr rfl hlocks hK hP hD hS (upd (upd (upd (upd w 11 (1 : Int32)) 10 (w 7)) 8 (w 7)) 11 (0 : Int32)) (by show ((1 : Int32), (upd (upd (upd (upd w 11 (1 : Int32)) 10 (w 7)) 8 (w 7)) 11 (0 : Int32))) = F_X9_filters np th ed hh w pf; simp only [F_X9_filters, if_neg c_1, if_neg c_2, if_pos c_3]) [0, 1, 2] rfl rfl dX9_filters_129
      · skip
        refine lv_iconst (v := 0) hx hb dX9_filters_104 (by decide) ?_
        exact my_iret hx hb hr rfl hlocks hK hP hD hS (upd (upd w 11 (1 : Int32)) 10 (w 7)) (by show ((0 : Int32), (upd (upd w 11 (1 : Int32)) 10 (w 7))) = F_X9_filters np th ed hh w pf; simp only [F_X9_filters, if_neg c_1, if_neg c_2, if_neg c_3]) [0, 1, 2] rfl rfl dX9_filters_105
    · skip
      refine lv_aload_n hx hb dX9_filters_50 rfl (lv_at hl 0 rfl) ?_
      refine va_get (D := D) (ci := 9) (v := .ref a0) (C := RX9) (T := TX9) (N := 6) hx hb hts hiX9 hown hK hP 0 rfl rfl 0 (by decide) hk_7 (fun _ h9 => h9) rfl dX9_filters_51 ?_
      refine lv_bipush (v := 11) hx hb dX9_filters_54 (by decide) ?_
      refine my_iald hx hb hK hP 1 0 rfl rfl 11 (rfl) (by decide) (by decide) dX9_filters_56 ?_
      refine lv_if_le (tgt := 72) hx hb dX9_filters_57 (by decide) (fun c_4 => ?_) (fun c_4 => ?_)
      · skip
        refine lv_iconst (v := 1) hx hb dX9_filters_72 (by decide) ?_
        refine my_iast hx hb hK hP hD hS 1 0 rfl rfl 11 (rfl) (by decide) (by decide) dX9_filters_73 (fun H locs hP hD hS => ?_)
        have hP : va_P D vwCl [(h0, .inr (9, [.ref a0, .ref b0, .int np, .int th, .int ed, .long hh])), (a0, .inl (cI, 129, .inl (upd w 11 (1 : Int32)))), (b0, .inl (cI, 516, .inl pf))] H := hP
        have hD : va_D A [(h0, .inr (9, [.ref a0, .ref b0, .int np, .int th, .int ed, .long hh])), (a0, .inl (cI, 129, .inl (upd w 11 (1 : Int32)))), (b0, .inl (cI, 516, .inl pf))] := hD
        refine lv_aload_n hx hb dX9_filters_74 rfl (lv_at hl 0 rfl) ?_
        refine va_get (D := D) (ci := 9) (v := .ref a0) (C := RX9) (T := TX9) (N := 6) hx hb hts hiX9 hown hK hP 0 rfl rfl 0 (by decide) hk_7 (fun _ h9 => h9) rfl dX9_filters_75 ?_
        refine lv_bipush (v := 10) hx hb dX9_filters_78 (by decide) ?_
        refine lv_aload_n hx hb dX9_filters_80 rfl (lv_at hl 0 rfl) ?_
        refine va_get (D := D) (ci := 9) (v := .ref a0) (C := RX9) (T := TX9) (N := 6) hx hb hts hiX9 hown hK hP 0 rfl rfl 0 (by decide) hk_7 (fun _ h9 => h9) rfl dX9_filters_81 ?_
        refine lv_bipush (v := 7) hx hb dX9_filters_84 (by decide) ?_
        refine my_iald hx hb hK hP 1 0 rfl rfl 7 (rfl) (by decide) (by decide) dX9_filters_86 ?_
        refine W.eq (g2 := F0 m 87 ls [.int (w 7), .int (10 : Int32), .ref a0]) rfl ?_
        refine my_iast hx hb hK hP hD hS 1 0 rfl rfl 10 (rfl) (by decide) (by decide) dX9_filters_87 (fun H locs hP hD hS => ?_)
        have hP : va_P D vwCl [(h0, .inr (9, [.ref a0, .ref b0, .int np, .int th, .int ed, .long hh])), (a0, .inl (cI, 129, .inl (upd (upd w 11 (1 : Int32)) 10 (w 7)))), (b0, .inl (cI, 516, .inl pf))] H := hP
        have hD : va_D A [(h0, .inr (9, [.ref a0, .ref b0, .int np, .int th, .int ed, .long hh])), (a0, .inl (cI, 129, .inl (upd (upd w 11 (1 : Int32)) 10 (w 7)))), (b0, .inl (cI, 516, .inl pf))] := hD
        refine lv_aload_n hx hb dX9_filters_88 rfl (lv_at hl 0 rfl) ?_
        refine va_get (D := D) (ci := 9) (v := .ref a0) (C := RX9) (T := TX9) (N := 6) hx hb hts hiX9 hown hK hP 0 rfl rfl 0 (by decide) hk_7 (fun _ h9 => h9) rfl dX9_filters_89 ?_
        refine lv_bipush (v := 11) hx hb dX9_filters_92 (by decide) ?_
        refine my_iald hx hb hK hP 1 0 rfl rfl 11 (rfl) (by decide) (by decide) dX9_filters_94 ?_
        refine W.eq (g2 := F0 m 95 ls [.int (1 : Int32)]) rfl ?_
        refine lv_aload_n hx hb dX9_filters_95 rfl (lv_at hl 0 rfl) ?_
        refine va_get (D := D) (ci := 9) (v := .ref a0) (C := RX9) (T := TX9) (N := 6) hx hb hts hiX9 hown hK hP 0 rfl rfl 0 (by decide) hk_7 (fun _ h9 => h9) rfl dX9_filters_96 ?_
        refine lv_iconst (v := 1) hx hb dX9_filters_99 (by decide) ?_
        refine my_iald hx hb hK hP 1 0 rfl rfl 1 (rfl) (by decide) (by decide) dX9_filters_100 ?_
        refine W.eq (g2 := F0 m 101 ls [.int (w 1), .int (1 : Int32)]) rfl ?_
        refine lv_icmp_ge (tgt := 106) hx hb dX9_filters_101 (by decide) (fun c_5 => ?_) (fun c_5 => ?_)
        · skip
          refine lv_aload_n hx hb dX9_filters_106 rfl (lv_at hl 0 rfl) ?_
          refine va_get (D := D) (ci := 9) (v := .ref a0) (C := RX9) (T := TX9) (N := 6) hx hb hts hiX9 hown hK hP 0 rfl rfl 0 (by decide) hk_7 (fun _ h9 => h9) rfl dX9_filters_107 ?_
          refine lv_bipush (v := 8) hx hb dX9_filters_110 (by decide) ?_
          refine lv_aload_n hx hb dX9_filters_112 rfl (lv_at hl 0 rfl) ?_
          refine va_get (D := D) (ci := 9) (v := .ref a0) (C := RX9) (T := TX9) (N := 6) hx hb hts hiX9 hown hK hP 0 rfl rfl 0 (by decide) hk_7 (fun _ h9 => h9) rfl dX9_filters_113 ?_
          refine lv_bipush (v := 7) hx hb dX9_filters_116 (by decide) ?_
          refine my_iald hx hb hK hP 1 0 rfl rfl 7 (rfl) (by decide) (by decide) dX9_filters_118 ?_
          refine W.eq (g2 := F0 m 119 ls [.int (w 7), .int (8 : Int32), .ref a0]) rfl ?_
          refine my_iast hx hb hK hP hD hS 1 0 rfl rfl 8 (rfl) (by decide) (by decide) dX9_filters_119 (fun H locs hP hD hS => ?_)
          have hP : va_P D vwCl [(h0, .inr (9, [.ref a0, .ref b0, .int np, .int th, .int ed, .long hh])), (a0, .inl (cI, 129, .inl (upd (upd (upd w 11 (1 : Int32)) 10 (w 7)) 8 (w 7)))), (b0, .inl (cI, 516, .inl pf))] H := hP
          have hD : va_D A [(h0, .inr (9, [.ref a0, .ref b0, .int np, .int th, .int ed, .long hh])), (a0, .inl (cI, 129, .inl (upd (upd (upd w 11 (1 : Int32)) 10 (w 7)) 8 (w 7)))), (b0, .inl (cI, 516, .inl pf))] := hD
          refine lv_aload_n hx hb dX9_filters_120 rfl (lv_at hl 0 rfl) ?_
          refine va_get (D := D) (ci := 9) (v := .ref a0) (C := RX9) (T := TX9) (N := 6) hx hb hts hiX9 hown hK hP 0 rfl rfl 0 (by decide) hk_7 (fun _ h9 => h9) rfl dX9_filters_121 ?_
          refine lv_bipush (v := 11) hx hb dX9_filters_124 (by decide) ?_
          refine lv_iconst (v := 0) hx hb dX9_filters_126 (by decide) ?_
          refine my_iast hx hb hK hP hD hS 1 0 rfl rfl 11 (rfl) (by decide) (by decide) dX9_filters_127 (fun H locs hP hD hS => ?_)
          have hP : va_P D vwCl [(h0, .inr (9, [.ref a0, .ref b0, .int np, .int th, .int ed, .long hh])), (a0, .inl (cI, 129, .inl (upd (upd (upd (upd w 11 (1 : Int32)) 10 (w 7)) 8 (w 7)) 11 (0 : Int32)))), (b0, .inl (cI, 516, .inl pf))] H := hP
          have hD : va_D A [(h0, .inr (9, [.ref a0, .ref b0, .int np, .int th, .int ed, .long hh])), (a0, .inl (cI, 129, .inl (upd (upd (upd (upd w 11 (1 : Int32)) 10 (w 7)) 8 (w 7)) 11 (0 : Int32)))), (b0, .inl (cI, 516, .inl pf))] := hD
          refine lv_iconst (v := 1) hx hb dX9_filters_128 (by decide) ?_
          exact my_iret hx hb hr rfl hlocks hK hP hD hS (upd (upd (upd (upd w 11 (1 : Int32)) 10 (w 7)) 8 (w 7)) 11 (0 : Int32)) (by show ((1 : Int32), (upd (upd (upd (upd w 11 (1 : Int32)) 10 (w 7)) 8 (w 7)) 11 (0 : Int32))) = F_X9_filters np th ed hh w pf; simp only [F_X9_filters, if_neg c_1, if_pos c_2, if_pos c_4, if_pos c_5]) [0, 1, 2] rfl rfl dX9_filters_129
        · skip
          refine lv_iconst (v := 0) hx hb dX9_filters_104 (by decide) ?_
          exact my_iret hx hb hr rfl hlocks hK hP hD hS (upd (upd w 11 (1 : Int32)) 10 (w 7)) (by show ((0 : Int32), (upd (upd w 11 (1 : Int32)) 10 (w 7))) = F_X9_filters np th ed hh w pf; simp only [F_X9_filters, if_neg c_1, if_pos c_2, if_pos c_4, if_neg c_5]) [0, 1, 2] rfl rfl dX9_filters_105
      · skip
        refine lv_aload_n hx hb dX9_filters_60 rfl (lv_at hl 0 rfl) ?_
        refine va_get (D := D) (ci := 9) (v := .ref a0) (C := RX9) (T := TX9) (N := 6) hx hb hts hiX9 hown hK hP 0 rfl rfl 0 (by decide) hk_7 (fun _ h9 => h9) rfl dX9_filters_61 ?_
        refine lv_bipush (v := 11) hx hb dX9_filters_64 (by decide) ?_
        refine my_iald hx hb hK hP 1 0 rfl rfl 11 (rfl) (by decide) (by decide) dX9_filters_66 ?_
        refine lv_iconst (v := 1) hx hb dX9_filters_67 (by decide) ?_
        refine lv_iadd hx hb dX9_filters_68 ?_
        refine lv_goto (tgt := 73) hx hb dX9_filters_69 (by decide) ?_
        refine my_iast hx hb hK hP hD hS 1 0 rfl rfl 11 (rfl) (by decide) (by decide) dX9_filters_73 (fun H locs hP hD hS => ?_)
        have hP : va_P D vwCl [(h0, .inr (9, [.ref a0, .ref b0, .int np, .int th, .int ed, .long hh])), (a0, .inl (cI, 129, .inl (upd w 11 ((w 11) + (1 : Int32))))), (b0, .inl (cI, 516, .inl pf))] H := hP
        have hD : va_D A [(h0, .inr (9, [.ref a0, .ref b0, .int np, .int th, .int ed, .long hh])), (a0, .inl (cI, 129, .inl (upd w 11 ((w 11) + (1 : Int32))))), (b0, .inl (cI, 516, .inl pf))] := hD
        refine lv_aload_n hx hb dX9_filters_74 rfl (lv_at hl 0 rfl) ?_
        refine va_get (D := D) (ci := 9) (v := .ref a0) (C := RX9) (T := TX9) (N := 6) hx hb hts hiX9 hown hK hP 0 rfl rfl 0 (by decide) hk_7 (fun _ h9 => h9) rfl dX9_filters_75 ?_
        refine lv_bipush (v := 10) hx hb dX9_filters_78 (by decide) ?_
        refine lv_aload_n hx hb dX9_filters_80 rfl (lv_at hl 0 rfl) ?_
        refine va_get (D := D) (ci := 9) (v := .ref a0) (C := RX9) (T := TX9) (N := 6) hx hb hts hiX9 hown hK hP 0 rfl rfl 0 (by decide) hk_7 (fun _ h9 => h9) rfl dX9_filters_81 ?_
        refine lv_bipush (v := 7) hx hb dX9_filters_84 (by decide) ?_
        refine my_iald hx hb hK hP 1 0 rfl rfl 7 (rfl) (by decide) (by decide) dX9_filters_86 ?_
        refine W.eq (g2 := F0 m 87 ls [.int (w 7), .int (10 : Int32), .ref a0]) rfl ?_
        refine my_iast hx hb hK hP hD hS 1 0 rfl rfl 10 (rfl) (by decide) (by decide) dX9_filters_87 (fun H locs hP hD hS => ?_)
        have hP : va_P D vwCl [(h0, .inr (9, [.ref a0, .ref b0, .int np, .int th, .int ed, .long hh])), (a0, .inl (cI, 129, .inl (upd (upd w 11 ((w 11) + (1 : Int32))) 10 (w 7)))), (b0, .inl (cI, 516, .inl pf))] H := hP
        have hD : va_D A [(h0, .inr (9, [.ref a0, .ref b0, .int np, .int th, .int ed, .long hh])), (a0, .inl (cI, 129, .inl (upd (upd w 11 ((w 11) + (1 : Int32))) 10 (w 7)))), (b0, .inl (cI, 516, .inl pf))] := hD
        refine lv_aload_n hx hb dX9_filters_88 rfl (lv_at hl 0 rfl) ?_
        refine va_get (D := D) (ci := 9) (v := .ref a0) (C := RX9) (T := TX9) (N := 6) hx hb hts hiX9 hown hK hP 0 rfl rfl 0 (by decide) hk_7 (fun _ h9 => h9) rfl dX9_filters_89 ?_
        refine lv_bipush (v := 11) hx hb dX9_filters_92 (by decide) ?_
        refine my_iald hx hb hK hP 1 0 rfl rfl 11 (rfl) (by decide) (by decide) dX9_filters_94 ?_
        refine W.eq (g2 := F0 m 95 ls [.int ((w 11) + (1 : Int32))]) rfl ?_
        refine lv_aload_n hx hb dX9_filters_95 rfl (lv_at hl 0 rfl) ?_
        refine va_get (D := D) (ci := 9) (v := .ref a0) (C := RX9) (T := TX9) (N := 6) hx hb hts hiX9 hown hK hP 0 rfl rfl 0 (by decide) hk_7 (fun _ h9 => h9) rfl dX9_filters_96 ?_
        refine lv_iconst (v := 1) hx hb dX9_filters_99 (by decide) ?_
        refine my_iald hx hb hK hP 1 0 rfl rfl 1 (rfl) (by decide) (by decide) dX9_filters_100 ?_
        refine W.eq (g2 := F0 m 101 ls [.int (w 1), .int ((w 11) + (1 : Int32))]) rfl ?_
        refine lv_icmp_ge (tgt := 106) hx hb dX9_filters_101 (by decide) (fun c_6 => ?_) (fun c_6 => ?_)
        · skip
          refine lv_aload_n hx hb dX9_filters_106 rfl (lv_at hl 0 rfl) ?_
          refine va_get (D := D) (ci := 9) (v := .ref a0) (C := RX9) (T := TX9) (N := 6) hx hb hts hiX9 hown hK hP 0 rfl rfl 0 (by decide) hk_7 (fun _ h9 => h9) rfl dX9_filters_107 ?_
          refine lv_bipush (v := 8) hx hb dX9_filters_110 (by decide) ?_
          refine lv_aload_n hx hb dX9_filters_112 rfl (lv_at hl 0 rfl) ?_
          refine va_get (D := D) (ci := 9) (v := .ref a0) (C := RX9) (T := TX9) (N := 6) hx hb hts hiX9 hown hK hP 0 rfl rfl 0 (by decide) hk_7 (fun _ h9 => h9) rfl dX9_filters_113 ?_
          refine lv_bipush (v := 7) hx hb dX9_filters_116 (by decide) ?_
          refine my_iald hx hb hK hP 1 0 rfl rfl 7 (rfl) (by decide) (by decide) dX9_filters_118 ?_
          refine W.eq (g2 := F0 m 119 ls [.int (w 7), .int (8 : Int32), .ref a0]) rfl ?_
          refine my_iast hx hb hK hP hD hS 1 0 rfl rfl 8 (rfl) (by decide) (by decide) dX9_filters_119 (fun H locs hP hD hS => ?_)
          have hP : va_P D vwCl [(h0, .inr (9, [.ref a0, .ref b0, .int np, .int th, .int ed, .long hh])), (a0, .inl (cI, 129, .inl (upd (upd (upd w 11 ((w 11) + (1 : Int32))) 10 (w 7)) 8 (w 7)))), (b0, .inl (cI, 516, .inl pf))] H := hP
          have hD : va_D A [(h0, .inr (9, [.ref a0, .ref b0, .int np, .int th, .int ed, .long hh])), (a0, .inl (cI, 129, .inl (upd (upd (upd w 11 ((w 11) + (1 : Int32))) 10 (w 7)) 8 (w 7)))), (b0, .inl (cI, 516, .inl pf))] := hD
          refine lv_aload_n hx hb dX9_filters_120 rfl (lv_at hl 0 rfl) ?_
          refine va_get (D := D) (ci := 9) (v := .ref a0) (C := RX9) (T := TX9) (N := 6) hx hb hts hiX9 hown hK hP 0 rfl rfl 0 (by decide) hk_7 (fun _ h9 => h9) rfl dX9_filters_121 ?_
          refine lv_bipush (v := 11) hx hb dX9_filters_124 (by decide) ?_
          refine lv_iconst (v := 0) hx hb dX9_filters_126 (by decide) ?_
          refine my_iast hx hb hK hP hD hS 1 0 rfl rfl 11 (rfl) (by decide) (by decide) dX9_filters_127 (fun H locs hP hD hS => ?_)
          have hP : va_P D vwCl [(h0, .inr (9, [.ref a0, .ref b0, .int np, .int th, .int ed, .long hh])), (a0, .inl (cI, 129, .inl (upd (upd (upd (upd w 11 ((w 11) + (1 : Int32))) 10 (w 7)) 8 (w 7)) 11 (0 : Int32)))), (b0, .inl (cI, 516, .inl pf))] H := hP
          have hD : va_D A [(h0, .inr (9, [.ref a0, .ref b0, .int np, .int th, .int ed, .long hh])), (a0, .inl (cI, 129, .inl (upd (upd (upd (upd w 11 ((w 11) + (1 : Int32))) 10 (w 7)) 8 (w 7)) 11 (0 : Int32)))), (b0, .inl (cI, 516, .inl pf))] := hD
          refine lv_iconst (v := 1) hx hb dX9_filters_128 (by decide) ?_
          exact my_iret hx hb hr rfl hlocks hK hP hD hS (upd (upd (upd (upd w 11 ((w 11) + (1 : Int32))) 10 (w 7)) 8 (w 7)) 11 (0 : Int32)) (by show ((1 : Int32), (upd (upd (upd (upd w 11 ((w 11) + (1 : Int32))) 10 (w 7)) 8 (w 7)) 11 (0 : Int32))) = F_X9_filters np th ed hh w pf; simp only [F_X9_filters, if_neg c_1, if_pos c_2, if_neg c_4, if_pos c_6]) [0, 1, 2] rfl rfl dX9_filters_129
        · skip
          refine lv_iconst (v := 0) hx hb dX9_filters_104 (by decide) ?_
          exact my_iret hx hb hr rfl hlocks hK hP hD hS (upd (upd w 11 ((w 11) + (1 : Int32))) 10 (w 7)) (by show ((0 : Int32), (upd (upd w 11 ((w 11) + (1 : Int32))) 10 (w 7))) = F_X9_filters np th ed hh w pf; simp only [F_X9_filters, if_neg c_1, if_pos c_2, if_neg c_4, if_neg c_6]) [0, 1, 2] rfl rfl dX9_filters_105
  · skip
    refine lv_aload_n hx hb dX9_filters_17 rfl (lv_at hl 0 rfl) ?_
    refine va_get (D := D) (ci := 9) (v := .ref a0) (C := RX9) (T := TX9) (N := 6) hx hb hts hiX9 hown hK hP 0 rfl rfl 0 (by decide) hk_7 (fun _ h9 => h9) rfl dX9_filters_18 ?_
    refine lv_bipush (v := 11) hx hb dX9_filters_21 (by decide) ?_
    refine lv_iconst (v := 0) hx hb dX9_filters_23 (by decide) ?_
    refine my_iast hx hb hK hP hD hS 1 0 rfl rfl 11 (rfl) (by decide) (by decide) dX9_filters_24 (fun H locs hP hD hS => ?_)
    have hP : va_P D vwCl [(h0, .inr (9, [.ref a0, .ref b0, .int np, .int th, .int ed, .long hh])), (a0, .inl (cI, 129, .inl (upd w 11 (0 : Int32)))), (b0, .inl (cI, 516, .inl pf))] H := hP
    have hD : va_D A [(h0, .inr (9, [.ref a0, .ref b0, .int np, .int th, .int ed, .long hh])), (a0, .inl (cI, 129, .inl (upd w 11 (0 : Int32)))), (b0, .inl (cI, 516, .inl pf))] := hD
    refine lv_iconst (v := 0) hx hb dX9_filters_25 (by decide) ?_
    exact my_iret hx hb hr rfl hlocks hK hP hD hS (upd w 11 (0 : Int32)) (by show ((0 : Int32), (upd w 11 (0 : Int32))) = F_X9_filters np th ed hh w pf; simp only [F_X9_filters, if_pos c_1]) [0, 1, 2] rfl rfl dX9_filters_26
def F_X9_forgetsEdges (np : Int32) (th : Int32) (ed : Int32) (hh : Int64) (w : Nat → Int32) (pf : Nat → Int32) : (Nat → Int32) :=
  (upd (upd w 35 (0 : Int32)) 33 (-1 : Int32))
set_option maxHeartbeats 4000000 in
set_option maxRecDepth 100000 in
theorem met_X9_forgetsEdges (l : Launch) (D : va_G) (cI cJ cS : ClassId) (h0 : Nat) (a0 : Nat) (b0 : Nat) (np : Int32) (th : Int32) (ed : Int32) (hh : Int64) (w : Nat → Int32) (pf : Nat → Int32)  : ∀ sz : Nat, Met l yX9_forgetsEdges wsX9_forgetsEdges ({ frames := 0, cells := 0, slots := 0, locals := 0 } : Room) (va_Pc [.ref h0] (cPre D (tyz cI cJ cS) ([(h0, .inr (9, [.ref a0, .ref b0, .int np, .int th, .int ed, .long hh])), (a0, .inl (cI, 129, .inl w)), (b0, .inl (cI, 516, .inl pf))]) sz)) (va_Qv (fun (u : (Nat → Int32)) => u = F_X9_forgetsEdges np th ed hh w pf) (fun u => cPost D (tyz cI cJ cS) (va_A ([(h0, .inr (9, [.ref a0, .ref b0, .int np, .int th, .int ed, .long hh])), (a0, .inl (cI, 129, .inl w)), (b0, .inl (cI, 516, .inl pf))]) sz) ([(h0, .inr (9, [.ref a0, .ref b0, .int np, .int th, .int ed, .long hh])), (a0, .inl (cI, 129, .inl u)), (b0, .inl (cI, 516, .inl pf))])) (va_A ([(h0, .inr (9, [.ref a0, .ref b0, .int np, .int th, .int ed, .long hh])), (a0, .inl (cI, 129, .inl w)), (b0, .inl (cI, 516, .inl pf))]) sz)) 0 0 (va_A ([(h0, .inr (9, [.ref a0, .ref b0, .int np, .int th, .int ed, .long hh])), (a0, .inl (cI, 129, .inl w)), (b0, .inl (cI, 516, .inl pf))]) sz) := by
  refine my_met (QC := fun A => (va_Qv (fun (u : (Nat → Int32)) => u = F_X9_forgetsEdges np th ed hh w pf) (fun u => cPost D (tyz cI cJ cS) A ([(h0, .inr (9, [.ref a0, .ref b0, .int np, .int th, .int ed, .long hh])), (a0, .inl (cI, 129, .inl u)), (b0, .inl (cI, 516, .inl pf))])) A)) (cc := cX9_forgetsEdges) (maxL := 1) (ret := none) (by decide) rfl (Nat.le_of_ble_eq_true rfl) ?_
  intro p e s m below meth c ls A hx hb hml hr hts hown hlocks hname hK hP hD hS hA hG hl
  have hown : s.vm.findClass RX9 = some m.cls := hown
  have hl : lv_has ls 1 [(0, .ref h0)] := hl
  have hP : va_P D vwCl [(h0, .inr (9, [.ref a0, .ref b0, .int np, .int th, .int ed, .long hh])), (a0, .inl (cI, 129, .inl w)), (b0, .inl (cI, 516, .inl pf))] s.heap := hP
  have hD : va_D A [(h0, .inr (9, [.ref a0, .ref b0, .int np, .int th, .int ed, .long hh])), (a0, .inl (cI, 129, .inl w)), (b0, .inl (cI, 516, .inl pf))] := hD
  have hiX9 : ∀ w ∈ u_ws RX9 TX9 6, w ∈ wsX9_forgetsEdges := by decide +kernel
  have hk_7 := hts (.fieldLink RX9 7 "HallCommutatorModel" "s" "[I") (by decide +kernel)
  refine lv_aload_n hx hb dX9_forgetsEdges_0 rfl (lv_at hl 0 rfl) ?_
  refine va_get (D := D) (ci := 9) (v := .ref a0) (C := RX9) (T := TX9) (N := 6) hx hb hts hiX9 hown hK hP 0 rfl rfl 0 (by decide) hk_7 (fun _ h9 => h9) rfl dX9_forgetsEdges_1 ?_
  refine lv_bipush (v := 35) hx hb dX9_forgetsEdges_4 (by decide) ?_
  refine lv_iconst (v := 0) hx hb dX9_forgetsEdges_6 (by decide) ?_
  refine my_iast hx hb hK hP hD hS 1 0 rfl rfl 35 (rfl) (by decide) (by decide) dX9_forgetsEdges_7 (fun H locs hP hD hS => ?_)
  have hP : va_P D vwCl [(h0, .inr (9, [.ref a0, .ref b0, .int np, .int th, .int ed, .long hh])), (a0, .inl (cI, 129, .inl (upd w 35 (0 : Int32)))), (b0, .inl (cI, 516, .inl pf))] H := hP
  have hD : va_D A [(h0, .inr (9, [.ref a0, .ref b0, .int np, .int th, .int ed, .long hh])), (a0, .inl (cI, 129, .inl (upd w 35 (0 : Int32)))), (b0, .inl (cI, 516, .inl pf))] := hD
  refine lv_aload_n hx hb dX9_forgetsEdges_8 rfl (lv_at hl 0 rfl) ?_
  refine va_get (D := D) (ci := 9) (v := .ref a0) (C := RX9) (T := TX9) (N := 6) hx hb hts hiX9 hown hK hP 0 rfl rfl 0 (by decide) hk_7 (fun _ h9 => h9) rfl dX9_forgetsEdges_9 ?_
  refine lv_bipush (v := 33) hx hb dX9_forgetsEdges_12 (by decide) ?_
  refine lv_iconst (v := -1) hx hb dX9_forgetsEdges_14 (by decide) ?_
  refine my_iast hx hb hK hP hD hS 1 0 rfl rfl 33 (rfl) (by decide) (by decide) dX9_forgetsEdges_15 (fun H locs hP hD hS => ?_)
  have hP : va_P D vwCl [(h0, .inr (9, [.ref a0, .ref b0, .int np, .int th, .int ed, .long hh])), (a0, .inl (cI, 129, .inl (upd (upd w 35 (0 : Int32)) 33 (-1 : Int32)))), (b0, .inl (cI, 516, .inl pf))] H := hP
  have hD : va_D A [(h0, .inr (9, [.ref a0, .ref b0, .int np, .int th, .int ed, .long hh])), (a0, .inl (cI, 129, .inl (upd (upd w 35 (0 : Int32)) 33 (-1 : Int32)))), (b0, .inl (cI, 516, .inl pf))] := hD
  exact my_vret hx hb hr hlocks hK hP hD hS (upd (upd w 35 (0 : Int32)) 33 (-1 : Int32)) (by show (upd (upd w 35 (0 : Int32)) 33 (-1 : Int32)) = F_X9_forgetsEdges np th ed hh w pf; simp only [F_X9_forgetsEdges]) [0, 1, 2] rfl rfl dX9_forgetsEdges_16
def F_X9_faults (np : Int32) (th : Int32) (ed : Int32) (hh : Int64) (w : Nat → Int32) (pf : Nat → Int32) (t : Int32) (b : Int32) : (Nat → Int32) :=
  (upd (upd (upd (upd (upd (upd (upd (upd w 6 (0 : Int32)) 42 (0 : Int32)) 43 (0 : Int32)) 44 (0 : Int32)) 45 t) 46 (w 0)) 47 b) 32 ((w 32) + (1 : Int32)))
set_option maxHeartbeats 4000000 in
set_option maxRecDepth 100000 in
theorem met_X9_faults (l : Launch) (D : va_G) (cI cJ cS : ClassId) (h0 : Nat) (a0 : Nat) (b0 : Nat) (np : Int32) (th : Int32) (ed : Int32) (hh : Int64) (w : Nat → Int32) (pf : Nat → Int32) (t : Int32) (b : Int32)  : ∀ sz : Nat, Met l yX9_faults wsX9_faults ({ frames := 0, cells := 0, slots := 0, locals := 0 } : Room) (va_Pc [.ref h0, .int t, .int b] (cPre D (tyz cI cJ cS) ([(h0, .inr (9, [.ref a0, .ref b0, .int np, .int th, .int ed, .long hh])), (a0, .inl (cI, 129, .inl w)), (b0, .inl (cI, 516, .inl pf))]) sz)) (va_Qv (fun (u : (Nat → Int32)) => u = F_X9_faults np th ed hh w pf t b) (fun u => cPost D (tyz cI cJ cS) (va_A ([(h0, .inr (9, [.ref a0, .ref b0, .int np, .int th, .int ed, .long hh])), (a0, .inl (cI, 129, .inl w)), (b0, .inl (cI, 516, .inl pf))]) sz) ([(h0, .inr (9, [.ref a0, .ref b0, .int np, .int th, .int ed, .long hh])), (a0, .inl (cI, 129, .inl u)), (b0, .inl (cI, 516, .inl pf))])) (va_A ([(h0, .inr (9, [.ref a0, .ref b0, .int np, .int th, .int ed, .long hh])), (a0, .inl (cI, 129, .inl w)), (b0, .inl (cI, 516, .inl pf))]) sz)) 0 0 (va_A ([(h0, .inr (9, [.ref a0, .ref b0, .int np, .int th, .int ed, .long hh])), (a0, .inl (cI, 129, .inl w)), (b0, .inl (cI, 516, .inl pf))]) sz) := by
  refine my_met (QC := fun A => (va_Qv (fun (u : (Nat → Int32)) => u = F_X9_faults np th ed hh w pf t b) (fun u => cPost D (tyz cI cJ cS) A ([(h0, .inr (9, [.ref a0, .ref b0, .int np, .int th, .int ed, .long hh])), (a0, .inl (cI, 129, .inl u)), (b0, .inl (cI, 516, .inl pf))])) A)) (cc := cX9_faults) (maxL := 3) (ret := none) (by decide) rfl (Nat.le_of_ble_eq_true rfl) ?_
  intro p e s m below meth c ls A hx hb hml hr hts hown hlocks hname hK hP hD hS hA hG hl
  have hown : s.vm.findClass RX9 = some m.cls := hown
  have hl : lv_has ls 3 [(0, .ref h0), (1, .int t), (2, .int b)] := hl
  have hP : va_P D vwCl [(h0, .inr (9, [.ref a0, .ref b0, .int np, .int th, .int ed, .long hh])), (a0, .inl (cI, 129, .inl w)), (b0, .inl (cI, 516, .inl pf))] s.heap := hP
  have hD : va_D A [(h0, .inr (9, [.ref a0, .ref b0, .int np, .int th, .int ed, .long hh])), (a0, .inl (cI, 129, .inl w)), (b0, .inl (cI, 516, .inl pf))] := hD
  have hiX9 : ∀ w ∈ u_ws RX9 TX9 6, w ∈ wsX9_faults := by decide +kernel
  have hk_7 := hts (.fieldLink RX9 7 "HallCommutatorModel" "s" "[I") (by decide +kernel)
  refine lv_aload_n hx hb dX9_faults_0 rfl (lv_at hl 0 rfl) ?_
  refine va_get (D := D) (ci := 9) (v := .ref a0) (C := RX9) (T := TX9) (N := 6) hx hb hts hiX9 hown hK hP 0 rfl rfl 0 (by decide) hk_7 (fun _ h9 => h9) rfl dX9_faults_1 ?_
  refine lv_bipush (v := 6) hx hb dX9_faults_4 (by decide) ?_
  refine lv_iconst (v := 0) hx hb dX9_faults_6 (by decide) ?_
  refine my_iast hx hb hK hP hD hS 1 0 rfl rfl 6 (rfl) (by decide) (by decide) dX9_faults_7 (fun H locs hP hD hS => ?_)
  have hP : va_P D vwCl [(h0, .inr (9, [.ref a0, .ref b0, .int np, .int th, .int ed, .long hh])), (a0, .inl (cI, 129, .inl (upd w 6 (0 : Int32)))), (b0, .inl (cI, 516, .inl pf))] H := hP
  have hD : va_D A [(h0, .inr (9, [.ref a0, .ref b0, .int np, .int th, .int ed, .long hh])), (a0, .inl (cI, 129, .inl (upd w 6 (0 : Int32)))), (b0, .inl (cI, 516, .inl pf))] := hD
  refine lv_aload_n hx hb dX9_faults_8 rfl (lv_at hl 0 rfl) ?_
  refine va_get (D := D) (ci := 9) (v := .ref a0) (C := RX9) (T := TX9) (N := 6) hx hb hts hiX9 hown hK hP 0 rfl rfl 0 (by decide) hk_7 (fun _ h9 => h9) rfl dX9_faults_9 ?_
  refine lv_bipush (v := 42) hx hb dX9_faults_12 (by decide) ?_
  refine lv_iconst (v := 0) hx hb dX9_faults_14 (by decide) ?_
  refine my_iast hx hb hK hP hD hS 1 0 rfl rfl 42 (rfl) (by decide) (by decide) dX9_faults_15 (fun H locs hP hD hS => ?_)
  have hP : va_P D vwCl [(h0, .inr (9, [.ref a0, .ref b0, .int np, .int th, .int ed, .long hh])), (a0, .inl (cI, 129, .inl (upd (upd w 6 (0 : Int32)) 42 (0 : Int32)))), (b0, .inl (cI, 516, .inl pf))] H := hP
  have hD : va_D A [(h0, .inr (9, [.ref a0, .ref b0, .int np, .int th, .int ed, .long hh])), (a0, .inl (cI, 129, .inl (upd (upd w 6 (0 : Int32)) 42 (0 : Int32)))), (b0, .inl (cI, 516, .inl pf))] := hD
  refine lv_aload_n hx hb dX9_faults_16 rfl (lv_at hl 0 rfl) ?_
  refine va_get (D := D) (ci := 9) (v := .ref a0) (C := RX9) (T := TX9) (N := 6) hx hb hts hiX9 hown hK hP 0 rfl rfl 0 (by decide) hk_7 (fun _ h9 => h9) rfl dX9_faults_17 ?_
  refine lv_bipush (v := 43) hx hb dX9_faults_20 (by decide) ?_
  refine lv_iconst (v := 0) hx hb dX9_faults_22 (by decide) ?_
  refine my_iast hx hb hK hP hD hS 1 0 rfl rfl 43 (rfl) (by decide) (by decide) dX9_faults_23 (fun H locs hP hD hS => ?_)
  have hP : va_P D vwCl [(h0, .inr (9, [.ref a0, .ref b0, .int np, .int th, .int ed, .long hh])), (a0, .inl (cI, 129, .inl (upd (upd (upd w 6 (0 : Int32)) 42 (0 : Int32)) 43 (0 : Int32)))), (b0, .inl (cI, 516, .inl pf))] H := hP
  have hD : va_D A [(h0, .inr (9, [.ref a0, .ref b0, .int np, .int th, .int ed, .long hh])), (a0, .inl (cI, 129, .inl (upd (upd (upd w 6 (0 : Int32)) 42 (0 : Int32)) 43 (0 : Int32)))), (b0, .inl (cI, 516, .inl pf))] := hD
  refine lv_aload_n hx hb dX9_faults_24 rfl (lv_at hl 0 rfl) ?_
  refine va_get (D := D) (ci := 9) (v := .ref a0) (C := RX9) (T := TX9) (N := 6) hx hb hts hiX9 hown hK hP 0 rfl rfl 0 (by decide) hk_7 (fun _ h9 => h9) rfl dX9_faults_25 ?_
  refine lv_bipush (v := 44) hx hb dX9_faults_28 (by decide) ?_
  refine lv_iconst (v := 0) hx hb dX9_faults_30 (by decide) ?_
  refine my_iast hx hb hK hP hD hS 1 0 rfl rfl 44 (rfl) (by decide) (by decide) dX9_faults_31 (fun H locs hP hD hS => ?_)
  have hP : va_P D vwCl [(h0, .inr (9, [.ref a0, .ref b0, .int np, .int th, .int ed, .long hh])), (a0, .inl (cI, 129, .inl (upd (upd (upd (upd w 6 (0 : Int32)) 42 (0 : Int32)) 43 (0 : Int32)) 44 (0 : Int32)))), (b0, .inl (cI, 516, .inl pf))] H := hP
  have hD : va_D A [(h0, .inr (9, [.ref a0, .ref b0, .int np, .int th, .int ed, .long hh])), (a0, .inl (cI, 129, .inl (upd (upd (upd (upd w 6 (0 : Int32)) 42 (0 : Int32)) 43 (0 : Int32)) 44 (0 : Int32)))), (b0, .inl (cI, 516, .inl pf))] := hD
  refine lv_aload_n hx hb dX9_faults_32 rfl (lv_at hl 0 rfl) ?_
  refine va_get (D := D) (ci := 9) (v := .ref a0) (C := RX9) (T := TX9) (N := 6) hx hb hts hiX9 hown hK hP 0 rfl rfl 0 (by decide) hk_7 (fun _ h9 => h9) rfl dX9_faults_33 ?_
  refine lv_bipush (v := 45) hx hb dX9_faults_36 (by decide) ?_
  refine lv_iload_n hx hb dX9_faults_38 rfl (lv_at hl 1 rfl) ?_
  refine my_iast hx hb hK hP hD hS 1 0 rfl rfl 45 (rfl) (by decide) (by decide) dX9_faults_39 (fun H locs hP hD hS => ?_)
  have hP : va_P D vwCl [(h0, .inr (9, [.ref a0, .ref b0, .int np, .int th, .int ed, .long hh])), (a0, .inl (cI, 129, .inl (upd (upd (upd (upd (upd w 6 (0 : Int32)) 42 (0 : Int32)) 43 (0 : Int32)) 44 (0 : Int32)) 45 t))), (b0, .inl (cI, 516, .inl pf))] H := hP
  have hD : va_D A [(h0, .inr (9, [.ref a0, .ref b0, .int np, .int th, .int ed, .long hh])), (a0, .inl (cI, 129, .inl (upd (upd (upd (upd (upd w 6 (0 : Int32)) 42 (0 : Int32)) 43 (0 : Int32)) 44 (0 : Int32)) 45 t))), (b0, .inl (cI, 516, .inl pf))] := hD
  refine lv_aload_n hx hb dX9_faults_40 rfl (lv_at hl 0 rfl) ?_
  refine va_get (D := D) (ci := 9) (v := .ref a0) (C := RX9) (T := TX9) (N := 6) hx hb hts hiX9 hown hK hP 0 rfl rfl 0 (by decide) hk_7 (fun _ h9 => h9) rfl dX9_faults_41 ?_
  refine lv_bipush (v := 46) hx hb dX9_faults_44 (by decide) ?_
  refine lv_aload_n hx hb dX9_faults_46 rfl (lv_at hl 0 rfl) ?_
  refine va_get (D := D) (ci := 9) (v := .ref a0) (C := RX9) (T := TX9) (N := 6) hx hb hts hiX9 hown hK hP 0 rfl rfl 0 (by decide) hk_7 (fun _ h9 => h9) rfl dX9_faults_47 ?_
  refine lv_iconst (v := 0) hx hb dX9_faults_50 (by decide) ?_
  refine my_iald hx hb hK hP 1 0 rfl rfl 0 (rfl) (by decide) (by decide) dX9_faults_51 ?_
  refine W.eq (g2 := F0 m 52 ls [.int (w 0), .int (46 : Int32), .ref a0]) rfl ?_
  refine my_iast hx hb hK hP hD hS 1 0 rfl rfl 46 (rfl) (by decide) (by decide) dX9_faults_52 (fun H locs hP hD hS => ?_)
  have hP : va_P D vwCl [(h0, .inr (9, [.ref a0, .ref b0, .int np, .int th, .int ed, .long hh])), (a0, .inl (cI, 129, .inl (upd (upd (upd (upd (upd (upd w 6 (0 : Int32)) 42 (0 : Int32)) 43 (0 : Int32)) 44 (0 : Int32)) 45 t) 46 (w 0)))), (b0, .inl (cI, 516, .inl pf))] H := hP
  have hD : va_D A [(h0, .inr (9, [.ref a0, .ref b0, .int np, .int th, .int ed, .long hh])), (a0, .inl (cI, 129, .inl (upd (upd (upd (upd (upd (upd w 6 (0 : Int32)) 42 (0 : Int32)) 43 (0 : Int32)) 44 (0 : Int32)) 45 t) 46 (w 0)))), (b0, .inl (cI, 516, .inl pf))] := hD
  refine lv_aload_n hx hb dX9_faults_53 rfl (lv_at hl 0 rfl) ?_
  refine va_get (D := D) (ci := 9) (v := .ref a0) (C := RX9) (T := TX9) (N := 6) hx hb hts hiX9 hown hK hP 0 rfl rfl 0 (by decide) hk_7 (fun _ h9 => h9) rfl dX9_faults_54 ?_
  refine lv_bipush (v := 47) hx hb dX9_faults_57 (by decide) ?_
  refine lv_iload_n hx hb dX9_faults_59 rfl (lv_at hl 2 rfl) ?_
  refine my_iast hx hb hK hP hD hS 1 0 rfl rfl 47 (rfl) (by decide) (by decide) dX9_faults_60 (fun H locs hP hD hS => ?_)
  have hP : va_P D vwCl [(h0, .inr (9, [.ref a0, .ref b0, .int np, .int th, .int ed, .long hh])), (a0, .inl (cI, 129, .inl (upd (upd (upd (upd (upd (upd (upd w 6 (0 : Int32)) 42 (0 : Int32)) 43 (0 : Int32)) 44 (0 : Int32)) 45 t) 46 (w 0)) 47 b))), (b0, .inl (cI, 516, .inl pf))] H := hP
  have hD : va_D A [(h0, .inr (9, [.ref a0, .ref b0, .int np, .int th, .int ed, .long hh])), (a0, .inl (cI, 129, .inl (upd (upd (upd (upd (upd (upd (upd w 6 (0 : Int32)) 42 (0 : Int32)) 43 (0 : Int32)) 44 (0 : Int32)) 45 t) 46 (w 0)) 47 b))), (b0, .inl (cI, 516, .inl pf))] := hD
  refine lv_aload_n hx hb dX9_faults_61 rfl (lv_at hl 0 rfl) ?_
  refine va_get (D := D) (ci := 9) (v := .ref a0) (C := RX9) (T := TX9) (N := 6) hx hb hts hiX9 hown hK hP 0 rfl rfl 0 (by decide) hk_7 (fun _ h9 => h9) rfl dX9_faults_62 ?_
  refine lv_bipush (v := 32) hx hb dX9_faults_65 (by decide) ?_
  refine lv_dup2_11 hx hb dX9_faults_67 rfl rfl ?_
  refine my_iald hx hb hK hP 1 0 rfl rfl 32 (rfl) (by decide) (by decide) dX9_faults_68 ?_
  refine W.eq (g2 := F0 m 69 ls [.int (w 32), .int (32 : Int32), .ref a0]) rfl ?_
  refine lv_iconst (v := 1) hx hb dX9_faults_69 (by decide) ?_
  refine lv_iadd hx hb dX9_faults_70 ?_
  refine my_iast hx hb hK hP hD hS 1 0 rfl rfl 32 (rfl) (by decide) (by decide) dX9_faults_71 (fun H locs hP hD hS => ?_)
  have hP : va_P D vwCl [(h0, .inr (9, [.ref a0, .ref b0, .int np, .int th, .int ed, .long hh])), (a0, .inl (cI, 129, .inl (upd (upd (upd (upd (upd (upd (upd (upd w 6 (0 : Int32)) 42 (0 : Int32)) 43 (0 : Int32)) 44 (0 : Int32)) 45 t) 46 (w 0)) 47 b) 32 ((w 32) + (1 : Int32))))), (b0, .inl (cI, 516, .inl pf))] H := hP
  have hD : va_D A [(h0, .inr (9, [.ref a0, .ref b0, .int np, .int th, .int ed, .long hh])), (a0, .inl (cI, 129, .inl (upd (upd (upd (upd (upd (upd (upd (upd w 6 (0 : Int32)) 42 (0 : Int32)) 43 (0 : Int32)) 44 (0 : Int32)) 45 t) 46 (w 0)) 47 b) 32 ((w 32) + (1 : Int32))))), (b0, .inl (cI, 516, .inl pf))] := hD
  exact my_vret hx hb hr hlocks hK hP hD hS (upd (upd (upd (upd (upd (upd (upd (upd w 6 (0 : Int32)) 42 (0 : Int32)) 43 (0 : Int32)) 44 (0 : Int32)) 45 t) 46 (w 0)) 47 b) 32 ((w 32) + (1 : Int32))) (by show (upd (upd (upd (upd (upd (upd (upd (upd w 6 (0 : Int32)) 42 (0 : Int32)) 43 (0 : Int32)) 44 (0 : Int32)) 45 t) 46 (w 0)) 47 b) 32 ((w 32) + (1 : Int32))) = F_X9_faults np th ed hh w pf t b; simp only [F_X9_faults]) [0, 1, 2] rfl rfl dX9_faults_72
def F_X9_isDriven (np : Int32) (th : Int32) (ed : Int32) (hh : Int64) (w : Nat → Int32) (pf : Nat → Int32) : Int32 :=
  if w 6 = (1 : Int32) then
    (1 : Int32)
  else
    if w 6 = (2 : Int32) then
      (1 : Int32)
    else
      (0 : Int32)
set_option maxHeartbeats 4000000 in
set_option maxRecDepth 100000 in
theorem met_X9_isDriven (l : Launch) (D : va_G) (cI cJ cS : ClassId) (h0 : Nat) (a0 : Nat) (b0 : Nat) (np : Int32) (th : Int32) (ed : Int32) (hh : Int64) (w : Nat → Int32) (pf : Nat → Int32)  : ∀ sz : Nat, Met l yX9_isDriven wsX9_isDriven ({ frames := 0, cells := 0, slots := 0, locals := 0 } : Room) (va_Pc [.ref h0] (cPre D (tyz cI cJ cS) ([(h0, .inr (9, [.ref a0, .ref b0, .int np, .int th, .int ed, .long hh])), (a0, .inl (cI, 129, .inl w)), (b0, .inl (cI, 516, .inl pf))]) sz)) (va_Qi (fun (r : Int32) (_ : Unit) => r = F_X9_isDriven np th ed hh w pf) (fun u => cPost D (tyz cI cJ cS) (va_A ([(h0, .inr (9, [.ref a0, .ref b0, .int np, .int th, .int ed, .long hh])), (a0, .inl (cI, 129, .inl w)), (b0, .inl (cI, 516, .inl pf))]) sz) ([(h0, .inr (9, [.ref a0, .ref b0, .int np, .int th, .int ed, .long hh])), (a0, .inl (cI, 129, .inl w)), (b0, .inl (cI, 516, .inl pf))])) (va_A ([(h0, .inr (9, [.ref a0, .ref b0, .int np, .int th, .int ed, .long hh])), (a0, .inl (cI, 129, .inl w)), (b0, .inl (cI, 516, .inl pf))]) sz)) 0 0 (va_A ([(h0, .inr (9, [.ref a0, .ref b0, .int np, .int th, .int ed, .long hh])), (a0, .inl (cI, 129, .inl w)), (b0, .inl (cI, 516, .inl pf))]) sz) := by
  refine my_met (QC := fun A => (va_Qi (fun (r : Int32) (_ : Unit) => r = F_X9_isDriven np th ed hh w pf) (fun u => cPost D (tyz cI cJ cS) A ([(h0, .inr (9, [.ref a0, .ref b0, .int np, .int th, .int ed, .long hh])), (a0, .inl (cI, 129, .inl w)), (b0, .inl (cI, 516, .inl pf))])) A)) (cc := cX9_isDriven) (maxL := 1) (ret := (some .boolean)) (by decide) rfl (Nat.le_of_ble_eq_true rfl) ?_
  intro p e s m below meth c ls A hx hb hml hr hts hown hlocks hname hK hP hD hS hA hG hl
  have hown : s.vm.findClass RX9 = some m.cls := hown
  have hl : lv_has ls 1 [(0, .ref h0)] := hl
  have hP : va_P D vwCl [(h0, .inr (9, [.ref a0, .ref b0, .int np, .int th, .int ed, .long hh])), (a0, .inl (cI, 129, .inl w)), (b0, .inl (cI, 516, .inl pf))] s.heap := hP
  have hD : va_D A [(h0, .inr (9, [.ref a0, .ref b0, .int np, .int th, .int ed, .long hh])), (a0, .inl (cI, 129, .inl w)), (b0, .inl (cI, 516, .inl pf))] := hD
  have hiX9 : ∀ w ∈ u_ws RX9 TX9 6, w ∈ wsX9_isDriven := by decide +kernel
  have hk_7 := hts (.fieldLink RX9 7 "HallCommutatorModel" "s" "[I") (by decide +kernel)
  refine lv_aload_n hx hb dX9_isDriven_0 rfl (lv_at hl 0 rfl) ?_
  refine va_get (D := D) (ci := 9) (v := .ref a0) (C := RX9) (T := TX9) (N := 6) hx hb hts hiX9 hown hK hP 0 rfl rfl 0 (by decide) hk_7 (fun _ h9 => h9) rfl dX9_isDriven_1 ?_
  refine lv_bipush (v := 6) hx hb dX9_isDriven_4 (by decide) ?_
  refine my_iald hx hb hK hP 1 0 rfl rfl 6 (rfl) (by decide) (by decide) dX9_isDriven_6 ?_
  refine lv_iconst (v := 1) hx hb dX9_isDriven_7 (by decide) ?_
  refine lv_icmp_eq (tgt := 22) hx hb dX9_isDriven_8 (by decide) (fun c_1 => ?_) (fun c_1 => ?_)
  · skip
    refine lv_iconst (v := 1) hx hb dX9_isDriven_22 (by decide) ?_
    refine lv_goto (tgt := 27) hx hb dX9_isDriven_23 (by decide) ?_
    exact my_iret hx hb hr rfl hlocks hK hP hD hS () (by show (1 : Int32) = F_X9_isDriven np th ed hh w pf; simp only [F_X9_isDriven, if_pos c_1]) [0, 1, 2] rfl rfl dX9_isDriven_27
  · skip
    refine lv_aload_n hx hb dX9_isDriven_11 rfl (lv_at hl 0 rfl) ?_
    refine va_get (D := D) (ci := 9) (v := .ref a0) (C := RX9) (T := TX9) (N := 6) hx hb hts hiX9 hown hK hP 0 rfl rfl 0 (by decide) hk_7 (fun _ h9 => h9) rfl dX9_isDriven_12 ?_
    refine lv_bipush (v := 6) hx hb dX9_isDriven_15 (by decide) ?_
    refine my_iald hx hb hK hP 1 0 rfl rfl 6 (rfl) (by decide) (by decide) dX9_isDriven_17 ?_
    refine lv_iconst (v := 2) hx hb dX9_isDriven_18 (by decide) ?_
    refine lv_icmp_ne (tgt := 26) hx hb dX9_isDriven_19 (by decide) (fun c_2 => ?_) (fun c_2 => ?_)
    · skip
      refine lv_iconst (v := 0) hx hb dX9_isDriven_26 (by decide) ?_
      exact my_iret hx hb hr rfl hlocks hK hP hD hS () (by show (0 : Int32) = F_X9_isDriven np th ed hh w pf; simp only [F_X9_isDriven, if_neg c_1, if_neg c_2]) [0, 1, 2] rfl rfl dX9_isDriven_27
    · skip
      refine lv_iconst (v := 1) hx hb dX9_isDriven_22 (by decide) ?_
      refine lv_goto (tgt := 27) hx hb dX9_isDriven_23 (by decide) ?_
      exact my_iret hx hb hr rfl hlocks hK hP hD hS () (by show (1 : Int32) = F_X9_isDriven np th ed hh w pf; simp only [F_X9_isDriven, if_neg c_1, if_pos c_2]) [0, 1, 2] rfl rfl dX9_isDriven_27
def F_X9_addsInterval (np : Int32) (th : Int32) (ed : Int32) (hh : Int64) (w : Nat → Int32) (pf : Nat → Int32) (t : Int32) : (Nat → Int32) :=
  if w 35 = (6 : Int32) then
    (upd (upd (upd (upd (upd (upd (upd (upd w 36 (w 37)) 37 (w 38)) 38 (w 39)) 39 (w 40)) 40 (w 41)) 35 ((w 35) - (1 : Int32))) 41 t) 35 (((w 35) - (1 : Int32)) + (1 : Int32)))
  else
    (upd (upd w (36 + tn (w 35)) t) 35 (((upd w (36 + tn (w 35)) t) 35) + (1 : Int32)))
set_option maxHeartbeats 4000000 in
set_option maxRecDepth 100000 in
theorem met_X9_addsInterval (l : Launch) (D : va_G) (cI cJ cS : ClassId) (h0 : Nat) (a0 : Nat) (b0 : Nat) (np : Int32) (th : Int32) (ed : Int32) (hh : Int64) (w : Nat → Int32) (pf : Nat → Int32) (t : Int32) (hz : vp_in (w 35) 7) : ∀ sz : Nat, Met l yX9_addsInterval wsX9_addsInterval ({ frames := 0, cells := 0, slots := 0, locals := 0 } : Room) (va_Pc [.ref h0, .int t] (cPre D (tyz cI cJ cS) ([(h0, .inr (9, [.ref a0, .ref b0, .int np, .int th, .int ed, .long hh])), (a0, .inl (cI, 129, .inl w)), (b0, .inl (cI, 516, .inl pf))]) sz)) (va_Qv (fun (u : (Nat → Int32)) => u = F_X9_addsInterval np th ed hh w pf t) (fun u => cPost D (tyz cI cJ cS) (va_A ([(h0, .inr (9, [.ref a0, .ref b0, .int np, .int th, .int ed, .long hh])), (a0, .inl (cI, 129, .inl w)), (b0, .inl (cI, 516, .inl pf))]) sz) ([(h0, .inr (9, [.ref a0, .ref b0, .int np, .int th, .int ed, .long hh])), (a0, .inl (cI, 129, .inl u)), (b0, .inl (cI, 516, .inl pf))])) (va_A ([(h0, .inr (9, [.ref a0, .ref b0, .int np, .int th, .int ed, .long hh])), (a0, .inl (cI, 129, .inl w)), (b0, .inl (cI, 516, .inl pf))]) sz)) 0 0 (va_A ([(h0, .inr (9, [.ref a0, .ref b0, .int np, .int th, .int ed, .long hh])), (a0, .inl (cI, 129, .inl w)), (b0, .inl (cI, 516, .inl pf))]) sz) := by
  refine my_met (QC := fun A => (va_Qv (fun (u : (Nat → Int32)) => u = F_X9_addsInterval np th ed hh w pf t) (fun u => cPost D (tyz cI cJ cS) A ([(h0, .inr (9, [.ref a0, .ref b0, .int np, .int th, .int ed, .long hh])), (a0, .inl (cI, 129, .inl u)), (b0, .inl (cI, 516, .inl pf))])) A)) (cc := cX9_addsInterval) (maxL := 3) (ret := none) (by decide) rfl (Nat.le_of_ble_eq_true rfl) ?_
  intro p e s m below meth c ls A hx hb hml hr hts hown hlocks hname hK hP hD hS hA hG hl
  have hown : s.vm.findClass RX9 = some m.cls := hown
  have hl : lv_has ls 3 [(0, .ref h0), (1, .int t)] := hl
  have hP : va_P D vwCl [(h0, .inr (9, [.ref a0, .ref b0, .int np, .int th, .int ed, .long hh])), (a0, .inl (cI, 129, .inl w)), (b0, .inl (cI, 516, .inl pf))] s.heap := hP
  have hD : va_D A [(h0, .inr (9, [.ref a0, .ref b0, .int np, .int th, .int ed, .long hh])), (a0, .inl (cI, 129, .inl w)), (b0, .inl (cI, 516, .inl pf))] := hD
  have hiX9 : ∀ w ∈ u_ws RX9 TX9 6, w ∈ wsX9_addsInterval := by decide +kernel
  have hk_7 := hts (.fieldLink RX9 7 "HallCommutatorModel" "s" "[I") (by decide +kernel)
  refine lv_aload_n hx hb dX9_addsInterval_0 rfl (lv_at hl 0 rfl) ?_
  refine va_get (D := D) (ci := 9) (v := .ref a0) (C := RX9) (T := TX9) (N := 6) hx hb hts hiX9 hown hK hP 0 rfl rfl 0 (by decide) hk_7 (fun _ h9 => h9) rfl dX9_addsInterval_1 ?_
  refine lv_bipush (v := 35) hx hb dX9_addsInterval_4 (by decide) ?_
  refine my_iald hx hb hK hP 1 0 rfl rfl 35 (rfl) (by decide) (by decide) dX9_addsInterval_6 ?_
  refine lv_bipush (v := 6) hx hb dX9_addsInterval_7 (by decide) ?_
  refine lv_icmp_ne (tgt := 56) hx hb dX9_addsInterval_9 (by decide) (fun c_1 => ?_) (fun c_1 => ?_)
  · skip
    refine lv_aload_n hx hb dX9_addsInterval_56 rfl (lv_at hl 0 rfl) ?_
    refine va_get (D := D) (ci := 9) (v := .ref a0) (C := RX9) (T := TX9) (N := 6) hx hb hts hiX9 hown hK hP 0 rfl rfl 0 (by decide) hk_7 (fun _ h9 => h9) rfl dX9_addsInterval_57 ?_
    refine lv_bipush (v := 36) hx hb dX9_addsInterval_60 (by decide) ?_
    refine lv_aload_n hx hb dX9_addsInterval_62 rfl (lv_at hl 0 rfl) ?_
    refine va_get (D := D) (ci := 9) (v := .ref a0) (C := RX9) (T := TX9) (N := 6) hx hb hts hiX9 hown hK hP 0 rfl rfl 0 (by decide) hk_7 (fun _ h9 => h9) rfl dX9_addsInterval_63 ?_
    refine lv_bipush (v := 35) hx hb dX9_addsInterval_66 (by decide) ?_
    refine my_iald hx hb hK hP 1 0 rfl rfl 35 (rfl) (by decide) (by decide) dX9_addsInterval_68 ?_
    refine lv_iadd hx hb dX9_addsInterval_69 ?_
    refine lv_iload_n hx hb dX9_addsInterval_70 rfl (lv_at hl 1 rfl) ?_
    refine my_iast hx hb hK hP hD hS 1 0 rfl rfl (36 + tn (w 35)) (add36 hz) (by have := tn_lt (vp_sub6 hz c_1); omega) (by decide) dX9_addsInterval_71 (fun H locs hP hD hS => ?_)
    have hP : va_P D vwCl [(h0, .inr (9, [.ref a0, .ref b0, .int np, .int th, .int ed, .long hh])), (a0, .inl (cI, 129, .inl (upd w (36 + tn (w 35)) t))), (b0, .inl (cI, 516, .inl pf))] H := hP
    have hD : va_D A [(h0, .inr (9, [.ref a0, .ref b0, .int np, .int th, .int ed, .long hh])), (a0, .inl (cI, 129, .inl (upd w (36 + tn (w 35)) t))), (b0, .inl (cI, 516, .inl pf))] := hD
    refine lv_aload_n hx hb dX9_addsInterval_72 rfl (lv_at hl 0 rfl) ?_
    refine va_get (D := D) (ci := 9) (v := .ref a0) (C := RX9) (T := TX9) (N := 6) hx hb hts hiX9 hown hK hP 0 rfl rfl 0 (by decide) hk_7 (fun _ h9 => h9) rfl dX9_addsInterval_73 ?_
    refine lv_bipush (v := 35) hx hb dX9_addsInterval_76 (by decide) ?_
    refine lv_dup2_11 hx hb dX9_addsInterval_78 rfl rfl ?_
    refine my_iald hx hb hK hP 1 0 rfl rfl 35 (rfl) (by decide) (by decide) dX9_addsInterval_79 ?_
    refine lv_iconst (v := 1) hx hb dX9_addsInterval_80 (by decide) ?_
    refine lv_iadd hx hb dX9_addsInterval_81 ?_
    refine my_iast hx hb hK hP hD hS 1 0 rfl rfl 35 (rfl) (by decide) (by decide) dX9_addsInterval_82 (fun H locs hP hD hS => ?_)
    have hP : va_P D vwCl [(h0, .inr (9, [.ref a0, .ref b0, .int np, .int th, .int ed, .long hh])), (a0, .inl (cI, 129, .inl (upd (upd w (36 + tn (w 35)) t) 35 (((upd w (36 + tn (w 35)) t) 35) + (1 : Int32))))), (b0, .inl (cI, 516, .inl pf))] H := hP
    have hD : va_D A [(h0, .inr (9, [.ref a0, .ref b0, .int np, .int th, .int ed, .long hh])), (a0, .inl (cI, 129, .inl (upd (upd w (36 + tn (w 35)) t) 35 (((upd w (36 + tn (w 35)) t) 35) + (1 : Int32))))), (b0, .inl (cI, 516, .inl pf))] := hD
    exact my_vret hx hb hr hlocks hK hP hD hS (upd (upd w (36 + tn (w 35)) t) 35 (((upd w (36 + tn (w 35)) t) 35) + (1 : Int32))) (by show (upd (upd w (36 + tn (w 35)) t) 35 (((upd w (36 + tn (w 35)) t) 35) + (1 : Int32))) = F_X9_addsInterval np th ed hh w pf t; simp only [F_X9_addsInterval, if_neg c_1]) [0, 1, 2] rfl rfl dX9_addsInterval_83
  · skip
    refine lv_iconst (v := 0) hx hb dX9_addsInterval_12 (by decide) ?_
    refine lv_istore_n (lv' := [(2, .int (0 : Int32)), (0, .ref h0), (1, .int t)]) hx hb dX9_addsInterval_13 rfl hl (by decide) rfl (fun ls hl => ?_)
    refine lv_iload_n hx hb dX9_addsInterval_14 rfl (lv_at hl 0 rfl) ?_
    refine lv_iconst (v := 5) hx hb dX9_addsInterval_15 (by decide) ?_
    refine lv_icmp_ge (tgt := 45) hx hb dX9_addsInterval_16 (by decide) (fun c9 => absurd c9 (by decide)) (fun _ => ?_)
    refine lv_aload_n hx hb dX9_addsInterval_19 rfl (lv_at hl 1 rfl) ?_
    refine va_get (D := D) (ci := 9) (v := .ref a0) (C := RX9) (T := TX9) (N := 6) hx hb hts hiX9 hown hK hP 0 rfl rfl 0 (by decide) hk_7 (fun _ h9 => h9) rfl dX9_addsInterval_20 ?_
    refine lv_bipush (v := 36) hx hb dX9_addsInterval_23 (by decide) ?_
    refine lv_iload_n hx hb dX9_addsInterval_25 rfl (lv_at hl 0 rfl) ?_
    refine lv_iadd hx hb dX9_addsInterval_26 ?_
    refine W.eq (g2 := F0 m 27 ls [.int (36 : Int32), .ref a0]) rfl ?_
    refine lv_aload_n hx hb dX9_addsInterval_27 rfl (lv_at hl 1 rfl) ?_
    refine va_get (D := D) (ci := 9) (v := .ref a0) (C := RX9) (T := TX9) (N := 6) hx hb hts hiX9 hown hK hP 0 rfl rfl 0 (by decide) hk_7 (fun _ h9 => h9) rfl dX9_addsInterval_28 ?_
    refine lv_bipush (v := 36) hx hb dX9_addsInterval_31 (by decide) ?_
    refine lv_iload_n hx hb dX9_addsInterval_33 rfl (lv_at hl 0 rfl) ?_
    refine lv_iadd hx hb dX9_addsInterval_34 ?_
    refine W.eq (g2 := F0 m 35 ls [.int (36 : Int32), .ref a0, .int (36 : Int32), .ref a0]) rfl ?_
    refine lv_iconst (v := 1) hx hb dX9_addsInterval_35 (by decide) ?_
    refine lv_iadd hx hb dX9_addsInterval_36 ?_
    refine W.eq (g2 := F0 m 37 ls [.int (37 : Int32), .ref a0, .int (36 : Int32), .ref a0]) rfl ?_
    refine my_iald hx hb hK hP 1 0 rfl rfl 37 (rfl) (by decide) (by decide) dX9_addsInterval_37 ?_
    refine my_iast hx hb hK hP hD hS 1 0 rfl rfl 36 (rfl) (by decide) (by decide) dX9_addsInterval_38 (fun H locs hP hD hS => ?_)
    have hP : va_P D vwCl [(h0, .inr (9, [.ref a0, .ref b0, .int np, .int th, .int ed, .long hh])), (a0, .inl (cI, 129, .inl (upd w 36 (w 37)))), (b0, .inl (cI, 516, .inl pf))] H := hP
    have hD : va_D A [(h0, .inr (9, [.ref a0, .ref b0, .int np, .int th, .int ed, .long hh])), (a0, .inl (cI, 129, .inl (upd w 36 (w 37)))), (b0, .inl (cI, 516, .inl pf))] := hD
    refine lv_iinc (v := (1 : Int32)) (lv' := [(2, .int (1 : Int32)), (0, .ref h0), (1, .int t)]) hx hb dX9_addsInterval_39 hl (k := 0) rfl (by decide) (by decide) rfl (fun ls hl => ?_)
    refine lv_goto (tgt := 14) hx hb dX9_addsInterval_42 (by decide) ?_
    refine lv_iload_n hx hb dX9_addsInterval_14 rfl (lv_at hl 0 rfl) ?_
    refine lv_iconst (v := 5) hx hb dX9_addsInterval_15 (by decide) ?_
    refine lv_icmp_ge (tgt := 45) hx hb dX9_addsInterval_16 (by decide) (fun c9 => absurd c9 (by decide)) (fun _ => ?_)
    refine lv_aload_n hx hb dX9_addsInterval_19 rfl (lv_at hl 1 rfl) ?_
    refine va_get (D := D) (ci := 9) (v := .ref a0) (C := RX9) (T := TX9) (N := 6) hx hb hts hiX9 hown hK hP 0 rfl rfl 0 (by decide) hk_7 (fun _ h9 => h9) rfl dX9_addsInterval_20 ?_
    refine lv_bipush (v := 36) hx hb dX9_addsInterval_23 (by decide) ?_
    refine lv_iload_n hx hb dX9_addsInterval_25 rfl (lv_at hl 0 rfl) ?_
    refine lv_iadd hx hb dX9_addsInterval_26 ?_
    refine W.eq (g2 := F0 m 27 ls [.int (37 : Int32), .ref a0]) rfl ?_
    refine lv_aload_n hx hb dX9_addsInterval_27 rfl (lv_at hl 1 rfl) ?_
    refine va_get (D := D) (ci := 9) (v := .ref a0) (C := RX9) (T := TX9) (N := 6) hx hb hts hiX9 hown hK hP 0 rfl rfl 0 (by decide) hk_7 (fun _ h9 => h9) rfl dX9_addsInterval_28 ?_
    refine lv_bipush (v := 36) hx hb dX9_addsInterval_31 (by decide) ?_
    refine lv_iload_n hx hb dX9_addsInterval_33 rfl (lv_at hl 0 rfl) ?_
    refine lv_iadd hx hb dX9_addsInterval_34 ?_
    refine W.eq (g2 := F0 m 35 ls [.int (37 : Int32), .ref a0, .int (37 : Int32), .ref a0]) rfl ?_
    refine lv_iconst (v := 1) hx hb dX9_addsInterval_35 (by decide) ?_
    refine lv_iadd hx hb dX9_addsInterval_36 ?_
    refine W.eq (g2 := F0 m 37 ls [.int (38 : Int32), .ref a0, .int (37 : Int32), .ref a0]) rfl ?_
    refine my_iald hx hb hK hP 1 0 rfl rfl 38 (rfl) (by decide) (by decide) dX9_addsInterval_37 ?_
    refine W.eq (g2 := F0 m 38 ls [.int (w 38), .int (37 : Int32), .ref a0]) rfl ?_
    refine my_iast hx hb hK hP hD hS 1 0 rfl rfl 37 (rfl) (by decide) (by decide) dX9_addsInterval_38 (fun H locs hP hD hS => ?_)
    have hP : va_P D vwCl [(h0, .inr (9, [.ref a0, .ref b0, .int np, .int th, .int ed, .long hh])), (a0, .inl (cI, 129, .inl (upd (upd w 36 (w 37)) 37 (w 38)))), (b0, .inl (cI, 516, .inl pf))] H := hP
    have hD : va_D A [(h0, .inr (9, [.ref a0, .ref b0, .int np, .int th, .int ed, .long hh])), (a0, .inl (cI, 129, .inl (upd (upd w 36 (w 37)) 37 (w 38)))), (b0, .inl (cI, 516, .inl pf))] := hD
    refine lv_iinc (v := (2 : Int32)) (lv' := [(2, .int (2 : Int32)), (0, .ref h0), (1, .int t)]) hx hb dX9_addsInterval_39 hl (k := 0) rfl (by decide) (by decide) rfl (fun ls hl => ?_)
    refine lv_goto (tgt := 14) hx hb dX9_addsInterval_42 (by decide) ?_
    refine lv_iload_n hx hb dX9_addsInterval_14 rfl (lv_at hl 0 rfl) ?_
    refine lv_iconst (v := 5) hx hb dX9_addsInterval_15 (by decide) ?_
    refine lv_icmp_ge (tgt := 45) hx hb dX9_addsInterval_16 (by decide) (fun c9 => absurd c9 (by decide)) (fun _ => ?_)
    refine lv_aload_n hx hb dX9_addsInterval_19 rfl (lv_at hl 1 rfl) ?_
    refine va_get (D := D) (ci := 9) (v := .ref a0) (C := RX9) (T := TX9) (N := 6) hx hb hts hiX9 hown hK hP 0 rfl rfl 0 (by decide) hk_7 (fun _ h9 => h9) rfl dX9_addsInterval_20 ?_
    refine lv_bipush (v := 36) hx hb dX9_addsInterval_23 (by decide) ?_
    refine lv_iload_n hx hb dX9_addsInterval_25 rfl (lv_at hl 0 rfl) ?_
    refine lv_iadd hx hb dX9_addsInterval_26 ?_
    refine W.eq (g2 := F0 m 27 ls [.int (38 : Int32), .ref a0]) rfl ?_
    refine lv_aload_n hx hb dX9_addsInterval_27 rfl (lv_at hl 1 rfl) ?_
    refine va_get (D := D) (ci := 9) (v := .ref a0) (C := RX9) (T := TX9) (N := 6) hx hb hts hiX9 hown hK hP 0 rfl rfl 0 (by decide) hk_7 (fun _ h9 => h9) rfl dX9_addsInterval_28 ?_
    refine lv_bipush (v := 36) hx hb dX9_addsInterval_31 (by decide) ?_
    refine lv_iload_n hx hb dX9_addsInterval_33 rfl (lv_at hl 0 rfl) ?_
    refine lv_iadd hx hb dX9_addsInterval_34 ?_
    refine W.eq (g2 := F0 m 35 ls [.int (38 : Int32), .ref a0, .int (38 : Int32), .ref a0]) rfl ?_
    refine lv_iconst (v := 1) hx hb dX9_addsInterval_35 (by decide) ?_
    refine lv_iadd hx hb dX9_addsInterval_36 ?_
    refine W.eq (g2 := F0 m 37 ls [.int (39 : Int32), .ref a0, .int (38 : Int32), .ref a0]) rfl ?_
    refine my_iald hx hb hK hP 1 0 rfl rfl 39 (rfl) (by decide) (by decide) dX9_addsInterval_37 ?_
    refine W.eq (g2 := F0 m 38 ls [.int (w 39), .int (38 : Int32), .ref a0]) rfl ?_
    refine my_iast hx hb hK hP hD hS 1 0 rfl rfl 38 (rfl) (by decide) (by decide) dX9_addsInterval_38 (fun H locs hP hD hS => ?_)
    have hP : va_P D vwCl [(h0, .inr (9, [.ref a0, .ref b0, .int np, .int th, .int ed, .long hh])), (a0, .inl (cI, 129, .inl (upd (upd (upd w 36 (w 37)) 37 (w 38)) 38 (w 39)))), (b0, .inl (cI, 516, .inl pf))] H := hP
    have hD : va_D A [(h0, .inr (9, [.ref a0, .ref b0, .int np, .int th, .int ed, .long hh])), (a0, .inl (cI, 129, .inl (upd (upd (upd w 36 (w 37)) 37 (w 38)) 38 (w 39)))), (b0, .inl (cI, 516, .inl pf))] := hD
    refine lv_iinc (v := (3 : Int32)) (lv' := [(2, .int (3 : Int32)), (0, .ref h0), (1, .int t)]) hx hb dX9_addsInterval_39 hl (k := 0) rfl (by decide) (by decide) rfl (fun ls hl => ?_)
    refine lv_goto (tgt := 14) hx hb dX9_addsInterval_42 (by decide) ?_
    refine lv_iload_n hx hb dX9_addsInterval_14 rfl (lv_at hl 0 rfl) ?_
    refine lv_iconst (v := 5) hx hb dX9_addsInterval_15 (by decide) ?_
    refine lv_icmp_ge (tgt := 45) hx hb dX9_addsInterval_16 (by decide) (fun c9 => absurd c9 (by decide)) (fun _ => ?_)
    refine lv_aload_n hx hb dX9_addsInterval_19 rfl (lv_at hl 1 rfl) ?_
    refine va_get (D := D) (ci := 9) (v := .ref a0) (C := RX9) (T := TX9) (N := 6) hx hb hts hiX9 hown hK hP 0 rfl rfl 0 (by decide) hk_7 (fun _ h9 => h9) rfl dX9_addsInterval_20 ?_
    refine lv_bipush (v := 36) hx hb dX9_addsInterval_23 (by decide) ?_
    refine lv_iload_n hx hb dX9_addsInterval_25 rfl (lv_at hl 0 rfl) ?_
    refine lv_iadd hx hb dX9_addsInterval_26 ?_
    refine W.eq (g2 := F0 m 27 ls [.int (39 : Int32), .ref a0]) rfl ?_
    refine lv_aload_n hx hb dX9_addsInterval_27 rfl (lv_at hl 1 rfl) ?_
    refine va_get (D := D) (ci := 9) (v := .ref a0) (C := RX9) (T := TX9) (N := 6) hx hb hts hiX9 hown hK hP 0 rfl rfl 0 (by decide) hk_7 (fun _ h9 => h9) rfl dX9_addsInterval_28 ?_
    refine lv_bipush (v := 36) hx hb dX9_addsInterval_31 (by decide) ?_
    refine lv_iload_n hx hb dX9_addsInterval_33 rfl (lv_at hl 0 rfl) ?_
    refine lv_iadd hx hb dX9_addsInterval_34 ?_
    refine W.eq (g2 := F0 m 35 ls [.int (39 : Int32), .ref a0, .int (39 : Int32), .ref a0]) rfl ?_
    refine lv_iconst (v := 1) hx hb dX9_addsInterval_35 (by decide) ?_
    refine lv_iadd hx hb dX9_addsInterval_36 ?_
    refine W.eq (g2 := F0 m 37 ls [.int (40 : Int32), .ref a0, .int (39 : Int32), .ref a0]) rfl ?_
    refine my_iald hx hb hK hP 1 0 rfl rfl 40 (rfl) (by decide) (by decide) dX9_addsInterval_37 ?_
    refine W.eq (g2 := F0 m 38 ls [.int (w 40), .int (39 : Int32), .ref a0]) rfl ?_
    refine my_iast hx hb hK hP hD hS 1 0 rfl rfl 39 (rfl) (by decide) (by decide) dX9_addsInterval_38 (fun H locs hP hD hS => ?_)
    have hP : va_P D vwCl [(h0, .inr (9, [.ref a0, .ref b0, .int np, .int th, .int ed, .long hh])), (a0, .inl (cI, 129, .inl (upd (upd (upd (upd w 36 (w 37)) 37 (w 38)) 38 (w 39)) 39 (w 40)))), (b0, .inl (cI, 516, .inl pf))] H := hP
    have hD : va_D A [(h0, .inr (9, [.ref a0, .ref b0, .int np, .int th, .int ed, .long hh])), (a0, .inl (cI, 129, .inl (upd (upd (upd (upd w 36 (w 37)) 37 (w 38)) 38 (w 39)) 39 (w 40)))), (b0, .inl (cI, 516, .inl pf))] := hD
    refine lv_iinc (v := (4 : Int32)) (lv' := [(2, .int (4 : Int32)), (0, .ref h0), (1, .int t)]) hx hb dX9_addsInterval_39 hl (k := 0) rfl (by decide) (by decide) rfl (fun ls hl => ?_)
    refine lv_goto (tgt := 14) hx hb dX9_addsInterval_42 (by decide) ?_
    refine lv_iload_n hx hb dX9_addsInterval_14 rfl (lv_at hl 0 rfl) ?_
    refine lv_iconst (v := 5) hx hb dX9_addsInterval_15 (by decide) ?_
    refine lv_icmp_ge (tgt := 45) hx hb dX9_addsInterval_16 (by decide) (fun c9 => absurd c9 (by decide)) (fun _ => ?_)
    refine lv_aload_n hx hb dX9_addsInterval_19 rfl (lv_at hl 1 rfl) ?_
    refine va_get (D := D) (ci := 9) (v := .ref a0) (C := RX9) (T := TX9) (N := 6) hx hb hts hiX9 hown hK hP 0 rfl rfl 0 (by decide) hk_7 (fun _ h9 => h9) rfl dX9_addsInterval_20 ?_
    refine lv_bipush (v := 36) hx hb dX9_addsInterval_23 (by decide) ?_
    refine lv_iload_n hx hb dX9_addsInterval_25 rfl (lv_at hl 0 rfl) ?_
    refine lv_iadd hx hb dX9_addsInterval_26 ?_
    refine W.eq (g2 := F0 m 27 ls [.int (40 : Int32), .ref a0]) rfl ?_
    refine lv_aload_n hx hb dX9_addsInterval_27 rfl (lv_at hl 1 rfl) ?_
    refine va_get (D := D) (ci := 9) (v := .ref a0) (C := RX9) (T := TX9) (N := 6) hx hb hts hiX9 hown hK hP 0 rfl rfl 0 (by decide) hk_7 (fun _ h9 => h9) rfl dX9_addsInterval_28 ?_
    refine lv_bipush (v := 36) hx hb dX9_addsInterval_31 (by decide) ?_
    refine lv_iload_n hx hb dX9_addsInterval_33 rfl (lv_at hl 0 rfl) ?_
    refine lv_iadd hx hb dX9_addsInterval_34 ?_
    refine W.eq (g2 := F0 m 35 ls [.int (40 : Int32), .ref a0, .int (40 : Int32), .ref a0]) rfl ?_
    refine lv_iconst (v := 1) hx hb dX9_addsInterval_35 (by decide) ?_
    refine lv_iadd hx hb dX9_addsInterval_36 ?_
    refine W.eq (g2 := F0 m 37 ls [.int (41 : Int32), .ref a0, .int (40 : Int32), .ref a0]) rfl ?_
    refine my_iald hx hb hK hP 1 0 rfl rfl 41 (rfl) (by decide) (by decide) dX9_addsInterval_37 ?_
    refine W.eq (g2 := F0 m 38 ls [.int (w 41), .int (40 : Int32), .ref a0]) rfl ?_
    refine my_iast hx hb hK hP hD hS 1 0 rfl rfl 40 (rfl) (by decide) (by decide) dX9_addsInterval_38 (fun H locs hP hD hS => ?_)
    have hP : va_P D vwCl [(h0, .inr (9, [.ref a0, .ref b0, .int np, .int th, .int ed, .long hh])), (a0, .inl (cI, 129, .inl (upd (upd (upd (upd (upd w 36 (w 37)) 37 (w 38)) 38 (w 39)) 39 (w 40)) 40 (w 41)))), (b0, .inl (cI, 516, .inl pf))] H := hP
    have hD : va_D A [(h0, .inr (9, [.ref a0, .ref b0, .int np, .int th, .int ed, .long hh])), (a0, .inl (cI, 129, .inl (upd (upd (upd (upd (upd w 36 (w 37)) 37 (w 38)) 38 (w 39)) 39 (w 40)) 40 (w 41)))), (b0, .inl (cI, 516, .inl pf))] := hD
    refine lv_iinc (v := (5 : Int32)) (lv' := [(2, .int (5 : Int32)), (0, .ref h0), (1, .int t)]) hx hb dX9_addsInterval_39 hl (k := 0) rfl (by decide) (by decide) rfl (fun ls hl => ?_)
    refine lv_goto (tgt := 14) hx hb dX9_addsInterval_42 (by decide) ?_
    refine lv_iload_n hx hb dX9_addsInterval_14 rfl (lv_at hl 0 rfl) ?_
    refine lv_iconst (v := 5) hx hb dX9_addsInterval_15 (by decide) ?_
    refine lv_icmp_ge (tgt := 45) hx hb dX9_addsInterval_16 (by decide) (fun _ => ?_) (fun c9 => absurd (by decide) c9)
    refine lv_aload_n hx hb dX9_addsInterval_45 rfl (lv_at hl 1 rfl) ?_
    refine va_get (D := D) (ci := 9) (v := .ref a0) (C := RX9) (T := TX9) (N := 6) hx hb hts hiX9 hown hK hP 0 rfl rfl 0 (by decide) hk_7 (fun _ h9 => h9) rfl dX9_addsInterval_46 ?_
    refine lv_bipush (v := 35) hx hb dX9_addsInterval_49 (by decide) ?_
    refine lv_dup2_11 hx hb dX9_addsInterval_51 rfl rfl ?_
    refine my_iald hx hb hK hP 1 0 rfl rfl 35 (rfl) (by decide) (by decide) dX9_addsInterval_52 ?_
    refine W.eq (g2 := F0 m 53 ls [.int (w 35), .int (35 : Int32), .ref a0]) rfl ?_
    refine lv_iconst (v := 1) hx hb dX9_addsInterval_53 (by decide) ?_
    refine lv_isub hx hb dX9_addsInterval_54 ?_
    refine my_iast hx hb hK hP hD hS 1 0 rfl rfl 35 (rfl) (by decide) (by decide) dX9_addsInterval_55 (fun H locs hP hD hS => ?_)
    have hP : va_P D vwCl [(h0, .inr (9, [.ref a0, .ref b0, .int np, .int th, .int ed, .long hh])), (a0, .inl (cI, 129, .inl (upd (upd (upd (upd (upd (upd w 36 (w 37)) 37 (w 38)) 38 (w 39)) 39 (w 40)) 40 (w 41)) 35 ((w 35) - (1 : Int32))))), (b0, .inl (cI, 516, .inl pf))] H := hP
    have hD : va_D A [(h0, .inr (9, [.ref a0, .ref b0, .int np, .int th, .int ed, .long hh])), (a0, .inl (cI, 129, .inl (upd (upd (upd (upd (upd (upd w 36 (w 37)) 37 (w 38)) 38 (w 39)) 39 (w 40)) 40 (w 41)) 35 ((w 35) - (1 : Int32))))), (b0, .inl (cI, 516, .inl pf))] := hD
    refine lv_aload_n hx hb dX9_addsInterval_56 rfl (lv_at hl 1 rfl) ?_
    refine va_get (D := D) (ci := 9) (v := .ref a0) (C := RX9) (T := TX9) (N := 6) hx hb hts hiX9 hown hK hP 0 rfl rfl 0 (by decide) hk_7 (fun _ h9 => h9) rfl dX9_addsInterval_57 ?_
    refine lv_bipush (v := 36) hx hb dX9_addsInterval_60 (by decide) ?_
    refine lv_aload_n hx hb dX9_addsInterval_62 rfl (lv_at hl 1 rfl) ?_
    refine va_get (D := D) (ci := 9) (v := .ref a0) (C := RX9) (T := TX9) (N := 6) hx hb hts hiX9 hown hK hP 0 rfl rfl 0 (by decide) hk_7 (fun _ h9 => h9) rfl dX9_addsInterval_63 ?_
    refine lv_bipush (v := 35) hx hb dX9_addsInterval_66 (by decide) ?_
    refine my_iald hx hb hK hP 1 0 rfl rfl 35 (rfl) (by decide) (by decide) dX9_addsInterval_68 ?_
    refine W.eq (g2 := F0 m 69 ls [.int ((w 35) - (1 : Int32)), .int (36 : Int32), .ref a0]) rfl ?_
    refine lv_iadd hx hb dX9_addsInterval_69 ?_
    refine lv_iload_n hx hb dX9_addsInterval_70 rfl (lv_at hl 2 rfl) ?_
    refine my_iast hx hb hK hP hD hS 1 0 rfl rfl 41 (by rw [c_1]; rfl) (by decide) (by decide) dX9_addsInterval_71 (fun H locs hP hD hS => ?_)
    have hP : va_P D vwCl [(h0, .inr (9, [.ref a0, .ref b0, .int np, .int th, .int ed, .long hh])), (a0, .inl (cI, 129, .inl (upd (upd (upd (upd (upd (upd (upd w 36 (w 37)) 37 (w 38)) 38 (w 39)) 39 (w 40)) 40 (w 41)) 35 ((w 35) - (1 : Int32))) 41 t))), (b0, .inl (cI, 516, .inl pf))] H := hP
    have hD : va_D A [(h0, .inr (9, [.ref a0, .ref b0, .int np, .int th, .int ed, .long hh])), (a0, .inl (cI, 129, .inl (upd (upd (upd (upd (upd (upd (upd w 36 (w 37)) 37 (w 38)) 38 (w 39)) 39 (w 40)) 40 (w 41)) 35 ((w 35) - (1 : Int32))) 41 t))), (b0, .inl (cI, 516, .inl pf))] := hD
    refine lv_aload_n hx hb dX9_addsInterval_72 rfl (lv_at hl 1 rfl) ?_
    refine va_get (D := D) (ci := 9) (v := .ref a0) (C := RX9) (T := TX9) (N := 6) hx hb hts hiX9 hown hK hP 0 rfl rfl 0 (by decide) hk_7 (fun _ h9 => h9) rfl dX9_addsInterval_73 ?_
    refine lv_bipush (v := 35) hx hb dX9_addsInterval_76 (by decide) ?_
    refine lv_dup2_11 hx hb dX9_addsInterval_78 rfl rfl ?_
    refine my_iald hx hb hK hP 1 0 rfl rfl 35 (rfl) (by decide) (by decide) dX9_addsInterval_79 ?_
    refine W.eq (g2 := F0 m 80 ls [.int ((w 35) - (1 : Int32)), .int (35 : Int32), .ref a0]) rfl ?_
    refine lv_iconst (v := 1) hx hb dX9_addsInterval_80 (by decide) ?_
    refine lv_iadd hx hb dX9_addsInterval_81 ?_
    refine my_iast hx hb hK hP hD hS 1 0 rfl rfl 35 (rfl) (by decide) (by decide) dX9_addsInterval_82 (fun H locs hP hD hS => ?_)
    have hP : va_P D vwCl [(h0, .inr (9, [.ref a0, .ref b0, .int np, .int th, .int ed, .long hh])), (a0, .inl (cI, 129, .inl (upd (upd (upd (upd (upd (upd (upd (upd w 36 (w 37)) 37 (w 38)) 38 (w 39)) 39 (w 40)) 40 (w 41)) 35 ((w 35) - (1 : Int32))) 41 t) 35 (((w 35) - (1 : Int32)) + (1 : Int32))))), (b0, .inl (cI, 516, .inl pf))] H := hP
    have hD : va_D A [(h0, .inr (9, [.ref a0, .ref b0, .int np, .int th, .int ed, .long hh])), (a0, .inl (cI, 129, .inl (upd (upd (upd (upd (upd (upd (upd (upd w 36 (w 37)) 37 (w 38)) 38 (w 39)) 39 (w 40)) 40 (w 41)) 35 ((w 35) - (1 : Int32))) 41 t) 35 (((w 35) - (1 : Int32)) + (1 : Int32))))), (b0, .inl (cI, 516, .inl pf))] := hD
    exact my_vret hx hb hr hlocks hK hP hD hS (upd (upd (upd (upd (upd (upd (upd (upd w 36 (w 37)) 37 (w 38)) 38 (w 39)) 39 (w 40)) 40 (w 41)) 35 ((w 35) - (1 : Int32))) 41 t) 35 (((w 35) - (1 : Int32)) + (1 : Int32))) (by show (upd (upd (upd (upd (upd (upd (upd (upd w 36 (w 37)) 37 (w 38)) 38 (w 39)) 39 (w 40)) 40 (w 41)) 35 ((w 35) - (1 : Int32))) 41 t) 35 (((w 35) - (1 : Int32)) + (1 : Int32))) = F_X9_addsInterval np th ed hh w pf t; simp only [F_X9_addsInterval, if_pos c_1]) [0, 1, 2] rfl rfl dX9_addsInterval_83
def F_X9_turns (np : Int32) (th : Int32) (ed : Int32) (hh : Int64) (w : Nat → Int32) (pf : Nat → Int32) (t : Int32) : Int32 × (Nat → Int32) :=
  if w 33 = (-1 : Int32) then
    let q2 := F_X9_isDriven np th (1 : Int32) hh (upd (upd (upd (upd (upd w 31 ((w 31) + (1 : Int32))) 28 ((w 28) + t)) 35 (0 : Int32)) 33 (w 0)) 34 t) pf
    if q2 = (0 : Int32) then
      ((1 : Int32), upd (upd (upd (upd (upd w 31 ((w 31) + (1 : Int32))) 28 ((w 28) + t)) 35 (0 : Int32)) 33 (w 0)) 34 t)
    else
      if w 6 = (1 : Int32) then
        if t = (1 : Int32) then
          ((1 : Int32), upd (upd (upd (upd (upd (upd w 31 ((w 31) + (1 : Int32))) 28 ((w 28) + t)) 35 (0 : Int32)) 33 (w 0)) 34 t) 42 (0 : Int32))
        else
          if (w 42) + (1 : Int32) = (3 : Int32) then
            let q10 := F_X9_faults np th (1 : Int32) hh (upd (upd (upd (upd (upd (upd w 31 ((w 31) + (1 : Int32))) 28 ((w 28) + t)) 35 (0 : Int32)) 33 (w 0)) 34 t) 42 ((w 42) + (1 : Int32))) pf (2 : Int32) (w 9)
            ((1 : Int32), q10)
          else
            ((1 : Int32), upd (upd (upd (upd (upd (upd w 31 ((w 31) + (1 : Int32))) 28 ((w 28) + t)) 35 (0 : Int32)) 33 (w 0)) 34 t) 42 ((w 42) + (1 : Int32)))
      else
        if t = (-1 : Int32) then
          ((1 : Int32), upd (upd (upd (upd (upd (upd w 31 ((w 31) + (1 : Int32))) 28 ((w 28) + t)) 35 (0 : Int32)) 33 (w 0)) 34 t) 42 (0 : Int32))
        else
          if (w 42) + (1 : Int32) = (3 : Int32) then
            let q7 := F_X9_faults np th (1 : Int32) hh (upd (upd (upd (upd (upd (upd w 31 ((w 31) + (1 : Int32))) 28 ((w 28) + t)) 35 (0 : Int32)) 33 (w 0)) 34 t) 42 ((w 42) + (1 : Int32))) pf (2 : Int32) (w 9)
            ((1 : Int32), q7)
          else
            ((1 : Int32), upd (upd (upd (upd (upd (upd w 31 ((w 31) + (1 : Int32))) 28 ((w 28) + t)) 35 (0 : Int32)) 33 (w 0)) 34 t) 42 ((w 42) + (1 : Int32)))
  else
    if w 34 = t then
      let q12 := F_X9_addsInterval np th (1 : Int32) hh (upd (upd w 31 ((w 31) + (1 : Int32))) 28 ((w 28) + t)) pf ((w 0) - (w 33))
      let q13 := F_X9_isDriven np th (1 : Int32) hh (upd (upd q12 33 (q12 0)) 34 t) pf
      if q13 = (0 : Int32) then
        ((1 : Int32), upd (upd q12 33 (q12 0)) 34 t)
      else
        if q12 6 = (1 : Int32) then
          if t = (1 : Int32) then
            ((1 : Int32), upd (upd (upd q12 33 (q12 0)) 34 t) 42 (0 : Int32))
          else
            if (q12 42) + (1 : Int32) = (3 : Int32) then
              let q21 := F_X9_faults np th (1 : Int32) hh (upd (upd (upd q12 33 (q12 0)) 34 t) 42 ((q12 42) + (1 : Int32))) pf (2 : Int32) (q12 9)
              ((1 : Int32), q21)
            else
              ((1 : Int32), upd (upd (upd q12 33 (q12 0)) 34 t) 42 ((q12 42) + (1 : Int32)))
        else
          if t = (-1 : Int32) then
            ((1 : Int32), upd (upd (upd q12 33 (q12 0)) 34 t) 42 (0 : Int32))
          else
            if (q12 42) + (1 : Int32) = (3 : Int32) then
              let q18 := F_X9_faults np th (1 : Int32) hh (upd (upd (upd q12 33 (q12 0)) 34 t) 42 ((q12 42) + (1 : Int32))) pf (2 : Int32) (q12 9)
              ((1 : Int32), q18)
            else
              ((1 : Int32), upd (upd (upd q12 33 (q12 0)) 34 t) 42 ((q12 42) + (1 : Int32)))
    else
      let q22 := F_X9_isDriven np th (1 : Int32) hh (upd (upd (upd (upd (upd w 31 ((w 31) + (1 : Int32))) 28 ((w 28) + t)) 35 (0 : Int32)) 33 (w 0)) 34 t) pf
      if q22 = (0 : Int32) then
        ((1 : Int32), upd (upd (upd (upd (upd w 31 ((w 31) + (1 : Int32))) 28 ((w 28) + t)) 35 (0 : Int32)) 33 (w 0)) 34 t)
      else
        if w 6 = (1 : Int32) then
          if t = (1 : Int32) then
            ((1 : Int32), upd (upd (upd (upd (upd (upd w 31 ((w 31) + (1 : Int32))) 28 ((w 28) + t)) 35 (0 : Int32)) 33 (w 0)) 34 t) 42 (0 : Int32))
          else
            if (w 42) + (1 : Int32) = (3 : Int32) then
              let q30 := F_X9_faults np th (1 : Int32) hh (upd (upd (upd (upd (upd (upd w 31 ((w 31) + (1 : Int32))) 28 ((w 28) + t)) 35 (0 : Int32)) 33 (w 0)) 34 t) 42 ((w 42) + (1 : Int32))) pf (2 : Int32) (w 9)
              ((1 : Int32), q30)
            else
              ((1 : Int32), upd (upd (upd (upd (upd (upd w 31 ((w 31) + (1 : Int32))) 28 ((w 28) + t)) 35 (0 : Int32)) 33 (w 0)) 34 t) 42 ((w 42) + (1 : Int32)))
        else
          if t = (-1 : Int32) then
            ((1 : Int32), upd (upd (upd (upd (upd (upd w 31 ((w 31) + (1 : Int32))) 28 ((w 28) + t)) 35 (0 : Int32)) 33 (w 0)) 34 t) 42 (0 : Int32))
          else
            if (w 42) + (1 : Int32) = (3 : Int32) then
              let q27 := F_X9_faults np th (1 : Int32) hh (upd (upd (upd (upd (upd (upd w 31 ((w 31) + (1 : Int32))) 28 ((w 28) + t)) 35 (0 : Int32)) 33 (w 0)) 34 t) 42 ((w 42) + (1 : Int32))) pf (2 : Int32) (w 9)
              ((1 : Int32), q27)
            else
              ((1 : Int32), upd (upd (upd (upd (upd (upd w 31 ((w 31) + (1 : Int32))) 28 ((w 28) + t)) 35 (0 : Int32)) 33 (w 0)) 34 t) 42 ((w 42) + (1 : Int32)))
set_option maxHeartbeats 4000000 in
set_option maxRecDepth 100000 in
theorem met_X9_turns (l : Launch) (D : va_G) (cI cJ cS : ClassId) (h0 : Nat) (a0 : Nat) (b0 : Nat) (np : Int32) (th : Int32) (ed : Int32) (hh : Int64) (w : Nat → Int32) (pf : Nat → Int32) (t : Int32) (hz : vp_in (w 35) 7) : ∀ sz : Nat, Met l yX9_turns wsX9_turns ({ frames := 1, cells := 0, slots := 0, locals := 22 } : Room) (va_Pc [.ref h0, .int t] (cPre D (tyz cI cJ cS) ([(h0, .inr (9, [.ref a0, .ref b0, .int np, .int th, .int ed, .long hh])), (a0, .inl (cI, 129, .inl w)), (b0, .inl (cI, 516, .inl pf))]) sz)) (va_Qv (fun (u : Int32 × (Nat → Int32)) => u = F_X9_turns np th ed hh w pf t) (fun u => cPost D (tyz cI cJ cS) (va_A ([(h0, .inr (9, [.ref a0, .ref b0, .int np, .int th, .int ed, .long hh])), (a0, .inl (cI, 129, .inl w)), (b0, .inl (cI, 516, .inl pf))]) sz) ([(h0, .inr (9, [.ref a0, .ref b0, .int np, .int th, .int u.1, .long hh])), (a0, .inl (cI, 129, .inl u.2)), (b0, .inl (cI, 516, .inl pf))])) (va_A ([(h0, .inr (9, [.ref a0, .ref b0, .int np, .int th, .int ed, .long hh])), (a0, .inl (cI, 129, .inl w)), (b0, .inl (cI, 516, .inl pf))]) sz)) 0 0 (va_A ([(h0, .inr (9, [.ref a0, .ref b0, .int np, .int th, .int ed, .long hh])), (a0, .inl (cI, 129, .inl w)), (b0, .inl (cI, 516, .inl pf))]) sz) := by
  refine my_met (QC := fun A => (va_Qv (fun (u : Int32 × (Nat → Int32)) => u = F_X9_turns np th ed hh w pf t) (fun u => cPost D (tyz cI cJ cS) A ([(h0, .inr (9, [.ref a0, .ref b0, .int np, .int th, .int u.1, .long hh])), (a0, .inl (cI, 129, .inl u.2)), (b0, .inl (cI, 516, .inl pf))])) A)) (cc := cX9_turns) (maxL := 2) (ret := none) (by decide) rfl (Nat.le_of_ble_eq_true rfl) ?_
  intro p e s m below meth c ls A hx hb hml hr hts hown hlocks hname hK hP hD hS hA hG hl
  have hown : s.vm.findClass RX9 = some m.cls := hown
  have hl : lv_has ls 2 [(0, .ref h0), (1, .int t)] := hl
  have hP : va_P D vwCl [(h0, .inr (9, [.ref a0, .ref b0, .int np, .int th, .int ed, .long hh])), (a0, .inl (cI, 129, .inl w)), (b0, .inl (cI, 516, .inl pf))] s.heap := hP
  have hD : va_D A [(h0, .inr (9, [.ref a0, .ref b0, .int np, .int th, .int ed, .long hh])), (a0, .inl (cI, 129, .inl w)), (b0, .inl (cI, 516, .inl pf))] := hD
  have hiX9 : ∀ w ∈ u_ws RX9 TX9 6, w ∈ wsX9_turns := by decide +kernel
  have hk_56 := hts (.fieldLink RX9 56 "HallCommutatorModel" "isEdge" "Z") (by decide +kernel)
  have hk_7 := hts (.fieldLink RX9 7 "HallCommutatorModel" "s" "[I") (by decide +kernel)
  refine lv_aload_n hx hb dX9_turns_0 rfl (lv_at hl 0 rfl) ?_
  refine lv_iconst (v := 1) hx hb dX9_turns_1 (by decide) ?_
  refine va_put (D := D) (ci := 9) (v := .int (1 : Int32)) (ty := .boolean) (C := RX9) (T := TX9) (N := 6) hx hb hts hiX9 tyX9 tyX9_ok nmX9 hown hK hP hD hS 0 rfl rfl 4 (by decide) hk_56 (fun _ h9 => h9) rfl (by decide +kernel) rfl rfl (Nat.le_of_ble_eq_true rfl) dX9_turns_2 (fun H locs hP hD hS => ?_)
  have hP : va_P D vwCl [(h0, .inr (9, [.ref a0, .ref b0, .int np, .int th, .int (1 : Int32), .long hh])), (a0, .inl (cI, 129, .inl w)), (b0, .inl (cI, 516, .inl pf))] H := hP
  have hD : va_D A [(h0, .inr (9, [.ref a0, .ref b0, .int np, .int th, .int (1 : Int32), .long hh])), (a0, .inl (cI, 129, .inl w)), (b0, .inl (cI, 516, .inl pf))] := hD
  refine lv_aload_n hx hb dX9_turns_5 rfl (lv_at hl 0 rfl) ?_
  refine va_get (D := D) (ci := 9) (v := .ref a0) (C := RX9) (T := TX9) (N := 6) hx hb hts hiX9 hown hK hP 0 rfl rfl 0 (by decide) hk_7 (fun _ h9 => h9) rfl dX9_turns_6 ?_
  refine lv_bipush (v := 31) hx hb dX9_turns_9 (by decide) ?_
  refine lv_dup2_11 hx hb dX9_turns_11 rfl rfl ?_
  refine my_iald hx hb hK hP 1 0 rfl rfl 31 (rfl) (by decide) (by decide) dX9_turns_12 ?_
  refine lv_iconst (v := 1) hx hb dX9_turns_13 (by decide) ?_
  refine lv_iadd hx hb dX9_turns_14 ?_
  refine my_iast hx hb hK hP hD hS 1 0 rfl rfl 31 (rfl) (by decide) (by decide) dX9_turns_15 (fun H locs hP hD hS => ?_)
  have hP : va_P D vwCl [(h0, .inr (9, [.ref a0, .ref b0, .int np, .int th, .int (1 : Int32), .long hh])), (a0, .inl (cI, 129, .inl (upd w 31 ((w 31) + (1 : Int32))))), (b0, .inl (cI, 516, .inl pf))] H := hP
  have hD : va_D A [(h0, .inr (9, [.ref a0, .ref b0, .int np, .int th, .int (1 : Int32), .long hh])), (a0, .inl (cI, 129, .inl (upd w 31 ((w 31) + (1 : Int32))))), (b0, .inl (cI, 516, .inl pf))] := hD
  refine lv_aload_n hx hb dX9_turns_16 rfl (lv_at hl 0 rfl) ?_
  refine va_get (D := D) (ci := 9) (v := .ref a0) (C := RX9) (T := TX9) (N := 6) hx hb hts hiX9 hown hK hP 0 rfl rfl 0 (by decide) hk_7 (fun _ h9 => h9) rfl dX9_turns_17 ?_
  refine lv_bipush (v := 28) hx hb dX9_turns_20 (by decide) ?_
  refine lv_dup2_11 hx hb dX9_turns_22 rfl rfl ?_
  refine my_iald hx hb hK hP 1 0 rfl rfl 28 (rfl) (by decide) (by decide) dX9_turns_23 ?_
  refine W.eq (g2 := F0 m 24 ls [.int (w 28), .int (28 : Int32), .ref a0]) rfl ?_
  refine lv_iload_n hx hb dX9_turns_24 rfl (lv_at hl 1 rfl) ?_
  refine lv_iadd hx hb dX9_turns_25 ?_
  refine my_iast hx hb hK hP hD hS 1 0 rfl rfl 28 (rfl) (by decide) (by decide) dX9_turns_26 (fun H locs hP hD hS => ?_)
  have hP : va_P D vwCl [(h0, .inr (9, [.ref a0, .ref b0, .int np, .int th, .int (1 : Int32), .long hh])), (a0, .inl (cI, 129, .inl (upd (upd w 31 ((w 31) + (1 : Int32))) 28 ((w 28) + t)))), (b0, .inl (cI, 516, .inl pf))] H := hP
  have hD : va_D A [(h0, .inr (9, [.ref a0, .ref b0, .int np, .int th, .int (1 : Int32), .long hh])), (a0, .inl (cI, 129, .inl (upd (upd w 31 ((w 31) + (1 : Int32))) 28 ((w 28) + t)))), (b0, .inl (cI, 516, .inl pf))] := hD
  refine lv_aload_n hx hb dX9_turns_27 rfl (lv_at hl 0 rfl) ?_
  refine va_get (D := D) (ci := 9) (v := .ref a0) (C := RX9) (T := TX9) (N := 6) hx hb hts hiX9 hown hK hP 0 rfl rfl 0 (by decide) hk_7 (fun _ h9 => h9) rfl dX9_turns_28 ?_
  refine lv_bipush (v := 33) hx hb dX9_turns_31 (by decide) ?_
  refine my_iald hx hb hK hP 1 0 rfl rfl 33 (rfl) (by decide) (by decide) dX9_turns_33 ?_
  refine W.eq (g2 := F0 m 34 ls [.int (w 33)]) rfl ?_
  refine lv_iconst (v := -1) hx hb dX9_turns_34 (by decide) ?_
  refine lv_icmp_eq (tgt := 49) hx hb dX9_turns_35 (by decide) (fun c_1 => ?_) (fun c_1 => ?_)
  · skip
    refine lv_aload_n hx hb dX9_turns_49 rfl (lv_at hl 0 rfl) ?_
    refine va_get (D := D) (ci := 9) (v := .ref a0) (C := RX9) (T := TX9) (N := 6) hx hb hts hiX9 hown hK hP 0 rfl rfl 0 (by decide) hk_7 (fun _ h9 => h9) rfl dX9_turns_50 ?_
    refine lv_bipush (v := 35) hx hb dX9_turns_53 (by decide) ?_
    refine lv_iconst (v := 0) hx hb dX9_turns_55 (by decide) ?_
    refine my_iast hx hb hK hP hD hS 1 0 rfl rfl 35 (rfl) (by decide) (by decide) dX9_turns_56 (fun H locs hP hD hS => ?_)
    have hP : va_P D vwCl [(h0, .inr (9, [.ref a0, .ref b0, .int np, .int th, .int (1 : Int32), .long hh])), (a0, .inl (cI, 129, .inl (upd (upd (upd w 31 ((w 31) + (1 : Int32))) 28 ((w 28) + t)) 35 (0 : Int32)))), (b0, .inl (cI, 516, .inl pf))] H := hP
    have hD : va_D A [(h0, .inr (9, [.ref a0, .ref b0, .int np, .int th, .int (1 : Int32), .long hh])), (a0, .inl (cI, 129, .inl (upd (upd (upd w 31 ((w 31) + (1 : Int32))) 28 ((w 28) + t)) 35 (0 : Int32)))), (b0, .inl (cI, 516, .inl pf))] := hD
    refine lv_goto (tgt := 78) hx hb dX9_turns_57 (by decide) ?_
    refine lv_aload_n hx hb dX9_turns_78 rfl (lv_at hl 0 rfl) ?_
    refine va_get (D := D) (ci := 9) (v := .ref a0) (C := RX9) (T := TX9) (N := 6) hx hb hts hiX9 hown hK hP 0 rfl rfl 0 (by decide) hk_7 (fun _ h9 => h9) rfl dX9_turns_79 ?_
    refine lv_bipush (v := 33) hx hb dX9_turns_82 (by decide) ?_
    refine lv_aload_n hx hb dX9_turns_84 rfl (lv_at hl 0 rfl) ?_
    refine va_get (D := D) (ci := 9) (v := .ref a0) (C := RX9) (T := TX9) (N := 6) hx hb hts hiX9 hown hK hP 0 rfl rfl 0 (by decide) hk_7 (fun _ h9 => h9) rfl dX9_turns_85 ?_
    refine lv_iconst (v := 0) hx hb dX9_turns_88 (by decide) ?_
    refine my_iald hx hb hK hP 1 0 rfl rfl 0 (rfl) (by decide) (by decide) dX9_turns_89 ?_
    refine W.eq (g2 := F0 m 90 ls [.int (w 0), .int (33 : Int32), .ref a0]) rfl ?_
    refine my_iast hx hb hK hP hD hS 1 0 rfl rfl 33 (rfl) (by decide) (by decide) dX9_turns_90 (fun H locs hP hD hS => ?_)
    have hP : va_P D vwCl [(h0, .inr (9, [.ref a0, .ref b0, .int np, .int th, .int (1 : Int32), .long hh])), (a0, .inl (cI, 129, .inl (upd (upd (upd (upd w 31 ((w 31) + (1 : Int32))) 28 ((w 28) + t)) 35 (0 : Int32)) 33 (w 0)))), (b0, .inl (cI, 516, .inl pf))] H := hP
    have hD : va_D A [(h0, .inr (9, [.ref a0, .ref b0, .int np, .int th, .int (1 : Int32), .long hh])), (a0, .inl (cI, 129, .inl (upd (upd (upd (upd w 31 ((w 31) + (1 : Int32))) 28 ((w 28) + t)) 35 (0 : Int32)) 33 (w 0)))), (b0, .inl (cI, 516, .inl pf))] := hD
    refine lv_aload_n hx hb dX9_turns_91 rfl (lv_at hl 0 rfl) ?_
    refine va_get (D := D) (ci := 9) (v := .ref a0) (C := RX9) (T := TX9) (N := 6) hx hb hts hiX9 hown hK hP 0 rfl rfl 0 (by decide) hk_7 (fun _ h9 => h9) rfl dX9_turns_92 ?_
    refine lv_bipush (v := 34) hx hb dX9_turns_95 (by decide) ?_
    refine lv_iload_n hx hb dX9_turns_97 rfl (lv_at hl 1 rfl) ?_
    refine my_iast hx hb hK hP hD hS 1 0 rfl rfl 34 (rfl) (by decide) (by decide) dX9_turns_98 (fun H locs hP hD hS => ?_)
    have hP : va_P D vwCl [(h0, .inr (9, [.ref a0, .ref b0, .int np, .int th, .int (1 : Int32), .long hh])), (a0, .inl (cI, 129, .inl (upd (upd (upd (upd (upd w 31 ((w 31) + (1 : Int32))) 28 ((w 28) + t)) 35 (0 : Int32)) 33 (w 0)) 34 t))), (b0, .inl (cI, 516, .inl pf))] H := hP
    have hD : va_D A [(h0, .inr (9, [.ref a0, .ref b0, .int np, .int th, .int (1 : Int32), .long hh])), (a0, .inl (cI, 129, .inl (upd (upd (upd (upd (upd w 31 ((w 31) + (1 : Int32))) 28 ((w 28) + t)) 35 (0 : Int32)) 33 (w 0)) 34 t))), (b0, .inl (cI, 516, .inl pf))] := hD
    refine lv_aload_n hx hb dX9_turns_99 rfl (lv_at hl 0 rfl) ?_
    refine my_callV_i (As := []) (rest := []) (wc := [(h0, .inr (9, [.ref a0, .ref b0, .int np, .int th, .int (1 : Int32), .long hh])), (a0, .inl (cI, 129, .inl (upd (upd (upd (upd (upd w 31 ((w 31) + (1 : Int32))) 28 ((w 28) + t)) 35 (0 : Int32)) 33 (w 0)) 34 t))), (b0, .inl (cI, 516, .inl pf))]) (wr := []) ⟨hx, hb, hml, hown, hts⟩ (met_X9_isDriven l D cI cJ cS h0 a0 b0 np th (1 : Int32) hh (upd (upd (upd (upd (upd w 31 ((w 31) + (1 : Int32))) 28 ((w 28) + t)) 35 (0 : Int32)) 33 (w 0)) 34 t) pf _) (cwV 0 hts gX9_turns_X9_isDriven rfl rfl rfl (by decide +kernel) ⟨Nat.le_of_ble_eq_true rfl, Nat.le_of_ble_eq_true rfl⟩) hK hP hD hS hA hG [0, 1, 2] [] rfl rfl rfl rfl (by decide) 0 rfl rfl rfl hl.1 (Nat.le_of_ble_eq_true rfl) rfl dX9_turns_100 ⟨Nat.le_of_ble_eq_true rfl, Nat.le_of_ble_eq_true rfl⟩ (fun r_2 _ H locs hw_2 hP hD hS => ?_)
    have hP : va_P D vwCl [(h0, .inr (9, [.ref a0, .ref b0, .int np, .int th, .int (1 : Int32), .long hh])), (a0, .inl (cI, 129, .inl (upd (upd (upd (upd (upd w 31 ((w 31) + (1 : Int32))) 28 ((w 28) + t)) 35 (0 : Int32)) 33 (w 0)) 34 t))), (b0, .inl (cI, 516, .inl pf))] H := hP
    have hD : va_D A [(h0, .inr (9, [.ref a0, .ref b0, .int np, .int th, .int (1 : Int32), .long hh])), (a0, .inl (cI, 129, .inl (upd (upd (upd (upd (upd w 31 ((w 31) + (1 : Int32))) 28 ((w 28) + t)) 35 (0 : Int32)) 33 (w 0)) 34 t))), (b0, .inl (cI, 516, .inl pf))] := hD
    refine lv_if_eq (tgt := 169) hx hb dX9_turns_103 (by decide) (fun c_3 => ?_) (fun c_3 => ?_)
    · skip
      exact my_vret hx hb hr hlocks hK hP hD hS ((1 : Int32), upd (upd (upd (upd (upd w 31 ((w 31) + (1 : Int32))) 28 ((w 28) + t)) 35 (0 : Int32)) 33 (w 0)) 34 t) (by show ((1 : Int32), upd (upd (upd (upd (upd w 31 ((w 31) + (1 : Int32))) 28 ((w 28) + t)) 35 (0 : Int32)) 33 (w 0)) 34 t) = F_X9_turns np th ed hh w pf t; simp only [F_X9_turns, if_pos c_1, if_pos c_3, ← hw_2]) [0, 1, 2] rfl rfl dX9_turns_169
    · skip
      refine lv_aload_n hx hb dX9_turns_106 rfl (lv_at hl 0 rfl) ?_
      refine va_get (D := D) (ci := 9) (v := .ref a0) (C := RX9) (T := TX9) (N := 6) hx hb hts hiX9 hown hK hP 0 rfl rfl 0 (by decide) hk_7 (fun _ h9 => h9) rfl dX9_turns_107 ?_
      refine lv_bipush (v := 42) hx hb dX9_turns_110 (by decide) ?_
      refine lv_iload_n hx hb dX9_turns_112 rfl (lv_at hl 1 rfl) ?_
      refine lv_aload_n hx hb dX9_turns_113 rfl (lv_at hl 0 rfl) ?_
      refine va_get (D := D) (ci := 9) (v := .ref a0) (C := RX9) (T := TX9) (N := 6) hx hb hts hiX9 hown hK hP 0 rfl rfl 0 (by decide) hk_7 (fun _ h9 => h9) rfl dX9_turns_114 ?_
      refine lv_bipush (v := 6) hx hb dX9_turns_117 (by decide) ?_
      refine my_iald hx hb hK hP 1 0 rfl rfl 6 (rfl) (by decide) (by decide) dX9_turns_119 ?_
      refine W.eq (g2 := F0 m 120 ls [.int (w 6), .int t, .int (42 : Int32), .ref a0]) rfl ?_
      refine lv_iconst (v := 1) hx hb dX9_turns_120 (by decide) ?_
      refine lv_icmp_ne (tgt := 128) hx hb dX9_turns_121 (by decide) (fun c_4 => ?_) (fun c_4 => ?_)
      · skip
        refine lv_iconst (v := -1) hx hb dX9_turns_128 (by decide) ?_
        refine lv_icmp_ne (tgt := 136) hx hb dX9_turns_129 (by decide) (fun c_5 => ?_) (fun c_5 => ?_)
        · skip
          refine lv_aload_n hx hb dX9_turns_136 rfl (lv_at hl 0 rfl) ?_
          refine va_get (D := D) (ci := 9) (v := .ref a0) (C := RX9) (T := TX9) (N := 6) hx hb hts hiX9 hown hK hP 0 rfl rfl 0 (by decide) hk_7 (fun _ h9 => h9) rfl dX9_turns_137 ?_
          refine lv_bipush (v := 42) hx hb dX9_turns_140 (by decide) ?_
          refine my_iald hx hb hK hP 1 0 rfl rfl 42 (rfl) (by decide) (by decide) dX9_turns_142 ?_
          refine W.eq (g2 := F0 m 143 ls [.int (w 42), .int (42 : Int32), .ref a0]) rfl ?_
          refine lv_iconst (v := 1) hx hb dX9_turns_143 (by decide) ?_
          refine lv_iadd hx hb dX9_turns_144 ?_
          refine my_iast hx hb hK hP hD hS 1 0 rfl rfl 42 (rfl) (by decide) (by decide) dX9_turns_145 (fun H locs hP hD hS => ?_)
          have hP : va_P D vwCl [(h0, .inr (9, [.ref a0, .ref b0, .int np, .int th, .int (1 : Int32), .long hh])), (a0, .inl (cI, 129, .inl (upd (upd (upd (upd (upd (upd w 31 ((w 31) + (1 : Int32))) 28 ((w 28) + t)) 35 (0 : Int32)) 33 (w 0)) 34 t) 42 ((w 42) + (1 : Int32))))), (b0, .inl (cI, 516, .inl pf))] H := hP
          have hD : va_D A [(h0, .inr (9, [.ref a0, .ref b0, .int np, .int th, .int (1 : Int32), .long hh])), (a0, .inl (cI, 129, .inl (upd (upd (upd (upd (upd (upd w 31 ((w 31) + (1 : Int32))) 28 ((w 28) + t)) 35 (0 : Int32)) 33 (w 0)) 34 t) 42 ((w 42) + (1 : Int32))))), (b0, .inl (cI, 516, .inl pf))] := hD
          refine lv_aload_n hx hb dX9_turns_146 rfl (lv_at hl 0 rfl) ?_
          refine va_get (D := D) (ci := 9) (v := .ref a0) (C := RX9) (T := TX9) (N := 6) hx hb hts hiX9 hown hK hP 0 rfl rfl 0 (by decide) hk_7 (fun _ h9 => h9) rfl dX9_turns_147 ?_
          refine lv_bipush (v := 42) hx hb dX9_turns_150 (by decide) ?_
          refine my_iald hx hb hK hP 1 0 rfl rfl 42 (rfl) (by decide) (by decide) dX9_turns_152 ?_
          refine W.eq (g2 := F0 m 153 ls [.int ((w 42) + (1 : Int32))]) rfl ?_
          refine lv_iconst (v := 3) hx hb dX9_turns_153 (by decide) ?_
          refine lv_icmp_ne (tgt := 169) hx hb dX9_turns_154 (by decide) (fun c_6 => ?_) (fun c_6 => ?_)
          · skip
            exact my_vret hx hb hr hlocks hK hP hD hS ((1 : Int32), upd (upd (upd (upd (upd (upd w 31 ((w 31) + (1 : Int32))) 28 ((w 28) + t)) 35 (0 : Int32)) 33 (w 0)) 34 t) 42 ((w 42) + (1 : Int32))) (by show ((1 : Int32), upd (upd (upd (upd (upd (upd w 31 ((w 31) + (1 : Int32))) 28 ((w 28) + t)) 35 (0 : Int32)) 33 (w 0)) 34 t) 42 ((w 42) + (1 : Int32))) = F_X9_turns np th ed hh w pf t; simp only [F_X9_turns, if_pos c_1, if_neg c_3, if_neg c_4, if_neg c_5, if_neg c_6, ← hw_2]) [0, 1, 2] rfl rfl dX9_turns_169
          · skip
            refine lv_aload_n hx hb dX9_turns_157 rfl (lv_at hl 0 rfl) ?_
            refine lv_iconst (v := 2) hx hb dX9_turns_158 (by decide) ?_
            refine lv_aload_n hx hb dX9_turns_159 rfl (lv_at hl 0 rfl) ?_
            refine va_get (D := D) (ci := 9) (v := .ref a0) (C := RX9) (T := TX9) (N := 6) hx hb hts hiX9 hown hK hP 0 rfl rfl 0 (by decide) hk_7 (fun _ h9 => h9) rfl dX9_turns_160 ?_
            refine lv_bipush (v := 9) hx hb dX9_turns_163 (by decide) ?_
            refine my_iald hx hb hK hP 1 0 rfl rfl 9 (rfl) (by decide) (by decide) dX9_turns_165 ?_
            refine W.eq (g2 := F0 m 166 ls [.int (w 9), .int (2 : Int32), .ref h0]) rfl ?_
            refine my_callV_v (As := [.int (2 : Int32), .int (w 9)]) (rest := []) (wc := [(h0, .inr (9, [.ref a0, .ref b0, .int np, .int th, .int (1 : Int32), .long hh])), (a0, .inl (cI, 129, .inl (upd (upd (upd (upd (upd (upd w 31 ((w 31) + (1 : Int32))) 28 ((w 28) + t)) 35 (0 : Int32)) 33 (w 0)) 34 t) 42 ((w 42) + (1 : Int32))))), (b0, .inl (cI, 516, .inl pf))]) (wr := []) ⟨hx, hb, hml, hown, hts⟩ (met_X9_faults l D cI cJ cS h0 a0 b0 np th (1 : Int32) hh (upd (upd (upd (upd (upd (upd w 31 ((w 31) + (1 : Int32))) 28 ((w 28) + t)) 35 (0 : Int32)) 33 (w 0)) 34 t) 42 ((w 42) + (1 : Int32))) pf (2 : Int32) (w 9) _) (cwV 2 hts gX9_turns_X9_faults rfl rfl rfl (by decide +kernel) ⟨Nat.le_of_ble_eq_true rfl, Nat.le_of_ble_eq_true rfl⟩) hK hP hD hS hA hG [0, 1, 2] [] rfl rfl rfl rfl (by decide) 0 rfl rfl rfl hl.1 (Nat.le_of_ble_eq_true rfl) rfl dX9_turns_166 ⟨Nat.le_of_ble_eq_true rfl, Nat.le_of_ble_eq_true rfl⟩ (fun x_7_0 H locs hw_7 hP hD hS => ?_)
            have hP : va_P D vwCl [(h0, .inr (9, [.ref a0, .ref b0, .int np, .int th, .int (1 : Int32), .long hh])), (a0, .inl (cI, 129, .inl x_7_0)), (b0, .inl (cI, 516, .inl pf))] H := hP
            have hD : va_D A [(h0, .inr (9, [.ref a0, .ref b0, .int np, .int th, .int (1 : Int32), .long hh])), (a0, .inl (cI, 129, .inl x_7_0)), (b0, .inl (cI, 516, .inl pf))] := hD
            exact my_vret hx hb hr hlocks hK hP hD hS ((1 : Int32), x_7_0) (by show ((1 : Int32), x_7_0) = F_X9_turns np th ed hh w pf t; simp only [F_X9_turns, if_pos c_1, if_neg c_3, if_neg c_4, if_neg c_5, if_pos c_6, ← hw_2, ← hw_7]) [0, 1, 2] rfl rfl dX9_turns_169
        · skip
          refine lv_iconst (v := 0) hx hb dX9_turns_132 (by decide) ?_
          refine lv_goto (tgt := 145) hx hb dX9_turns_133 (by decide) ?_
          refine my_iast hx hb hK hP hD hS 1 0 rfl rfl 42 (rfl) (by decide) (by decide) dX9_turns_145 (fun H locs hP hD hS => ?_)
          have hP : va_P D vwCl [(h0, .inr (9, [.ref a0, .ref b0, .int np, .int th, .int (1 : Int32), .long hh])), (a0, .inl (cI, 129, .inl (upd (upd (upd (upd (upd (upd w 31 ((w 31) + (1 : Int32))) 28 ((w 28) + t)) 35 (0 : Int32)) 33 (w 0)) 34 t) 42 (0 : Int32)))), (b0, .inl (cI, 516, .inl pf))] H := hP
          have hD : va_D A [(h0, .inr (9, [.ref a0, .ref b0, .int np, .int th, .int (1 : Int32), .long hh])), (a0, .inl (cI, 129, .inl (upd (upd (upd (upd (upd (upd w 31 ((w 31) + (1 : Int32))) 28 ((w 28) + t)) 35 (0 : Int32)) 33 (w 0)) 34 t) 42 (0 : Int32)))), (b0, .inl (cI, 516, .inl pf))] := hD
          refine lv_aload_n hx hb dX9_turns_146 rfl (lv_at hl 0 rfl) ?_
          refine va_get (D := D) (ci := 9) (v := .ref a0) (C := RX9) (T := TX9) (N := 6) hx hb hts hiX9 hown hK hP 0 rfl rfl 0 (by decide) hk_7 (fun _ h9 => h9) rfl dX9_turns_147 ?_
          refine lv_bipush (v := 42) hx hb dX9_turns_150 (by decide) ?_
          refine my_iald hx hb hK hP 1 0 rfl rfl 42 (rfl) (by decide) (by decide) dX9_turns_152 ?_
          refine W.eq (g2 := F0 m 153 ls [.int (0 : Int32)]) rfl ?_
          refine lv_iconst (v := 3) hx hb dX9_turns_153 (by decide) ?_
          refine lv_icmp_ne (tgt := 169) hx hb dX9_turns_154 (by decide) (fun _ => ?_) (fun c9 => absurd c9 (by decide))
          exact my_vret hx hb hr hlocks hK hP hD hS ((1 : Int32), upd (upd (upd (upd (upd (upd w 31 ((w 31) + (1 : Int32))) 28 ((w 28) + t)) 35 (0 : Int32)) 33 (w 0)) 34 t) 42 (0 : Int32)) (by show ((1 : Int32), upd (upd (upd (upd (upd (upd w 31 ((w 31) + (1 : Int32))) 28 ((w 28) + t)) 35 (0 : Int32)) 33 (w 0)) 34 t) 42 (0 : Int32)) = F_X9_turns np th ed hh w pf t; simp only [F_X9_turns, if_pos c_1, if_neg c_3, if_neg c_4, if_pos c_5, ← hw_2]) [0, 1, 2] rfl rfl dX9_turns_169
      · skip
        refine lv_iconst (v := 1) hx hb dX9_turns_124 (by decide) ?_
        refine lv_goto (tgt := 129) hx hb dX9_turns_125 (by decide) ?_
        refine lv_icmp_ne (tgt := 136) hx hb dX9_turns_129 (by decide) (fun c_8 => ?_) (fun c_8 => ?_)
        · skip
          refine lv_aload_n hx hb dX9_turns_136 rfl (lv_at hl 0 rfl) ?_
          refine va_get (D := D) (ci := 9) (v := .ref a0) (C := RX9) (T := TX9) (N := 6) hx hb hts hiX9 hown hK hP 0 rfl rfl 0 (by decide) hk_7 (fun _ h9 => h9) rfl dX9_turns_137 ?_
          refine lv_bipush (v := 42) hx hb dX9_turns_140 (by decide) ?_
          refine my_iald hx hb hK hP 1 0 rfl rfl 42 (rfl) (by decide) (by decide) dX9_turns_142 ?_
          refine W.eq (g2 := F0 m 143 ls [.int (w 42), .int (42 : Int32), .ref a0]) rfl ?_
          refine lv_iconst (v := 1) hx hb dX9_turns_143 (by decide) ?_
          refine lv_iadd hx hb dX9_turns_144 ?_
          refine my_iast hx hb hK hP hD hS 1 0 rfl rfl 42 (rfl) (by decide) (by decide) dX9_turns_145 (fun H locs hP hD hS => ?_)
          have hP : va_P D vwCl [(h0, .inr (9, [.ref a0, .ref b0, .int np, .int th, .int (1 : Int32), .long hh])), (a0, .inl (cI, 129, .inl (upd (upd (upd (upd (upd (upd w 31 ((w 31) + (1 : Int32))) 28 ((w 28) + t)) 35 (0 : Int32)) 33 (w 0)) 34 t) 42 ((w 42) + (1 : Int32))))), (b0, .inl (cI, 516, .inl pf))] H := hP
          have hD : va_D A [(h0, .inr (9, [.ref a0, .ref b0, .int np, .int th, .int (1 : Int32), .long hh])), (a0, .inl (cI, 129, .inl (upd (upd (upd (upd (upd (upd w 31 ((w 31) + (1 : Int32))) 28 ((w 28) + t)) 35 (0 : Int32)) 33 (w 0)) 34 t) 42 ((w 42) + (1 : Int32))))), (b0, .inl (cI, 516, .inl pf))] := hD
          refine lv_aload_n hx hb dX9_turns_146 rfl (lv_at hl 0 rfl) ?_
          refine va_get (D := D) (ci := 9) (v := .ref a0) (C := RX9) (T := TX9) (N := 6) hx hb hts hiX9 hown hK hP 0 rfl rfl 0 (by decide) hk_7 (fun _ h9 => h9) rfl dX9_turns_147 ?_
          refine lv_bipush (v := 42) hx hb dX9_turns_150 (by decide) ?_
          refine my_iald hx hb hK hP 1 0 rfl rfl 42 (rfl) (by decide) (by decide) dX9_turns_152 ?_
          refine W.eq (g2 := F0 m 153 ls [.int ((w 42) + (1 : Int32))]) rfl ?_
          refine lv_iconst (v := 3) hx hb dX9_turns_153 (by decide) ?_
          refine lv_icmp_ne (tgt := 169) hx hb dX9_turns_154 (by decide) (fun c_9 => ?_) (fun c_9 => ?_)
          · skip
            exact my_vret hx hb hr hlocks hK hP hD hS ((1 : Int32), upd (upd (upd (upd (upd (upd w 31 ((w 31) + (1 : Int32))) 28 ((w 28) + t)) 35 (0 : Int32)) 33 (w 0)) 34 t) 42 ((w 42) + (1 : Int32))) (by show ((1 : Int32), upd (upd (upd (upd (upd (upd w 31 ((w 31) + (1 : Int32))) 28 ((w 28) + t)) 35 (0 : Int32)) 33 (w 0)) 34 t) 42 ((w 42) + (1 : Int32))) = F_X9_turns np th ed hh w pf t; simp only [F_X9_turns, if_pos c_1, if_neg c_3, if_pos c_4, if_neg c_8, if_neg c_9, ← hw_2]) [0, 1, 2] rfl rfl dX9_turns_169
          · skip
            refine lv_aload_n hx hb dX9_turns_157 rfl (lv_at hl 0 rfl) ?_
            refine lv_iconst (v := 2) hx hb dX9_turns_158 (by decide) ?_
            refine lv_aload_n hx hb dX9_turns_159 rfl (lv_at hl 0 rfl) ?_
            refine va_get (D := D) (ci := 9) (v := .ref a0) (C := RX9) (T := TX9) (N := 6) hx hb hts hiX9 hown hK hP 0 rfl rfl 0 (by decide) hk_7 (fun _ h9 => h9) rfl dX9_turns_160 ?_
            refine lv_bipush (v := 9) hx hb dX9_turns_163 (by decide) ?_
            refine my_iald hx hb hK hP 1 0 rfl rfl 9 (rfl) (by decide) (by decide) dX9_turns_165 ?_
            refine W.eq (g2 := F0 m 166 ls [.int (w 9), .int (2 : Int32), .ref h0]) rfl ?_
            refine my_callV_v (As := [.int (2 : Int32), .int (w 9)]) (rest := []) (wc := [(h0, .inr (9, [.ref a0, .ref b0, .int np, .int th, .int (1 : Int32), .long hh])), (a0, .inl (cI, 129, .inl (upd (upd (upd (upd (upd (upd w 31 ((w 31) + (1 : Int32))) 28 ((w 28) + t)) 35 (0 : Int32)) 33 (w 0)) 34 t) 42 ((w 42) + (1 : Int32))))), (b0, .inl (cI, 516, .inl pf))]) (wr := []) ⟨hx, hb, hml, hown, hts⟩ (met_X9_faults l D cI cJ cS h0 a0 b0 np th (1 : Int32) hh (upd (upd (upd (upd (upd (upd w 31 ((w 31) + (1 : Int32))) 28 ((w 28) + t)) 35 (0 : Int32)) 33 (w 0)) 34 t) 42 ((w 42) + (1 : Int32))) pf (2 : Int32) (w 9) _) (cwV 2 hts gX9_turns_X9_faults rfl rfl rfl (by decide +kernel) ⟨Nat.le_of_ble_eq_true rfl, Nat.le_of_ble_eq_true rfl⟩) hK hP hD hS hA hG [0, 1, 2] [] rfl rfl rfl rfl (by decide) 0 rfl rfl rfl hl.1 (Nat.le_of_ble_eq_true rfl) rfl dX9_turns_166 ⟨Nat.le_of_ble_eq_true rfl, Nat.le_of_ble_eq_true rfl⟩ (fun x_10_0 H locs hw_10 hP hD hS => ?_)
            have hP : va_P D vwCl [(h0, .inr (9, [.ref a0, .ref b0, .int np, .int th, .int (1 : Int32), .long hh])), (a0, .inl (cI, 129, .inl x_10_0)), (b0, .inl (cI, 516, .inl pf))] H := hP
            have hD : va_D A [(h0, .inr (9, [.ref a0, .ref b0, .int np, .int th, .int (1 : Int32), .long hh])), (a0, .inl (cI, 129, .inl x_10_0)), (b0, .inl (cI, 516, .inl pf))] := hD
            exact my_vret hx hb hr hlocks hK hP hD hS ((1 : Int32), x_10_0) (by show ((1 : Int32), x_10_0) = F_X9_turns np th ed hh w pf t; simp only [F_X9_turns, if_pos c_1, if_neg c_3, if_pos c_4, if_neg c_8, if_pos c_9, ← hw_2, ← hw_10]) [0, 1, 2] rfl rfl dX9_turns_169
        · skip
          refine lv_iconst (v := 0) hx hb dX9_turns_132 (by decide) ?_
          refine lv_goto (tgt := 145) hx hb dX9_turns_133 (by decide) ?_
          refine my_iast hx hb hK hP hD hS 1 0 rfl rfl 42 (rfl) (by decide) (by decide) dX9_turns_145 (fun H locs hP hD hS => ?_)
          have hP : va_P D vwCl [(h0, .inr (9, [.ref a0, .ref b0, .int np, .int th, .int (1 : Int32), .long hh])), (a0, .inl (cI, 129, .inl (upd (upd (upd (upd (upd (upd w 31 ((w 31) + (1 : Int32))) 28 ((w 28) + t)) 35 (0 : Int32)) 33 (w 0)) 34 t) 42 (0 : Int32)))), (b0, .inl (cI, 516, .inl pf))] H := hP
          have hD : va_D A [(h0, .inr (9, [.ref a0, .ref b0, .int np, .int th, .int (1 : Int32), .long hh])), (a0, .inl (cI, 129, .inl (upd (upd (upd (upd (upd (upd w 31 ((w 31) + (1 : Int32))) 28 ((w 28) + t)) 35 (0 : Int32)) 33 (w 0)) 34 t) 42 (0 : Int32)))), (b0, .inl (cI, 516, .inl pf))] := hD
          refine lv_aload_n hx hb dX9_turns_146 rfl (lv_at hl 0 rfl) ?_
          refine va_get (D := D) (ci := 9) (v := .ref a0) (C := RX9) (T := TX9) (N := 6) hx hb hts hiX9 hown hK hP 0 rfl rfl 0 (by decide) hk_7 (fun _ h9 => h9) rfl dX9_turns_147 ?_
          refine lv_bipush (v := 42) hx hb dX9_turns_150 (by decide) ?_
          refine my_iald hx hb hK hP 1 0 rfl rfl 42 (rfl) (by decide) (by decide) dX9_turns_152 ?_
          refine W.eq (g2 := F0 m 153 ls [.int (0 : Int32)]) rfl ?_
          refine lv_iconst (v := 3) hx hb dX9_turns_153 (by decide) ?_
          refine lv_icmp_ne (tgt := 169) hx hb dX9_turns_154 (by decide) (fun _ => ?_) (fun c9 => absurd c9 (by decide))
          exact my_vret hx hb hr hlocks hK hP hD hS ((1 : Int32), upd (upd (upd (upd (upd (upd w 31 ((w 31) + (1 : Int32))) 28 ((w 28) + t)) 35 (0 : Int32)) 33 (w 0)) 34 t) 42 (0 : Int32)) (by show ((1 : Int32), upd (upd (upd (upd (upd (upd w 31 ((w 31) + (1 : Int32))) 28 ((w 28) + t)) 35 (0 : Int32)) 33 (w 0)) 34 t) 42 (0 : Int32)) = F_X9_turns np th ed hh w pf t; simp only [F_X9_turns, if_pos c_1, if_neg c_3, if_pos c_4, if_pos c_8, ← hw_2]) [0, 1, 2] rfl rfl dX9_turns_169
  · skip
    refine lv_aload_n hx hb dX9_turns_38 rfl (lv_at hl 0 rfl) ?_
    refine va_get (D := D) (ci := 9) (v := .ref a0) (C := RX9) (T := TX9) (N := 6) hx hb hts hiX9 hown hK hP 0 rfl rfl 0 (by decide) hk_7 (fun _ h9 => h9) rfl dX9_turns_39 ?_
    refine lv_bipush (v := 34) hx hb dX9_turns_42 (by decide) ?_
    refine my_iald hx hb hK hP 1 0 rfl rfl 34 (rfl) (by decide) (by decide) dX9_turns_44 ?_
    refine W.eq (g2 := F0 m 45 ls [.int (w 34)]) rfl ?_
    refine lv_iload_n hx hb dX9_turns_45 rfl (lv_at hl 1 rfl) ?_
    refine lv_icmp_eq (tgt := 60) hx hb dX9_turns_46 (by decide) (fun c_11 => ?_) (fun c_11 => ?_)
    · skip
      refine lv_aload_n hx hb dX9_turns_60 rfl (lv_at hl 0 rfl) ?_
      refine lv_aload_n hx hb dX9_turns_61 rfl (lv_at hl 0 rfl) ?_
      refine va_get (D := D) (ci := 9) (v := .ref a0) (C := RX9) (T := TX9) (N := 6) hx hb hts hiX9 hown hK hP 0 rfl rfl 0 (by decide) hk_7 (fun _ h9 => h9) rfl dX9_turns_62 ?_
      refine lv_iconst (v := 0) hx hb dX9_turns_65 (by decide) ?_
      refine my_iald hx hb hK hP 1 0 rfl rfl 0 (rfl) (by decide) (by decide) dX9_turns_66 ?_
      refine W.eq (g2 := F0 m 67 ls [.int (w 0), .ref h0]) rfl ?_
      refine lv_aload_n hx hb dX9_turns_67 rfl (lv_at hl 0 rfl) ?_
      refine va_get (D := D) (ci := 9) (v := .ref a0) (C := RX9) (T := TX9) (N := 6) hx hb hts hiX9 hown hK hP 0 rfl rfl 0 (by decide) hk_7 (fun _ h9 => h9) rfl dX9_turns_68 ?_
      refine lv_bipush (v := 33) hx hb dX9_turns_71 (by decide) ?_
      refine my_iald hx hb hK hP 1 0 rfl rfl 33 (rfl) (by decide) (by decide) dX9_turns_73 ?_
      refine W.eq (g2 := F0 m 74 ls [.int (w 33), .int (w 0), .ref h0]) rfl ?_
      refine lv_isub hx hb dX9_turns_74 ?_
      refine my_callV_v (As := [.int ((w 0) - (w 33))]) (rest := []) (wc := [(h0, .inr (9, [.ref a0, .ref b0, .int np, .int th, .int (1 : Int32), .long hh])), (a0, .inl (cI, 129, .inl (upd (upd w 31 ((w 31) + (1 : Int32))) 28 ((w 28) + t)))), (b0, .inl (cI, 516, .inl pf))]) (wr := []) ⟨hx, hb, hml, hown, hts⟩ (met_X9_addsInterval l D cI cJ cS h0 a0 b0 np th (1 : Int32) hh (upd (upd w 31 ((w 31) + (1 : Int32))) 28 ((w 28) + t)) pf ((w 0) - (w 33)) (hz) _) (cwV 1 hts gX9_turns_X9_addsInterval rfl rfl rfl (by decide +kernel) ⟨Nat.le_of_ble_eq_true rfl, Nat.le_of_ble_eq_true rfl⟩) hK hP hD hS hA hG [0, 1, 2] [] rfl rfl rfl rfl (by decide) 0 rfl rfl rfl hl.1 (Nat.le_of_ble_eq_true rfl) rfl dX9_turns_75 ⟨Nat.le_of_ble_eq_true rfl, Nat.le_of_ble_eq_true rfl⟩ (fun x_12_0 H locs hw_12 hP hD hS => ?_)
      have hP : va_P D vwCl [(h0, .inr (9, [.ref a0, .ref b0, .int np, .int th, .int (1 : Int32), .long hh])), (a0, .inl (cI, 129, .inl x_12_0)), (b0, .inl (cI, 516, .inl pf))] H := hP
      have hD : va_D A [(h0, .inr (9, [.ref a0, .ref b0, .int np, .int th, .int (1 : Int32), .long hh])), (a0, .inl (cI, 129, .inl x_12_0)), (b0, .inl (cI, 516, .inl pf))] := hD
      refine lv_aload_n hx hb dX9_turns_78 rfl (lv_at hl 0 rfl) ?_
      refine va_get (D := D) (ci := 9) (v := .ref a0) (C := RX9) (T := TX9) (N := 6) hx hb hts hiX9 hown hK hP 0 rfl rfl 0 (by decide) hk_7 (fun _ h9 => h9) rfl dX9_turns_79 ?_
      refine lv_bipush (v := 33) hx hb dX9_turns_82 (by decide) ?_
      refine lv_aload_n hx hb dX9_turns_84 rfl (lv_at hl 0 rfl) ?_
      refine va_get (D := D) (ci := 9) (v := .ref a0) (C := RX9) (T := TX9) (N := 6) hx hb hts hiX9 hown hK hP 0 rfl rfl 0 (by decide) hk_7 (fun _ h9 => h9) rfl dX9_turns_85 ?_
      refine lv_iconst (v := 0) hx hb dX9_turns_88 (by decide) ?_
      refine my_iald hx hb hK hP 1 0 rfl rfl 0 (rfl) (by decide) (by decide) dX9_turns_89 ?_
      refine my_iast hx hb hK hP hD hS 1 0 rfl rfl 33 (rfl) (by decide) (by decide) dX9_turns_90 (fun H locs hP hD hS => ?_)
      have hP : va_P D vwCl [(h0, .inr (9, [.ref a0, .ref b0, .int np, .int th, .int (1 : Int32), .long hh])), (a0, .inl (cI, 129, .inl (upd x_12_0 33 (x_12_0 0)))), (b0, .inl (cI, 516, .inl pf))] H := hP
      have hD : va_D A [(h0, .inr (9, [.ref a0, .ref b0, .int np, .int th, .int (1 : Int32), .long hh])), (a0, .inl (cI, 129, .inl (upd x_12_0 33 (x_12_0 0)))), (b0, .inl (cI, 516, .inl pf))] := hD
      refine lv_aload_n hx hb dX9_turns_91 rfl (lv_at hl 0 rfl) ?_
      refine va_get (D := D) (ci := 9) (v := .ref a0) (C := RX9) (T := TX9) (N := 6) hx hb hts hiX9 hown hK hP 0 rfl rfl 0 (by decide) hk_7 (fun _ h9 => h9) rfl dX9_turns_92 ?_
      refine lv_bipush (v := 34) hx hb dX9_turns_95 (by decide) ?_
      refine lv_iload_n hx hb dX9_turns_97 rfl (lv_at hl 1 rfl) ?_
      refine my_iast hx hb hK hP hD hS 1 0 rfl rfl 34 (rfl) (by decide) (by decide) dX9_turns_98 (fun H locs hP hD hS => ?_)
      have hP : va_P D vwCl [(h0, .inr (9, [.ref a0, .ref b0, .int np, .int th, .int (1 : Int32), .long hh])), (a0, .inl (cI, 129, .inl (upd (upd x_12_0 33 (x_12_0 0)) 34 t))), (b0, .inl (cI, 516, .inl pf))] H := hP
      have hD : va_D A [(h0, .inr (9, [.ref a0, .ref b0, .int np, .int th, .int (1 : Int32), .long hh])), (a0, .inl (cI, 129, .inl (upd (upd x_12_0 33 (x_12_0 0)) 34 t))), (b0, .inl (cI, 516, .inl pf))] := hD
      refine lv_aload_n hx hb dX9_turns_99 rfl (lv_at hl 0 rfl) ?_
      refine my_callV_i (As := []) (rest := []) (wc := [(h0, .inr (9, [.ref a0, .ref b0, .int np, .int th, .int (1 : Int32), .long hh])), (a0, .inl (cI, 129, .inl (upd (upd x_12_0 33 (x_12_0 0)) 34 t))), (b0, .inl (cI, 516, .inl pf))]) (wr := []) ⟨hx, hb, hml, hown, hts⟩ (met_X9_isDriven l D cI cJ cS h0 a0 b0 np th (1 : Int32) hh (upd (upd x_12_0 33 (x_12_0 0)) 34 t) pf _) (cwV 0 hts gX9_turns_X9_isDriven rfl rfl rfl (by decide +kernel) ⟨Nat.le_of_ble_eq_true rfl, Nat.le_of_ble_eq_true rfl⟩) hK hP hD hS hA hG [0, 1, 2] [] rfl rfl rfl rfl (by decide) 0 rfl rfl rfl hl.1 (Nat.le_of_ble_eq_true rfl) rfl dX9_turns_100 ⟨Nat.le_of_ble_eq_true rfl, Nat.le_of_ble_eq_true rfl⟩ (fun r_13 _ H locs hw_13 hP hD hS => ?_)
      have hP : va_P D vwCl [(h0, .inr (9, [.ref a0, .ref b0, .int np, .int th, .int (1 : Int32), .long hh])), (a0, .inl (cI, 129, .inl (upd (upd x_12_0 33 (x_12_0 0)) 34 t))), (b0, .inl (cI, 516, .inl pf))] H := hP
      have hD : va_D A [(h0, .inr (9, [.ref a0, .ref b0, .int np, .int th, .int (1 : Int32), .long hh])), (a0, .inl (cI, 129, .inl (upd (upd x_12_0 33 (x_12_0 0)) 34 t))), (b0, .inl (cI, 516, .inl pf))] := hD
      refine lv_if_eq (tgt := 169) hx hb dX9_turns_103 (by decide) (fun c_14 => ?_) (fun c_14 => ?_)
      · skip
        exact my_vret hx hb hr hlocks hK hP hD hS ((1 : Int32), upd (upd x_12_0 33 (x_12_0 0)) 34 t) (by show ((1 : Int32), upd (upd x_12_0 33 (x_12_0 0)) 34 t) = F_X9_turns np th ed hh w pf t; simp only [F_X9_turns, if_neg c_1, if_pos c_11, if_pos c_14, ← hw_12, ← hw_13]) [0, 1, 2] rfl rfl dX9_turns_169
      · skip
        refine lv_aload_n hx hb dX9_turns_106 rfl (lv_at hl 0 rfl) ?_
        refine va_get (D := D) (ci := 9) (v := .ref a0) (C := RX9) (T := TX9) (N := 6) hx hb hts hiX9 hown hK hP 0 rfl rfl 0 (by decide) hk_7 (fun _ h9 => h9) rfl dX9_turns_107 ?_
        refine lv_bipush (v := 42) hx hb dX9_turns_110 (by decide) ?_
        refine lv_iload_n hx hb dX9_turns_112 rfl (lv_at hl 1 rfl) ?_
        refine lv_aload_n hx hb dX9_turns_113 rfl (lv_at hl 0 rfl) ?_
        refine va_get (D := D) (ci := 9) (v := .ref a0) (C := RX9) (T := TX9) (N := 6) hx hb hts hiX9 hown hK hP 0 rfl rfl 0 (by decide) hk_7 (fun _ h9 => h9) rfl dX9_turns_114 ?_
        refine lv_bipush (v := 6) hx hb dX9_turns_117 (by decide) ?_
        refine my_iald hx hb hK hP 1 0 rfl rfl 6 (rfl) (by decide) (by decide) dX9_turns_119 ?_
        refine W.eq (g2 := F0 m 120 ls [.int (x_12_0 6), .int t, .int (42 : Int32), .ref a0]) rfl ?_
        refine lv_iconst (v := 1) hx hb dX9_turns_120 (by decide) ?_
        refine lv_icmp_ne (tgt := 128) hx hb dX9_turns_121 (by decide) (fun c_15 => ?_) (fun c_15 => ?_)
        · skip
          refine lv_iconst (v := -1) hx hb dX9_turns_128 (by decide) ?_
          refine lv_icmp_ne (tgt := 136) hx hb dX9_turns_129 (by decide) (fun c_16 => ?_) (fun c_16 => ?_)
          · skip
            refine lv_aload_n hx hb dX9_turns_136 rfl (lv_at hl 0 rfl) ?_
            refine va_get (D := D) (ci := 9) (v := .ref a0) (C := RX9) (T := TX9) (N := 6) hx hb hts hiX9 hown hK hP 0 rfl rfl 0 (by decide) hk_7 (fun _ h9 => h9) rfl dX9_turns_137 ?_
            refine lv_bipush (v := 42) hx hb dX9_turns_140 (by decide) ?_
            refine my_iald hx hb hK hP 1 0 rfl rfl 42 (rfl) (by decide) (by decide) dX9_turns_142 ?_
            refine W.eq (g2 := F0 m 143 ls [.int (x_12_0 42), .int (42 : Int32), .ref a0]) rfl ?_
            refine lv_iconst (v := 1) hx hb dX9_turns_143 (by decide) ?_
            refine lv_iadd hx hb dX9_turns_144 ?_
            refine my_iast hx hb hK hP hD hS 1 0 rfl rfl 42 (rfl) (by decide) (by decide) dX9_turns_145 (fun H locs hP hD hS => ?_)
            have hP : va_P D vwCl [(h0, .inr (9, [.ref a0, .ref b0, .int np, .int th, .int (1 : Int32), .long hh])), (a0, .inl (cI, 129, .inl (upd (upd (upd x_12_0 33 (x_12_0 0)) 34 t) 42 ((x_12_0 42) + (1 : Int32))))), (b0, .inl (cI, 516, .inl pf))] H := hP
            have hD : va_D A [(h0, .inr (9, [.ref a0, .ref b0, .int np, .int th, .int (1 : Int32), .long hh])), (a0, .inl (cI, 129, .inl (upd (upd (upd x_12_0 33 (x_12_0 0)) 34 t) 42 ((x_12_0 42) + (1 : Int32))))), (b0, .inl (cI, 516, .inl pf))] := hD
            refine lv_aload_n hx hb dX9_turns_146 rfl (lv_at hl 0 rfl) ?_
            refine va_get (D := D) (ci := 9) (v := .ref a0) (C := RX9) (T := TX9) (N := 6) hx hb hts hiX9 hown hK hP 0 rfl rfl 0 (by decide) hk_7 (fun _ h9 => h9) rfl dX9_turns_147 ?_
            refine lv_bipush (v := 42) hx hb dX9_turns_150 (by decide) ?_
            refine my_iald hx hb hK hP 1 0 rfl rfl 42 (rfl) (by decide) (by decide) dX9_turns_152 ?_
            refine W.eq (g2 := F0 m 153 ls [.int ((x_12_0 42) + (1 : Int32))]) rfl ?_
            refine lv_iconst (v := 3) hx hb dX9_turns_153 (by decide) ?_
            refine lv_icmp_ne (tgt := 169) hx hb dX9_turns_154 (by decide) (fun c_17 => ?_) (fun c_17 => ?_)
            · skip
              exact my_vret hx hb hr hlocks hK hP hD hS ((1 : Int32), upd (upd (upd x_12_0 33 (x_12_0 0)) 34 t) 42 ((x_12_0 42) + (1 : Int32))) (by show ((1 : Int32), upd (upd (upd x_12_0 33 (x_12_0 0)) 34 t) 42 ((x_12_0 42) + (1 : Int32))) = F_X9_turns np th ed hh w pf t; simp only [F_X9_turns, if_neg c_1, if_pos c_11, if_neg c_14, if_neg c_15, if_neg c_16, if_neg c_17, ← hw_12, ← hw_13]) [0, 1, 2] rfl rfl dX9_turns_169
            · skip
              refine lv_aload_n hx hb dX9_turns_157 rfl (lv_at hl 0 rfl) ?_
              refine lv_iconst (v := 2) hx hb dX9_turns_158 (by decide) ?_
              refine lv_aload_n hx hb dX9_turns_159 rfl (lv_at hl 0 rfl) ?_
              refine va_get (D := D) (ci := 9) (v := .ref a0) (C := RX9) (T := TX9) (N := 6) hx hb hts hiX9 hown hK hP 0 rfl rfl 0 (by decide) hk_7 (fun _ h9 => h9) rfl dX9_turns_160 ?_
              refine lv_bipush (v := 9) hx hb dX9_turns_163 (by decide) ?_
              refine my_iald hx hb hK hP 1 0 rfl rfl 9 (rfl) (by decide) (by decide) dX9_turns_165 ?_
              refine W.eq (g2 := F0 m 166 ls [.int (x_12_0 9), .int (2 : Int32), .ref h0]) rfl ?_
              refine my_callV_v (As := [.int (2 : Int32), .int (x_12_0 9)]) (rest := []) (wc := [(h0, .inr (9, [.ref a0, .ref b0, .int np, .int th, .int (1 : Int32), .long hh])), (a0, .inl (cI, 129, .inl (upd (upd (upd x_12_0 33 (x_12_0 0)) 34 t) 42 ((x_12_0 42) + (1 : Int32))))), (b0, .inl (cI, 516, .inl pf))]) (wr := []) ⟨hx, hb, hml, hown, hts⟩ (met_X9_faults l D cI cJ cS h0 a0 b0 np th (1 : Int32) hh (upd (upd (upd x_12_0 33 (x_12_0 0)) 34 t) 42 ((x_12_0 42) + (1 : Int32))) pf (2 : Int32) (x_12_0 9) _) (cwV 2 hts gX9_turns_X9_faults rfl rfl rfl (by decide +kernel) ⟨Nat.le_of_ble_eq_true rfl, Nat.le_of_ble_eq_true rfl⟩) hK hP hD hS hA hG [0, 1, 2] [] rfl rfl rfl rfl (by decide) 0 rfl rfl rfl hl.1 (Nat.le_of_ble_eq_true rfl) rfl dX9_turns_166 ⟨Nat.le_of_ble_eq_true rfl, Nat.le_of_ble_eq_true rfl⟩ (fun x_18_0 H locs hw_18 hP hD hS => ?_)
              have hP : va_P D vwCl [(h0, .inr (9, [.ref a0, .ref b0, .int np, .int th, .int (1 : Int32), .long hh])), (a0, .inl (cI, 129, .inl x_18_0)), (b0, .inl (cI, 516, .inl pf))] H := hP
              have hD : va_D A [(h0, .inr (9, [.ref a0, .ref b0, .int np, .int th, .int (1 : Int32), .long hh])), (a0, .inl (cI, 129, .inl x_18_0)), (b0, .inl (cI, 516, .inl pf))] := hD
              exact my_vret hx hb hr hlocks hK hP hD hS ((1 : Int32), x_18_0) (by show ((1 : Int32), x_18_0) = F_X9_turns np th ed hh w pf t; simp only [F_X9_turns, if_neg c_1, if_pos c_11, if_neg c_14, if_neg c_15, if_neg c_16, if_pos c_17, ← hw_12, ← hw_13, ← hw_18]) [0, 1, 2] rfl rfl dX9_turns_169
          · skip
            refine lv_iconst (v := 0) hx hb dX9_turns_132 (by decide) ?_
            refine lv_goto (tgt := 145) hx hb dX9_turns_133 (by decide) ?_
            refine my_iast hx hb hK hP hD hS 1 0 rfl rfl 42 (rfl) (by decide) (by decide) dX9_turns_145 (fun H locs hP hD hS => ?_)
            have hP : va_P D vwCl [(h0, .inr (9, [.ref a0, .ref b0, .int np, .int th, .int (1 : Int32), .long hh])), (a0, .inl (cI, 129, .inl (upd (upd (upd x_12_0 33 (x_12_0 0)) 34 t) 42 (0 : Int32)))), (b0, .inl (cI, 516, .inl pf))] H := hP
            have hD : va_D A [(h0, .inr (9, [.ref a0, .ref b0, .int np, .int th, .int (1 : Int32), .long hh])), (a0, .inl (cI, 129, .inl (upd (upd (upd x_12_0 33 (x_12_0 0)) 34 t) 42 (0 : Int32)))), (b0, .inl (cI, 516, .inl pf))] := hD
            refine lv_aload_n hx hb dX9_turns_146 rfl (lv_at hl 0 rfl) ?_
            refine va_get (D := D) (ci := 9) (v := .ref a0) (C := RX9) (T := TX9) (N := 6) hx hb hts hiX9 hown hK hP 0 rfl rfl 0 (by decide) hk_7 (fun _ h9 => h9) rfl dX9_turns_147 ?_
            refine lv_bipush (v := 42) hx hb dX9_turns_150 (by decide) ?_
            refine my_iald hx hb hK hP 1 0 rfl rfl 42 (rfl) (by decide) (by decide) dX9_turns_152 ?_
            refine W.eq (g2 := F0 m 153 ls [.int (0 : Int32)]) rfl ?_
            refine lv_iconst (v := 3) hx hb dX9_turns_153 (by decide) ?_
            refine lv_icmp_ne (tgt := 169) hx hb dX9_turns_154 (by decide) (fun _ => ?_) (fun c9 => absurd c9 (by decide))
            exact my_vret hx hb hr hlocks hK hP hD hS ((1 : Int32), upd (upd (upd x_12_0 33 (x_12_0 0)) 34 t) 42 (0 : Int32)) (by show ((1 : Int32), upd (upd (upd x_12_0 33 (x_12_0 0)) 34 t) 42 (0 : Int32)) = F_X9_turns np th ed hh w pf t; simp only [F_X9_turns, if_neg c_1, if_pos c_11, if_neg c_14, if_neg c_15, if_pos c_16, ← hw_12, ← hw_13]) [0, 1, 2] rfl rfl dX9_turns_169
        · skip
          refine lv_iconst (v := 1) hx hb dX9_turns_124 (by decide) ?_
          refine lv_goto (tgt := 129) hx hb dX9_turns_125 (by decide) ?_
          refine lv_icmp_ne (tgt := 136) hx hb dX9_turns_129 (by decide) (fun c_19 => ?_) (fun c_19 => ?_)
          · skip
            refine lv_aload_n hx hb dX9_turns_136 rfl (lv_at hl 0 rfl) ?_
            refine va_get (D := D) (ci := 9) (v := .ref a0) (C := RX9) (T := TX9) (N := 6) hx hb hts hiX9 hown hK hP 0 rfl rfl 0 (by decide) hk_7 (fun _ h9 => h9) rfl dX9_turns_137 ?_
            refine lv_bipush (v := 42) hx hb dX9_turns_140 (by decide) ?_
            refine my_iald hx hb hK hP 1 0 rfl rfl 42 (rfl) (by decide) (by decide) dX9_turns_142 ?_
            refine W.eq (g2 := F0 m 143 ls [.int (x_12_0 42), .int (42 : Int32), .ref a0]) rfl ?_
            refine lv_iconst (v := 1) hx hb dX9_turns_143 (by decide) ?_
            refine lv_iadd hx hb dX9_turns_144 ?_
            refine my_iast hx hb hK hP hD hS 1 0 rfl rfl 42 (rfl) (by decide) (by decide) dX9_turns_145 (fun H locs hP hD hS => ?_)
            have hP : va_P D vwCl [(h0, .inr (9, [.ref a0, .ref b0, .int np, .int th, .int (1 : Int32), .long hh])), (a0, .inl (cI, 129, .inl (upd (upd (upd x_12_0 33 (x_12_0 0)) 34 t) 42 ((x_12_0 42) + (1 : Int32))))), (b0, .inl (cI, 516, .inl pf))] H := hP
            have hD : va_D A [(h0, .inr (9, [.ref a0, .ref b0, .int np, .int th, .int (1 : Int32), .long hh])), (a0, .inl (cI, 129, .inl (upd (upd (upd x_12_0 33 (x_12_0 0)) 34 t) 42 ((x_12_0 42) + (1 : Int32))))), (b0, .inl (cI, 516, .inl pf))] := hD
            refine lv_aload_n hx hb dX9_turns_146 rfl (lv_at hl 0 rfl) ?_
            refine va_get (D := D) (ci := 9) (v := .ref a0) (C := RX9) (T := TX9) (N := 6) hx hb hts hiX9 hown hK hP 0 rfl rfl 0 (by decide) hk_7 (fun _ h9 => h9) rfl dX9_turns_147 ?_
            refine lv_bipush (v := 42) hx hb dX9_turns_150 (by decide) ?_
            refine my_iald hx hb hK hP 1 0 rfl rfl 42 (rfl) (by decide) (by decide) dX9_turns_152 ?_
            refine W.eq (g2 := F0 m 153 ls [.int ((x_12_0 42) + (1 : Int32))]) rfl ?_
            refine lv_iconst (v := 3) hx hb dX9_turns_153 (by decide) ?_
            refine lv_icmp_ne (tgt := 169) hx hb dX9_turns_154 (by decide) (fun c_20 => ?_) (fun c_20 => ?_)
            · skip
              exact my_vret hx hb hr hlocks hK hP hD hS ((1 : Int32), upd (upd (upd x_12_0 33 (x_12_0 0)) 34 t) 42 ((x_12_0 42) + (1 : Int32))) (by show ((1 : Int32), upd (upd (upd x_12_0 33 (x_12_0 0)) 34 t) 42 ((x_12_0 42) + (1 : Int32))) = F_X9_turns np th ed hh w pf t; simp only [F_X9_turns, if_neg c_1, if_pos c_11, if_neg c_14, if_pos c_15, if_neg c_19, if_neg c_20, ← hw_12, ← hw_13]) [0, 1, 2] rfl rfl dX9_turns_169
            · skip
              refine lv_aload_n hx hb dX9_turns_157 rfl (lv_at hl 0 rfl) ?_
              refine lv_iconst (v := 2) hx hb dX9_turns_158 (by decide) ?_
              refine lv_aload_n hx hb dX9_turns_159 rfl (lv_at hl 0 rfl) ?_
              refine va_get (D := D) (ci := 9) (v := .ref a0) (C := RX9) (T := TX9) (N := 6) hx hb hts hiX9 hown hK hP 0 rfl rfl 0 (by decide) hk_7 (fun _ h9 => h9) rfl dX9_turns_160 ?_
              refine lv_bipush (v := 9) hx hb dX9_turns_163 (by decide) ?_
              refine my_iald hx hb hK hP 1 0 rfl rfl 9 (rfl) (by decide) (by decide) dX9_turns_165 ?_
              refine W.eq (g2 := F0 m 166 ls [.int (x_12_0 9), .int (2 : Int32), .ref h0]) rfl ?_
              refine my_callV_v (As := [.int (2 : Int32), .int (x_12_0 9)]) (rest := []) (wc := [(h0, .inr (9, [.ref a0, .ref b0, .int np, .int th, .int (1 : Int32), .long hh])), (a0, .inl (cI, 129, .inl (upd (upd (upd x_12_0 33 (x_12_0 0)) 34 t) 42 ((x_12_0 42) + (1 : Int32))))), (b0, .inl (cI, 516, .inl pf))]) (wr := []) ⟨hx, hb, hml, hown, hts⟩ (met_X9_faults l D cI cJ cS h0 a0 b0 np th (1 : Int32) hh (upd (upd (upd x_12_0 33 (x_12_0 0)) 34 t) 42 ((x_12_0 42) + (1 : Int32))) pf (2 : Int32) (x_12_0 9) _) (cwV 2 hts gX9_turns_X9_faults rfl rfl rfl (by decide +kernel) ⟨Nat.le_of_ble_eq_true rfl, Nat.le_of_ble_eq_true rfl⟩) hK hP hD hS hA hG [0, 1, 2] [] rfl rfl rfl rfl (by decide) 0 rfl rfl rfl hl.1 (Nat.le_of_ble_eq_true rfl) rfl dX9_turns_166 ⟨Nat.le_of_ble_eq_true rfl, Nat.le_of_ble_eq_true rfl⟩ (fun x_21_0 H locs hw_21 hP hD hS => ?_)
              have hP : va_P D vwCl [(h0, .inr (9, [.ref a0, .ref b0, .int np, .int th, .int (1 : Int32), .long hh])), (a0, .inl (cI, 129, .inl x_21_0)), (b0, .inl (cI, 516, .inl pf))] H := hP
              have hD : va_D A [(h0, .inr (9, [.ref a0, .ref b0, .int np, .int th, .int (1 : Int32), .long hh])), (a0, .inl (cI, 129, .inl x_21_0)), (b0, .inl (cI, 516, .inl pf))] := hD
              exact my_vret hx hb hr hlocks hK hP hD hS ((1 : Int32), x_21_0) (by show ((1 : Int32), x_21_0) = F_X9_turns np th ed hh w pf t; simp only [F_X9_turns, if_neg c_1, if_pos c_11, if_neg c_14, if_pos c_15, if_neg c_19, if_pos c_20, ← hw_12, ← hw_13, ← hw_21]) [0, 1, 2] rfl rfl dX9_turns_169
          · skip
            refine lv_iconst (v := 0) hx hb dX9_turns_132 (by decide) ?_
            refine lv_goto (tgt := 145) hx hb dX9_turns_133 (by decide) ?_
            refine my_iast hx hb hK hP hD hS 1 0 rfl rfl 42 (rfl) (by decide) (by decide) dX9_turns_145 (fun H locs hP hD hS => ?_)
            have hP : va_P D vwCl [(h0, .inr (9, [.ref a0, .ref b0, .int np, .int th, .int (1 : Int32), .long hh])), (a0, .inl (cI, 129, .inl (upd (upd (upd x_12_0 33 (x_12_0 0)) 34 t) 42 (0 : Int32)))), (b0, .inl (cI, 516, .inl pf))] H := hP
            have hD : va_D A [(h0, .inr (9, [.ref a0, .ref b0, .int np, .int th, .int (1 : Int32), .long hh])), (a0, .inl (cI, 129, .inl (upd (upd (upd x_12_0 33 (x_12_0 0)) 34 t) 42 (0 : Int32)))), (b0, .inl (cI, 516, .inl pf))] := hD
            refine lv_aload_n hx hb dX9_turns_146 rfl (lv_at hl 0 rfl) ?_
            refine va_get (D := D) (ci := 9) (v := .ref a0) (C := RX9) (T := TX9) (N := 6) hx hb hts hiX9 hown hK hP 0 rfl rfl 0 (by decide) hk_7 (fun _ h9 => h9) rfl dX9_turns_147 ?_
            refine lv_bipush (v := 42) hx hb dX9_turns_150 (by decide) ?_
            refine my_iald hx hb hK hP 1 0 rfl rfl 42 (rfl) (by decide) (by decide) dX9_turns_152 ?_
            refine W.eq (g2 := F0 m 153 ls [.int (0 : Int32)]) rfl ?_
            refine lv_iconst (v := 3) hx hb dX9_turns_153 (by decide) ?_
            refine lv_icmp_ne (tgt := 169) hx hb dX9_turns_154 (by decide) (fun _ => ?_) (fun c9 => absurd c9 (by decide))
            exact my_vret hx hb hr hlocks hK hP hD hS ((1 : Int32), upd (upd (upd x_12_0 33 (x_12_0 0)) 34 t) 42 (0 : Int32)) (by show ((1 : Int32), upd (upd (upd x_12_0 33 (x_12_0 0)) 34 t) 42 (0 : Int32)) = F_X9_turns np th ed hh w pf t; simp only [F_X9_turns, if_neg c_1, if_pos c_11, if_neg c_14, if_pos c_15, if_pos c_19, ← hw_12, ← hw_13]) [0, 1, 2] rfl rfl dX9_turns_169
    · skip
      refine lv_aload_n hx hb dX9_turns_49 rfl (lv_at hl 0 rfl) ?_
      refine va_get (D := D) (ci := 9) (v := .ref a0) (C := RX9) (T := TX9) (N := 6) hx hb hts hiX9 hown hK hP 0 rfl rfl 0 (by decide) hk_7 (fun _ h9 => h9) rfl dX9_turns_50 ?_
      refine lv_bipush (v := 35) hx hb dX9_turns_53 (by decide) ?_
      refine lv_iconst (v := 0) hx hb dX9_turns_55 (by decide) ?_
      refine my_iast hx hb hK hP hD hS 1 0 rfl rfl 35 (rfl) (by decide) (by decide) dX9_turns_56 (fun H locs hP hD hS => ?_)
      have hP : va_P D vwCl [(h0, .inr (9, [.ref a0, .ref b0, .int np, .int th, .int (1 : Int32), .long hh])), (a0, .inl (cI, 129, .inl (upd (upd (upd w 31 ((w 31) + (1 : Int32))) 28 ((w 28) + t)) 35 (0 : Int32)))), (b0, .inl (cI, 516, .inl pf))] H := hP
      have hD : va_D A [(h0, .inr (9, [.ref a0, .ref b0, .int np, .int th, .int (1 : Int32), .long hh])), (a0, .inl (cI, 129, .inl (upd (upd (upd w 31 ((w 31) + (1 : Int32))) 28 ((w 28) + t)) 35 (0 : Int32)))), (b0, .inl (cI, 516, .inl pf))] := hD
      refine lv_goto (tgt := 78) hx hb dX9_turns_57 (by decide) ?_
      refine lv_aload_n hx hb dX9_turns_78 rfl (lv_at hl 0 rfl) ?_
      refine va_get (D := D) (ci := 9) (v := .ref a0) (C := RX9) (T := TX9) (N := 6) hx hb hts hiX9 hown hK hP 0 rfl rfl 0 (by decide) hk_7 (fun _ h9 => h9) rfl dX9_turns_79 ?_
      refine lv_bipush (v := 33) hx hb dX9_turns_82 (by decide) ?_
      refine lv_aload_n hx hb dX9_turns_84 rfl (lv_at hl 0 rfl) ?_
      refine va_get (D := D) (ci := 9) (v := .ref a0) (C := RX9) (T := TX9) (N := 6) hx hb hts hiX9 hown hK hP 0 rfl rfl 0 (by decide) hk_7 (fun _ h9 => h9) rfl dX9_turns_85 ?_
      refine lv_iconst (v := 0) hx hb dX9_turns_88 (by decide) ?_
      refine my_iald hx hb hK hP 1 0 rfl rfl 0 (rfl) (by decide) (by decide) dX9_turns_89 ?_
      refine W.eq (g2 := F0 m 90 ls [.int (w 0), .int (33 : Int32), .ref a0]) rfl ?_
      refine my_iast hx hb hK hP hD hS 1 0 rfl rfl 33 (rfl) (by decide) (by decide) dX9_turns_90 (fun H locs hP hD hS => ?_)
      have hP : va_P D vwCl [(h0, .inr (9, [.ref a0, .ref b0, .int np, .int th, .int (1 : Int32), .long hh])), (a0, .inl (cI, 129, .inl (upd (upd (upd (upd w 31 ((w 31) + (1 : Int32))) 28 ((w 28) + t)) 35 (0 : Int32)) 33 (w 0)))), (b0, .inl (cI, 516, .inl pf))] H := hP
      have hD : va_D A [(h0, .inr (9, [.ref a0, .ref b0, .int np, .int th, .int (1 : Int32), .long hh])), (a0, .inl (cI, 129, .inl (upd (upd (upd (upd w 31 ((w 31) + (1 : Int32))) 28 ((w 28) + t)) 35 (0 : Int32)) 33 (w 0)))), (b0, .inl (cI, 516, .inl pf))] := hD
      refine lv_aload_n hx hb dX9_turns_91 rfl (lv_at hl 0 rfl) ?_
      refine va_get (D := D) (ci := 9) (v := .ref a0) (C := RX9) (T := TX9) (N := 6) hx hb hts hiX9 hown hK hP 0 rfl rfl 0 (by decide) hk_7 (fun _ h9 => h9) rfl dX9_turns_92 ?_
      refine lv_bipush (v := 34) hx hb dX9_turns_95 (by decide) ?_
      refine lv_iload_n hx hb dX9_turns_97 rfl (lv_at hl 1 rfl) ?_
      refine my_iast hx hb hK hP hD hS 1 0 rfl rfl 34 (rfl) (by decide) (by decide) dX9_turns_98 (fun H locs hP hD hS => ?_)
      have hP : va_P D vwCl [(h0, .inr (9, [.ref a0, .ref b0, .int np, .int th, .int (1 : Int32), .long hh])), (a0, .inl (cI, 129, .inl (upd (upd (upd (upd (upd w 31 ((w 31) + (1 : Int32))) 28 ((w 28) + t)) 35 (0 : Int32)) 33 (w 0)) 34 t))), (b0, .inl (cI, 516, .inl pf))] H := hP
      have hD : va_D A [(h0, .inr (9, [.ref a0, .ref b0, .int np, .int th, .int (1 : Int32), .long hh])), (a0, .inl (cI, 129, .inl (upd (upd (upd (upd (upd w 31 ((w 31) + (1 : Int32))) 28 ((w 28) + t)) 35 (0 : Int32)) 33 (w 0)) 34 t))), (b0, .inl (cI, 516, .inl pf))] := hD
      refine lv_aload_n hx hb dX9_turns_99 rfl (lv_at hl 0 rfl) ?_
      refine my_callV_i (As := []) (rest := []) (wc := [(h0, .inr (9, [.ref a0, .ref b0, .int np, .int th, .int (1 : Int32), .long hh])), (a0, .inl (cI, 129, .inl (upd (upd (upd (upd (upd w 31 ((w 31) + (1 : Int32))) 28 ((w 28) + t)) 35 (0 : Int32)) 33 (w 0)) 34 t))), (b0, .inl (cI, 516, .inl pf))]) (wr := []) ⟨hx, hb, hml, hown, hts⟩ (met_X9_isDriven l D cI cJ cS h0 a0 b0 np th (1 : Int32) hh (upd (upd (upd (upd (upd w 31 ((w 31) + (1 : Int32))) 28 ((w 28) + t)) 35 (0 : Int32)) 33 (w 0)) 34 t) pf _) (cwV 0 hts gX9_turns_X9_isDriven rfl rfl rfl (by decide +kernel) ⟨Nat.le_of_ble_eq_true rfl, Nat.le_of_ble_eq_true rfl⟩) hK hP hD hS hA hG [0, 1, 2] [] rfl rfl rfl rfl (by decide) 0 rfl rfl rfl hl.1 (Nat.le_of_ble_eq_true rfl) rfl dX9_turns_100 ⟨Nat.le_of_ble_eq_true rfl, Nat.le_of_ble_eq_true rfl⟩ (fun r_22 _ H locs hw_22 hP hD hS => ?_)
      have hP : va_P D vwCl [(h0, .inr (9, [.ref a0, .ref b0, .int np, .int th, .int (1 : Int32), .long hh])), (a0, .inl (cI, 129, .inl (upd (upd (upd (upd (upd w 31 ((w 31) + (1 : Int32))) 28 ((w 28) + t)) 35 (0 : Int32)) 33 (w 0)) 34 t))), (b0, .inl (cI, 516, .inl pf))] H := hP
      have hD : va_D A [(h0, .inr (9, [.ref a0, .ref b0, .int np, .int th, .int (1 : Int32), .long hh])), (a0, .inl (cI, 129, .inl (upd (upd (upd (upd (upd w 31 ((w 31) + (1 : Int32))) 28 ((w 28) + t)) 35 (0 : Int32)) 33 (w 0)) 34 t))), (b0, .inl (cI, 516, .inl pf))] := hD
      refine lv_if_eq (tgt := 169) hx hb dX9_turns_103 (by decide) (fun c_23 => ?_) (fun c_23 => ?_)
      · skip
        exact my_vret hx hb hr hlocks hK hP hD hS ((1 : Int32), upd (upd (upd (upd (upd w 31 ((w 31) + (1 : Int32))) 28 ((w 28) + t)) 35 (0 : Int32)) 33 (w 0)) 34 t) (by show ((1 : Int32), upd (upd (upd (upd (upd w 31 ((w 31) + (1 : Int32))) 28 ((w 28) + t)) 35 (0 : Int32)) 33 (w 0)) 34 t) = F_X9_turns np th ed hh w pf t; simp only [F_X9_turns, if_neg c_1, if_neg c_11, if_pos c_23, ← hw_22]) [0, 1, 2] rfl rfl dX9_turns_169
      · skip
        refine lv_aload_n hx hb dX9_turns_106 rfl (lv_at hl 0 rfl) ?_
        refine va_get (D := D) (ci := 9) (v := .ref a0) (C := RX9) (T := TX9) (N := 6) hx hb hts hiX9 hown hK hP 0 rfl rfl 0 (by decide) hk_7 (fun _ h9 => h9) rfl dX9_turns_107 ?_
        refine lv_bipush (v := 42) hx hb dX9_turns_110 (by decide) ?_
        refine lv_iload_n hx hb dX9_turns_112 rfl (lv_at hl 1 rfl) ?_
        refine lv_aload_n hx hb dX9_turns_113 rfl (lv_at hl 0 rfl) ?_
        refine va_get (D := D) (ci := 9) (v := .ref a0) (C := RX9) (T := TX9) (N := 6) hx hb hts hiX9 hown hK hP 0 rfl rfl 0 (by decide) hk_7 (fun _ h9 => h9) rfl dX9_turns_114 ?_
        refine lv_bipush (v := 6) hx hb dX9_turns_117 (by decide) ?_
        refine my_iald hx hb hK hP 1 0 rfl rfl 6 (rfl) (by decide) (by decide) dX9_turns_119 ?_
        refine W.eq (g2 := F0 m 120 ls [.int (w 6), .int t, .int (42 : Int32), .ref a0]) rfl ?_
        refine lv_iconst (v := 1) hx hb dX9_turns_120 (by decide) ?_
        refine lv_icmp_ne (tgt := 128) hx hb dX9_turns_121 (by decide) (fun c_24 => ?_) (fun c_24 => ?_)
        · skip
          refine lv_iconst (v := -1) hx hb dX9_turns_128 (by decide) ?_
          refine lv_icmp_ne (tgt := 136) hx hb dX9_turns_129 (by decide) (fun c_25 => ?_) (fun c_25 => ?_)
          · skip
            refine lv_aload_n hx hb dX9_turns_136 rfl (lv_at hl 0 rfl) ?_
            refine va_get (D := D) (ci := 9) (v := .ref a0) (C := RX9) (T := TX9) (N := 6) hx hb hts hiX9 hown hK hP 0 rfl rfl 0 (by decide) hk_7 (fun _ h9 => h9) rfl dX9_turns_137 ?_
            refine lv_bipush (v := 42) hx hb dX9_turns_140 (by decide) ?_
            refine my_iald hx hb hK hP 1 0 rfl rfl 42 (rfl) (by decide) (by decide) dX9_turns_142 ?_
            refine W.eq (g2 := F0 m 143 ls [.int (w 42), .int (42 : Int32), .ref a0]) rfl ?_
            refine lv_iconst (v := 1) hx hb dX9_turns_143 (by decide) ?_
            refine lv_iadd hx hb dX9_turns_144 ?_
            refine my_iast hx hb hK hP hD hS 1 0 rfl rfl 42 (rfl) (by decide) (by decide) dX9_turns_145 (fun H locs hP hD hS => ?_)
            have hP : va_P D vwCl [(h0, .inr (9, [.ref a0, .ref b0, .int np, .int th, .int (1 : Int32), .long hh])), (a0, .inl (cI, 129, .inl (upd (upd (upd (upd (upd (upd w 31 ((w 31) + (1 : Int32))) 28 ((w 28) + t)) 35 (0 : Int32)) 33 (w 0)) 34 t) 42 ((w 42) + (1 : Int32))))), (b0, .inl (cI, 516, .inl pf))] H := hP
            have hD : va_D A [(h0, .inr (9, [.ref a0, .ref b0, .int np, .int th, .int (1 : Int32), .long hh])), (a0, .inl (cI, 129, .inl (upd (upd (upd (upd (upd (upd w 31 ((w 31) + (1 : Int32))) 28 ((w 28) + t)) 35 (0 : Int32)) 33 (w 0)) 34 t) 42 ((w 42) + (1 : Int32))))), (b0, .inl (cI, 516, .inl pf))] := hD
            refine lv_aload_n hx hb dX9_turns_146 rfl (lv_at hl 0 rfl) ?_
            refine va_get (D := D) (ci := 9) (v := .ref a0) (C := RX9) (T := TX9) (N := 6) hx hb hts hiX9 hown hK hP 0 rfl rfl 0 (by decide) hk_7 (fun _ h9 => h9) rfl dX9_turns_147 ?_
            refine lv_bipush (v := 42) hx hb dX9_turns_150 (by decide) ?_
            refine my_iald hx hb hK hP 1 0 rfl rfl 42 (rfl) (by decide) (by decide) dX9_turns_152 ?_
            refine W.eq (g2 := F0 m 153 ls [.int ((w 42) + (1 : Int32))]) rfl ?_
            refine lv_iconst (v := 3) hx hb dX9_turns_153 (by decide) ?_
            refine lv_icmp_ne (tgt := 169) hx hb dX9_turns_154 (by decide) (fun c_26 => ?_) (fun c_26 => ?_)
            · skip
              exact my_vret hx hb hr hlocks hK hP hD hS ((1 : Int32), upd (upd (upd (upd (upd (upd w 31 ((w 31) + (1 : Int32))) 28 ((w 28) + t)) 35 (0 : Int32)) 33 (w 0)) 34 t) 42 ((w 42) + (1 : Int32))) (by show ((1 : Int32), upd (upd (upd (upd (upd (upd w 31 ((w 31) + (1 : Int32))) 28 ((w 28) + t)) 35 (0 : Int32)) 33 (w 0)) 34 t) 42 ((w 42) + (1 : Int32))) = F_X9_turns np th ed hh w pf t; simp only [F_X9_turns, if_neg c_1, if_neg c_11, if_neg c_23, if_neg c_24, if_neg c_25, if_neg c_26, ← hw_22]) [0, 1, 2] rfl rfl dX9_turns_169
            · skip
              refine lv_aload_n hx hb dX9_turns_157 rfl (lv_at hl 0 rfl) ?_
              refine lv_iconst (v := 2) hx hb dX9_turns_158 (by decide) ?_
              refine lv_aload_n hx hb dX9_turns_159 rfl (lv_at hl 0 rfl) ?_
              refine va_get (D := D) (ci := 9) (v := .ref a0) (C := RX9) (T := TX9) (N := 6) hx hb hts hiX9 hown hK hP 0 rfl rfl 0 (by decide) hk_7 (fun _ h9 => h9) rfl dX9_turns_160 ?_
              refine lv_bipush (v := 9) hx hb dX9_turns_163 (by decide) ?_
              refine my_iald hx hb hK hP 1 0 rfl rfl 9 (rfl) (by decide) (by decide) dX9_turns_165 ?_
              refine W.eq (g2 := F0 m 166 ls [.int (w 9), .int (2 : Int32), .ref h0]) rfl ?_
              refine my_callV_v (As := [.int (2 : Int32), .int (w 9)]) (rest := []) (wc := [(h0, .inr (9, [.ref a0, .ref b0, .int np, .int th, .int (1 : Int32), .long hh])), (a0, .inl (cI, 129, .inl (upd (upd (upd (upd (upd (upd w 31 ((w 31) + (1 : Int32))) 28 ((w 28) + t)) 35 (0 : Int32)) 33 (w 0)) 34 t) 42 ((w 42) + (1 : Int32))))), (b0, .inl (cI, 516, .inl pf))]) (wr := []) ⟨hx, hb, hml, hown, hts⟩ (met_X9_faults l D cI cJ cS h0 a0 b0 np th (1 : Int32) hh (upd (upd (upd (upd (upd (upd w 31 ((w 31) + (1 : Int32))) 28 ((w 28) + t)) 35 (0 : Int32)) 33 (w 0)) 34 t) 42 ((w 42) + (1 : Int32))) pf (2 : Int32) (w 9) _) (cwV 2 hts gX9_turns_X9_faults rfl rfl rfl (by decide +kernel) ⟨Nat.le_of_ble_eq_true rfl, Nat.le_of_ble_eq_true rfl⟩) hK hP hD hS hA hG [0, 1, 2] [] rfl rfl rfl rfl (by decide) 0 rfl rfl rfl hl.1 (Nat.le_of_ble_eq_true rfl) rfl dX9_turns_166 ⟨Nat.le_of_ble_eq_true rfl, Nat.le_of_ble_eq_true rfl⟩ (fun x_27_0 H locs hw_27 hP hD hS => ?_)
              have hP : va_P D vwCl [(h0, .inr (9, [.ref a0, .ref b0, .int np, .int th, .int (1 : Int32), .long hh])), (a0, .inl (cI, 129, .inl x_27_0)), (b0, .inl (cI, 516, .inl pf))] H := hP
              have hD : va_D A [(h0, .inr (9, [.ref a0, .ref b0, .int np, .int th, .int (1 : Int32), .long hh])), (a0, .inl (cI, 129, .inl x_27_0)), (b0, .inl (cI, 516, .inl pf))] := hD
              exact my_vret hx hb hr hlocks hK hP hD hS ((1 : Int32), x_27_0) (by show ((1 : Int32), x_27_0) = F_X9_turns np th ed hh w pf t; simp only [F_X9_turns, if_neg c_1, if_neg c_11, if_neg c_23, if_neg c_24, if_neg c_25, if_pos c_26, ← hw_22, ← hw_27]) [0, 1, 2] rfl rfl dX9_turns_169
          · skip
            refine lv_iconst (v := 0) hx hb dX9_turns_132 (by decide) ?_
            refine lv_goto (tgt := 145) hx hb dX9_turns_133 (by decide) ?_
            refine my_iast hx hb hK hP hD hS 1 0 rfl rfl 42 (rfl) (by decide) (by decide) dX9_turns_145 (fun H locs hP hD hS => ?_)
            have hP : va_P D vwCl [(h0, .inr (9, [.ref a0, .ref b0, .int np, .int th, .int (1 : Int32), .long hh])), (a0, .inl (cI, 129, .inl (upd (upd (upd (upd (upd (upd w 31 ((w 31) + (1 : Int32))) 28 ((w 28) + t)) 35 (0 : Int32)) 33 (w 0)) 34 t) 42 (0 : Int32)))), (b0, .inl (cI, 516, .inl pf))] H := hP
            have hD : va_D A [(h0, .inr (9, [.ref a0, .ref b0, .int np, .int th, .int (1 : Int32), .long hh])), (a0, .inl (cI, 129, .inl (upd (upd (upd (upd (upd (upd w 31 ((w 31) + (1 : Int32))) 28 ((w 28) + t)) 35 (0 : Int32)) 33 (w 0)) 34 t) 42 (0 : Int32)))), (b0, .inl (cI, 516, .inl pf))] := hD
            refine lv_aload_n hx hb dX9_turns_146 rfl (lv_at hl 0 rfl) ?_
            refine va_get (D := D) (ci := 9) (v := .ref a0) (C := RX9) (T := TX9) (N := 6) hx hb hts hiX9 hown hK hP 0 rfl rfl 0 (by decide) hk_7 (fun _ h9 => h9) rfl dX9_turns_147 ?_
            refine lv_bipush (v := 42) hx hb dX9_turns_150 (by decide) ?_
            refine my_iald hx hb hK hP 1 0 rfl rfl 42 (rfl) (by decide) (by decide) dX9_turns_152 ?_
            refine W.eq (g2 := F0 m 153 ls [.int (0 : Int32)]) rfl ?_
            refine lv_iconst (v := 3) hx hb dX9_turns_153 (by decide) ?_
            refine lv_icmp_ne (tgt := 169) hx hb dX9_turns_154 (by decide) (fun _ => ?_) (fun c9 => absurd c9 (by decide))
            exact my_vret hx hb hr hlocks hK hP hD hS ((1 : Int32), upd (upd (upd (upd (upd (upd w 31 ((w 31) + (1 : Int32))) 28 ((w 28) + t)) 35 (0 : Int32)) 33 (w 0)) 34 t) 42 (0 : Int32)) (by show ((1 : Int32), upd (upd (upd (upd (upd (upd w 31 ((w 31) + (1 : Int32))) 28 ((w 28) + t)) 35 (0 : Int32)) 33 (w 0)) 34 t) 42 (0 : Int32)) = F_X9_turns np th ed hh w pf t; simp only [F_X9_turns, if_neg c_1, if_neg c_11, if_neg c_23, if_neg c_24, if_pos c_25, ← hw_22]) [0, 1, 2] rfl rfl dX9_turns_169
        · skip
          refine lv_iconst (v := 1) hx hb dX9_turns_124 (by decide) ?_
          refine lv_goto (tgt := 129) hx hb dX9_turns_125 (by decide) ?_
          refine lv_icmp_ne (tgt := 136) hx hb dX9_turns_129 (by decide) (fun c_28 => ?_) (fun c_28 => ?_)
          · skip
            refine lv_aload_n hx hb dX9_turns_136 rfl (lv_at hl 0 rfl) ?_
            refine va_get (D := D) (ci := 9) (v := .ref a0) (C := RX9) (T := TX9) (N := 6) hx hb hts hiX9 hown hK hP 0 rfl rfl 0 (by decide) hk_7 (fun _ h9 => h9) rfl dX9_turns_137 ?_
            refine lv_bipush (v := 42) hx hb dX9_turns_140 (by decide) ?_
            refine my_iald hx hb hK hP 1 0 rfl rfl 42 (rfl) (by decide) (by decide) dX9_turns_142 ?_
            refine W.eq (g2 := F0 m 143 ls [.int (w 42), .int (42 : Int32), .ref a0]) rfl ?_
            refine lv_iconst (v := 1) hx hb dX9_turns_143 (by decide) ?_
            refine lv_iadd hx hb dX9_turns_144 ?_
            refine my_iast hx hb hK hP hD hS 1 0 rfl rfl 42 (rfl) (by decide) (by decide) dX9_turns_145 (fun H locs hP hD hS => ?_)
            have hP : va_P D vwCl [(h0, .inr (9, [.ref a0, .ref b0, .int np, .int th, .int (1 : Int32), .long hh])), (a0, .inl (cI, 129, .inl (upd (upd (upd (upd (upd (upd w 31 ((w 31) + (1 : Int32))) 28 ((w 28) + t)) 35 (0 : Int32)) 33 (w 0)) 34 t) 42 ((w 42) + (1 : Int32))))), (b0, .inl (cI, 516, .inl pf))] H := hP
            have hD : va_D A [(h0, .inr (9, [.ref a0, .ref b0, .int np, .int th, .int (1 : Int32), .long hh])), (a0, .inl (cI, 129, .inl (upd (upd (upd (upd (upd (upd w 31 ((w 31) + (1 : Int32))) 28 ((w 28) + t)) 35 (0 : Int32)) 33 (w 0)) 34 t) 42 ((w 42) + (1 : Int32))))), (b0, .inl (cI, 516, .inl pf))] := hD
            refine lv_aload_n hx hb dX9_turns_146 rfl (lv_at hl 0 rfl) ?_
            refine va_get (D := D) (ci := 9) (v := .ref a0) (C := RX9) (T := TX9) (N := 6) hx hb hts hiX9 hown hK hP 0 rfl rfl 0 (by decide) hk_7 (fun _ h9 => h9) rfl dX9_turns_147 ?_
            refine lv_bipush (v := 42) hx hb dX9_turns_150 (by decide) ?_
            refine my_iald hx hb hK hP 1 0 rfl rfl 42 (rfl) (by decide) (by decide) dX9_turns_152 ?_
            refine W.eq (g2 := F0 m 153 ls [.int ((w 42) + (1 : Int32))]) rfl ?_
            refine lv_iconst (v := 3) hx hb dX9_turns_153 (by decide) ?_
            refine lv_icmp_ne (tgt := 169) hx hb dX9_turns_154 (by decide) (fun c_29 => ?_) (fun c_29 => ?_)
            · skip
              exact my_vret hx hb hr hlocks hK hP hD hS ((1 : Int32), upd (upd (upd (upd (upd (upd w 31 ((w 31) + (1 : Int32))) 28 ((w 28) + t)) 35 (0 : Int32)) 33 (w 0)) 34 t) 42 ((w 42) + (1 : Int32))) (by show ((1 : Int32), upd (upd (upd (upd (upd (upd w 31 ((w 31) + (1 : Int32))) 28 ((w 28) + t)) 35 (0 : Int32)) 33 (w 0)) 34 t) 42 ((w 42) + (1 : Int32))) = F_X9_turns np th ed hh w pf t; simp only [F_X9_turns, if_neg c_1, if_neg c_11, if_neg c_23, if_pos c_24, if_neg c_28, if_neg c_29, ← hw_22]) [0, 1, 2] rfl rfl dX9_turns_169
            · skip
              refine lv_aload_n hx hb dX9_turns_157 rfl (lv_at hl 0 rfl) ?_
              refine lv_iconst (v := 2) hx hb dX9_turns_158 (by decide) ?_
              refine lv_aload_n hx hb dX9_turns_159 rfl (lv_at hl 0 rfl) ?_
              refine va_get (D := D) (ci := 9) (v := .ref a0) (C := RX9) (T := TX9) (N := 6) hx hb hts hiX9 hown hK hP 0 rfl rfl 0 (by decide) hk_7 (fun _ h9 => h9) rfl dX9_turns_160 ?_
              refine lv_bipush (v := 9) hx hb dX9_turns_163 (by decide) ?_
              refine my_iald hx hb hK hP 1 0 rfl rfl 9 (rfl) (by decide) (by decide) dX9_turns_165 ?_
              refine W.eq (g2 := F0 m 166 ls [.int (w 9), .int (2 : Int32), .ref h0]) rfl ?_
              refine my_callV_v (As := [.int (2 : Int32), .int (w 9)]) (rest := []) (wc := [(h0, .inr (9, [.ref a0, .ref b0, .int np, .int th, .int (1 : Int32), .long hh])), (a0, .inl (cI, 129, .inl (upd (upd (upd (upd (upd (upd w 31 ((w 31) + (1 : Int32))) 28 ((w 28) + t)) 35 (0 : Int32)) 33 (w 0)) 34 t) 42 ((w 42) + (1 : Int32))))), (b0, .inl (cI, 516, .inl pf))]) (wr := []) ⟨hx, hb, hml, hown, hts⟩ (met_X9_faults l D cI cJ cS h0 a0 b0 np th (1 : Int32) hh (upd (upd (upd (upd (upd (upd w 31 ((w 31) + (1 : Int32))) 28 ((w 28) + t)) 35 (0 : Int32)) 33 (w 0)) 34 t) 42 ((w 42) + (1 : Int32))) pf (2 : Int32) (w 9) _) (cwV 2 hts gX9_turns_X9_faults rfl rfl rfl (by decide +kernel) ⟨Nat.le_of_ble_eq_true rfl, Nat.le_of_ble_eq_true rfl⟩) hK hP hD hS hA hG [0, 1, 2] [] rfl rfl rfl rfl (by decide) 0 rfl rfl rfl hl.1 (Nat.le_of_ble_eq_true rfl) rfl dX9_turns_166 ⟨Nat.le_of_ble_eq_true rfl, Nat.le_of_ble_eq_true rfl⟩ (fun x_30_0 H locs hw_30 hP hD hS => ?_)
              have hP : va_P D vwCl [(h0, .inr (9, [.ref a0, .ref b0, .int np, .int th, .int (1 : Int32), .long hh])), (a0, .inl (cI, 129, .inl x_30_0)), (b0, .inl (cI, 516, .inl pf))] H := hP
              have hD : va_D A [(h0, .inr (9, [.ref a0, .ref b0, .int np, .int th, .int (1 : Int32), .long hh])), (a0, .inl (cI, 129, .inl x_30_0)), (b0, .inl (cI, 516, .inl pf))] := hD
              exact my_vret hx hb hr hlocks hK hP hD hS ((1 : Int32), x_30_0) (by show ((1 : Int32), x_30_0) = F_X9_turns np th ed hh w pf t; simp only [F_X9_turns, if_neg c_1, if_neg c_11, if_neg c_23, if_pos c_24, if_neg c_28, if_pos c_29, ← hw_22, ← hw_30]) [0, 1, 2] rfl rfl dX9_turns_169
          · skip
            refine lv_iconst (v := 0) hx hb dX9_turns_132 (by decide) ?_
            refine lv_goto (tgt := 145) hx hb dX9_turns_133 (by decide) ?_
            refine my_iast hx hb hK hP hD hS 1 0 rfl rfl 42 (rfl) (by decide) (by decide) dX9_turns_145 (fun H locs hP hD hS => ?_)
            have hP : va_P D vwCl [(h0, .inr (9, [.ref a0, .ref b0, .int np, .int th, .int (1 : Int32), .long hh])), (a0, .inl (cI, 129, .inl (upd (upd (upd (upd (upd (upd w 31 ((w 31) + (1 : Int32))) 28 ((w 28) + t)) 35 (0 : Int32)) 33 (w 0)) 34 t) 42 (0 : Int32)))), (b0, .inl (cI, 516, .inl pf))] H := hP
            have hD : va_D A [(h0, .inr (9, [.ref a0, .ref b0, .int np, .int th, .int (1 : Int32), .long hh])), (a0, .inl (cI, 129, .inl (upd (upd (upd (upd (upd (upd w 31 ((w 31) + (1 : Int32))) 28 ((w 28) + t)) 35 (0 : Int32)) 33 (w 0)) 34 t) 42 (0 : Int32)))), (b0, .inl (cI, 516, .inl pf))] := hD
            refine lv_aload_n hx hb dX9_turns_146 rfl (lv_at hl 0 rfl) ?_
            refine va_get (D := D) (ci := 9) (v := .ref a0) (C := RX9) (T := TX9) (N := 6) hx hb hts hiX9 hown hK hP 0 rfl rfl 0 (by decide) hk_7 (fun _ h9 => h9) rfl dX9_turns_147 ?_
            refine lv_bipush (v := 42) hx hb dX9_turns_150 (by decide) ?_
            refine my_iald hx hb hK hP 1 0 rfl rfl 42 (rfl) (by decide) (by decide) dX9_turns_152 ?_
            refine W.eq (g2 := F0 m 153 ls [.int (0 : Int32)]) rfl ?_
            refine lv_iconst (v := 3) hx hb dX9_turns_153 (by decide) ?_
            refine lv_icmp_ne (tgt := 169) hx hb dX9_turns_154 (by decide) (fun _ => ?_) (fun c9 => absurd c9 (by decide))
            exact my_vret hx hb hr hlocks hK hP hD hS ((1 : Int32), upd (upd (upd (upd (upd (upd w 31 ((w 31) + (1 : Int32))) 28 ((w 28) + t)) 35 (0 : Int32)) 33 (w 0)) 34 t) 42 (0 : Int32)) (by show ((1 : Int32), upd (upd (upd (upd (upd (upd w 31 ((w 31) + (1 : Int32))) 28 ((w 28) + t)) 35 (0 : Int32)) 33 (w 0)) 34 t) 42 (0 : Int32)) = F_X9_turns np th ed hh w pf t; simp only [F_X9_turns, if_neg c_1, if_neg c_11, if_neg c_23, if_pos c_24, if_pos c_28, ← hw_22]) [0, 1, 2] rfl rfl dX9_turns_169
def F_X9_accepts (np : Int32) (th : Int32) (ed : Int32) (hh : Int64) (w : Nat → Int32) (pf : Nat → Int32) : Int32 × (Nat → Int32) :=
  let q1 := F_X9_sectorOf (w 8)
  if q1 = (-1 : Int32) then
    let q10 := F_X9_forgetsEdges np th ed hh (upd (upd w 9 q1) 29 ((w 29) + (1 : Int32))) pf
    (ed, q10)
  else
    if w 9 = (-1 : Int32) then
      (ed, upd w 9 q1)
    else
      if ((q1 - (w 9)) + (6 : Int32)) - ((q1 - (w 9)) + (6 : Int32)) / (6 : Int32) * (6 : Int32) = (1 : Int32) then
        let q5 := F_X9_turns np th ed hh (upd w 9 q1) pf (1 : Int32)
        (q5.1, q5.2)
      else
        if ((q1 - (w 9)) + (6 : Int32)) - ((q1 - (w 9)) + (6 : Int32)) / (6 : Int32) * (6 : Int32) = (5 : Int32) then
          let q9 := F_X9_turns np th ed hh (upd w 9 q1) pf (-1 : Int32)
          (q9.1, q9.2)
        else
          if ((q1 - (w 9)) + (6 : Int32)) - ((q1 - (w 9)) + (6 : Int32)) / (6 : Int32) * (6 : Int32) = (0 : Int32) then
            (ed, upd w 9 q1)
          else
            let q8 := F_X9_forgetsEdges np th ed hh (upd (upd w 9 q1) 30 ((w 30) + (1 : Int32))) pf
            (ed, q8)
set_option maxHeartbeats 4000000 in
set_option maxRecDepth 100000 in
theorem met_X9_accepts (l : Launch) (D : va_G) (cI cJ cS : ClassId) (h0 : Nat) (a0 : Nat) (b0 : Nat) (np : Int32) (th : Int32) (ed : Int32) (hh : Int64) (w : Nat → Int32) (pf : Nat → Int32) (hz : vp_in (w 35) 7) : ∀ sz : Nat, Met l yX9_accepts wsX9_accepts ({ frames := 2, cells := 0, slots := 0, locals := 43 } : Room) (va_Pc [.ref h0] (cPre D (tyz cI cJ cS) ([(h0, .inr (9, [.ref a0, .ref b0, .int np, .int th, .int ed, .long hh])), (a0, .inl (cI, 129, .inl w)), (b0, .inl (cI, 516, .inl pf))]) sz)) (va_Qv (fun (u : Int32 × (Nat → Int32)) => u = F_X9_accepts np th ed hh w pf) (fun u => cPost D (tyz cI cJ cS) (va_A ([(h0, .inr (9, [.ref a0, .ref b0, .int np, .int th, .int ed, .long hh])), (a0, .inl (cI, 129, .inl w)), (b0, .inl (cI, 516, .inl pf))]) sz) ([(h0, .inr (9, [.ref a0, .ref b0, .int np, .int th, .int u.1, .long hh])), (a0, .inl (cI, 129, .inl u.2)), (b0, .inl (cI, 516, .inl pf))])) (va_A ([(h0, .inr (9, [.ref a0, .ref b0, .int np, .int th, .int ed, .long hh])), (a0, .inl (cI, 129, .inl w)), (b0, .inl (cI, 516, .inl pf))]) sz)) 0 0 (va_A ([(h0, .inr (9, [.ref a0, .ref b0, .int np, .int th, .int ed, .long hh])), (a0, .inl (cI, 129, .inl w)), (b0, .inl (cI, 516, .inl pf))]) sz) := by
  refine my_met (QC := fun A => (va_Qv (fun (u : Int32 × (Nat → Int32)) => u = F_X9_accepts np th ed hh w pf) (fun u => cPost D (tyz cI cJ cS) A ([(h0, .inr (9, [.ref a0, .ref b0, .int np, .int th, .int u.1, .long hh])), (a0, .inl (cI, 129, .inl u.2)), (b0, .inl (cI, 516, .inl pf))])) A)) (cc := cX9_accepts) (maxL := 4) (ret := none) (by decide) rfl (Nat.le_of_ble_eq_true rfl) ?_
  intro p e s m below meth c ls A hx hb hml hr hts hown hlocks hname hK hP hD hS hA hG hl
  have hown : s.vm.findClass RX9 = some m.cls := hown
  have hl : lv_has ls 4 [(0, .ref h0)] := hl
  have hP : va_P D vwCl [(h0, .inr (9, [.ref a0, .ref b0, .int np, .int th, .int ed, .long hh])), (a0, .inl (cI, 129, .inl w)), (b0, .inl (cI, 516, .inl pf))] s.heap := hP
  have hD : va_D A [(h0, .inr (9, [.ref a0, .ref b0, .int np, .int th, .int ed, .long hh])), (a0, .inl (cI, 129, .inl w)), (b0, .inl (cI, 516, .inl pf))] := hD
  have hiX9 : ∀ w ∈ u_ws RX9 TX9 6, w ∈ wsX9_accepts := by decide +kernel
  have hk_7 := hts (.fieldLink RX9 7 "HallCommutatorModel" "s" "[I") (by decide +kernel)
  refine lv_aload_n hx hb dX9_accepts_0 rfl (lv_at hl 0 rfl) ?_
  refine va_get (D := D) (ci := 9) (v := .ref a0) (C := RX9) (T := TX9) (N := 6) hx hb hts hiX9 hown hK hP 0 rfl rfl 0 (by decide) hk_7 (fun _ h9 => h9) rfl dX9_accepts_1 ?_
  refine lv_bipush (v := 8) hx hb dX9_accepts_4 (by decide) ?_
  refine my_iald hx hb hK hP 1 0 rfl rfl 8 (rfl) (by decide) (by decide) dX9_accepts_6 ?_
  refine my_callS_i (As := [.int (w 8)]) (rest := []) (wc := []) (wr := [(h0, .inr (9, [.ref a0, .ref b0, .int np, .int th, .int ed, .long hh])), (a0, .inl (cI, 129, .inl w)), (b0, .inl (cI, 516, .inl pf))]) ⟨hx, hb, hml, hown, hts⟩ (met_X9_sectorOf l D cI cJ cS (w 8) _) (va_cwS 1 hts gX9_accepts_X9_sectorOf rfl rfl rfl (by decide +kernel) ⟨Nat.le_of_ble_eq_true rfl, Nat.le_of_ble_eq_true rfl⟩) hK hP hD hS hA hG [] [0, 1, 2] rfl rfl rfl rfl (by decide) rfl hl.1 (Nat.le_of_ble_eq_true rfl) rfl dX9_accepts_7 ⟨Nat.le_of_ble_eq_true rfl, Nat.le_of_ble_eq_true rfl⟩ (fun r_1 _ H locs hw_1 hP hD hS => ?_)
  have hP : va_P D vwCl [(h0, .inr (9, [.ref a0, .ref b0, .int np, .int th, .int ed, .long hh])), (a0, .inl (cI, 129, .inl w)), (b0, .inl (cI, 516, .inl pf))] H := hP
  have hD : va_D A [(h0, .inr (9, [.ref a0, .ref b0, .int np, .int th, .int ed, .long hh])), (a0, .inl (cI, 129, .inl w)), (b0, .inl (cI, 516, .inl pf))] := hD
  refine lv_istore_n (lv' := [(1, .int r_1), (0, .ref h0)]) hx hb dX9_accepts_10 rfl hl (by decide) rfl (fun ls hl => ?_)
  refine lv_aload_n hx hb dX9_accepts_11 rfl (lv_at hl 1 rfl) ?_
  refine va_get (D := D) (ci := 9) (v := .ref a0) (C := RX9) (T := TX9) (N := 6) hx hb hts hiX9 hown hK hP 0 rfl rfl 0 (by decide) hk_7 (fun _ h9 => h9) rfl dX9_accepts_12 ?_
  refine lv_bipush (v := 9) hx hb dX9_accepts_15 (by decide) ?_
  refine my_iald hx hb hK hP 1 0 rfl rfl 9 (rfl) (by decide) (by decide) dX9_accepts_17 ?_
  refine lv_istore_n (lv' := [(2, .int (w 9)), (1, .int r_1), (0, .ref h0)]) hx hb dX9_accepts_18 rfl hl (by decide) rfl (fun ls hl => ?_)
  refine lv_aload_n hx hb dX9_accepts_19 rfl (lv_at hl 2 rfl) ?_
  refine va_get (D := D) (ci := 9) (v := .ref a0) (C := RX9) (T := TX9) (N := 6) hx hb hts hiX9 hown hK hP 0 rfl rfl 0 (by decide) hk_7 (fun _ h9 => h9) rfl dX9_accepts_20 ?_
  refine lv_bipush (v := 9) hx hb dX9_accepts_23 (by decide) ?_
  refine lv_iload_n hx hb dX9_accepts_25 rfl (lv_at hl 1 rfl) ?_
  refine my_iast hx hb hK hP hD hS 1 0 rfl rfl 9 (rfl) (by decide) (by decide) dX9_accepts_26 (fun H locs hP hD hS => ?_)
  have hP : va_P D vwCl [(h0, .inr (9, [.ref a0, .ref b0, .int np, .int th, .int ed, .long hh])), (a0, .inl (cI, 129, .inl (upd w 9 r_1))), (b0, .inl (cI, 516, .inl pf))] H := hP
  have hD : va_D A [(h0, .inr (9, [.ref a0, .ref b0, .int np, .int th, .int ed, .long hh])), (a0, .inl (cI, 129, .inl (upd w 9 r_1))), (b0, .inl (cI, 516, .inl pf))] := hD
  refine lv_iload_n hx hb dX9_accepts_27 rfl (lv_at hl 1 rfl) ?_
  refine lv_iconst (v := -1) hx hb dX9_accepts_28 (by decide) ?_
  refine lv_icmp_ne (tgt := 48) hx hb dX9_accepts_29 (by decide) (fun c_2 => ?_) (fun c_2 => ?_)
  · skip
    refine lv_iload_n hx hb dX9_accepts_48 rfl (lv_at hl 0 rfl) ?_
    refine lv_iconst (v := -1) hx hb dX9_accepts_49 (by decide) ?_
    refine lv_icmp_ne (tgt := 57) hx hb dX9_accepts_50 (by decide) (fun c_3 => ?_) (fun c_3 => ?_)
    · skip
      refine lv_iload_n hx hb dX9_accepts_57 rfl (lv_at hl 1 rfl) ?_
      refine lv_iload_n hx hb dX9_accepts_58 rfl (lv_at hl 0 rfl) ?_
      refine lv_isub hx hb dX9_accepts_59 ?_
      refine lv_bipush (v := 6) hx hb dX9_accepts_60 (by decide) ?_
      refine lv_iadd hx hb dX9_accepts_62 ?_
      refine lv_bipush (v := 6) hx hb dX9_accepts_63 (by decide) ?_
      refine lv_irem hx hb dX9_accepts_65 (by decide) ?_
      refine lv_istore_n (lv' := [(3, .int (((r_1 - (w 9)) + (6 : Int32)) - ((r_1 - (w 9)) + (6 : Int32)) / (6 : Int32) * (6 : Int32))), (2, .int (w 9)), (1, .int r_1), (0, .ref h0)]) hx hb dX9_accepts_66 rfl hl (by decide) rfl (fun ls hl => ?_)
      refine lv_iload_n hx hb dX9_accepts_67 rfl (lv_at hl 0 rfl) ?_
      refine lv_iconst (v := 1) hx hb dX9_accepts_68 (by decide) ?_
      refine lv_icmp_eq (tgt := 77) hx hb dX9_accepts_69 (by decide) (fun c_4 => ?_) (fun c_4 => ?_)
      · skip
        refine lv_aload_n hx hb dX9_accepts_77 rfl (lv_at hl 3 rfl) ?_
        refine lv_iload_n hx hb dX9_accepts_78 rfl (lv_at hl 0 rfl) ?_
        refine lv_iconst (v := 1) hx hb dX9_accepts_79 (by decide) ?_
        refine lv_icmp_ne (tgt := 87) hx hb dX9_accepts_80 (by decide) (fun c9 => absurd c_4 c9) (fun _ => ?_)
        refine lv_iconst (v := 1) hx hb dX9_accepts_83 (by decide) ?_
        refine lv_goto (tgt := 88) hx hb dX9_accepts_84 (by decide) ?_
        refine my_callV_v (As := [.int (1 : Int32)]) (rest := []) (wc := [(h0, .inr (9, [.ref a0, .ref b0, .int np, .int th, .int ed, .long hh])), (a0, .inl (cI, 129, .inl (upd w 9 r_1))), (b0, .inl (cI, 516, .inl pf))]) (wr := []) ⟨hx, hb, hml, hown, hts⟩ (met_X9_turns l D cI cJ cS h0 a0 b0 np th ed hh (upd w 9 r_1) pf (1 : Int32) (hz) _) (cwV 1 hts gX9_accepts_X9_turns rfl rfl rfl (by decide +kernel) ⟨Nat.le_of_ble_eq_true rfl, Nat.le_of_ble_eq_true rfl⟩) hK hP hD hS hA hG [0, 1, 2] [] rfl rfl rfl rfl (by decide) 0 rfl rfl rfl hl.1 (Nat.le_of_ble_eq_true rfl) rfl dX9_accepts_88 ⟨Nat.le_of_ble_eq_true rfl, Nat.le_of_ble_eq_true rfl⟩ (fun u_5 H locs hw_5 hP hD hS => ?_)
        obtain ⟨x_5_0, x_5_1⟩ := u_5
        have hP : va_P D vwCl [(h0, .inr (9, [.ref a0, .ref b0, .int np, .int th, .int x_5_0, .long hh])), (a0, .inl (cI, 129, .inl x_5_1)), (b0, .inl (cI, 516, .inl pf))] H := hP
        have hD : va_D A [(h0, .inr (9, [.ref a0, .ref b0, .int np, .int th, .int x_5_0, .long hh])), (a0, .inl (cI, 129, .inl x_5_1)), (b0, .inl (cI, 516, .inl pf))] := hD
        refine lv_goto (tgt := 113) hx hb dX9_accepts_91 (by decide) ?_
        exact my_vret hx hb hr hlocks hK hP hD hS (x_5_0, x_5_1) (by show (x_5_0, x_5_1) = F_X9_accepts np th ed hh w pf; simp only [F_X9_accepts, if_neg c_2, if_neg c_3, if_pos c_4, ← hw_1, ← hw_5]) [0, 1, 2] rfl rfl dX9_accepts_113
      · skip
        refine lv_iload_n hx hb dX9_accepts_72 rfl (lv_at hl 0 rfl) ?_
        refine lv_iconst (v := 5) hx hb dX9_accepts_73 (by decide) ?_
        refine lv_icmp_ne (tgt := 94) hx hb dX9_accepts_74 (by decide) (fun c_6 => ?_) (fun c_6 => ?_)
        · skip
          refine lv_iload_n hx hb dX9_accepts_94 rfl (lv_at hl 0 rfl) ?_
          refine lv_if_eq (tgt := 113) hx hb dX9_accepts_95 (by decide) (fun c_7 => ?_) (fun c_7 => ?_)
          · skip
            exact my_vret hx hb hr hlocks hK hP hD hS (ed, upd w 9 r_1) (by show (ed, upd w 9 r_1) = F_X9_accepts np th ed hh w pf; simp only [F_X9_accepts, if_neg c_2, if_neg c_3, if_neg c_4, if_neg c_6, if_pos c_7, ← hw_1]) [0, 1, 2] rfl rfl dX9_accepts_113
          · skip
            refine lv_aload_n hx hb dX9_accepts_98 rfl (lv_at hl 3 rfl) ?_
            refine va_get (D := D) (ci := 9) (v := .ref a0) (C := RX9) (T := TX9) (N := 6) hx hb hts hiX9 hown hK hP 0 rfl rfl 0 (by decide) hk_7 (fun _ h9 => h9) rfl dX9_accepts_99 ?_
            refine lv_bipush (v := 30) hx hb dX9_accepts_102 (by decide) ?_
            refine lv_dup2_11 hx hb dX9_accepts_104 rfl rfl ?_
            refine my_iald hx hb hK hP 1 0 rfl rfl 30 (rfl) (by decide) (by decide) dX9_accepts_105 ?_
            refine W.eq (g2 := F0 m 106 ls [.int (w 30), .int (30 : Int32), .ref a0]) rfl ?_
            refine lv_iconst (v := 1) hx hb dX9_accepts_106 (by decide) ?_
            refine lv_iadd hx hb dX9_accepts_107 ?_
            refine my_iast hx hb hK hP hD hS 1 0 rfl rfl 30 (rfl) (by decide) (by decide) dX9_accepts_108 (fun H locs hP hD hS => ?_)
            have hP : va_P D vwCl [(h0, .inr (9, [.ref a0, .ref b0, .int np, .int th, .int ed, .long hh])), (a0, .inl (cI, 129, .inl (upd (upd w 9 r_1) 30 ((w 30) + (1 : Int32))))), (b0, .inl (cI, 516, .inl pf))] H := hP
            have hD : va_D A [(h0, .inr (9, [.ref a0, .ref b0, .int np, .int th, .int ed, .long hh])), (a0, .inl (cI, 129, .inl (upd (upd w 9 r_1) 30 ((w 30) + (1 : Int32))))), (b0, .inl (cI, 516, .inl pf))] := hD
            refine lv_aload_n hx hb dX9_accepts_109 rfl (lv_at hl 3 rfl) ?_
            refine my_callV_v (As := []) (rest := []) (wc := [(h0, .inr (9, [.ref a0, .ref b0, .int np, .int th, .int ed, .long hh])), (a0, .inl (cI, 129, .inl (upd (upd w 9 r_1) 30 ((w 30) + (1 : Int32))))), (b0, .inl (cI, 516, .inl pf))]) (wr := []) ⟨hx, hb, hml, hown, hts⟩ (met_X9_forgetsEdges l D cI cJ cS h0 a0 b0 np th ed hh (upd (upd w 9 r_1) 30 ((w 30) + (1 : Int32))) pf _) (cwV 0 hts gX9_accepts_X9_forgetsEdges rfl rfl rfl (by decide +kernel) ⟨Nat.le_of_ble_eq_true rfl, Nat.le_of_ble_eq_true rfl⟩) hK hP hD hS hA hG [0, 1, 2] [] rfl rfl rfl rfl (by decide) 0 rfl rfl rfl hl.1 (Nat.le_of_ble_eq_true rfl) rfl dX9_accepts_110 ⟨Nat.le_of_ble_eq_true rfl, Nat.le_of_ble_eq_true rfl⟩ (fun x_8_0 H locs hw_8 hP hD hS => ?_)
            have hP : va_P D vwCl [(h0, .inr (9, [.ref a0, .ref b0, .int np, .int th, .int ed, .long hh])), (a0, .inl (cI, 129, .inl x_8_0)), (b0, .inl (cI, 516, .inl pf))] H := hP
            have hD : va_D A [(h0, .inr (9, [.ref a0, .ref b0, .int np, .int th, .int ed, .long hh])), (a0, .inl (cI, 129, .inl x_8_0)), (b0, .inl (cI, 516, .inl pf))] := hD
            exact my_vret hx hb hr hlocks hK hP hD hS (ed, x_8_0) (by show (ed, x_8_0) = F_X9_accepts np th ed hh w pf; simp only [F_X9_accepts, if_neg c_2, if_neg c_3, if_neg c_4, if_neg c_6, if_neg c_7, ← hw_1, ← hw_8]) [0, 1, 2] rfl rfl dX9_accepts_113
        · skip
          refine lv_aload_n hx hb dX9_accepts_77 rfl (lv_at hl 3 rfl) ?_
          refine lv_iload_n hx hb dX9_accepts_78 rfl (lv_at hl 0 rfl) ?_
          refine lv_iconst (v := 1) hx hb dX9_accepts_79 (by decide) ?_
          refine lv_icmp_ne (tgt := 87) hx hb dX9_accepts_80 (by decide) (fun _ => ?_) (fun c9 => absurd c9 c_4)
          refine lv_iconst (v := -1) hx hb dX9_accepts_87 (by decide) ?_
          refine my_callV_v (As := [.int (-1 : Int32)]) (rest := []) (wc := [(h0, .inr (9, [.ref a0, .ref b0, .int np, .int th, .int ed, .long hh])), (a0, .inl (cI, 129, .inl (upd w 9 r_1))), (b0, .inl (cI, 516, .inl pf))]) (wr := []) ⟨hx, hb, hml, hown, hts⟩ (met_X9_turns l D cI cJ cS h0 a0 b0 np th ed hh (upd w 9 r_1) pf (-1 : Int32) (hz) _) (cwV 1 hts gX9_accepts_X9_turns rfl rfl rfl (by decide +kernel) ⟨Nat.le_of_ble_eq_true rfl, Nat.le_of_ble_eq_true rfl⟩) hK hP hD hS hA hG [0, 1, 2] [] rfl rfl rfl rfl (by decide) 0 rfl rfl rfl hl.1 (Nat.le_of_ble_eq_true rfl) rfl dX9_accepts_88 ⟨Nat.le_of_ble_eq_true rfl, Nat.le_of_ble_eq_true rfl⟩ (fun u_9 H locs hw_9 hP hD hS => ?_)
          obtain ⟨x_9_0, x_9_1⟩ := u_9
          have hP : va_P D vwCl [(h0, .inr (9, [.ref a0, .ref b0, .int np, .int th, .int x_9_0, .long hh])), (a0, .inl (cI, 129, .inl x_9_1)), (b0, .inl (cI, 516, .inl pf))] H := hP
          have hD : va_D A [(h0, .inr (9, [.ref a0, .ref b0, .int np, .int th, .int x_9_0, .long hh])), (a0, .inl (cI, 129, .inl x_9_1)), (b0, .inl (cI, 516, .inl pf))] := hD
          refine lv_goto (tgt := 113) hx hb dX9_accepts_91 (by decide) ?_
          exact my_vret hx hb hr hlocks hK hP hD hS (x_9_0, x_9_1) (by show (x_9_0, x_9_1) = F_X9_accepts np th ed hh w pf; simp only [F_X9_accepts, if_neg c_2, if_neg c_3, if_neg c_4, if_pos c_6, ← hw_1, ← hw_9]) [0, 1, 2] rfl rfl dX9_accepts_113
    · skip
      refine lv_iconst (v := 0) hx hb dX9_accepts_53 (by decide) ?_
      refine lv_goto (tgt := 66) hx hb dX9_accepts_54 (by decide) ?_
      refine lv_istore_n (lv' := [(3, .int (0 : Int32)), (2, .int (w 9)), (1, .int r_1), (0, .ref h0)]) hx hb dX9_accepts_66 rfl hl (by decide) rfl (fun ls hl => ?_)
      refine lv_iload_n hx hb dX9_accepts_67 rfl (lv_at hl 0 rfl) ?_
      refine lv_iconst (v := 1) hx hb dX9_accepts_68 (by decide) ?_
      refine lv_icmp_eq (tgt := 77) hx hb dX9_accepts_69 (by decide) (fun c9 => absurd c9 (by decide)) (fun _ => ?_)
      refine lv_iload_n hx hb dX9_accepts_72 rfl (lv_at hl 0 rfl) ?_
      refine lv_iconst (v := 5) hx hb dX9_accepts_73 (by decide) ?_
      refine lv_icmp_ne (tgt := 94) hx hb dX9_accepts_74 (by decide) (fun _ => ?_) (fun c9 => absurd c9 (by decide))
      refine lv_iload_n hx hb dX9_accepts_94 rfl (lv_at hl 0 rfl) ?_
      refine lv_if_eq (tgt := 113) hx hb dX9_accepts_95 (by decide) (fun _ => ?_) (fun c9 => absurd (by decide) c9)
      exact my_vret hx hb hr hlocks hK hP hD hS (ed, upd w 9 r_1) (by show (ed, upd w 9 r_1) = F_X9_accepts np th ed hh w pf; simp only [F_X9_accepts, if_neg c_2, if_pos c_3, ← hw_1]) [0, 1, 2] rfl rfl dX9_accepts_113
  · skip
    refine lv_aload_n hx hb dX9_accepts_32 rfl (lv_at hl 2 rfl) ?_
    refine va_get (D := D) (ci := 9) (v := .ref a0) (C := RX9) (T := TX9) (N := 6) hx hb hts hiX9 hown hK hP 0 rfl rfl 0 (by decide) hk_7 (fun _ h9 => h9) rfl dX9_accepts_33 ?_
    refine lv_bipush (v := 29) hx hb dX9_accepts_36 (by decide) ?_
    refine lv_dup2_11 hx hb dX9_accepts_38 rfl rfl ?_
    refine my_iald hx hb hK hP 1 0 rfl rfl 29 (rfl) (by decide) (by decide) dX9_accepts_39 ?_
    refine W.eq (g2 := F0 m 40 ls [.int (w 29), .int (29 : Int32), .ref a0]) rfl ?_
    refine lv_iconst (v := 1) hx hb dX9_accepts_40 (by decide) ?_
    refine lv_iadd hx hb dX9_accepts_41 ?_
    refine my_iast hx hb hK hP hD hS 1 0 rfl rfl 29 (rfl) (by decide) (by decide) dX9_accepts_42 (fun H locs hP hD hS => ?_)
    have hP : va_P D vwCl [(h0, .inr (9, [.ref a0, .ref b0, .int np, .int th, .int ed, .long hh])), (a0, .inl (cI, 129, .inl (upd (upd w 9 r_1) 29 ((w 29) + (1 : Int32))))), (b0, .inl (cI, 516, .inl pf))] H := hP
    have hD : va_D A [(h0, .inr (9, [.ref a0, .ref b0, .int np, .int th, .int ed, .long hh])), (a0, .inl (cI, 129, .inl (upd (upd w 9 r_1) 29 ((w 29) + (1 : Int32))))), (b0, .inl (cI, 516, .inl pf))] := hD
    refine lv_aload_n hx hb dX9_accepts_43 rfl (lv_at hl 2 rfl) ?_
    refine my_callV_v (As := []) (rest := []) (wc := [(h0, .inr (9, [.ref a0, .ref b0, .int np, .int th, .int ed, .long hh])), (a0, .inl (cI, 129, .inl (upd (upd w 9 r_1) 29 ((w 29) + (1 : Int32))))), (b0, .inl (cI, 516, .inl pf))]) (wr := []) ⟨hx, hb, hml, hown, hts⟩ (met_X9_forgetsEdges l D cI cJ cS h0 a0 b0 np th ed hh (upd (upd w 9 r_1) 29 ((w 29) + (1 : Int32))) pf _) (cwV 0 hts gX9_accepts_X9_forgetsEdges rfl rfl rfl (by decide +kernel) ⟨Nat.le_of_ble_eq_true rfl, Nat.le_of_ble_eq_true rfl⟩) hK hP hD hS hA hG [0, 1, 2] [] rfl rfl rfl rfl (by decide) 0 rfl rfl rfl hl.1 (Nat.le_of_ble_eq_true rfl) rfl dX9_accepts_44 ⟨Nat.le_of_ble_eq_true rfl, Nat.le_of_ble_eq_true rfl⟩ (fun x_10_0 H locs hw_10 hP hD hS => ?_)
    have hP : va_P D vwCl [(h0, .inr (9, [.ref a0, .ref b0, .int np, .int th, .int ed, .long hh])), (a0, .inl (cI, 129, .inl x_10_0)), (b0, .inl (cI, 516, .inl pf))] H := hP
    have hD : va_D A [(h0, .inr (9, [.ref a0, .ref b0, .int np, .int th, .int ed, .long hh])), (a0, .inl (cI, 129, .inl x_10_0)), (b0, .inl (cI, 516, .inl pf))] := hD
    exact my_vret hx hb hr hlocks hK hP hD hS (ed, x_10_0) (by show (ed, x_10_0) = F_X9_accepts np th ed hh w pf; simp only [F_X9_accepts, if_pos c_2, ← hw_1, ← hw_10]) [0, 1, 2] rfl rfl dX9_accepts_47
def F_X9_watches (np : Int32) (th : Int32) (ed : Int32) (hh : Int64) (w : Nat → Int32) (pf : Nat → Int32) : (Nat → Int32) :=
  let q1 := F_X9_isDriven np th ed hh w pf
  if q1 = (0 : Int32) then
    (upd (upd w 43 (0 : Int32)) 44 (0 : Int32))
  else
    let q3 := F_X9_sectorOf (w 8)
    if q3 = (-1 : Int32) then
      if (w 43) + (1 : Int32) = (20 : Int32) then
        let q14 := F_X9_faults np th ed hh (upd w 43 ((w 43) + (1 : Int32))) pf (1 : Int32) (w 8)
        (q14)
      else
        (upd w 43 ((w 43) + (1 : Int32)))
    else
      if w 3 = (0 : Int32) then
        if (0 : Int32) < w 5 then
          (upd (upd w 43 (0 : Int32)) 44 (0 : Int32))
        else
          let q7 := F_X9_faults np th ed hh (upd (upd w 43 (0 : Int32)) 44 (0 : Int32)) pf (3 : Int32) (w 28)
          (q7)
      else
        if ed = (0 : Int32) then
          if (w 44) + (1 : Int32) < w 5 then
            (upd (upd w 43 (0 : Int32)) 44 ((w 44) + (1 : Int32)))
          else
            let q10 := F_X9_faults np th ed hh (upd (upd w 43 (0 : Int32)) 44 ((w 44) + (1 : Int32))) pf (3 : Int32) (w 28)
            (q10)
        else
          if (0 : Int32) < w 5 then
            (upd (upd w 43 (0 : Int32)) 44 (0 : Int32))
          else
            let q12 := F_X9_faults np th ed hh (upd (upd w 43 (0 : Int32)) 44 (0 : Int32)) pf (3 : Int32) (w 28)
            (q12)
set_option maxHeartbeats 4000000 in
set_option maxRecDepth 100000 in
theorem met_X9_watches (l : Launch) (D : va_G) (cI cJ cS : ClassId) (h0 : Nat) (a0 : Nat) (b0 : Nat) (np : Int32) (th : Int32) (ed : Int32) (hh : Int64) (w : Nat → Int32) (pf : Nat → Int32)  : ∀ sz : Nat, Met l yX9_watches wsX9_watches ({ frames := 1, cells := 0, slots := 0, locals := 22 } : Room) (va_Pc [.ref h0] (cPre D (tyz cI cJ cS) ([(h0, .inr (9, [.ref a0, .ref b0, .int np, .int th, .int ed, .long hh])), (a0, .inl (cI, 129, .inl w)), (b0, .inl (cI, 516, .inl pf))]) sz)) (va_Qv (fun (u : (Nat → Int32)) => u = F_X9_watches np th ed hh w pf) (fun u => cPost D (tyz cI cJ cS) (va_A ([(h0, .inr (9, [.ref a0, .ref b0, .int np, .int th, .int ed, .long hh])), (a0, .inl (cI, 129, .inl w)), (b0, .inl (cI, 516, .inl pf))]) sz) ([(h0, .inr (9, [.ref a0, .ref b0, .int np, .int th, .int ed, .long hh])), (a0, .inl (cI, 129, .inl u)), (b0, .inl (cI, 516, .inl pf))])) (va_A ([(h0, .inr (9, [.ref a0, .ref b0, .int np, .int th, .int ed, .long hh])), (a0, .inl (cI, 129, .inl w)), (b0, .inl (cI, 516, .inl pf))]) sz)) 0 0 (va_A ([(h0, .inr (9, [.ref a0, .ref b0, .int np, .int th, .int ed, .long hh])), (a0, .inl (cI, 129, .inl w)), (b0, .inl (cI, 516, .inl pf))]) sz) := by
  refine my_met (QC := fun A => (va_Qv (fun (u : (Nat → Int32)) => u = F_X9_watches np th ed hh w pf) (fun u => cPost D (tyz cI cJ cS) A ([(h0, .inr (9, [.ref a0, .ref b0, .int np, .int th, .int ed, .long hh])), (a0, .inl (cI, 129, .inl u)), (b0, .inl (cI, 516, .inl pf))])) A)) (cc := cX9_watches) (maxL := 1) (ret := none) (by decide) rfl (Nat.le_of_ble_eq_true rfl) ?_
  intro p e s m below meth c ls A hx hb hml hr hts hown hlocks hname hK hP hD hS hA hG hl
  have hown : s.vm.findClass RX9 = some m.cls := hown
  have hl : lv_has ls 1 [(0, .ref h0)] := hl
  have hP : va_P D vwCl [(h0, .inr (9, [.ref a0, .ref b0, .int np, .int th, .int ed, .long hh])), (a0, .inl (cI, 129, .inl w)), (b0, .inl (cI, 516, .inl pf))] s.heap := hP
  have hD : va_D A [(h0, .inr (9, [.ref a0, .ref b0, .int np, .int th, .int ed, .long hh])), (a0, .inl (cI, 129, .inl w)), (b0, .inl (cI, 516, .inl pf))] := hD
  have hiX9 : ∀ w ∈ u_ws RX9 TX9 6, w ∈ wsX9_watches := by decide +kernel
  have hk_56 := hts (.fieldLink RX9 56 "HallCommutatorModel" "isEdge" "Z") (by decide +kernel)
  have hk_7 := hts (.fieldLink RX9 7 "HallCommutatorModel" "s" "[I") (by decide +kernel)
  refine lv_aload_n hx hb dX9_watches_0 rfl (lv_at hl 0 rfl) ?_
  refine my_callV_i (As := []) (rest := []) (wc := [(h0, .inr (9, [.ref a0, .ref b0, .int np, .int th, .int ed, .long hh])), (a0, .inl (cI, 129, .inl w)), (b0, .inl (cI, 516, .inl pf))]) (wr := []) ⟨hx, hb, hml, hown, hts⟩ (met_X9_isDriven l D cI cJ cS h0 a0 b0 np th ed hh w pf _) (cwV 0 hts gX9_watches_X9_isDriven rfl rfl rfl (by decide +kernel) ⟨Nat.le_of_ble_eq_true rfl, Nat.le_of_ble_eq_true rfl⟩) hK hP hD hS hA hG [0, 1, 2] [] rfl rfl rfl rfl (by decide) 0 rfl rfl rfl hl.1 (Nat.le_of_ble_eq_true rfl) rfl dX9_watches_1 ⟨Nat.le_of_ble_eq_true rfl, Nat.le_of_ble_eq_true rfl⟩ (fun r_1 _ H locs hw_1 hP hD hS => ?_)
  have hP : va_P D vwCl [(h0, .inr (9, [.ref a0, .ref b0, .int np, .int th, .int ed, .long hh])), (a0, .inl (cI, 129, .inl w)), (b0, .inl (cI, 516, .inl pf))] H := hP
  have hD : va_D A [(h0, .inr (9, [.ref a0, .ref b0, .int np, .int th, .int ed, .long hh])), (a0, .inl (cI, 129, .inl w)), (b0, .inl (cI, 516, .inl pf))] := hD
  refine lv_if_ne (tgt := 26) hx hb dX9_watches_4 (by decide) (fun c_2 => ?_) (fun c_2 => ?_)
  · skip
    refine lv_aload_n hx hb dX9_watches_26 rfl (lv_at hl 0 rfl) ?_
    refine va_get (D := D) (ci := 9) (v := .ref a0) (C := RX9) (T := TX9) (N := 6) hx hb hts hiX9 hown hK hP 0 rfl rfl 0 (by decide) hk_7 (fun _ h9 => h9) rfl dX9_watches_27 ?_
    refine lv_bipush (v := 8) hx hb dX9_watches_30 (by decide) ?_
    refine my_iald hx hb hK hP 1 0 rfl rfl 8 (rfl) (by decide) (by decide) dX9_watches_32 ?_
    refine my_callS_i (As := [.int (w 8)]) (rest := []) (wc := []) (wr := [(h0, .inr (9, [.ref a0, .ref b0, .int np, .int th, .int ed, .long hh])), (a0, .inl (cI, 129, .inl w)), (b0, .inl (cI, 516, .inl pf))]) ⟨hx, hb, hml, hown, hts⟩ (met_X9_sectorOf l D cI cJ cS (w 8) _) (va_cwS 1 hts gX9_watches_X9_sectorOf rfl rfl rfl (by decide +kernel) ⟨Nat.le_of_ble_eq_true rfl, Nat.le_of_ble_eq_true rfl⟩) hK hP hD hS hA hG [] [0, 1, 2] rfl rfl rfl rfl (by decide) rfl hl.1 (Nat.le_of_ble_eq_true rfl) rfl dX9_watches_33 ⟨Nat.le_of_ble_eq_true rfl, Nat.le_of_ble_eq_true rfl⟩ (fun r_3 _ H locs hw_3 hP hD hS => ?_)
    have hP : va_P D vwCl [(h0, .inr (9, [.ref a0, .ref b0, .int np, .int th, .int ed, .long hh])), (a0, .inl (cI, 129, .inl w)), (b0, .inl (cI, 516, .inl pf))] H := hP
    have hD : va_D A [(h0, .inr (9, [.ref a0, .ref b0, .int np, .int th, .int ed, .long hh])), (a0, .inl (cI, 129, .inl w)), (b0, .inl (cI, 516, .inl pf))] := hD
    refine lv_iconst (v := -1) hx hb dX9_watches_36 (by decide) ?_
    refine lv_icmp_ne (tgt := 78) hx hb dX9_watches_37 (by decide) (fun c_4 => ?_) (fun c_4 => ?_)
    · skip
      refine lv_aload_n hx hb dX9_watches_78 rfl (lv_at hl 0 rfl) ?_
      refine va_get (D := D) (ci := 9) (v := .ref a0) (C := RX9) (T := TX9) (N := 6) hx hb hts hiX9 hown hK hP 0 rfl rfl 0 (by decide) hk_7 (fun _ h9 => h9) rfl dX9_watches_79 ?_
      refine lv_bipush (v := 43) hx hb dX9_watches_82 (by decide) ?_
      refine lv_iconst (v := 0) hx hb dX9_watches_84 (by decide) ?_
      refine my_iast hx hb hK hP hD hS 1 0 rfl rfl 43 (rfl) (by decide) (by decide) dX9_watches_85 (fun H locs hP hD hS => ?_)
      have hP : va_P D vwCl [(h0, .inr (9, [.ref a0, .ref b0, .int np, .int th, .int ed, .long hh])), (a0, .inl (cI, 129, .inl (upd w 43 (0 : Int32)))), (b0, .inl (cI, 516, .inl pf))] H := hP
      have hD : va_D A [(h0, .inr (9, [.ref a0, .ref b0, .int np, .int th, .int ed, .long hh])), (a0, .inl (cI, 129, .inl (upd w 43 (0 : Int32)))), (b0, .inl (cI, 516, .inl pf))] := hD
      refine lv_aload_n hx hb dX9_watches_86 rfl (lv_at hl 0 rfl) ?_
      refine va_get (D := D) (ci := 9) (v := .ref a0) (C := RX9) (T := TX9) (N := 6) hx hb hts hiX9 hown hK hP 0 rfl rfl 0 (by decide) hk_7 (fun _ h9 => h9) rfl dX9_watches_87 ?_
      refine lv_bipush (v := 44) hx hb dX9_watches_90 (by decide) ?_
      refine lv_aload_n hx hb dX9_watches_92 rfl (lv_at hl 0 rfl) ?_
      refine va_get (D := D) (ci := 9) (v := .ref a0) (C := RX9) (T := TX9) (N := 6) hx hb hts hiX9 hown hK hP 0 rfl rfl 0 (by decide) hk_7 (fun _ h9 => h9) rfl dX9_watches_93 ?_
      refine lv_iconst (v := 3) hx hb dX9_watches_96 (by decide) ?_
      refine my_iald hx hb hK hP 1 0 rfl rfl 3 (rfl) (by decide) (by decide) dX9_watches_97 ?_
      refine W.eq (g2 := F0 m 98 ls [.int (w 3), .int (44 : Int32), .ref a0]) rfl ?_
      refine lv_if_eq (tgt := 108) hx hb dX9_watches_98 (by decide) (fun c_5 => ?_) (fun c_5 => ?_)
      · skip
        refine lv_iconst (v := 0) hx hb dX9_watches_108 (by decide) ?_
        refine lv_goto (tgt := 121) hx hb dX9_watches_109 (by decide) ?_
        refine my_iast hx hb hK hP hD hS 1 0 rfl rfl 44 (rfl) (by decide) (by decide) dX9_watches_121 (fun H locs hP hD hS => ?_)
        have hP : va_P D vwCl [(h0, .inr (9, [.ref a0, .ref b0, .int np, .int th, .int ed, .long hh])), (a0, .inl (cI, 129, .inl (upd (upd w 43 (0 : Int32)) 44 (0 : Int32)))), (b0, .inl (cI, 516, .inl pf))] H := hP
        have hD : va_D A [(h0, .inr (9, [.ref a0, .ref b0, .int np, .int th, .int ed, .long hh])), (a0, .inl (cI, 129, .inl (upd (upd w 43 (0 : Int32)) 44 (0 : Int32)))), (b0, .inl (cI, 516, .inl pf))] := hD
        refine lv_aload_n hx hb dX9_watches_122 rfl (lv_at hl 0 rfl) ?_
        refine va_get (D := D) (ci := 9) (v := .ref a0) (C := RX9) (T := TX9) (N := 6) hx hb hts hiX9 hown hK hP 0 rfl rfl 0 (by decide) hk_7 (fun _ h9 => h9) rfl dX9_watches_123 ?_
        refine lv_bipush (v := 44) hx hb dX9_watches_126 (by decide) ?_
        refine my_iald hx hb hK hP 1 0 rfl rfl 44 (rfl) (by decide) (by decide) dX9_watches_128 ?_
        refine W.eq (g2 := F0 m 129 ls [.int (0 : Int32)]) rfl ?_
        refine lv_aload_n hx hb dX9_watches_129 rfl (lv_at hl 0 rfl) ?_
        refine va_get (D := D) (ci := 9) (v := .ref a0) (C := RX9) (T := TX9) (N := 6) hx hb hts hiX9 hown hK hP 0 rfl rfl 0 (by decide) hk_7 (fun _ h9 => h9) rfl dX9_watches_130 ?_
        refine lv_iconst (v := 5) hx hb dX9_watches_133 (by decide) ?_
        refine my_iald hx hb hK hP 1 0 rfl rfl 5 (rfl) (by decide) (by decide) dX9_watches_134 ?_
        refine W.eq (g2 := F0 m 135 ls [.int (w 5), .int (0 : Int32)]) rfl ?_
        refine lv_icmp_lt (tgt := 150) hx hb dX9_watches_135 (by decide) (fun c_6 => ?_) (fun c_6 => ?_)
        · skip
          exact my_vret hx hb hr hlocks hK hP hD hS (upd (upd w 43 (0 : Int32)) 44 (0 : Int32)) (by show (upd (upd w 43 (0 : Int32)) 44 (0 : Int32)) = F_X9_watches np th ed hh w pf; simp only [F_X9_watches, if_neg c_2, if_neg c_4, if_pos c_5, if_pos c_6, ← hw_1, ← hw_3]) [0, 1, 2] rfl rfl dX9_watches_150
        · skip
          refine lv_aload_n hx hb dX9_watches_138 rfl (lv_at hl 0 rfl) ?_
          refine lv_iconst (v := 3) hx hb dX9_watches_139 (by decide) ?_
          refine lv_aload_n hx hb dX9_watches_140 rfl (lv_at hl 0 rfl) ?_
          refine va_get (D := D) (ci := 9) (v := .ref a0) (C := RX9) (T := TX9) (N := 6) hx hb hts hiX9 hown hK hP 0 rfl rfl 0 (by decide) hk_7 (fun _ h9 => h9) rfl dX9_watches_141 ?_
          refine lv_bipush (v := 28) hx hb dX9_watches_144 (by decide) ?_
          refine my_iald hx hb hK hP 1 0 rfl rfl 28 (rfl) (by decide) (by decide) dX9_watches_146 ?_
          refine W.eq (g2 := F0 m 147 ls [.int (w 28), .int (3 : Int32), .ref h0]) rfl ?_
          refine my_callV_v (As := [.int (3 : Int32), .int (w 28)]) (rest := []) (wc := [(h0, .inr (9, [.ref a0, .ref b0, .int np, .int th, .int ed, .long hh])), (a0, .inl (cI, 129, .inl (upd (upd w 43 (0 : Int32)) 44 (0 : Int32)))), (b0, .inl (cI, 516, .inl pf))]) (wr := []) ⟨hx, hb, hml, hown, hts⟩ (met_X9_faults l D cI cJ cS h0 a0 b0 np th ed hh (upd (upd w 43 (0 : Int32)) 44 (0 : Int32)) pf (3 : Int32) (w 28) _) (cwV 2 hts gX9_watches_X9_faults rfl rfl rfl (by decide +kernel) ⟨Nat.le_of_ble_eq_true rfl, Nat.le_of_ble_eq_true rfl⟩) hK hP hD hS hA hG [0, 1, 2] [] rfl rfl rfl rfl (by decide) 0 rfl rfl rfl hl.1 (Nat.le_of_ble_eq_true rfl) rfl dX9_watches_147 ⟨Nat.le_of_ble_eq_true rfl, Nat.le_of_ble_eq_true rfl⟩ (fun x_7_0 H locs hw_7 hP hD hS => ?_)
          have hP : va_P D vwCl [(h0, .inr (9, [.ref a0, .ref b0, .int np, .int th, .int ed, .long hh])), (a0, .inl (cI, 129, .inl x_7_0)), (b0, .inl (cI, 516, .inl pf))] H := hP
          have hD : va_D A [(h0, .inr (9, [.ref a0, .ref b0, .int np, .int th, .int ed, .long hh])), (a0, .inl (cI, 129, .inl x_7_0)), (b0, .inl (cI, 516, .inl pf))] := hD
          exact my_vret hx hb hr hlocks hK hP hD hS (x_7_0) (by show (x_7_0) = F_X9_watches np th ed hh w pf; simp only [F_X9_watches, if_neg c_2, if_neg c_4, if_pos c_5, if_neg c_6, ← hw_1, ← hw_3, ← hw_7]) [0, 1, 2] rfl rfl dX9_watches_150
      · skip
        refine lv_aload_n hx hb dX9_watches_101 rfl (lv_at hl 0 rfl) ?_
        refine va_get (D := D) (ci := 9) (v := .int ed) (C := RX9) (T := TX9) (N := 6) hx hb hts hiX9 hown hK hP 0 rfl rfl 4 (by decide) hk_56 (fun _ h9 => h9) rfl dX9_watches_102 ?_
        refine lv_if_eq (tgt := 112) hx hb dX9_watches_105 (by decide) (fun c_8 => ?_) (fun c_8 => ?_)
        · skip
          refine lv_aload_n hx hb dX9_watches_112 rfl (lv_at hl 0 rfl) ?_
          refine va_get (D := D) (ci := 9) (v := .ref a0) (C := RX9) (T := TX9) (N := 6) hx hb hts hiX9 hown hK hP 0 rfl rfl 0 (by decide) hk_7 (fun _ h9 => h9) rfl dX9_watches_113 ?_
          refine lv_bipush (v := 44) hx hb dX9_watches_116 (by decide) ?_
          refine my_iald hx hb hK hP 1 0 rfl rfl 44 (rfl) (by decide) (by decide) dX9_watches_118 ?_
          refine W.eq (g2 := F0 m 119 ls [.int (w 44), .int (44 : Int32), .ref a0]) rfl ?_
          refine lv_iconst (v := 1) hx hb dX9_watches_119 (by decide) ?_
          refine lv_iadd hx hb dX9_watches_120 ?_
          refine my_iast hx hb hK hP hD hS 1 0 rfl rfl 44 (rfl) (by decide) (by decide) dX9_watches_121 (fun H locs hP hD hS => ?_)
          have hP : va_P D vwCl [(h0, .inr (9, [.ref a0, .ref b0, .int np, .int th, .int ed, .long hh])), (a0, .inl (cI, 129, .inl (upd (upd w 43 (0 : Int32)) 44 ((w 44) + (1 : Int32))))), (b0, .inl (cI, 516, .inl pf))] H := hP
          have hD : va_D A [(h0, .inr (9, [.ref a0, .ref b0, .int np, .int th, .int ed, .long hh])), (a0, .inl (cI, 129, .inl (upd (upd w 43 (0 : Int32)) 44 ((w 44) + (1 : Int32))))), (b0, .inl (cI, 516, .inl pf))] := hD
          refine lv_aload_n hx hb dX9_watches_122 rfl (lv_at hl 0 rfl) ?_
          refine va_get (D := D) (ci := 9) (v := .ref a0) (C := RX9) (T := TX9) (N := 6) hx hb hts hiX9 hown hK hP 0 rfl rfl 0 (by decide) hk_7 (fun _ h9 => h9) rfl dX9_watches_123 ?_
          refine lv_bipush (v := 44) hx hb dX9_watches_126 (by decide) ?_
          refine my_iald hx hb hK hP 1 0 rfl rfl 44 (rfl) (by decide) (by decide) dX9_watches_128 ?_
          refine W.eq (g2 := F0 m 129 ls [.int ((w 44) + (1 : Int32))]) rfl ?_
          refine lv_aload_n hx hb dX9_watches_129 rfl (lv_at hl 0 rfl) ?_
          refine va_get (D := D) (ci := 9) (v := .ref a0) (C := RX9) (T := TX9) (N := 6) hx hb hts hiX9 hown hK hP 0 rfl rfl 0 (by decide) hk_7 (fun _ h9 => h9) rfl dX9_watches_130 ?_
          refine lv_iconst (v := 5) hx hb dX9_watches_133 (by decide) ?_
          refine my_iald hx hb hK hP 1 0 rfl rfl 5 (rfl) (by decide) (by decide) dX9_watches_134 ?_
          refine W.eq (g2 := F0 m 135 ls [.int (w 5), .int ((w 44) + (1 : Int32))]) rfl ?_
          refine lv_icmp_lt (tgt := 150) hx hb dX9_watches_135 (by decide) (fun c_9 => ?_) (fun c_9 => ?_)
          · skip
            exact my_vret hx hb hr hlocks hK hP hD hS (upd (upd w 43 (0 : Int32)) 44 ((w 44) + (1 : Int32))) (by show (upd (upd w 43 (0 : Int32)) 44 ((w 44) + (1 : Int32))) = F_X9_watches np th ed hh w pf; simp only [F_X9_watches, if_neg c_2, if_neg c_4, if_neg c_5, if_pos c_8, if_pos c_9, ← hw_1, ← hw_3]) [0, 1, 2] rfl rfl dX9_watches_150
          · skip
            refine lv_aload_n hx hb dX9_watches_138 rfl (lv_at hl 0 rfl) ?_
            refine lv_iconst (v := 3) hx hb dX9_watches_139 (by decide) ?_
            refine lv_aload_n hx hb dX9_watches_140 rfl (lv_at hl 0 rfl) ?_
            refine va_get (D := D) (ci := 9) (v := .ref a0) (C := RX9) (T := TX9) (N := 6) hx hb hts hiX9 hown hK hP 0 rfl rfl 0 (by decide) hk_7 (fun _ h9 => h9) rfl dX9_watches_141 ?_
            refine lv_bipush (v := 28) hx hb dX9_watches_144 (by decide) ?_
            refine my_iald hx hb hK hP 1 0 rfl rfl 28 (rfl) (by decide) (by decide) dX9_watches_146 ?_
            refine W.eq (g2 := F0 m 147 ls [.int (w 28), .int (3 : Int32), .ref h0]) rfl ?_
            refine my_callV_v (As := [.int (3 : Int32), .int (w 28)]) (rest := []) (wc := [(h0, .inr (9, [.ref a0, .ref b0, .int np, .int th, .int ed, .long hh])), (a0, .inl (cI, 129, .inl (upd (upd w 43 (0 : Int32)) 44 ((w 44) + (1 : Int32))))), (b0, .inl (cI, 516, .inl pf))]) (wr := []) ⟨hx, hb, hml, hown, hts⟩ (met_X9_faults l D cI cJ cS h0 a0 b0 np th ed hh (upd (upd w 43 (0 : Int32)) 44 ((w 44) + (1 : Int32))) pf (3 : Int32) (w 28) _) (cwV 2 hts gX9_watches_X9_faults rfl rfl rfl (by decide +kernel) ⟨Nat.le_of_ble_eq_true rfl, Nat.le_of_ble_eq_true rfl⟩) hK hP hD hS hA hG [0, 1, 2] [] rfl rfl rfl rfl (by decide) 0 rfl rfl rfl hl.1 (Nat.le_of_ble_eq_true rfl) rfl dX9_watches_147 ⟨Nat.le_of_ble_eq_true rfl, Nat.le_of_ble_eq_true rfl⟩ (fun x_10_0 H locs hw_10 hP hD hS => ?_)
            have hP : va_P D vwCl [(h0, .inr (9, [.ref a0, .ref b0, .int np, .int th, .int ed, .long hh])), (a0, .inl (cI, 129, .inl x_10_0)), (b0, .inl (cI, 516, .inl pf))] H := hP
            have hD : va_D A [(h0, .inr (9, [.ref a0, .ref b0, .int np, .int th, .int ed, .long hh])), (a0, .inl (cI, 129, .inl x_10_0)), (b0, .inl (cI, 516, .inl pf))] := hD
            exact my_vret hx hb hr hlocks hK hP hD hS (x_10_0) (by show (x_10_0) = F_X9_watches np th ed hh w pf; simp only [F_X9_watches, if_neg c_2, if_neg c_4, if_neg c_5, if_pos c_8, if_neg c_9, ← hw_1, ← hw_3, ← hw_10]) [0, 1, 2] rfl rfl dX9_watches_150
        · skip
          refine lv_iconst (v := 0) hx hb dX9_watches_108 (by decide) ?_
          refine lv_goto (tgt := 121) hx hb dX9_watches_109 (by decide) ?_
          refine my_iast hx hb hK hP hD hS 1 0 rfl rfl 44 (rfl) (by decide) (by decide) dX9_watches_121 (fun H locs hP hD hS => ?_)
          have hP : va_P D vwCl [(h0, .inr (9, [.ref a0, .ref b0, .int np, .int th, .int ed, .long hh])), (a0, .inl (cI, 129, .inl (upd (upd w 43 (0 : Int32)) 44 (0 : Int32)))), (b0, .inl (cI, 516, .inl pf))] H := hP
          have hD : va_D A [(h0, .inr (9, [.ref a0, .ref b0, .int np, .int th, .int ed, .long hh])), (a0, .inl (cI, 129, .inl (upd (upd w 43 (0 : Int32)) 44 (0 : Int32)))), (b0, .inl (cI, 516, .inl pf))] := hD
          refine lv_aload_n hx hb dX9_watches_122 rfl (lv_at hl 0 rfl) ?_
          refine va_get (D := D) (ci := 9) (v := .ref a0) (C := RX9) (T := TX9) (N := 6) hx hb hts hiX9 hown hK hP 0 rfl rfl 0 (by decide) hk_7 (fun _ h9 => h9) rfl dX9_watches_123 ?_
          refine lv_bipush (v := 44) hx hb dX9_watches_126 (by decide) ?_
          refine my_iald hx hb hK hP 1 0 rfl rfl 44 (rfl) (by decide) (by decide) dX9_watches_128 ?_
          refine W.eq (g2 := F0 m 129 ls [.int (0 : Int32)]) rfl ?_
          refine lv_aload_n hx hb dX9_watches_129 rfl (lv_at hl 0 rfl) ?_
          refine va_get (D := D) (ci := 9) (v := .ref a0) (C := RX9) (T := TX9) (N := 6) hx hb hts hiX9 hown hK hP 0 rfl rfl 0 (by decide) hk_7 (fun _ h9 => h9) rfl dX9_watches_130 ?_
          refine lv_iconst (v := 5) hx hb dX9_watches_133 (by decide) ?_
          refine my_iald hx hb hK hP 1 0 rfl rfl 5 (rfl) (by decide) (by decide) dX9_watches_134 ?_
          refine W.eq (g2 := F0 m 135 ls [.int (w 5), .int (0 : Int32)]) rfl ?_
          refine lv_icmp_lt (tgt := 150) hx hb dX9_watches_135 (by decide) (fun c_11 => ?_) (fun c_11 => ?_)
          · skip
            exact my_vret hx hb hr hlocks hK hP hD hS (upd (upd w 43 (0 : Int32)) 44 (0 : Int32)) (by show (upd (upd w 43 (0 : Int32)) 44 (0 : Int32)) = F_X9_watches np th ed hh w pf; simp only [F_X9_watches, if_neg c_2, if_neg c_4, if_neg c_5, if_neg c_8, if_pos c_11, ← hw_1, ← hw_3]) [0, 1, 2] rfl rfl dX9_watches_150
          · skip
            refine lv_aload_n hx hb dX9_watches_138 rfl (lv_at hl 0 rfl) ?_
            refine lv_iconst (v := 3) hx hb dX9_watches_139 (by decide) ?_
            refine lv_aload_n hx hb dX9_watches_140 rfl (lv_at hl 0 rfl) ?_
            refine va_get (D := D) (ci := 9) (v := .ref a0) (C := RX9) (T := TX9) (N := 6) hx hb hts hiX9 hown hK hP 0 rfl rfl 0 (by decide) hk_7 (fun _ h9 => h9) rfl dX9_watches_141 ?_
            refine lv_bipush (v := 28) hx hb dX9_watches_144 (by decide) ?_
            refine my_iald hx hb hK hP 1 0 rfl rfl 28 (rfl) (by decide) (by decide) dX9_watches_146 ?_
            refine W.eq (g2 := F0 m 147 ls [.int (w 28), .int (3 : Int32), .ref h0]) rfl ?_
            refine my_callV_v (As := [.int (3 : Int32), .int (w 28)]) (rest := []) (wc := [(h0, .inr (9, [.ref a0, .ref b0, .int np, .int th, .int ed, .long hh])), (a0, .inl (cI, 129, .inl (upd (upd w 43 (0 : Int32)) 44 (0 : Int32)))), (b0, .inl (cI, 516, .inl pf))]) (wr := []) ⟨hx, hb, hml, hown, hts⟩ (met_X9_faults l D cI cJ cS h0 a0 b0 np th ed hh (upd (upd w 43 (0 : Int32)) 44 (0 : Int32)) pf (3 : Int32) (w 28) _) (cwV 2 hts gX9_watches_X9_faults rfl rfl rfl (by decide +kernel) ⟨Nat.le_of_ble_eq_true rfl, Nat.le_of_ble_eq_true rfl⟩) hK hP hD hS hA hG [0, 1, 2] [] rfl rfl rfl rfl (by decide) 0 rfl rfl rfl hl.1 (Nat.le_of_ble_eq_true rfl) rfl dX9_watches_147 ⟨Nat.le_of_ble_eq_true rfl, Nat.le_of_ble_eq_true rfl⟩ (fun x_12_0 H locs hw_12 hP hD hS => ?_)
            have hP : va_P D vwCl [(h0, .inr (9, [.ref a0, .ref b0, .int np, .int th, .int ed, .long hh])), (a0, .inl (cI, 129, .inl x_12_0)), (b0, .inl (cI, 516, .inl pf))] H := hP
            have hD : va_D A [(h0, .inr (9, [.ref a0, .ref b0, .int np, .int th, .int ed, .long hh])), (a0, .inl (cI, 129, .inl x_12_0)), (b0, .inl (cI, 516, .inl pf))] := hD
            exact my_vret hx hb hr hlocks hK hP hD hS (x_12_0) (by show (x_12_0) = F_X9_watches np th ed hh w pf; simp only [F_X9_watches, if_neg c_2, if_neg c_4, if_neg c_5, if_neg c_8, if_neg c_11, ← hw_1, ← hw_3, ← hw_12]) [0, 1, 2] rfl rfl dX9_watches_150
    · skip
      refine lv_aload_n hx hb dX9_watches_40 rfl (lv_at hl 0 rfl) ?_
      refine va_get (D := D) (ci := 9) (v := .ref a0) (C := RX9) (T := TX9) (N := 6) hx hb hts hiX9 hown hK hP 0 rfl rfl 0 (by decide) hk_7 (fun _ h9 => h9) rfl dX9_watches_41 ?_
      refine lv_bipush (v := 43) hx hb dX9_watches_44 (by decide) ?_
      refine lv_dup2_11 hx hb dX9_watches_46 rfl rfl ?_
      refine my_iald hx hb hK hP 1 0 rfl rfl 43 (rfl) (by decide) (by decide) dX9_watches_47 ?_
      refine lv_iconst (v := 1) hx hb dX9_watches_48 (by decide) ?_
      refine lv_iadd hx hb dX9_watches_49 ?_
      refine my_iast hx hb hK hP hD hS 1 0 rfl rfl 43 (rfl) (by decide) (by decide) dX9_watches_50 (fun H locs hP hD hS => ?_)
      have hP : va_P D vwCl [(h0, .inr (9, [.ref a0, .ref b0, .int np, .int th, .int ed, .long hh])), (a0, .inl (cI, 129, .inl (upd w 43 ((w 43) + (1 : Int32))))), (b0, .inl (cI, 516, .inl pf))] H := hP
      have hD : va_D A [(h0, .inr (9, [.ref a0, .ref b0, .int np, .int th, .int ed, .long hh])), (a0, .inl (cI, 129, .inl (upd w 43 ((w 43) + (1 : Int32))))), (b0, .inl (cI, 516, .inl pf))] := hD
      refine lv_aload_n hx hb dX9_watches_51 rfl (lv_at hl 0 rfl) ?_
      refine va_get (D := D) (ci := 9) (v := .ref a0) (C := RX9) (T := TX9) (N := 6) hx hb hts hiX9 hown hK hP 0 rfl rfl 0 (by decide) hk_7 (fun _ h9 => h9) rfl dX9_watches_52 ?_
      refine lv_bipush (v := 43) hx hb dX9_watches_55 (by decide) ?_
      refine my_iald hx hb hK hP 1 0 rfl rfl 43 (rfl) (by decide) (by decide) dX9_watches_57 ?_
      refine W.eq (g2 := F0 m 58 ls [.int ((w 43) + (1 : Int32))]) rfl ?_
      refine lv_bipush (v := 20) hx hb dX9_watches_58 (by decide) ?_
      refine lv_icmp_ne (tgt := 150) hx hb dX9_watches_60 (by decide) (fun c_13 => ?_) (fun c_13 => ?_)
      · skip
        exact my_vret hx hb hr hlocks hK hP hD hS (upd w 43 ((w 43) + (1 : Int32))) (by show (upd w 43 ((w 43) + (1 : Int32))) = F_X9_watches np th ed hh w pf; simp only [F_X9_watches, if_neg c_2, if_pos c_4, if_neg c_13, ← hw_1, ← hw_3]) [0, 1, 2] rfl rfl dX9_watches_150
      · skip
        refine lv_aload_n hx hb dX9_watches_63 rfl (lv_at hl 0 rfl) ?_
        refine lv_iconst (v := 1) hx hb dX9_watches_64 (by decide) ?_
        refine lv_aload_n hx hb dX9_watches_65 rfl (lv_at hl 0 rfl) ?_
        refine va_get (D := D) (ci := 9) (v := .ref a0) (C := RX9) (T := TX9) (N := 6) hx hb hts hiX9 hown hK hP 0 rfl rfl 0 (by decide) hk_7 (fun _ h9 => h9) rfl dX9_watches_66 ?_
        refine lv_bipush (v := 8) hx hb dX9_watches_69 (by decide) ?_
        refine my_iald hx hb hK hP 1 0 rfl rfl 8 (rfl) (by decide) (by decide) dX9_watches_71 ?_
        refine W.eq (g2 := F0 m 72 ls [.int (w 8), .int (1 : Int32), .ref h0]) rfl ?_
        refine my_callV_v (As := [.int (1 : Int32), .int (w 8)]) (rest := []) (wc := [(h0, .inr (9, [.ref a0, .ref b0, .int np, .int th, .int ed, .long hh])), (a0, .inl (cI, 129, .inl (upd w 43 ((w 43) + (1 : Int32))))), (b0, .inl (cI, 516, .inl pf))]) (wr := []) ⟨hx, hb, hml, hown, hts⟩ (met_X9_faults l D cI cJ cS h0 a0 b0 np th ed hh (upd w 43 ((w 43) + (1 : Int32))) pf (1 : Int32) (w 8) _) (cwV 2 hts gX9_watches_X9_faults rfl rfl rfl (by decide +kernel) ⟨Nat.le_of_ble_eq_true rfl, Nat.le_of_ble_eq_true rfl⟩) hK hP hD hS hA hG [0, 1, 2] [] rfl rfl rfl rfl (by decide) 0 rfl rfl rfl hl.1 (Nat.le_of_ble_eq_true rfl) rfl dX9_watches_72 ⟨Nat.le_of_ble_eq_true rfl, Nat.le_of_ble_eq_true rfl⟩ (fun x_14_0 H locs hw_14 hP hD hS => ?_)
        have hP : va_P D vwCl [(h0, .inr (9, [.ref a0, .ref b0, .int np, .int th, .int ed, .long hh])), (a0, .inl (cI, 129, .inl x_14_0)), (b0, .inl (cI, 516, .inl pf))] H := hP
        have hD : va_D A [(h0, .inr (9, [.ref a0, .ref b0, .int np, .int th, .int ed, .long hh])), (a0, .inl (cI, 129, .inl x_14_0)), (b0, .inl (cI, 516, .inl pf))] := hD
        refine lv_goto (tgt := 150) hx hb dX9_watches_75 (by decide) ?_
        exact my_vret hx hb hr hlocks hK hP hD hS (x_14_0) (by show (x_14_0) = F_X9_watches np th ed hh w pf; simp only [F_X9_watches, if_neg c_2, if_pos c_4, if_pos c_13, ← hw_1, ← hw_3, ← hw_14]) [0, 1, 2] rfl rfl dX9_watches_150
  · skip
    refine lv_aload_n hx hb dX9_watches_7 rfl (lv_at hl 0 rfl) ?_
    refine va_get (D := D) (ci := 9) (v := .ref a0) (C := RX9) (T := TX9) (N := 6) hx hb hts hiX9 hown hK hP 0 rfl rfl 0 (by decide) hk_7 (fun _ h9 => h9) rfl dX9_watches_8 ?_
    refine lv_bipush (v := 43) hx hb dX9_watches_11 (by decide) ?_
    refine lv_iconst (v := 0) hx hb dX9_watches_13 (by decide) ?_
    refine my_iast hx hb hK hP hD hS 1 0 rfl rfl 43 (rfl) (by decide) (by decide) dX9_watches_14 (fun H locs hP hD hS => ?_)
    have hP : va_P D vwCl [(h0, .inr (9, [.ref a0, .ref b0, .int np, .int th, .int ed, .long hh])), (a0, .inl (cI, 129, .inl (upd w 43 (0 : Int32)))), (b0, .inl (cI, 516, .inl pf))] H := hP
    have hD : va_D A [(h0, .inr (9, [.ref a0, .ref b0, .int np, .int th, .int ed, .long hh])), (a0, .inl (cI, 129, .inl (upd w 43 (0 : Int32)))), (b0, .inl (cI, 516, .inl pf))] := hD
    refine lv_aload_n hx hb dX9_watches_15 rfl (lv_at hl 0 rfl) ?_
    refine va_get (D := D) (ci := 9) (v := .ref a0) (C := RX9) (T := TX9) (N := 6) hx hb hts hiX9 hown hK hP 0 rfl rfl 0 (by decide) hk_7 (fun _ h9 => h9) rfl dX9_watches_16 ?_
    refine lv_bipush (v := 44) hx hb dX9_watches_19 (by decide) ?_
    refine lv_iconst (v := 0) hx hb dX9_watches_21 (by decide) ?_
    refine my_iast hx hb hK hP hD hS 1 0 rfl rfl 44 (rfl) (by decide) (by decide) dX9_watches_22 (fun H locs hP hD hS => ?_)
    have hP : va_P D vwCl [(h0, .inr (9, [.ref a0, .ref b0, .int np, .int th, .int ed, .long hh])), (a0, .inl (cI, 129, .inl (upd (upd w 43 (0 : Int32)) 44 (0 : Int32)))), (b0, .inl (cI, 516, .inl pf))] H := hP
    have hD : va_D A [(h0, .inr (9, [.ref a0, .ref b0, .int np, .int th, .int ed, .long hh])), (a0, .inl (cI, 129, .inl (upd (upd w 43 (0 : Int32)) 44 (0 : Int32)))), (b0, .inl (cI, 516, .inl pf))] := hD
    refine lv_goto (tgt := 150) hx hb dX9_watches_23 (by decide) ?_
    exact my_vret hx hb hr hlocks hK hP hD hS (upd (upd w 43 (0 : Int32)) 44 (0 : Int32)) (by show (upd (upd w 43 (0 : Int32)) 44 (0 : Int32)) = F_X9_watches np th ed hh w pf; simp only [F_X9_watches, if_pos c_2, ← hw_1]) [0, 1, 2] rfl rfl dX9_watches_150
