/-! the law's loop -/
set_option maxHeartbeats 4000000 in
set_option maxRecDepth 100000 in
theorem law_loop {p : Program} {l : Launch} {e : Env} {s : State} {m : MethodId} {below : List Frame} {meth : Method} {c : Code} {D : va_G} {cI cJ cS : ClassId} {b L : Nat} {xs : Nat → Int32} (X : LX p s m c D cI cJ cS b L xs) (hlt : l.stackTraces = false) (hr : meth.sig.returnType = ret) (hlocks : meth.locks = false) (hL : L ≤ 2048) {h9 a9 b9 o0 h0 hH hs : Nat} {g : Nat → Nat} :
    ∀ (n j : Nat), 4 * j ≤ L → L < 4 * j + 4 * n → ∀ (v : Nat → Int32) (a : Nat → Nat → Int32) (cn : Nat) (gs : Nat → Nat → Nat) (vs : Nat → Nat → Int32) (bs : Nat → Nat → Nat → Int32) (f : Nat → Int64) (np th ed : Int32) (hh : Int64) (w pf : Nat → Int32), LI j v a cn vs bs w pf np → ∀ (H : Heap) (locs : List Loc) (ls : Array Slot), va_P D vwCl (lwM h9 a9 b9 np th ed hh w pf cI ++ oxw o0 f cJ h0 hH hs cn gs vs bs g v a cI cS) H → va_D (lwA s) (lwM h9 a9 b9 np th ed hh w pf cI ++ oxw o0 f cJ h0 hH hs cn gs vs bs g v a cI cS) → va_S (lwA s) s.heap H locs → lv_has ls 9 [(0, .ref b), (1, .ref h0), (2, .ref h9), (3, .ref o0), (4, .int (nI (4 * j)))] → W p l e room_1 s m #[Value.ref b] below meth c H locs (82 + j) (1376 + 6 * j) (lw_Z below #[Value.ref b] s) (F0 m 23 ls []) := by
  intro n
  induction n with
  | zero => intro j h1 h2; omega
  | succ n ih =>
    intro j h1 h2 v a cn gs vs bs f np th ed hh w pf hI H locs ls hP hD hS hl
    obtain ⟨hx, hb, hml, hown, hts, hX, hbl, hK, hG, hN⟩ := id X
    have hbA : ¬ (lwA s) b := Nat.not_le.mpr hbl
    refine lv_iload hx hb dL_law_23 (lv_at hl 4 rfl) ?_
    refine lv_aload_n hx hb dL_law_25 rfl (lv_at hl 0 rfl) ?_
    refine va_slen hx hb hX hbl hbA hS dL_law_26 ?_
    refine lv_iconst (v := 4) hx hb dL_law_27 (by decide) ?_
    refine lv_isub hx hb dL_law_28 ?_
    have eL : (Int32.ofNat L - 4).toInt = (L : Int) - 4 := by
      have e1 : (Int32.ofNat L).toInt = (L : Int) := nI_toInt (n := L) (by omega)
      have e4 : (4 : Int32).toInt = 4 := rfl
      rw [fb_subI (by omega) (by omega), e1, e4]
    have eJ : (nI (4 * j)).toInt = ((4 * j : Nat) : Int) := nI_toInt (by omega)
    refine lv_icmp_gt (tgt := 1184) hx hb dL_law_29 (by decide) (fun q => ?_) (fun q => ?_)
    · refine lv_iconst (v := 1) hx hb dL_law_1184 (by decide) ?_
      refine va_forget (fun q hq => hS.2.2 q hq) ?_
      refine W.widen (k := 1115) (n := 9621) (by omega) (by omega) ?_
      exact lw_ret (Drawn.sameBut.refl s.drawn lw_cs) hx hb hr hlocks dL_law_1185
    · rw [Int32.lt_iff_toInt_lt, eL, eJ] at q
      have hj : 4 * j + 4 ≤ L := by omega
      have kk : ∀ (v : Nat → Int32) (a : Nat → Nat → Int32) (cn : Nat) (gs : Nat → Nat → Nat) (vs : Nat → Nat → Int32) (bs : Nat → Nat → Nat → Int32) (f : Nat → Int64) (np th ed : Int32) (hh : Int64) (w pf : Nat → Int32), LI (j + 1) v a cn vs bs w pf np → ∀ (H : Heap) (locs : List Loc) (ls : Array Slot), va_P D vwCl (lwM h9 a9 b9 np th ed hh w pf cI ++ oxw o0 f cJ h0 hH hs cn gs vs bs g v a cI cS) H → va_D (lwA s) (lwM h9 a9 b9 np th ed hh w pf cI ++ oxw o0 f cJ h0 hH hs cn gs vs bs g v a cI cS) → va_S (lwA s) s.heap H locs → lv_has ls 9 [(0, .ref b), (1, .ref h0), (2, .ref h9), (3, .ref o0), (4, .int (nI (4 * j)))] → W p l e room_1 s m #[Value.ref b] below meth c H locs (82 + j + 1) (1376 + 6 * j + 6) (lw_Z below #[Value.ref b] s) (F0 m 1178 ls []) := by
        intro v a cn gs vs bs f np th ed hh w pf hI H locs ls hP hD hS hl
        refine lv_iinc (v := nI (4 * (j + 1))) (lv' := [(4, .int (nI (4 * (j + 1)))), (0, .ref b), (1, .ref h0), (2, .ref h9), (3, .ref o0)]) hx hb dL_law_1178 hl (k := 4) rfl (by show nI (4 * j) + nI 4 = nI (4 * (j + 1)); rw [nI_add]; rfl) (by decide) rfl (fun ls hl => ?_)
        refine lv_goto (tgt := 23) hx hb dL_law_1181 (by decide) ?_
        refine W.widen (k := 82 + (j + 1)) (n := 1376 + 6 * (j + 1)) (by omega) (by omega) ?_
        exact ih (j + 1) (by omega) (by omega) v a cn gs vs bs f np th ed hh w pf hI H locs ls hP hD hS (lv_sub hl [1, 2, 3, 4, 0] rfl)
      have hc : 82 + j + 1 ≤ 1115 := by omega
      have hsl : 1376 + 6 * j + 6 ≤ 9621 := by omega
      refine lv_aload_n hx hb dL_law_32 rfl (lv_at hl 0 rfl) ?_
      refine lv_iload hx hb dL_law_33 (lv_at hl 4 rfl) ?_
      refine va_sld hx hb hX hbl hbA hS (vp_in_nI (by omega) (by omega)) dL_law_35 ?_
      refine lv_bipush (v := 31) hx hb dL_law_36 (by decide) ?_
      refine lv_iand hx hb dL_law_38 ?_
      refine lv_topi (fun x ex => ?_)
      by_cases q0 : x = 0
      · rw [q0]
        refine lv_tableIn (off := 97) (tgt := 136) hx hb dL_law_39 (by decide) (by decide) rfl (by decide) ?_
        exact law_setFilter X hlt hL hj hI hc hsl hP hD hS hl kk
      by_cases q1 : x = 1
      · rw [q1]
        refine lv_tableIn (off := 153) (tgt := 192) hx hb dL_law_39 (by decide) (by decide) rfl (by decide) ?_
        exact law_setPulse X hlt hL hj hI hc hsl hP hD hS hl kk
      by_cases q2 : x = 2
      · rw [q2]
        refine lv_tableIn (off := 221) (tgt := 260) hx hb dL_law_39 (by decide) (by decide) rfl (by decide) ?_
        exact law_setDeadTime X hlt hL hj hI hc hsl hP hD hS hl kk
      by_cases q3 : x = 3
      · rw [q3]
        refine lv_tableIn (off := 277) (tgt := 316) hx hb dL_law_39 (by decide) (by decide) rfl (by decide) ?_
        exact law_setStall X hlt hL hj hI hc hsl hP hD hS hl kk
      by_cases q4 : x = 4
      · rw [q4]
        refine lv_tableIn (off := 333) (tgt := 372) hx hb dL_law_39 (by decide) (by decide) rfl (by decide) ?_
        exact law_setMode X hlt hL hj hI hc hsl hP hD hS hl kk
      by_cases q5 : x = 5
      · rw [q5]
        refine lv_tableIn (off := 389) (tgt := 428) hx hb dL_law_39 (by decide) (by decide) rfl (by decide) ?_
        exact law_clearFault X hlt hL hj hI hc hsl hP hD hS hl kk
      by_cases q6 : x = 6
      · rw [q6]
        refine lv_tableIn (off := 433) (tgt := 472) hx hb dL_law_39 (by decide) (by decide) rfl (by decide) ?_
        exact law_schedule X hlt hL hj hI hc hsl hP hD hS hl kk
      by_cases q7 : x = 7
      · rw [q7]
        refine lv_tableIn (off := 501) (tgt := 540) hx hb dL_law_39 (by decide) (by decide) rfl (by decide) ?_
        exact law_spin X hlt hL hj hI hc hsl hP hD hS hl kk
      by_cases q8 : x = 8
      · rw [q8]
        refine lv_tableIn (off := 581) (tgt := 620) hx hb dL_law_39 (by decide) (by decide) rfl (by decide) ?_
        exact law_run X hlt hL hj hI hc hsl hP hD hS hl kk
      by_cases q9 : x = 9
      · rw [q9]
        refine lv_tableIn (off := 637) (tgt := 676) hx hb dL_law_39 (by decide) (by decide) rfl (by decide) ?_
        exact law_sensors X hlt hL hj hI hc hsl hP hD hS hl kk
      by_cases q10 : x = 10
      · rw [q10]
        refine lv_tableIn (off := 693) (tgt := 732) hx hb dL_law_39 (by decide) (by decide) rfl (by decide) ?_
        exact law_mode X hlt hL hj hI hc hsl hP hD hS hl kk
      by_cases q11 : x = 11
      · rw [q11]
        refine lv_tableIn (off := 706) (tgt := 745) hx hb dL_law_39 (by decide) (by decide) rfl (by decide) ?_
        exact law_leg X hlt hL hj hI hc hsl hP hD hS hl kk
      by_cases q12 : x = 12
      · rw [q12]
        refine lv_tableIn (off := 762) (tgt := 801) hx hb dL_law_39 (by decide) (by decide) rfl (by decide) ?_
        exact law_onTicks X hlt hL hj hI hc hsl hP hD hS hl kk
      by_cases q13 : x = 13
      · rw [q13]
        refine lv_tableIn (off := 846) (tgt := 885) hx hb dL_law_39 (by decide) (by decide) rfl (by decide) ?_
        exact law_position X hlt hL hj hI hc hsl hP hD hS hl kk
      by_cases q14 : x = 14
      · rw [q14]
        refine lv_tableIn (off := 859) (tgt := 898) hx hb dL_law_39 (by decide) (by decide) rfl (by decide) ?_
        exact law_counts X hlt hL hj hI hc hsl hP hD hS hl kk
      by_cases q15 : x = 15
      · rw [q15]
        refine lv_tableIn (off := 915) (tgt := 954) hx hb dL_law_39 (by decide) (by decide) rfl (by decide) ?_
        exact law_interval X hlt hL hj hI hc hsl hP hD hS hl kk
      by_cases q16 : x = 16
      · rw [q16]
        refine lv_tableIn (off := 971) (tgt := 1010) hx hb dL_law_39 (by decide) (by decide) rfl (by decide) ?_
        exact law_speed X hlt hL hj hI hc hsl hP hD hS hl kk
      by_cases q17 : x = 17
      · rw [q17]
        refine lv_tableIn (off := 1012) (tgt := 1051) hx hb dL_law_39 (by decide) (by decide) rfl (by decide) ?_
        exact law_fault X hlt hL hj hI hc hsl hP hD hS hl kk
      by_cases q18 : x = 18
      · rw [q18]
        refine lv_tableIn (off := 1068) (tgt := 1107) hx hb dL_law_39 (by decide) (by decide) rfl (by decide) ?_
        exact law_waiting X hlt hL hj hI hc hsl hP hD hS hl kk
      by_cases q19 : x = 19
      · rw [q19]
        refine lv_tableIn (off := 1081) (tgt := 1120) hx hb dL_law_39 (by decide) (by decide) rfl (by decide) ?_
        rcases cn with _ | c0
        · exact law_undo0 X hlt hL hj hI hc hsl hP hD hS hl kk
        · exact law_undos X hlt hL hj hI hc hsl hP hD hS hl kk
      by_cases q20 : x = 20
      · rw [q20]
        refine lv_tableIn (off := 1125) (tgt := 1164) hx hb dL_law_39 (by decide) (by decide) rfl (by decide) ?_
        exact law_digest X hlt hL hj hI hc hsl hP hD hS hl kk
      refine lv_tableOut (tgt := 1178) hx hb dL_law_39 (sw_out_0_20 q0 q1 q2 q3 q4 q5 q6 q7 q8 q9 q10 q11 q12 q13 q14 q15 q16 q17 q18 q19 q20) (by decide) ?_
      refine W.widen (k := 82 + j + 1) (n := 1376 + 6 * j + 6) (by omega) (by omega) ?_
      exact kk v a cn gs vs bs f np th ed hh w pf hI.up H locs ls hP hD hS hl
