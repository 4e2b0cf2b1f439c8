/-! the law: the other cases -/
section LawCases2
variable {p : Program} {l : Launch} {e : Env} {s : State} {m : MethodId} {below : List Frame} {meth : Method} {c : Code} {Q : State → Prop} {D : va_G} {cI cJ cS : ClassId} {b L : Nat} {xs : Nat → Int32}
variable {H : Heap} {locs : List Loc} {cells slots : Nat} {ls : Array Slot} {rest : List Value}
set_option maxHeartbeats 4000000 in
set_option maxRecDepth 100000 in
theorem law_sensors (X : LX p s m c D cI cJ cS b L xs) (hlt : l.stackTraces = false) (hL : L ≤ 2048) {j : Nat} (hj : 4 * j + 4 ≤ L) {h9 a9 b9 : Nat} {np th ed : Int32} {hh : Int64} {w pf : Nat → Int32} {o0 : Nat} {f : Nat → Int64} {h0 hH hs cn : Nat} {gs : Nat → Nat → Nat} {vs : Nat → Nat → Int32} {bs : Nat → Nat → Nat → Int32} {g : Nat → Nat} {v : Nat → Int32} {a : Nat → Nat → Int32} (hI : LI j v a cn vs bs w pf np) (hc : cells + 1 ≤ 1115) (hsl : slots + 6 ≤ 9621) (hP : va_P D vwCl (lwM h9 a9 b9 np th ed hh w pf cI ++ oxw o0 f cJ h0 hH hs cn gs vs bs g v a cI cS) H) (hD : va_D (lwA s) (lwM h9 a9 b9 np th ed hh w pf cI ++ oxw o0 f cJ h0 hH hs cn gs vs bs g v a cI cS)) (hS : va_S (lwA s) s.heap H locs) (hl : lv_has ls 9 [(0, .ref b), (1, .ref h0), (2, .ref h9), (3, .ref o0), (4, .int (nI (4 * j)))])
    (kk : ∀ (v : Nat → Int32) (a : Nat → Nat → Int32) (cn : Nat) (gs : Nat → Nat → Nat) (vs : Nat → Nat → Int32) (bs : Nat → Nat → Nat → Int32) (f : Nat → Int64) (np th ed : Int32) (hh : Int64) (w pf : Nat → Int32), LI (j + 1) v a cn vs bs w pf np → ∀ (H : Heap) (locs : List Loc) (ls : Array Slot), va_P D vwCl (lwM h9 a9 b9 np th ed hh w pf cI ++ oxw o0 f cJ h0 hH hs cn gs vs bs g v a cI cS) H → va_D (lwA s) (lwM h9 a9 b9 np th ed hh w pf cI ++ oxw o0 f cJ h0 hH hs cn gs vs bs g v a cI cS) → va_S (lwA s) s.heap H locs → lv_has ls 9 [(0, .ref b), (1, .ref h0), (2, .ref h9), (3, .ref o0), (4, .int (nI (4 * j)))] → W p l e room_1 s m #[Value.ref b] below meth c H locs (cells + 1) (slots + 6) Q (F0 m 1178 ls [])) : W p l e room_1 s m #[Value.ref b] below meth c H locs cells slots Q (F0 m 676 ls []) := by
  obtain ⟨hx, hb, hml, hown, hts, hX, hbl, hK, hG, hN⟩ := id X
  refine lv_aload_n hx hb dL_law_676 rfl (lv_at hl 1 rfl) ?_
  refine law_arg X hS (q := 1) (j := j) (by omega) hL (lv_at hl 0 rfl) (lv_at hl 4 rfl) dL_law_677 dL_law_678 dL_law_680 rfl dL_law_681 dL_law_682 ?_
  refine lv_aload_n hx hb dL_law_683 rfl (lv_at hl 3 rfl) ?_
  refine my_callW_i (As := [.ref h0, .int (xs (4 * j + 1)), .ref o0]) (rest := []) (wc := oxw o0 f cJ h0 hH hs cn gs vs bs g v a cI cS) (wr := lwM h9 a9 b9 np th ed hh w pf cI) ⟨hx, hb, hml, hown, hts⟩ (met_L_sensors l hlt D cI cJ cS h0 hH hs g v a cn gs vs bs (xs (4 * j + 1)) o0 f _) (vx_cwSW 3 hts gL_law_L_sensors rfl rfl rfl (by decide +kernel) ⟨Nat.le_of_ble_eq_true rfl, Nat.le_of_ble_eq_true rfl⟩) hN hK hP hD hS (fun _ h => h) hG rfl hl.1 (Nat.le_of_ble_eq_true rfl) rfl dL_law_684 ⟨hc, hsl⟩ (fun k u H locs hw hP hD hS => ?_)
  refine lv_istore (lv' := [(5, .int k), (0, .ref b), (1, .ref h0), (2, .ref h9), (3, .ref o0), (4, .int (nI (4 * j)))]) hx hb dL_law_687 hl (by decide) rfl (fun ls hl => ?_)
  refine lv_aload_n hx hb dL_law_689 rfl (lv_at hl 3 rfl) ?_
  refine law_arg X hS (q := 1) (j := j) (by omega) hL (lv_at hl 1 rfl) (lv_at hl 5 rfl) dL_law_690 dL_law_691 dL_law_693 rfl dL_law_694 dL_law_695 ?_
  refine my_callV_i (As := [.int (xs (4 * j + 1))]) (rest := []) (wc := lwM h9 a9 b9 np th ed hh w pf cI) (wr := oxw o0 u cJ h0 hH hs cn gs vs bs g v a cI cS) ⟨hx, hb, hml, hown, hts⟩ (met_X9_sensors l D cI cJ cS h9 a9 b9 np th ed hh w pf (xs (4 * j + 1))  _) (cwV 1 hts gL_law_X9_sensors rfl rfl rfl (by decide +kernel) ⟨Nat.le_of_ble_eq_true rfl, Nat.le_of_ble_eq_true rfl⟩) hK hP.swp hD.swp hS (fun _ h => h) hG _ _ (sp_C _ _) (sp_R _ _) (sp_nC _ _) (sp_nR _) (sp_dis _ _) 0 rfl rfl rfl hl.1 (Nat.le_of_ble_eq_true rfl) rfl dL_law_696 ⟨hc, hsl⟩ (fun r u9 H locs hw9 hP hD hS => ?_)
  refine lv_istore (lv' := [(6, .int r), (5, .int k), (0, .ref b), (1, .ref h0), (2, .ref h9), (3, .ref o0), (4, .int (nI (4 * j)))]) hx hb dL_law_699 hl (by decide) rfl (fun ls hl => ?_)
  have hO := qk_sensors (th := th) (ed := ed) (hh := hh) hI (xs (4 * j + 1))
  rw [← hw9] at hO
  obtain ⟨hth, hO0⟩ := hO
  obtain ⟨hk, hw0⟩ := hw
  refine law_tail X (T := 701) hc hsl (by decide) dL_law_701 dL_law_702 dL_law_705 dL_law_707 dL_law_712 dL_law_714 dL_law_717 dL_law_718 dL_law_719 dL_law_720 dL_law_722 dL_law_723 dL_law_724 dL_law_729 (hth.trans hk.symm) (fun q => ?_) hP.swp hD.swp hS hl (fun H locs hP hD hS => ?_)
  · have e := hw0 q
    subst e
    have e2 := hO0 (hk.symm.trans q)
    dsimp only at e2
    rw [e2]
    rfl
  · exact kk v a cn gs vs bs u np u9 ed hh w pf hI.up H locs ls hP hD hS (lv_sub hl [2, 3, 4, 5, 6] rfl)
set_option maxHeartbeats 4000000 in
set_option maxRecDepth 100000 in
theorem law_leg (X : LX p s m c D cI cJ cS b L xs) (hlt : l.stackTraces = false) (hL : L ≤ 2048) {j : Nat} (hj : 4 * j + 4 ≤ L) {h9 a9 b9 : Nat} {np th ed : Int32} {hh : Int64} {w pf : Nat → Int32} {o0 : Nat} {f : Nat → Int64} {h0 hH hs cn : Nat} {gs : Nat → Nat → Nat} {vs : Nat → Nat → Int32} {bs : Nat → Nat → Nat → Int32} {g : Nat → Nat} {v : Nat → Int32} {a : Nat → Nat → Int32} (hI : LI j v a cn vs bs w pf np) (hc : cells + 1 ≤ 1115) (hsl : slots + 6 ≤ 9621) (hP : va_P D vwCl (lwM h9 a9 b9 np th ed hh w pf cI ++ oxw o0 f cJ h0 hH hs cn gs vs bs g v a cI cS) H) (hD : va_D (lwA s) (lwM h9 a9 b9 np th ed hh w pf cI ++ oxw o0 f cJ h0 hH hs cn gs vs bs g v a cI cS)) (hS : va_S (lwA s) s.heap H locs) (hl : lv_has ls 9 [(0, .ref b), (1, .ref h0), (2, .ref h9), (3, .ref o0), (4, .int (nI (4 * j)))])
    (kk : ∀ (v : Nat → Int32) (a : Nat → Nat → Int32) (cn : Nat) (gs : Nat → Nat → Nat) (vs : Nat → Nat → Int32) (bs : Nat → Nat → Nat → Int32) (f : Nat → Int64) (np th ed : Int32) (hh : Int64) (w pf : Nat → Int32), LI (j + 1) v a cn vs bs w pf np → ∀ (H : Heap) (locs : List Loc) (ls : Array Slot), va_P D vwCl (lwM h9 a9 b9 np th ed hh w pf cI ++ oxw o0 f cJ h0 hH hs cn gs vs bs g v a cI cS) H → va_D (lwA s) (lwM h9 a9 b9 np th ed hh w pf cI ++ oxw o0 f cJ h0 hH hs cn gs vs bs g v a cI cS) → va_S (lwA s) s.heap H locs → lv_has ls 9 [(0, .ref b), (1, .ref h0), (2, .ref h9), (3, .ref o0), (4, .int (nI (4 * j)))] → W p l e room_1 s m #[Value.ref b] below meth c H locs (cells + 1) (slots + 6) Q (F0 m 1178 ls [])) : W p l e room_1 s m #[Value.ref b] below meth c H locs cells slots Q (F0 m 745 ls []) := by
  obtain ⟨hx, hb, hml, hown, hts, hX, hbl, hK, hG, hN⟩ := id X
  refine lv_aload_n hx hb dL_law_745 rfl (lv_at hl 1 rfl) ?_
  refine law_arg X hS (q := 1) (j := j) (by omega) hL (lv_at hl 0 rfl) (lv_at hl 4 rfl) dL_law_746 dL_law_747 dL_law_749 rfl dL_law_750 dL_law_751 ?_
  refine lv_aload_n hx hb dL_law_752 rfl (lv_at hl 3 rfl) ?_
  refine my_callW_i (As := [.ref h0, .int (xs (4 * j + 1)), .ref o0]) (rest := []) (wc := oxw o0 f cJ h0 hH hs cn gs vs bs g v a cI cS) (wr := lwM h9 a9 b9 np th ed hh w pf cI) ⟨hx, hb, hml, hown, hts⟩ (met_L_leg l hlt D cI cJ cS h0 hH hs g v a cn gs vs bs (xs (4 * j + 1)) o0 f _) (vx_cwSW 3 hts gL_law_L_leg rfl rfl rfl (by decide +kernel) ⟨Nat.le_of_ble_eq_true rfl, Nat.le_of_ble_eq_true rfl⟩) hN hK hP hD hS (fun _ h => h) hG rfl hl.1 (Nat.le_of_ble_eq_true rfl) rfl dL_law_753 ⟨hc, hsl⟩ (fun k u H locs hw hP hD hS => ?_)
  refine lv_istore (lv' := [(5, .int k), (0, .ref b), (1, .ref h0), (2, .ref h9), (3, .ref o0), (4, .int (nI (4 * j)))]) hx hb dL_law_756 hl (by decide) rfl (fun ls hl => ?_)
  refine lv_aload_n hx hb dL_law_758 rfl (lv_at hl 3 rfl) ?_
  refine law_arg X hS (q := 1) (j := j) (by omega) hL (lv_at hl 1 rfl) (lv_at hl 5 rfl) dL_law_759 dL_law_760 dL_law_762 rfl dL_law_763 dL_law_764 ?_
  refine my_callV_i (As := [.int (xs (4 * j + 1))]) (rest := []) (wc := lwM h9 a9 b9 np th ed hh w pf cI) (wr := oxw o0 u cJ h0 hH hs cn gs vs bs g v a cI cS) ⟨hx, hb, hml, hown, hts⟩ (met_X9_leg l D cI cJ cS h9 a9 b9 np th ed hh w pf (xs (4 * j + 1))  _) (cwV 1 hts gL_law_X9_leg rfl rfl rfl (by decide +kernel) ⟨Nat.le_of_ble_eq_true rfl, Nat.le_of_ble_eq_true rfl⟩) hK hP.swp hD.swp hS (fun _ h => h) hG _ _ (sp_C _ _) (sp_R _ _) (sp_nC _ _) (sp_nR _) (sp_dis _ _) 0 rfl rfl rfl hl.1 (Nat.le_of_ble_eq_true rfl) rfl dL_law_765 ⟨hc, hsl⟩ (fun r u9 H locs hw9 hP hD hS => ?_)
  refine lv_istore (lv' := [(6, .int r), (5, .int k), (0, .ref b), (1, .ref h0), (2, .ref h9), (3, .ref o0), (4, .int (nI (4 * j)))]) hx hb dL_law_768 hl (by decide) rfl (fun ls hl => ?_)
  have hO := qk_leg (th := th) (ed := ed) (hh := hh) hI (xs (4 * j + 1))
  rw [← hw9] at hO
  obtain ⟨hth, hO0⟩ := hO
  obtain ⟨hk, hw0⟩ := hw
  refine law_tail X (T := 770) hc hsl (by decide) dL_law_770 dL_law_771 dL_law_774 dL_law_776 dL_law_781 dL_law_783 dL_law_786 dL_law_787 dL_law_788 dL_law_789 dL_law_791 dL_law_792 dL_law_793 dL_law_798 (hth.trans hk.symm) (fun q => ?_) hP.swp hD.swp hS hl (fun H locs hP hD hS => ?_)
  · have e := hw0 q
    subst e
    have e2 := hO0 (hk.symm.trans q)
    dsimp only at e2
    rw [e2]
    rfl
  · exact kk v a cn gs vs bs u np u9 ed hh w pf hI.up H locs ls hP hD hS (lv_sub hl [2, 3, 4, 5, 6] rfl)
set_option maxHeartbeats 4000000 in
set_option maxRecDepth 100000 in
theorem law_onTicks (X : LX p s m c D cI cJ cS b L xs) (hlt : l.stackTraces = false) (hL : L ≤ 2048) {j : Nat} (hj : 4 * j + 4 ≤ L) {h9 a9 b9 : Nat} {np th ed : Int32} {hh : Int64} {w pf : Nat → Int32} {o0 : Nat} {f : Nat → Int64} {h0 hH hs cn : Nat} {gs : Nat → Nat → Nat} {vs : Nat → Nat → Int32} {bs : Nat → Nat → Nat → Int32} {g : Nat → Nat} {v : Nat → Int32} {a : Nat → Nat → Int32} (hI : LI j v a cn vs bs w pf np) (hc : cells + 1 ≤ 1115) (hsl : slots + 6 ≤ 9621) (hP : va_P D vwCl (lwM h9 a9 b9 np th ed hh w pf cI ++ oxw o0 f cJ h0 hH hs cn gs vs bs g v a cI cS) H) (hD : va_D (lwA s) (lwM h9 a9 b9 np th ed hh w pf cI ++ oxw o0 f cJ h0 hH hs cn gs vs bs g v a cI cS)) (hS : va_S (lwA s) s.heap H locs) (hl : lv_has ls 9 [(0, .ref b), (1, .ref h0), (2, .ref h9), (3, .ref o0), (4, .int (nI (4 * j)))])
    (kk : ∀ (v : Nat → Int32) (a : Nat → Nat → Int32) (cn : Nat) (gs : Nat → Nat → Nat) (vs : Nat → Nat → Int32) (bs : Nat → Nat → Nat → Int32) (f : Nat → Int64) (np th ed : Int32) (hh : Int64) (w pf : Nat → Int32), LI (j + 1) v a cn vs bs w pf np → ∀ (H : Heap) (locs : List Loc) (ls : Array Slot), va_P D vwCl (lwM h9 a9 b9 np th ed hh w pf cI ++ oxw o0 f cJ h0 hH hs cn gs vs bs g v a cI cS) H → va_D (lwA s) (lwM h9 a9 b9 np th ed hh w pf cI ++ oxw o0 f cJ h0 hH hs cn gs vs bs g v a cI cS) → va_S (lwA s) s.heap H locs → lv_has ls 9 [(0, .ref b), (1, .ref h0), (2, .ref h9), (3, .ref o0), (4, .int (nI (4 * j)))] → W p l e room_1 s m #[Value.ref b] below meth c H locs (cells + 1) (slots + 6) Q (F0 m 1178 ls [])) : W p l e room_1 s m #[Value.ref b] below meth c H locs cells slots Q (F0 m 801 ls []) := by
  obtain ⟨hx, hb, hml, hown, hts, hX, hbl, hK, hG, hN⟩ := id X
  refine lv_aload_n hx hb dL_law_801 rfl (lv_at hl 1 rfl) ?_
  refine law_arg X hS (q := 1) (j := j) (by omega) hL (lv_at hl 0 rfl) (lv_at hl 4 rfl) dL_law_802 dL_law_803 dL_law_805 rfl dL_law_806 dL_law_807 ?_
  refine law_arg X hS (q := 2) (j := j) (by omega) hL (lv_at hl 0 rfl) (lv_at hl 4 rfl) dL_law_808 dL_law_809 dL_law_811 rfl dL_law_812 dL_law_813 ?_
  refine law_bool X dL_law_814 dL_law_817 dL_law_818 dL_law_821 ?_
  refine lv_aload_n hx hb dL_law_822 rfl (lv_at hl 3 rfl) ?_
  refine my_callW_i (As := [.ref h0, .int (xs (4 * j + 1)), .int (if xs (4 * j + 2) = 0 then 0 else 1), .ref o0]) (rest := []) (wc := oxw o0 f cJ h0 hH hs cn gs vs bs g v a cI cS) (wr := lwM h9 a9 b9 np th ed hh w pf cI) ⟨hx, hb, hml, hown, hts⟩ (met_L_onTicks l hlt D cI cJ cS h0 hH hs g v a cn gs vs bs (xs (4 * j + 1)) (if xs (4 * j + 2) = 0 then 0 else 1) o0 f _) (vx_cwSW 4 hts gL_law_L_onTicks rfl rfl rfl (by decide +kernel) ⟨Nat.le_of_ble_eq_true rfl, Nat.le_of_ble_eq_true rfl⟩) hN hK hP hD hS (fun _ h => h) hG rfl hl.1 (Nat.le_of_ble_eq_true rfl) rfl dL_law_823 ⟨hc, hsl⟩ (fun k u H locs hw hP hD hS => ?_)
  refine lv_istore (lv' := [(5, .int k), (0, .ref b), (1, .ref h0), (2, .ref h9), (3, .ref o0), (4, .int (nI (4 * j)))]) hx hb dL_law_826 hl (by decide) rfl (fun ls hl => ?_)
  refine lv_aload_n hx hb dL_law_828 rfl (lv_at hl 3 rfl) ?_
  refine law_arg X hS (q := 1) (j := j) (by omega) hL (lv_at hl 1 rfl) (lv_at hl 5 rfl) dL_law_829 dL_law_830 dL_law_832 rfl dL_law_833 dL_law_834 ?_
  refine law_arg X hS (q := 2) (j := j) (by omega) hL (lv_at hl 1 rfl) (lv_at hl 5 rfl) dL_law_835 dL_law_836 dL_law_838 rfl dL_law_839 dL_law_840 ?_
  refine law_bool X dL_law_841 dL_law_844 dL_law_845 dL_law_848 ?_
  refine my_callV_i (As := [.int (xs (4 * j + 1)), .int (if xs (4 * j + 2) = 0 then 0 else 1)]) (rest := []) (wc := lwM h9 a9 b9 np th ed hh w pf cI) (wr := oxw o0 u cJ h0 hH hs cn gs vs bs g v a cI cS) ⟨hx, hb, hml, hown, hts⟩ (met_X9_onTicks l D cI cJ cS h9 a9 b9 np th ed hh w pf (xs (4 * j + 1)) (if xs (4 * j + 2) = 0 then 0 else 1)  _) (cwV 2 hts gL_law_X9_onTicks rfl rfl rfl (by decide +kernel) ⟨Nat.le_of_ble_eq_true rfl, Nat.le_of_ble_eq_true rfl⟩) hK hP.swp hD.swp hS (fun _ h => h) hG _ _ (sp_C _ _) (sp_R _ _) (sp_nC _ _) (sp_nR _) (sp_dis _ _) 0 rfl rfl rfl hl.1 (Nat.le_of_ble_eq_true rfl) rfl dL_law_849 ⟨hc, hsl⟩ (fun r u9 H locs hw9 hP hD hS => ?_)
  refine lv_istore (lv' := [(6, .int r), (5, .int k), (0, .ref b), (1, .ref h0), (2, .ref h9), (3, .ref o0), (4, .int (nI (4 * j)))]) hx hb dL_law_852 hl (by decide) rfl (fun ls hl => ?_)
  have hO := qk_onTicks (th := th) (ed := ed) (hh := hh) hI (xs (4 * j + 1)) (if xs (4 * j + 2) = 0 then 0 else 1)
  rw [← hw9] at hO
  obtain ⟨hth, hO0⟩ := hO
  obtain ⟨hk, hw0⟩ := hw
  refine law_tail X (T := 854) hc hsl (by decide) dL_law_854 dL_law_855 dL_law_858 dL_law_860 dL_law_865 dL_law_867 dL_law_870 dL_law_871 dL_law_872 dL_law_873 dL_law_875 dL_law_876 dL_law_877 dL_law_882 (hth.trans hk.symm) (fun q => ?_) hP.swp hD.swp hS hl (fun H locs hP hD hS => ?_)
  · have e := hw0 q
    subst e
    have e2 := hO0 (hk.symm.trans q)
    dsimp only at e2
    rw [e2]
    rfl
  · exact kk v a cn gs vs bs u np u9 ed hh w pf hI.up H locs ls hP hD hS (lv_sub hl [2, 3, 4, 5, 6] rfl)
set_option maxHeartbeats 4000000 in
set_option maxRecDepth 100000 in
theorem law_counts (X : LX p s m c D cI cJ cS b L xs) (hlt : l.stackTraces = false) (hL : L ≤ 2048) {j : Nat} (hj : 4 * j + 4 ≤ L) {h9 a9 b9 : Nat} {np th ed : Int32} {hh : Int64} {w pf : Nat → Int32} {o0 : Nat} {f : Nat → Int64} {h0 hH hs cn : Nat} {gs : Nat → Nat → Nat} {vs : Nat → Nat → Int32} {bs : Nat → Nat → Nat → Int32} {g : Nat → Nat} {v : Nat → Int32} {a : Nat → Nat → Int32} (hI : LI j v a cn vs bs w pf np) (hc : cells + 1 ≤ 1115) (hsl : slots + 6 ≤ 9621) (hP : va_P D vwCl (lwM h9 a9 b9 np th ed hh w pf cI ++ oxw o0 f cJ h0 hH hs cn gs vs bs g v a cI cS) H) (hD : va_D (lwA s) (lwM h9 a9 b9 np th ed hh w pf cI ++ oxw o0 f cJ h0 hH hs cn gs vs bs g v a cI cS)) (hS : va_S (lwA s) s.heap H locs) (hl : lv_has ls 9 [(0, .ref b), (1, .ref h0), (2, .ref h9), (3, .ref o0), (4, .int (nI (4 * j)))])
    (kk : ∀ (v : Nat → Int32) (a : Nat → Nat → Int32) (cn : Nat) (gs : Nat → Nat → Nat) (vs : Nat → Nat → Int32) (bs : Nat → Nat → Nat → Int32) (f : Nat → Int64) (np th ed : Int32) (hh : Int64) (w pf : Nat → Int32), LI (j + 1) v a cn vs bs w pf np → ∀ (H : Heap) (locs : List Loc) (ls : Array Slot), va_P D vwCl (lwM h9 a9 b9 np th ed hh w pf cI ++ oxw o0 f cJ h0 hH hs cn gs vs bs g v a cI cS) H → va_D (lwA s) (lwM h9 a9 b9 np th ed hh w pf cI ++ oxw o0 f cJ h0 hH hs cn gs vs bs g v a cI cS) → va_S (lwA s) s.heap H locs → lv_has ls 9 [(0, .ref b), (1, .ref h0), (2, .ref h9), (3, .ref o0), (4, .int (nI (4 * j)))] → W p l e room_1 s m #[Value.ref b] below meth c H locs (cells + 1) (slots + 6) Q (F0 m 1178 ls [])) : W p l e room_1 s m #[Value.ref b] below meth c H locs cells slots Q (F0 m 898 ls []) := by
  obtain ⟨hx, hb, hml, hown, hts, hX, hbl, hK, hG, hN⟩ := id X
  refine lv_aload_n hx hb dL_law_898 rfl (lv_at hl 1 rfl) ?_
  refine law_arg X hS (q := 1) (j := j) (by omega) hL (lv_at hl 0 rfl) (lv_at hl 4 rfl) dL_law_899 dL_law_900 dL_law_902 rfl dL_law_903 dL_law_904 ?_
  refine lv_aload_n hx hb dL_law_905 rfl (lv_at hl 3 rfl) ?_
  refine my_callW_i (As := [.ref h0, .int (xs (4 * j + 1)), .ref o0]) (rest := []) (wc := oxw o0 f cJ h0 hH hs cn gs vs bs g v a cI cS) (wr := lwM h9 a9 b9 np th ed hh w pf cI) ⟨hx, hb, hml, hown, hts⟩ (met_L_counts l hlt D cI cJ cS h0 hH hs g v a cn gs vs bs (xs (4 * j + 1)) o0 f _) (vx_cwSW 3 hts gL_law_L_counts rfl rfl rfl (by decide +kernel) ⟨Nat.le_of_ble_eq_true rfl, Nat.le_of_ble_eq_true rfl⟩) hN hK hP hD hS (fun _ h => h) hG rfl hl.1 (Nat.le_of_ble_eq_true rfl) rfl dL_law_906 ⟨hc, hsl⟩ (fun k u H locs hw hP hD hS => ?_)
  refine lv_istore (lv' := [(5, .int k), (0, .ref b), (1, .ref h0), (2, .ref h9), (3, .ref o0), (4, .int (nI (4 * j)))]) hx hb dL_law_909 hl (by decide) rfl (fun ls hl => ?_)
  refine lv_aload_n hx hb dL_law_911 rfl (lv_at hl 3 rfl) ?_
  refine law_arg X hS (q := 1) (j := j) (by omega) hL (lv_at hl 1 rfl) (lv_at hl 5 rfl) dL_law_912 dL_law_913 dL_law_915 rfl dL_law_916 dL_law_917 ?_
  refine my_callV_i (As := [.int (xs (4 * j + 1))]) (rest := []) (wc := lwM h9 a9 b9 np th ed hh w pf cI) (wr := oxw o0 u cJ h0 hH hs cn gs vs bs g v a cI cS) ⟨hx, hb, hml, hown, hts⟩ (met_X9_counts l D cI cJ cS h9 a9 b9 np th ed hh w pf (xs (4 * j + 1))  _) (cwV 1 hts gL_law_X9_counts rfl rfl rfl (by decide +kernel) ⟨Nat.le_of_ble_eq_true rfl, Nat.le_of_ble_eq_true rfl⟩) hK hP.swp hD.swp hS (fun _ h => h) hG _ _ (sp_C _ _) (sp_R _ _) (sp_nC _ _) (sp_nR _) (sp_dis _ _) 0 rfl rfl rfl hl.1 (Nat.le_of_ble_eq_true rfl) rfl dL_law_918 ⟨hc, hsl⟩ (fun r u9 H locs hw9 hP hD hS => ?_)
  refine lv_istore (lv' := [(6, .int r), (5, .int k), (0, .ref b), (1, .ref h0), (2, .ref h9), (3, .ref o0), (4, .int (nI (4 * j)))]) hx hb dL_law_921 hl (by decide) rfl (fun ls hl => ?_)
  have hO := qk_counts (th := th) (ed := ed) (hh := hh) hI (xs (4 * j + 1))
  rw [← hw9] at hO
  obtain ⟨hth, hO0⟩ := hO
  obtain ⟨hk, hw0⟩ := hw
  refine law_tail X (T := 923) hc hsl (by decide) dL_law_923 dL_law_924 dL_law_927 dL_law_929 dL_law_934 dL_law_936 dL_law_939 dL_law_940 dL_law_941 dL_law_942 dL_law_944 dL_law_945 dL_law_946 dL_law_951 (hth.trans hk.symm) (fun q => ?_) hP.swp hD.swp hS hl (fun H locs hP hD hS => ?_)
  · have e := hw0 q
    subst e
    have e2 := hO0 (hk.symm.trans q)
    dsimp only at e2
    rw [e2]
    rfl
  · exact kk v a cn gs vs bs u np u9 ed hh w pf hI.up H locs ls hP hD hS (lv_sub hl [2, 3, 4, 5, 6] rfl)
set_option maxHeartbeats 4000000 in
set_option maxRecDepth 100000 in
theorem law_interval (X : LX p s m c D cI cJ cS b L xs) (hlt : l.stackTraces = false) (hL : L ≤ 2048) {j : Nat} (hj : 4 * j + 4 ≤ L) {h9 a9 b9 : Nat} {np th ed : Int32} {hh : Int64} {w pf : Nat → Int32} {o0 : Nat} {f : Nat → Int64} {h0 hH hs cn : Nat} {gs : Nat → Nat → Nat} {vs : Nat → Nat → Int32} {bs : Nat → Nat → Nat → Int32} {g : Nat → Nat} {v : Nat → Int32} {a : Nat → Nat → Int32} (hI : LI j v a cn vs bs w pf np) (hc : cells + 1 ≤ 1115) (hsl : slots + 6 ≤ 9621) (hP : va_P D vwCl (lwM h9 a9 b9 np th ed hh w pf cI ++ oxw o0 f cJ h0 hH hs cn gs vs bs g v a cI cS) H) (hD : va_D (lwA s) (lwM h9 a9 b9 np th ed hh w pf cI ++ oxw o0 f cJ h0 hH hs cn gs vs bs g v a cI cS)) (hS : va_S (lwA s) s.heap H locs) (hl : lv_has ls 9 [(0, .ref b), (1, .ref h0), (2, .ref h9), (3, .ref o0), (4, .int (nI (4 * j)))])
    (kk : ∀ (v : Nat → Int32) (a : Nat → Nat → Int32) (cn : Nat) (gs : Nat → Nat → Nat) (vs : Nat → Nat → Int32) (bs : Nat → Nat → Nat → Int32) (f : Nat → Int64) (np th ed : Int32) (hh : Int64) (w pf : Nat → Int32), LI (j + 1) v a cn vs bs w pf np → ∀ (H : Heap) (locs : List Loc) (ls : Array Slot), va_P D vwCl (lwM h9 a9 b9 np th ed hh w pf cI ++ oxw o0 f cJ h0 hH hs cn gs vs bs g v a cI cS) H → va_D (lwA s) (lwM h9 a9 b9 np th ed hh w pf cI ++ oxw o0 f cJ h0 hH hs cn gs vs bs g v a cI cS) → va_S (lwA s) s.heap H locs → lv_has ls 9 [(0, .ref b), (1, .ref h0), (2, .ref h9), (3, .ref o0), (4, .int (nI (4 * j)))] → W p l e room_1 s m #[Value.ref b] below meth c H locs (cells + 1) (slots + 6) Q (F0 m 1178 ls [])) : W p l e room_1 s m #[Value.ref b] below meth c H locs cells slots Q (F0 m 954 ls []) := by
  obtain ⟨hx, hb, hml, hown, hts, hX, hbl, hK, hG, hN⟩ := id X
  refine lv_aload_n hx hb dL_law_954 rfl (lv_at hl 1 rfl) ?_
  refine law_arg X hS (q := 1) (j := j) (by omega) hL (lv_at hl 0 rfl) (lv_at hl 4 rfl) dL_law_955 dL_law_956 dL_law_958 rfl dL_law_959 dL_law_960 ?_
  refine lv_aload_n hx hb dL_law_961 rfl (lv_at hl 3 rfl) ?_
  refine my_callW_i (As := [.ref h0, .int (xs (4 * j + 1)), .ref o0]) (rest := []) (wc := oxw o0 f cJ h0 hH hs cn gs vs bs g v a cI cS) (wr := lwM h9 a9 b9 np th ed hh w pf cI) ⟨hx, hb, hml, hown, hts⟩ (met_L_interval l hlt D cI cJ cS h0 hH hs g v a cn gs vs bs (xs (4 * j + 1)) o0 f hI.v35 _) (vx_cwSW 3 hts gL_law_L_interval rfl rfl rfl (by decide +kernel) ⟨Nat.le_of_ble_eq_true rfl, Nat.le_of_ble_eq_true rfl⟩) hN hK hP hD hS (fun _ h => h) hG rfl hl.1 (Nat.le_of_ble_eq_true rfl) rfl dL_law_962 ⟨hc, hsl⟩ (fun k u H locs hw hP hD hS => ?_)
  refine lv_istore (lv' := [(5, .int k), (0, .ref b), (1, .ref h0), (2, .ref h9), (3, .ref o0), (4, .int (nI (4 * j)))]) hx hb dL_law_965 hl (by decide) rfl (fun ls hl => ?_)
  refine lv_aload_n hx hb dL_law_967 rfl (lv_at hl 3 rfl) ?_
  refine law_arg X hS (q := 1) (j := j) (by omega) hL (lv_at hl 1 rfl) (lv_at hl 5 rfl) dL_law_968 dL_law_969 dL_law_971 rfl dL_law_972 dL_law_973 ?_
  refine my_callV_i (As := [.int (xs (4 * j + 1))]) (rest := []) (wc := lwM h9 a9 b9 np th ed hh w pf cI) (wr := oxw o0 u cJ h0 hH hs cn gs vs bs g v a cI cS) ⟨hx, hb, hml, hown, hts⟩ (met_X9_interval l D cI cJ cS h9 a9 b9 np th ed hh w pf (xs (4 * j + 1)) hI.w35 _) (cwV 1 hts gL_law_X9_interval rfl rfl rfl (by decide +kernel) ⟨Nat.le_of_ble_eq_true rfl, Nat.le_of_ble_eq_true rfl⟩) hK hP.swp hD.swp hS (fun _ h => h) hG _ _ (sp_C _ _) (sp_R _ _) (sp_nC _ _) (sp_nR _) (sp_dis _ _) 0 rfl rfl rfl hl.1 (Nat.le_of_ble_eq_true rfl) rfl dL_law_974 ⟨hc, hsl⟩ (fun r u9 H locs hw9 hP hD hS => ?_)
  refine lv_istore (lv' := [(6, .int r), (5, .int k), (0, .ref b), (1, .ref h0), (2, .ref h9), (3, .ref o0), (4, .int (nI (4 * j)))]) hx hb dL_law_977 hl (by decide) rfl (fun ls hl => ?_)
  have hO := qk_interval (th := th) (ed := ed) (hh := hh) hI (xs (4 * j + 1))
  rw [← hw9] at hO
  obtain ⟨hth, hO0⟩ := hO
  obtain ⟨hk, hw0⟩ := hw
  refine law_tail X (T := 979) hc hsl (by decide) dL_law_979 dL_law_980 dL_law_983 dL_law_985 dL_law_990 dL_law_992 dL_law_995 dL_law_996 dL_law_997 dL_law_998 dL_law_1000 dL_law_1001 dL_law_1002 dL_law_1007 (hth.trans hk.symm) (fun q => ?_) hP.swp hD.swp hS hl (fun H locs hP hD hS => ?_)
  · have e := hw0 q
    subst e
    have e2 := hO0 (hk.symm.trans q)
    dsimp only at e2
    rw [e2]
    rfl
  · exact kk v a cn gs vs bs u np u9 ed hh w pf hI.up H locs ls hP hD hS (lv_sub hl [2, 3, 4, 5, 6] rfl)
set_option maxHeartbeats 4000000 in
set_option maxRecDepth 100000 in
theorem law_fault (X : LX p s m c D cI cJ cS b L xs) (hlt : l.stackTraces = false) (hL : L ≤ 2048) {j : Nat} (hj : 4 * j + 4 ≤ L) {h9 a9 b9 : Nat} {np th ed : Int32} {hh : Int64} {w pf : Nat → Int32} {o0 : Nat} {f : Nat → Int64} {h0 hH hs cn : Nat} {gs : Nat → Nat → Nat} {vs : Nat → Nat → Int32} {bs : Nat → Nat → Nat → Int32} {g : Nat → Nat} {v : Nat → Int32} {a : Nat → Nat → Int32} (hI : LI j v a cn vs bs w pf np) (hc : cells + 1 ≤ 1115) (hsl : slots + 6 ≤ 9621) (hP : va_P D vwCl (lwM h9 a9 b9 np th ed hh w pf cI ++ oxw o0 f cJ h0 hH hs cn gs vs bs g v a cI cS) H) (hD : va_D (lwA s) (lwM h9 a9 b9 np th ed hh w pf cI ++ oxw o0 f cJ h0 hH hs cn gs vs bs g v a cI cS)) (hS : va_S (lwA s) s.heap H locs) (hl : lv_has ls 9 [(0, .ref b), (1, .ref h0), (2, .ref h9), (3, .ref o0), (4, .int (nI (4 * j)))])
    (kk : ∀ (v : Nat → Int32) (a : Nat → Nat → Int32) (cn : Nat) (gs : Nat → Nat → Nat) (vs : Nat → Nat → Int32) (bs : Nat → Nat → Nat → Int32) (f : Nat → Int64) (np th ed : Int32) (hh : Int64) (w pf : Nat → Int32), LI (j + 1) v a cn vs bs w pf np → ∀ (H : Heap) (locs : List Loc) (ls : Array Slot), va_P D vwCl (lwM h9 a9 b9 np th ed hh w pf cI ++ oxw o0 f cJ h0 hH hs cn gs vs bs g v a cI cS) H → va_D (lwA s) (lwM h9 a9 b9 np th ed hh w pf cI ++ oxw o0 f cJ h0 hH hs cn gs vs bs g v a cI cS) → va_S (lwA s) s.heap H locs → lv_has ls 9 [(0, .ref b), (1, .ref h0), (2, .ref h9), (3, .ref o0), (4, .int (nI (4 * j)))] → W p l e room_1 s m #[Value.ref b] below meth c H locs (cells + 1) (slots + 6) Q (F0 m 1178 ls [])) : W p l e room_1 s m #[Value.ref b] below meth c H locs cells slots Q (F0 m 1051 ls []) := by
  obtain ⟨hx, hb, hml, hown, hts, hX, hbl, hK, hG, hN⟩ := id X
  refine lv_aload_n hx hb dL_law_1051 rfl (lv_at hl 1 rfl) ?_
  refine law_arg X hS (q := 1) (j := j) (by omega) hL (lv_at hl 0 rfl) (lv_at hl 4 rfl) dL_law_1052 dL_law_1053 dL_law_1055 rfl dL_law_1056 dL_law_1057 ?_
  refine lv_aload_n hx hb dL_law_1058 rfl (lv_at hl 3 rfl) ?_
  refine my_callW_i (As := [.ref h0, .int (xs (4 * j + 1)), .ref o0]) (rest := []) (wc := oxw o0 f cJ h0 hH hs cn gs vs bs g v a cI cS) (wr := lwM h9 a9 b9 np th ed hh w pf cI) ⟨hx, hb, hml, hown, hts⟩ (met_L_fault l hlt D cI cJ cS h0 hH hs g v a cn gs vs bs (xs (4 * j + 1)) o0 f _) (vx_cwSW 3 hts gL_law_L_fault rfl rfl rfl (by decide +kernel) ⟨Nat.le_of_ble_eq_true rfl, Nat.le_of_ble_eq_true rfl⟩) hN hK hP hD hS (fun _ h => h) hG rfl hl.1 (Nat.le_of_ble_eq_true rfl) rfl dL_law_1059 ⟨hc, hsl⟩ (fun k u H locs hw hP hD hS => ?_)
  refine lv_istore (lv' := [(5, .int k), (0, .ref b), (1, .ref h0), (2, .ref h9), (3, .ref o0), (4, .int (nI (4 * j)))]) hx hb dL_law_1062 hl (by decide) rfl (fun ls hl => ?_)
  refine lv_aload_n hx hb dL_law_1064 rfl (lv_at hl 3 rfl) ?_
  refine law_arg X hS (q := 1) (j := j) (by omega) hL (lv_at hl 1 rfl) (lv_at hl 5 rfl) dL_law_1065 dL_law_1066 dL_law_1068 rfl dL_law_1069 dL_law_1070 ?_
  refine my_callV_i (As := [.int (xs (4 * j + 1))]) (rest := []) (wc := lwM h9 a9 b9 np th ed hh w pf cI) (wr := oxw o0 u cJ h0 hH hs cn gs vs bs g v a cI cS) ⟨hx, hb, hml, hown, hts⟩ (met_X9_fault l D cI cJ cS h9 a9 b9 np th ed hh w pf (xs (4 * j + 1))  _) (cwV 1 hts gL_law_X9_fault rfl rfl rfl (by decide +kernel) ⟨Nat.le_of_ble_eq_true rfl, Nat.le_of_ble_eq_true rfl⟩) hK hP.swp hD.swp hS (fun _ h => h) hG _ _ (sp_C _ _) (sp_R _ _) (sp_nC _ _) (sp_nR _) (sp_dis _ _) 0 rfl rfl rfl hl.1 (Nat.le_of_ble_eq_true rfl) rfl dL_law_1071 ⟨hc, hsl⟩ (fun r u9 H locs hw9 hP hD hS => ?_)
  refine lv_istore (lv' := [(6, .int r), (5, .int k), (0, .ref b), (1, .ref h0), (2, .ref h9), (3, .ref o0), (4, .int (nI (4 * j)))]) hx hb dL_law_1074 hl (by decide) rfl (fun ls hl => ?_)
  have hO := qk_fault (th := th) (ed := ed) (hh := hh) hI (xs (4 * j + 1))
  rw [← hw9] at hO
  obtain ⟨hth, hO0⟩ := hO
  obtain ⟨hk, hw0⟩ := hw
  refine law_tail X (T := 1076) hc hsl (by decide) dL_law_1076 dL_law_1077 dL_law_1080 dL_law_1082 dL_law_1087 dL_law_1089 dL_law_1092 dL_law_1093 dL_law_1094 dL_law_1095 dL_law_1097 dL_law_1098 dL_law_1099 dL_law_1104 (hth.trans hk.symm) (fun q => ?_) hP.swp hD.swp hS hl (fun H locs hP hD hS => ?_)
  · have e := hw0 q
    subst e
    have e2 := hO0 (hk.symm.trans q)
    dsimp only at e2
    rw [e2]
    rfl
  · exact kk v a cn gs vs bs u np u9 ed hh w pf hI.up H locs ls hP hD hS (lv_sub hl [2, 3, 4, 5, 6] rfl)
set_option maxHeartbeats 4000000 in
set_option maxRecDepth 100000 in
theorem law_undo0 (X : LX p s m c D cI cJ cS b L xs) (hlt : l.stackTraces = false) (hL : L ≤ 2048) {j : Nat} (hj : 4 * j + 4 ≤ L) {h9 a9 b9 : Nat} {np th ed : Int32} {hh : Int64} {w pf : Nat → Int32} {o0 : Nat} {f : Nat → Int64} {h0 hH hs : Nat} {gs : Nat → Nat → Nat} {vs : Nat → Nat → Int32} {bs : Nat → Nat → Nat → Int32} {g : Nat → Nat} {v : Nat → Int32} {a : Nat → Nat → Int32} (hI : LI j v a 0 vs bs w pf np) (hc : cells + 1 ≤ 1115) (hsl : slots + 6 ≤ 9621) (hP : va_P D vwCl (lwM h9 a9 b9 np th ed hh w pf cI ++ oxw o0 f cJ h0 hH hs 0 gs vs bs g v a cI cS) H) (hD : va_D (lwA s) (lwM h9 a9 b9 np th ed hh w pf cI ++ oxw o0 f cJ h0 hH hs 0 gs vs bs g v a cI cS)) (hS : va_S (lwA s) s.heap H locs) (hl : lv_has ls 9 [(0, .ref b), (1, .ref h0), (2, .ref h9), (3, .ref o0), (4, .int (nI (4 * j)))])
    (kk : ∀ (v : Nat → Int32) (a : Nat → Nat → Int32) (cn : Nat) (gs : Nat → Nat → Nat) (vs : Nat → Nat → Int32) (bs : Nat → Nat → Nat → Int32) (f : Nat → Int64) (np th ed : Int32) (hh : Int64) (w pf : Nat → Int32), LI (j + 1) v a cn vs bs w pf np → ∀ (H : Heap) (locs : List Loc) (ls : Array Slot), va_P D vwCl (lwM h9 a9 b9 np th ed hh w pf cI ++ oxw o0 f cJ h0 hH hs cn gs vs bs g v a cI cS) H → va_D (lwA s) (lwM h9 a9 b9 np th ed hh w pf cI ++ oxw o0 f cJ h0 hH hs cn gs vs bs g v a cI cS) → va_S (lwA s) s.heap H locs → lv_has ls 9 [(0, .ref b), (1, .ref h0), (2, .ref h9), (3, .ref o0), (4, .int (nI (4 * j)))] → W p l e room_1 s m #[Value.ref b] below meth c H locs (cells + 1) (slots + 6) Q (F0 m 1178 ls [])) : W p l e room_1 s m #[Value.ref b] below meth c H locs cells slots Q (F0 m 1120 ls []) := by
  obtain ⟨hx, hb, hml, hown, hts, hX, hbl, hK, hG, hN⟩ := id X
  refine lv_aload_n hx hb dL_law_1120 rfl (lv_at hl 1 rfl) ?_
  refine lv_aload_n hx hb dL_law_1121 rfl (lv_at hl 3 rfl) ?_
  refine my_callW_i (As := [.ref h0, .ref o0]) (rest := []) (wc := oxw o0 f cJ h0 hH hs 0 gs vs bs g v a cI cS) (wr := lwM h9 a9 b9 np th ed hh w pf cI) ⟨hx, hb, hml, hown, hts⟩ (met_L_undo_0 l hlt D cI cJ cS h0 hH hs g v a gs vs bs o0 f _) (vx_cwSW 2 hts gL_law_L_undo rfl rfl rfl (by decide +kernel) ⟨Nat.le_of_ble_eq_true rfl, Nat.le_of_ble_eq_true rfl⟩) hN hK hP hD hS (fun _ h => h) hG rfl hl.1 (Nat.le_of_ble_eq_true rfl) rfl dL_law_1122 ⟨hc, hsl⟩ (fun k u H locs hw hP hD hS => ?_)
  refine lv_istore (lv' := [(5, .int k), (0, .ref b), (1, .ref h0), (2, .ref h9), (3, .ref o0), (4, .int (nI (4 * j)))]) hx hb dL_law_1125 hl (by decide) rfl (fun ls hl => ?_)
  refine lv_aload_n hx hb dL_law_1127 rfl (lv_at hl 3 rfl) ?_
  refine my_callV_i (As := []) (rest := []) (wc := lwM h9 a9 b9 np th ed hh w pf cI) (wr := oxw o0 f cJ h0 hH hs 0 gs vs bs g v a cI cS) ⟨hx, hb, hml, hown, hts⟩ (met_X9_undo l D cI cJ cS h9 a9 b9 np th ed hh w pf hI.np5 _) (cwV 0 hts gL_law_X9_undo rfl rfl rfl (by decide +kernel) ⟨Nat.le_of_ble_eq_true rfl, Nat.le_of_ble_eq_true rfl⟩) hK hP.swp hD.swp hS (fun _ h => h) hG _ _ (sp_C _ _) (sp_R _ _) (sp_nC _ _) (sp_nR _) (sp_dis _ _) 0 rfl rfl rfl hl.1 (Nat.le_of_ble_eq_true rfl) rfl dL_law_1128 ⟨hc, hsl⟩ (fun r u9 H locs hw9 hP hD hS => ?_)
  refine lv_istore (lv' := [(6, .int r), (5, .int k), (0, .ref b), (1, .ref h0), (2, .ref h9), (3, .ref o0), (4, .int (nI (4 * j)))]) hx hb dL_law_1131 hl (by decide) rfl (fun ls hl => ?_)
  rw [undo_none hI] at hw9
  obtain ⟨rfl, rfl⟩ : r = 0 ∧ u9 = (np, 1, w) := ⟨congrArg Prod.fst hw9, congrArg Prod.snd hw9⟩
  refine law_tail X (T := 1133) hc hsl (by decide) dL_law_1133 dL_law_1134 dL_law_1137 dL_law_1139 dL_law_1144 dL_law_1146 dL_law_1149 dL_law_1150 dL_law_1151 dL_law_1152 dL_law_1154 dL_law_1155 dL_law_1156 dL_law_1161 hw.symm (fun q => absurd (hw.symm.trans q) (by decide)) hP.swp hD.swp hS hl (fun H locs hP hD hS => ?_)
  exact kk v a 0 gs vs bs f np 1 ed hh w pf hI.up H locs ls hP hD hS (lv_sub hl [2, 3, 4, 5, 6] rfl)
set_option maxHeartbeats 4000000 in
set_option maxRecDepth 100000 in
theorem law_undos (X : LX p s m c D cI cJ cS b L xs) (hlt : l.stackTraces = false) (hL : L ≤ 2048) {j : Nat} (hj : 4 * j + 4 ≤ L) {h9 a9 b9 : Nat} {np th ed : Int32} {hh : Int64} {w pf : Nat → Int32} {o0 : Nat} {f : Nat → Int64} {h0 hH hs c0 : Nat} {gs : Nat → Nat → Nat} {vs : Nat → Nat → Int32} {bs : Nat → Nat → Nat → Int32} {g : Nat → Nat} {v : Nat → Int32} {a : Nat → Nat → Int32} (hI : LI j v a (c0 + 1) vs bs w pf np) (hc : cells + 1 ≤ 1115) (hsl : slots + 6 ≤ 9621) (hP : va_P D vwCl (lwM h9 a9 b9 np th ed hh w pf cI ++ oxw o0 f cJ h0 hH hs (c0 + 1) gs vs bs g v a cI cS) H) (hD : va_D (lwA s) (lwM h9 a9 b9 np th ed hh w pf cI ++ oxw o0 f cJ h0 hH hs (c0 + 1) gs vs bs g v a cI cS)) (hS : va_S (lwA s) s.heap H locs) (hl : lv_has ls 9 [(0, .ref b), (1, .ref h0), (2, .ref h9), (3, .ref o0), (4, .int (nI (4 * j)))])
    (kk : ∀ (v : Nat → Int32) (a : Nat → Nat → Int32) (cn : Nat) (gs : Nat → Nat → Nat) (vs : Nat → Nat → Int32) (bs : Nat → Nat → Nat → Int32) (f : Nat → Int64) (np th ed : Int32) (hh : Int64) (w pf : Nat → Int32), LI (j + 1) v a cn vs bs w pf np → ∀ (H : Heap) (locs : List Loc) (ls : Array Slot), va_P D vwCl (lwM h9 a9 b9 np th ed hh w pf cI ++ oxw o0 f cJ h0 hH hs cn gs vs bs g v a cI cS) H → va_D (lwA s) (lwM h9 a9 b9 np th ed hh w pf cI ++ oxw o0 f cJ h0 hH hs cn gs vs bs g v a cI cS) → va_S (lwA s) s.heap H locs → lv_has ls 9 [(0, .ref b), (1, .ref h0), (2, .ref h9), (3, .ref o0), (4, .int (nI (4 * j)))] → W p l e room_1 s m #[Value.ref b] below meth c H locs (cells + 1) (slots + 6) Q (F0 m 1178 ls [])) : W p l e room_1 s m #[Value.ref b] below meth c H locs cells slots Q (F0 m 1120 ls []) := by
  obtain ⟨hx, hb, hml, hown, hts, hX, hbl, hK, hG, hN⟩ := id X
  refine lv_aload_n hx hb dL_law_1120 rfl (lv_at hl 1 rfl) ?_
  refine lv_aload_n hx hb dL_law_1121 rfl (lv_at hl 3 rfl) ?_
  refine my_callW_i (As := [.ref h0, .ref o0]) (rest := []) (wc := oxw o0 f cJ h0 hH hs (c0 + 1) gs vs bs g v a cI cS) (wr := lwM h9 a9 b9 np th ed hh w pf cI) ⟨hx, hb, hml, hown, hts⟩ (met_L_undo_s l hlt D cI cJ cS h0 hH hs g v a gs vs bs c0 o0 f hI.2.2.2.1 _) (vx_cwSW 2 hts gL_law_L_undo rfl rfl rfl (by decide +kernel) ⟨Nat.le_of_ble_eq_true rfl, Nat.le_of_ble_eq_true rfl⟩) hN hK hP hD hS (fun _ h => h) hG rfl hl.1 (Nat.le_of_ble_eq_true rfl) rfl dL_law_1122 ⟨hc, hsl⟩ (fun k u H locs hw hP hD hS => ?_)
  refine lv_istore (lv' := [(5, .int k), (0, .ref b), (1, .ref h0), (2, .ref h9), (3, .ref o0), (4, .int (nI (4 * j)))]) hx hb dL_law_1125 hl (by decide) rfl (fun ls hl => ?_)
  refine lv_aload_n hx hb dL_law_1127 rfl (lv_at hl 3 rfl) ?_
  refine my_callV_i (As := []) (rest := []) (wc := lwM h9 a9 b9 np th ed hh w pf cI) (wr := oxw o0 (vp_updL f 0 (nI c0).toInt64) cJ h0 hH hs c0 gs vs bs g (vs c0) (cpA (bs c0) a) cI cS) ⟨hx, hb, hml, hown, hts⟩ (met_X9_undo l D cI cJ cS h9 a9 b9 np th ed hh w pf hI.np5 _) (cwV 0 hts gL_law_X9_undo rfl rfl rfl (by decide +kernel) ⟨Nat.le_of_ble_eq_true rfl, Nat.le_of_ble_eq_true rfl⟩) hK hP.swp hD.swp hS (fun _ h => h) hG _ _ (sp_C _ _) (sp_R _ _) (sp_nC _ _) (sp_nR _) (sp_dis _ _) 0 rfl rfl rfl hl.1 (Nat.le_of_ble_eq_true rfl) rfl dL_law_1128 ⟨hc, hsl⟩ (fun r u9 H locs hw9 hP hD hS => ?_)
  refine lv_istore (lv' := [(6, .int r), (5, .int k), (0, .ref b), (1, .ref h0), (2, .ref h9), (3, .ref o0), (4, .int (nI (4 * j)))]) hx hb dL_law_1131 hl (by decide) rfl (fun ls hl => ?_)
  have hO := undo_rel (th := th) (ed := ed) (hh := hh) (w := w) (a := a) hI.2.2
  rw [← hw9] at hO
  obtain ⟨hO1, hO2, hO3, hO4, hO5⟩ := hO
  dsimp only at hO1 hO2 hO3 hO4 hO5
  refine law_tail X (T := 1133) hc hsl (by decide) dL_law_1133 dL_law_1134 dL_law_1137 dL_law_1139 dL_law_1144 dL_law_1146 dL_law_1149 dL_law_1150 dL_law_1151 dL_law_1152 dL_law_1154 dL_law_1155 dL_law_1156 dL_law_1161 (hO1.trans hw.symm) (fun q => by rw [hO2]; rfl) hP.swp hD.swp hS hl (fun H locs hP hD hS => ?_)
  exact kk (vs c0) (cpA (bs c0) a) c0 gs vs bs (vp_updL f 0 (nI c0).toInt64) u9.1 u9.2.1 ed hh u9.2.2 pf ⟨hO4, hO5.mono (by omega) (by omega), hO3.mono (by omega) (by omega)⟩ H locs ls hP hD hS (lv_sub hl [2, 3, 4, 5, 6] rfl)
set_option maxHeartbeats 4000000 in
set_option maxRecDepth 100000 in
theorem law_mode (X : LX p s m c D cI cJ cS b L xs) (hlt : l.stackTraces = false) (hL : L ≤ 2048) {j : Nat} (hj : 4 * j + 4 ≤ L) {h9 a9 b9 : Nat} {np th ed : Int32} {hh : Int64} {w pf : Nat → Int32} {o0 : Nat} {f : Nat → Int64} {h0 hH hs cn : Nat} {gs : Nat → Nat → Nat} {vs : Nat → Nat → Int32} {bs : Nat → Nat → Nat → Int32} {g : Nat → Nat} {v : Nat → Int32} {a : Nat → Nat → Int32} (hI : LI j v a cn vs bs w pf np) (hc : cells + 1 ≤ 1115) (hsl : slots + 6 ≤ 9621) (hP : va_P D vwCl (lwM h9 a9 b9 np th ed hh w pf cI ++ oxw o0 f cJ h0 hH hs cn gs vs bs g v a cI cS) H) (hD : va_D (lwA s) (lwM h9 a9 b9 np th ed hh w pf cI ++ oxw o0 f cJ h0 hH hs cn gs vs bs g v a cI cS)) (hS : va_S (lwA s) s.heap H locs) (hl : lv_has ls 9 [(0, .ref b), (1, .ref h0), (2, .ref h9), (3, .ref o0), (4, .int (nI (4 * j)))])
    (kk : ∀ (v : Nat → Int32) (a : Nat → Nat → Int32) (cn : Nat) (gs : Nat → Nat → Nat) (vs : Nat → Nat → Int32) (bs : Nat → Nat → Nat → Int32) (f : Nat → Int64) (np th ed : Int32) (hh : Int64) (w pf : Nat → Int32), LI (j + 1) v a cn vs bs w pf np → ∀ (H : Heap) (locs : List Loc) (ls : Array Slot), va_P D vwCl (lwM h9 a9 b9 np th ed hh w pf cI ++ oxw o0 f cJ h0 hH hs cn gs vs bs g v a cI cS) H → va_D (lwA s) (lwM h9 a9 b9 np th ed hh w pf cI ++ oxw o0 f cJ h0 hH hs cn gs vs bs g v a cI cS) → va_S (lwA s) s.heap H locs → lv_has ls 9 [(0, .ref b), (1, .ref h0), (2, .ref h9), (3, .ref o0), (4, .int (nI (4 * j)))] → W p l e room_1 s m #[Value.ref b] below meth c H locs (cells + 1) (slots + 6) Q (F0 m 1178 ls [])) : W p l e room_1 s m #[Value.ref b] below meth c H locs cells slots Q (F0 m 732 ls []) := by
  obtain ⟨hx, hb, hml, hown, hts, hX, hbl, hK, hG, hN⟩ := id X
  have hc0 : cells ≤ 1115 := by omega
  have hs0 : slots ≤ 9621 := by omega
  refine lv_aload_n hx hb dL_law_732 rfl (lv_at hl 1 rfl) ?_
  refine my_callV_i (As := []) (rest := []) (wc := hcw h0 hH hs cn gs vs bs g v a cI cS) (wr := (lwM h9 a9 b9 np th ed hh w pf cI ++ [(o0, .inl (cJ, 1, .inr (.inl f)))])) (ws := (lwM h9 a9 b9 np th ed hh w pf cI ++ [(o0, .inl (cJ, 1, .inr (.inl f)))]) ++ hcw h0 hH hs cn gs vs bs g v a cI cS) ⟨hx, hb, hml, hown, hts⟩ (met_X8_mode l D cI cJ cS h0 hH hs g v a cn gs vs bs  _) (cwV 0 hts gL_law_X8_mode rfl rfl rfl (by decide +kernel) ⟨Nat.le_of_ble_eq_true rfl, Nat.le_of_ble_eq_true rfl⟩) hK hP hD hS (fun _ h => h) hG _ _ (sp_C _ _) (sp_R _ _) (sp_nC _ _) (sp_nR _) (sp_dis _ _) 0 rfl rfl rfl hl.1 (Nat.le_of_ble_eq_true rfl) rfl dL_law_733 ⟨hc0, hs0⟩ (fun r8 u8 H locs hw8 hP hD hS => ?_)
  have hP : va_P D vwCl (lwM h9 a9 b9 np th ed hh w pf cI ++ oxw o0 f cJ h0 hH hs cn gs vs bs g v a cI cS) H := hP
  have hD : va_D (lwA s) (lwM h9 a9 b9 np th ed hh w pf cI ++ oxw o0 f cJ h0 hH hs cn gs vs bs g v a cI cS) := hD
  refine lv_aload_n hx hb dL_law_736 rfl (lv_at hl 2 rfl) ?_
  refine my_callV_i (As := []) (rest := [.int r8]) (wc := lwM h9 a9 b9 np th ed hh w pf cI) (wr := oxw o0 f cJ h0 hH hs cn gs vs bs g v a cI cS) ⟨hx, hb, hml, hown, hts⟩ (met_X9_mode l D cI cJ cS h9 a9 b9 np th ed hh w pf  _) (cwV 0 hts gL_law_X9_mode rfl rfl rfl (by decide +kernel) ⟨Nat.le_of_ble_eq_true rfl, Nat.le_of_ble_eq_true rfl⟩) hK hP.swp hD.swp hS (fun _ h => h) hG _ _ (sp_C _ _) (sp_R _ _) (sp_nC _ _) (sp_nR _) (sp_dis _ _) 0 rfl rfl rfl hl.1 (Nat.le_of_ble_eq_true rfl) rfl dL_law_737 ⟨hc0, hs0⟩ (fun r9 u9 H locs hw9 hP hD hS => ?_)
  have e : r8 = r9 := by
    rw [hw8, show r9 = _ from congrArg Prod.fst hw9]
    exact hI.eq (k := 6) (by decide)
  subst e
  refine lv_icmp_eq (tgt := 1178) hx hb dL_law_740 (by decide) (fun _ => ?_) (fun z => absurd rfl z)
  refine W.widen (k := cells + 1) (n := slots + 6) (by omega) (by omega) ?_
  exact kk v a cn gs vs bs f np u9 ed hh w pf hI.up H locs ls hP.swp hD.swp hS hl
set_option maxHeartbeats 4000000 in
set_option maxRecDepth 100000 in
theorem law_position (X : LX p s m c D cI cJ cS b L xs) (hlt : l.stackTraces = false) (hL : L ≤ 2048) {j : Nat} (hj : 4 * j + 4 ≤ L) {h9 a9 b9 : Nat} {np th ed : Int32} {hh : Int64} {w pf : Nat → Int32} {o0 : Nat} {f : Nat → Int64} {h0 hH hs cn : Nat} {gs : Nat → Nat → Nat} {vs : Nat → Nat → Int32} {bs : Nat → Nat → Nat → Int32} {g : Nat → Nat} {v : Nat → Int32} {a : Nat → Nat → Int32} (hI : LI j v a cn vs bs w pf np) (hc : cells + 1 ≤ 1115) (hsl : slots + 6 ≤ 9621) (hP : va_P D vwCl (lwM h9 a9 b9 np th ed hh w pf cI ++ oxw o0 f cJ h0 hH hs cn gs vs bs g v a cI cS) H) (hD : va_D (lwA s) (lwM h9 a9 b9 np th ed hh w pf cI ++ oxw o0 f cJ h0 hH hs cn gs vs bs g v a cI cS)) (hS : va_S (lwA s) s.heap H locs) (hl : lv_has ls 9 [(0, .ref b), (1, .ref h0), (2, .ref h9), (3, .ref o0), (4, .int (nI (4 * j)))])
    (kk : ∀ (v : Nat → Int32) (a : Nat → Nat → Int32) (cn : Nat) (gs : Nat → Nat → Nat) (vs : Nat → Nat → Int32) (bs : Nat → Nat → Nat → Int32) (f : Nat → Int64) (np th ed : Int32) (hh : Int64) (w pf : Nat → Int32), LI (j + 1) v a cn vs bs w pf np → ∀ (H : Heap) (locs : List Loc) (ls : Array Slot), va_P D vwCl (lwM h9 a9 b9 np th ed hh w pf cI ++ oxw o0 f cJ h0 hH hs cn gs vs bs g v a cI cS) H → va_D (lwA s) (lwM h9 a9 b9 np th ed hh w pf cI ++ oxw o0 f cJ h0 hH hs cn gs vs bs g v a cI cS) → va_S (lwA s) s.heap H locs → lv_has ls 9 [(0, .ref b), (1, .ref h0), (2, .ref h9), (3, .ref o0), (4, .int (nI (4 * j)))] → W p l e room_1 s m #[Value.ref b] below meth c H locs (cells + 1) (slots + 6) Q (F0 m 1178 ls [])) : W p l e room_1 s m #[Value.ref b] below meth c H locs cells slots Q (F0 m 885 ls []) := by
  obtain ⟨hx, hb, hml, hown, hts, hX, hbl, hK, hG, hN⟩ := id X
  have hc0 : cells ≤ 1115 := by omega
  have hs0 : slots ≤ 9621 := by omega
  refine lv_aload_n hx hb dL_law_885 rfl (lv_at hl 1 rfl) ?_
  refine my_callV_i (As := []) (rest := []) (wc := hcw h0 hH hs cn gs vs bs g v a cI cS) (wr := (lwM h9 a9 b9 np th ed hh w pf cI ++ [(o0, .inl (cJ, 1, .inr (.inl f)))])) (ws := (lwM h9 a9 b9 np th ed hh w pf cI ++ [(o0, .inl (cJ, 1, .inr (.inl f)))]) ++ hcw h0 hH hs cn gs vs bs g v a cI cS) ⟨hx, hb, hml, hown, hts⟩ (met_X8_position l D cI cJ cS h0 hH hs g v a cn gs vs bs  _) (cwV 0 hts gL_law_X8_position rfl rfl rfl (by decide +kernel) ⟨Nat.le_of_ble_eq_true rfl, Nat.le_of_ble_eq_true rfl⟩) hK hP hD hS (fun _ h => h) hG _ _ (sp_C _ _) (sp_R _ _) (sp_nC _ _) (sp_nR _) (sp_dis _ _) 0 rfl rfl rfl hl.1 (Nat.le_of_ble_eq_true rfl) rfl dL_law_886 ⟨hc0, hs0⟩ (fun r8 u8 H locs hw8 hP hD hS => ?_)
  have hP : va_P D vwCl (lwM h9 a9 b9 np th ed hh w pf cI ++ oxw o0 f cJ h0 hH hs cn gs vs bs g v a cI cS) H := hP
  have hD : va_D (lwA s) (lwM h9 a9 b9 np th ed hh w pf cI ++ oxw o0 f cJ h0 hH hs cn gs vs bs g v a cI cS) := hD
  refine lv_aload_n hx hb dL_law_889 rfl (lv_at hl 2 rfl) ?_
  refine my_callV_i (As := []) (rest := [.int r8]) (wc := lwM h9 a9 b9 np th ed hh w pf cI) (wr := oxw o0 f cJ h0 hH hs cn gs vs bs g v a cI cS) ⟨hx, hb, hml, hown, hts⟩ (met_X9_position l D cI cJ cS h9 a9 b9 np th ed hh w pf  _) (cwV 0 hts gL_law_X9_position rfl rfl rfl (by decide +kernel) ⟨Nat.le_of_ble_eq_true rfl, Nat.le_of_ble_eq_true rfl⟩) hK hP.swp hD.swp hS (fun _ h => h) hG _ _ (sp_C _ _) (sp_R _ _) (sp_nC _ _) (sp_nR _) (sp_dis _ _) 0 rfl rfl rfl hl.1 (Nat.le_of_ble_eq_true rfl) rfl dL_law_890 ⟨hc0, hs0⟩ (fun r9 u9 H locs hw9 hP hD hS => ?_)
  have e : r8 = r9 := by
    rw [hw8, show r9 = _ from congrArg Prod.fst hw9]
    exact hI.eq (k := 28) (by decide)
  subst e
  refine lv_icmp_eq (tgt := 1178) hx hb dL_law_893 (by decide) (fun _ => ?_) (fun z => absurd rfl z)
  refine W.widen (k := cells + 1) (n := slots + 6) (by omega) (by omega) ?_
  exact kk v a cn gs vs bs f np u9 ed hh w pf hI.up H locs ls hP.swp hD.swp hS hl
set_option maxHeartbeats 4000000 in
set_option maxRecDepth 100000 in
theorem law_waiting (X : LX p s m c D cI cJ cS b L xs) (hlt : l.stackTraces = false) (hL : L ≤ 2048) {j : Nat} (hj : 4 * j + 4 ≤ L) {h9 a9 b9 : Nat} {np th ed : Int32} {hh : Int64} {w pf : Nat → Int32} {o0 : Nat} {f : Nat → Int64} {h0 hH hs cn : Nat} {gs : Nat → Nat → Nat} {vs : Nat → Nat → Int32} {bs : Nat → Nat → Nat → Int32} {g : Nat → Nat} {v : Nat → Int32} {a : Nat → Nat → Int32} (hI : LI j v a cn vs bs w pf np) (hc : cells + 1 ≤ 1115) (hsl : slots + 6 ≤ 9621) (hP : va_P D vwCl (lwM h9 a9 b9 np th ed hh w pf cI ++ oxw o0 f cJ h0 hH hs cn gs vs bs g v a cI cS) H) (hD : va_D (lwA s) (lwM h9 a9 b9 np th ed hh w pf cI ++ oxw o0 f cJ h0 hH hs cn gs vs bs g v a cI cS)) (hS : va_S (lwA s) s.heap H locs) (hl : lv_has ls 9 [(0, .ref b), (1, .ref h0), (2, .ref h9), (3, .ref o0), (4, .int (nI (4 * j)))])
    (kk : ∀ (v : Nat → Int32) (a : Nat → Nat → Int32) (cn : Nat) (gs : Nat → Nat → Nat) (vs : Nat → Nat → Int32) (bs : Nat → Nat → Nat → Int32) (f : Nat → Int64) (np th ed : Int32) (hh : Int64) (w pf : Nat → Int32), LI (j + 1) v a cn vs bs w pf np → ∀ (H : Heap) (locs : List Loc) (ls : Array Slot), va_P D vwCl (lwM h9 a9 b9 np th ed hh w pf cI ++ oxw o0 f cJ h0 hH hs cn gs vs bs g v a cI cS) H → va_D (lwA s) (lwM h9 a9 b9 np th ed hh w pf cI ++ oxw o0 f cJ h0 hH hs cn gs vs bs g v a cI cS) → va_S (lwA s) s.heap H locs → lv_has ls 9 [(0, .ref b), (1, .ref h0), (2, .ref h9), (3, .ref o0), (4, .int (nI (4 * j)))] → W p l e room_1 s m #[Value.ref b] below meth c H locs (cells + 1) (slots + 6) Q (F0 m 1178 ls [])) : W p l e room_1 s m #[Value.ref b] below meth c H locs cells slots Q (F0 m 1107 ls []) := by
  obtain ⟨hx, hb, hml, hown, hts, hX, hbl, hK, hG, hN⟩ := id X
  have hc0 : cells ≤ 1115 := by omega
  have hs0 : slots ≤ 9621 := by omega
  refine lv_aload_n hx hb dL_law_1107 rfl (lv_at hl 1 rfl) ?_
  refine my_callV_i (As := []) (rest := []) (wc := hcw h0 hH hs cn gs vs bs g v a cI cS) (wr := (lwM h9 a9 b9 np th ed hh w pf cI ++ [(o0, .inl (cJ, 1, .inr (.inl f)))])) (ws := (lwM h9 a9 b9 np th ed hh w pf cI ++ [(o0, .inl (cJ, 1, .inr (.inl f)))]) ++ hcw h0 hH hs cn gs vs bs g v a cI cS) ⟨hx, hb, hml, hown, hts⟩ (met_X8_waiting l D cI cJ cS h0 hH hs g v a cn gs vs bs  _) (cwV 0 hts gL_law_X8_waiting rfl rfl rfl (by decide +kernel) ⟨Nat.le_of_ble_eq_true rfl, Nat.le_of_ble_eq_true rfl⟩) hK hP hD hS (fun _ h => h) hG _ _ (sp_C _ _) (sp_R _ _) (sp_nC _ _) (sp_nR _) (sp_dis _ _) 0 rfl rfl rfl hl.1 (Nat.le_of_ble_eq_true rfl) rfl dL_law_1108 ⟨hc0, hs0⟩ (fun r8 u8 H locs hw8 hP hD hS => ?_)
  have hP : va_P D vwCl (lwM h9 a9 b9 np th ed hh w pf cI ++ oxw o0 f cJ h0 hH hs cn gs vs bs g v a cI cS) H := hP
  have hD : va_D (lwA s) (lwM h9 a9 b9 np th ed hh w pf cI ++ oxw o0 f cJ h0 hH hs cn gs vs bs g v a cI cS) := hD
  refine lv_aload_n hx hb dL_law_1111 rfl (lv_at hl 2 rfl) ?_
  refine my_callV_i (As := []) (rest := [.int r8]) (wc := lwM h9 a9 b9 np th ed hh w pf cI) (wr := oxw o0 f cJ h0 hH hs cn gs vs bs g v a cI cS) ⟨hx, hb, hml, hown, hts⟩ (met_X9_waiting l D cI cJ cS h9 a9 b9 np th ed hh w pf  _) (cwV 0 hts gL_law_X9_waiting rfl rfl rfl (by decide +kernel) ⟨Nat.le_of_ble_eq_true rfl, Nat.le_of_ble_eq_true rfl⟩) hK hP.swp hD.swp hS (fun _ h => h) hG _ _ (sp_C _ _) (sp_R _ _) (sp_nC _ _) (sp_nR _) (sp_dis _ _) 0 rfl rfl rfl hl.1 (Nat.le_of_ble_eq_true rfl) rfl dL_law_1112 ⟨hc0, hs0⟩ (fun r9 u9 H locs hw9 hP hD hS => ?_)
  have e : r8 = r9 := by
    rw [hw8, show r9 = _ from congrArg Prod.fst hw9]
    exact hI.eq (k := 48) (by decide)
  subst e
  refine lv_icmp_eq (tgt := 1178) hx hb dL_law_1115 (by decide) (fun _ => ?_) (fun z => absurd rfl z)
  refine W.widen (k := cells + 1) (n := slots + 6) (by omega) (by omega) ?_
  exact kk v a cn gs vs bs f np u9 ed hh w pf hI.up H locs ls hP.swp hD.swp hS hl
set_option maxHeartbeats 4000000 in
set_option maxRecDepth 100000 in
theorem law_digest (X : LX p s m c D cI cJ cS b L xs) (hlt : l.stackTraces = false) (hL : L ≤ 2048) {j : Nat} (hj : 4 * j + 4 ≤ L) {h9 a9 b9 : Nat} {np th ed : Int32} {hh : Int64} {w pf : Nat → Int32} {o0 : Nat} {f : Nat → Int64} {h0 hH hs cn : Nat} {gs : Nat → Nat → Nat} {vs : Nat → Nat → Int32} {bs : Nat → Nat → Nat → Int32} {g : Nat → Nat} {v : Nat → Int32} {a : Nat → Nat → Int32} (hI : LI j v a cn vs bs w pf np) (hc : cells + 1 ≤ 1115) (hsl : slots + 6 ≤ 9621) (hP : va_P D vwCl (lwM h9 a9 b9 np th ed hh w pf cI ++ oxw o0 f cJ h0 hH hs cn gs vs bs g v a cI cS) H) (hD : va_D (lwA s) (lwM h9 a9 b9 np th ed hh w pf cI ++ oxw o0 f cJ h0 hH hs cn gs vs bs g v a cI cS)) (hS : va_S (lwA s) s.heap H locs) (hl : lv_has ls 9 [(0, .ref b), (1, .ref h0), (2, .ref h9), (3, .ref o0), (4, .int (nI (4 * j)))])
    (kk : ∀ (v : Nat → Int32) (a : Nat → Nat → Int32) (cn : Nat) (gs : Nat → Nat → Nat) (vs : Nat → Nat → Int32) (bs : Nat → Nat → Nat → Int32) (f : Nat → Int64) (np th ed : Int32) (hh : Int64) (w pf : Nat → Int32), LI (j + 1) v a cn vs bs w pf np → ∀ (H : Heap) (locs : List Loc) (ls : Array Slot), va_P D vwCl (lwM h9 a9 b9 np th ed hh w pf cI ++ oxw o0 f cJ h0 hH hs cn gs vs bs g v a cI cS) H → va_D (lwA s) (lwM h9 a9 b9 np th ed hh w pf cI ++ oxw o0 f cJ h0 hH hs cn gs vs bs g v a cI cS) → va_S (lwA s) s.heap H locs → lv_has ls 9 [(0, .ref b), (1, .ref h0), (2, .ref h9), (3, .ref o0), (4, .int (nI (4 * j)))] → W p l e room_1 s m #[Value.ref b] below meth c H locs (cells + 1) (slots + 6) Q (F0 m 1178 ls [])) : W p l e room_1 s m #[Value.ref b] below meth c H locs cells slots Q (F0 m 1164 ls []) := by
  obtain ⟨hx, hb, hml, hown, hts, hX, hbl, hK, hG, hN⟩ := id X
  have hc0 : cells ≤ 1115 := by omega
  have hs0 : slots ≤ 9621 := by omega
  refine lv_aload_n hx hb dL_law_1164 rfl (lv_at hl 1 rfl) ?_
  refine my_callV_l (As := []) (rest := []) (wc := hcw h0 hH hs cn gs vs bs g v a cI cS) (wr := (lwM h9 a9 b9 np th ed hh w pf cI ++ [(o0, .inl (cJ, 1, .inr (.inl f)))])) (ws := (lwM h9 a9 b9 np th ed hh w pf cI ++ [(o0, .inl (cJ, 1, .inr (.inl f)))]) ++ hcw h0 hH hs cn gs vs bs g v a cI cS) ⟨hx, hb, hml, hown, hts⟩ (met_X8_digest l D cI cJ cS h0 hH hs g v a cn gs vs bs hI.v35 hI.v48 _) (cwV 0 hts gL_law_X8_digest rfl rfl rfl (by decide +kernel) ⟨Nat.le_of_ble_eq_true rfl, Nat.le_of_ble_eq_true rfl⟩) hK hP hD hS (fun _ h => h) hG _ _ (sp_C _ _) (sp_R _ _) (sp_nC _ _) (sp_nR _) (sp_dis _ _) 0 rfl rfl rfl hl.1 (Nat.le_of_ble_eq_true rfl) rfl dL_law_1165 ⟨hc0, hs0⟩ (fun r8 u8 H locs hw8 hP hD hS => ?_)
  have hP : va_P D vwCl (lwM h9 a9 b9 np th ed hh w pf cI ++ oxw o0 f cJ h0 hH hs cn gs vs bs g v a cI cS) H := hP
  have hD : va_D (lwA s) (lwM h9 a9 b9 np th ed hh w pf cI ++ oxw o0 f cJ h0 hH hs cn gs vs bs g v a cI cS) := hD
  refine lv_aload_n hx hb dL_law_1168 rfl (lv_at hl 2 rfl) ?_
  refine my_callV_l (As := []) (rest := [.long r8]) (wc := lwM h9 a9 b9 np th ed hh w pf cI) (wr := oxw o0 f cJ h0 hH hs cn gs vs bs g v a cI cS) ⟨hx, hb, hml, hown, hts⟩ (met_X9_digest l D cI cJ cS h9 a9 b9 np th ed hh w pf hI.w35 hI.w48 _) (cwV 0 hts gL_law_X9_digest rfl rfl rfl (by decide +kernel) ⟨Nat.le_of_ble_eq_true rfl, Nat.le_of_ble_eq_true rfl⟩) hK hP.swp hD.swp hS (fun _ h => h) hG _ _ (sp_C _ _) (sp_R _ _) (sp_nC _ _) (sp_nR _) (sp_dis _ _) 0 rfl rfl rfl hl.1 (Nat.le_of_ble_eq_true rfl) rfl dL_law_1169 ⟨hc0, hs0⟩ (fun r9 u9 H locs hw9 hP hD hS => ?_)
  have e : r8 = r9 := by
    rw [hw8, show r9 = _ from congrArg Prod.fst hw9]
    exact (dig_eq hI.1 hI.2.1 hI.2.2.1).symm
  subst e
  refine W.lcmp hx hb dL_law_1172 ?_
  have hz : lg_cmp r8 r8 = 0 := by simp [lg_cmp]
  rw [hz]
  refine lv_if_eq (tgt := 1178) hx hb dL_law_1173 (by decide) (fun _ => ?_) (fun z => absurd rfl z)
  refine W.widen (k := cells + 1) (n := slots + 6) (by omega) (by omega) ?_
  exact kk v a cn gs vs bs f np u9.1 ed u9.2 w pf hI.up H locs ls hP.swp hD.swp hS hl
set_option maxHeartbeats 4000000 in
set_option maxRecDepth 100000 in
theorem law_speed (X : LX p s m c D cI cJ cS b L xs) (hlt : l.stackTraces = false) (hL : L ≤ 2048) {j : Nat} (hj : 4 * j + 4 ≤ L) {h9 a9 b9 : Nat} {np th ed : Int32} {hh : Int64} {w pf : Nat → Int32} {o0 : Nat} {f : Nat → Int64} {h0 hH hs cn : Nat} {gs : Nat → Nat → Nat} {vs : Nat → Nat → Int32} {bs : Nat → Nat → Nat → Int32} {g : Nat → Nat} {v : Nat → Int32} {a : Nat → Nat → Int32} (hI : LI j v a cn vs bs w pf np) (hc : cells + 1 ≤ 1115) (hsl : slots + 6 ≤ 9621) (hP : va_P D vwCl (lwM h9 a9 b9 np th ed hh w pf cI ++ oxw o0 f cJ h0 hH hs cn gs vs bs g v a cI cS) H) (hD : va_D (lwA s) (lwM h9 a9 b9 np th ed hh w pf cI ++ oxw o0 f cJ h0 hH hs cn gs vs bs g v a cI cS)) (hS : va_S (lwA s) s.heap H locs) (hl : lv_has ls 9 [(0, .ref b), (1, .ref h0), (2, .ref h9), (3, .ref o0), (4, .int (nI (4 * j)))])
    (kk : ∀ (v : Nat → Int32) (a : Nat → Nat → Int32) (cn : Nat) (gs : Nat → Nat → Nat) (vs : Nat → Nat → Int32) (bs : Nat → Nat → Nat → Int32) (f : Nat → Int64) (np th ed : Int32) (hh : Int64) (w pf : Nat → Int32), LI (j + 1) v a cn vs bs w pf np → ∀ (H : Heap) (locs : List Loc) (ls : Array Slot), va_P D vwCl (lwM h9 a9 b9 np th ed hh w pf cI ++ oxw o0 f cJ h0 hH hs cn gs vs bs g v a cI cS) H → va_D (lwA s) (lwM h9 a9 b9 np th ed hh w pf cI ++ oxw o0 f cJ h0 hH hs cn gs vs bs g v a cI cS) → va_S (lwA s) s.heap H locs → lv_has ls 9 [(0, .ref b), (1, .ref h0), (2, .ref h9), (3, .ref o0), (4, .int (nI (4 * j)))] → W p l e room_1 s m #[Value.ref b] below meth c H locs (cells + 1) (slots + 6) Q (F0 m 1178 ls [])) : W p l e room_1 s m #[Value.ref b] below meth c H locs cells slots Q (F0 m 1010 ls []) := by
  obtain ⟨hx, hb, hml, hown, hts, hX, hbl, hK, hG, hN⟩ := id X
  have hc0 : cells ≤ 1115 := by omega
  have hs0 : slots ≤ 9621 := by omega
  refine lv_aload_n hx hb dL_law_1010 rfl (lv_at hl 1 rfl) ?_
  refine my_callV_d (As := []) (rest := []) (wc := hcw h0 hH hs cn gs vs bs g v a cI cS) (wr := (lwM h9 a9 b9 np th ed hh w pf cI ++ [(o0, .inl (cJ, 1, .inr (.inl f)))])) (ws := (lwM h9 a9 b9 np th ed hh w pf cI ++ [(o0, .inl (cJ, 1, .inr (.inl f)))]) ++ hcw h0 hH hs cn gs vs bs g v a cI cS) ⟨hx, hb, hml, hown, hts⟩ (met_X8_speed l D cI cJ cS h0 hH hs g v a cn gs vs bs hI.v35 hI.dv _) (cwV 0 hts gL_law_X8_speed rfl rfl rfl (by decide +kernel) ⟨Nat.le_of_ble_eq_true rfl, Nat.le_of_ble_eq_true rfl⟩) hK hP hD hS (fun _ h => h) hG _ _ (sp_C _ _) (sp_R _ _) (sp_nC _ _) (sp_nR _) (sp_dis _ _) 0 rfl rfl rfl hl.1 (Nat.le_of_ble_eq_true rfl) rfl dL_law_1011 ⟨hc0, hs0⟩ (fun r8 u8 H locs hw8 hP hD hS => ?_)
  have hP : va_P D vwCl (lwM h9 a9 b9 np th ed hh w pf cI ++ oxw o0 f cJ h0 hH hs cn gs vs bs g v a cI cS) H := hP
  have hD : va_D (lwA s) (lwM h9 a9 b9 np th ed hh w pf cI ++ oxw o0 f cJ h0 hH hs cn gs vs bs g v a cI cS) := hD
  refine lv_dstore (lv' := [(5, .double r8), (0, .ref b), (1, .ref h0), (2, .ref h9), (3, .ref o0), (4, .int (nI (4 * j)))]) hx hb dL_law_1014 hl (by decide) rfl (fun ls hl => ?_)
  refine lv_aload_n hx hb dL_law_1016 rfl (lv_at hl 3 rfl) ?_
  refine my_callV_d (As := []) (rest := []) (wc := lwM h9 a9 b9 np th ed hh w pf cI) (wr := oxw o0 f cJ h0 hH hs cn gs vs bs g v a cI cS) ⟨hx, hb, hml, hown, hts⟩ (met_X9_speed l D cI cJ cS h9 a9 b9 np th ed hh w pf hI.w35 hI.dw _) (cwV 0 hts gL_law_X9_speed rfl rfl rfl (by decide +kernel) ⟨Nat.le_of_ble_eq_true rfl, Nat.le_of_ble_eq_true rfl⟩) hK hP.swp hD.swp hS (fun _ h => h) hG _ _ (sp_C _ _) (sp_R _ _) (sp_nC _ _) (sp_nR _) (sp_dis _ _) 0 rfl rfl rfl hl.1 (Nat.le_of_ble_eq_true rfl) rfl dL_law_1017 ⟨hc0, hs0⟩ (fun r9 u9 H locs hw9 hP hD hS => ?_)
  have e : r9 = r8 := by
    rw [hw8, show r9 = _ from congrArg Prod.fst hw9]
    exact spd_eq hI.1 hI.2.1 (by omega)
  subst e
  refine lv_dstore (lv' := [(7, .double r9), (5, .double r9), (0, .ref b), (1, .ref h0), (2, .ref h9), (3, .ref o0), (4, .int (nI (4 * j)))]) hx hb dL_law_1020 hl (by decide) rfl (fun ls hl => ?_)
  refine lv_dload hx hb dL_law_1022 (lv_at hl 1 rfl) ?_
  refine lv_dload hx hb dL_law_1024 (lv_at hl 0 rfl) ?_
  refine lv_dcmp hx hb dL_law_1026 ?_
  obtain ⟨z, hz⟩ : ∃ z, z = Op.cmpValue (FP.dcmp r9 r9) CmpOp.l := ⟨_, rfl⟩
  rw [← hz]
  refine lv_if_eq (tgt := 1048) hx hb dL_law_1027 (by decide) (fun q => ?_) (fun q => ?_)
  · refine lv_goto (tgt := 1178) hx hb dL_law_1048 (by decide) ?_
    refine W.widen (k := cells + 1) (n := slots + 6) (by omega) (by omega) ?_
    exact kk v a cn gs vs bs f np u9 ed hh w pf hI.up H locs ls hP.swp hD.swp hS (lv_sub hl [2, 3, 4, 5, 6] rfl)
  · refine lv_dload hx hb dL_law_1030 (lv_at hl 1 rfl) ?_
    refine lv_dload hx hb dL_law_1032 (lv_at hl 1 rfl) ?_
    refine lv_dcmp hx hb dL_law_1034 ?_
    rw [← hz]
    refine lv_if_eq (tgt := 1046) hx hb dL_law_1035 (by decide) (fun q2 => absurd q2 q) (fun _ => ?_)
    refine lv_dload hx hb dL_law_1038 (lv_at hl 0 rfl) ?_
    refine lv_dload hx hb dL_law_1040 (lv_at hl 0 rfl) ?_
    refine lv_dcmp hx hb dL_law_1042 ?_
    rw [← hz]
    refine lv_if_ne (tgt := 1048) hx hb dL_law_1043 (by decide) (fun _ => ?_) (fun q2 => absurd q2 q)
    refine lv_goto (tgt := 1178) hx hb dL_law_1048 (by decide) ?_
    refine W.widen (k := cells + 1) (n := slots + 6) (by omega) (by omega) ?_
    exact kk v a cn gs vs bs f np u9 ed hh w pf hI.up H locs ls hP.swp hD.swp hS (lv_sub hl [2, 3, 4, 5, 6] rfl)
end LawCases2
