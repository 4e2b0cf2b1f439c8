/-! the law: its cases -/
section LawCases
variable {p : Program} {l : Launch} {e : Env} {s : State} {m : MethodId} {below : List Frame} {meth : Method} {c : Code} {Q : State → Prop} {D : va_G} {cI cJ cS : ClassId} {b L : Nat} {xs : Nat → Int32}
variable {H : Heap} {locs : List Loc} {cells slots : Nat} {ls : Array Slot} {rest : List Value}
theorem law_bool (X : LX p s m c D cI cJ cS b L xs) {T : Nat} {y : Int32} (d0 : decode cL_law T = .ok (.ifCond .eq 7, 3)) (d3 : decode cL_law (T + 3) = .ok (.iconst 1, 1)) (d4 : decode cL_law (T + 4) = .ok (.goto 4, 3)) (d7 : decode cL_law (T + 7) = .ok (.iconst 0, 1))
    (kk : W p l e room_1 s m #[Value.ref b] below meth c H locs cells slots Q (F0 m (T + 8) ls (.int (if y = 0 then 0 else 1) :: rest))) : W p l e room_1 s m #[Value.ref b] below meth c H locs cells slots Q (F0 m T ls (.int y :: rest)) := by
  obtain ⟨hx, hb, hml, hown, hts, hX, hbl, hK, hG, hN⟩ := X
  refine lv_if_eq (tgt := T + 7) hx hb d0 (by omega) (fun q => ?_) (fun q => ?_)
  · rw [if_pos q] at kk
    refine lv_iconst (v := 0) hx hb d7 (by decide) ?_
    exact kk
  · rw [if_neg q] at kk
    refine lv_iconst (v := 1) hx hb d3 (by decide) ?_
    refine lv_goto (tgt := T + 8) hx hb d4 (by omega) ?_
    exact kk
theorem LI.np5 {n : Nat} {v : Nat → Int32} {a : Nat → Nat → Int32} {c : Nat} {vs : Nat → Nat → Int32} {bs : Nat → Nat → Nat → Int32} {w pf : Nat → Int32} {np : Int32} (h : LI n v a c vs bs w pf np) : vp_in np 5 := by
  rw [h.2.2.1]
  exact vp_in_nI (by have := h.2.2.2.1; omega) (by decide)
theorem LI.v48 {n : Nat} {v : Nat → Int32} {a : Nat → Nat → Int32} {c : Nat} {vs : Nat → Nat → Int32} {bs : Nat → Nat → Nat → Int32} {w pf : Nat → Int32} {np : Int32} (h : LI n v a c vs bs w pf np) : vp_in (v 48) 41 := h.2.1.2.1.1
theorem LI.v35 {n : Nat} {v : Nat → Int32} {a : Nat → Nat → Int32} {c : Nat} {vs : Nat → Nat → Int32} {bs : Nat → Nat → Nat → Int32} {w pf : Nat → Int32} {np : Int32} (h : LI n v a c vs bs w pf np) : vp_in (v 35) 7 := h.2.1.2.2.1.1
theorem LI.w48 {n : Nat} {v : Nat → Int32} {a : Nat → Nat → Int32} {c : Nat} {vs : Nat → Nat → Int32} {bs : Nat → Nat → Nat → Int32} {w pf : Nat → Int32} {np : Int32} (h : LI n v a c vs bs w pf np) : vp_in (w 48) 41 := by rw [← h.eq (k := 48) (by decide)]; exact h.v48
theorem LI.w35 {n : Nat} {v : Nat → Int32} {a : Nat → Nat → Int32} {c : Nat} {vs : Nat → Nat → Int32} {bs : Nat → Nat → Nat → Int32} {w pf : Nat → Int32} {np : Int32} (h : LI n v a c vs bs w pf np) : vp_in (w 35) 7 := by rw [← h.eq (k := 35) (by decide)]; exact h.v35
theorem LI.dv {n : Nat} {v : Nat → Int32} {a : Nat → Nat → Int32} {c : Nat} {vs : Nat → Nat → Int32} {bs : Nat → Nat → Nat → Int32} {w pf : Nat → Int32} {np : Int32} (h : LI n v a c vs bs w pf np) : v 34 = 1 ∨ v 34 = -1 ∨ v 35 = 0 := by
  rcases h.2.1.2.2.1.2.2 with ⟨_, q⟩ | ⟨q | q, _⟩
  · exact Or.inr (Or.inr q)
  · exact Or.inl q
  · exact Or.inr (Or.inl q)
theorem LI.dw {n : Nat} {v : Nat → Int32} {a : Nat → Nat → Int32} {c : Nat} {vs : Nat → Nat → Int32} {bs : Nat → Nat → Nat → Int32} {w pf : Nat → Int32} {np : Int32} (h : LI n v a c vs bs w pf np) : w 34 = 1 ∨ w 34 = -1 ∨ w 35 = 0 := by
  rcases h.1.2.2.2.2.2 with ⟨q, _⟩ | ⟨q, q2, _⟩
  · rw [← h.eq (k := 35) (by decide)]
    rcases h.dv with z | z | z
    · rw [q] at z; exact absurd z (by decide)
    · rw [q] at z; exact absurd z (by decide)
    · exact Or.inr (Or.inr z)
  · rw [← q2]
    rcases q with z | z
    · exact Or.inl z
    · exact Or.inr (Or.inl z)
set_option maxHeartbeats 4000000 in
set_option maxRecDepth 100000 in
theorem law_setFilter (X : LX p s m c D cI cJ cS b L xs) (hlt : l.stackTraces = false) (hL : L ≤ 2048) {j : Nat} (hj : 4 * j + 4 ≤ L) {h9 a9 b9 : Nat} {np th ed : Int32} {hh : Int64} {w pf : Nat → Int32} {o0 : Nat} {f : Nat → Int64} {h0 hH hs cn : Nat} {gs : Nat → Nat → Nat} {vs : Nat → Nat → Int32} {bs : Nat → Nat → Nat → Int32} {g : Nat → Nat} {v : Nat → Int32} {a : Nat → Nat → Int32} (hI : LI j v a cn vs bs w pf np) (hc : cells + 1 ≤ 1115) (hsl : slots + 6 ≤ 9621) (hP : va_P D vwCl (lwM h9 a9 b9 np th ed hh w pf cI ++ oxw o0 f cJ h0 hH hs cn gs vs bs g v a cI cS) H) (hD : va_D (lwA s) (lwM h9 a9 b9 np th ed hh w pf cI ++ oxw o0 f cJ h0 hH hs cn gs vs bs g v a cI cS)) (hS : va_S (lwA s) s.heap H locs) (hl : lv_has ls 9 [(0, .ref b), (1, .ref h0), (2, .ref h9), (3, .ref o0), (4, .int (nI (4 * j)))])
    (kk : ∀ (v : Nat → Int32) (a : Nat → Nat → Int32) (cn : Nat) (gs : Nat → Nat → Nat) (vs : Nat → Nat → Int32) (bs : Nat → Nat → Nat → Int32) (f : Nat → Int64) (np th ed : Int32) (hh : Int64) (w pf : Nat → Int32), LI (j + 1) v a cn vs bs w pf np → ∀ (H : Heap) (locs : List Loc) (ls : Array Slot), va_P D vwCl (lwM h9 a9 b9 np th ed hh w pf cI ++ oxw o0 f cJ h0 hH hs cn gs vs bs g v a cI cS) H → va_D (lwA s) (lwM h9 a9 b9 np th ed hh w pf cI ++ oxw o0 f cJ h0 hH hs cn gs vs bs g v a cI cS) → va_S (lwA s) s.heap H locs → lv_has ls 9 [(0, .ref b), (1, .ref h0), (2, .ref h9), (3, .ref o0), (4, .int (nI (4 * j)))] → W p l e room_1 s m #[Value.ref b] below meth c H locs (cells + 1) (slots + 6) Q (F0 m 1178 ls [])) : W p l e room_1 s m #[Value.ref b] below meth c H locs cells slots Q (F0 m 136 ls []) := by
  obtain ⟨hx, hb, hml, hown, hts, hX, hbl, hK, hG, hN⟩ := id X
  refine lv_aload_n hx hb dL_law_136 rfl (lv_at hl 1 rfl) ?_
  refine law_arg X hS (q := 1) (j := j) (by omega) hL (lv_at hl 0 rfl) (lv_at hl 4 rfl) dL_law_137 dL_law_138 dL_law_140 rfl dL_law_141 dL_law_142 ?_
  refine lv_aload_n hx hb dL_law_143 rfl (lv_at hl 3 rfl) ?_
  refine my_callW_i (As := [.ref h0, .int (xs (4 * j + 1)), .ref o0]) (rest := []) (wc := oxw o0 f cJ h0 hH hs cn gs vs bs g v a cI cS) (wr := lwM h9 a9 b9 np th ed hh w pf cI) ⟨hx, hb, hml, hown, hts⟩ (met_L_setFilter l hlt D cI cJ cS h0 hH hs g v a cn gs vs bs (xs (4 * j + 1)) o0 f hI.2.2.2.1 _) (vx_cwSW 3 hts gL_law_L_setFilter rfl rfl rfl (by decide +kernel) ⟨Nat.le_of_ble_eq_true rfl, Nat.le_of_ble_eq_true rfl⟩) hN hK hP hD hS (fun _ h => h) hG rfl hl.1 (Nat.le_of_ble_eq_true rfl) rfl dL_law_144 ⟨hc, hsl⟩ (fun k u H locs hw hP hD hS => ?_)
  refine lv_istore (lv' := [(5, .int k), (0, .ref b), (1, .ref h0), (2, .ref h9), (3, .ref o0), (4, .int (nI (4 * j)))]) hx hb dL_law_147 hl (by decide) rfl (fun ls hl => ?_)
  refine lv_aload_n hx hb dL_law_149 rfl (lv_at hl 3 rfl) ?_
  refine law_arg X hS (q := 1) (j := j) (by omega) hL (lv_at hl 1 rfl) (lv_at hl 5 rfl) dL_law_150 dL_law_151 dL_law_153 rfl dL_law_154 dL_law_155 ?_
  refine my_callV_i (As := [.int (xs (4 * j + 1))]) (rest := []) (wc := lwM h9 a9 b9 np th ed hh w pf cI) (wr := oxw o0 u.2 cJ h0 hH hs u.1.2.2.1 u.1.2.2.2.1 u.1.2.2.2.2.1 u.1.2.2.2.2.2 g u.1.1 u.1.2.1 cI cS) ⟨hx, hb, hml, hown, hts⟩ (met_X9_setFilter l D cI cJ cS h9 a9 b9 np th ed hh w pf (xs (4 * j + 1)) hI.np5 _) (cwV 1 hts gL_law_X9_setFilter rfl rfl rfl (by decide +kernel) ⟨Nat.le_of_ble_eq_true rfl, Nat.le_of_ble_eq_true rfl⟩) hK hP.swp hD.swp hS (fun _ h => h) hG _ _ (sp_C _ _) (sp_R _ _) (sp_nC _ _) (sp_nR _) (sp_dis _ _) 0 rfl rfl rfl hl.1 (Nat.le_of_ble_eq_true rfl) rfl dL_law_156 ⟨hc, hsl⟩ (fun r u9 H locs hw9 hP hD hS => ?_)
  refine lv_istore (lv' := [(6, .int r), (5, .int k), (0, .ref b), (1, .ref h0), (2, .ref h9), (3, .ref o0), (4, .int (nI (4 * j)))]) hx hb dL_law_159 hl (by decide) rfl (fun ls hl => ?_)
  have hO := ok_setFilter (th := th) (ed := ed) (hh := hh) hI (xs (4 * j + 1))
  rw [← hw9] at hO
  obtain ⟨hth, hO0, hO1⟩ := hO
  obtain ⟨hk, hw0, hw1⟩ := hw
  refine law_tail X (T := 161) hc hsl (by decide) dL_law_161 dL_law_162 dL_law_165 dL_law_167 dL_law_172 dL_law_174 dL_law_177 dL_law_178 dL_law_179 dL_law_180 dL_law_182 dL_law_183 dL_law_184 dL_law_189 (hth.trans hk.symm) (fun q => ?_) hP.swp hD.swp hS hl (fun H locs hP hD hS => ?_)
  · have e := hw0 q
    subst e
    have e2 := (hO0 (hk.symm.trans q)).1
    dsimp only at e2
    rw [e2]
    rfl
  · by_cases q : k = 0
    · have e := hw0 q
      subst e
      exact kk _ _ _ _ _ _ _ u9.1 u9.2.1 ed hh u9.2.2.1 u9.2.2.2 (hO0 (hk.symm.trans q)).2 H locs ls hP hD hS (lv_sub hl [2, 3, 4, 5, 6] rfl)
    · have e := hw1 q
      subst e
      exact kk _ _ _ _ _ _ _ u9.1 u9.2.1 ed hh u9.2.2.1 u9.2.2.2 (hO1 (fun z => q (hk.trans z))) H locs ls hP hD hS (lv_sub hl [2, 3, 4, 5, 6] rfl)
set_option maxHeartbeats 4000000 in
set_option maxRecDepth 100000 in
theorem law_setPulse (X : LX p s m c D cI cJ cS b L xs) (hlt : l.stackTraces = false) (hL : L ≤ 2048) {j : Nat} (hj : 4 * j + 4 ≤ L) {h9 a9 b9 : Nat} {np th ed : Int32} {hh : Int64} {w pf : Nat → Int32} {o0 : Nat} {f : Nat → Int64} {h0 hH hs cn : Nat} {gs : Nat → Nat → Nat} {vs : Nat → Nat → Int32} {bs : Nat → Nat → Nat → Int32} {g : Nat → Nat} {v : Nat → Int32} {a : Nat → Nat → Int32} (hI : LI j v a cn vs bs w pf np) (hc : cells + 1 ≤ 1115) (hsl : slots + 6 ≤ 9621) (hP : va_P D vwCl (lwM h9 a9 b9 np th ed hh w pf cI ++ oxw o0 f cJ h0 hH hs cn gs vs bs g v a cI cS) H) (hD : va_D (lwA s) (lwM h9 a9 b9 np th ed hh w pf cI ++ oxw o0 f cJ h0 hH hs cn gs vs bs g v a cI cS)) (hS : va_S (lwA s) s.heap H locs) (hl : lv_has ls 9 [(0, .ref b), (1, .ref h0), (2, .ref h9), (3, .ref o0), (4, .int (nI (4 * j)))])
    (kk : ∀ (v : Nat → Int32) (a : Nat → Nat → Int32) (cn : Nat) (gs : Nat → Nat → Nat) (vs : Nat → Nat → Int32) (bs : Nat → Nat → Nat → Int32) (f : Nat → Int64) (np th ed : Int32) (hh : Int64) (w pf : Nat → Int32), LI (j + 1) v a cn vs bs w pf np → ∀ (H : Heap) (locs : List Loc) (ls : Array Slot), va_P D vwCl (lwM h9 a9 b9 np th ed hh w pf cI ++ oxw o0 f cJ h0 hH hs cn gs vs bs g v a cI cS) H → va_D (lwA s) (lwM h9 a9 b9 np th ed hh w pf cI ++ oxw o0 f cJ h0 hH hs cn gs vs bs g v a cI cS) → va_S (lwA s) s.heap H locs → lv_has ls 9 [(0, .ref b), (1, .ref h0), (2, .ref h9), (3, .ref o0), (4, .int (nI (4 * j)))] → W p l e room_1 s m #[Value.ref b] below meth c H locs (cells + 1) (slots + 6) Q (F0 m 1178 ls [])) : W p l e room_1 s m #[Value.ref b] below meth c H locs cells slots Q (F0 m 192 ls []) := by
  obtain ⟨hx, hb, hml, hown, hts, hX, hbl, hK, hG, hN⟩ := id X
  refine lv_aload_n hx hb dL_law_192 rfl (lv_at hl 1 rfl) ?_
  refine law_arg X hS (q := 1) (j := j) (by omega) hL (lv_at hl 0 rfl) (lv_at hl 4 rfl) dL_law_193 dL_law_194 dL_law_196 rfl dL_law_197 dL_law_198 ?_
  refine law_arg X hS (q := 2) (j := j) (by omega) hL (lv_at hl 0 rfl) (lv_at hl 4 rfl) dL_law_199 dL_law_200 dL_law_202 rfl dL_law_203 dL_law_204 ?_
  refine lv_aload_n hx hb dL_law_205 rfl (lv_at hl 3 rfl) ?_
  refine my_callW_i (As := [.ref h0, .int (xs (4 * j + 1)), .int (xs (4 * j + 2)), .ref o0]) (rest := []) (wc := oxw o0 f cJ h0 hH hs cn gs vs bs g v a cI cS) (wr := lwM h9 a9 b9 np th ed hh w pf cI) ⟨hx, hb, hml, hown, hts⟩ (met_L_setPulse l hlt D cI cJ cS h0 hH hs g v a cn gs vs bs (xs (4 * j + 1)) (xs (4 * j + 2)) o0 f hI.2.2.2.1 _) (vx_cwSW 4 hts gL_law_L_setPulse rfl rfl rfl (by decide +kernel) ⟨Nat.le_of_ble_eq_true rfl, Nat.le_of_ble_eq_true rfl⟩) hN hK hP hD hS (fun _ h => h) hG rfl hl.1 (Nat.le_of_ble_eq_true rfl) rfl dL_law_206 ⟨hc, hsl⟩ (fun k u H locs hw hP hD hS => ?_)
  refine lv_istore (lv' := [(5, .int k), (0, .ref b), (1, .ref h0), (2, .ref h9), (3, .ref o0), (4, .int (nI (4 * j)))]) hx hb dL_law_209 hl (by decide) rfl (fun ls hl => ?_)
  refine lv_aload_n hx hb dL_law_211 rfl (lv_at hl 3 rfl) ?_
  refine law_arg X hS (q := 1) (j := j) (by omega) hL (lv_at hl 1 rfl) (lv_at hl 5 rfl) dL_law_212 dL_law_213 dL_law_215 rfl dL_law_216 dL_law_217 ?_
  refine law_arg X hS (q := 2) (j := j) (by omega) hL (lv_at hl 1 rfl) (lv_at hl 5 rfl) dL_law_218 dL_law_219 dL_law_221 rfl dL_law_222 dL_law_223 ?_
  refine my_callV_i (As := [.int (xs (4 * j + 1)), .int (xs (4 * j + 2))]) (rest := []) (wc := lwM h9 a9 b9 np th ed hh w pf cI) (wr := oxw o0 u.2 cJ h0 hH hs u.1.2.2.1 u.1.2.2.2.1 u.1.2.2.2.2.1 u.1.2.2.2.2.2 g u.1.1 u.1.2.1 cI cS) ⟨hx, hb, hml, hown, hts⟩ (met_X9_setPulse l D cI cJ cS h9 a9 b9 np th ed hh w pf (xs (4 * j + 1)) (xs (4 * j + 2)) hI.np5 _) (cwV 2 hts gL_law_X9_setPulse rfl rfl rfl (by decide +kernel) ⟨Nat.le_of_ble_eq_true rfl, Nat.le_of_ble_eq_true rfl⟩) hK hP.swp hD.swp hS (fun _ h => h) hG _ _ (sp_C _ _) (sp_R _ _) (sp_nC _ _) (sp_nR _) (sp_dis _ _) 0 rfl rfl rfl hl.1 (Nat.le_of_ble_eq_true rfl) rfl dL_law_224 ⟨hc, hsl⟩ (fun r u9 H locs hw9 hP hD hS => ?_)
  refine lv_istore (lv' := [(6, .int r), (5, .int k), (0, .ref b), (1, .ref h0), (2, .ref h9), (3, .ref o0), (4, .int (nI (4 * j)))]) hx hb dL_law_227 hl (by decide) rfl (fun ls hl => ?_)
  have hO := ok_setPulse (th := th) (ed := ed) (hh := hh) hI (xs (4 * j + 1)) (xs (4 * j + 2))
  rw [← hw9] at hO
  obtain ⟨hth, hO0, hO1⟩ := hO
  obtain ⟨hk, hw0, hw1⟩ := hw
  refine law_tail X (T := 229) hc hsl (by decide) dL_law_229 dL_law_230 dL_law_233 dL_law_235 dL_law_240 dL_law_242 dL_law_245 dL_law_246 dL_law_247 dL_law_248 dL_law_250 dL_law_251 dL_law_252 dL_law_257 (hth.trans hk.symm) (fun q => ?_) hP.swp hD.swp hS hl (fun H locs hP hD hS => ?_)
  · have e := hw0 q
    subst e
    have e2 := (hO0 (hk.symm.trans q)).1
    dsimp only at e2
    rw [e2]
    rfl
  · by_cases q : k = 0
    · have e := hw0 q
      subst e
      exact kk _ _ _ _ _ _ _ u9.1 u9.2.1 ed hh u9.2.2.1 u9.2.2.2 (hO0 (hk.symm.trans q)).2 H locs ls hP hD hS (lv_sub hl [2, 3, 4, 5, 6] rfl)
    · have e := hw1 q
      subst e
      exact kk _ _ _ _ _ _ _ u9.1 u9.2.1 ed hh u9.2.2.1 u9.2.2.2 (hO1 (fun z => q (hk.trans z))) H locs ls hP hD hS (lv_sub hl [2, 3, 4, 5, 6] rfl)
set_option maxHeartbeats 4000000 in
set_option maxRecDepth 100000 in
theorem law_setDeadTime (X : LX p s m c D cI cJ cS b L xs) (hlt : l.stackTraces = false) (hL : L ≤ 2048) {j : Nat} (hj : 4 * j + 4 ≤ L) {h9 a9 b9 : Nat} {np th ed : Int32} {hh : Int64} {w pf : Nat → Int32} {o0 : Nat} {f : Nat → Int64} {h0 hH hs cn : Nat} {gs : Nat → Nat → Nat} {vs : Nat → Nat → Int32} {bs : Nat → Nat → Nat → Int32} {g : Nat → Nat} {v : Nat → Int32} {a : Nat → Nat → Int32} (hI : LI j v a cn vs bs w pf np) (hc : cells + 1 ≤ 1115) (hsl : slots + 6 ≤ 9621) (hP : va_P D vwCl (lwM h9 a9 b9 np th ed hh w pf cI ++ oxw o0 f cJ h0 hH hs cn gs vs bs g v a cI cS) H) (hD : va_D (lwA s) (lwM h9 a9 b9 np th ed hh w pf cI ++ oxw o0 f cJ h0 hH hs cn gs vs bs g v a cI cS)) (hS : va_S (lwA s) s.heap H locs) (hl : lv_has ls 9 [(0, .ref b), (1, .ref h0), (2, .ref h9), (3, .ref o0), (4, .int (nI (4 * j)))])
    (kk : ∀ (v : Nat → Int32) (a : Nat → Nat → Int32) (cn : Nat) (gs : Nat → Nat → Nat) (vs : Nat → Nat → Int32) (bs : Nat → Nat → Nat → Int32) (f : Nat → Int64) (np th ed : Int32) (hh : Int64) (w pf : Nat → Int32), LI (j + 1) v a cn vs bs w pf np → ∀ (H : Heap) (locs : List Loc) (ls : Array Slot), va_P D vwCl (lwM h9 a9 b9 np th ed hh w pf cI ++ oxw o0 f cJ h0 hH hs cn gs vs bs g v a cI cS) H → va_D (lwA s) (lwM h9 a9 b9 np th ed hh w pf cI ++ oxw o0 f cJ h0 hH hs cn gs vs bs g v a cI cS) → va_S (lwA s) s.heap H locs → lv_has ls 9 [(0, .ref b), (1, .ref h0), (2, .ref h9), (3, .ref o0), (4, .int (nI (4 * j)))] → W p l e room_1 s m #[Value.ref b] below meth c H locs (cells + 1) (slots + 6) Q (F0 m 1178 ls [])) : W p l e room_1 s m #[Value.ref b] below meth c H locs cells slots Q (F0 m 260 ls []) := by
  obtain ⟨hx, hb, hml, hown, hts, hX, hbl, hK, hG, hN⟩ := id X
  refine lv_aload_n hx hb dL_law_260 rfl (lv_at hl 1 rfl) ?_
  refine law_arg X hS (q := 1) (j := j) (by omega) hL (lv_at hl 0 rfl) (lv_at hl 4 rfl) dL_law_261 dL_law_262 dL_law_264 rfl dL_law_265 dL_law_266 ?_
  refine lv_aload_n hx hb dL_law_267 rfl (lv_at hl 3 rfl) ?_
  refine my_callW_i (As := [.ref h0, .int (xs (4 * j + 1)), .ref o0]) (rest := []) (wc := oxw o0 f cJ h0 hH hs cn gs vs bs g v a cI cS) (wr := lwM h9 a9 b9 np th ed hh w pf cI) ⟨hx, hb, hml, hown, hts⟩ (met_L_setDeadTime l hlt D cI cJ cS h0 hH hs g v a cn gs vs bs (xs (4 * j + 1)) o0 f hI.2.2.2.1 _) (vx_cwSW 3 hts gL_law_L_setDeadTime rfl rfl rfl (by decide +kernel) ⟨Nat.le_of_ble_eq_true rfl, Nat.le_of_ble_eq_true rfl⟩) hN hK hP hD hS (fun _ h => h) hG rfl hl.1 (Nat.le_of_ble_eq_true rfl) rfl dL_law_268 ⟨hc, hsl⟩ (fun k u H locs hw hP hD hS => ?_)
  refine lv_istore (lv' := [(5, .int k), (0, .ref b), (1, .ref h0), (2, .ref h9), (3, .ref o0), (4, .int (nI (4 * j)))]) hx hb dL_law_271 hl (by decide) rfl (fun ls hl => ?_)
  refine lv_aload_n hx hb dL_law_273 rfl (lv_at hl 3 rfl) ?_
  refine law_arg X hS (q := 1) (j := j) (by omega) hL (lv_at hl 1 rfl) (lv_at hl 5 rfl) dL_law_274 dL_law_275 dL_law_277 rfl dL_law_278 dL_law_279 ?_
  refine my_callV_i (As := [.int (xs (4 * j + 1))]) (rest := []) (wc := lwM h9 a9 b9 np th ed hh w pf cI) (wr := oxw o0 u.2 cJ h0 hH hs u.1.2.2.1 u.1.2.2.2.1 u.1.2.2.2.2.1 u.1.2.2.2.2.2 g u.1.1 u.1.2.1 cI cS) ⟨hx, hb, hml, hown, hts⟩ (met_X9_setDeadTime l D cI cJ cS h9 a9 b9 np th ed hh w pf (xs (4 * j + 1)) hI.np5 _) (cwV 1 hts gL_law_X9_setDeadTime rfl rfl rfl (by decide +kernel) ⟨Nat.le_of_ble_eq_true rfl, Nat.le_of_ble_eq_true rfl⟩) hK hP.swp hD.swp hS (fun _ h => h) hG _ _ (sp_C _ _) (sp_R _ _) (sp_nC _ _) (sp_nR _) (sp_dis _ _) 0 rfl rfl rfl hl.1 (Nat.le_of_ble_eq_true rfl) rfl dL_law_280 ⟨hc, hsl⟩ (fun r u9 H locs hw9 hP hD hS => ?_)
  refine lv_istore (lv' := [(6, .int r), (5, .int k), (0, .ref b), (1, .ref h0), (2, .ref h9), (3, .ref o0), (4, .int (nI (4 * j)))]) hx hb dL_law_283 hl (by decide) rfl (fun ls hl => ?_)
  have hO := ok_setDeadTime (th := th) (ed := ed) (hh := hh) hI (xs (4 * j + 1))
  rw [← hw9] at hO
  obtain ⟨hth, hO0, hO1⟩ := hO
  obtain ⟨hk, hw0, hw1⟩ := hw
  refine law_tail X (T := 285) hc hsl (by decide) dL_law_285 dL_law_286 dL_law_289 dL_law_291 dL_law_296 dL_law_298 dL_law_301 dL_law_302 dL_law_303 dL_law_304 dL_law_306 dL_law_307 dL_law_308 dL_law_313 (hth.trans hk.symm) (fun q => ?_) hP.swp hD.swp hS hl (fun H locs hP hD hS => ?_)
  · have e := hw0 q
    subst e
    have e2 := (hO0 (hk.symm.trans q)).1
    dsimp only at e2
    rw [e2]
    rfl
  · by_cases q : k = 0
    · have e := hw0 q
      subst e
      exact kk _ _ _ _ _ _ _ u9.1 u9.2.1 ed hh u9.2.2.1 u9.2.2.2 (hO0 (hk.symm.trans q)).2 H locs ls hP hD hS (lv_sub hl [2, 3, 4, 5, 6] rfl)
    · have e := hw1 q
      subst e
      exact kk _ _ _ _ _ _ _ u9.1 u9.2.1 ed hh u9.2.2.1 u9.2.2.2 (hO1 (fun z => q (hk.trans z))) H locs ls hP hD hS (lv_sub hl [2, 3, 4, 5, 6] rfl)
set_option maxHeartbeats 4000000 in
set_option maxRecDepth 100000 in
theorem law_setStall (X : LX p s m c D cI cJ cS b L xs) (hlt : l.stackTraces = false) (hL : L ≤ 2048) {j : Nat} (hj : 4 * j + 4 ≤ L) {h9 a9 b9 : Nat} {np th ed : Int32} {hh : Int64} {w pf : Nat → Int32} {o0 : Nat} {f : Nat → Int64} {h0 hH hs cn : Nat} {gs : Nat → Nat → Nat} {vs : Nat → Nat → Int32} {bs : Nat → Nat → Nat → Int32} {g : Nat → Nat} {v : Nat → Int32} {a : Nat → Nat → Int32} (hI : LI j v a cn vs bs w pf np) (hc : cells + 1 ≤ 1115) (hsl : slots + 6 ≤ 9621) (hP : va_P D vwCl (lwM h9 a9 b9 np th ed hh w pf cI ++ oxw o0 f cJ h0 hH hs cn gs vs bs g v a cI cS) H) (hD : va_D (lwA s) (lwM h9 a9 b9 np th ed hh w pf cI ++ oxw o0 f cJ h0 hH hs cn gs vs bs g v a cI cS)) (hS : va_S (lwA s) s.heap H locs) (hl : lv_has ls 9 [(0, .ref b), (1, .ref h0), (2, .ref h9), (3, .ref o0), (4, .int (nI (4 * j)))])
    (kk : ∀ (v : Nat → Int32) (a : Nat → Nat → Int32) (cn : Nat) (gs : Nat → Nat → Nat) (vs : Nat → Nat → Int32) (bs : Nat → Nat → Nat → Int32) (f : Nat → Int64) (np th ed : Int32) (hh : Int64) (w pf : Nat → Int32), LI (j + 1) v a cn vs bs w pf np → ∀ (H : Heap) (locs : List Loc) (ls : Array Slot), va_P D vwCl (lwM h9 a9 b9 np th ed hh w pf cI ++ oxw o0 f cJ h0 hH hs cn gs vs bs g v a cI cS) H → va_D (lwA s) (lwM h9 a9 b9 np th ed hh w pf cI ++ oxw o0 f cJ h0 hH hs cn gs vs bs g v a cI cS) → va_S (lwA s) s.heap H locs → lv_has ls 9 [(0, .ref b), (1, .ref h0), (2, .ref h9), (3, .ref o0), (4, .int (nI (4 * j)))] → W p l e room_1 s m #[Value.ref b] below meth c H locs (cells + 1) (slots + 6) Q (F0 m 1178 ls [])) : W p l e room_1 s m #[Value.ref b] below meth c H locs cells slots Q (F0 m 316 ls []) := by
  obtain ⟨hx, hb, hml, hown, hts, hX, hbl, hK, hG, hN⟩ := id X
  refine lv_aload_n hx hb dL_law_316 rfl (lv_at hl 1 rfl) ?_
  refine law_arg X hS (q := 1) (j := j) (by omega) hL (lv_at hl 0 rfl) (lv_at hl 4 rfl) dL_law_317 dL_law_318 dL_law_320 rfl dL_law_321 dL_law_322 ?_
  refine lv_aload_n hx hb dL_law_323 rfl (lv_at hl 3 rfl) ?_
  refine my_callW_i (As := [.ref h0, .int (xs (4 * j + 1)), .ref o0]) (rest := []) (wc := oxw o0 f cJ h0 hH hs cn gs vs bs g v a cI cS) (wr := lwM h9 a9 b9 np th ed hh w pf cI) ⟨hx, hb, hml, hown, hts⟩ (met_L_setStall l hlt D cI cJ cS h0 hH hs g v a cn gs vs bs (xs (4 * j + 1)) o0 f hI.2.2.2.1 _) (vx_cwSW 3 hts gL_law_L_setStall rfl rfl rfl (by decide +kernel) ⟨Nat.le_of_ble_eq_true rfl, Nat.le_of_ble_eq_true rfl⟩) hN hK hP hD hS (fun _ h => h) hG rfl hl.1 (Nat.le_of_ble_eq_true rfl) rfl dL_law_324 ⟨hc, hsl⟩ (fun k u H locs hw hP hD hS => ?_)
  refine lv_istore (lv' := [(5, .int k), (0, .ref b), (1, .ref h0), (2, .ref h9), (3, .ref o0), (4, .int (nI (4 * j)))]) hx hb dL_law_327 hl (by decide) rfl (fun ls hl => ?_)
  refine lv_aload_n hx hb dL_law_329 rfl (lv_at hl 3 rfl) ?_
  refine law_arg X hS (q := 1) (j := j) (by omega) hL (lv_at hl 1 rfl) (lv_at hl 5 rfl) dL_law_330 dL_law_331 dL_law_333 rfl dL_law_334 dL_law_335 ?_
  refine my_callV_i (As := [.int (xs (4 * j + 1))]) (rest := []) (wc := lwM h9 a9 b9 np th ed hh w pf cI) (wr := oxw o0 u.2 cJ h0 hH hs u.1.2.2.1 u.1.2.2.2.1 u.1.2.2.2.2.1 u.1.2.2.2.2.2 g u.1.1 u.1.2.1 cI cS) ⟨hx, hb, hml, hown, hts⟩ (met_X9_setStall l D cI cJ cS h9 a9 b9 np th ed hh w pf (xs (4 * j + 1)) hI.np5 _) (cwV 1 hts gL_law_X9_setStall rfl rfl rfl (by decide +kernel) ⟨Nat.le_of_ble_eq_true rfl, Nat.le_of_ble_eq_true rfl⟩) hK hP.swp hD.swp hS (fun _ h => h) hG _ _ (sp_C _ _) (sp_R _ _) (sp_nC _ _) (sp_nR _) (sp_dis _ _) 0 rfl rfl rfl hl.1 (Nat.le_of_ble_eq_true rfl) rfl dL_law_336 ⟨hc, hsl⟩ (fun r u9 H locs hw9 hP hD hS => ?_)
  refine lv_istore (lv' := [(6, .int r), (5, .int k), (0, .ref b), (1, .ref h0), (2, .ref h9), (3, .ref o0), (4, .int (nI (4 * j)))]) hx hb dL_law_339 hl (by decide) rfl (fun ls hl => ?_)
  have hO := ok_setStall (th := th) (ed := ed) (hh := hh) hI (xs (4 * j + 1))
  rw [← hw9] at hO
  obtain ⟨hth, hO0, hO1⟩ := hO
  obtain ⟨hk, hw0, hw1⟩ := hw
  refine law_tail X (T := 341) hc hsl (by decide) dL_law_341 dL_law_342 dL_law_345 dL_law_347 dL_law_352 dL_law_354 dL_law_357 dL_law_358 dL_law_359 dL_law_360 dL_law_362 dL_law_363 dL_law_364 dL_law_369 (hth.trans hk.symm) (fun q => ?_) hP.swp hD.swp hS hl (fun H locs hP hD hS => ?_)
  · have e := hw0 q
    subst e
    have e2 := (hO0 (hk.symm.trans q)).1
    dsimp only at e2
    rw [e2]
    rfl
  · by_cases q : k = 0
    · have e := hw0 q
      subst e
      exact kk _ _ _ _ _ _ _ u9.1 u9.2.1 ed hh u9.2.2.1 u9.2.2.2 (hO0 (hk.symm.trans q)).2 H locs ls hP hD hS (lv_sub hl [2, 3, 4, 5, 6] rfl)
    · have e := hw1 q
      subst e
      exact kk _ _ _ _ _ _ _ u9.1 u9.2.1 ed hh u9.2.2.1 u9.2.2.2 (hO1 (fun z => q (hk.trans z))) H locs ls hP hD hS (lv_sub hl [2, 3, 4, 5, 6] rfl)
set_option maxHeartbeats 4000000 in
set_option maxRecDepth 100000 in
theorem law_setMode (X : LX p s m c D cI cJ cS b L xs) (hlt : l.stackTraces = false) (hL : L ≤ 2048) {j : Nat} (hj : 4 * j + 4 ≤ L) {h9 a9 b9 : Nat} {np th ed : Int32} {hh : Int64} {w pf : Nat → Int32} {o0 : Nat} {f : Nat → Int64} {h0 hH hs cn : Nat} {gs : Nat → Nat → Nat} {vs : Nat → Nat → Int32} {bs : Nat → Nat → Nat → Int32} {g : Nat → Nat} {v : Nat → Int32} {a : Nat → Nat → Int32} (hI : LI j v a cn vs bs w pf np) (hc : cells + 1 ≤ 1115) (hsl : slots + 6 ≤ 9621) (hP : va_P D vwCl (lwM h9 a9 b9 np th ed hh w pf cI ++ oxw o0 f cJ h0 hH hs cn gs vs bs g v a cI cS) H) (hD : va_D (lwA s) (lwM h9 a9 b9 np th ed hh w pf cI ++ oxw o0 f cJ h0 hH hs cn gs vs bs g v a cI cS)) (hS : va_S (lwA s) s.heap H locs) (hl : lv_has ls 9 [(0, .ref b), (1, .ref h0), (2, .ref h9), (3, .ref o0), (4, .int (nI (4 * j)))])
    (kk : ∀ (v : Nat → Int32) (a : Nat → Nat → Int32) (cn : Nat) (gs : Nat → Nat → Nat) (vs : Nat → Nat → Int32) (bs : Nat → Nat → Nat → Int32) (f : Nat → Int64) (np th ed : Int32) (hh : Int64) (w pf : Nat → Int32), LI (j + 1) v a cn vs bs w pf np → ∀ (H : Heap) (locs : List Loc) (ls : Array Slot), va_P D vwCl (lwM h9 a9 b9 np th ed hh w pf cI ++ oxw o0 f cJ h0 hH hs cn gs vs bs g v a cI cS) H → va_D (lwA s) (lwM h9 a9 b9 np th ed hh w pf cI ++ oxw o0 f cJ h0 hH hs cn gs vs bs g v a cI cS) → va_S (lwA s) s.heap H locs → lv_has ls 9 [(0, .ref b), (1, .ref h0), (2, .ref h9), (3, .ref o0), (4, .int (nI (4 * j)))] → W p l e room_1 s m #[Value.ref b] below meth c H locs (cells + 1) (slots + 6) Q (F0 m 1178 ls [])) : W p l e room_1 s m #[Value.ref b] below meth c H locs cells slots Q (F0 m 372 ls []) := by
  obtain ⟨hx, hb, hml, hown, hts, hX, hbl, hK, hG, hN⟩ := id X
  refine lv_aload_n hx hb dL_law_372 rfl (lv_at hl 1 rfl) ?_
  refine law_arg X hS (q := 1) (j := j) (by omega) hL (lv_at hl 0 rfl) (lv_at hl 4 rfl) dL_law_373 dL_law_374 dL_law_376 rfl dL_law_377 dL_law_378 ?_
  refine lv_aload_n hx hb dL_law_379 rfl (lv_at hl 3 rfl) ?_
  refine my_callW_i (As := [.ref h0, .int (xs (4 * j + 1)), .ref o0]) (rest := []) (wc := oxw o0 f cJ h0 hH hs cn gs vs bs g v a cI cS) (wr := lwM h9 a9 b9 np th ed hh w pf cI) ⟨hx, hb, hml, hown, hts⟩ (met_L_setMode l hlt D cI cJ cS h0 hH hs g v a cn gs vs bs (xs (4 * j + 1)) o0 f hI.2.2.2.1 _) (vx_cwSW 3 hts gL_law_L_setMode rfl rfl rfl (by decide +kernel) ⟨Nat.le_of_ble_eq_true rfl, Nat.le_of_ble_eq_true rfl⟩) hN hK hP hD hS (fun _ h => h) hG rfl hl.1 (Nat.le_of_ble_eq_true rfl) rfl dL_law_380 ⟨hc, hsl⟩ (fun k u H locs hw hP hD hS => ?_)
  refine lv_istore (lv' := [(5, .int k), (0, .ref b), (1, .ref h0), (2, .ref h9), (3, .ref o0), (4, .int (nI (4 * j)))]) hx hb dL_law_383 hl (by decide) rfl (fun ls hl => ?_)
  refine lv_aload_n hx hb dL_law_385 rfl (lv_at hl 3 rfl) ?_
  refine law_arg X hS (q := 1) (j := j) (by omega) hL (lv_at hl 1 rfl) (lv_at hl 5 rfl) dL_law_386 dL_law_387 dL_law_389 rfl dL_law_390 dL_law_391 ?_
  refine my_callV_i (As := [.int (xs (4 * j + 1))]) (rest := []) (wc := lwM h9 a9 b9 np th ed hh w pf cI) (wr := oxw o0 u.2 cJ h0 hH hs u.1.2.2.1 u.1.2.2.2.1 u.1.2.2.2.2.1 u.1.2.2.2.2.2 g u.1.1 u.1.2.1 cI cS) ⟨hx, hb, hml, hown, hts⟩ (met_X9_setMode l D cI cJ cS h9 a9 b9 np th ed hh w pf (xs (4 * j + 1)) hI.np5 _) (cwV 1 hts gL_law_X9_setMode rfl rfl rfl (by decide +kernel) ⟨Nat.le_of_ble_eq_true rfl, Nat.le_of_ble_eq_true rfl⟩) hK hP.swp hD.swp hS (fun _ h => h) hG _ _ (sp_C _ _) (sp_R _ _) (sp_nC _ _) (sp_nR _) (sp_dis _ _) 0 rfl rfl rfl hl.1 (Nat.le_of_ble_eq_true rfl) rfl dL_law_392 ⟨hc, hsl⟩ (fun r u9 H locs hw9 hP hD hS => ?_)
  refine lv_istore (lv' := [(6, .int r), (5, .int k), (0, .ref b), (1, .ref h0), (2, .ref h9), (3, .ref o0), (4, .int (nI (4 * j)))]) hx hb dL_law_395 hl (by decide) rfl (fun ls hl => ?_)
  have hO := ok_setMode (th := th) (ed := ed) (hh := hh) hI (xs (4 * j + 1))
  rw [← hw9] at hO
  obtain ⟨hth, hO0, hO1⟩ := hO
  obtain ⟨hk, hw0, hw1⟩ := hw
  refine law_tail X (T := 397) hc hsl (by decide) dL_law_397 dL_law_398 dL_law_401 dL_law_403 dL_law_408 dL_law_410 dL_law_413 dL_law_414 dL_law_415 dL_law_416 dL_law_418 dL_law_419 dL_law_420 dL_law_425 (hth.trans hk.symm) (fun q => ?_) hP.swp hD.swp hS hl (fun H locs hP hD hS => ?_)
  · have e := hw0 q
    subst e
    have e2 := (hO0 (hk.symm.trans q)).1
    dsimp only at e2
    rw [e2]
    rfl
  · by_cases q : k = 0
    · have e := hw0 q
      subst e
      exact kk _ _ _ _ _ _ _ u9.1 u9.2.1 ed hh u9.2.2.1 u9.2.2.2 (hO0 (hk.symm.trans q)).2 H locs ls hP hD hS (lv_sub hl [2, 3, 4, 5, 6] rfl)
    · have e := hw1 q
      subst e
      exact kk _ _ _ _ _ _ _ u9.1 u9.2.1 ed hh u9.2.2.1 u9.2.2.2 (hO1 (fun z => q (hk.trans z))) H locs ls hP hD hS (lv_sub hl [2, 3, 4, 5, 6] rfl)
set_option maxHeartbeats 4000000 in
set_option maxRecDepth 100000 in
theorem law_clearFault (X : LX p s m c D cI cJ cS b L xs) (hlt : l.stackTraces = false) (hL : L ≤ 2048) {j : Nat} (hj : 4 * j + 4 ≤ L) {h9 a9 b9 : Nat} {np th ed : Int32} {hh : Int64} {w pf : Nat → Int32} {o0 : Nat} {f : Nat → Int64} {h0 hH hs cn : Nat} {gs : Nat → Nat → Nat} {vs : Nat → Nat → Int32} {bs : Nat → Nat → Nat → Int32} {g : Nat → Nat} {v : Nat → Int32} {a : Nat → Nat → Int32} (hI : LI j v a cn vs bs w pf np) (hc : cells + 1 ≤ 1115) (hsl : slots + 6 ≤ 9621) (hP : va_P D vwCl (lwM h9 a9 b9 np th ed hh w pf cI ++ oxw o0 f cJ h0 hH hs cn gs vs bs g v a cI cS) H) (hD : va_D (lwA s) (lwM h9 a9 b9 np th ed hh w pf cI ++ oxw o0 f cJ h0 hH hs cn gs vs bs g v a cI cS)) (hS : va_S (lwA s) s.heap H locs) (hl : lv_has ls 9 [(0, .ref b), (1, .ref h0), (2, .ref h9), (3, .ref o0), (4, .int (nI (4 * j)))])
    (kk : ∀ (v : Nat → Int32) (a : Nat → Nat → Int32) (cn : Nat) (gs : Nat → Nat → Nat) (vs : Nat → Nat → Int32) (bs : Nat → Nat → Nat → Int32) (f : Nat → Int64) (np th ed : Int32) (hh : Int64) (w pf : Nat → Int32), LI (j + 1) v a cn vs bs w pf np → ∀ (H : Heap) (locs : List Loc) (ls : Array Slot), va_P D vwCl (lwM h9 a9 b9 np th ed hh w pf cI ++ oxw o0 f cJ h0 hH hs cn gs vs bs g v a cI cS) H → va_D (lwA s) (lwM h9 a9 b9 np th ed hh w pf cI ++ oxw o0 f cJ h0 hH hs cn gs vs bs g v a cI cS) → va_S (lwA s) s.heap H locs → lv_has ls 9 [(0, .ref b), (1, .ref h0), (2, .ref h9), (3, .ref o0), (4, .int (nI (4 * j)))] → W p l e room_1 s m #[Value.ref b] below meth c H locs (cells + 1) (slots + 6) Q (F0 m 1178 ls [])) : W p l e room_1 s m #[Value.ref b] below meth c H locs cells slots Q (F0 m 428 ls []) := by
  obtain ⟨hx, hb, hml, hown, hts, hX, hbl, hK, hG, hN⟩ := id X
  refine lv_aload_n hx hb dL_law_428 rfl (lv_at hl 1 rfl) ?_
  refine lv_aload_n hx hb dL_law_429 rfl (lv_at hl 3 rfl) ?_
  refine my_callW_i (As := [.ref h0, .ref o0]) (rest := []) (wc := oxw o0 f cJ h0 hH hs cn gs vs bs g v a cI cS) (wr := lwM h9 a9 b9 np th ed hh w pf cI) ⟨hx, hb, hml, hown, hts⟩ (met_L_clearFault l hlt D cI cJ cS h0 hH hs g v a cn gs vs bs  o0 f hI.2.2.2.1 _) (vx_cwSW 2 hts gL_law_L_clearFault rfl rfl rfl (by decide +kernel) ⟨Nat.le_of_ble_eq_true rfl, Nat.le_of_ble_eq_true rfl⟩) hN hK hP hD hS (fun _ h => h) hG rfl hl.1 (Nat.le_of_ble_eq_true rfl) rfl dL_law_430 ⟨hc, hsl⟩ (fun k u H locs hw hP hD hS => ?_)
  refine lv_istore (lv' := [(5, .int k), (0, .ref b), (1, .ref h0), (2, .ref h9), (3, .ref o0), (4, .int (nI (4 * j)))]) hx hb dL_law_433 hl (by decide) rfl (fun ls hl => ?_)
  refine lv_aload_n hx hb dL_law_435 rfl (lv_at hl 3 rfl) ?_
  refine my_callV_i (As := []) (rest := []) (wc := lwM h9 a9 b9 np th ed hh w pf cI) (wr := oxw o0 u.2 cJ h0 hH hs u.1.2.2.1 u.1.2.2.2.1 u.1.2.2.2.2.1 u.1.2.2.2.2.2 g u.1.1 u.1.2.1 cI cS) ⟨hx, hb, hml, hown, hts⟩ (met_X9_clearFault l D cI cJ cS h9 a9 b9 np th ed hh w pf  hI.np5 _) (cwV 0 hts gL_law_X9_clearFault rfl rfl rfl (by decide +kernel) ⟨Nat.le_of_ble_eq_true rfl, Nat.le_of_ble_eq_true rfl⟩) hK hP.swp hD.swp hS (fun _ h => h) hG _ _ (sp_C _ _) (sp_R _ _) (sp_nC _ _) (sp_nR _) (sp_dis _ _) 0 rfl rfl rfl hl.1 (Nat.le_of_ble_eq_true rfl) rfl dL_law_436 ⟨hc, hsl⟩ (fun r u9 H locs hw9 hP hD hS => ?_)
  refine lv_istore (lv' := [(6, .int r), (5, .int k), (0, .ref b), (1, .ref h0), (2, .ref h9), (3, .ref o0), (4, .int (nI (4 * j)))]) hx hb dL_law_439 hl (by decide) rfl (fun ls hl => ?_)
  have hO := ok_clearFault (th := th) (ed := ed) (hh := hh) hI 
  rw [← hw9] at hO
  obtain ⟨hth, hO0, hO1⟩ := hO
  obtain ⟨hk, hw0, hw1⟩ := hw
  refine law_tail X (T := 441) hc hsl (by decide) dL_law_441 dL_law_442 dL_law_445 dL_law_447 dL_law_452 dL_law_454 dL_law_457 dL_law_458 dL_law_459 dL_law_460 dL_law_462 dL_law_463 dL_law_464 dL_law_469 (hth.trans hk.symm) (fun q => ?_) hP.swp hD.swp hS hl (fun H locs hP hD hS => ?_)
  · have e := hw0 q
    subst e
    have e2 := (hO0 (hk.symm.trans q)).1
    dsimp only at e2
    rw [e2]
    rfl
  · by_cases q : k = 0
    · have e := hw0 q
      subst e
      exact kk _ _ _ _ _ _ _ u9.1 u9.2.1 ed hh u9.2.2.1 u9.2.2.2 (hO0 (hk.symm.trans q)).2 H locs ls hP hD hS (lv_sub hl [2, 3, 4, 5, 6] rfl)
    · have e := hw1 q
      subst e
      exact kk _ _ _ _ _ _ _ u9.1 u9.2.1 ed hh u9.2.2.1 u9.2.2.2 (hO1 (fun z => q (hk.trans z))) H locs ls hP hD hS (lv_sub hl [2, 3, 4, 5, 6] rfl)
set_option maxHeartbeats 4000000 in
set_option maxRecDepth 100000 in
theorem law_schedule (X : LX p s m c D cI cJ cS b L xs) (hlt : l.stackTraces = false) (hL : L ≤ 2048) {j : Nat} (hj : 4 * j + 4 ≤ L) {h9 a9 b9 : Nat} {np th ed : Int32} {hh : Int64} {w pf : Nat → Int32} {o0 : Nat} {f : Nat → Int64} {h0 hH hs cn : Nat} {gs : Nat → Nat → Nat} {vs : Nat → Nat → Int32} {bs : Nat → Nat → Nat → Int32} {g : Nat → Nat} {v : Nat → Int32} {a : Nat → Nat → Int32} (hI : LI j v a cn vs bs w pf np) (hc : cells + 1 ≤ 1115) (hsl : slots + 6 ≤ 9621) (hP : va_P D vwCl (lwM h9 a9 b9 np th ed hh w pf cI ++ oxw o0 f cJ h0 hH hs cn gs vs bs g v a cI cS) H) (hD : va_D (lwA s) (lwM h9 a9 b9 np th ed hh w pf cI ++ oxw o0 f cJ h0 hH hs cn gs vs bs g v a cI cS)) (hS : va_S (lwA s) s.heap H locs) (hl : lv_has ls 9 [(0, .ref b), (1, .ref h0), (2, .ref h9), (3, .ref o0), (4, .int (nI (4 * j)))])
    (kk : ∀ (v : Nat → Int32) (a : Nat → Nat → Int32) (cn : Nat) (gs : Nat → Nat → Nat) (vs : Nat → Nat → Int32) (bs : Nat → Nat → Nat → Int32) (f : Nat → Int64) (np th ed : Int32) (hh : Int64) (w pf : Nat → Int32), LI (j + 1) v a cn vs bs w pf np → ∀ (H : Heap) (locs : List Loc) (ls : Array Slot), va_P D vwCl (lwM h9 a9 b9 np th ed hh w pf cI ++ oxw o0 f cJ h0 hH hs cn gs vs bs g v a cI cS) H → va_D (lwA s) (lwM h9 a9 b9 np th ed hh w pf cI ++ oxw o0 f cJ h0 hH hs cn gs vs bs g v a cI cS) → va_S (lwA s) s.heap H locs → lv_has ls 9 [(0, .ref b), (1, .ref h0), (2, .ref h9), (3, .ref o0), (4, .int (nI (4 * j)))] → W p l e room_1 s m #[Value.ref b] below meth c H locs (cells + 1) (slots + 6) Q (F0 m 1178 ls [])) : W p l e room_1 s m #[Value.ref b] below meth c H locs cells slots Q (F0 m 472 ls []) := by
  obtain ⟨hx, hb, hml, hown, hts, hX, hbl, hK, hG, hN⟩ := id X
  refine lv_aload_n hx hb dL_law_472 rfl (lv_at hl 1 rfl) ?_
  refine law_arg X hS (q := 1) (j := j) (by omega) hL (lv_at hl 0 rfl) (lv_at hl 4 rfl) dL_law_473 dL_law_474 dL_law_476 rfl dL_law_477 dL_law_478 ?_
  refine law_arg X hS (q := 2) (j := j) (by omega) hL (lv_at hl 0 rfl) (lv_at hl 4 rfl) dL_law_479 dL_law_480 dL_law_482 rfl dL_law_483 dL_law_484 ?_
  refine lv_aload_n hx hb dL_law_485 rfl (lv_at hl 3 rfl) ?_
  refine my_callW_i (As := [.ref h0, .int (xs (4 * j + 1)), .int (xs (4 * j + 2)), .ref o0]) (rest := []) (wc := oxw o0 f cJ h0 hH hs cn gs vs bs g v a cI cS) (wr := lwM h9 a9 b9 np th ed hh w pf cI) ⟨hx, hb, hml, hown, hts⟩ (met_L_schedule l hlt D cI cJ cS h0 hH hs g v a cn gs vs bs (xs (4 * j + 1)) (xs (4 * j + 2)) o0 f hI.v48 hI.2.2.2.1 _) (vx_cwSW 4 hts gL_law_L_schedule rfl rfl rfl (by decide +kernel) ⟨Nat.le_of_ble_eq_true rfl, Nat.le_of_ble_eq_true rfl⟩) hN hK hP hD hS (fun _ h => h) hG rfl hl.1 (Nat.le_of_ble_eq_true rfl) rfl dL_law_486 ⟨hc, hsl⟩ (fun k u H locs hw hP hD hS => ?_)
  refine lv_istore (lv' := [(5, .int k), (0, .ref b), (1, .ref h0), (2, .ref h9), (3, .ref o0), (4, .int (nI (4 * j)))]) hx hb dL_law_489 hl (by decide) rfl (fun ls hl => ?_)
  refine lv_aload_n hx hb dL_law_491 rfl (lv_at hl 3 rfl) ?_
  refine law_arg X hS (q := 1) (j := j) (by omega) hL (lv_at hl 1 rfl) (lv_at hl 5 rfl) dL_law_492 dL_law_493 dL_law_495 rfl dL_law_496 dL_law_497 ?_
  refine law_arg X hS (q := 2) (j := j) (by omega) hL (lv_at hl 1 rfl) (lv_at hl 5 rfl) dL_law_498 dL_law_499 dL_law_501 rfl dL_law_502 dL_law_503 ?_
  refine my_callV_i (As := [.int (xs (4 * j + 1)), .int (xs (4 * j + 2))]) (rest := []) (wc := lwM h9 a9 b9 np th ed hh w pf cI) (wr := oxw o0 u.2 cJ h0 hH hs u.1.2.2.1 u.1.2.2.2.1 u.1.2.2.2.2.1 u.1.2.2.2.2.2 g u.1.1 u.1.2.1 cI cS) ⟨hx, hb, hml, hown, hts⟩ (met_X9_schedule l D cI cJ cS h9 a9 b9 np th ed hh w pf (xs (4 * j + 1)) (xs (4 * j + 2)) hI.np5 hI.w48 _) (cwV 2 hts gL_law_X9_schedule rfl rfl rfl (by decide +kernel) ⟨Nat.le_of_ble_eq_true rfl, Nat.le_of_ble_eq_true rfl⟩) hK hP.swp hD.swp hS (fun _ h => h) hG _ _ (sp_C _ _) (sp_R _ _) (sp_nC _ _) (sp_nR _) (sp_dis _ _) 0 rfl rfl rfl hl.1 (Nat.le_of_ble_eq_true rfl) rfl dL_law_504 ⟨hc, hsl⟩ (fun r u9 H locs hw9 hP hD hS => ?_)
  refine lv_istore (lv' := [(6, .int r), (5, .int k), (0, .ref b), (1, .ref h0), (2, .ref h9), (3, .ref o0), (4, .int (nI (4 * j)))]) hx hb dL_law_507 hl (by decide) rfl (fun ls hl => ?_)
  have hO := ok_schedule (th := th) (ed := ed) (hh := hh) hI (by omega) (xs (4 * j + 1)) (xs (4 * j + 2))
  rw [← hw9] at hO
  obtain ⟨hth, hO0, hO1⟩ := hO
  obtain ⟨hk, hw0, hw1⟩ := hw
  refine law_tail X (T := 509) hc hsl (by decide) dL_law_509 dL_law_510 dL_law_513 dL_law_515 dL_law_520 dL_law_522 dL_law_525 dL_law_526 dL_law_527 dL_law_528 dL_law_530 dL_law_531 dL_law_532 dL_law_537 (hth.trans hk.symm) (fun q => ?_) hP.swp hD.swp hS hl (fun H locs hP hD hS => ?_)
  · have e := hw0 q
    subst e
    have e2 := (hO0 (hk.symm.trans q)).1
    dsimp only at e2
    rw [e2]
    rfl
  · by_cases q : k = 0
    · have e := hw0 q
      subst e
      exact kk _ _ _ _ _ _ _ u9.1 u9.2.1 ed hh u9.2.2.1 u9.2.2.2 (hO0 (hk.symm.trans q)).2 H locs ls hP hD hS (lv_sub hl [2, 3, 4, 5, 6] rfl)
    · have e := hw1 q
      subst e
      exact kk _ _ _ _ _ _ _ u9.1 u9.2.1 ed hh u9.2.2.1 u9.2.2.2 (hO1 (fun z => q (hk.trans z))) H locs ls hP hD hS (lv_sub hl [2, 3, 4, 5, 6] rfl)
set_option maxHeartbeats 4000000 in
set_option maxRecDepth 100000 in
theorem law_spin (X : LX p s m c D cI cJ cS b L xs) (hlt : l.stackTraces = false) (hL : L ≤ 2048) {j : Nat} (hj : 4 * j + 4 ≤ L) {h9 a9 b9 : Nat} {np th ed : Int32} {hh : Int64} {w pf : Nat → Int32} {o0 : Nat} {f : Nat → Int64} {h0 hH hs cn : Nat} {gs : Nat → Nat → Nat} {vs : Nat → Nat → Int32} {bs : Nat → Nat → Nat → Int32} {g : Nat → Nat} {v : Nat → Int32} {a : Nat → Nat → Int32} (hI : LI j v a cn vs bs w pf np) (hc : cells + 1 ≤ 1115) (hsl : slots + 6 ≤ 9621) (hP : va_P D vwCl (lwM h9 a9 b9 np th ed hh w pf cI ++ oxw o0 f cJ h0 hH hs cn gs vs bs g v a cI cS) H) (hD : va_D (lwA s) (lwM h9 a9 b9 np th ed hh w pf cI ++ oxw o0 f cJ h0 hH hs cn gs vs bs g v a cI cS)) (hS : va_S (lwA s) s.heap H locs) (hl : lv_has ls 9 [(0, .ref b), (1, .ref h0), (2, .ref h9), (3, .ref o0), (4, .int (nI (4 * j)))])
    (kk : ∀ (v : Nat → Int32) (a : Nat → Nat → Int32) (cn : Nat) (gs : Nat → Nat → Nat) (vs : Nat → Nat → Int32) (bs : Nat → Nat → Nat → Int32) (f : Nat → Int64) (np th ed : Int32) (hh : Int64) (w pf : Nat → Int32), LI (j + 1) v a cn vs bs w pf np → ∀ (H : Heap) (locs : List Loc) (ls : Array Slot), va_P D vwCl (lwM h9 a9 b9 np th ed hh w pf cI ++ oxw o0 f cJ h0 hH hs cn gs vs bs g v a cI cS) H → va_D (lwA s) (lwM h9 a9 b9 np th ed hh w pf cI ++ oxw o0 f cJ h0 hH hs cn gs vs bs g v a cI cS) → va_S (lwA s) s.heap H locs → lv_has ls 9 [(0, .ref b), (1, .ref h0), (2, .ref h9), (3, .ref o0), (4, .int (nI (4 * j)))] → W p l e room_1 s m #[Value.ref b] below meth c H locs (cells + 1) (slots + 6) Q (F0 m 1178 ls [])) : W p l e room_1 s m #[Value.ref b] below meth c H locs cells slots Q (F0 m 540 ls []) := by
  obtain ⟨hx, hb, hml, hown, hts, hX, hbl, hK, hG, hN⟩ := id X
  refine lv_aload_n hx hb dL_law_540 rfl (lv_at hl 1 rfl) ?_
  refine law_arg X hS (q := 1) (j := j) (by omega) hL (lv_at hl 0 rfl) (lv_at hl 4 rfl) dL_law_541 dL_law_542 dL_law_544 rfl dL_law_545 dL_law_546 ?_
  refine law_arg X hS (q := 2) (j := j) (by omega) hL (lv_at hl 0 rfl) (lv_at hl 4 rfl) dL_law_547 dL_law_548 dL_law_550 rfl dL_law_551 dL_law_552 ?_
  refine law_arg X hS (q := 3) (j := j) (by omega) hL (lv_at hl 0 rfl) (lv_at hl 4 rfl) dL_law_553 dL_law_554 dL_law_556 rfl dL_law_557 dL_law_558 ?_
  refine lv_aload_n hx hb dL_law_559 rfl (lv_at hl 3 rfl) ?_
  refine my_callW_i (As := [.ref h0, .int (xs (4 * j + 1)), .int (xs (4 * j + 2)), .int (xs (4 * j + 3)), .ref o0]) (rest := []) (wc := oxw o0 f cJ h0 hH hs cn gs vs bs g v a cI cS) (wr := lwM h9 a9 b9 np th ed hh w pf cI) ⟨hx, hb, hml, hown, hts⟩ (met_L_spin l hlt D cI cJ cS h0 hH hs g v a cn gs vs bs (xs (4 * j + 1)) (xs (4 * j + 2)) (xs (4 * j + 3)) o0 f hI.v48 hI.2.2.2.1 _) (vx_cwSW 5 hts gL_law_L_spin rfl rfl rfl (by decide +kernel) ⟨Nat.le_of_ble_eq_true rfl, Nat.le_of_ble_eq_true rfl⟩) hN hK hP hD hS (fun _ h => h) hG rfl hl.1 (Nat.le_of_ble_eq_true rfl) rfl dL_law_560 ⟨hc, hsl⟩ (fun k u H locs hw hP hD hS => ?_)
  refine lv_istore (lv' := [(5, .int k), (0, .ref b), (1, .ref h0), (2, .ref h9), (3, .ref o0), (4, .int (nI (4 * j)))]) hx hb dL_law_563 hl (by decide) rfl (fun ls hl => ?_)
  refine lv_aload_n hx hb dL_law_565 rfl (lv_at hl 3 rfl) ?_
  refine law_arg X hS (q := 1) (j := j) (by omega) hL (lv_at hl 1 rfl) (lv_at hl 5 rfl) dL_law_566 dL_law_567 dL_law_569 rfl dL_law_570 dL_law_571 ?_
  refine law_arg X hS (q := 2) (j := j) (by omega) hL (lv_at hl 1 rfl) (lv_at hl 5 rfl) dL_law_572 dL_law_573 dL_law_575 rfl dL_law_576 dL_law_577 ?_
  refine law_arg X hS (q := 3) (j := j) (by omega) hL (lv_at hl 1 rfl) (lv_at hl 5 rfl) dL_law_578 dL_law_579 dL_law_581 rfl dL_law_582 dL_law_583 ?_
  refine my_callV_i (As := [.int (xs (4 * j + 1)), .int (xs (4 * j + 2)), .int (xs (4 * j + 3))]) (rest := []) (wc := lwM h9 a9 b9 np th ed hh w pf cI) (wr := oxw o0 u.2 cJ h0 hH hs u.1.2.2.1 u.1.2.2.2.1 u.1.2.2.2.2.1 u.1.2.2.2.2.2 g u.1.1 u.1.2.1 cI cS) ⟨hx, hb, hml, hown, hts⟩ (met_X9_spin l D cI cJ cS h9 a9 b9 np th ed hh w pf (xs (4 * j + 1)) (xs (4 * j + 2)) (xs (4 * j + 3)) hI.np5 hI.w48 _) (cwV 3 hts gL_law_X9_spin rfl rfl rfl (by decide +kernel) ⟨Nat.le_of_ble_eq_true rfl, Nat.le_of_ble_eq_true rfl⟩) hK hP.swp hD.swp hS (fun _ h => h) hG _ _ (sp_C _ _) (sp_R _ _) (sp_nC _ _) (sp_nR _) (sp_dis _ _) 0 rfl rfl rfl hl.1 (Nat.le_of_ble_eq_true rfl) rfl dL_law_584 ⟨hc, hsl⟩ (fun r u9 H locs hw9 hP hD hS => ?_)
  refine lv_istore (lv' := [(6, .int r), (5, .int k), (0, .ref b), (1, .ref h0), (2, .ref h9), (3, .ref o0), (4, .int (nI (4 * j)))]) hx hb dL_law_587 hl (by decide) rfl (fun ls hl => ?_)
  have hO := ok_spin (th := th) (ed := ed) (hh := hh) hI (by omega) (xs (4 * j + 1)) (xs (4 * j + 2)) (xs (4 * j + 3))
  rw [← hw9] at hO
  obtain ⟨hth, hO0, hO1⟩ := hO
  obtain ⟨hk, hw0, hw1⟩ := hw
  refine law_tail X (T := 589) hc hsl (by decide) dL_law_589 dL_law_590 dL_law_593 dL_law_595 dL_law_600 dL_law_602 dL_law_605 dL_law_606 dL_law_607 dL_law_608 dL_law_610 dL_law_611 dL_law_612 dL_law_617 (hth.trans hk.symm) (fun q => ?_) hP.swp hD.swp hS hl (fun H locs hP hD hS => ?_)
  · have e := hw0 q
    subst e
    have e2 := (hO0 (hk.symm.trans q)).1
    dsimp only at e2
    rw [e2]
    rfl
  · by_cases q : k = 0
    · have e := hw0 q
      subst e
      exact kk _ _ _ _ _ _ _ u9.1 u9.2.1 ed hh u9.2.2.1 u9.2.2.2 (hO0 (hk.symm.trans q)).2 H locs ls hP hD hS (lv_sub hl [2, 3, 4, 5, 6] rfl)
    · have e := hw1 q
      subst e
      exact kk _ _ _ _ _ _ _ u9.1 u9.2.1 ed hh u9.2.2.1 u9.2.2.2 (hO1 (fun z => q (hk.trans z))) H locs ls hP hD hS (lv_sub hl [2, 3, 4, 5, 6] rfl)
set_option maxHeartbeats 4000000 in
set_option maxRecDepth 100000 in
theorem law_run (X : LX p s m c D cI cJ cS b L xs) (hlt : l.stackTraces = false) (hL : L ≤ 2048) {j : Nat} (hj : 4 * j + 4 ≤ L) {h9 a9 b9 : Nat} {np th ed : Int32} {hh : Int64} {w pf : Nat → Int32} {o0 : Nat} {f : Nat → Int64} {h0 hH hs cn : Nat} {gs : Nat → Nat → Nat} {vs : Nat → Nat → Int32} {bs : Nat → Nat → Nat → Int32} {g : Nat → Nat} {v : Nat → Int32} {a : Nat → Nat → Int32} (hI : LI j v a cn vs bs w pf np) (hc : cells + 1 ≤ 1115) (hsl : slots + 6 ≤ 9621) (hP : va_P D vwCl (lwM h9 a9 b9 np th ed hh w pf cI ++ oxw o0 f cJ h0 hH hs cn gs vs bs g v a cI cS) H) (hD : va_D (lwA s) (lwM h9 a9 b9 np th ed hh w pf cI ++ oxw o0 f cJ h0 hH hs cn gs vs bs g v a cI cS)) (hS : va_S (lwA s) s.heap H locs) (hl : lv_has ls 9 [(0, .ref b), (1, .ref h0), (2, .ref h9), (3, .ref o0), (4, .int (nI (4 * j)))])
    (kk : ∀ (v : Nat → Int32) (a : Nat → Nat → Int32) (cn : Nat) (gs : Nat → Nat → Nat) (vs : Nat → Nat → Int32) (bs : Nat → Nat → Nat → Int32) (f : Nat → Int64) (np th ed : Int32) (hh : Int64) (w pf : Nat → Int32), LI (j + 1) v a cn vs bs w pf np → ∀ (H : Heap) (locs : List Loc) (ls : Array Slot), va_P D vwCl (lwM h9 a9 b9 np th ed hh w pf cI ++ oxw o0 f cJ h0 hH hs cn gs vs bs g v a cI cS) H → va_D (lwA s) (lwM h9 a9 b9 np th ed hh w pf cI ++ oxw o0 f cJ h0 hH hs cn gs vs bs g v a cI cS) → va_S (lwA s) s.heap H locs → lv_has ls 9 [(0, .ref b), (1, .ref h0), (2, .ref h9), (3, .ref o0), (4, .int (nI (4 * j)))] → W p l e room_1 s m #[Value.ref b] below meth c H locs (cells + 1) (slots + 6) Q (F0 m 1178 ls [])) : W p l e room_1 s m #[Value.ref b] below meth c H locs cells slots Q (F0 m 620 ls []) := by
  obtain ⟨hx, hb, hml, hown, hts, hX, hbl, hK, hG, hN⟩ := id X
  refine lv_aload_n hx hb dL_law_620 rfl (lv_at hl 1 rfl) ?_
  refine law_arg X hS (q := 1) (j := j) (by omega) hL (lv_at hl 0 rfl) (lv_at hl 4 rfl) dL_law_621 dL_law_622 dL_law_624 rfl dL_law_625 dL_law_626 ?_
  refine lv_aload_n hx hb dL_law_627 rfl (lv_at hl 3 rfl) ?_
  refine my_callW_i (As := [.ref h0, .int (xs (4 * j + 1)), .ref o0]) (rest := []) (wc := oxw o0 f cJ h0 hH hs cn gs vs bs g v a cI cS) (wr := lwM h9 a9 b9 np th ed hh w pf cI) ⟨hx, hb, hml, hown, hts⟩ (met_L_run l hlt D cI cJ cS h0 hH hs g v a cn gs vs bs (xs (4 * j + 1)) o0 f (fun k _ => pit_vp k (v, a) ⟨hI.v48, hI.v35⟩) hI.2.2.2.1 _) (vx_cwSW 3 hts gL_law_L_run rfl rfl rfl (by decide +kernel) ⟨Nat.le_of_ble_eq_true rfl, Nat.le_of_ble_eq_true rfl⟩) hN hK hP hD hS (fun _ h => h) hG rfl hl.1 (Nat.le_of_ble_eq_true rfl) rfl dL_law_628 ⟨hc, hsl⟩ (fun k u H locs hw hP hD hS => ?_)
  refine lv_istore (lv' := [(5, .int k), (0, .ref b), (1, .ref h0), (2, .ref h9), (3, .ref o0), (4, .int (nI (4 * j)))]) hx hb dL_law_631 hl (by decide) rfl (fun ls hl => ?_)
  refine lv_aload_n hx hb dL_law_633 rfl (lv_at hl 3 rfl) ?_
  refine law_arg X hS (q := 1) (j := j) (by omega) hL (lv_at hl 1 rfl) (lv_at hl 5 rfl) dL_law_634 dL_law_635 dL_law_637 rfl dL_law_638 dL_law_639 ?_
  refine my_callV_i (As := [.int (xs (4 * j + 1))]) (rest := []) (wc := lwM h9 a9 b9 np th ed hh w pf cI) (wr := oxw o0 u.2 cJ h0 hH hs u.1.2.2.1 u.1.2.2.2.1 u.1.2.2.2.2.1 u.1.2.2.2.2.2 g u.1.1 u.1.2.1 cI cS) ⟨hx, hb, hml, hown, hts⟩ (met_X9_run l D cI cJ cS h9 a9 b9 np th ed hh w pf (xs (4 * j + 1)) hI.np5 (fun k _ => tit_vp k (ed, w) ⟨hI.w48, hI.w35⟩) _) (cwV 1 hts gL_law_X9_run rfl rfl rfl (by decide +kernel) ⟨Nat.le_of_ble_eq_true rfl, Nat.le_of_ble_eq_true rfl⟩) hK hP.swp hD.swp hS (fun _ h => h) hG _ _ (sp_C _ _) (sp_R _ _) (sp_nC _ _) (sp_nR _) (sp_dis _ _) 0 rfl rfl rfl hl.1 (Nat.le_of_ble_eq_true rfl) rfl dL_law_640 ⟨hc, hsl⟩ (fun r u9 H locs hw9 hP hD hS => ?_)
  refine lv_istore (lv' := [(6, .int r), (5, .int k), (0, .ref b), (1, .ref h0), (2, .ref h9), (3, .ref o0), (4, .int (nI (4 * j)))]) hx hb dL_law_643 hl (by decide) rfl (fun ls hl => ?_)
  have hO := ok_run (th := th) (ed := ed) (hh := hh) hI (by omega) (xs (4 * j + 1))
  rw [← hw9] at hO
  obtain ⟨hth, hO0, hO1⟩ := hO
  obtain ⟨hk, hw0, hw1⟩ := hw
  refine law_tail X (T := 645) hc hsl (by decide) dL_law_645 dL_law_646 dL_law_649 dL_law_651 dL_law_656 dL_law_658 dL_law_661 dL_law_662 dL_law_663 dL_law_664 dL_law_666 dL_law_667 dL_law_668 dL_law_673 (hth.trans hk.symm) (fun q => ?_) hP.swp hD.swp hS hl (fun H locs hP hD hS => ?_)
  · have e := hw0 q
    subst e
    have e2 := (hO0 (hk.symm.trans q)).1
    dsimp only at e2
    rw [e2]
    rfl
  · by_cases q : k = 0
    · have e := hw0 q
      subst e
      exact kk _ _ _ _ _ _ _ u9.1 u9.2.1 u9.2.2.1 hh u9.2.2.2.1 u9.2.2.2.2 (hO0 (hk.symm.trans q)).2 H locs ls hP hD hS (lv_sub hl [2, 3, 4, 5, 6] rfl)
    · have e := hw1 q
      subst e
      exact kk _ _ _ _ _ _ _ u9.1 u9.2.1 u9.2.2.1 hh u9.2.2.2.1 u9.2.2.2.2 (hO1 (fun z => q (hk.trans z))) H locs ls hP hD hS (lv_sub hl [2, 3, 4, 5, 6] rfl)
end LawCases
