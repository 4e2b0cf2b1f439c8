set_option maxHeartbeats 4000000 in
set_option maxRecDepth 100000 in
theorem met_L_setFilter (l : Launch) (hlt : l.stackTraces = false) (D : va_G) (cI cJ cS : ClassId) (h0 : Nat) (hH : Nat) (hs : Nat) (g : Nat → Nat) (v : Nat → Int32) (a : Nat → Nat → Int32) (cn : Nat) (gs : Nat → Nat → Nat) (vs : Nat → Nat → Int32) (bs : Nat → Nat → Nat → Int32) (t : Int32) (o0 : Nat) (f : Nat → Int64) (hc : cn ≤ 4) : ∀ sz : Nat, Met l yL_setFilter wsL_setFilter ({ frames := 8, cells := 1, slots := 6, locals := 145 } : Room) (va_Pc [.ref h0, .int t, .ref o0] (wPre D (tyz cI cJ cS) (oxw o0 f cJ h0 hH hs cn gs vs bs g v a cI cS) sz)) (va_Qi (fun (r : Int32) (u : HS × (Nat → Int64)) => r = (F_X8_setFilter v a t).1 ∧ (r = 0 → u = (((F_X8_setFilter v a t).2.2.1, (F_X8_setFilter v a t).2.2.2, svC cn, svG cn gs, svV cn vs v, svB cn bs a), vp_updL f 0 (F_X8_setFilter v a t).2.1.toInt64)) ∧ (¬ r = 0 → u = ((v, a, cn, gs, vs, bs), f))) (fun u => cPost D (tyz cI cJ cS) (va_A (oxw o0 f cJ h0 hH hs cn gs vs bs g v a cI cS) sz) (oxw o0 u.2 cJ h0 hH hs u.1.2.2.1 u.1.2.2.2.1 u.1.2.2.2.2.1 u.1.2.2.2.2.2 g u.1.1 u.1.2.1 cI cS)) (va_A (oxw o0 f cJ h0 hH hs cn gs vs bs g v a cI cS) sz)) 1 6 (va_A (oxw o0 f cJ h0 hH hs cn gs vs bs g v a cI cS) sz) := by
  refine my_metW (QC := fun A => (va_Qi (fun (r : Int32) (u : HS × (Nat → Int64)) => r = (F_X8_setFilter v a t).1 ∧ (r = 0 → u = (((F_X8_setFilter v a t).2.2.1, (F_X8_setFilter v a t).2.2.2, svC cn, svG cn gs, svV cn vs v, svB cn bs a), vp_updL f 0 (F_X8_setFilter v a t).2.1.toInt64)) ∧ (¬ r = 0 → u = ((v, a, cn, gs, vs, bs), f))) (fun u => cPost D (tyz cI cJ cS) A (oxw o0 u.2 cJ h0 hH hs u.1.2.2.1 u.1.2.2.2.1 u.1.2.2.2.2.1 u.1.2.2.2.2.2 g u.1.1 u.1.2.1 cI cS)) A)) (cc := cL_setFilter) (maxL := 4) (ret := (some .int)) (hh := [(0, 9, 12, 13)]) (by decide) rfl (Nat.le_of_ble_eq_true rfl) ?_
  intro p e s m below meth c ls A hx hb hml hr hts hown hlocks htab hK hP hD hS hA hG hN hl
  have hown : s.vm.findClass RL = some m.cls := hown
  have hl : lv_has ls 4 [(0, .ref h0), (1, .int t), (2, .ref o0)] := hl
  refine lv_aload_n hx hb dL_setFilter_0 rfl (lv_at hl 2 rfl) ?_
  refine lv_iconst (v := 0) hx hb dL_setFilter_1 (by decide) ?_
  refine lv_aload_n hx hb dL_setFilter_2 rfl (lv_at hl 0 rfl) ?_
  refine lv_iload_n hx hb dL_setFilter_3 rfl (lv_at hl 1 rfl) ?_
  refine my_callXV_i (As := [.int t]) (rest := [.int 0, .ref o0]) (wc := hcw h0 hH hs cn gs vs bs g v a cI cS) (wr := [(o0, .inl (cJ, 1, .inr (.inl f)))]) ⟨hx, hb, hml, hown, hts⟩ (met_X8_setFilter l hlt D cI cJ cS h0 hH hs g v a cn gs vs bs t hc _) (cwV 1 hts gL_setFilter_X8_setFilter rfl rfl rfl (by decide +kernel) ⟨Nat.le_of_ble_eq_true rfl, Nat.le_of_ble_eq_true rfl⟩) hK hP hD hS hA hG _ _ (sp_C _ _) (sp_R _ _) (sp_nC _ _) (sp_nR _) (sp_dis _ _) 0 rfl rfl rfl hl.1 (Nat.le_of_ble_eq_true rfl) rfl dL_setFilter_4 ⟨Nat.le_of_ble_eq_true rfl, Nat.le_of_ble_eq_true rfl⟩ (fun E ce q9 H locs hpx hP hD hS hce hcv hcl => ?_) (fun r u H locs hw hP hD hS => ?_)
  · obtain ⟨rfl, hpx⟩ := hpx
    refine vx_catch (own := RL) (name := eIAE) hown [] ⟨0, 9, 12, 13⟩ [] (by rw [htab]; rfl) (fun _ h => nomatch h) (by decide) (by decide) (hts (.classLink RL 13 eIAE) (by decide +kernel)) (va_Nw.use rfl (hG.1.2.2.1 eIAE (by decide +kernel))) hce hcv hcl ?_
    refine lv_astore_n (lv' := [(3, .ref q9), (0, .ref h0), (1, .int t), (2, .ref o0)]) hx hb dL_setFilter_12 rfl hl (by decide) rfl (fun ls hl => ?_)
    refine lv_iconst (v := 1) hx hb dL_setFilter_13 (by decide) ?_
    exact my_iret hx hb hr rfl hlocks hK hP hD hS ((v, a, cn, gs, vs, bs), f) (⟨hpx.symm, fun h => absurd h (by decide), fun _ => rfl⟩) _ (sp_id _) (sp_nR _) dL_setFilter_14
  · refine lv_i2l hx hb dL_setFilter_7 rfl ?_
    refine my_last hx hb hK hP hD hS 0 1 rfl rfl dL_setFilter_8 (fun H locs hP hD hS => ?_)
    have hP : va_P D vwCl (oxw o0 (vp_updL f 0 r.toInt64) cJ h0 hH hs (svC cn) (svG cn gs) (svV cn vs v) (svB cn bs a) g u.1 u.2 cI cS) H := hP
    have hD : va_D A (oxw o0 (vp_updL f 0 r.toInt64) cJ h0 hH hs (svC cn) (svG cn gs) (svV cn vs v) (svB cn bs a) g u.1 u.2 cI cS) := hD
    refine lv_goto (tgt := 15) hx hb dL_setFilter_9 (by decide) ?_
    refine lv_iconst (v := 0) hx hb dL_setFilter_15 (by decide) ?_
    exact my_iret hx hb hr rfl hlocks hK hP hD hS ((u.1, u.2, svC cn, svG cn gs, svV cn vs v, svB cn bs a), vp_updL f 0 r.toInt64) (⟨congrArg Prod.fst hw, fun _ => by rw [← hw], fun h => absurd rfl h⟩) _ (sp_id _) (sp_nR _) dL_setFilter_16
set_option maxHeartbeats 4000000 in
set_option maxRecDepth 100000 in
theorem met_L_setPulse (l : Launch) (hlt : l.stackTraces = false) (D : va_G) (cI cJ cS : ClassId) (h0 : Nat) (hH : Nat) (hs : Nat) (g : Nat → Nat) (v : Nat → Int32) (a : Nat → Nat → Int32) (cn : Nat) (gs : Nat → Nat → Nat) (vs : Nat → Nat → Int32) (bs : Nat → Nat → Nat → Int32) (t : Int32) (b : Int32) (o0 : Nat) (f : Nat → Int64) (hc : cn ≤ 4) : ∀ sz : Nat, Met l yL_setPulse wsL_setPulse ({ frames := 8, cells := 1, slots := 6, locals := 146 } : Room) (va_Pc [.ref h0, .int t, .int b, .ref o0] (wPre D (tyz cI cJ cS) (oxw o0 f cJ h0 hH hs cn gs vs bs g v a cI cS) sz)) (va_Qi (fun (r : Int32) (u : HS × (Nat → Int64)) => r = (F_X8_setPulse v a t b).1 ∧ (r = 0 → u = (((F_X8_setPulse v a t b).2.2.1, (F_X8_setPulse v a t b).2.2.2, svC cn, svG cn gs, svV cn vs v, svB cn bs a), vp_updL f 0 (F_X8_setPulse v a t b).2.1.toInt64)) ∧ (¬ r = 0 → u = ((v, a, cn, gs, vs, bs), f))) (fun u => cPost D (tyz cI cJ cS) (va_A (oxw o0 f cJ h0 hH hs cn gs vs bs g v a cI cS) sz) (oxw o0 u.2 cJ h0 hH hs u.1.2.2.1 u.1.2.2.2.1 u.1.2.2.2.2.1 u.1.2.2.2.2.2 g u.1.1 u.1.2.1 cI cS)) (va_A (oxw o0 f cJ h0 hH hs cn gs vs bs g v a cI cS) sz)) 1 6 (va_A (oxw o0 f cJ h0 hH hs cn gs vs bs g v a cI cS) sz) := by
  refine my_metW (QC := fun A => (va_Qi (fun (r : Int32) (u : HS × (Nat → Int64)) => r = (F_X8_setPulse v a t b).1 ∧ (r = 0 → u = (((F_X8_setPulse v a t b).2.2.1, (F_X8_setPulse v a t b).2.2.2, svC cn, svG cn gs, svV cn vs v, svB cn bs a), vp_updL f 0 (F_X8_setPulse v a t b).2.1.toInt64)) ∧ (¬ r = 0 → u = ((v, a, cn, gs, vs, bs), f))) (fun u => cPost D (tyz cI cJ cS) A (oxw o0 u.2 cJ h0 hH hs u.1.2.2.1 u.1.2.2.2.1 u.1.2.2.2.2.1 u.1.2.2.2.2.2 g u.1.1 u.1.2.1 cI cS)) A)) (cc := cL_setPulse) (maxL := 5) (ret := (some .int)) (hh := [(0, 10, 13, 13)]) (by decide) rfl (Nat.le_of_ble_eq_true rfl) ?_
  intro p e s m below meth c ls A hx hb hml hr hts hown hlocks htab hK hP hD hS hA hG hN hl
  have hown : s.vm.findClass RL = some m.cls := hown
  have hl : lv_has ls 5 [(0, .ref h0), (1, .int t), (2, .int b), (3, .ref o0)] := hl
  refine lv_aload_n hx hb dL_setPulse_0 rfl (lv_at hl 3 rfl) ?_
  refine lv_iconst (v := 0) hx hb dL_setPulse_1 (by decide) ?_
  refine lv_aload_n hx hb dL_setPulse_2 rfl (lv_at hl 0 rfl) ?_
  refine lv_iload_n hx hb dL_setPulse_3 rfl (lv_at hl 1 rfl) ?_
  refine lv_iload_n hx hb dL_setPulse_4 rfl (lv_at hl 2 rfl) ?_
  refine my_callXV_i (As := [.int t, .int b]) (rest := [.int 0, .ref o0]) (wc := hcw h0 hH hs cn gs vs bs g v a cI cS) (wr := [(o0, .inl (cJ, 1, .inr (.inl f)))]) ⟨hx, hb, hml, hown, hts⟩ (met_X8_setPulse l hlt D cI cJ cS h0 hH hs g v a cn gs vs bs t b hc _) (cwV 2 hts gL_setPulse_X8_setPulse rfl rfl rfl (by decide +kernel) ⟨Nat.le_of_ble_eq_true rfl, Nat.le_of_ble_eq_true rfl⟩) hK hP hD hS hA hG _ _ (sp_C _ _) (sp_R _ _) (sp_nC _ _) (sp_nR _) (sp_dis _ _) 0 rfl rfl rfl hl.1 (Nat.le_of_ble_eq_true rfl) rfl dL_setPulse_5 ⟨Nat.le_of_ble_eq_true rfl, Nat.le_of_ble_eq_true rfl⟩ (fun E ce q9 H locs hpx hP hD hS hce hcv hcl => ?_) (fun r u H locs hw hP hD hS => ?_)
  · obtain ⟨rfl, hpx⟩ := hpx
    refine vx_catch (own := RL) (name := eIAE) hown [] ⟨0, 10, 13, 13⟩ [] (by rw [htab]; rfl) (fun _ h => nomatch h) (by decide) (by decide) (hts (.classLink RL 13 eIAE) (by decide +kernel)) (va_Nw.use rfl (hG.1.2.2.1 eIAE (by decide +kernel))) hce hcv hcl ?_
    refine lv_astore (lv' := [(4, .ref q9), (0, .ref h0), (1, .int t), (2, .int b), (3, .ref o0)]) hx hb dL_setPulse_13 hl (by decide) rfl (fun ls hl => ?_)
    refine lv_iconst (v := 1) hx hb dL_setPulse_15 (by decide) ?_
    exact my_iret hx hb hr rfl hlocks hK hP hD hS ((v, a, cn, gs, vs, bs), f) (⟨hpx.symm, fun h => absurd h (by decide), fun _ => rfl⟩) _ (sp_id _) (sp_nR _) dL_setPulse_16
  · refine lv_i2l hx hb dL_setPulse_8 rfl ?_
    refine my_last hx hb hK hP hD hS 0 1 rfl rfl dL_setPulse_9 (fun H locs hP hD hS => ?_)
    have hP : va_P D vwCl (oxw o0 (vp_updL f 0 r.toInt64) cJ h0 hH hs (svC cn) (svG cn gs) (svV cn vs v) (svB cn bs a) g u.1 u.2 cI cS) H := hP
    have hD : va_D A (oxw o0 (vp_updL f 0 r.toInt64) cJ h0 hH hs (svC cn) (svG cn gs) (svV cn vs v) (svB cn bs a) g u.1 u.2 cI cS) := hD
    refine lv_goto (tgt := 17) hx hb dL_setPulse_10 (by decide) ?_
    refine lv_iconst (v := 0) hx hb dL_setPulse_17 (by decide) ?_
    exact my_iret hx hb hr rfl hlocks hK hP hD hS ((u.1, u.2, svC cn, svG cn gs, svV cn vs v, svB cn bs a), vp_updL f 0 r.toInt64) (⟨congrArg Prod.fst hw, fun _ => by rw [← hw], fun h => absurd rfl h⟩) _ (sp_id _) (sp_nR _) dL_setPulse_18
set_option maxHeartbeats 4000000 in
set_option maxRecDepth 100000 in
theorem met_L_setDeadTime (l : Launch) (hlt : l.stackTraces = false) (D : va_G) (cI cJ cS : ClassId) (h0 : Nat) (hH : Nat) (hs : Nat) (g : Nat → Nat) (v : Nat → Int32) (a : Nat → Nat → Int32) (cn : Nat) (gs : Nat → Nat → Nat) (vs : Nat → Nat → Int32) (bs : Nat → Nat → Nat → Int32) (t : Int32) (o0 : Nat) (f : Nat → Int64) (hc : cn ≤ 4) : ∀ sz : Nat, Met l yL_setDeadTime wsL_setDeadTime ({ frames := 8, cells := 1, slots := 6, locals := 145 } : Room) (va_Pc [.ref h0, .int t, .ref o0] (wPre D (tyz cI cJ cS) (oxw o0 f cJ h0 hH hs cn gs vs bs g v a cI cS) sz)) (va_Qi (fun (r : Int32) (u : HS × (Nat → Int64)) => r = (F_X8_setDeadTime v a t).1 ∧ (r = 0 → u = (((F_X8_setDeadTime v a t).2.2.1, (F_X8_setDeadTime v a t).2.2.2, svC cn, svG cn gs, svV cn vs v, svB cn bs a), vp_updL f 0 (F_X8_setDeadTime v a t).2.1.toInt64)) ∧ (¬ r = 0 → u = ((v, a, cn, gs, vs, bs), f))) (fun u => cPost D (tyz cI cJ cS) (va_A (oxw o0 f cJ h0 hH hs cn gs vs bs g v a cI cS) sz) (oxw o0 u.2 cJ h0 hH hs u.1.2.2.1 u.1.2.2.2.1 u.1.2.2.2.2.1 u.1.2.2.2.2.2 g u.1.1 u.1.2.1 cI cS)) (va_A (oxw o0 f cJ h0 hH hs cn gs vs bs g v a cI cS) sz)) 1 6 (va_A (oxw o0 f cJ h0 hH hs cn gs vs bs g v a cI cS) sz) := by
  refine my_metW (QC := fun A => (va_Qi (fun (r : Int32) (u : HS × (Nat → Int64)) => r = (F_X8_setDeadTime v a t).1 ∧ (r = 0 → u = (((F_X8_setDeadTime v a t).2.2.1, (F_X8_setDeadTime v a t).2.2.2, svC cn, svG cn gs, svV cn vs v, svB cn bs a), vp_updL f 0 (F_X8_setDeadTime v a t).2.1.toInt64)) ∧ (¬ r = 0 → u = ((v, a, cn, gs, vs, bs), f))) (fun u => cPost D (tyz cI cJ cS) A (oxw o0 u.2 cJ h0 hH hs u.1.2.2.1 u.1.2.2.2.1 u.1.2.2.2.2.1 u.1.2.2.2.2.2 g u.1.1 u.1.2.1 cI cS)) A)) (cc := cL_setDeadTime) (maxL := 4) (ret := (some .int)) (hh := [(0, 9, 12, 13)]) (by decide) rfl (Nat.le_of_ble_eq_true rfl) ?_
  intro p e s m below meth c ls A hx hb hml hr hts hown hlocks htab hK hP hD hS hA hG hN hl
  have hown : s.vm.findClass RL = some m.cls := hown
  have hl : lv_has ls 4 [(0, .ref h0), (1, .int t), (2, .ref o0)] := hl
  refine lv_aload_n hx hb dL_setDeadTime_0 rfl (lv_at hl 2 rfl) ?_
  refine lv_iconst (v := 0) hx hb dL_setDeadTime_1 (by decide) ?_
  refine lv_aload_n hx hb dL_setDeadTime_2 rfl (lv_at hl 0 rfl) ?_
  refine lv_iload_n hx hb dL_setDeadTime_3 rfl (lv_at hl 1 rfl) ?_
  refine my_callXV_i (As := [.int t]) (rest := [.int 0, .ref o0]) (wc := hcw h0 hH hs cn gs vs bs g v a cI cS) (wr := [(o0, .inl (cJ, 1, .inr (.inl f)))]) ⟨hx, hb, hml, hown, hts⟩ (met_X8_setDeadTime l hlt D cI cJ cS h0 hH hs g v a cn gs vs bs t hc _) (cwV 1 hts gL_setDeadTime_X8_setDeadTime rfl rfl rfl (by decide +kernel) ⟨Nat.le_of_ble_eq_true rfl, Nat.le_of_ble_eq_true rfl⟩) hK hP hD hS hA hG _ _ (sp_C _ _) (sp_R _ _) (sp_nC _ _) (sp_nR _) (sp_dis _ _) 0 rfl rfl rfl hl.1 (Nat.le_of_ble_eq_true rfl) rfl dL_setDeadTime_4 ⟨Nat.le_of_ble_eq_true rfl, Nat.le_of_ble_eq_true rfl⟩ (fun E ce q9 H locs hpx hP hD hS hce hcv hcl => ?_) (fun r u H locs hw hP hD hS => ?_)
  · obtain ⟨rfl, hpx⟩ := hpx
    refine vx_catch (own := RL) (name := eIAE) hown [] ⟨0, 9, 12, 13⟩ [] (by rw [htab]; rfl) (fun _ h => nomatch h) (by decide) (by decide) (hts (.classLink RL 13 eIAE) (by decide +kernel)) (va_Nw.use rfl (hG.1.2.2.1 eIAE (by decide +kernel))) hce hcv hcl ?_
    refine lv_astore_n (lv' := [(3, .ref q9), (0, .ref h0), (1, .int t), (2, .ref o0)]) hx hb dL_setDeadTime_12 rfl hl (by decide) rfl (fun ls hl => ?_)
    refine lv_iconst (v := 1) hx hb dL_setDeadTime_13 (by decide) ?_
    exact my_iret hx hb hr rfl hlocks hK hP hD hS ((v, a, cn, gs, vs, bs), f) (⟨hpx.symm, fun h => absurd h (by decide), fun _ => rfl⟩) _ (sp_id _) (sp_nR _) dL_setDeadTime_14
  · refine lv_i2l hx hb dL_setDeadTime_7 rfl ?_
    refine my_last hx hb hK hP hD hS 0 1 rfl rfl dL_setDeadTime_8 (fun H locs hP hD hS => ?_)
    have hP : va_P D vwCl (oxw o0 (vp_updL f 0 r.toInt64) cJ h0 hH hs (svC cn) (svG cn gs) (svV cn vs v) (svB cn bs a) g u.1 u.2 cI cS) H := hP
    have hD : va_D A (oxw o0 (vp_updL f 0 r.toInt64) cJ h0 hH hs (svC cn) (svG cn gs) (svV cn vs v) (svB cn bs a) g u.1 u.2 cI cS) := hD
    refine lv_goto (tgt := 15) hx hb dL_setDeadTime_9 (by decide) ?_
    refine lv_iconst (v := 0) hx hb dL_setDeadTime_15 (by decide) ?_
    exact my_iret hx hb hr rfl hlocks hK hP hD hS ((u.1, u.2, svC cn, svG cn gs, svV cn vs v, svB cn bs a), vp_updL f 0 r.toInt64) (⟨congrArg Prod.fst hw, fun _ => by rw [← hw], fun h => absurd rfl h⟩) _ (sp_id _) (sp_nR _) dL_setDeadTime_16
set_option maxHeartbeats 4000000 in
set_option maxRecDepth 100000 in
theorem met_L_setStall (l : Launch) (hlt : l.stackTraces = false) (D : va_G) (cI cJ cS : ClassId) (h0 : Nat) (hH : Nat) (hs : Nat) (g : Nat → Nat) (v : Nat → Int32) (a : Nat → Nat → Int32) (cn : Nat) (gs : Nat → Nat → Nat) (vs : Nat → Nat → Int32) (bs : Nat → Nat → Nat → Int32) (t : Int32) (o0 : Nat) (f : Nat → Int64) (hc : cn ≤ 4) : ∀ sz : Nat, Met l yL_setStall wsL_setStall ({ frames := 8, cells := 1, slots := 6, locals := 145 } : Room) (va_Pc [.ref h0, .int t, .ref o0] (wPre D (tyz cI cJ cS) (oxw o0 f cJ h0 hH hs cn gs vs bs g v a cI cS) sz)) (va_Qi (fun (r : Int32) (u : HS × (Nat → Int64)) => r = (F_X8_setStall v a t).1 ∧ (r = 0 → u = (((F_X8_setStall v a t).2.2.1, (F_X8_setStall v a t).2.2.2, svC cn, svG cn gs, svV cn vs v, svB cn bs a), vp_updL f 0 (F_X8_setStall v a t).2.1.toInt64)) ∧ (¬ r = 0 → u = ((v, a, cn, gs, vs, bs), f))) (fun u => cPost D (tyz cI cJ cS) (va_A (oxw o0 f cJ h0 hH hs cn gs vs bs g v a cI cS) sz) (oxw o0 u.2 cJ h0 hH hs u.1.2.2.1 u.1.2.2.2.1 u.1.2.2.2.2.1 u.1.2.2.2.2.2 g u.1.1 u.1.2.1 cI cS)) (va_A (oxw o0 f cJ h0 hH hs cn gs vs bs g v a cI cS) sz)) 1 6 (va_A (oxw o0 f cJ h0 hH hs cn gs vs bs g v a cI cS) sz) := by
  refine my_metW (QC := fun A => (va_Qi (fun (r : Int32) (u : HS × (Nat → Int64)) => r = (F_X8_setStall v a t).1 ∧ (r = 0 → u = (((F_X8_setStall v a t).2.2.1, (F_X8_setStall v a t).2.2.2, svC cn, svG cn gs, svV cn vs v, svB cn bs a), vp_updL f 0 (F_X8_setStall v a t).2.1.toInt64)) ∧ (¬ r = 0 → u = ((v, a, cn, gs, vs, bs), f))) (fun u => cPost D (tyz cI cJ cS) A (oxw o0 u.2 cJ h0 hH hs u.1.2.2.1 u.1.2.2.2.1 u.1.2.2.2.2.1 u.1.2.2.2.2.2 g u.1.1 u.1.2.1 cI cS)) A)) (cc := cL_setStall) (maxL := 4) (ret := (some .int)) (hh := [(0, 9, 12, 13)]) (by decide) rfl (Nat.le_of_ble_eq_true rfl) ?_
  intro p e s m below meth c ls A hx hb hml hr hts hown hlocks htab hK hP hD hS hA hG hN hl
  have hown : s.vm.findClass RL = some m.cls := hown
  have hl : lv_has ls 4 [(0, .ref h0), (1, .int t), (2, .ref o0)] := hl
  refine lv_aload_n hx hb dL_setStall_0 rfl (lv_at hl 2 rfl) ?_
  refine lv_iconst (v := 0) hx hb dL_setStall_1 (by decide) ?_
  refine lv_aload_n hx hb dL_setStall_2 rfl (lv_at hl 0 rfl) ?_
  refine lv_iload_n hx hb dL_setStall_3 rfl (lv_at hl 1 rfl) ?_
  refine my_callXV_i (As := [.int t]) (rest := [.int 0, .ref o0]) (wc := hcw h0 hH hs cn gs vs bs g v a cI cS) (wr := [(o0, .inl (cJ, 1, .inr (.inl f)))]) ⟨hx, hb, hml, hown, hts⟩ (met_X8_setStall l hlt D cI cJ cS h0 hH hs g v a cn gs vs bs t hc _) (cwV 1 hts gL_setStall_X8_setStall rfl rfl rfl (by decide +kernel) ⟨Nat.le_of_ble_eq_true rfl, Nat.le_of_ble_eq_true rfl⟩) hK hP hD hS hA hG _ _ (sp_C _ _) (sp_R _ _) (sp_nC _ _) (sp_nR _) (sp_dis _ _) 0 rfl rfl rfl hl.1 (Nat.le_of_ble_eq_true rfl) rfl dL_setStall_4 ⟨Nat.le_of_ble_eq_true rfl, Nat.le_of_ble_eq_true rfl⟩ (fun E ce q9 H locs hpx hP hD hS hce hcv hcl => ?_) (fun r u H locs hw hP hD hS => ?_)
  · obtain ⟨rfl, hpx⟩ := hpx
    refine vx_catch (own := RL) (name := eIAE) hown [] ⟨0, 9, 12, 13⟩ [] (by rw [htab]; rfl) (fun _ h => nomatch h) (by decide) (by decide) (hts (.classLink RL 13 eIAE) (by decide +kernel)) (va_Nw.use rfl (hG.1.2.2.1 eIAE (by decide +kernel))) hce hcv hcl ?_
    refine lv_astore_n (lv' := [(3, .ref q9), (0, .ref h0), (1, .int t), (2, .ref o0)]) hx hb dL_setStall_12 rfl hl (by decide) rfl (fun ls hl => ?_)
    refine lv_iconst (v := 1) hx hb dL_setStall_13 (by decide) ?_
    exact my_iret hx hb hr rfl hlocks hK hP hD hS ((v, a, cn, gs, vs, bs), f) (⟨hpx.symm, fun h => absurd h (by decide), fun _ => rfl⟩) _ (sp_id _) (sp_nR _) dL_setStall_14
  · refine lv_i2l hx hb dL_setStall_7 rfl ?_
    refine my_last hx hb hK hP hD hS 0 1 rfl rfl dL_setStall_8 (fun H locs hP hD hS => ?_)
    have hP : va_P D vwCl (oxw o0 (vp_updL f 0 r.toInt64) cJ h0 hH hs (svC cn) (svG cn gs) (svV cn vs v) (svB cn bs a) g u.1 u.2 cI cS) H := hP
    have hD : va_D A (oxw o0 (vp_updL f 0 r.toInt64) cJ h0 hH hs (svC cn) (svG cn gs) (svV cn vs v) (svB cn bs a) g u.1 u.2 cI cS) := hD
    refine lv_goto (tgt := 15) hx hb dL_setStall_9 (by decide) ?_
    refine lv_iconst (v := 0) hx hb dL_setStall_15 (by decide) ?_
    exact my_iret hx hb hr rfl hlocks hK hP hD hS ((u.1, u.2, svC cn, svG cn gs, svV cn vs v, svB cn bs a), vp_updL f 0 r.toInt64) (⟨congrArg Prod.fst hw, fun _ => by rw [← hw], fun h => absurd rfl h⟩) _ (sp_id _) (sp_nR _) dL_setStall_16
set_option maxHeartbeats 4000000 in
set_option maxRecDepth 100000 in
theorem met_L_setMode (l : Launch) (hlt : l.stackTraces = false) (D : va_G) (cI cJ cS : ClassId) (h0 : Nat) (hH : Nat) (hs : Nat) (g : Nat → Nat) (v : Nat → Int32) (a : Nat → Nat → Int32) (cn : Nat) (gs : Nat → Nat → Nat) (vs : Nat → Nat → Int32) (bs : Nat → Nat → Nat → Int32) (t : Int32) (o0 : Nat) (f : Nat → Int64) (hc : cn ≤ 4) : ∀ sz : Nat, Met l yL_setMode wsL_setMode ({ frames := 8, cells := 1, slots := 6, locals := 145 } : Room) (va_Pc [.ref h0, .int t, .ref o0] (wPre D (tyz cI cJ cS) (oxw o0 f cJ h0 hH hs cn gs vs bs g v a cI cS) sz)) (va_Qi (fun (r : Int32) (u : HS × (Nat → Int64)) => r = (F_X8_setMode v a t).1 ∧ (r = 0 → u = (((F_X8_setMode v a t).2.2.1, (F_X8_setMode v a t).2.2.2, svC cn, svG cn gs, svV cn vs v, svB cn bs a), vp_updL f 0 (F_X8_setMode v a t).2.1.toInt64)) ∧ (¬ r = 0 → u = ((v, a, cn, gs, vs, bs), f))) (fun u => cPost D (tyz cI cJ cS) (va_A (oxw o0 f cJ h0 hH hs cn gs vs bs g v a cI cS) sz) (oxw o0 u.2 cJ h0 hH hs u.1.2.2.1 u.1.2.2.2.1 u.1.2.2.2.2.1 u.1.2.2.2.2.2 g u.1.1 u.1.2.1 cI cS)) (va_A (oxw o0 f cJ h0 hH hs cn gs vs bs g v a cI cS) sz)) 1 6 (va_A (oxw o0 f cJ h0 hH hs cn gs vs bs g v a cI cS) sz) := by
  refine my_metW (QC := fun A => (va_Qi (fun (r : Int32) (u : HS × (Nat → Int64)) => r = (F_X8_setMode v a t).1 ∧ (r = 0 → u = (((F_X8_setMode v a t).2.2.1, (F_X8_setMode v a t).2.2.2, svC cn, svG cn gs, svV cn vs v, svB cn bs a), vp_updL f 0 (F_X8_setMode v a t).2.1.toInt64)) ∧ (¬ r = 0 → u = ((v, a, cn, gs, vs, bs), f))) (fun u => cPost D (tyz cI cJ cS) A (oxw o0 u.2 cJ h0 hH hs u.1.2.2.1 u.1.2.2.2.1 u.1.2.2.2.2.1 u.1.2.2.2.2.2 g u.1.1 u.1.2.1 cI cS)) A)) (cc := cL_setMode) (maxL := 4) (ret := (some .int)) (hh := [(0, 9, 12, 13), (0, 9, 15, 28)]) (by decide) rfl (Nat.le_of_ble_eq_true rfl) ?_
  intro p e s m below meth c ls A hx hb hml hr hts hown hlocks htab hK hP hD hS hA hG hN hl
  have hown : s.vm.findClass RL = some m.cls := hown
  have hl : lv_has ls 4 [(0, .ref h0), (1, .int t), (2, .ref o0)] := hl
  refine lv_aload_n hx hb dL_setMode_0 rfl (lv_at hl 2 rfl) ?_
  refine lv_iconst (v := 0) hx hb dL_setMode_1 (by decide) ?_
  refine lv_aload_n hx hb dL_setMode_2 rfl (lv_at hl 0 rfl) ?_
  refine lv_iload_n hx hb dL_setMode_3 rfl (lv_at hl 1 rfl) ?_
  refine my_callXV_i (As := [.int t]) (rest := [.int 0, .ref o0]) (wc := hcw h0 hH hs cn gs vs bs g v a cI cS) (wr := [(o0, .inl (cJ, 1, .inr (.inl f)))]) ⟨hx, hb, hml, hown, hts⟩ (met_X8_setMode l hlt D cI cJ cS h0 hH hs g v a cn gs vs bs t hc _) (cwV 1 hts gL_setMode_X8_setMode rfl rfl rfl (by decide +kernel) ⟨Nat.le_of_ble_eq_true rfl, Nat.le_of_ble_eq_true rfl⟩) hK hP hD hS hA hG _ _ (sp_C _ _) (sp_R _ _) (sp_nC _ _) (sp_nR _) (sp_dis _ _) 0 rfl rfl rfl hl.1 (Nat.le_of_ble_eq_true rfl) rfl dL_setMode_4 ⟨Nat.le_of_ble_eq_true rfl, Nat.le_of_ble_eq_true rfl⟩ (fun E ce q9 H locs hpx hP hD hS hce hcv hcl => ?_) (fun r u H locs hw hP hD hS => ?_)
  · rcases hpx with ⟨rfl, hpx⟩ | ⟨rfl, hpx⟩
    · refine vx_catch (own := RL) (name := eIAE) hown [] ⟨0, 9, 12, 13⟩ [⟨0, 9, 15, 28⟩] (by rw [htab]; rfl) (fun _ h => nomatch h) (by decide) (by decide) (hts (.classLink RL 13 eIAE) (by decide +kernel)) (va_Nw.use rfl (hG.1.2.2.1 eIAE (by decide +kernel))) hce hcv hcl ?_
      refine lv_astore_n (lv' := [(3, .ref q9), (0, .ref h0), (1, .int t), (2, .ref o0)]) hx hb dL_setMode_12 rfl hl (by decide) rfl (fun ls hl => ?_)
      refine lv_iconst (v := 1) hx hb dL_setMode_13 (by decide) ?_
      exact my_iret hx hb hr rfl hlocks hK hP hD hS ((v, a, cn, gs, vs, bs), f) (⟨hpx.symm, fun h => absurd h (by decide), fun _ => rfl⟩) _ (sp_id _) (sp_nR _) dL_setMode_14
    · refine vx_catch (own := RL) (name := eISE) hown [⟨0, 9, 12, 13⟩] ⟨0, 9, 15, 28⟩ [] (by rw [htab]; rfl) (fun z hz => by rcases List.mem_singleton.mp hz with rfl; exact Or.inr ⟨by decide, eIAE, hts (.classLink RL 13 eIAE) (by decide +kernel), hN⟩) (by decide) (by decide) (hts (.classLink RL 28 eISE) (by decide +kernel)) (va_Nw.use rfl (hG.1.2.2.1 eISE (by decide +kernel))) hce hcv hcl ?_
      refine lv_astore_n (lv' := [(3, .ref q9), (0, .ref h0), (1, .int t), (2, .ref o0)]) hx hb dL_setMode_15 rfl hl (by decide) rfl (fun ls hl => ?_)
      refine lv_iconst (v := 2) hx hb dL_setMode_16 (by decide) ?_
      exact my_iret hx hb hr rfl hlocks hK hP hD hS ((v, a, cn, gs, vs, bs), f) (⟨hpx.symm, fun h => absurd h (by decide), fun _ => rfl⟩) _ (sp_id _) (sp_nR _) dL_setMode_17
  · refine lv_i2l hx hb dL_setMode_7 rfl ?_
    refine my_last hx hb hK hP hD hS 0 1 rfl rfl dL_setMode_8 (fun H locs hP hD hS => ?_)
    have hP : va_P D vwCl (oxw o0 (vp_updL f 0 r.toInt64) cJ h0 hH hs (svC cn) (svG cn gs) (svV cn vs v) (svB cn bs a) g u.1 u.2 cI cS) H := hP
    have hD : va_D A (oxw o0 (vp_updL f 0 r.toInt64) cJ h0 hH hs (svC cn) (svG cn gs) (svV cn vs v) (svB cn bs a) g u.1 u.2 cI cS) := hD
    refine lv_goto (tgt := 18) hx hb dL_setMode_9 (by decide) ?_
    refine lv_iconst (v := 0) hx hb dL_setMode_18 (by decide) ?_
    exact my_iret hx hb hr rfl hlocks hK hP hD hS ((u.1, u.2, svC cn, svG cn gs, svV cn vs v, svB cn bs a), vp_updL f 0 r.toInt64) (⟨congrArg Prod.fst hw, fun _ => by rw [← hw], fun h => absurd rfl h⟩) _ (sp_id _) (sp_nR _) dL_setMode_19
set_option maxHeartbeats 4000000 in
set_option maxRecDepth 100000 in
theorem met_L_clearFault (l : Launch) (hlt : l.stackTraces = false) (D : va_G) (cI cJ cS : ClassId) (h0 : Nat) (hH : Nat) (hs : Nat) (g : Nat → Nat) (v : Nat → Int32) (a : Nat → Nat → Int32) (cn : Nat) (gs : Nat → Nat → Nat) (vs : Nat → Nat → Int32) (bs : Nat → Nat → Nat → Int32) (o0 : Nat) (f : Nat → Int64) (hc : cn ≤ 4) : ∀ sz : Nat, Met l yL_clearFault wsL_clearFault ({ frames := 7, cells := 1, slots := 6, locals := 144 } : Room) (va_Pc [.ref h0, .ref o0] (wPre D (tyz cI cJ cS) (oxw o0 f cJ h0 hH hs cn gs vs bs g v a cI cS) sz)) (va_Qi (fun (r : Int32) (u : HS × (Nat → Int64)) => r = (F_X8_clearFault v a).1 ∧ (r = 0 → u = (((F_X8_clearFault v a).2.2.1, (F_X8_clearFault v a).2.2.2, svC cn, svG cn gs, svV cn vs v, svB cn bs a), vp_updL f 0 (F_X8_clearFault v a).2.1.toInt64)) ∧ (¬ r = 0 → u = ((v, a, cn, gs, vs, bs), f))) (fun u => cPost D (tyz cI cJ cS) (va_A (oxw o0 f cJ h0 hH hs cn gs vs bs g v a cI cS) sz) (oxw o0 u.2 cJ h0 hH hs u.1.2.2.1 u.1.2.2.2.1 u.1.2.2.2.2.1 u.1.2.2.2.2.2 g u.1.1 u.1.2.1 cI cS)) (va_A (oxw o0 f cJ h0 hH hs cn gs vs bs g v a cI cS) sz)) 1 6 (va_A (oxw o0 f cJ h0 hH hs cn gs vs bs g v a cI cS) sz) := by
  refine my_metW (QC := fun A => (va_Qi (fun (r : Int32) (u : HS × (Nat → Int64)) => r = (F_X8_clearFault v a).1 ∧ (r = 0 → u = (((F_X8_clearFault v a).2.2.1, (F_X8_clearFault v a).2.2.2, svC cn, svG cn gs, svV cn vs v, svB cn bs a), vp_updL f 0 (F_X8_clearFault v a).2.1.toInt64)) ∧ (¬ r = 0 → u = ((v, a, cn, gs, vs, bs), f))) (fun u => cPost D (tyz cI cJ cS) A (oxw o0 u.2 cJ h0 hH hs u.1.2.2.1 u.1.2.2.2.1 u.1.2.2.2.2.1 u.1.2.2.2.2.2 g u.1.1 u.1.2.1 cI cS)) A)) (cc := cL_clearFault) (maxL := 3) (ret := (some .int)) (hh := [(0, 8, 11, 28)]) (by decide) rfl (Nat.le_of_ble_eq_true rfl) ?_
  intro p e s m below meth c ls A hx hb hml hr hts hown hlocks htab hK hP hD hS hA hG hN hl
  have hown : s.vm.findClass RL = some m.cls := hown
  have hl : lv_has ls 3 [(0, .ref h0), (1, .ref o0)] := hl
  refine lv_aload_n hx hb dL_clearFault_0 rfl (lv_at hl 1 rfl) ?_
  refine lv_iconst (v := 0) hx hb dL_clearFault_1 (by decide) ?_
  refine lv_aload_n hx hb dL_clearFault_2 rfl (lv_at hl 0 rfl) ?_
  refine my_callXV_i (As := []) (rest := [.int 0, .ref o0]) (wc := hcw h0 hH hs cn gs vs bs g v a cI cS) (wr := [(o0, .inl (cJ, 1, .inr (.inl f)))]) ⟨hx, hb, hml, hown, hts⟩ (met_X8_clearFault l hlt D cI cJ cS h0 hH hs g v a cn gs vs bs hc _) (cwV 0 hts gL_clearFault_X8_clearFault rfl rfl rfl (by decide +kernel) ⟨Nat.le_of_ble_eq_true rfl, Nat.le_of_ble_eq_true rfl⟩) hK hP hD hS hA hG _ _ (sp_C _ _) (sp_R _ _) (sp_nC _ _) (sp_nR _) (sp_dis _ _) 0 rfl rfl rfl hl.1 (Nat.le_of_ble_eq_true rfl) rfl dL_clearFault_3 ⟨Nat.le_of_ble_eq_true rfl, Nat.le_of_ble_eq_true rfl⟩ (fun E ce q9 H locs hpx hP hD hS hce hcv hcl => ?_) (fun r u H locs hw hP hD hS => ?_)
  · obtain ⟨rfl, hpx⟩ := hpx
    refine vx_catch (own := RL) (name := eISE) hown [] ⟨0, 8, 11, 28⟩ [] (by rw [htab]; rfl) (fun _ h => nomatch h) (by decide) (by decide) (hts (.classLink RL 28 eISE) (by decide +kernel)) (va_Nw.use rfl (hG.1.2.2.1 eISE (by decide +kernel))) hce hcv hcl ?_
    refine lv_astore_n (lv' := [(2, .ref q9), (0, .ref h0), (1, .ref o0)]) hx hb dL_clearFault_11 rfl hl (by decide) rfl (fun ls hl => ?_)
    refine lv_iconst (v := 1) hx hb dL_clearFault_12 (by decide) ?_
    exact my_iret hx hb hr rfl hlocks hK hP hD hS ((v, a, cn, gs, vs, bs), f) (⟨hpx.symm, fun h => absurd h (by decide), fun _ => rfl⟩) _ (sp_id _) (sp_nR _) dL_clearFault_13
  · refine lv_i2l hx hb dL_clearFault_6 rfl ?_
    refine my_last hx hb hK hP hD hS 0 1 rfl rfl dL_clearFault_7 (fun H locs hP hD hS => ?_)
    have hP : va_P D vwCl (oxw o0 (vp_updL f 0 r.toInt64) cJ h0 hH hs (svC cn) (svG cn gs) (svV cn vs v) (svB cn bs a) g u.1 u.2 cI cS) H := hP
    have hD : va_D A (oxw o0 (vp_updL f 0 r.toInt64) cJ h0 hH hs (svC cn) (svG cn gs) (svV cn vs v) (svB cn bs a) g u.1 u.2 cI cS) := hD
    refine lv_goto (tgt := 14) hx hb dL_clearFault_8 (by decide) ?_
    refine lv_iconst (v := 0) hx hb dL_clearFault_14 (by decide) ?_
    exact my_iret hx hb hr rfl hlocks hK hP hD hS ((u.1, u.2, svC cn, svG cn gs, svV cn vs v, svB cn bs a), vp_updL f 0 r.toInt64) (⟨congrArg Prod.fst hw, fun _ => by rw [← hw], fun h => absurd rfl h⟩) _ (sp_id _) (sp_nR _) dL_clearFault_15
set_option maxHeartbeats 4000000 in
set_option maxRecDepth 100000 in
theorem met_L_schedule (l : Launch) (hlt : l.stackTraces = false) (D : va_G) (cI cJ cS : ClassId) (h0 : Nat) (hH : Nat) (hs : Nat) (g : Nat → Nat) (v : Nat → Int32) (a : Nat → Nat → Int32) (cn : Nat) (gs : Nat → Nat → Nat) (vs : Nat → Nat → Int32) (bs : Nat → Nat → Nat → Int32) (t : Int32) (b : Int32) (o0 : Nat) (f : Nat → Int64) (hq : vp_in (v 48) 41) (hc : cn ≤ 4) : ∀ sz : Nat, Met l yL_schedule wsL_schedule ({ frames := 8, cells := 1, slots := 6, locals := 145 } : Room) (va_Pc [.ref h0, .int t, .int b, .ref o0] (wPre D (tyz cI cJ cS) (oxw o0 f cJ h0 hH hs cn gs vs bs g v a cI cS) sz)) (va_Qi (fun (r : Int32) (u : HS × (Nat → Int64)) => r = (F_X8_schedule v a t b).1 ∧ (r = 0 → u = (((F_X8_schedule v a t b).2.2.1, (F_X8_schedule v a t b).2.2.2, svC cn, svG cn gs, svV cn vs v, svB cn bs a), vp_updL f 0 (F_X8_schedule v a t b).2.1.toInt64)) ∧ (¬ r = 0 → u = ((v, a, cn, gs, vs, bs), f))) (fun u => cPost D (tyz cI cJ cS) (va_A (oxw o0 f cJ h0 hH hs cn gs vs bs g v a cI cS) sz) (oxw o0 u.2 cJ h0 hH hs u.1.2.2.1 u.1.2.2.2.1 u.1.2.2.2.2.1 u.1.2.2.2.2.2 g u.1.1 u.1.2.1 cI cS)) (va_A (oxw o0 f cJ h0 hH hs cn gs vs bs g v a cI cS) sz)) 1 6 (va_A (oxw o0 f cJ h0 hH hs cn gs vs bs g v a cI cS) sz) := by
  refine my_metW (QC := fun A => (va_Qi (fun (r : Int32) (u : HS × (Nat → Int64)) => r = (F_X8_schedule v a t b).1 ∧ (r = 0 → u = (((F_X8_schedule v a t b).2.2.1, (F_X8_schedule v a t b).2.2.2, svC cn, svG cn gs, svV cn vs v, svB cn bs a), vp_updL f 0 (F_X8_schedule v a t b).2.1.toInt64)) ∧ (¬ r = 0 → u = ((v, a, cn, gs, vs, bs), f))) (fun u => cPost D (tyz cI cJ cS) A (oxw o0 u.2 cJ h0 hH hs u.1.2.2.1 u.1.2.2.2.1 u.1.2.2.2.2.1 u.1.2.2.2.2.2 g u.1.1 u.1.2.1 cI cS)) A)) (cc := cL_schedule) (maxL := 5) (ret := (some .int)) (hh := [(0, 10, 13, 13), (0, 10, 17, 28)]) (by decide) rfl (Nat.le_of_ble_eq_true rfl) ?_
  intro p e s m below meth c ls A hx hb hml hr hts hown hlocks htab hK hP hD hS hA hG hN hl
  have hown : s.vm.findClass RL = some m.cls := hown
  have hl : lv_has ls 5 [(0, .ref h0), (1, .int t), (2, .int b), (3, .ref o0)] := hl
  refine lv_aload_n hx hb dL_schedule_0 rfl (lv_at hl 3 rfl) ?_
  refine lv_iconst (v := 0) hx hb dL_schedule_1 (by decide) ?_
  refine lv_aload_n hx hb dL_schedule_2 rfl (lv_at hl 0 rfl) ?_
  refine lv_iload_n hx hb dL_schedule_3 rfl (lv_at hl 1 rfl) ?_
  refine lv_iload_n hx hb dL_schedule_4 rfl (lv_at hl 2 rfl) ?_
  refine my_callXV_i (As := [.int t, .int b]) (rest := [.int 0, .ref o0]) (wc := hcw h0 hH hs cn gs vs bs g v a cI cS) (wr := [(o0, .inl (cJ, 1, .inr (.inl f)))]) ⟨hx, hb, hml, hown, hts⟩ (met_X8_schedule l hlt D cI cJ cS h0 hH hs g v a cn gs vs bs t b hq hc _) (cwV 2 hts gL_schedule_X8_schedule rfl rfl rfl (by decide +kernel) ⟨Nat.le_of_ble_eq_true rfl, Nat.le_of_ble_eq_true rfl⟩) hK hP hD hS hA hG _ _ (sp_C _ _) (sp_R _ _) (sp_nC _ _) (sp_nR _) (sp_dis _ _) 0 rfl rfl rfl hl.1 (Nat.le_of_ble_eq_true rfl) rfl dL_schedule_5 ⟨Nat.le_of_ble_eq_true rfl, Nat.le_of_ble_eq_true rfl⟩ (fun E ce q9 H locs hpx hP hD hS hce hcv hcl => ?_) (fun r u H locs hw hP hD hS => ?_)
  · rcases hpx with ⟨rfl, hpx⟩ | ⟨rfl, hpx⟩
    · refine vx_catch (own := RL) (name := eIAE) hown [] ⟨0, 10, 13, 13⟩ [⟨0, 10, 17, 28⟩] (by rw [htab]; rfl) (fun _ h => nomatch h) (by decide) (by decide) (hts (.classLink RL 13 eIAE) (by decide +kernel)) (va_Nw.use rfl (hG.1.2.2.1 eIAE (by decide +kernel))) hce hcv hcl ?_
      refine lv_astore (lv' := [(4, .ref q9), (0, .ref h0), (1, .int t), (2, .int b), (3, .ref o0)]) hx hb dL_schedule_13 hl (by decide) rfl (fun ls hl => ?_)
      refine lv_iconst (v := 1) hx hb dL_schedule_15 (by decide) ?_
      exact my_iret hx hb hr rfl hlocks hK hP hD hS ((v, a, cn, gs, vs, bs), f) (⟨hpx.symm, fun h => absurd h (by decide), fun _ => rfl⟩) _ (sp_id _) (sp_nR _) dL_schedule_16
    · refine vx_catch (own := RL) (name := eISE) hown [⟨0, 10, 13, 13⟩] ⟨0, 10, 17, 28⟩ [] (by rw [htab]; rfl) (fun z hz => by rcases List.mem_singleton.mp hz with rfl; exact Or.inr ⟨by decide, eIAE, hts (.classLink RL 13 eIAE) (by decide +kernel), hN⟩) (by decide) (by decide) (hts (.classLink RL 28 eISE) (by decide +kernel)) (va_Nw.use rfl (hG.1.2.2.1 eISE (by decide +kernel))) hce hcv hcl ?_
      refine lv_astore (lv' := [(4, .ref q9), (0, .ref h0), (1, .int t), (2, .int b), (3, .ref o0)]) hx hb dL_schedule_17 hl (by decide) rfl (fun ls hl => ?_)
      refine lv_iconst (v := 2) hx hb dL_schedule_19 (by decide) ?_
      exact my_iret hx hb hr rfl hlocks hK hP hD hS ((v, a, cn, gs, vs, bs), f) (⟨hpx.symm, fun h => absurd h (by decide), fun _ => rfl⟩) _ (sp_id _) (sp_nR _) dL_schedule_20
  · refine lv_i2l hx hb dL_schedule_8 rfl ?_
    refine my_last hx hb hK hP hD hS 0 1 rfl rfl dL_schedule_9 (fun H locs hP hD hS => ?_)
    have hP : va_P D vwCl (oxw o0 (vp_updL f 0 r.toInt64) cJ h0 hH hs (svC cn) (svG cn gs) (svV cn vs v) (svB cn bs a) g u.1 u.2 cI cS) H := hP
    have hD : va_D A (oxw o0 (vp_updL f 0 r.toInt64) cJ h0 hH hs (svC cn) (svG cn gs) (svV cn vs v) (svB cn bs a) g u.1 u.2 cI cS) := hD
    refine lv_goto (tgt := 21) hx hb dL_schedule_10 (by decide) ?_
    refine lv_iconst (v := 0) hx hb dL_schedule_21 (by decide) ?_
    exact my_iret hx hb hr rfl hlocks hK hP hD hS ((u.1, u.2, svC cn, svG cn gs, svV cn vs v, svB cn bs a), vp_updL f 0 r.toInt64) (⟨congrArg Prod.fst hw, fun _ => by rw [← hw], fun h => absurd rfl h⟩) _ (sp_id _) (sp_nR _) dL_schedule_22
set_option maxHeartbeats 4000000 in
set_option maxRecDepth 100000 in
theorem met_L_spin (l : Launch) (hlt : l.stackTraces = false) (D : va_G) (cI cJ cS : ClassId) (h0 : Nat) (hH : Nat) (hs : Nat) (g : Nat → Nat) (v : Nat → Int32) (a : Nat → Nat → Int32) (cn : Nat) (gs : Nat → Nat → Nat) (vs : Nat → Nat → Int32) (bs : Nat → Nat → Nat → Int32) (t : Int32) (b : Int32) (d : Int32) (o0 : Nat) (f : Nat → Int64) (hq : vp_in (v 48) 41) (hc : cn ≤ 4) : ∀ sz : Nat, Met l yL_spin wsL_spin ({ frames := 8, cells := 1, slots := 6, locals := 149 } : Room) (va_Pc [.ref h0, .int t, .int b, .int d, .ref o0] (wPre D (tyz cI cJ cS) (oxw o0 f cJ h0 hH hs cn gs vs bs g v a cI cS) sz)) (va_Qi (fun (r : Int32) (u : HS × (Nat → Int64)) => r = (F_X8_spin v a t b d).1 ∧ (r = 0 → u = (((F_X8_spin v a t b d).2.2.1, (F_X8_spin v a t b d).2.2.2, svC cn, svG cn gs, svV cn vs v, svB cn bs a), vp_updL f 0 (F_X8_spin v a t b d).2.1.toInt64)) ∧ (¬ r = 0 → u = ((v, a, cn, gs, vs, bs), f))) (fun u => cPost D (tyz cI cJ cS) (va_A (oxw o0 f cJ h0 hH hs cn gs vs bs g v a cI cS) sz) (oxw o0 u.2 cJ h0 hH hs u.1.2.2.1 u.1.2.2.2.1 u.1.2.2.2.2.1 u.1.2.2.2.2.2 g u.1.1 u.1.2.1 cI cS)) (va_A (oxw o0 f cJ h0 hH hs cn gs vs bs g v a cI cS) sz)) 1 6 (va_A (oxw o0 f cJ h0 hH hs cn gs vs bs g v a cI cS) sz) := by
  refine my_metW (QC := fun A => (va_Qi (fun (r : Int32) (u : HS × (Nat → Int64)) => r = (F_X8_spin v a t b d).1 ∧ (r = 0 → u = (((F_X8_spin v a t b d).2.2.1, (F_X8_spin v a t b d).2.2.2, svC cn, svG cn gs, svV cn vs v, svB cn bs a), vp_updL f 0 (F_X8_spin v a t b d).2.1.toInt64)) ∧ (¬ r = 0 → u = ((v, a, cn, gs, vs, bs), f))) (fun u => cPost D (tyz cI cJ cS) A (oxw o0 u.2 cJ h0 hH hs u.1.2.2.1 u.1.2.2.2.1 u.1.2.2.2.2.1 u.1.2.2.2.2.2 g u.1.1 u.1.2.1 cI cS)) A)) (cc := cL_spin) (maxL := 6) (ret := (some .int)) (hh := [(0, 12, 15, 13), (0, 12, 19, 28)]) (by decide) rfl (Nat.le_of_ble_eq_true rfl) ?_
  intro p e s m below meth c ls A hx hb hml hr hts hown hlocks htab hK hP hD hS hA hG hN hl
  have hown : s.vm.findClass RL = some m.cls := hown
  have hl : lv_has ls 6 [(0, .ref h0), (1, .int t), (2, .int b), (3, .int d), (4, .ref o0)] := hl
  refine lv_aload hx hb dL_spin_0 (lv_at hl 4 rfl) ?_
  refine lv_iconst (v := 0) hx hb dL_spin_2 (by decide) ?_
  refine lv_aload_n hx hb dL_spin_3 rfl (lv_at hl 0 rfl) ?_
  refine lv_iload_n hx hb dL_spin_4 rfl (lv_at hl 1 rfl) ?_
  refine lv_iload_n hx hb dL_spin_5 rfl (lv_at hl 2 rfl) ?_
  refine lv_iload_n hx hb dL_spin_6 rfl (lv_at hl 3 rfl) ?_
  refine my_callXV_i (As := [.int t, .int b, .int d]) (rest := [.int 0, .ref o0]) (wc := hcw h0 hH hs cn gs vs bs g v a cI cS) (wr := [(o0, .inl (cJ, 1, .inr (.inl f)))]) ⟨hx, hb, hml, hown, hts⟩ (met_X8_spin l hlt D cI cJ cS h0 hH hs g v a cn gs vs bs t b d hq hc _) (cwV 3 hts gL_spin_X8_spin rfl rfl rfl (by decide +kernel) ⟨Nat.le_of_ble_eq_true rfl, Nat.le_of_ble_eq_true rfl⟩) hK hP hD hS hA hG _ _ (sp_C _ _) (sp_R _ _) (sp_nC _ _) (sp_nR _) (sp_dis _ _) 0 rfl rfl rfl hl.1 (Nat.le_of_ble_eq_true rfl) rfl dL_spin_7 ⟨Nat.le_of_ble_eq_true rfl, Nat.le_of_ble_eq_true rfl⟩ (fun E ce q9 H locs hpx hP hD hS hce hcv hcl => ?_) (fun r u H locs hw hP hD hS => ?_)
  · rcases hpx with ⟨rfl, hpx⟩ | ⟨rfl, hpx⟩
    · refine vx_catch (own := RL) (name := eIAE) hown [] ⟨0, 12, 15, 13⟩ [⟨0, 12, 19, 28⟩] (by rw [htab]; rfl) (fun _ h => nomatch h) (by decide) (by decide) (hts (.classLink RL 13 eIAE) (by decide +kernel)) (va_Nw.use rfl (hG.1.2.2.1 eIAE (by decide +kernel))) hce hcv hcl ?_
      refine lv_astore (lv' := [(5, .ref q9), (0, .ref h0), (1, .int t), (2, .int b), (3, .int d), (4, .ref o0)]) hx hb dL_spin_15 hl (by decide) rfl (fun ls hl => ?_)
      refine lv_iconst (v := 1) hx hb dL_spin_17 (by decide) ?_
      exact my_iret hx hb hr rfl hlocks hK hP hD hS ((v, a, cn, gs, vs, bs), f) (⟨hpx.symm, fun h => absurd h (by decide), fun _ => rfl⟩) _ (sp_id _) (sp_nR _) dL_spin_18
    · refine vx_catch (own := RL) (name := eISE) hown [⟨0, 12, 15, 13⟩] ⟨0, 12, 19, 28⟩ [] (by rw [htab]; rfl) (fun z hz => by rcases List.mem_singleton.mp hz with rfl; exact Or.inr ⟨by decide, eIAE, hts (.classLink RL 13 eIAE) (by decide +kernel), hN⟩) (by decide) (by decide) (hts (.classLink RL 28 eISE) (by decide +kernel)) (va_Nw.use rfl (hG.1.2.2.1 eISE (by decide +kernel))) hce hcv hcl ?_
      refine lv_astore (lv' := [(5, .ref q9), (0, .ref h0), (1, .int t), (2, .int b), (3, .int d), (4, .ref o0)]) hx hb dL_spin_19 hl (by decide) rfl (fun ls hl => ?_)
      refine lv_iconst (v := 2) hx hb dL_spin_21 (by decide) ?_
      exact my_iret hx hb hr rfl hlocks hK hP hD hS ((v, a, cn, gs, vs, bs), f) (⟨hpx.symm, fun h => absurd h (by decide), fun _ => rfl⟩) _ (sp_id _) (sp_nR _) dL_spin_22
  · refine lv_i2l hx hb dL_spin_10 rfl ?_
    refine my_last hx hb hK hP hD hS 0 1 rfl rfl dL_spin_11 (fun H locs hP hD hS => ?_)
    have hP : va_P D vwCl (oxw o0 (vp_updL f 0 r.toInt64) cJ h0 hH hs (svC cn) (svG cn gs) (svV cn vs v) (svB cn bs a) g u.1 u.2 cI cS) H := hP
    have hD : va_D A (oxw o0 (vp_updL f 0 r.toInt64) cJ h0 hH hs (svC cn) (svG cn gs) (svV cn vs v) (svB cn bs a) g u.1 u.2 cI cS) := hD
    refine lv_goto (tgt := 23) hx hb dL_spin_12 (by decide) ?_
    refine lv_iconst (v := 0) hx hb dL_spin_23 (by decide) ?_
    exact my_iret hx hb hr rfl hlocks hK hP hD hS ((u.1, u.2, svC cn, svG cn gs, svV cn vs v, svB cn bs a), vp_updL f 0 r.toInt64) (⟨congrArg Prod.fst hw, fun _ => by rw [← hw], fun h => absurd rfl h⟩) _ (sp_id _) (sp_nR _) dL_spin_24
set_option maxHeartbeats 4000000 in
set_option maxRecDepth 100000 in
theorem met_L_run (l : Launch) (hlt : l.stackTraces = false) (D : va_G) (cI cJ cS : ClassId) (h0 : Nat) (hH : Nat) (hs : Nat) (g : Nat → Nat) (v : Nat → Int32) (a : Nat → Nat → Int32) (cn : Nat) (gs : Nat → Nat → Nat) (vs : Nat → Nat → Int32) (bs : Nat → Nat → Nat → Int32) (t : Int32) (o0 : Nat) (f : Nat → Int64) (hI : ∀ j, j < tn t → vp_in ((pit j (v, a)).1 48) 41 ∧ vp_in ((pit j (v, a)).1 35) 7) (hc : cn ≤ 4) : ∀ sz : Nat, Met l yL_run wsL_run ({ frames := 8, cells := 1, slots := 6, locals := 145 } : Room) (va_Pc [.ref h0, .int t, .ref o0] (wPre D (tyz cI cJ cS) (oxw o0 f cJ h0 hH hs cn gs vs bs g v a cI cS) sz)) (va_Qi (fun (r : Int32) (u : HS × (Nat → Int64)) => r = (F_X8_run v a t).1 ∧ (r = 0 → u = (((F_X8_run v a t).2.2.1, (F_X8_run v a t).2.2.2, svC cn, svG cn gs, svV cn vs v, svB cn bs a), vp_updL f 0 (F_X8_run v a t).2.1.toInt64)) ∧ (¬ r = 0 → u = ((v, a, cn, gs, vs, bs), f))) (fun u => cPost D (tyz cI cJ cS) (va_A (oxw o0 f cJ h0 hH hs cn gs vs bs g v a cI cS) sz) (oxw o0 u.2 cJ h0 hH hs u.1.2.2.1 u.1.2.2.2.1 u.1.2.2.2.2.1 u.1.2.2.2.2.2 g u.1.1 u.1.2.1 cI cS)) (va_A (oxw o0 f cJ h0 hH hs cn gs vs bs g v a cI cS) sz)) 1 6 (va_A (oxw o0 f cJ h0 hH hs cn gs vs bs g v a cI cS) sz) := by
  refine my_metW (QC := fun A => (va_Qi (fun (r : Int32) (u : HS × (Nat → Int64)) => r = (F_X8_run v a t).1 ∧ (r = 0 → u = (((F_X8_run v a t).2.2.1, (F_X8_run v a t).2.2.2, svC cn, svG cn gs, svV cn vs v, svB cn bs a), vp_updL f 0 (F_X8_run v a t).2.1.toInt64)) ∧ (¬ r = 0 → u = ((v, a, cn, gs, vs, bs), f))) (fun u => cPost D (tyz cI cJ cS) A (oxw o0 u.2 cJ h0 hH hs u.1.2.2.1 u.1.2.2.2.1 u.1.2.2.2.2.1 u.1.2.2.2.2.2 g u.1.1 u.1.2.1 cI cS)) A)) (cc := cL_run) (maxL := 4) (ret := (some .int)) (hh := [(0, 9, 12, 13)]) (by decide) rfl (Nat.le_of_ble_eq_true rfl) ?_
  intro p e s m below meth c ls A hx hb hml hr hts hown hlocks htab hK hP hD hS hA hG hN hl
  have hown : s.vm.findClass RL = some m.cls := hown
  have hl : lv_has ls 4 [(0, .ref h0), (1, .int t), (2, .ref o0)] := hl
  refine lv_aload_n hx hb dL_run_0 rfl (lv_at hl 2 rfl) ?_
  refine lv_iconst (v := 0) hx hb dL_run_1 (by decide) ?_
  refine lv_aload_n hx hb dL_run_2 rfl (lv_at hl 0 rfl) ?_
  refine lv_iload_n hx hb dL_run_3 rfl (lv_at hl 1 rfl) ?_
  refine my_callXV_i (As := [.int t]) (rest := [.int 0, .ref o0]) (wc := hcw h0 hH hs cn gs vs bs g v a cI cS) (wr := [(o0, .inl (cJ, 1, .inr (.inl f)))]) ⟨hx, hb, hml, hown, hts⟩ (met_X8_run l hlt D cI cJ cS h0 hH hs g v a cn gs vs bs t hI hc _) (cwV 1 hts gL_run_X8_run rfl rfl rfl (by decide +kernel) ⟨Nat.le_of_ble_eq_true rfl, Nat.le_of_ble_eq_true rfl⟩) hK hP hD hS hA hG _ _ (sp_C _ _) (sp_R _ _) (sp_nC _ _) (sp_nR _) (sp_dis _ _) 0 rfl rfl rfl hl.1 (Nat.le_of_ble_eq_true rfl) rfl dL_run_4 ⟨Nat.le_of_ble_eq_true rfl, Nat.le_of_ble_eq_true rfl⟩ (fun E ce q9 H locs hpx hP hD hS hce hcv hcl => ?_) (fun r u H locs hw hP hD hS => ?_)
  · obtain ⟨rfl, hpx⟩ := hpx
    refine vx_catch (own := RL) (name := eIAE) hown [] ⟨0, 9, 12, 13⟩ [] (by rw [htab]; rfl) (fun _ h => nomatch h) (by decide) (by decide) (hts (.classLink RL 13 eIAE) (by decide +kernel)) (va_Nw.use rfl (hG.1.2.2.1 eIAE (by decide +kernel))) hce hcv hcl ?_
    refine lv_astore_n (lv' := [(3, .ref q9), (0, .ref h0), (1, .int t), (2, .ref o0)]) hx hb dL_run_12 rfl hl (by decide) rfl (fun ls hl => ?_)
    refine lv_iconst (v := 1) hx hb dL_run_13 (by decide) ?_
    exact my_iret hx hb hr rfl hlocks hK hP hD hS ((v, a, cn, gs, vs, bs), f) (⟨hpx.symm, fun h => absurd h (by decide), fun _ => rfl⟩) _ (sp_id _) (sp_nR _) dL_run_14
  · refine lv_i2l hx hb dL_run_7 rfl ?_
    refine my_last hx hb hK hP hD hS 0 1 rfl rfl dL_run_8 (fun H locs hP hD hS => ?_)
    have hP : va_P D vwCl (oxw o0 (vp_updL f 0 r.toInt64) cJ h0 hH hs (svC cn) (svG cn gs) (svV cn vs v) (svB cn bs a) g u.1 u.2 cI cS) H := hP
    have hD : va_D A (oxw o0 (vp_updL f 0 r.toInt64) cJ h0 hH hs (svC cn) (svG cn gs) (svV cn vs v) (svB cn bs a) g u.1 u.2 cI cS) := hD
    refine lv_goto (tgt := 15) hx hb dL_run_9 (by decide) ?_
    refine lv_iconst (v := 0) hx hb dL_run_15 (by decide) ?_
    exact my_iret hx hb hr rfl hlocks hK hP hD hS ((u.1, u.2, svC cn, svG cn gs, svV cn vs v, svB cn bs a), vp_updL f 0 r.toInt64) (⟨congrArg Prod.fst hw, fun _ => by rw [← hw], fun h => absurd rfl h⟩) _ (sp_id _) (sp_nR _) dL_run_16
set_option maxHeartbeats 4000000 in
set_option maxRecDepth 100000 in
theorem met_L_sensors (l : Launch) (hlt : l.stackTraces = false) (D : va_G) (cI cJ cS : ClassId) (h0 : Nat) (hH : Nat) (hs : Nat) (g : Nat → Nat) (v : Nat → Int32) (a : Nat → Nat → Int32) (cn : Nat) (gs : Nat → Nat → Nat) (vs : Nat → Nat → Int32) (bs : Nat → Nat → Nat → Int32) (t : Int32) (o0 : Nat) (f : Nat → Int64)  : ∀ sz : Nat, Met l yL_sensors wsL_sensors ({ frames := 8, cells := 1, slots := 6, locals := 143 } : Room) (va_Pc [.ref h0, .int t, .ref o0] (wPre D (tyz cI cJ cS) (oxw o0 f cJ h0 hH hs cn gs vs bs g v a cI cS) sz)) (va_Qi (fun (r : Int32) (u : Nat → Int64) => r = (F_X8_sensors v a t).1 ∧ (r = 0 → u = vp_updL f 0 (F_X8_sensors v a t).2.toInt64)) (fun u => cPost D (tyz cI cJ cS) (va_A (oxw o0 f cJ h0 hH hs cn gs vs bs g v a cI cS) sz) (oxw o0 u cJ h0 hH hs cn gs vs bs g v a cI cS)) (va_A (oxw o0 f cJ h0 hH hs cn gs vs bs g v a cI cS) sz)) 1 6 (va_A (oxw o0 f cJ h0 hH hs cn gs vs bs g v a cI cS) sz) := by
  refine my_metW (QC := fun A => (va_Qi (fun (r : Int32) (u : Nat → Int64) => r = (F_X8_sensors v a t).1 ∧ (r = 0 → u = vp_updL f 0 (F_X8_sensors v a t).2.toInt64)) (fun u => cPost D (tyz cI cJ cS) A (oxw o0 u cJ h0 hH hs cn gs vs bs g v a cI cS)) A)) (cc := cL_sensors) (maxL := 4) (ret := (some .int)) (hh := [(0, 9, 12, 13)]) (by decide) rfl (Nat.le_of_ble_eq_true rfl) ?_
  intro p e s m below meth c ls A hx hb hml hr hts hown hlocks htab hK hP hD hS hA hG hN hl
  have hown : s.vm.findClass RL = some m.cls := hown
  have hl : lv_has ls 4 [(0, .ref h0), (1, .int t), (2, .ref o0)] := hl
  refine lv_aload_n hx hb dL_sensors_0 rfl (lv_at hl 2 rfl) ?_
  refine lv_iconst (v := 0) hx hb dL_sensors_1 (by decide) ?_
  refine lv_aload_n hx hb dL_sensors_2 rfl (lv_at hl 0 rfl) ?_
  refine lv_iload_n hx hb dL_sensors_3 rfl (lv_at hl 1 rfl) ?_
  refine my_callXV_i (As := [.int t]) (rest := [.int 0, .ref o0]) (wc := hcw h0 hH hs cn gs vs bs g v a cI cS) (wr := [(o0, .inl (cJ, 1, .inr (.inl f)))]) ⟨hx, hb, hml, hown, hts⟩ (met_X8_sensors l hlt D cI cJ cS h0 hH hs g v a cn gs vs bs t  _) (cwV 1 hts gL_sensors_X8_sensors rfl rfl rfl (by decide +kernel) ⟨Nat.le_of_ble_eq_true rfl, Nat.le_of_ble_eq_true rfl⟩) hK hP hD hS hA hG _ _ (sp_C _ _) (sp_R _ _) (sp_nC _ _) (sp_nR _) (sp_dis _ _) 0 rfl rfl rfl hl.1 (Nat.le_of_ble_eq_true rfl) rfl dL_sensors_4 ⟨Nat.le_of_ble_eq_true rfl, Nat.le_of_ble_eq_true rfl⟩ (fun E ce q9 H locs hpx hP hD hS hce hcv hcl => ?_) (fun r _ H locs hw hP hD hS => ?_)
  · obtain ⟨rfl, hpx⟩ := hpx
    refine vx_catch (own := RL) (name := eIAE) hown [] ⟨0, 9, 12, 13⟩ [] (by rw [htab]; rfl) (fun _ h => nomatch h) (by decide) (by decide) (hts (.classLink RL 13 eIAE) (by decide +kernel)) (va_Nw.use rfl (hG.1.2.2.1 eIAE (by decide +kernel))) hce hcv hcl ?_
    refine lv_astore_n (lv' := [(3, .ref q9), (0, .ref h0), (1, .int t), (2, .ref o0)]) hx hb dL_sensors_12 rfl hl (by decide) rfl (fun ls hl => ?_)
    refine lv_iconst (v := 1) hx hb dL_sensors_13 (by decide) ?_
    exact my_iret hx hb hr rfl hlocks hK hP hD hS f (⟨hpx.symm, fun h => absurd h (by decide)⟩) _ (sp_id _) (sp_nR _) dL_sensors_14
  · refine lv_i2l hx hb dL_sensors_7 rfl ?_
    refine my_last hx hb hK hP hD hS 0 1 rfl rfl dL_sensors_8 (fun H locs hP hD hS => ?_)
    have hP : va_P D vwCl (oxw o0 (vp_updL f 0 r.toInt64) cJ h0 hH hs cn gs vs bs g v a cI cS) H := hP
    have hD : va_D A (oxw o0 (vp_updL f 0 r.toInt64) cJ h0 hH hs cn gs vs bs g v a cI cS) := hD
    refine lv_goto (tgt := 15) hx hb dL_sensors_9 (by decide) ?_
    refine lv_iconst (v := 0) hx hb dL_sensors_15 (by decide) ?_
    exact my_iret hx hb hr rfl hlocks hK hP hD hS (vp_updL f 0 r.toInt64) (⟨congrArg Prod.fst hw, fun _ => by rw [← hw]⟩) _ (sp_id _) (sp_nR _) dL_sensors_16
set_option maxHeartbeats 4000000 in
set_option maxRecDepth 100000 in
theorem met_L_leg (l : Launch) (hlt : l.stackTraces = false) (D : va_G) (cI cJ cS : ClassId) (h0 : Nat) (hH : Nat) (hs : Nat) (g : Nat → Nat) (v : Nat → Int32) (a : Nat → Nat → Int32) (cn : Nat) (gs : Nat → Nat → Nat) (vs : Nat → Nat → Int32) (bs : Nat → Nat → Nat → Int32) (t : Int32) (o0 : Nat) (f : Nat → Int64)  : ∀ sz : Nat, Met l yL_leg wsL_leg ({ frames := 8, cells := 1, slots := 6, locals := 141 } : Room) (va_Pc [.ref h0, .int t, .ref o0] (wPre D (tyz cI cJ cS) (oxw o0 f cJ h0 hH hs cn gs vs bs g v a cI cS) sz)) (va_Qi (fun (r : Int32) (u : Nat → Int64) => r = (F_X8_leg v a t).1 ∧ (r = 0 → u = vp_updL f 0 (F_X8_leg v a t).2.toInt64)) (fun u => cPost D (tyz cI cJ cS) (va_A (oxw o0 f cJ h0 hH hs cn gs vs bs g v a cI cS) sz) (oxw o0 u cJ h0 hH hs cn gs vs bs g v a cI cS)) (va_A (oxw o0 f cJ h0 hH hs cn gs vs bs g v a cI cS) sz)) 1 6 (va_A (oxw o0 f cJ h0 hH hs cn gs vs bs g v a cI cS) sz) := by
  refine my_metW (QC := fun A => (va_Qi (fun (r : Int32) (u : Nat → Int64) => r = (F_X8_leg v a t).1 ∧ (r = 0 → u = vp_updL f 0 (F_X8_leg v a t).2.toInt64)) (fun u => cPost D (tyz cI cJ cS) A (oxw o0 u cJ h0 hH hs cn gs vs bs g v a cI cS)) A)) (cc := cL_leg) (maxL := 4) (ret := (some .int)) (hh := [(0, 9, 12, 50)]) (by decide) rfl (Nat.le_of_ble_eq_true rfl) ?_
  intro p e s m below meth c ls A hx hb hml hr hts hown hlocks htab hK hP hD hS hA hG hN hl
  have hown : s.vm.findClass RL = some m.cls := hown
  have hl : lv_has ls 4 [(0, .ref h0), (1, .int t), (2, .ref o0)] := hl
  refine lv_aload_n hx hb dL_leg_0 rfl (lv_at hl 2 rfl) ?_
  refine lv_iconst (v := 0) hx hb dL_leg_1 (by decide) ?_
  refine lv_aload_n hx hb dL_leg_2 rfl (lv_at hl 0 rfl) ?_
  refine lv_iload_n hx hb dL_leg_3 rfl (lv_at hl 1 rfl) ?_
  refine my_callXV_i (As := [.int t]) (rest := [.int 0, .ref o0]) (wc := hcw h0 hH hs cn gs vs bs g v a cI cS) (wr := [(o0, .inl (cJ, 1, .inr (.inl f)))]) ⟨hx, hb, hml, hown, hts⟩ (met_X8_leg l hlt D cI cJ cS h0 hH hs g v a cn gs vs bs t  _) (cwV 1 hts gL_leg_X8_leg rfl rfl rfl (by decide +kernel) ⟨Nat.le_of_ble_eq_true rfl, Nat.le_of_ble_eq_true rfl⟩) hK hP hD hS hA hG _ _ (sp_C _ _) (sp_R _ _) (sp_nC _ _) (sp_nR _) (sp_dis _ _) 0 rfl rfl rfl hl.1 (Nat.le_of_ble_eq_true rfl) rfl dL_leg_4 ⟨Nat.le_of_ble_eq_true rfl, Nat.le_of_ble_eq_true rfl⟩ (fun E ce q9 H locs hpx hP hD hS hce hcv hcl => ?_) (fun r _ H locs hw hP hD hS => ?_)
  · obtain ⟨rfl, hpx⟩ := hpx
    refine vx_catch (own := RL) (name := eIOE) hown [] ⟨0, 9, 12, 50⟩ [] (by rw [htab]; rfl) (fun _ h => nomatch h) (by decide) (by decide) (hts (.classLink RL 50 eIOE) (by decide +kernel)) (va_Nw.use rfl (hG.1.2.2.1 eIOE (by decide +kernel))) hce hcv hcl ?_
    refine lv_astore_n (lv' := [(3, .ref q9), (0, .ref h0), (1, .int t), (2, .ref o0)]) hx hb dL_leg_12 rfl hl (by decide) rfl (fun ls hl => ?_)
    refine lv_iconst (v := 1) hx hb dL_leg_13 (by decide) ?_
    exact my_iret hx hb hr rfl hlocks hK hP hD hS f (⟨hpx.symm, fun h => absurd h (by decide)⟩) _ (sp_id _) (sp_nR _) dL_leg_14
  · refine lv_i2l hx hb dL_leg_7 rfl ?_
    refine my_last hx hb hK hP hD hS 0 1 rfl rfl dL_leg_8 (fun H locs hP hD hS => ?_)
    have hP : va_P D vwCl (oxw o0 (vp_updL f 0 r.toInt64) cJ h0 hH hs cn gs vs bs g v a cI cS) H := hP
    have hD : va_D A (oxw o0 (vp_updL f 0 r.toInt64) cJ h0 hH hs cn gs vs bs g v a cI cS) := hD
    refine lv_goto (tgt := 15) hx hb dL_leg_9 (by decide) ?_
    refine lv_iconst (v := 0) hx hb dL_leg_15 (by decide) ?_
    exact my_iret hx hb hr rfl hlocks hK hP hD hS (vp_updL f 0 r.toInt64) (⟨congrArg Prod.fst hw, fun _ => by rw [← hw]⟩) _ (sp_id _) (sp_nR _) dL_leg_16
set_option maxHeartbeats 4000000 in
set_option maxRecDepth 100000 in
theorem met_L_onTicks (l : Launch) (hlt : l.stackTraces = false) (D : va_G) (cI cJ cS : ClassId) (h0 : Nat) (hH : Nat) (hs : Nat) (g : Nat → Nat) (v : Nat → Int32) (a : Nat → Nat → Int32) (cn : Nat) (gs : Nat → Nat → Nat) (vs : Nat → Nat → Int32) (bs : Nat → Nat → Nat → Int32) (t : Int32) (b : Int32) (o0 : Nat) (f : Nat → Int64)  : ∀ sz : Nat, Met l yL_onTicks wsL_onTicks ({ frames := 8, cells := 1, slots := 6, locals := 142 } : Room) (va_Pc [.ref h0, .int t, .int b, .ref o0] (wPre D (tyz cI cJ cS) (oxw o0 f cJ h0 hH hs cn gs vs bs g v a cI cS) sz)) (va_Qi (fun (r : Int32) (u : Nat → Int64) => r = (F_X8_onTicks v a t b).1 ∧ (r = 0 → u = vp_updL f 0 (F_X8_onTicks v a t b).2.toInt64)) (fun u => cPost D (tyz cI cJ cS) (va_A (oxw o0 f cJ h0 hH hs cn gs vs bs g v a cI cS) sz) (oxw o0 u cJ h0 hH hs cn gs vs bs g v a cI cS)) (va_A (oxw o0 f cJ h0 hH hs cn gs vs bs g v a cI cS) sz)) 1 6 (va_A (oxw o0 f cJ h0 hH hs cn gs vs bs g v a cI cS) sz) := by
  refine my_metW (QC := fun A => (va_Qi (fun (r : Int32) (u : Nat → Int64) => r = (F_X8_onTicks v a t b).1 ∧ (r = 0 → u = vp_updL f 0 (F_X8_onTicks v a t b).2.toInt64)) (fun u => cPost D (tyz cI cJ cS) A (oxw o0 u cJ h0 hH hs cn gs vs bs g v a cI cS)) A)) (cc := cL_onTicks) (maxL := 5) (ret := (some .int)) (hh := [(0, 10, 13, 50)]) (by decide) rfl (Nat.le_of_ble_eq_true rfl) ?_
  intro p e s m below meth c ls A hx hb hml hr hts hown hlocks htab hK hP hD hS hA hG hN hl
  have hown : s.vm.findClass RL = some m.cls := hown
  have hl : lv_has ls 5 [(0, .ref h0), (1, .int t), (2, .int b), (3, .ref o0)] := hl
  refine lv_aload_n hx hb dL_onTicks_0 rfl (lv_at hl 3 rfl) ?_
  refine lv_iconst (v := 0) hx hb dL_onTicks_1 (by decide) ?_
  refine lv_aload_n hx hb dL_onTicks_2 rfl (lv_at hl 0 rfl) ?_
  refine lv_iload_n hx hb dL_onTicks_3 rfl (lv_at hl 1 rfl) ?_
  refine lv_iload_n hx hb dL_onTicks_4 rfl (lv_at hl 2 rfl) ?_
  refine my_callXV_i (As := [.int t, .int b]) (rest := [.int 0, .ref o0]) (wc := hcw h0 hH hs cn gs vs bs g v a cI cS) (wr := [(o0, .inl (cJ, 1, .inr (.inl f)))]) ⟨hx, hb, hml, hown, hts⟩ (met_X8_onTicks l hlt D cI cJ cS h0 hH hs g v a cn gs vs bs t b  _) (cwV 2 hts gL_onTicks_X8_onTicks rfl rfl rfl (by decide +kernel) ⟨Nat.le_of_ble_eq_true rfl, Nat.le_of_ble_eq_true rfl⟩) hK hP hD hS hA hG _ _ (sp_C _ _) (sp_R _ _) (sp_nC _ _) (sp_nR _) (sp_dis _ _) 0 rfl rfl rfl hl.1 (Nat.le_of_ble_eq_true rfl) rfl dL_onTicks_5 ⟨Nat.le_of_ble_eq_true rfl, Nat.le_of_ble_eq_true rfl⟩ (fun E ce q9 H locs hpx hP hD hS hce hcv hcl => ?_) (fun r _ H locs hw hP hD hS => ?_)
  · obtain ⟨rfl, hpx⟩ := hpx
    refine vx_catch (own := RL) (name := eIOE) hown [] ⟨0, 10, 13, 50⟩ [] (by rw [htab]; rfl) (fun _ h => nomatch h) (by decide) (by decide) (hts (.classLink RL 50 eIOE) (by decide +kernel)) (va_Nw.use rfl (hG.1.2.2.1 eIOE (by decide +kernel))) hce hcv hcl ?_
    refine lv_astore (lv' := [(4, .ref q9), (0, .ref h0), (1, .int t), (2, .int b), (3, .ref o0)]) hx hb dL_onTicks_13 hl (by decide) rfl (fun ls hl => ?_)
    refine lv_iconst (v := 1) hx hb dL_onTicks_15 (by decide) ?_
    exact my_iret hx hb hr rfl hlocks hK hP hD hS f (⟨hpx.symm, fun h => absurd h (by decide)⟩) _ (sp_id _) (sp_nR _) dL_onTicks_16
  · refine lv_i2l hx hb dL_onTicks_8 rfl ?_
    refine my_last hx hb hK hP hD hS 0 1 rfl rfl dL_onTicks_9 (fun H locs hP hD hS => ?_)
    have hP : va_P D vwCl (oxw o0 (vp_updL f 0 r.toInt64) cJ h0 hH hs cn gs vs bs g v a cI cS) H := hP
    have hD : va_D A (oxw o0 (vp_updL f 0 r.toInt64) cJ h0 hH hs cn gs vs bs g v a cI cS) := hD
    refine lv_goto (tgt := 17) hx hb dL_onTicks_10 (by decide) ?_
    refine lv_iconst (v := 0) hx hb dL_onTicks_17 (by decide) ?_
    exact my_iret hx hb hr rfl hlocks hK hP hD hS (vp_updL f 0 r.toInt64) (⟨congrArg Prod.fst hw, fun _ => by rw [← hw]⟩) _ (sp_id _) (sp_nR _) dL_onTicks_18
set_option maxHeartbeats 4000000 in
set_option maxRecDepth 100000 in
theorem met_L_counts (l : Launch) (hlt : l.stackTraces = false) (D : va_G) (cI cJ cS : ClassId) (h0 : Nat) (hH : Nat) (hs : Nat) (g : Nat → Nat) (v : Nat → Int32) (a : Nat → Nat → Int32) (cn : Nat) (gs : Nat → Nat → Nat) (vs : Nat → Nat → Int32) (bs : Nat → Nat → Nat → Int32) (t : Int32) (o0 : Nat) (f : Nat → Int64)  : ∀ sz : Nat, Met l yL_counts wsL_counts ({ frames := 8, cells := 1, slots := 6, locals := 143 } : Room) (va_Pc [.ref h0, .int t, .ref o0] (wPre D (tyz cI cJ cS) (oxw o0 f cJ h0 hH hs cn gs vs bs g v a cI cS) sz)) (va_Qi (fun (r : Int32) (u : Nat → Int64) => r = (F_X8_counts v a t).1 ∧ (r = 0 → u = vp_updL f 0 (F_X8_counts v a t).2.toInt64)) (fun u => cPost D (tyz cI cJ cS) (va_A (oxw o0 f cJ h0 hH hs cn gs vs bs g v a cI cS) sz) (oxw o0 u cJ h0 hH hs cn gs vs bs g v a cI cS)) (va_A (oxw o0 f cJ h0 hH hs cn gs vs bs g v a cI cS) sz)) 1 6 (va_A (oxw o0 f cJ h0 hH hs cn gs vs bs g v a cI cS) sz) := by
  refine my_metW (QC := fun A => (va_Qi (fun (r : Int32) (u : Nat → Int64) => r = (F_X8_counts v a t).1 ∧ (r = 0 → u = vp_updL f 0 (F_X8_counts v a t).2.toInt64)) (fun u => cPost D (tyz cI cJ cS) A (oxw o0 u cJ h0 hH hs cn gs vs bs g v a cI cS)) A)) (cc := cL_counts) (maxL := 4) (ret := (some .int)) (hh := [(0, 9, 12, 13)]) (by decide) rfl (Nat.le_of_ble_eq_true rfl) ?_
  intro p e s m below meth c ls A hx hb hml hr hts hown hlocks htab hK hP hD hS hA hG hN hl
  have hown : s.vm.findClass RL = some m.cls := hown
  have hl : lv_has ls 4 [(0, .ref h0), (1, .int t), (2, .ref o0)] := hl
  refine lv_aload_n hx hb dL_counts_0 rfl (lv_at hl 2 rfl) ?_
  refine lv_iconst (v := 0) hx hb dL_counts_1 (by decide) ?_
  refine lv_aload_n hx hb dL_counts_2 rfl (lv_at hl 0 rfl) ?_
  refine lv_iload_n hx hb dL_counts_3 rfl (lv_at hl 1 rfl) ?_
  refine my_callXV_i (As := [.int t]) (rest := [.int 0, .ref o0]) (wc := hcw h0 hH hs cn gs vs bs g v a cI cS) (wr := [(o0, .inl (cJ, 1, .inr (.inl f)))]) ⟨hx, hb, hml, hown, hts⟩ (met_X8_counts l hlt D cI cJ cS h0 hH hs g v a cn gs vs bs t  _) (cwV 1 hts gL_counts_X8_counts rfl rfl rfl (by decide +kernel) ⟨Nat.le_of_ble_eq_true rfl, Nat.le_of_ble_eq_true rfl⟩) hK hP hD hS hA hG _ _ (sp_C _ _) (sp_R _ _) (sp_nC _ _) (sp_nR _) (sp_dis _ _) 0 rfl rfl rfl hl.1 (Nat.le_of_ble_eq_true rfl) rfl dL_counts_4 ⟨Nat.le_of_ble_eq_true rfl, Nat.le_of_ble_eq_true rfl⟩ (fun E ce q9 H locs hpx hP hD hS hce hcv hcl => ?_) (fun r _ H locs hw hP hD hS => ?_)
  · obtain ⟨rfl, hpx⟩ := hpx
    refine vx_catch (own := RL) (name := eIAE) hown [] ⟨0, 9, 12, 13⟩ [] (by rw [htab]; rfl) (fun _ h => nomatch h) (by decide) (by decide) (hts (.classLink RL 13 eIAE) (by decide +kernel)) (va_Nw.use rfl (hG.1.2.2.1 eIAE (by decide +kernel))) hce hcv hcl ?_
    refine lv_astore_n (lv' := [(3, .ref q9), (0, .ref h0), (1, .int t), (2, .ref o0)]) hx hb dL_counts_12 rfl hl (by decide) rfl (fun ls hl => ?_)
    refine lv_iconst (v := 1) hx hb dL_counts_13 (by decide) ?_
    exact my_iret hx hb hr rfl hlocks hK hP hD hS f (⟨hpx.symm, fun h => absurd h (by decide)⟩) _ (sp_id _) (sp_nR _) dL_counts_14
  · refine lv_i2l hx hb dL_counts_7 rfl ?_
    refine my_last hx hb hK hP hD hS 0 1 rfl rfl dL_counts_8 (fun H locs hP hD hS => ?_)
    have hP : va_P D vwCl (oxw o0 (vp_updL f 0 r.toInt64) cJ h0 hH hs cn gs vs bs g v a cI cS) H := hP
    have hD : va_D A (oxw o0 (vp_updL f 0 r.toInt64) cJ h0 hH hs cn gs vs bs g v a cI cS) := hD
    refine lv_goto (tgt := 15) hx hb dL_counts_9 (by decide) ?_
    refine lv_iconst (v := 0) hx hb dL_counts_15 (by decide) ?_
    exact my_iret hx hb hr rfl hlocks hK hP hD hS (vp_updL f 0 r.toInt64) (⟨congrArg Prod.fst hw, fun _ => by rw [← hw]⟩) _ (sp_id _) (sp_nR _) dL_counts_16
set_option maxHeartbeats 4000000 in
set_option maxRecDepth 100000 in
theorem met_L_interval (l : Launch) (hlt : l.stackTraces = false) (D : va_G) (cI cJ cS : ClassId) (h0 : Nat) (hH : Nat) (hs : Nat) (g : Nat → Nat) (v : Nat → Int32) (a : Nat → Nat → Int32) (cn : Nat) (gs : Nat → Nat → Nat) (vs : Nat → Nat → Int32) (bs : Nat → Nat → Nat → Int32) (t : Int32) (o0 : Nat) (f : Nat → Int64) (hz : vp_in (v 35) 7) : ∀ sz : Nat, Met l yL_interval wsL_interval ({ frames := 7, cells := 1, slots := 6, locals := 121 } : Room) (va_Pc [.ref h0, .int t, .ref o0] (wPre D (tyz cI cJ cS) (oxw o0 f cJ h0 hH hs cn gs vs bs g v a cI cS) sz)) (va_Qi (fun (r : Int32) (u : Nat → Int64) => r = (F_X8_interval v a t).1 ∧ (r = 0 → u = vp_updL f 0 (F_X8_interval v a t).2.toInt64)) (fun u => cPost D (tyz cI cJ cS) (va_A (oxw o0 f cJ h0 hH hs cn gs vs bs g v a cI cS) sz) (oxw o0 u cJ h0 hH hs cn gs vs bs g v a cI cS)) (va_A (oxw o0 f cJ h0 hH hs cn gs vs bs g v a cI cS) sz)) 1 6 (va_A (oxw o0 f cJ h0 hH hs cn gs vs bs g v a cI cS) sz) := by
  refine my_metW (QC := fun A => (va_Qi (fun (r : Int32) (u : Nat → Int64) => r = (F_X8_interval v a t).1 ∧ (r = 0 → u = vp_updL f 0 (F_X8_interval v a t).2.toInt64)) (fun u => cPost D (tyz cI cJ cS) A (oxw o0 u cJ h0 hH hs cn gs vs bs g v a cI cS)) A)) (cc := cL_interval) (maxL := 4) (ret := (some .int)) (hh := [(0, 9, 12, 50)]) (by decide) rfl (Nat.le_of_ble_eq_true rfl) ?_
  intro p e s m below meth c ls A hx hb hml hr hts hown hlocks htab hK hP hD hS hA hG hN hl
  have hown : s.vm.findClass RL = some m.cls := hown
  have hl : lv_has ls 4 [(0, .ref h0), (1, .int t), (2, .ref o0)] := hl
  refine lv_aload_n hx hb dL_interval_0 rfl (lv_at hl 2 rfl) ?_
  refine lv_iconst (v := 0) hx hb dL_interval_1 (by decide) ?_
  refine lv_aload_n hx hb dL_interval_2 rfl (lv_at hl 0 rfl) ?_
  refine lv_iload_n hx hb dL_interval_3 rfl (lv_at hl 1 rfl) ?_
  refine my_callXV_i (As := [.int t]) (rest := [.int 0, .ref o0]) (wc := hcw h0 hH hs cn gs vs bs g v a cI cS) (wr := [(o0, .inl (cJ, 1, .inr (.inl f)))]) ⟨hx, hb, hml, hown, hts⟩ (met_X8_interval l hlt D cI cJ cS h0 hH hs g v a cn gs vs bs t hz _) (cwV 1 hts gL_interval_X8_interval rfl rfl rfl (by decide +kernel) ⟨Nat.le_of_ble_eq_true rfl, Nat.le_of_ble_eq_true rfl⟩) hK hP hD hS hA hG _ _ (sp_C _ _) (sp_R _ _) (sp_nC _ _) (sp_nR _) (sp_dis _ _) 0 rfl rfl rfl hl.1 (Nat.le_of_ble_eq_true rfl) rfl dL_interval_4 ⟨Nat.le_of_ble_eq_true rfl, Nat.le_of_ble_eq_true rfl⟩ (fun E ce q9 H locs hpx hP hD hS hce hcv hcl => ?_) (fun r _ H locs hw hP hD hS => ?_)
  · obtain ⟨rfl, hpx⟩ := hpx
    refine vx_catch (own := RL) (name := eIOE) hown [] ⟨0, 9, 12, 50⟩ [] (by rw [htab]; rfl) (fun _ h => nomatch h) (by decide) (by decide) (hts (.classLink RL 50 eIOE) (by decide +kernel)) (va_Nw.use rfl (hG.1.2.2.1 eIOE (by decide +kernel))) hce hcv hcl ?_
    refine lv_astore_n (lv' := [(3, .ref q9), (0, .ref h0), (1, .int t), (2, .ref o0)]) hx hb dL_interval_12 rfl hl (by decide) rfl (fun ls hl => ?_)
    refine lv_iconst (v := 1) hx hb dL_interval_13 (by decide) ?_
    exact my_iret hx hb hr rfl hlocks hK hP hD hS f (⟨hpx.symm, fun h => absurd h (by decide)⟩) _ (sp_id _) (sp_nR _) dL_interval_14
  · refine lv_i2l hx hb dL_interval_7 rfl ?_
    refine my_last hx hb hK hP hD hS 0 1 rfl rfl dL_interval_8 (fun H locs hP hD hS => ?_)
    have hP : va_P D vwCl (oxw o0 (vp_updL f 0 r.toInt64) cJ h0 hH hs cn gs vs bs g v a cI cS) H := hP
    have hD : va_D A (oxw o0 (vp_updL f 0 r.toInt64) cJ h0 hH hs cn gs vs bs g v a cI cS) := hD
    refine lv_goto (tgt := 15) hx hb dL_interval_9 (by decide) ?_
    refine lv_iconst (v := 0) hx hb dL_interval_15 (by decide) ?_
    exact my_iret hx hb hr rfl hlocks hK hP hD hS (vp_updL f 0 r.toInt64) (⟨congrArg Prod.fst hw, fun _ => by rw [← hw]⟩) _ (sp_id _) (sp_nR _) dL_interval_16
set_option maxHeartbeats 4000000 in
set_option maxRecDepth 100000 in
theorem met_L_fault (l : Launch) (hlt : l.stackTraces = false) (D : va_G) (cI cJ cS : ClassId) (h0 : Nat) (hH : Nat) (hs : Nat) (g : Nat → Nat) (v : Nat → Int32) (a : Nat → Nat → Int32) (cn : Nat) (gs : Nat → Nat → Nat) (vs : Nat → Nat → Int32) (bs : Nat → Nat → Nat → Int32) (t : Int32) (o0 : Nat) (f : Nat → Int64)  : ∀ sz : Nat, Met l yL_fault wsL_fault ({ frames := 8, cells := 1, slots := 6, locals := 143 } : Room) (va_Pc [.ref h0, .int t, .ref o0] (wPre D (tyz cI cJ cS) (oxw o0 f cJ h0 hH hs cn gs vs bs g v a cI cS) sz)) (va_Qi (fun (r : Int32) (u : Nat → Int64) => r = (F_X8_fault v a t).1 ∧ (r = 0 → u = vp_updL f 0 (F_X8_fault v a t).2.toInt64)) (fun u => cPost D (tyz cI cJ cS) (va_A (oxw o0 f cJ h0 hH hs cn gs vs bs g v a cI cS) sz) (oxw o0 u cJ h0 hH hs cn gs vs bs g v a cI cS)) (va_A (oxw o0 f cJ h0 hH hs cn gs vs bs g v a cI cS) sz)) 1 6 (va_A (oxw o0 f cJ h0 hH hs cn gs vs bs g v a cI cS) sz) := by
  refine my_metW (QC := fun A => (va_Qi (fun (r : Int32) (u : Nat → Int64) => r = (F_X8_fault v a t).1 ∧ (r = 0 → u = vp_updL f 0 (F_X8_fault v a t).2.toInt64)) (fun u => cPost D (tyz cI cJ cS) A (oxw o0 u cJ h0 hH hs cn gs vs bs g v a cI cS)) A)) (cc := cL_fault) (maxL := 4) (ret := (some .int)) (hh := [(0, 9, 12, 13)]) (by decide) rfl (Nat.le_of_ble_eq_true rfl) ?_
  intro p e s m below meth c ls A hx hb hml hr hts hown hlocks htab hK hP hD hS hA hG hN hl
  have hown : s.vm.findClass RL = some m.cls := hown
  have hl : lv_has ls 4 [(0, .ref h0), (1, .int t), (2, .ref o0)] := hl
  refine lv_aload_n hx hb dL_fault_0 rfl (lv_at hl 2 rfl) ?_
  refine lv_iconst (v := 0) hx hb dL_fault_1 (by decide) ?_
  refine lv_aload_n hx hb dL_fault_2 rfl (lv_at hl 0 rfl) ?_
  refine lv_iload_n hx hb dL_fault_3 rfl (lv_at hl 1 rfl) ?_
  refine my_callXV_i (As := [.int t]) (rest := [.int 0, .ref o0]) (wc := hcw h0 hH hs cn gs vs bs g v a cI cS) (wr := [(o0, .inl (cJ, 1, .inr (.inl f)))]) ⟨hx, hb, hml, hown, hts⟩ (met_X8_fault l hlt D cI cJ cS h0 hH hs g v a cn gs vs bs t  _) (cwV 1 hts gL_fault_X8_fault rfl rfl rfl (by decide +kernel) ⟨Nat.le_of_ble_eq_true rfl, Nat.le_of_ble_eq_true rfl⟩) hK hP hD hS hA hG _ _ (sp_C _ _) (sp_R _ _) (sp_nC _ _) (sp_nR _) (sp_dis _ _) 0 rfl rfl rfl hl.1 (Nat.le_of_ble_eq_true rfl) rfl dL_fault_4 ⟨Nat.le_of_ble_eq_true rfl, Nat.le_of_ble_eq_true rfl⟩ (fun E ce q9 H locs hpx hP hD hS hce hcv hcl => ?_) (fun r _ H locs hw hP hD hS => ?_)
  · obtain ⟨rfl, hpx⟩ := hpx
    refine vx_catch (own := RL) (name := eIAE) hown [] ⟨0, 9, 12, 13⟩ [] (by rw [htab]; rfl) (fun _ h => nomatch h) (by decide) (by decide) (hts (.classLink RL 13 eIAE) (by decide +kernel)) (va_Nw.use rfl (hG.1.2.2.1 eIAE (by decide +kernel))) hce hcv hcl ?_
    refine lv_astore_n (lv' := [(3, .ref q9), (0, .ref h0), (1, .int t), (2, .ref o0)]) hx hb dL_fault_12 rfl hl (by decide) rfl (fun ls hl => ?_)
    refine lv_iconst (v := 1) hx hb dL_fault_13 (by decide) ?_
    exact my_iret hx hb hr rfl hlocks hK hP hD hS f (⟨hpx.symm, fun h => absurd h (by decide)⟩) _ (sp_id _) (sp_nR _) dL_fault_14
  · refine lv_i2l hx hb dL_fault_7 rfl ?_
    refine my_last hx hb hK hP hD hS 0 1 rfl rfl dL_fault_8 (fun H locs hP hD hS => ?_)
    have hP : va_P D vwCl (oxw o0 (vp_updL f 0 r.toInt64) cJ h0 hH hs cn gs vs bs g v a cI cS) H := hP
    have hD : va_D A (oxw o0 (vp_updL f 0 r.toInt64) cJ h0 hH hs cn gs vs bs g v a cI cS) := hD
    refine lv_goto (tgt := 15) hx hb dL_fault_9 (by decide) ?_
    refine lv_iconst (v := 0) hx hb dL_fault_15 (by decide) ?_
    exact my_iret hx hb hr rfl hlocks hK hP hD hS (vp_updL f 0 r.toInt64) (⟨congrArg Prod.fst hw, fun _ => by rw [← hw]⟩) _ (sp_id _) (sp_nR _) dL_fault_16
set_option maxHeartbeats 4000000 in
set_option maxRecDepth 100000 in
theorem met_L_undo_0 (l : Launch) (hlt : l.stackTraces = false) (D : va_G) (cI cJ cS : ClassId) (h0 : Nat) (hH : Nat) (hs : Nat) (g : Nat → Nat) (v : Nat → Int32) (a : Nat → Nat → Int32) (gs : Nat → Nat → Nat) (vs : Nat → Nat → Int32) (bs : Nat → Nat → Nat → Int32) (o0 : Nat) (f : Nat → Int64)  : ∀ sz : Nat, Met l yL_undo wsL_undo ({ frames := 7, cells := 1, slots := 6, locals := 120 } : Room) (va_Pc [.ref h0, .ref o0] (wPre D (tyz cI cJ cS) (oxw o0 f cJ h0 hH hs 0 gs vs bs g v a cI cS) sz)) (va_Qi (fun (r : Int32) (_ : Unit) => r = 1) (fun u => cPost D (tyz cI cJ cS) (va_A (oxw o0 f cJ h0 hH hs 0 gs vs bs g v a cI cS) sz) (oxw o0 f cJ h0 hH hs 0 gs vs bs g v a cI cS)) (va_A (oxw o0 f cJ h0 hH hs 0 gs vs bs g v a cI cS) sz)) 1 6 (va_A (oxw o0 f cJ h0 hH hs 0 gs vs bs g v a cI cS) sz) := by
  refine my_metW (QC := fun A => (va_Qi (fun (r : Int32) (_ : Unit) => r = 1) (fun u => cPost D (tyz cI cJ cS) A (oxw o0 f cJ h0 hH hs 0 gs vs bs g v a cI cS)) A)) (cc := cL_undo) (maxL := 3) (ret := (some .int)) (hh := [(0, 8, 11, 28)]) (by decide) rfl (Nat.le_of_ble_eq_true rfl) ?_
  intro p e s m below meth c ls A hx hb hml hr hts hown hlocks htab hK hP hD hS hA hG hN hl
  have hown : s.vm.findClass RL = some m.cls := hown
  have hl : lv_has ls 3 [(0, .ref h0), (1, .ref o0)] := hl
  refine lv_aload_n hx hb dL_undo_0 rfl (lv_at hl 1 rfl) ?_
  refine lv_iconst (v := 0) hx hb dL_undo_1 (by decide) ?_
  refine lv_aload_n hx hb dL_undo_2 rfl (lv_at hl 0 rfl) ?_
  refine my_callXV_i (As := []) (rest := [.int 0, .ref o0]) (wc := hcw h0 hH hs 0 gs vs bs g v a cI cS) (wr := [(o0, .inl (cJ, 1, .inr (.inl f)))]) ⟨hx, hb, hml, hown, hts⟩ (met_X8_undo_0 l hlt D cI cJ cS h0 hH hs g v a gs vs bs  _) (cwV 0 hts gL_undo_X8_undo rfl rfl rfl (by decide +kernel) ⟨Nat.le_of_ble_eq_true rfl, Nat.le_of_ble_eq_true rfl⟩) hK hP hD hS hA hG _ _ (sp_C _ _) (sp_R _ _) (sp_nC _ _) (sp_nR _) (sp_dis _ _) 0 rfl rfl rfl hl.1 (Nat.le_of_ble_eq_true rfl) rfl dL_undo_3 ⟨Nat.le_of_ble_eq_true rfl, Nat.le_of_ble_eq_true rfl⟩ (fun E ce q9 H locs hpx hP hD hS hce hcv hcl => ?_) (fun r _ H locs hw hP hD hS => ?_)
  · have hpx : E = eISE := hpx
    subst hpx
    refine vx_catch (own := RL) (name := eISE) hown [] ⟨0, 8, 11, 28⟩ [] (by rw [htab]; rfl) (fun _ h => nomatch h) (by decide) (by decide) (hts (.classLink RL 28 eISE) (by decide +kernel)) (va_Nw.use rfl (hG.1.2.2.1 eISE (by decide +kernel))) hce hcv hcl ?_
    refine lv_astore_n (lv' := [(2, .ref q9), (0, .ref h0), (1, .ref o0)]) hx hb dL_undo_11 rfl hl (by decide) rfl (fun ls hl => ?_)
    refine lv_iconst (v := 1) hx hb dL_undo_12 (by decide) ?_
    exact my_iret hx hb hr rfl hlocks hK hP hD hS () (rfl) _ (sp_id _) (sp_nR _) dL_undo_13
  · exact (hw : False).elim
set_option maxHeartbeats 4000000 in
set_option maxRecDepth 100000 in
theorem met_L_undo_s (l : Launch) (hlt : l.stackTraces = false) (D : va_G) (cI cJ cS : ClassId) (h0 : Nat) (hH : Nat) (hs : Nat) (g : Nat → Nat) (v : Nat → Int32) (a : Nat → Nat → Int32) (gs : Nat → Nat → Nat) (vs : Nat → Nat → Int32) (bs : Nat → Nat → Nat → Int32) (c0 : Nat) (o0 : Nat) (f : Nat → Int64) (hc : c0 + 1 ≤ 4) : ∀ sz : Nat, Met l yL_undo wsL_undo ({ frames := 5, cells := 1, slots := 6, locals := 143 } : Room) (va_Pc [.ref h0, .ref o0] (wPre D (tyz cI cJ cS) (oxw o0 f cJ h0 hH hs (c0 + 1) gs vs bs g v a cI cS) sz)) (va_Qi (fun (r : Int32) (_ : Unit) => r = 0) (fun u => cPost D (tyz cI cJ cS) (va_A (oxw o0 f cJ h0 hH hs (c0 + 1) gs vs bs g v a cI cS) sz) (oxw o0 (vp_updL f 0 (nI c0).toInt64) cJ h0 hH hs c0 gs vs bs g (vs c0) (cpA (bs c0) a) cI cS)) (va_A (oxw o0 f cJ h0 hH hs (c0 + 1) gs vs bs g v a cI cS) sz)) 1 6 (va_A (oxw o0 f cJ h0 hH hs (c0 + 1) gs vs bs g v a cI cS) sz) := by
  refine my_metW (QC := fun A => (va_Qi (fun (r : Int32) (_ : Unit) => r = 0) (fun u => cPost D (tyz cI cJ cS) A (oxw o0 (vp_updL f 0 (nI c0).toInt64) cJ h0 hH hs c0 gs vs bs g (vs c0) (cpA (bs c0) a) cI cS)) A)) (cc := cL_undo) (maxL := 3) (ret := (some .int)) (hh := [(0, 8, 11, 28)]) (by decide) rfl (Nat.le_of_ble_eq_true rfl) ?_
  intro p e s m below meth c ls A hx hb hml hr hts hown hlocks htab hK hP hD hS hA hG hN hl
  have hown : s.vm.findClass RL = some m.cls := hown
  have hl : lv_has ls 3 [(0, .ref h0), (1, .ref o0)] := hl
  refine lv_aload_n hx hb dL_undo_0 rfl (lv_at hl 1 rfl) ?_
  refine lv_iconst (v := 0) hx hb dL_undo_1 (by decide) ?_
  refine lv_aload_n hx hb dL_undo_2 rfl (lv_at hl 0 rfl) ?_
  refine my_callXV_i (As := []) (rest := [.int 0, .ref o0]) (wc := hcw h0 hH hs (c0 + 1) gs vs bs g v a cI cS) (wr := [(o0, .inl (cJ, 1, .inr (.inl f)))]) ⟨hx, hb, hml, hown, hts⟩ (met_X8_undo_s l hlt D cI cJ cS h0 hH hs g v a gs vs bs c0 hc _) (cwV 0 hts gL_undo_X8_undo rfl rfl rfl (by decide +kernel) ⟨Nat.le_of_ble_eq_true rfl, Nat.le_of_ble_eq_true rfl⟩) hK hP hD hS hA hG _ _ (sp_C _ _) (sp_R _ _) (sp_nC _ _) (sp_nR _) (sp_dis _ _) 0 rfl rfl rfl hl.1 (Nat.le_of_ble_eq_true rfl) rfl dL_undo_3 ⟨Nat.le_of_ble_eq_true rfl, Nat.le_of_ble_eq_true rfl⟩ (fun E ce q9 H locs hpx hP hD hS hce hcv hcl => ?_) (fun r _ H locs hw hP hD hS => ?_)
  · exact (hpx : False).elim
  · refine lv_i2l hx hb dL_undo_6 rfl ?_
    have hw : r = nI c0 := hw
    subst hw
    refine my_last hx hb hK hP hD hS 0 1 rfl rfl dL_undo_7 (fun H locs hP hD hS => ?_)
    have hP : va_P D vwCl (oxw o0 (vp_updL f 0 (nI c0).toInt64) cJ h0 hH hs c0 gs vs bs g (vs c0) (cpA (bs c0) a) cI cS) H := hP
    have hD : va_D A (oxw o0 (vp_updL f 0 (nI c0).toInt64) cJ h0 hH hs c0 gs vs bs g (vs c0) (cpA (bs c0) a) cI cS) := hD
    refine lv_goto (tgt := 14) hx hb dL_undo_8 (by decide) ?_
    refine lv_iconst (v := 0) hx hb dL_undo_14 (by decide) ?_
    exact my_iret hx hb hr rfl hlocks hK hP hD hS () (rfl) _ (sp_id _) (sp_nR _) dL_undo_15
