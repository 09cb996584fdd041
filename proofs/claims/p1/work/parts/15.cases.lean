set_option maxHeartbeats 4000000 in
set_option maxRecDepth 100000 in
theorem lc_0 {p : Program} {l : Launch} {e : Env} {s : State} {m : MethodId} {below : List Frame} {meth : Method} {c : Code} {b : Nat} {xs : Nat → Int32} (hfl : l.stackTraces = false) {ae : Nat} {D : va_G} {cI cJ cS cO : ClassId} (C0 : lw_At p s m meth c b 5 xs) (hK : va_K D vwCl [(cI, .int), (cJ, .long), (cS, .object "IronwoodModel$State"), (cO, .object "java/lang/Object")] s) (hG : Gl ae (fun q : Nat => s.heap.size ≤ q) s s.heap) (x : Nat) (t : Nat) (n : Nat) (sp : Nat) (t_kinds : Nat) (t_codes : Nat) (t_targets : Nat) (t_settings : Nat) (t_sources : Nat) (t_accessCounts : Nat) (t_acts : Nat) (t_actVariables : Nat) (t_actPlaces : Nat) (mo : Nat) (vl : Nat) (sl : Nat) (o : Nat) (x1 : Int32) (e1 : xs (Int32.toNatClampNeg 1) = x1) (x2 : Int32) (e2 : xs (Int32.toNatClampNeg 2) = x2) (x3 : Int32) (e3 : xs (Int32.toNatClampNeg 3) = x3) (x4 : Int32) (e4 : xs (Int32.toNatClampNeg 4) = x4) (hv : 0 ≤ x1 ∧ x1 ≤ 3) (H : Heap) (locs : List Loc) (hP : va_P D vwCl [(x, .inr (6, [.ref t, .ref n, .ref sp, .int 0])), (t, .inr (4, [.ref t_kinds, .int 0, .long 0, .long 0, .ref t_codes, .ref t_targets, .ref t_settings, .ref t_sources, .ref t_accessCounts, .int 0, .ref t_acts, .ref t_actVariables, .ref t_actPlaces])), (t_kinds, .inl (cI, 12, .inl (fun _ => 0))), (mo, .inr (12, [.int 0, .ref vl, .ref sl])), (vl, .inr (0, [.int 0, .ref ae, .int 0])), (o, .inl (cJ, 1, .inr (.inl (fun _ => 0))))] H) (hD : va_D (fun q : Nat => s.heap.size ≤ q) [(x, .inr (6, [.ref t, .ref n, .ref sp, .int 0])), (t, .inr (4, [.ref t_kinds, .int 0, .long 0, .long 0, .ref t_codes, .ref t_targets, .ref t_settings, .ref t_sources, .ref t_accessCounts, .int 0, .ref t_acts, .ref t_actVariables, .ref t_actPlaces])), (t_kinds, .inl (cI, 12, .inl (fun _ => 0))), (mo, .inr (12, [.int 0, .ref vl, .ref sl])), (vl, .inr (0, [.int 0, .ref ae, .int 0])), (o, .inl (cJ, 1, .inr (.inl (fun _ => 0))))]) (hS : va_S (fun q : Nat => s.heap.size ≤ q) s.heap H locs) (ls : Array Slot) (hl : lv_has ls 9 [(0, .ref b), (1, .ref x), (2, .ref mo), (3, .ref o), (4, .int 0)]) : W p l e room_1 s m #[Value.ref b] below meth c H locs 61 3597 (lw_Z below #[Value.ref b] s) (F0 m 180 ls []) := by
  obtain ⟨hx, hb, hr, hml, hown, hts0, hX, hbl, hlocks, hgv⟩ := id C0
  have hts := law_hts hts0
  have hA : ∀ q : Nat, s.heap.size ≤ q → (fun q : Nat => s.heap.size ≤ q) q := fun _ h => h
  have hbA : ¬ (fun q : Nat => s.heap.size ≤ q) b := Nat.not_le.mpr hbl
  generalize hAe : (fun q : Nat => s.heap.size ≤ q) = A at hD hG hS hA hbA
  refine lv_aload_n hx hb dL_law_180 rfl (lv_at hl 1 rfl) ?_
  refine lv_aload_n hx hb dL_law_181 rfl (lv_at hl 0 rfl) ?_
  refine lv_iload hx hb dL_law_182 (lv_at hl 4 rfl) ?_
  refine lv_iconst (v := 1) hx hb dL_law_184 (by decide) ?_
  refine lv_iadd hx hb dL_law_185 ?_
  refine lv_topi (fun x_1 ex_1 => ?_)
  obtain rfl : x_1 = 1 := ex_1.trans (by decide)
  refine va_sld hx hb hX hbl hbA hS (vp_in_iff.mpr (by decide)) dL_law_186 ?_
  refine lv_topi (fun y_2 ey_2 => ?_)
  rw [show y_2 = x1 from ey_2.trans e1]
  refine lv_aload_n hx hb dL_law_187 rfl (lv_at hl 0 rfl) ?_
  refine lv_iload hx hb dL_law_188 (lv_at hl 4 rfl) ?_
  refine lv_iconst (v := 2) hx hb dL_law_190 (by decide) ?_
  refine lv_iadd hx hb dL_law_191 ?_
  refine lv_topi (fun x_3 ex_3 => ?_)
  obtain rfl : x_3 = 2 := ex_3.trans (by decide)
  refine va_sld hx hb hX hbl hbA hS (vp_in_iff.mpr (by decide)) dL_law_192 ?_
  refine lv_topi (fun y_4 ey_4 => ?_)
  rw [show y_4 = x2 from ey_4.trans e2]
  refine lv_if_eq (tgt := 200) hx hb dL_law_193 (by decide) (fun c_193 => ?_) (fun c_193 => ?_)
  · skip
    refine lv_iconst (v := 0) hx hb dL_law_200 (by decide) ?_
    refine lv_aload_n hx hb dL_law_201 rfl (lv_at hl 3 rfl) ?_
    refine kc_i (wr := [(mo, .inr (12, [.int 0, .ref vl, .ref sl])), (vl, .inr (0, [.int 0, .ref ae, .int 0]))]) (vx_runSW (As := [.ref x, .int x1, .int 0, .ref o]) (rest := []) ⟨hx, hb, hml, hown, hts⟩ (w_variable l hfl ae D cI cJ cS cO x t n sp 0 0 0 t_codes t_targets t_settings t_sources t_accessCounts 0 t_acts t_actVariables t_actPlaces t_kinds (fun _ => 0) x1 0 o (fun _ => 0) _ hv) (vx_cwSW 4 hts (gT q_623 q_621 q_622 q_97) rfl rfl rfl (by decide +kernel) ⟨Nat.le_of_ble_eq_true rfl, Nat.le_of_ble_eq_true rfl⟩) ⟨Pw.blind, Pw.mk_call hP hK hD hS hA hG [0, 1, 2, 5] rfl (by decide)⟩ rfl rfl hl.1 rfl (lv_room (Nat.le_of_ble_eq_true rfl)) dL_law_202 ⟨Nat.le_of_ble_eq_true rfl, Nat.le_of_ble_eq_true rfl⟩) hP hD hS hA [0, 1, 2, 5] [3, 4] rfl rfl (by decide) (by decide) (fun r_5 u_6 H locs hw hP hD hS => ?_)
    obtain ⟨oa_7, ob_8, og_9⟩ := u_6
    obtain rfl : r_5 = 0 := hw
    have hP : va_P D vwCl [(mo, .inr (12, [.int 0, .ref vl, .ref sl])), (vl, .inr (0, [.int 0, .ref ae, .int 0])), (x, .inr (6, [.ref t, .ref n, .ref sp, .int 0])), (t, .inr (4, [.ref t_kinds, .int 1, .long oa_7, .long ob_8, .ref t_codes, .ref t_targets, .ref t_settings, .ref t_sources, .ref t_accessCounts, .int 0, .ref t_acts, .ref t_actVariables, .ref t_actPlaces])), (t_kinds, .inl (cI, 12, .inl og_9)), (o, .inl (cJ, 1, .inr (.inl (vp_updL (fun _ => 0) (Int32.toNatClampNeg 0) 0))))] H := hP
    have hD : va_D A [(mo, .inr (12, [.int 0, .ref vl, .ref sl])), (vl, .inr (0, [.int 0, .ref ae, .int 0])), (x, .inr (6, [.ref t, .ref n, .ref sp, .int 0])), (t, .inr (4, [.ref t_kinds, .int 1, .long oa_7, .long ob_8, .ref t_codes, .ref t_targets, .ref t_settings, .ref t_sources, .ref t_accessCounts, .int 0, .ref t_acts, .ref t_actVariables, .ref t_actPlaces])), (t_kinds, .inl (cI, 12, .inl og_9)), (o, .inl (cJ, 1, .inr (.inl (vp_updL (fun _ => 0) (Int32.toNatClampNeg 0) 0))))] := hD
    refine lv_istore (lv' := [(5, .int 0), (0, .ref b), (1, .ref x), (2, .ref mo), (3, .ref o), (4, .int 0)]) hx hb dL_law_205 hl (by decide) rfl (fun ls hl => ?_)
    refine lv_aload_n hx hb dL_law_207 rfl (lv_at hl 3 rfl) ?_
    refine lv_aload_n hx hb dL_law_208 rfl (lv_at hl 1 rfl) ?_
    refine lv_iload hx hb dL_law_209 (lv_at hl 5 rfl) ?_
    refine lv_iconst (v := 1) hx hb dL_law_211 (by decide) ?_
    refine lv_iadd hx hb dL_law_212 ?_
    refine lv_topi (fun x_10 ex_10 => ?_)
    obtain rfl : x_10 = 1 := ex_10.trans (by decide)
    refine va_sld hx hb hX hbl hbA hS (vp_in_iff.mpr (by decide)) dL_law_213 ?_
    refine lv_topi (fun y_11 ey_11 => ?_)
    rw [show y_11 = x1 from ey_11.trans e1]
    refine lv_aload_n hx hb dL_law_214 rfl (lv_at hl 1 rfl) ?_
    refine lv_iload hx hb dL_law_215 (lv_at hl 5 rfl) ?_
    refine lv_iconst (v := 2) hx hb dL_law_217 (by decide) ?_
    refine lv_iadd hx hb dL_law_218 ?_
    refine lv_topi (fun x_12 ex_12 => ?_)
    obtain rfl : x_12 = 2 := ex_12.trans (by decide)
    refine va_sld hx hb hX hbl hbA hS (vp_in_iff.mpr (by decide)) dL_law_219 ?_
    refine lv_topi (fun y_13 ey_13 => ?_)
    rw [show y_13 = x2 from ey_13.trans e2]
    refine lv_if_eq (tgt := 227) hx hb dL_law_220 (by decide) (fun c_220 => ?_) (fun c_220 => absurd c_193 c_220)
    refine lv_iconst (v := 0) hx hb dL_law_227 (by decide) ?_
    refine kc_i (wr := [(x, .inr (6, [.ref t, .ref n, .ref sp, .int 0])), (t, .inr (4, [.ref t_kinds, .int 1, .long oa_7, .long ob_8, .ref t_codes, .ref t_targets, .ref t_settings, .ref t_sources, .ref t_accessCounts, .int 0, .ref t_acts, .ref t_actVariables, .ref t_actPlaces])), (t_kinds, .inl (cI, 12, .inl og_9)), (o, .inl (cJ, 1, .inr (.inl (vp_updL (fun _ => 0) (Int32.toNatClampNeg 0) 0))))]) (va_runV (As := [.int x1, .int 0]) (rest := []) ⟨hx, hb, hml, hown, hts⟩ (m_variable l hfl ae D cI cJ cS cO mo vl sl x1 0 _ hv (by decide)) (cwV 2 hts (gV q_1021 q_1018 q_1019 q_1020 q_104) rfl rfl rfl (by decide +kernel) ⟨Nat.le_of_ble_eq_true rfl, Nat.le_of_ble_eq_true rfl⟩) ⟨Pw.blind, va_recv hK hP (ci := 12) (q0 := 0) rfl rfl, Pw.mk_call hP hK hD hS hA hG [0, 1] rfl (by decide)⟩ rfl rfl hl.1 rfl (lv_room (Nat.le_of_ble_eq_true rfl)) dL_law_228 ⟨Nat.le_of_ble_eq_true rfl, Nat.le_of_ble_eq_true rfl⟩) hP hD hS hA [0, 1] [2, 3, 4, 5] rfl rfl (by decide) (by decide) (fun r_14 u_15 H locs hw hP hD hS => ?_)
    obtain rfl : r_14 = 0 := hw
    have hP : va_P D vwCl [(x, .inr (6, [.ref t, .ref n, .ref sp, .int 0])), (t, .inr (4, [.ref t_kinds, .int 1, .long oa_7, .long ob_8, .ref t_codes, .ref t_targets, .ref t_settings, .ref t_sources, .ref t_accessCounts, .int 0, .ref t_acts, .ref t_actVariables, .ref t_actPlaces])), (t_kinds, .inl (cI, 12, .inl og_9)), (o, .inl (cJ, 1, .inr (.inl (vp_updL (fun _ => 0) (Int32.toNatClampNeg 0) 0)))), (mo, .inr (12, [.int 0, .ref vl, .ref sl]))] H := hP
    have hD : va_D A [(x, .inr (6, [.ref t, .ref n, .ref sp, .int 0])), (t, .inr (4, [.ref t_kinds, .int 1, .long oa_7, .long ob_8, .ref t_codes, .ref t_targets, .ref t_settings, .ref t_sources, .ref t_accessCounts, .int 0, .ref t_acts, .ref t_actVariables, .ref t_actPlaces])), (t_kinds, .inl (cI, 12, .inl og_9)), (o, .inl (cJ, 1, .inr (.inl (vp_updL (fun _ => 0) (Int32.toNatClampNeg 0) 0)))), (mo, .inr (12, [.int 0, .ref vl, .ref sl]))] := hD
    refine lv_istore (lv' := [(6, .int 0), (5, .int 0), (0, .ref b), (1, .ref x), (2, .ref mo), (3, .ref o), (4, .int 0)]) hx hb dL_law_231 hl (by decide) rfl (fun ls hl => ?_)
    refine lv_aload_n hx hb dL_law_233 rfl (lv_at hl 4 rfl) ?_
    refine kc_i (wr := [(x, .inr (6, [.ref t, .ref n, .ref sp, .int 0])), (t, .inr (4, [.ref t_kinds, .int 1, .long oa_7, .long ob_8, .ref t_codes, .ref t_targets, .ref t_settings, .ref t_sources, .ref t_accessCounts, .int 0, .ref t_acts, .ref t_actVariables, .ref t_actPlaces])), (t_kinds, .inl (cI, 12, .inl og_9)), (o, .inl (cJ, 1, .inr (.inl (vp_updL (fun _ => 0) (Int32.toNatClampNeg 0) 0))))]) (va_runV (As := []) (rest := []) ⟨hx, hb, hml, hown, hts⟩ (m_thrown l hfl ae D cI cJ cS cO mo vl sl 0 _) (cwV 0 hts (gV q_1017 q_1014 q_1015 q_1016 q_104) rfl rfl rfl (by decide +kernel) ⟨Nat.le_of_ble_eq_true rfl, Nat.le_of_ble_eq_true rfl⟩) ⟨Pw.blind, va_recv hK hP (ci := 12) (q0 := 4) rfl rfl, Pw.mk_call hP hK hD hS hA hG [4] rfl (by decide)⟩ rfl rfl hl.1 rfl (lv_room (Nat.le_of_ble_eq_true rfl)) dL_law_234 ⟨Nat.le_of_ble_eq_true rfl, Nat.le_of_ble_eq_true rfl⟩) hP hD hS hA [4] [0, 1, 2, 3] rfl rfl (by decide) (by decide) (fun r_16 u_17 H locs hw hP hD hS => ?_)
    obtain rfl : r_16 = 0 := hw
    have hP : va_P D vwCl [(x, .inr (6, [.ref t, .ref n, .ref sp, .int 0])), (t, .inr (4, [.ref t_kinds, .int 1, .long oa_7, .long ob_8, .ref t_codes, .ref t_targets, .ref t_settings, .ref t_sources, .ref t_accessCounts, .int 0, .ref t_acts, .ref t_actVariables, .ref t_actPlaces])), (t_kinds, .inl (cI, 12, .inl og_9)), (o, .inl (cJ, 1, .inr (.inl (vp_updL (fun _ => 0) (Int32.toNatClampNeg 0) 0)))), (mo, .inr (12, [.int 0, .ref vl, .ref sl]))] H := hP
    have hD : va_D A [(x, .inr (6, [.ref t, .ref n, .ref sp, .int 0])), (t, .inr (4, [.ref t_kinds, .int 1, .long oa_7, .long ob_8, .ref t_codes, .ref t_targets, .ref t_settings, .ref t_sources, .ref t_accessCounts, .int 0, .ref t_acts, .ref t_actVariables, .ref t_actPlaces])), (t_kinds, .inl (cI, 12, .inl og_9)), (o, .inl (cJ, 1, .inr (.inl (vp_updL (fun _ => 0) (Int32.toNatClampNeg 0) 0)))), (mo, .inr (12, [.int 0, .ref vl, .ref sl]))] := hD
    refine lv_iload hx hb dL_law_237 (lv_at hl 1 rfl) ?_
    refine lv_icmp_eq (tgt := 244) hx hb dL_law_239 (by decide) (fun c_239 => ?_) (fun c_239 => absurd (by decide) c_239)
    refine lv_iload hx hb dL_law_244 (lv_at hl 1 rfl) ?_
    refine lv_if_ne (tgt := 261) hx hb dL_law_246 (by decide) (fun c_246 => absurd (by decide) c_246) (fun c_246 => ?_)
    refine lv_aload_n hx hb dL_law_249 rfl (lv_at hl 5 rfl) ?_
    refine lv_iconst (v := 0) hx hb dL_law_250 (by decide) ?_
    refine va_lald hx hb hK hP 3 1 rfl rfl (vp_in_iff.mpr (by decide)) dL_law_251 ?_
    refine lv_topl (fun y_18 ey_18 => ?_)
    obtain rfl : y_18 = 0 := ey_18.trans (by simp [vp_updL])
    refine lv_iload hx hb dL_law_252 (lv_at hl 0 rfl) ?_
    refine lv_i2l (v := 0) hx hb dL_law_254 (by decide) ?_
    refine W.lcmp hx hb dL_law_255 ?_
    refine lv_topi (fun y_19 ey_19 => ?_)
    obtain rfl : y_19 = 0 := ey_19.trans (by decide)
    refine lv_if_eq (tgt := 261) hx hb dL_law_256 (by decide) (fun c_256 => ?_) (fun c_256 => absurd (by decide) c_256)
    refine lv_goto (tgt := 1950) hx hb dL_law_261 (by decide) ?_
    refine lv_iinc (v := 5) (lv' := [(4, .int 5), (6, .int 0), (5, .int 0), (0, .ref b), (1, .ref x), (2, .ref mo), (3, .ref o)]) hx hb dL_law_1950 hl (k := 6) rfl (by decide) (by decide) rfl (fun ls hl => ?_)
    refine lv_goto (tgt := 23) hx hb dL_law_1953 (by decide) ?_
    refine lv_iload hx hb dL_law_23 (lv_at hl 0 rfl) ?_
    refine lv_aload_n hx hb dL_law_25 rfl (lv_at hl 3 rfl) ?_
    refine va_slen hx hb hX hbl hbA hS dL_law_26 ?_
    refine lv_topi (fun y_20 ey_20 => ?_)
    obtain rfl : y_20 = 5 := ey_20.trans (by decide)
    refine lv_iconst (v := 5) hx hb dL_law_27 (by decide) ?_
    refine lv_isub hx hb dL_law_28 ?_
    refine lv_topi (fun x_21 ex_21 => ?_)
    obtain rfl : x_21 = 0 := ex_21.trans (by decide)
    refine lv_icmp_gt (tgt := 1956) hx hb dL_law_29 (by decide) (fun c_29 => ?_) (fun c_29 => absurd (by decide) c_29)
    refine lv_iconst (v := 1) hx hb dL_law_1956 (by decide) ?_
    refine va_forget (fun q hq => by have h9 := hS.2.2 q hq; rw [← hAe] at h9; exact h9) ?_
    refine W.widen (k := 600002) (n := 7302232) (Nat.le_of_ble_eq_true rfl) (Nat.le_of_ble_eq_true rfl) ?_
    refine W.base ?_
    exact lw_ret (Drawn.sameBut.refl s.drawn lw_cs) hx hb hr hlocks dL_law_1957
  · skip
    refine lv_iconst (v := 1) hx hb dL_law_196 (by decide) ?_
    refine lv_goto (tgt := 201) hx hb dL_law_197 (by decide) ?_
    refine lv_aload_n hx hb dL_law_201 rfl (lv_at hl 3 rfl) ?_
    refine kc_i (wr := [(mo, .inr (12, [.int 0, .ref vl, .ref sl])), (vl, .inr (0, [.int 0, .ref ae, .int 0]))]) (vx_runSW (As := [.ref x, .int x1, .int 1, .ref o]) (rest := []) ⟨hx, hb, hml, hown, hts⟩ (w_variable l hfl ae D cI cJ cS cO x t n sp 0 0 0 t_codes t_targets t_settings t_sources t_accessCounts 0 t_acts t_actVariables t_actPlaces t_kinds (fun _ => 0) x1 1 o (fun _ => 0) _ hv) (vx_cwSW 4 hts (gT q_623 q_621 q_622 q_97) rfl rfl rfl (by decide +kernel) ⟨Nat.le_of_ble_eq_true rfl, Nat.le_of_ble_eq_true rfl⟩) ⟨Pw.blind, Pw.mk_call hP hK hD hS hA hG [0, 1, 2, 5] rfl (by decide)⟩ rfl rfl hl.1 rfl (lv_room (Nat.le_of_ble_eq_true rfl)) dL_law_202 ⟨Nat.le_of_ble_eq_true rfl, Nat.le_of_ble_eq_true rfl⟩) hP hD hS hA [0, 1, 2, 5] [3, 4] rfl rfl (by decide) (by decide) (fun r_22 u_23 H locs hw hP hD hS => ?_)
    obtain ⟨oa_24, ob_25, og_26⟩ := u_23
    obtain rfl : r_22 = 0 := hw
    have hP : va_P D vwCl [(mo, .inr (12, [.int 0, .ref vl, .ref sl])), (vl, .inr (0, [.int 0, .ref ae, .int 0])), (x, .inr (6, [.ref t, .ref n, .ref sp, .int 0])), (t, .inr (4, [.ref t_kinds, .int 1, .long oa_24, .long ob_25, .ref t_codes, .ref t_targets, .ref t_settings, .ref t_sources, .ref t_accessCounts, .int 0, .ref t_acts, .ref t_actVariables, .ref t_actPlaces])), (t_kinds, .inl (cI, 12, .inl og_26)), (o, .inl (cJ, 1, .inr (.inl (vp_updL (fun _ => 0) (Int32.toNatClampNeg 0) 0))))] H := hP
    have hD : va_D A [(mo, .inr (12, [.int 0, .ref vl, .ref sl])), (vl, .inr (0, [.int 0, .ref ae, .int 0])), (x, .inr (6, [.ref t, .ref n, .ref sp, .int 0])), (t, .inr (4, [.ref t_kinds, .int 1, .long oa_24, .long ob_25, .ref t_codes, .ref t_targets, .ref t_settings, .ref t_sources, .ref t_accessCounts, .int 0, .ref t_acts, .ref t_actVariables, .ref t_actPlaces])), (t_kinds, .inl (cI, 12, .inl og_26)), (o, .inl (cJ, 1, .inr (.inl (vp_updL (fun _ => 0) (Int32.toNatClampNeg 0) 0))))] := hD
    refine lv_istore (lv' := [(5, .int 0), (0, .ref b), (1, .ref x), (2, .ref mo), (3, .ref o), (4, .int 0)]) hx hb dL_law_205 hl (by decide) rfl (fun ls hl => ?_)
    refine lv_aload_n hx hb dL_law_207 rfl (lv_at hl 3 rfl) ?_
    refine lv_aload_n hx hb dL_law_208 rfl (lv_at hl 1 rfl) ?_
    refine lv_iload hx hb dL_law_209 (lv_at hl 5 rfl) ?_
    refine lv_iconst (v := 1) hx hb dL_law_211 (by decide) ?_
    refine lv_iadd hx hb dL_law_212 ?_
    refine lv_topi (fun x_27 ex_27 => ?_)
    obtain rfl : x_27 = 1 := ex_27.trans (by decide)
    refine va_sld hx hb hX hbl hbA hS (vp_in_iff.mpr (by decide)) dL_law_213 ?_
    refine lv_topi (fun y_28 ey_28 => ?_)
    rw [show y_28 = x1 from ey_28.trans e1]
    refine lv_aload_n hx hb dL_law_214 rfl (lv_at hl 1 rfl) ?_
    refine lv_iload hx hb dL_law_215 (lv_at hl 5 rfl) ?_
    refine lv_iconst (v := 2) hx hb dL_law_217 (by decide) ?_
    refine lv_iadd hx hb dL_law_218 ?_
    refine lv_topi (fun x_29 ex_29 => ?_)
    obtain rfl : x_29 = 2 := ex_29.trans (by decide)
    refine va_sld hx hb hX hbl hbA hS (vp_in_iff.mpr (by decide)) dL_law_219 ?_
    refine lv_topi (fun y_30 ey_30 => ?_)
    rw [show y_30 = x2 from ey_30.trans e2]
    refine lv_if_eq (tgt := 227) hx hb dL_law_220 (by decide) (fun c_220 => absurd c_220 c_193) (fun c_220 => ?_)
    refine lv_iconst (v := 1) hx hb dL_law_223 (by decide) ?_
    refine lv_goto (tgt := 228) hx hb dL_law_224 (by decide) ?_
    refine kc_i (wr := [(x, .inr (6, [.ref t, .ref n, .ref sp, .int 0])), (t, .inr (4, [.ref t_kinds, .int 1, .long oa_24, .long ob_25, .ref t_codes, .ref t_targets, .ref t_settings, .ref t_sources, .ref t_accessCounts, .int 0, .ref t_acts, .ref t_actVariables, .ref t_actPlaces])), (t_kinds, .inl (cI, 12, .inl og_26)), (o, .inl (cJ, 1, .inr (.inl (vp_updL (fun _ => 0) (Int32.toNatClampNeg 0) 0))))]) (va_runV (As := [.int x1, .int 1]) (rest := []) ⟨hx, hb, hml, hown, hts⟩ (m_variable l hfl ae D cI cJ cS cO mo vl sl x1 1 _ hv (by decide)) (cwV 2 hts (gV q_1021 q_1018 q_1019 q_1020 q_104) rfl rfl rfl (by decide +kernel) ⟨Nat.le_of_ble_eq_true rfl, Nat.le_of_ble_eq_true rfl⟩) ⟨Pw.blind, va_recv hK hP (ci := 12) (q0 := 0) rfl rfl, Pw.mk_call hP hK hD hS hA hG [0, 1] rfl (by decide)⟩ rfl rfl hl.1 rfl (lv_room (Nat.le_of_ble_eq_true rfl)) dL_law_228 ⟨Nat.le_of_ble_eq_true rfl, Nat.le_of_ble_eq_true rfl⟩) hP hD hS hA [0, 1] [2, 3, 4, 5] rfl rfl (by decide) (by decide) (fun r_31 u_32 H locs hw hP hD hS => ?_)
    obtain rfl : r_31 = 0 := hw
    have hP : va_P D vwCl [(x, .inr (6, [.ref t, .ref n, .ref sp, .int 0])), (t, .inr (4, [.ref t_kinds, .int 1, .long oa_24, .long ob_25, .ref t_codes, .ref t_targets, .ref t_settings, .ref t_sources, .ref t_accessCounts, .int 0, .ref t_acts, .ref t_actVariables, .ref t_actPlaces])), (t_kinds, .inl (cI, 12, .inl og_26)), (o, .inl (cJ, 1, .inr (.inl (vp_updL (fun _ => 0) (Int32.toNatClampNeg 0) 0)))), (mo, .inr (12, [.int 0, .ref vl, .ref sl]))] H := hP
    have hD : va_D A [(x, .inr (6, [.ref t, .ref n, .ref sp, .int 0])), (t, .inr (4, [.ref t_kinds, .int 1, .long oa_24, .long ob_25, .ref t_codes, .ref t_targets, .ref t_settings, .ref t_sources, .ref t_accessCounts, .int 0, .ref t_acts, .ref t_actVariables, .ref t_actPlaces])), (t_kinds, .inl (cI, 12, .inl og_26)), (o, .inl (cJ, 1, .inr (.inl (vp_updL (fun _ => 0) (Int32.toNatClampNeg 0) 0)))), (mo, .inr (12, [.int 0, .ref vl, .ref sl]))] := hD
    refine lv_istore (lv' := [(6, .int 0), (5, .int 0), (0, .ref b), (1, .ref x), (2, .ref mo), (3, .ref o), (4, .int 0)]) hx hb dL_law_231 hl (by decide) rfl (fun ls hl => ?_)
    refine lv_aload_n hx hb dL_law_233 rfl (lv_at hl 4 rfl) ?_
    refine kc_i (wr := [(x, .inr (6, [.ref t, .ref n, .ref sp, .int 0])), (t, .inr (4, [.ref t_kinds, .int 1, .long oa_24, .long ob_25, .ref t_codes, .ref t_targets, .ref t_settings, .ref t_sources, .ref t_accessCounts, .int 0, .ref t_acts, .ref t_actVariables, .ref t_actPlaces])), (t_kinds, .inl (cI, 12, .inl og_26)), (o, .inl (cJ, 1, .inr (.inl (vp_updL (fun _ => 0) (Int32.toNatClampNeg 0) 0))))]) (va_runV (As := []) (rest := []) ⟨hx, hb, hml, hown, hts⟩ (m_thrown l hfl ae D cI cJ cS cO mo vl sl 0 _) (cwV 0 hts (gV q_1017 q_1014 q_1015 q_1016 q_104) rfl rfl rfl (by decide +kernel) ⟨Nat.le_of_ble_eq_true rfl, Nat.le_of_ble_eq_true rfl⟩) ⟨Pw.blind, va_recv hK hP (ci := 12) (q0 := 4) rfl rfl, Pw.mk_call hP hK hD hS hA hG [4] rfl (by decide)⟩ rfl rfl hl.1 rfl (lv_room (Nat.le_of_ble_eq_true rfl)) dL_law_234 ⟨Nat.le_of_ble_eq_true rfl, Nat.le_of_ble_eq_true rfl⟩) hP hD hS hA [4] [0, 1, 2, 3] rfl rfl (by decide) (by decide) (fun r_33 u_34 H locs hw hP hD hS => ?_)
    obtain rfl : r_33 = 0 := hw
    have hP : va_P D vwCl [(x, .inr (6, [.ref t, .ref n, .ref sp, .int 0])), (t, .inr (4, [.ref t_kinds, .int 1, .long oa_24, .long ob_25, .ref t_codes, .ref t_targets, .ref t_settings, .ref t_sources, .ref t_accessCounts, .int 0, .ref t_acts, .ref t_actVariables, .ref t_actPlaces])), (t_kinds, .inl (cI, 12, .inl og_26)), (o, .inl (cJ, 1, .inr (.inl (vp_updL (fun _ => 0) (Int32.toNatClampNeg 0) 0)))), (mo, .inr (12, [.int 0, .ref vl, .ref sl]))] H := hP
    have hD : va_D A [(x, .inr (6, [.ref t, .ref n, .ref sp, .int 0])), (t, .inr (4, [.ref t_kinds, .int 1, .long oa_24, .long ob_25, .ref t_codes, .ref t_targets, .ref t_settings, .ref t_sources, .ref t_accessCounts, .int 0, .ref t_acts, .ref t_actVariables, .ref t_actPlaces])), (t_kinds, .inl (cI, 12, .inl og_26)), (o, .inl (cJ, 1, .inr (.inl (vp_updL (fun _ => 0) (Int32.toNatClampNeg 0) 0)))), (mo, .inr (12, [.int 0, .ref vl, .ref sl]))] := hD
    refine lv_iload hx hb dL_law_237 (lv_at hl 1 rfl) ?_
    refine lv_icmp_eq (tgt := 244) hx hb dL_law_239 (by decide) (fun c_239 => ?_) (fun c_239 => absurd (by decide) c_239)
    refine lv_iload hx hb dL_law_244 (lv_at hl 1 rfl) ?_
    refine lv_if_ne (tgt := 261) hx hb dL_law_246 (by decide) (fun c_246 => absurd (by decide) c_246) (fun c_246 => ?_)
    refine lv_aload_n hx hb dL_law_249 rfl (lv_at hl 5 rfl) ?_
    refine lv_iconst (v := 0) hx hb dL_law_250 (by decide) ?_
    refine va_lald hx hb hK hP 3 1 rfl rfl (vp_in_iff.mpr (by decide)) dL_law_251 ?_
    refine lv_topl (fun y_35 ey_35 => ?_)
    obtain rfl : y_35 = 0 := ey_35.trans (by simp [vp_updL])
    refine lv_iload hx hb dL_law_252 (lv_at hl 0 rfl) ?_
    refine lv_i2l (v := 0) hx hb dL_law_254 (by decide) ?_
    refine W.lcmp hx hb dL_law_255 ?_
    refine lv_topi (fun y_36 ey_36 => ?_)
    obtain rfl : y_36 = 0 := ey_36.trans (by decide)
    refine lv_if_eq (tgt := 261) hx hb dL_law_256 (by decide) (fun c_256 => ?_) (fun c_256 => absurd (by decide) c_256)
    refine lv_goto (tgt := 1950) hx hb dL_law_261 (by decide) ?_
    refine lv_iinc (v := 5) (lv' := [(4, .int 5), (6, .int 0), (5, .int 0), (0, .ref b), (1, .ref x), (2, .ref mo), (3, .ref o)]) hx hb dL_law_1950 hl (k := 6) rfl (by decide) (by decide) rfl (fun ls hl => ?_)
    refine lv_goto (tgt := 23) hx hb dL_law_1953 (by decide) ?_
    refine lv_iload hx hb dL_law_23 (lv_at hl 0 rfl) ?_
    refine lv_aload_n hx hb dL_law_25 rfl (lv_at hl 3 rfl) ?_
    refine va_slen hx hb hX hbl hbA hS dL_law_26 ?_
    refine lv_topi (fun y_37 ey_37 => ?_)
    obtain rfl : y_37 = 5 := ey_37.trans (by decide)
    refine lv_iconst (v := 5) hx hb dL_law_27 (by decide) ?_
    refine lv_isub hx hb dL_law_28 ?_
    refine lv_topi (fun x_38 ex_38 => ?_)
    obtain rfl : x_38 = 0 := ex_38.trans (by decide)
    refine lv_icmp_gt (tgt := 1956) hx hb dL_law_29 (by decide) (fun c_29 => ?_) (fun c_29 => absurd (by decide) c_29)
    refine lv_iconst (v := 1) hx hb dL_law_1956 (by decide) ?_
    refine va_forget (fun q hq => by have h9 := hS.2.2 q hq; rw [← hAe] at h9; exact h9) ?_
    refine W.widen (k := 600002) (n := 7302232) (Nat.le_of_ble_eq_true rfl) (Nat.le_of_ble_eq_true rfl) ?_
    refine W.base ?_
    exact lw_ret (Drawn.sameBut.refl s.drawn lw_cs) hx hb hr hlocks dL_law_1957

set_option maxHeartbeats 4000000 in
set_option maxRecDepth 100000 in
theorem lc_0x {p : Program} {l : Launch} {e : Env} {s : State} {m : MethodId} {below : List Frame} {meth : Method} {c : Code} {b : Nat} {xs : Nat → Int32} (hfl : l.stackTraces = false) {ae : Nat} {D : va_G} {cI cJ cS cO : ClassId} (C0 : lw_At p s m meth c b 5 xs) (hK : va_K D vwCl [(cI, .int), (cJ, .long), (cS, .object "IronwoodModel$State"), (cO, .object "java/lang/Object")] s) (hG : Gl ae (fun q : Nat => s.heap.size ≤ q) s s.heap) (x : Nat) (t : Nat) (n : Nat) (sp : Nat) (mo : Nat) (vl : Nat) (sl : Nat) (o : Nat) (x1 : Int32) (e1 : xs (Int32.toNatClampNeg 1) = x1) (x2 : Int32) (e2 : xs (Int32.toNatClampNeg 2) = x2) (x3 : Int32) (e3 : xs (Int32.toNatClampNeg 3) = x3) (x4 : Int32) (e4 : xs (Int32.toNatClampNeg 4) = x4) (hv : ¬ (0 ≤ x1 ∧ x1 ≤ 3)) (H : Heap) (locs : List Loc) (hP : va_P D vwCl [(x, .inr (6, [.ref t, .ref n, .ref sp, .int 0])), (mo, .inr (12, [.int 0, .ref vl, .ref sl])), (vl, .inr (0, [.int 0, .ref ae, .int 0])), (o, .inl (cJ, 1, .inr (.inl (fun _ => 0))))] H) (hD : va_D (fun q : Nat => s.heap.size ≤ q) [(x, .inr (6, [.ref t, .ref n, .ref sp, .int 0])), (mo, .inr (12, [.int 0, .ref vl, .ref sl])), (vl, .inr (0, [.int 0, .ref ae, .int 0])), (o, .inl (cJ, 1, .inr (.inl (fun _ => 0))))]) (hS : va_S (fun q : Nat => s.heap.size ≤ q) s.heap H locs) (ls : Array Slot) (hl : lv_has ls 9 [(0, .ref b), (1, .ref x), (2, .ref mo), (3, .ref o), (4, .int 0)]) : W p l e room_1 s m #[Value.ref b] below meth c H locs 61 3597 (lw_Z below #[Value.ref b] s) (F0 m 180 ls []) := by
  obtain ⟨hx, hb, hr, hml, hown, hts0, hX, hbl, hlocks, hgv⟩ := id C0
  have hts := law_hts hts0
  have hA : ∀ q : Nat, s.heap.size ≤ q → (fun q : Nat => s.heap.size ≤ q) q := fun _ h => h
  have hbA : ¬ (fun q : Nat => s.heap.size ≤ q) b := Nat.not_le.mpr hbl
  generalize hAe : (fun q : Nat => s.heap.size ≤ q) = A at hD hG hS hA hbA
  refine lv_aload_n hx hb dL_law_180 rfl (lv_at hl 1 rfl) ?_
  refine lv_aload_n hx hb dL_law_181 rfl (lv_at hl 0 rfl) ?_
  refine lv_iload hx hb dL_law_182 (lv_at hl 4 rfl) ?_
  refine lv_iconst (v := 1) hx hb dL_law_184 (by decide) ?_
  refine lv_iadd hx hb dL_law_185 ?_
  refine lv_topi (fun x_1 ex_1 => ?_)
  obtain rfl : x_1 = 1 := ex_1.trans (by decide)
  refine va_sld hx hb hX hbl hbA hS (vp_in_iff.mpr (by decide)) dL_law_186 ?_
  refine lv_topi (fun y_2 ey_2 => ?_)
  rw [show y_2 = x1 from ey_2.trans e1]
  refine lv_aload_n hx hb dL_law_187 rfl (lv_at hl 0 rfl) ?_
  refine lv_iload hx hb dL_law_188 (lv_at hl 4 rfl) ?_
  refine lv_iconst (v := 2) hx hb dL_law_190 (by decide) ?_
  refine lv_iadd hx hb dL_law_191 ?_
  refine lv_topi (fun x_3 ex_3 => ?_)
  obtain rfl : x_3 = 2 := ex_3.trans (by decide)
  refine va_sld hx hb hX hbl hbA hS (vp_in_iff.mpr (by decide)) dL_law_192 ?_
  refine lv_topi (fun y_4 ey_4 => ?_)
  rw [show y_4 = x2 from ey_4.trans e2]
  refine lv_if_eq (tgt := 200) hx hb dL_law_193 (by decide) (fun c_193 => ?_) (fun c_193 => ?_)
  · skip
    refine lv_iconst (v := 0) hx hb dL_law_200 (by decide) ?_
    refine lv_aload_n hx hb dL_law_201 rfl (lv_at hl 3 rfl) ?_
    refine kc_i (wr := [(mo, .inr (12, [.int 0, .ref vl, .ref sl])), (vl, .inr (0, [.int 0, .ref ae, .int 0]))]) (vx_runSW (As := [.ref x, .int x1, .int 0, .ref o]) (rest := []) ⟨hx, hb, hml, hown, hts⟩ (w_variable_x l hfl ae D cI cJ cS cO x t n sp 0 x1 0 o (fun _ => 0) _ hv) (vx_cwSW 4 hts (gT q_623 q_621 q_622 q_97) rfl rfl rfl (by decide +kernel) ⟨Nat.le_of_ble_eq_true rfl, Nat.le_of_ble_eq_true rfl⟩) ⟨Pw.blind, Pw.mk_call hP hK hD hS hA hG [0, 3] rfl (by decide)⟩ rfl rfl hl.1 rfl (lv_room (Nat.le_of_ble_eq_true rfl)) dL_law_202 ⟨Nat.le_of_ble_eq_true rfl, Nat.le_of_ble_eq_true rfl⟩) hP hD hS hA [0, 3] [1, 2] rfl rfl (by decide) (by decide) (fun r_5 u_6 H locs hw hP hD hS => ?_)
    obtain rfl : r_5 = 1 := hw
    have hP : va_P D vwCl [(mo, .inr (12, [.int 0, .ref vl, .ref sl])), (vl, .inr (0, [.int 0, .ref ae, .int 0])), (x, .inr (6, [.ref t, .ref n, .ref sp, .int 0])), (o, .inl (cJ, 1, .inr (.inl (fun _ => 0))))] H := hP
    have hD : va_D A [(mo, .inr (12, [.int 0, .ref vl, .ref sl])), (vl, .inr (0, [.int 0, .ref ae, .int 0])), (x, .inr (6, [.ref t, .ref n, .ref sp, .int 0])), (o, .inl (cJ, 1, .inr (.inl (fun _ => 0))))] := hD
    refine lv_istore (lv' := [(5, .int 1), (0, .ref b), (1, .ref x), (2, .ref mo), (3, .ref o), (4, .int 0)]) hx hb dL_law_205 hl (by decide) rfl (fun ls hl => ?_)
    refine lv_aload_n hx hb dL_law_207 rfl (lv_at hl 3 rfl) ?_
    refine lv_aload_n hx hb dL_law_208 rfl (lv_at hl 1 rfl) ?_
    refine lv_iload hx hb dL_law_209 (lv_at hl 5 rfl) ?_
    refine lv_iconst (v := 1) hx hb dL_law_211 (by decide) ?_
    refine lv_iadd hx hb dL_law_212 ?_
    refine lv_topi (fun x_7 ex_7 => ?_)
    obtain rfl : x_7 = 1 := ex_7.trans (by decide)
    refine va_sld hx hb hX hbl hbA hS (vp_in_iff.mpr (by decide)) dL_law_213 ?_
    refine lv_topi (fun y_8 ey_8 => ?_)
    rw [show y_8 = x1 from ey_8.trans e1]
    refine lv_aload_n hx hb dL_law_214 rfl (lv_at hl 1 rfl) ?_
    refine lv_iload hx hb dL_law_215 (lv_at hl 5 rfl) ?_
    refine lv_iconst (v := 2) hx hb dL_law_217 (by decide) ?_
    refine lv_iadd hx hb dL_law_218 ?_
    refine lv_topi (fun x_9 ex_9 => ?_)
    obtain rfl : x_9 = 2 := ex_9.trans (by decide)
    refine va_sld hx hb hX hbl hbA hS (vp_in_iff.mpr (by decide)) dL_law_219 ?_
    refine lv_topi (fun y_10 ey_10 => ?_)
    rw [show y_10 = x2 from ey_10.trans e2]
    refine lv_if_eq (tgt := 227) hx hb dL_law_220 (by decide) (fun c_220 => ?_) (fun c_220 => absurd c_193 c_220)
    refine lv_iconst (v := 0) hx hb dL_law_227 (by decide) ?_
    refine kc_i (wr := [(x, .inr (6, [.ref t, .ref n, .ref sp, .int 0])), (o, .inl (cJ, 1, .inr (.inl (fun _ => 0))))]) (va_runV (As := [.int x1, .int 0]) (rest := []) ⟨hx, hb, hml, hown, hts⟩ (m_variable_x l hfl ae D cI cJ cS cO mo vl sl x1 0 _ hv) (cwV 2 hts (gV q_1021 q_1018 q_1019 q_1020 q_104) rfl rfl rfl (by decide +kernel) ⟨Nat.le_of_ble_eq_true rfl, Nat.le_of_ble_eq_true rfl⟩) ⟨Pw.blind, va_recv hK hP (ci := 12) (q0 := 0) rfl rfl, Pw.mk_call hP hK hD hS hA hG [0, 1] rfl (by decide)⟩ rfl rfl hl.1 rfl (lv_room (Nat.le_of_ble_eq_true rfl)) dL_law_228 ⟨Nat.le_of_ble_eq_true rfl, Nat.le_of_ble_eq_true rfl⟩) hP hD hS hA [0, 1] [2, 3] rfl rfl (by decide) (by decide) (fun r_11 u_12 H locs hw hP hD hS => ?_)
    obtain rfl : r_11 = 0 := hw
    have hP : va_P D vwCl [(x, .inr (6, [.ref t, .ref n, .ref sp, .int 0])), (o, .inl (cJ, 1, .inr (.inl (fun _ => 0)))), (mo, .inr (12, [.int 1, .ref vl, .ref sl])), (vl, .inr (0, [.int 0, .ref ae, .int 0]))] H := hP
    have hD : va_D A [(x, .inr (6, [.ref t, .ref n, .ref sp, .int 0])), (o, .inl (cJ, 1, .inr (.inl (fun _ => 0)))), (mo, .inr (12, [.int 1, .ref vl, .ref sl])), (vl, .inr (0, [.int 0, .ref ae, .int 0]))] := hD
    refine lv_istore (lv' := [(6, .int 0), (5, .int 1), (0, .ref b), (1, .ref x), (2, .ref mo), (3, .ref o), (4, .int 0)]) hx hb dL_law_231 hl (by decide) rfl (fun ls hl => ?_)
    refine lv_aload_n hx hb dL_law_233 rfl (lv_at hl 4 rfl) ?_
    refine kc_i (wr := [(x, .inr (6, [.ref t, .ref n, .ref sp, .int 0])), (o, .inl (cJ, 1, .inr (.inl (fun _ => 0)))), (vl, .inr (0, [.int 0, .ref ae, .int 0]))]) (va_runV (As := []) (rest := []) ⟨hx, hb, hml, hown, hts⟩ (m_thrown l hfl ae D cI cJ cS cO mo vl sl 1 _) (cwV 0 hts (gV q_1017 q_1014 q_1015 q_1016 q_104) rfl rfl rfl (by decide +kernel) ⟨Nat.le_of_ble_eq_true rfl, Nat.le_of_ble_eq_true rfl⟩) ⟨Pw.blind, va_recv hK hP (ci := 12) (q0 := 2) rfl rfl, Pw.mk_call hP hK hD hS hA hG [2] rfl (by decide)⟩ rfl rfl hl.1 rfl (lv_room (Nat.le_of_ble_eq_true rfl)) dL_law_234 ⟨Nat.le_of_ble_eq_true rfl, Nat.le_of_ble_eq_true rfl⟩) hP hD hS hA [2] [0, 1, 3] rfl rfl (by decide) (by decide) (fun r_13 u_14 H locs hw hP hD hS => ?_)
    obtain rfl : r_13 = 1 := hw
    have hP : va_P D vwCl [(x, .inr (6, [.ref t, .ref n, .ref sp, .int 0])), (o, .inl (cJ, 1, .inr (.inl (fun _ => 0)))), (vl, .inr (0, [.int 0, .ref ae, .int 0])), (mo, .inr (12, [.int 1, .ref vl, .ref sl]))] H := hP
    have hD : va_D A [(x, .inr (6, [.ref t, .ref n, .ref sp, .int 0])), (o, .inl (cJ, 1, .inr (.inl (fun _ => 0)))), (vl, .inr (0, [.int 0, .ref ae, .int 0])), (mo, .inr (12, [.int 1, .ref vl, .ref sl]))] := hD
    refine lv_iload hx hb dL_law_237 (lv_at hl 1 rfl) ?_
    refine lv_icmp_eq (tgt := 244) hx hb dL_law_239 (by decide) (fun c_239 => ?_) (fun c_239 => absurd (by decide) c_239)
    refine lv_iload hx hb dL_law_244 (lv_at hl 1 rfl) ?_
    refine lv_if_ne (tgt := 261) hx hb dL_law_246 (by decide) (fun c_246 => ?_) (fun c_246 => absurd c_246 (by decide))
    refine lv_goto (tgt := 1950) hx hb dL_law_261 (by decide) ?_
    refine lv_iinc (v := 5) (lv' := [(4, .int 5), (6, .int 0), (5, .int 1), (0, .ref b), (1, .ref x), (2, .ref mo), (3, .ref o)]) hx hb dL_law_1950 hl (k := 6) rfl (by decide) (by decide) rfl (fun ls hl => ?_)
    refine lv_goto (tgt := 23) hx hb dL_law_1953 (by decide) ?_
    refine lv_iload hx hb dL_law_23 (lv_at hl 0 rfl) ?_
    refine lv_aload_n hx hb dL_law_25 rfl (lv_at hl 3 rfl) ?_
    refine va_slen hx hb hX hbl hbA hS dL_law_26 ?_
    refine lv_topi (fun y_15 ey_15 => ?_)
    obtain rfl : y_15 = 5 := ey_15.trans (by decide)
    refine lv_iconst (v := 5) hx hb dL_law_27 (by decide) ?_
    refine lv_isub hx hb dL_law_28 ?_
    refine lv_topi (fun x_16 ex_16 => ?_)
    obtain rfl : x_16 = 0 := ex_16.trans (by decide)
    refine lv_icmp_gt (tgt := 1956) hx hb dL_law_29 (by decide) (fun c_29 => ?_) (fun c_29 => absurd (by decide) c_29)
    refine lv_iconst (v := 1) hx hb dL_law_1956 (by decide) ?_
    refine va_forget (fun q hq => by have h9 := hS.2.2 q hq; rw [← hAe] at h9; exact h9) ?_
    refine W.widen (k := 600002) (n := 7302232) (Nat.le_of_ble_eq_true rfl) (Nat.le_of_ble_eq_true rfl) ?_
    refine W.base ?_
    exact lw_ret (Drawn.sameBut.refl s.drawn lw_cs) hx hb hr hlocks dL_law_1957
  · skip
    refine lv_iconst (v := 1) hx hb dL_law_196 (by decide) ?_
    refine lv_goto (tgt := 201) hx hb dL_law_197 (by decide) ?_
    refine lv_aload_n hx hb dL_law_201 rfl (lv_at hl 3 rfl) ?_
    refine kc_i (wr := [(mo, .inr (12, [.int 0, .ref vl, .ref sl])), (vl, .inr (0, [.int 0, .ref ae, .int 0]))]) (vx_runSW (As := [.ref x, .int x1, .int 1, .ref o]) (rest := []) ⟨hx, hb, hml, hown, hts⟩ (w_variable_x l hfl ae D cI cJ cS cO x t n sp 0 x1 1 o (fun _ => 0) _ hv) (vx_cwSW 4 hts (gT q_623 q_621 q_622 q_97) rfl rfl rfl (by decide +kernel) ⟨Nat.le_of_ble_eq_true rfl, Nat.le_of_ble_eq_true rfl⟩) ⟨Pw.blind, Pw.mk_call hP hK hD hS hA hG [0, 3] rfl (by decide)⟩ rfl rfl hl.1 rfl (lv_room (Nat.le_of_ble_eq_true rfl)) dL_law_202 ⟨Nat.le_of_ble_eq_true rfl, Nat.le_of_ble_eq_true rfl⟩) hP hD hS hA [0, 3] [1, 2] rfl rfl (by decide) (by decide) (fun r_17 u_18 H locs hw hP hD hS => ?_)
    obtain rfl : r_17 = 1 := hw
    have hP : va_P D vwCl [(mo, .inr (12, [.int 0, .ref vl, .ref sl])), (vl, .inr (0, [.int 0, .ref ae, .int 0])), (x, .inr (6, [.ref t, .ref n, .ref sp, .int 0])), (o, .inl (cJ, 1, .inr (.inl (fun _ => 0))))] H := hP
    have hD : va_D A [(mo, .inr (12, [.int 0, .ref vl, .ref sl])), (vl, .inr (0, [.int 0, .ref ae, .int 0])), (x, .inr (6, [.ref t, .ref n, .ref sp, .int 0])), (o, .inl (cJ, 1, .inr (.inl (fun _ => 0))))] := hD
    refine lv_istore (lv' := [(5, .int 1), (0, .ref b), (1, .ref x), (2, .ref mo), (3, .ref o), (4, .int 0)]) hx hb dL_law_205 hl (by decide) rfl (fun ls hl => ?_)
    refine lv_aload_n hx hb dL_law_207 rfl (lv_at hl 3 rfl) ?_
    refine lv_aload_n hx hb dL_law_208 rfl (lv_at hl 1 rfl) ?_
    refine lv_iload hx hb dL_law_209 (lv_at hl 5 rfl) ?_
    refine lv_iconst (v := 1) hx hb dL_law_211 (by decide) ?_
    refine lv_iadd hx hb dL_law_212 ?_
    refine lv_topi (fun x_19 ex_19 => ?_)
    obtain rfl : x_19 = 1 := ex_19.trans (by decide)
    refine va_sld hx hb hX hbl hbA hS (vp_in_iff.mpr (by decide)) dL_law_213 ?_
    refine lv_topi (fun y_20 ey_20 => ?_)
    rw [show y_20 = x1 from ey_20.trans e1]
    refine lv_aload_n hx hb dL_law_214 rfl (lv_at hl 1 rfl) ?_
    refine lv_iload hx hb dL_law_215 (lv_at hl 5 rfl) ?_
    refine lv_iconst (v := 2) hx hb dL_law_217 (by decide) ?_
    refine lv_iadd hx hb dL_law_218 ?_
    refine lv_topi (fun x_21 ex_21 => ?_)
    obtain rfl : x_21 = 2 := ex_21.trans (by decide)
    refine va_sld hx hb hX hbl hbA hS (vp_in_iff.mpr (by decide)) dL_law_219 ?_
    refine lv_topi (fun y_22 ey_22 => ?_)
    rw [show y_22 = x2 from ey_22.trans e2]
    refine lv_if_eq (tgt := 227) hx hb dL_law_220 (by decide) (fun c_220 => absurd c_220 c_193) (fun c_220 => ?_)
    refine lv_iconst (v := 1) hx hb dL_law_223 (by decide) ?_
    refine lv_goto (tgt := 228) hx hb dL_law_224 (by decide) ?_
    refine kc_i (wr := [(x, .inr (6, [.ref t, .ref n, .ref sp, .int 0])), (o, .inl (cJ, 1, .inr (.inl (fun _ => 0))))]) (va_runV (As := [.int x1, .int 1]) (rest := []) ⟨hx, hb, hml, hown, hts⟩ (m_variable_x l hfl ae D cI cJ cS cO mo vl sl x1 1 _ hv) (cwV 2 hts (gV q_1021 q_1018 q_1019 q_1020 q_104) rfl rfl rfl (by decide +kernel) ⟨Nat.le_of_ble_eq_true rfl, Nat.le_of_ble_eq_true rfl⟩) ⟨Pw.blind, va_recv hK hP (ci := 12) (q0 := 0) rfl rfl, Pw.mk_call hP hK hD hS hA hG [0, 1] rfl (by decide)⟩ rfl rfl hl.1 rfl (lv_room (Nat.le_of_ble_eq_true rfl)) dL_law_228 ⟨Nat.le_of_ble_eq_true rfl, Nat.le_of_ble_eq_true rfl⟩) hP hD hS hA [0, 1] [2, 3] rfl rfl (by decide) (by decide) (fun r_23 u_24 H locs hw hP hD hS => ?_)
    obtain rfl : r_23 = 0 := hw
    have hP : va_P D vwCl [(x, .inr (6, [.ref t, .ref n, .ref sp, .int 0])), (o, .inl (cJ, 1, .inr (.inl (fun _ => 0)))), (mo, .inr (12, [.int 1, .ref vl, .ref sl])), (vl, .inr (0, [.int 0, .ref ae, .int 0]))] H := hP
    have hD : va_D A [(x, .inr (6, [.ref t, .ref n, .ref sp, .int 0])), (o, .inl (cJ, 1, .inr (.inl (fun _ => 0)))), (mo, .inr (12, [.int 1, .ref vl, .ref sl])), (vl, .inr (0, [.int 0, .ref ae, .int 0]))] := hD
    refine lv_istore (lv' := [(6, .int 0), (5, .int 1), (0, .ref b), (1, .ref x), (2, .ref mo), (3, .ref o), (4, .int 0)]) hx hb dL_law_231 hl (by decide) rfl (fun ls hl => ?_)
    refine lv_aload_n hx hb dL_law_233 rfl (lv_at hl 4 rfl) ?_
    refine kc_i (wr := [(x, .inr (6, [.ref t, .ref n, .ref sp, .int 0])), (o, .inl (cJ, 1, .inr (.inl (fun _ => 0)))), (vl, .inr (0, [.int 0, .ref ae, .int 0]))]) (va_runV (As := []) (rest := []) ⟨hx, hb, hml, hown, hts⟩ (m_thrown l hfl ae D cI cJ cS cO mo vl sl 1 _) (cwV 0 hts (gV q_1017 q_1014 q_1015 q_1016 q_104) rfl rfl rfl (by decide +kernel) ⟨Nat.le_of_ble_eq_true rfl, Nat.le_of_ble_eq_true rfl⟩) ⟨Pw.blind, va_recv hK hP (ci := 12) (q0 := 2) rfl rfl, Pw.mk_call hP hK hD hS hA hG [2] rfl (by decide)⟩ rfl rfl hl.1 rfl (lv_room (Nat.le_of_ble_eq_true rfl)) dL_law_234 ⟨Nat.le_of_ble_eq_true rfl, Nat.le_of_ble_eq_true rfl⟩) hP hD hS hA [2] [0, 1, 3] rfl rfl (by decide) (by decide) (fun r_25 u_26 H locs hw hP hD hS => ?_)
    obtain rfl : r_25 = 1 := hw
    have hP : va_P D vwCl [(x, .inr (6, [.ref t, .ref n, .ref sp, .int 0])), (o, .inl (cJ, 1, .inr (.inl (fun _ => 0)))), (vl, .inr (0, [.int 0, .ref ae, .int 0])), (mo, .inr (12, [.int 1, .ref vl, .ref sl]))] H := hP
    have hD : va_D A [(x, .inr (6, [.ref t, .ref n, .ref sp, .int 0])), (o, .inl (cJ, 1, .inr (.inl (fun _ => 0)))), (vl, .inr (0, [.int 0, .ref ae, .int 0])), (mo, .inr (12, [.int 1, .ref vl, .ref sl]))] := hD
    refine lv_iload hx hb dL_law_237 (lv_at hl 1 rfl) ?_
    refine lv_icmp_eq (tgt := 244) hx hb dL_law_239 (by decide) (fun c_239 => ?_) (fun c_239 => absurd (by decide) c_239)
    refine lv_iload hx hb dL_law_244 (lv_at hl 1 rfl) ?_
    refine lv_if_ne (tgt := 261) hx hb dL_law_246 (by decide) (fun c_246 => ?_) (fun c_246 => absurd c_246 (by decide))
    refine lv_goto (tgt := 1950) hx hb dL_law_261 (by decide) ?_
    refine lv_iinc (v := 5) (lv' := [(4, .int 5), (6, .int 0), (5, .int 1), (0, .ref b), (1, .ref x), (2, .ref mo), (3, .ref o)]) hx hb dL_law_1950 hl (k := 6) rfl (by decide) (by decide) rfl (fun ls hl => ?_)
    refine lv_goto (tgt := 23) hx hb dL_law_1953 (by decide) ?_
    refine lv_iload hx hb dL_law_23 (lv_at hl 0 rfl) ?_
    refine lv_aload_n hx hb dL_law_25 rfl (lv_at hl 3 rfl) ?_
    refine va_slen hx hb hX hbl hbA hS dL_law_26 ?_
    refine lv_topi (fun y_27 ey_27 => ?_)
    obtain rfl : y_27 = 5 := ey_27.trans (by decide)
    refine lv_iconst (v := 5) hx hb dL_law_27 (by decide) ?_
    refine lv_isub hx hb dL_law_28 ?_
    refine lv_topi (fun x_28 ex_28 => ?_)
    obtain rfl : x_28 = 0 := ex_28.trans (by decide)
    refine lv_icmp_gt (tgt := 1956) hx hb dL_law_29 (by decide) (fun c_29 => ?_) (fun c_29 => absurd (by decide) c_29)
    refine lv_iconst (v := 1) hx hb dL_law_1956 (by decide) ?_
    refine va_forget (fun q hq => by have h9 := hS.2.2 q hq; rw [← hAe] at h9; exact h9) ?_
    refine W.widen (k := 600002) (n := 7302232) (Nat.le_of_ble_eq_true rfl) (Nat.le_of_ble_eq_true rfl) ?_
    refine W.base ?_
    exact lw_ret (Drawn.sameBut.refl s.drawn lw_cs) hx hb hr hlocks dL_law_1957

set_option maxHeartbeats 4000000 in
set_option maxRecDepth 100000 in
theorem lc_1 {p : Program} {l : Launch} {e : Env} {s : State} {m : MethodId} {below : List Frame} {meth : Method} {c : Code} {b : Nat} {xs : Nat → Int32} (hfl : l.stackTraces = false) {ae : Nat} {D : va_G} {cI cJ cS cO : ClassId} (C0 : lw_At p s m meth c b 5 xs) (hK : va_K D vwCl [(cI, .int), (cJ, .long), (cS, .object "IronwoodModel$State"), (cO, .object "java/lang/Object")] s) (hG : Gl ae (fun q : Nat => s.heap.size ≤ q) s s.heap) (x : Nat) (t : Nat) (n : Nat) (sp : Nat) (t_kinds : Nat) (t_codes : Nat) (t_targets : Nat) (t_settings : Nat) (t_sources : Nat) (t_accessCounts : Nat) (t_acts : Nat) (t_actVariables : Nat) (t_actPlaces : Nat) (mo : Nat) (vl : Nat) (sl : Nat) (o : Nat) (x1 : Int32) (e1 : xs (Int32.toNatClampNeg 1) = x1) (x2 : Int32) (e2 : xs (Int32.toNatClampNeg 2) = x2) (x3 : Int32) (e3 : xs (Int32.toNatClampNeg 3) = x3) (x4 : Int32) (e4 : xs (Int32.toNatClampNeg 4) = x4)  (H : Heap) (locs : List Loc) (hP : va_P D vwCl [(x, .inr (6, [.ref t, .ref n, .ref sp, .int 0])), (t, .inr (4, [.ref t_kinds, .int 0, .long 0, .long 0, .ref t_codes, .ref t_targets, .ref t_settings, .ref t_sources, .ref t_accessCounts, .int 0, .ref t_acts, .ref t_actVariables, .ref t_actPlaces])), (mo, .inr (12, [.int 0, .ref vl, .ref sl])), (vl, .inr (0, [.int 0, .ref ae, .int 0])), (o, .inl (cJ, 1, .inr (.inl (fun _ => 0))))] H) (hD : va_D (fun q : Nat => s.heap.size ≤ q) [(x, .inr (6, [.ref t, .ref n, .ref sp, .int 0])), (t, .inr (4, [.ref t_kinds, .int 0, .long 0, .long 0, .ref t_codes, .ref t_targets, .ref t_settings, .ref t_sources, .ref t_accessCounts, .int 0, .ref t_acts, .ref t_actVariables, .ref t_actPlaces])), (mo, .inr (12, [.int 0, .ref vl, .ref sl])), (vl, .inr (0, [.int 0, .ref ae, .int 0])), (o, .inl (cJ, 1, .inr (.inl (fun _ => 0))))]) (hS : va_S (fun q : Nat => s.heap.size ≤ q) s.heap H locs) (ls : Array Slot) (hl : lv_has ls 9 [(0, .ref b), (1, .ref x), (2, .ref mo), (3, .ref o), (4, .int 0)]) : W p l e room_1 s m #[Value.ref b] below meth c H locs 61 3597 (lw_Z below #[Value.ref b] s) (F0 m 264 ls []) := by
  obtain ⟨hx, hb, hr, hml, hown, hts0, hX, hbl, hlocks, hgv⟩ := id C0
  have hts := law_hts hts0
  have hA : ∀ q : Nat, s.heap.size ≤ q → (fun q : Nat => s.heap.size ≤ q) q := fun _ h => h
  have hbA : ¬ (fun q : Nat => s.heap.size ≤ q) b := Nat.not_le.mpr hbl
  generalize hAe : (fun q : Nat => s.heap.size ≤ q) = A at hD hG hS hA hbA
  refine lv_aload_n hx hb dL_law_264 rfl (lv_at hl 1 rfl) ?_
  refine lv_aload_n hx hb dL_law_265 rfl (lv_at hl 0 rfl) ?_
  refine lv_iload hx hb dL_law_266 (lv_at hl 4 rfl) ?_
  refine lv_iconst (v := 1) hx hb dL_law_268 (by decide) ?_
  refine lv_iadd hx hb dL_law_269 ?_
  refine lv_topi (fun x_1 ex_1 => ?_)
  obtain rfl : x_1 = 1 := ex_1.trans (by decide)
  refine va_sld hx hb hX hbl hbA hS (vp_in_iff.mpr (by decide)) dL_law_270 ?_
  refine lv_topi (fun y_2 ey_2 => ?_)
  rw [show y_2 = x1 from ey_2.trans e1]
  refine lv_aload_n hx hb dL_law_271 rfl (lv_at hl 0 rfl) ?_
  refine lv_iload hx hb dL_law_272 (lv_at hl 4 rfl) ?_
  refine lv_iconst (v := 2) hx hb dL_law_274 (by decide) ?_
  refine lv_iadd hx hb dL_law_275 ?_
  refine lv_topi (fun x_3 ex_3 => ?_)
  obtain rfl : x_3 = 2 := ex_3.trans (by decide)
  refine va_sld hx hb hX hbl hbA hS (vp_in_iff.mpr (by decide)) dL_law_276 ?_
  refine lv_topi (fun y_4 ey_4 => ?_)
  rw [show y_4 = x2 from ey_4.trans e2]
  refine lv_aload_n hx hb dL_law_277 rfl (lv_at hl 3 rfl) ?_
  refine kc_i (wr := [(mo, .inr (12, [.int 0, .ref vl, .ref sl])), (vl, .inr (0, [.int 0, .ref ae, .int 0]))]) (vx_runSW (As := [.ref x, .int x1, .int x2, .ref o]) (rest := []) ⟨hx, hb, hml, hown, hts⟩ (w_write_x l hfl ae D cI cJ cS cO x t n sp 0 t_kinds 0 0 t_codes t_targets t_settings t_sources t_accessCounts 0 t_acts t_actVariables t_actPlaces x1 x2 o (fun _ => 0) _) (vx_cwSW 4 hts (gT q_720 q_718 q_719 q_97) rfl rfl rfl (by decide +kernel) ⟨Nat.le_of_ble_eq_true rfl, Nat.le_of_ble_eq_true rfl⟩) ⟨Pw.blind, Pw.mk_call hP hK hD hS hA hG [0, 1, 4] rfl (by decide)⟩ rfl rfl hl.1 rfl (lv_room (Nat.le_of_ble_eq_true rfl)) dL_law_278 ⟨Nat.le_of_ble_eq_true rfl, Nat.le_of_ble_eq_true rfl⟩) hP hD hS hA [0, 1, 4] [2, 3] rfl rfl (by decide) (by decide) (fun r_5 u_6 H locs hw hP hD hS => ?_)
  obtain rfl : r_5 = 1 := hw
  have hP : va_P D vwCl [(mo, .inr (12, [.int 0, .ref vl, .ref sl])), (vl, .inr (0, [.int 0, .ref ae, .int 0])), (x, .inr (6, [.ref t, .ref n, .ref sp, .int 0])), (t, .inr (4, [.ref t_kinds, .int 0, .long 0, .long 0, .ref t_codes, .ref t_targets, .ref t_settings, .ref t_sources, .ref t_accessCounts, .int 0, .ref t_acts, .ref t_actVariables, .ref t_actPlaces])), (o, .inl (cJ, 1, .inr (.inl (fun _ => 0))))] H := hP
  have hD : va_D A [(mo, .inr (12, [.int 0, .ref vl, .ref sl])), (vl, .inr (0, [.int 0, .ref ae, .int 0])), (x, .inr (6, [.ref t, .ref n, .ref sp, .int 0])), (t, .inr (4, [.ref t_kinds, .int 0, .long 0, .long 0, .ref t_codes, .ref t_targets, .ref t_settings, .ref t_sources, .ref t_accessCounts, .int 0, .ref t_acts, .ref t_actVariables, .ref t_actPlaces])), (o, .inl (cJ, 1, .inr (.inl (fun _ => 0))))] := hD
  refine lv_istore (lv' := [(5, .int 1), (0, .ref b), (1, .ref x), (2, .ref mo), (3, .ref o), (4, .int 0)]) hx hb dL_law_281 hl (by decide) rfl (fun ls hl => ?_)
  refine lv_aload_n hx hb dL_law_283 rfl (lv_at hl 3 rfl) ?_
  refine lv_aload_n hx hb dL_law_284 rfl (lv_at hl 1 rfl) ?_
  refine lv_iload hx hb dL_law_285 (lv_at hl 5 rfl) ?_
  refine lv_iconst (v := 1) hx hb dL_law_287 (by decide) ?_
  refine lv_iadd hx hb dL_law_288 ?_
  refine lv_topi (fun x_7 ex_7 => ?_)
  obtain rfl : x_7 = 1 := ex_7.trans (by decide)
  refine va_sld hx hb hX hbl hbA hS (vp_in_iff.mpr (by decide)) dL_law_289 ?_
  refine lv_topi (fun y_8 ey_8 => ?_)
  rw [show y_8 = x1 from ey_8.trans e1]
  refine lv_aload_n hx hb dL_law_290 rfl (lv_at hl 1 rfl) ?_
  refine lv_iload hx hb dL_law_291 (lv_at hl 5 rfl) ?_
  refine lv_iconst (v := 2) hx hb dL_law_293 (by decide) ?_
  refine lv_iadd hx hb dL_law_294 ?_
  refine lv_topi (fun x_9 ex_9 => ?_)
  obtain rfl : x_9 = 2 := ex_9.trans (by decide)
  refine va_sld hx hb hX hbl hbA hS (vp_in_iff.mpr (by decide)) dL_law_295 ?_
  refine lv_topi (fun y_10 ey_10 => ?_)
  rw [show y_10 = x2 from ey_10.trans e2]
  refine kc_i (wr := [(x, .inr (6, [.ref t, .ref n, .ref sp, .int 0])), (t, .inr (4, [.ref t_kinds, .int 0, .long 0, .long 0, .ref t_codes, .ref t_targets, .ref t_settings, .ref t_sources, .ref t_accessCounts, .int 0, .ref t_acts, .ref t_actVariables, .ref t_actPlaces])), (o, .inl (cJ, 1, .inr (.inl (fun _ => 0))))]) (va_runV (As := [.int x1, .int x2]) (rest := []) ⟨hx, hb, hml, hown, hts⟩ (m_write_x l hfl ae D cI cJ cS cO mo vl sl x1 x2 _) (cwV 2 hts (gV q_1117 q_1114 q_1115 q_1116 q_104) rfl rfl rfl (by decide +kernel) ⟨Nat.le_of_ble_eq_true rfl, Nat.le_of_ble_eq_true rfl⟩) ⟨Pw.blind, va_recv hK hP (ci := 12) (q0 := 0) rfl rfl, Pw.mk_call hP hK hD hS hA hG [0, 1] rfl (by decide)⟩ rfl rfl hl.1 rfl (lv_room (Nat.le_of_ble_eq_true rfl)) dL_law_296 ⟨Nat.le_of_ble_eq_true rfl, Nat.le_of_ble_eq_true rfl⟩) hP hD hS hA [0, 1] [2, 3, 4] rfl rfl (by decide) (by decide) (fun r_11 u_12 H locs hw hP hD hS => ?_)
  obtain rfl : r_11 = 0 := hw
  have hP : va_P D vwCl [(x, .inr (6, [.ref t, .ref n, .ref sp, .int 0])), (t, .inr (4, [.ref t_kinds, .int 0, .long 0, .long 0, .ref t_codes, .ref t_targets, .ref t_settings, .ref t_sources, .ref t_accessCounts, .int 0, .ref t_acts, .ref t_actVariables, .ref t_actPlaces])), (o, .inl (cJ, 1, .inr (.inl (fun _ => 0)))), (mo, .inr (12, [.int 1, .ref vl, .ref sl])), (vl, .inr (0, [.int 0, .ref ae, .int 0]))] H := hP
  have hD : va_D A [(x, .inr (6, [.ref t, .ref n, .ref sp, .int 0])), (t, .inr (4, [.ref t_kinds, .int 0, .long 0, .long 0, .ref t_codes, .ref t_targets, .ref t_settings, .ref t_sources, .ref t_accessCounts, .int 0, .ref t_acts, .ref t_actVariables, .ref t_actPlaces])), (o, .inl (cJ, 1, .inr (.inl (fun _ => 0)))), (mo, .inr (12, [.int 1, .ref vl, .ref sl])), (vl, .inr (0, [.int 0, .ref ae, .int 0]))] := hD
  refine lv_istore (lv' := [(6, .int 0), (5, .int 1), (0, .ref b), (1, .ref x), (2, .ref mo), (3, .ref o), (4, .int 0)]) hx hb dL_law_299 hl (by decide) rfl (fun ls hl => ?_)
  refine lv_aload_n hx hb dL_law_301 rfl (lv_at hl 4 rfl) ?_
  refine kc_i (wr := [(x, .inr (6, [.ref t, .ref n, .ref sp, .int 0])), (t, .inr (4, [.ref t_kinds, .int 0, .long 0, .long 0, .ref t_codes, .ref t_targets, .ref t_settings, .ref t_sources, .ref t_accessCounts, .int 0, .ref t_acts, .ref t_actVariables, .ref t_actPlaces])), (o, .inl (cJ, 1, .inr (.inl (fun _ => 0)))), (vl, .inr (0, [.int 0, .ref ae, .int 0]))]) (va_runV (As := []) (rest := []) ⟨hx, hb, hml, hown, hts⟩ (m_thrown l hfl ae D cI cJ cS cO mo vl sl 1 _) (cwV 0 hts (gV q_1017 q_1014 q_1015 q_1016 q_104) rfl rfl rfl (by decide +kernel) ⟨Nat.le_of_ble_eq_true rfl, Nat.le_of_ble_eq_true rfl⟩) ⟨Pw.blind, va_recv hK hP (ci := 12) (q0 := 3) rfl rfl, Pw.mk_call hP hK hD hS hA hG [3] rfl (by decide)⟩ rfl rfl hl.1 rfl (lv_room (Nat.le_of_ble_eq_true rfl)) dL_law_302 ⟨Nat.le_of_ble_eq_true rfl, Nat.le_of_ble_eq_true rfl⟩) hP hD hS hA [3] [0, 1, 2, 4] rfl rfl (by decide) (by decide) (fun r_13 u_14 H locs hw hP hD hS => ?_)
  obtain rfl : r_13 = 1 := hw
  have hP : va_P D vwCl [(x, .inr (6, [.ref t, .ref n, .ref sp, .int 0])), (t, .inr (4, [.ref t_kinds, .int 0, .long 0, .long 0, .ref t_codes, .ref t_targets, .ref t_settings, .ref t_sources, .ref t_accessCounts, .int 0, .ref t_acts, .ref t_actVariables, .ref t_actPlaces])), (o, .inl (cJ, 1, .inr (.inl (fun _ => 0)))), (vl, .inr (0, [.int 0, .ref ae, .int 0])), (mo, .inr (12, [.int 1, .ref vl, .ref sl]))] H := hP
  have hD : va_D A [(x, .inr (6, [.ref t, .ref n, .ref sp, .int 0])), (t, .inr (4, [.ref t_kinds, .int 0, .long 0, .long 0, .ref t_codes, .ref t_targets, .ref t_settings, .ref t_sources, .ref t_accessCounts, .int 0, .ref t_acts, .ref t_actVariables, .ref t_actPlaces])), (o, .inl (cJ, 1, .inr (.inl (fun _ => 0)))), (vl, .inr (0, [.int 0, .ref ae, .int 0])), (mo, .inr (12, [.int 1, .ref vl, .ref sl]))] := hD
  refine lv_iload hx hb dL_law_305 (lv_at hl 1 rfl) ?_
  refine lv_icmp_eq (tgt := 312) hx hb dL_law_307 (by decide) (fun c_307 => ?_) (fun c_307 => absurd (by decide) c_307)
  refine lv_iload hx hb dL_law_312 (lv_at hl 1 rfl) ?_
  refine lv_if_ne (tgt := 329) hx hb dL_law_314 (by decide) (fun c_314 => ?_) (fun c_314 => absurd c_314 (by decide))
  refine lv_goto (tgt := 1950) hx hb dL_law_329 (by decide) ?_
  refine lv_iinc (v := 5) (lv' := [(4, .int 5), (6, .int 0), (5, .int 1), (0, .ref b), (1, .ref x), (2, .ref mo), (3, .ref o)]) hx hb dL_law_1950 hl (k := 6) rfl (by decide) (by decide) rfl (fun ls hl => ?_)
  refine lv_goto (tgt := 23) hx hb dL_law_1953 (by decide) ?_
  refine lv_iload hx hb dL_law_23 (lv_at hl 0 rfl) ?_
  refine lv_aload_n hx hb dL_law_25 rfl (lv_at hl 3 rfl) ?_
  refine va_slen hx hb hX hbl hbA hS dL_law_26 ?_
  refine lv_topi (fun y_15 ey_15 => ?_)
  obtain rfl : y_15 = 5 := ey_15.trans (by decide)
  refine lv_iconst (v := 5) hx hb dL_law_27 (by decide) ?_
  refine lv_isub hx hb dL_law_28 ?_
  refine lv_topi (fun x_16 ex_16 => ?_)
  obtain rfl : x_16 = 0 := ex_16.trans (by decide)
  refine lv_icmp_gt (tgt := 1956) hx hb dL_law_29 (by decide) (fun c_29 => ?_) (fun c_29 => absurd (by decide) c_29)
  refine lv_iconst (v := 1) hx hb dL_law_1956 (by decide) ?_
  refine va_forget (fun q hq => by have h9 := hS.2.2 q hq; rw [← hAe] at h9; exact h9) ?_
  refine W.widen (k := 600002) (n := 7302232) (Nat.le_of_ble_eq_true rfl) (Nat.le_of_ble_eq_true rfl) ?_
  refine W.base ?_
  exact lw_ret (Drawn.sameBut.refl s.drawn lw_cs) hx hb hr hlocks dL_law_1957

set_option maxHeartbeats 4000000 in
set_option maxRecDepth 100000 in
theorem lc_2 {p : Program} {l : Launch} {e : Env} {s : State} {m : MethodId} {below : List Frame} {meth : Method} {c : Code} {b : Nat} {xs : Nat → Int32} (hfl : l.stackTraces = false) {ae : Nat} {D : va_G} {cI cJ cS cO : ClassId} (C0 : lw_At p s m meth c b 5 xs) (hK : va_K D vwCl [(cI, .int), (cJ, .long), (cS, .object "IronwoodModel$State"), (cO, .object "java/lang/Object")] s) (hG : Gl ae (fun q : Nat => s.heap.size ≤ q) s s.heap) (x : Nat) (t : Nat) (n : Nat) (sp : Nat) (t_kinds : Nat) (t_codes : Nat) (t_targets : Nat) (t_settings : Nat) (t_sources : Nat) (t_accessCounts : Nat) (t_acts : Nat) (t_actVariables : Nat) (t_actPlaces : Nat) (mo : Nat) (vl : Nat) (sl : Nat) (o : Nat) (x1 : Int32) (e1 : xs (Int32.toNatClampNeg 1) = x1) (x2 : Int32) (e2 : xs (Int32.toNatClampNeg 2) = x2) (x3 : Int32) (e3 : xs (Int32.toNatClampNeg 3) = x3) (x4 : Int32) (e4 : xs (Int32.toNatClampNeg 4) = x4)  (H : Heap) (locs : List Loc) (hP : va_P D vwCl [(x, .inr (6, [.ref t, .ref n, .ref sp, .int 0])), (t, .inr (4, [.ref t_kinds, .int 0, .long 0, .long 0, .ref t_codes, .ref t_targets, .ref t_settings, .ref t_sources, .ref t_accessCounts, .int 0, .ref t_acts, .ref t_actVariables, .ref t_actPlaces])), (mo, .inr (12, [.int 0, .ref vl, .ref sl])), (vl, .inr (0, [.int 0, .ref ae, .int 0])), (o, .inl (cJ, 1, .inr (.inl (fun _ => 0))))] H) (hD : va_D (fun q : Nat => s.heap.size ≤ q) [(x, .inr (6, [.ref t, .ref n, .ref sp, .int 0])), (t, .inr (4, [.ref t_kinds, .int 0, .long 0, .long 0, .ref t_codes, .ref t_targets, .ref t_settings, .ref t_sources, .ref t_accessCounts, .int 0, .ref t_acts, .ref t_actVariables, .ref t_actPlaces])), (mo, .inr (12, [.int 0, .ref vl, .ref sl])), (vl, .inr (0, [.int 0, .ref ae, .int 0])), (o, .inl (cJ, 1, .inr (.inl (fun _ => 0))))]) (hS : va_S (fun q : Nat => s.heap.size ≤ q) s.heap H locs) (ls : Array Slot) (hl : lv_has ls 9 [(0, .ref b), (1, .ref x), (2, .ref mo), (3, .ref o), (4, .int 0)]) : W p l e room_1 s m #[Value.ref b] below meth c H locs 61 3597 (lw_Z below #[Value.ref b] s) (F0 m 332 ls []) := by
  obtain ⟨hx, hb, hr, hml, hown, hts0, hX, hbl, hlocks, hgv⟩ := id C0
  have hts := law_hts hts0
  have hA : ∀ q : Nat, s.heap.size ≤ q → (fun q : Nat => s.heap.size ≤ q) q := fun _ h => h
  have hbA : ¬ (fun q : Nat => s.heap.size ≤ q) b := Nat.not_le.mpr hbl
  generalize hAe : (fun q : Nat => s.heap.size ≤ q) = A at hD hG hS hA hbA
  refine lv_aload_n hx hb dL_law_332 rfl (lv_at hl 1 rfl) ?_
  refine lv_aload_n hx hb dL_law_333 rfl (lv_at hl 0 rfl) ?_
  refine lv_iload hx hb dL_law_334 (lv_at hl 4 rfl) ?_
  refine lv_iconst (v := 1) hx hb dL_law_336 (by decide) ?_
  refine lv_iadd hx hb dL_law_337 ?_
  refine lv_topi (fun x_1 ex_1 => ?_)
  obtain rfl : x_1 = 1 := ex_1.trans (by decide)
  refine va_sld hx hb hX hbl hbA hS (vp_in_iff.mpr (by decide)) dL_law_338 ?_
  refine lv_topi (fun y_2 ey_2 => ?_)
  rw [show y_2 = x1 from ey_2.trans e1]
  refine lv_aload_n hx hb dL_law_339 rfl (lv_at hl 0 rfl) ?_
  refine lv_iload hx hb dL_law_340 (lv_at hl 4 rfl) ?_
  refine lv_iconst (v := 2) hx hb dL_law_342 (by decide) ?_
  refine lv_iadd hx hb dL_law_343 ?_
  refine lv_topi (fun x_3 ex_3 => ?_)
  obtain rfl : x_3 = 2 := ex_3.trans (by decide)
  refine va_sld hx hb hX hbl hbA hS (vp_in_iff.mpr (by decide)) dL_law_344 ?_
  refine lv_topi (fun y_4 ey_4 => ?_)
  rw [show y_4 = x2 from ey_4.trans e2]
  refine lv_aload_n hx hb dL_law_345 rfl (lv_at hl 0 rfl) ?_
  refine lv_iload hx hb dL_law_346 (lv_at hl 4 rfl) ?_
  refine lv_iconst (v := 3) hx hb dL_law_348 (by decide) ?_
  refine lv_iadd hx hb dL_law_349 ?_
  refine lv_topi (fun x_5 ex_5 => ?_)
  obtain rfl : x_5 = 3 := ex_5.trans (by decide)
  refine va_sld hx hb hX hbl hbA hS (vp_in_iff.mpr (by decide)) dL_law_350 ?_
  refine lv_topi (fun y_6 ey_6 => ?_)
  rw [show y_6 = x3 from ey_6.trans e3]
  refine lv_aload_n hx hb dL_law_351 rfl (lv_at hl 3 rfl) ?_
  refine kc_i (wr := [(mo, .inr (12, [.int 0, .ref vl, .ref sl])), (vl, .inr (0, [.int 0, .ref ae, .int 0]))]) (vx_runSW (As := [.ref x, .int x1, .int x2, .int x3, .ref o]) (rest := []) ⟨hx, hb, hml, hown, hts⟩ (w_move_x l hfl ae D cI cJ cS cO x t n sp 0 t_kinds 0 0 t_codes t_targets t_settings t_sources t_accessCounts 0 t_acts t_actVariables t_actPlaces x1 x2 x3 o (fun _ => 0) _) (vx_cwSW 5 hts (gT q_776 q_774 q_775 q_97) rfl rfl rfl (by decide +kernel) ⟨Nat.le_of_ble_eq_true rfl, Nat.le_of_ble_eq_true rfl⟩) ⟨Pw.blind, Pw.mk_call hP hK hD hS hA hG [0, 1, 4] rfl (by decide)⟩ rfl rfl hl.1 rfl (lv_room (Nat.le_of_ble_eq_true rfl)) dL_law_352 ⟨Nat.le_of_ble_eq_true rfl, Nat.le_of_ble_eq_true rfl⟩) hP hD hS hA [0, 1, 4] [2, 3] rfl rfl (by decide) (by decide) (fun r_7 u_8 H locs hw hP hD hS => ?_)
  obtain rfl : r_7 = 1 := hw
  have hP : va_P D vwCl [(mo, .inr (12, [.int 0, .ref vl, .ref sl])), (vl, .inr (0, [.int 0, .ref ae, .int 0])), (x, .inr (6, [.ref t, .ref n, .ref sp, .int 0])), (t, .inr (4, [.ref t_kinds, .int 0, .long 0, .long 0, .ref t_codes, .ref t_targets, .ref t_settings, .ref t_sources, .ref t_accessCounts, .int 0, .ref t_acts, .ref t_actVariables, .ref t_actPlaces])), (o, .inl (cJ, 1, .inr (.inl (fun _ => 0))))] H := hP
  have hD : va_D A [(mo, .inr (12, [.int 0, .ref vl, .ref sl])), (vl, .inr (0, [.int 0, .ref ae, .int 0])), (x, .inr (6, [.ref t, .ref n, .ref sp, .int 0])), (t, .inr (4, [.ref t_kinds, .int 0, .long 0, .long 0, .ref t_codes, .ref t_targets, .ref t_settings, .ref t_sources, .ref t_accessCounts, .int 0, .ref t_acts, .ref t_actVariables, .ref t_actPlaces])), (o, .inl (cJ, 1, .inr (.inl (fun _ => 0))))] := hD
  refine lv_istore (lv' := [(5, .int 1), (0, .ref b), (1, .ref x), (2, .ref mo), (3, .ref o), (4, .int 0)]) hx hb dL_law_355 hl (by decide) rfl (fun ls hl => ?_)
  refine lv_aload_n hx hb dL_law_357 rfl (lv_at hl 3 rfl) ?_
  refine lv_aload_n hx hb dL_law_358 rfl (lv_at hl 1 rfl) ?_
  refine lv_iload hx hb dL_law_359 (lv_at hl 5 rfl) ?_
  refine lv_iconst (v := 1) hx hb dL_law_361 (by decide) ?_
  refine lv_iadd hx hb dL_law_362 ?_
  refine lv_topi (fun x_9 ex_9 => ?_)
  obtain rfl : x_9 = 1 := ex_9.trans (by decide)
  refine va_sld hx hb hX hbl hbA hS (vp_in_iff.mpr (by decide)) dL_law_363 ?_
  refine lv_topi (fun y_10 ey_10 => ?_)
  rw [show y_10 = x1 from ey_10.trans e1]
  refine lv_aload_n hx hb dL_law_364 rfl (lv_at hl 1 rfl) ?_
  refine lv_iload hx hb dL_law_365 (lv_at hl 5 rfl) ?_
  refine lv_iconst (v := 2) hx hb dL_law_367 (by decide) ?_
  refine lv_iadd hx hb dL_law_368 ?_
  refine lv_topi (fun x_11 ex_11 => ?_)
  obtain rfl : x_11 = 2 := ex_11.trans (by decide)
  refine va_sld hx hb hX hbl hbA hS (vp_in_iff.mpr (by decide)) dL_law_369 ?_
  refine lv_topi (fun y_12 ey_12 => ?_)
  rw [show y_12 = x2 from ey_12.trans e2]
  refine lv_aload_n hx hb dL_law_370 rfl (lv_at hl 1 rfl) ?_
  refine lv_iload hx hb dL_law_371 (lv_at hl 5 rfl) ?_
  refine lv_iconst (v := 3) hx hb dL_law_373 (by decide) ?_
  refine lv_iadd hx hb dL_law_374 ?_
  refine lv_topi (fun x_13 ex_13 => ?_)
  obtain rfl : x_13 = 3 := ex_13.trans (by decide)
  refine va_sld hx hb hX hbl hbA hS (vp_in_iff.mpr (by decide)) dL_law_375 ?_
  refine lv_topi (fun y_14 ey_14 => ?_)
  rw [show y_14 = x3 from ey_14.trans e3]
  refine kc_i (wr := [(x, .inr (6, [.ref t, .ref n, .ref sp, .int 0])), (t, .inr (4, [.ref t_kinds, .int 0, .long 0, .long 0, .ref t_codes, .ref t_targets, .ref t_settings, .ref t_sources, .ref t_accessCounts, .int 0, .ref t_acts, .ref t_actVariables, .ref t_actPlaces])), (o, .inl (cJ, 1, .inr (.inl (fun _ => 0))))]) (va_runV (As := [.int x1, .int x2, .int x3]) (rest := []) ⟨hx, hb, hml, hown, hts⟩ (m_move_x l hfl ae D cI cJ cS cO mo vl sl x1 x2 x3 _) (cwV 3 hts (gV q_1188 q_1185 q_1186 q_1187 q_104) rfl rfl rfl (by decide +kernel) ⟨Nat.le_of_ble_eq_true rfl, Nat.le_of_ble_eq_true rfl⟩) ⟨Pw.blind, va_recv hK hP (ci := 12) (q0 := 0) rfl rfl, Pw.mk_call hP hK hD hS hA hG [0, 1] rfl (by decide)⟩ rfl rfl hl.1 rfl (lv_room (Nat.le_of_ble_eq_true rfl)) dL_law_376 ⟨Nat.le_of_ble_eq_true rfl, Nat.le_of_ble_eq_true rfl⟩) hP hD hS hA [0, 1] [2, 3, 4] rfl rfl (by decide) (by decide) (fun r_15 u_16 H locs hw hP hD hS => ?_)
  obtain rfl : r_15 = 0 := hw
  have hP : va_P D vwCl [(x, .inr (6, [.ref t, .ref n, .ref sp, .int 0])), (t, .inr (4, [.ref t_kinds, .int 0, .long 0, .long 0, .ref t_codes, .ref t_targets, .ref t_settings, .ref t_sources, .ref t_accessCounts, .int 0, .ref t_acts, .ref t_actVariables, .ref t_actPlaces])), (o, .inl (cJ, 1, .inr (.inl (fun _ => 0)))), (mo, .inr (12, [.int 1, .ref vl, .ref sl])), (vl, .inr (0, [.int 0, .ref ae, .int 0]))] H := hP
  have hD : va_D A [(x, .inr (6, [.ref t, .ref n, .ref sp, .int 0])), (t, .inr (4, [.ref t_kinds, .int 0, .long 0, .long 0, .ref t_codes, .ref t_targets, .ref t_settings, .ref t_sources, .ref t_accessCounts, .int 0, .ref t_acts, .ref t_actVariables, .ref t_actPlaces])), (o, .inl (cJ, 1, .inr (.inl (fun _ => 0)))), (mo, .inr (12, [.int 1, .ref vl, .ref sl])), (vl, .inr (0, [.int 0, .ref ae, .int 0]))] := hD
  refine lv_istore (lv' := [(6, .int 0), (5, .int 1), (0, .ref b), (1, .ref x), (2, .ref mo), (3, .ref o), (4, .int 0)]) hx hb dL_law_379 hl (by decide) rfl (fun ls hl => ?_)
  refine lv_aload_n hx hb dL_law_381 rfl (lv_at hl 4 rfl) ?_
  refine kc_i (wr := [(x, .inr (6, [.ref t, .ref n, .ref sp, .int 0])), (t, .inr (4, [.ref t_kinds, .int 0, .long 0, .long 0, .ref t_codes, .ref t_targets, .ref t_settings, .ref t_sources, .ref t_accessCounts, .int 0, .ref t_acts, .ref t_actVariables, .ref t_actPlaces])), (o, .inl (cJ, 1, .inr (.inl (fun _ => 0)))), (vl, .inr (0, [.int 0, .ref ae, .int 0]))]) (va_runV (As := []) (rest := []) ⟨hx, hb, hml, hown, hts⟩ (m_thrown l hfl ae D cI cJ cS cO mo vl sl 1 _) (cwV 0 hts (gV q_1017 q_1014 q_1015 q_1016 q_104) rfl rfl rfl (by decide +kernel) ⟨Nat.le_of_ble_eq_true rfl, Nat.le_of_ble_eq_true rfl⟩) ⟨Pw.blind, va_recv hK hP (ci := 12) (q0 := 3) rfl rfl, Pw.mk_call hP hK hD hS hA hG [3] rfl (by decide)⟩ rfl rfl hl.1 rfl (lv_room (Nat.le_of_ble_eq_true rfl)) dL_law_382 ⟨Nat.le_of_ble_eq_true rfl, Nat.le_of_ble_eq_true rfl⟩) hP hD hS hA [3] [0, 1, 2, 4] rfl rfl (by decide) (by decide) (fun r_17 u_18 H locs hw hP hD hS => ?_)
  obtain rfl : r_17 = 1 := hw
  have hP : va_P D vwCl [(x, .inr (6, [.ref t, .ref n, .ref sp, .int 0])), (t, .inr (4, [.ref t_kinds, .int 0, .long 0, .long 0, .ref t_codes, .ref t_targets, .ref t_settings, .ref t_sources, .ref t_accessCounts, .int 0, .ref t_acts, .ref t_actVariables, .ref t_actPlaces])), (o, .inl (cJ, 1, .inr (.inl (fun _ => 0)))), (vl, .inr (0, [.int 0, .ref ae, .int 0])), (mo, .inr (12, [.int 1, .ref vl, .ref sl]))] H := hP
  have hD : va_D A [(x, .inr (6, [.ref t, .ref n, .ref sp, .int 0])), (t, .inr (4, [.ref t_kinds, .int 0, .long 0, .long 0, .ref t_codes, .ref t_targets, .ref t_settings, .ref t_sources, .ref t_accessCounts, .int 0, .ref t_acts, .ref t_actVariables, .ref t_actPlaces])), (o, .inl (cJ, 1, .inr (.inl (fun _ => 0)))), (vl, .inr (0, [.int 0, .ref ae, .int 0])), (mo, .inr (12, [.int 1, .ref vl, .ref sl]))] := hD
  refine lv_iload hx hb dL_law_385 (lv_at hl 1 rfl) ?_
  refine lv_icmp_eq (tgt := 392) hx hb dL_law_387 (by decide) (fun c_387 => ?_) (fun c_387 => absurd (by decide) c_387)
  refine lv_iload hx hb dL_law_392 (lv_at hl 1 rfl) ?_
  refine lv_if_ne (tgt := 409) hx hb dL_law_394 (by decide) (fun c_394 => ?_) (fun c_394 => absurd c_394 (by decide))
  refine lv_goto (tgt := 1950) hx hb dL_law_409 (by decide) ?_
  refine lv_iinc (v := 5) (lv' := [(4, .int 5), (6, .int 0), (5, .int 1), (0, .ref b), (1, .ref x), (2, .ref mo), (3, .ref o)]) hx hb dL_law_1950 hl (k := 6) rfl (by decide) (by decide) rfl (fun ls hl => ?_)
  refine lv_goto (tgt := 23) hx hb dL_law_1953 (by decide) ?_
  refine lv_iload hx hb dL_law_23 (lv_at hl 0 rfl) ?_
  refine lv_aload_n hx hb dL_law_25 rfl (lv_at hl 3 rfl) ?_
  refine va_slen hx hb hX hbl hbA hS dL_law_26 ?_
  refine lv_topi (fun y_19 ey_19 => ?_)
  obtain rfl : y_19 = 5 := ey_19.trans (by decide)
  refine lv_iconst (v := 5) hx hb dL_law_27 (by decide) ?_
  refine lv_isub hx hb dL_law_28 ?_
  refine lv_topi (fun x_20 ex_20 => ?_)
  obtain rfl : x_20 = 0 := ex_20.trans (by decide)
  refine lv_icmp_gt (tgt := 1956) hx hb dL_law_29 (by decide) (fun c_29 => ?_) (fun c_29 => absurd (by decide) c_29)
  refine lv_iconst (v := 1) hx hb dL_law_1956 (by decide) ?_
  refine va_forget (fun q hq => by have h9 := hS.2.2 q hq; rw [← hAe] at h9; exact h9) ?_
  refine W.widen (k := 600002) (n := 7302232) (Nat.le_of_ble_eq_true rfl) (Nat.le_of_ble_eq_true rfl) ?_
  refine W.base ?_
  exact lw_ret (Drawn.sameBut.refl s.drawn lw_cs) hx hb hr hlocks dL_law_1957

set_option maxHeartbeats 4000000 in
set_option maxRecDepth 100000 in
theorem lc_3 {p : Program} {l : Launch} {e : Env} {s : State} {m : MethodId} {below : List Frame} {meth : Method} {c : Code} {b : Nat} {xs : Nat → Int32} (hfl : l.stackTraces = false) {ae : Nat} {D : va_G} {cI cJ cS cO : ClassId} (C0 : lw_At p s m meth c b 5 xs) (hK : va_K D vwCl [(cI, .int), (cJ, .long), (cS, .object "IronwoodModel$State"), (cO, .object "java/lang/Object")] s) (hG : Gl ae (fun q : Nat => s.heap.size ≤ q) s s.heap) (x : Nat) (t : Nat) (n : Nat) (sp : Nat) (t_kinds : Nat) (t_codes : Nat) (t_targets : Nat) (t_settings : Nat) (t_sources : Nat) (t_accessCounts : Nat) (t_acts : Nat) (t_actVariables : Nat) (t_actPlaces : Nat) (mo : Nat) (vl : Nat) (sl : Nat) (o : Nat) (x1 : Int32) (e1 : xs (Int32.toNatClampNeg 1) = x1) (x2 : Int32) (e2 : xs (Int32.toNatClampNeg 2) = x2) (x3 : Int32) (e3 : xs (Int32.toNatClampNeg 3) = x3) (x4 : Int32) (e4 : xs (Int32.toNatClampNeg 4) = x4)  (H : Heap) (locs : List Loc) (hP : va_P D vwCl [(x, .inr (6, [.ref t, .ref n, .ref sp, .int 0])), (t, .inr (4, [.ref t_kinds, .int 0, .long 0, .long 0, .ref t_codes, .ref t_targets, .ref t_settings, .ref t_sources, .ref t_accessCounts, .int 0, .ref t_acts, .ref t_actVariables, .ref t_actPlaces])), (mo, .inr (12, [.int 0, .ref vl, .ref sl])), (vl, .inr (0, [.int 0, .ref ae, .int 0])), (o, .inl (cJ, 1, .inr (.inl (fun _ => 0))))] H) (hD : va_D (fun q : Nat => s.heap.size ≤ q) [(x, .inr (6, [.ref t, .ref n, .ref sp, .int 0])), (t, .inr (4, [.ref t_kinds, .int 0, .long 0, .long 0, .ref t_codes, .ref t_targets, .ref t_settings, .ref t_sources, .ref t_accessCounts, .int 0, .ref t_acts, .ref t_actVariables, .ref t_actPlaces])), (mo, .inr (12, [.int 0, .ref vl, .ref sl])), (vl, .inr (0, [.int 0, .ref ae, .int 0])), (o, .inl (cJ, 1, .inr (.inl (fun _ => 0))))]) (hS : va_S (fun q : Nat => s.heap.size ≤ q) s.heap H locs) (ls : Array Slot) (hl : lv_has ls 9 [(0, .ref b), (1, .ref x), (2, .ref mo), (3, .ref o), (4, .int 0)]) : W p l e room_1 s m #[Value.ref b] below meth c H locs 61 3597 (lw_Z below #[Value.ref b] s) (F0 m 412 ls []) := by
  obtain ⟨hx, hb, hr, hml, hown, hts0, hX, hbl, hlocks, hgv⟩ := id C0
  have hts := law_hts hts0
  have hA : ∀ q : Nat, s.heap.size ≤ q → (fun q : Nat => s.heap.size ≤ q) q := fun _ h => h
  have hbA : ¬ (fun q : Nat => s.heap.size ≤ q) b := Nat.not_le.mpr hbl
  generalize hAe : (fun q : Nat => s.heap.size ≤ q) = A at hD hG hS hA hbA
  refine lv_aload_n hx hb dL_law_412 rfl (lv_at hl 1 rfl) ?_
  refine lv_aload_n hx hb dL_law_413 rfl (lv_at hl 0 rfl) ?_
  refine lv_iload hx hb dL_law_414 (lv_at hl 4 rfl) ?_
  refine lv_iconst (v := 1) hx hb dL_law_416 (by decide) ?_
  refine lv_iadd hx hb dL_law_417 ?_
  refine lv_topi (fun x_1 ex_1 => ?_)
  obtain rfl : x_1 = 1 := ex_1.trans (by decide)
  refine va_sld hx hb hX hbl hbA hS (vp_in_iff.mpr (by decide)) dL_law_418 ?_
  refine lv_topi (fun y_2 ey_2 => ?_)
  rw [show y_2 = x1 from ey_2.trans e1]
  refine lv_aload_n hx hb dL_law_419 rfl (lv_at hl 0 rfl) ?_
  refine lv_iload hx hb dL_law_420 (lv_at hl 4 rfl) ?_
  refine lv_iconst (v := 2) hx hb dL_law_422 (by decide) ?_
  refine lv_iadd hx hb dL_law_423 ?_
  refine lv_topi (fun x_3 ex_3 => ?_)
  obtain rfl : x_3 = 2 := ex_3.trans (by decide)
  refine va_sld hx hb hX hbl hbA hS (vp_in_iff.mpr (by decide)) dL_law_424 ?_
  refine lv_topi (fun y_4 ey_4 => ?_)
  rw [show y_4 = x2 from ey_4.trans e2]
  refine lv_aload_n hx hb dL_law_425 rfl (lv_at hl 0 rfl) ?_
  refine lv_iload hx hb dL_law_426 (lv_at hl 4 rfl) ?_
  refine lv_iconst (v := 3) hx hb dL_law_428 (by decide) ?_
  refine lv_iadd hx hb dL_law_429 ?_
  refine lv_topi (fun x_5 ex_5 => ?_)
  obtain rfl : x_5 = 3 := ex_5.trans (by decide)
  refine va_sld hx hb hX hbl hbA hS (vp_in_iff.mpr (by decide)) dL_law_430 ?_
  refine lv_topi (fun y_6 ey_6 => ?_)
  rw [show y_6 = x3 from ey_6.trans e3]
  refine lv_aload_n hx hb dL_law_431 rfl (lv_at hl 3 rfl) ?_
  refine kc_i (wr := [(mo, .inr (12, [.int 0, .ref vl, .ref sl])), (vl, .inr (0, [.int 0, .ref ae, .int 0]))]) (vx_runSW (As := [.ref x, .int x1, .int x2, .int x3, .ref o]) (rest := []) ⟨hx, hb, hml, hown, hts⟩ (w_lend_x l hfl ae D cI cJ cS cO x t n sp 0 t_kinds 0 0 t_codes t_targets t_settings t_sources t_accessCounts 0 t_acts t_actVariables t_actPlaces x1 x2 x3 o (fun _ => 0) _) (vx_cwSW 5 hts (gT q_788 q_786 q_787 q_97) rfl rfl rfl (by decide +kernel) ⟨Nat.le_of_ble_eq_true rfl, Nat.le_of_ble_eq_true rfl⟩) ⟨Pw.blind, Pw.mk_call hP hK hD hS hA hG [0, 1, 4] rfl (by decide)⟩ rfl rfl hl.1 rfl (lv_room (Nat.le_of_ble_eq_true rfl)) dL_law_432 ⟨Nat.le_of_ble_eq_true rfl, Nat.le_of_ble_eq_true rfl⟩) hP hD hS hA [0, 1, 4] [2, 3] rfl rfl (by decide) (by decide) (fun r_7 u_8 H locs hw hP hD hS => ?_)
  obtain rfl : r_7 = 1 := hw
  have hP : va_P D vwCl [(mo, .inr (12, [.int 0, .ref vl, .ref sl])), (vl, .inr (0, [.int 0, .ref ae, .int 0])), (x, .inr (6, [.ref t, .ref n, .ref sp, .int 0])), (t, .inr (4, [.ref t_kinds, .int 0, .long 0, .long 0, .ref t_codes, .ref t_targets, .ref t_settings, .ref t_sources, .ref t_accessCounts, .int 0, .ref t_acts, .ref t_actVariables, .ref t_actPlaces])), (o, .inl (cJ, 1, .inr (.inl (fun _ => 0))))] H := hP
  have hD : va_D A [(mo, .inr (12, [.int 0, .ref vl, .ref sl])), (vl, .inr (0, [.int 0, .ref ae, .int 0])), (x, .inr (6, [.ref t, .ref n, .ref sp, .int 0])), (t, .inr (4, [.ref t_kinds, .int 0, .long 0, .long 0, .ref t_codes, .ref t_targets, .ref t_settings, .ref t_sources, .ref t_accessCounts, .int 0, .ref t_acts, .ref t_actVariables, .ref t_actPlaces])), (o, .inl (cJ, 1, .inr (.inl (fun _ => 0))))] := hD
  refine lv_istore (lv' := [(5, .int 1), (0, .ref b), (1, .ref x), (2, .ref mo), (3, .ref o), (4, .int 0)]) hx hb dL_law_435 hl (by decide) rfl (fun ls hl => ?_)
  refine lv_aload_n hx hb dL_law_437 rfl (lv_at hl 3 rfl) ?_
  refine lv_aload_n hx hb dL_law_438 rfl (lv_at hl 1 rfl) ?_
  refine lv_iload hx hb dL_law_439 (lv_at hl 5 rfl) ?_
  refine lv_iconst (v := 1) hx hb dL_law_441 (by decide) ?_
  refine lv_iadd hx hb dL_law_442 ?_
  refine lv_topi (fun x_9 ex_9 => ?_)
  obtain rfl : x_9 = 1 := ex_9.trans (by decide)
  refine va_sld hx hb hX hbl hbA hS (vp_in_iff.mpr (by decide)) dL_law_443 ?_
  refine lv_topi (fun y_10 ey_10 => ?_)
  rw [show y_10 = x1 from ey_10.trans e1]
  refine lv_aload_n hx hb dL_law_444 rfl (lv_at hl 1 rfl) ?_
  refine lv_iload hx hb dL_law_445 (lv_at hl 5 rfl) ?_
  refine lv_iconst (v := 2) hx hb dL_law_447 (by decide) ?_
  refine lv_iadd hx hb dL_law_448 ?_
  refine lv_topi (fun x_11 ex_11 => ?_)
  obtain rfl : x_11 = 2 := ex_11.trans (by decide)
  refine va_sld hx hb hX hbl hbA hS (vp_in_iff.mpr (by decide)) dL_law_449 ?_
  refine lv_topi (fun y_12 ey_12 => ?_)
  rw [show y_12 = x2 from ey_12.trans e2]
  refine lv_aload_n hx hb dL_law_450 rfl (lv_at hl 1 rfl) ?_
  refine lv_iload hx hb dL_law_451 (lv_at hl 5 rfl) ?_
  refine lv_iconst (v := 3) hx hb dL_law_453 (by decide) ?_
  refine lv_iadd hx hb dL_law_454 ?_
  refine lv_topi (fun x_13 ex_13 => ?_)
  obtain rfl : x_13 = 3 := ex_13.trans (by decide)
  refine va_sld hx hb hX hbl hbA hS (vp_in_iff.mpr (by decide)) dL_law_455 ?_
  refine lv_topi (fun y_14 ey_14 => ?_)
  rw [show y_14 = x3 from ey_14.trans e3]
  refine kc_i (wr := [(x, .inr (6, [.ref t, .ref n, .ref sp, .int 0])), (t, .inr (4, [.ref t_kinds, .int 0, .long 0, .long 0, .ref t_codes, .ref t_targets, .ref t_settings, .ref t_sources, .ref t_accessCounts, .int 0, .ref t_acts, .ref t_actVariables, .ref t_actPlaces])), (o, .inl (cJ, 1, .inr (.inl (fun _ => 0))))]) (va_runV (As := [.int x1, .int x2, .int x3]) (rest := []) ⟨hx, hb, hml, hown, hts⟩ (m_lend_x l hfl ae D cI cJ cS cO mo vl sl x1 x2 x3 _) (cwV 3 hts (gV q_1192 q_1189 q_1190 q_1191 q_104) rfl rfl rfl (by decide +kernel) ⟨Nat.le_of_ble_eq_true rfl, Nat.le_of_ble_eq_true rfl⟩) ⟨Pw.blind, va_recv hK hP (ci := 12) (q0 := 0) rfl rfl, Pw.mk_call hP hK hD hS hA hG [0, 1] rfl (by decide)⟩ rfl rfl hl.1 rfl (lv_room (Nat.le_of_ble_eq_true rfl)) dL_law_456 ⟨Nat.le_of_ble_eq_true rfl, Nat.le_of_ble_eq_true rfl⟩) hP hD hS hA [0, 1] [2, 3, 4] rfl rfl (by decide) (by decide) (fun r_15 u_16 H locs hw hP hD hS => ?_)
  obtain rfl : r_15 = 0 := hw
  have hP : va_P D vwCl [(x, .inr (6, [.ref t, .ref n, .ref sp, .int 0])), (t, .inr (4, [.ref t_kinds, .int 0, .long 0, .long 0, .ref t_codes, .ref t_targets, .ref t_settings, .ref t_sources, .ref t_accessCounts, .int 0, .ref t_acts, .ref t_actVariables, .ref t_actPlaces])), (o, .inl (cJ, 1, .inr (.inl (fun _ => 0)))), (mo, .inr (12, [.int 1, .ref vl, .ref sl])), (vl, .inr (0, [.int 0, .ref ae, .int 0]))] H := hP
  have hD : va_D A [(x, .inr (6, [.ref t, .ref n, .ref sp, .int 0])), (t, .inr (4, [.ref t_kinds, .int 0, .long 0, .long 0, .ref t_codes, .ref t_targets, .ref t_settings, .ref t_sources, .ref t_accessCounts, .int 0, .ref t_acts, .ref t_actVariables, .ref t_actPlaces])), (o, .inl (cJ, 1, .inr (.inl (fun _ => 0)))), (mo, .inr (12, [.int 1, .ref vl, .ref sl])), (vl, .inr (0, [.int 0, .ref ae, .int 0]))] := hD
  refine lv_istore (lv' := [(6, .int 0), (5, .int 1), (0, .ref b), (1, .ref x), (2, .ref mo), (3, .ref o), (4, .int 0)]) hx hb dL_law_459 hl (by decide) rfl (fun ls hl => ?_)
  refine lv_aload_n hx hb dL_law_461 rfl (lv_at hl 4 rfl) ?_
  refine kc_i (wr := [(x, .inr (6, [.ref t, .ref n, .ref sp, .int 0])), (t, .inr (4, [.ref t_kinds, .int 0, .long 0, .long 0, .ref t_codes, .ref t_targets, .ref t_settings, .ref t_sources, .ref t_accessCounts, .int 0, .ref t_acts, .ref t_actVariables, .ref t_actPlaces])), (o, .inl (cJ, 1, .inr (.inl (fun _ => 0)))), (vl, .inr (0, [.int 0, .ref ae, .int 0]))]) (va_runV (As := []) (rest := []) ⟨hx, hb, hml, hown, hts⟩ (m_thrown l hfl ae D cI cJ cS cO mo vl sl 1 _) (cwV 0 hts (gV q_1017 q_1014 q_1015 q_1016 q_104) rfl rfl rfl (by decide +kernel) ⟨Nat.le_of_ble_eq_true rfl, Nat.le_of_ble_eq_true rfl⟩) ⟨Pw.blind, va_recv hK hP (ci := 12) (q0 := 3) rfl rfl, Pw.mk_call hP hK hD hS hA hG [3] rfl (by decide)⟩ rfl rfl hl.1 rfl (lv_room (Nat.le_of_ble_eq_true rfl)) dL_law_462 ⟨Nat.le_of_ble_eq_true rfl, Nat.le_of_ble_eq_true rfl⟩) hP hD hS hA [3] [0, 1, 2, 4] rfl rfl (by decide) (by decide) (fun r_17 u_18 H locs hw hP hD hS => ?_)
  obtain rfl : r_17 = 1 := hw
  have hP : va_P D vwCl [(x, .inr (6, [.ref t, .ref n, .ref sp, .int 0])), (t, .inr (4, [.ref t_kinds, .int 0, .long 0, .long 0, .ref t_codes, .ref t_targets, .ref t_settings, .ref t_sources, .ref t_accessCounts, .int 0, .ref t_acts, .ref t_actVariables, .ref t_actPlaces])), (o, .inl (cJ, 1, .inr (.inl (fun _ => 0)))), (vl, .inr (0, [.int 0, .ref ae, .int 0])), (mo, .inr (12, [.int 1, .ref vl, .ref sl]))] H := hP
  have hD : va_D A [(x, .inr (6, [.ref t, .ref n, .ref sp, .int 0])), (t, .inr (4, [.ref t_kinds, .int 0, .long 0, .long 0, .ref t_codes, .ref t_targets, .ref t_settings, .ref t_sources, .ref t_accessCounts, .int 0, .ref t_acts, .ref t_actVariables, .ref t_actPlaces])), (o, .inl (cJ, 1, .inr (.inl (fun _ => 0)))), (vl, .inr (0, [.int 0, .ref ae, .int 0])), (mo, .inr (12, [.int 1, .ref vl, .ref sl]))] := hD
  refine lv_iload hx hb dL_law_465 (lv_at hl 1 rfl) ?_
  refine lv_icmp_eq (tgt := 472) hx hb dL_law_467 (by decide) (fun c_467 => ?_) (fun c_467 => absurd (by decide) c_467)
  refine lv_iload hx hb dL_law_472 (lv_at hl 1 rfl) ?_
  refine lv_if_ne (tgt := 489) hx hb dL_law_474 (by decide) (fun c_474 => ?_) (fun c_474 => absurd c_474 (by decide))
  refine lv_goto (tgt := 1950) hx hb dL_law_489 (by decide) ?_
  refine lv_iinc (v := 5) (lv' := [(4, .int 5), (6, .int 0), (5, .int 1), (0, .ref b), (1, .ref x), (2, .ref mo), (3, .ref o)]) hx hb dL_law_1950 hl (k := 6) rfl (by decide) (by decide) rfl (fun ls hl => ?_)
  refine lv_goto (tgt := 23) hx hb dL_law_1953 (by decide) ?_
  refine lv_iload hx hb dL_law_23 (lv_at hl 0 rfl) ?_
  refine lv_aload_n hx hb dL_law_25 rfl (lv_at hl 3 rfl) ?_
  refine va_slen hx hb hX hbl hbA hS dL_law_26 ?_
  refine lv_topi (fun y_19 ey_19 => ?_)
  obtain rfl : y_19 = 5 := ey_19.trans (by decide)
  refine lv_iconst (v := 5) hx hb dL_law_27 (by decide) ?_
  refine lv_isub hx hb dL_law_28 ?_
  refine lv_topi (fun x_20 ex_20 => ?_)
  obtain rfl : x_20 = 0 := ex_20.trans (by decide)
  refine lv_icmp_gt (tgt := 1956) hx hb dL_law_29 (by decide) (fun c_29 => ?_) (fun c_29 => absurd (by decide) c_29)
  refine lv_iconst (v := 1) hx hb dL_law_1956 (by decide) ?_
  refine va_forget (fun q hq => by have h9 := hS.2.2 q hq; rw [← hAe] at h9; exact h9) ?_
  refine W.widen (k := 600002) (n := 7302232) (Nat.le_of_ble_eq_true rfl) (Nat.le_of_ble_eq_true rfl) ?_
  refine W.base ?_
  exact lw_ret (Drawn.sameBut.refl s.drawn lw_cs) hx hb hr hlocks dL_law_1957

set_option maxHeartbeats 4000000 in
set_option maxRecDepth 100000 in
theorem lc_4 {p : Program} {l : Launch} {e : Env} {s : State} {m : MethodId} {below : List Frame} {meth : Method} {c : Code} {b : Nat} {xs : Nat → Int32} (hfl : l.stackTraces = false) {ae : Nat} {D : va_G} {cI cJ cS cO : ClassId} (C0 : lw_At p s m meth c b 5 xs) (hK : va_K D vwCl [(cI, .int), (cJ, .long), (cS, .object "IronwoodModel$State"), (cO, .object "java/lang/Object")] s) (hG : Gl ae (fun q : Nat => s.heap.size ≤ q) s s.heap) (x : Nat) (t : Nat) (n : Nat) (sp : Nat) (t_kinds : Nat) (t_codes : Nat) (t_targets : Nat) (t_settings : Nat) (t_sources : Nat) (t_accessCounts : Nat) (t_acts : Nat) (t_actVariables : Nat) (t_actPlaces : Nat) (mo : Nat) (vl : Nat) (sl : Nat) (o : Nat) (x1 : Int32) (e1 : xs (Int32.toNatClampNeg 1) = x1) (x2 : Int32) (e2 : xs (Int32.toNatClampNeg 2) = x2) (x3 : Int32) (e3 : xs (Int32.toNatClampNeg 3) = x3) (x4 : Int32) (e4 : xs (Int32.toNatClampNeg 4) = x4)  (H : Heap) (locs : List Loc) (hP : va_P D vwCl [(x, .inr (6, [.ref t, .ref n, .ref sp, .int 0])), (t, .inr (4, [.ref t_kinds, .int 0, .long 0, .long 0, .ref t_codes, .ref t_targets, .ref t_settings, .ref t_sources, .ref t_accessCounts, .int 0, .ref t_acts, .ref t_actVariables, .ref t_actPlaces])), (mo, .inr (12, [.int 0, .ref vl, .ref sl])), (vl, .inr (0, [.int 0, .ref ae, .int 0])), (o, .inl (cJ, 1, .inr (.inl (fun _ => 0))))] H) (hD : va_D (fun q : Nat => s.heap.size ≤ q) [(x, .inr (6, [.ref t, .ref n, .ref sp, .int 0])), (t, .inr (4, [.ref t_kinds, .int 0, .long 0, .long 0, .ref t_codes, .ref t_targets, .ref t_settings, .ref t_sources, .ref t_accessCounts, .int 0, .ref t_acts, .ref t_actVariables, .ref t_actPlaces])), (mo, .inr (12, [.int 0, .ref vl, .ref sl])), (vl, .inr (0, [.int 0, .ref ae, .int 0])), (o, .inl (cJ, 1, .inr (.inl (fun _ => 0))))]) (hS : va_S (fun q : Nat => s.heap.size ≤ q) s.heap H locs) (ls : Array Slot) (hl : lv_has ls 9 [(0, .ref b), (1, .ref x), (2, .ref mo), (3, .ref o), (4, .int 0)]) : W p l e room_1 s m #[Value.ref b] below meth c H locs 61 3597 (lw_Z below #[Value.ref b] s) (F0 m 492 ls []) := by
  obtain ⟨hx, hb, hr, hml, hown, hts0, hX, hbl, hlocks, hgv⟩ := id C0
  have hts := law_hts hts0
  have hA : ∀ q : Nat, s.heap.size ≤ q → (fun q : Nat => s.heap.size ≤ q) q := fun _ h => h
  have hbA : ¬ (fun q : Nat => s.heap.size ≤ q) b := Nat.not_le.mpr hbl
  generalize hAe : (fun q : Nat => s.heap.size ≤ q) = A at hD hG hS hA hbA
  refine lv_aload_n hx hb dL_law_492 rfl (lv_at hl 1 rfl) ?_
  refine lv_aload_n hx hb dL_law_493 rfl (lv_at hl 0 rfl) ?_
  refine lv_iload hx hb dL_law_494 (lv_at hl 4 rfl) ?_
  refine lv_iconst (v := 1) hx hb dL_law_496 (by decide) ?_
  refine lv_iadd hx hb dL_law_497 ?_
  refine lv_topi (fun x_1 ex_1 => ?_)
  obtain rfl : x_1 = 1 := ex_1.trans (by decide)
  refine va_sld hx hb hX hbl hbA hS (vp_in_iff.mpr (by decide)) dL_law_498 ?_
  refine lv_topi (fun y_2 ey_2 => ?_)
  rw [show y_2 = x1 from ey_2.trans e1]
  refine lv_aload_n hx hb dL_law_499 rfl (lv_at hl 0 rfl) ?_
  refine lv_iload hx hb dL_law_500 (lv_at hl 4 rfl) ?_
  refine lv_iconst (v := 2) hx hb dL_law_502 (by decide) ?_
  refine lv_iadd hx hb dL_law_503 ?_
  refine lv_topi (fun x_3 ex_3 => ?_)
  obtain rfl : x_3 = 2 := ex_3.trans (by decide)
  refine va_sld hx hb hX hbl hbA hS (vp_in_iff.mpr (by decide)) dL_law_504 ?_
  refine lv_topi (fun y_4 ey_4 => ?_)
  rw [show y_4 = x2 from ey_4.trans e2]
  refine lv_aload_n hx hb dL_law_505 rfl (lv_at hl 3 rfl) ?_
  refine kc_i (wr := [(mo, .inr (12, [.int 0, .ref vl, .ref sl])), (vl, .inr (0, [.int 0, .ref ae, .int 0]))]) (vx_runSW (As := [.ref x, .int x1, .int x2, .ref o]) (rest := []) ⟨hx, hb, hml, hown, hts⟩ (w_relend_x l hfl ae D cI cJ cS cO x t n sp 0 t_kinds 0 0 t_codes t_targets t_settings t_sources t_accessCounts 0 t_acts t_actVariables t_actPlaces x1 x2 o (fun _ => 0) _) (vx_cwSW 4 hts (gT q_800 q_798 q_799 q_97) rfl rfl rfl (by decide +kernel) ⟨Nat.le_of_ble_eq_true rfl, Nat.le_of_ble_eq_true rfl⟩) ⟨Pw.blind, Pw.mk_call hP hK hD hS hA hG [0, 1, 4] rfl (by decide)⟩ rfl rfl hl.1 rfl (lv_room (Nat.le_of_ble_eq_true rfl)) dL_law_506 ⟨Nat.le_of_ble_eq_true rfl, Nat.le_of_ble_eq_true rfl⟩) hP hD hS hA [0, 1, 4] [2, 3] rfl rfl (by decide) (by decide) (fun r_5 u_6 H locs hw hP hD hS => ?_)
  obtain rfl : r_5 = 1 := hw
  have hP : va_P D vwCl [(mo, .inr (12, [.int 0, .ref vl, .ref sl])), (vl, .inr (0, [.int 0, .ref ae, .int 0])), (x, .inr (6, [.ref t, .ref n, .ref sp, .int 0])), (t, .inr (4, [.ref t_kinds, .int 0, .long 0, .long 0, .ref t_codes, .ref t_targets, .ref t_settings, .ref t_sources, .ref t_accessCounts, .int 0, .ref t_acts, .ref t_actVariables, .ref t_actPlaces])), (o, .inl (cJ, 1, .inr (.inl (fun _ => 0))))] H := hP
  have hD : va_D A [(mo, .inr (12, [.int 0, .ref vl, .ref sl])), (vl, .inr (0, [.int 0, .ref ae, .int 0])), (x, .inr (6, [.ref t, .ref n, .ref sp, .int 0])), (t, .inr (4, [.ref t_kinds, .int 0, .long 0, .long 0, .ref t_codes, .ref t_targets, .ref t_settings, .ref t_sources, .ref t_accessCounts, .int 0, .ref t_acts, .ref t_actVariables, .ref t_actPlaces])), (o, .inl (cJ, 1, .inr (.inl (fun _ => 0))))] := hD
  refine lv_istore (lv' := [(5, .int 1), (0, .ref b), (1, .ref x), (2, .ref mo), (3, .ref o), (4, .int 0)]) hx hb dL_law_509 hl (by decide) rfl (fun ls hl => ?_)
  refine lv_aload_n hx hb dL_law_511 rfl (lv_at hl 3 rfl) ?_
  refine lv_aload_n hx hb dL_law_512 rfl (lv_at hl 1 rfl) ?_
  refine lv_iload hx hb dL_law_513 (lv_at hl 5 rfl) ?_
  refine lv_iconst (v := 1) hx hb dL_law_515 (by decide) ?_
  refine lv_iadd hx hb dL_law_516 ?_
  refine lv_topi (fun x_7 ex_7 => ?_)
  obtain rfl : x_7 = 1 := ex_7.trans (by decide)
  refine va_sld hx hb hX hbl hbA hS (vp_in_iff.mpr (by decide)) dL_law_517 ?_
  refine lv_topi (fun y_8 ey_8 => ?_)
  rw [show y_8 = x1 from ey_8.trans e1]
  refine lv_aload_n hx hb dL_law_518 rfl (lv_at hl 1 rfl) ?_
  refine lv_iload hx hb dL_law_519 (lv_at hl 5 rfl) ?_
  refine lv_iconst (v := 2) hx hb dL_law_521 (by decide) ?_
  refine lv_iadd hx hb dL_law_522 ?_
  refine lv_topi (fun x_9 ex_9 => ?_)
  obtain rfl : x_9 = 2 := ex_9.trans (by decide)
  refine va_sld hx hb hX hbl hbA hS (vp_in_iff.mpr (by decide)) dL_law_523 ?_
  refine lv_topi (fun y_10 ey_10 => ?_)
  rw [show y_10 = x2 from ey_10.trans e2]
  refine kc_i (wr := [(x, .inr (6, [.ref t, .ref n, .ref sp, .int 0])), (t, .inr (4, [.ref t_kinds, .int 0, .long 0, .long 0, .ref t_codes, .ref t_targets, .ref t_settings, .ref t_sources, .ref t_accessCounts, .int 0, .ref t_acts, .ref t_actVariables, .ref t_actPlaces])), (o, .inl (cJ, 1, .inr (.inl (fun _ => 0))))]) (va_runV (As := [.int x1, .int x2]) (rest := []) ⟨hx, hb, hml, hown, hts⟩ (m_relend_x l hfl ae D cI cJ cS cO mo vl sl x1 x2 _) (cwV 2 hts (gV q_1196 q_1193 q_1194 q_1195 q_104) rfl rfl rfl (by decide +kernel) ⟨Nat.le_of_ble_eq_true rfl, Nat.le_of_ble_eq_true rfl⟩) ⟨Pw.blind, va_recv hK hP (ci := 12) (q0 := 0) rfl rfl, Pw.mk_call hP hK hD hS hA hG [0, 1] rfl (by decide)⟩ rfl rfl hl.1 rfl (lv_room (Nat.le_of_ble_eq_true rfl)) dL_law_524 ⟨Nat.le_of_ble_eq_true rfl, Nat.le_of_ble_eq_true rfl⟩) hP hD hS hA [0, 1] [2, 3, 4] rfl rfl (by decide) (by decide) (fun r_11 u_12 H locs hw hP hD hS => ?_)
  obtain rfl : r_11 = 0 := hw
  have hP : va_P D vwCl [(x, .inr (6, [.ref t, .ref n, .ref sp, .int 0])), (t, .inr (4, [.ref t_kinds, .int 0, .long 0, .long 0, .ref t_codes, .ref t_targets, .ref t_settings, .ref t_sources, .ref t_accessCounts, .int 0, .ref t_acts, .ref t_actVariables, .ref t_actPlaces])), (o, .inl (cJ, 1, .inr (.inl (fun _ => 0)))), (mo, .inr (12, [.int 1, .ref vl, .ref sl])), (vl, .inr (0, [.int 0, .ref ae, .int 0]))] H := hP
  have hD : va_D A [(x, .inr (6, [.ref t, .ref n, .ref sp, .int 0])), (t, .inr (4, [.ref t_kinds, .int 0, .long 0, .long 0, .ref t_codes, .ref t_targets, .ref t_settings, .ref t_sources, .ref t_accessCounts, .int 0, .ref t_acts, .ref t_actVariables, .ref t_actPlaces])), (o, .inl (cJ, 1, .inr (.inl (fun _ => 0)))), (mo, .inr (12, [.int 1, .ref vl, .ref sl])), (vl, .inr (0, [.int 0, .ref ae, .int 0]))] := hD
  refine lv_istore (lv' := [(6, .int 0), (5, .int 1), (0, .ref b), (1, .ref x), (2, .ref mo), (3, .ref o), (4, .int 0)]) hx hb dL_law_527 hl (by decide) rfl (fun ls hl => ?_)
  refine lv_aload_n hx hb dL_law_529 rfl (lv_at hl 4 rfl) ?_
  refine kc_i (wr := [(x, .inr (6, [.ref t, .ref n, .ref sp, .int 0])), (t, .inr (4, [.ref t_kinds, .int 0, .long 0, .long 0, .ref t_codes, .ref t_targets, .ref t_settings, .ref t_sources, .ref t_accessCounts, .int 0, .ref t_acts, .ref t_actVariables, .ref t_actPlaces])), (o, .inl (cJ, 1, .inr (.inl (fun _ => 0)))), (vl, .inr (0, [.int 0, .ref ae, .int 0]))]) (va_runV (As := []) (rest := []) ⟨hx, hb, hml, hown, hts⟩ (m_thrown l hfl ae D cI cJ cS cO mo vl sl 1 _) (cwV 0 hts (gV q_1017 q_1014 q_1015 q_1016 q_104) rfl rfl rfl (by decide +kernel) ⟨Nat.le_of_ble_eq_true rfl, Nat.le_of_ble_eq_true rfl⟩) ⟨Pw.blind, va_recv hK hP (ci := 12) (q0 := 3) rfl rfl, Pw.mk_call hP hK hD hS hA hG [3] rfl (by decide)⟩ rfl rfl hl.1 rfl (lv_room (Nat.le_of_ble_eq_true rfl)) dL_law_530 ⟨Nat.le_of_ble_eq_true rfl, Nat.le_of_ble_eq_true rfl⟩) hP hD hS hA [3] [0, 1, 2, 4] rfl rfl (by decide) (by decide) (fun r_13 u_14 H locs hw hP hD hS => ?_)
  obtain rfl : r_13 = 1 := hw
  have hP : va_P D vwCl [(x, .inr (6, [.ref t, .ref n, .ref sp, .int 0])), (t, .inr (4, [.ref t_kinds, .int 0, .long 0, .long 0, .ref t_codes, .ref t_targets, .ref t_settings, .ref t_sources, .ref t_accessCounts, .int 0, .ref t_acts, .ref t_actVariables, .ref t_actPlaces])), (o, .inl (cJ, 1, .inr (.inl (fun _ => 0)))), (vl, .inr (0, [.int 0, .ref ae, .int 0])), (mo, .inr (12, [.int 1, .ref vl, .ref sl]))] H := hP
  have hD : va_D A [(x, .inr (6, [.ref t, .ref n, .ref sp, .int 0])), (t, .inr (4, [.ref t_kinds, .int 0, .long 0, .long 0, .ref t_codes, .ref t_targets, .ref t_settings, .ref t_sources, .ref t_accessCounts, .int 0, .ref t_acts, .ref t_actVariables, .ref t_actPlaces])), (o, .inl (cJ, 1, .inr (.inl (fun _ => 0)))), (vl, .inr (0, [.int 0, .ref ae, .int 0])), (mo, .inr (12, [.int 1, .ref vl, .ref sl]))] := hD
  refine lv_iload hx hb dL_law_533 (lv_at hl 1 rfl) ?_
  refine lv_icmp_eq (tgt := 540) hx hb dL_law_535 (by decide) (fun c_535 => ?_) (fun c_535 => absurd (by decide) c_535)
  refine lv_iload hx hb dL_law_540 (lv_at hl 1 rfl) ?_
  refine lv_if_ne (tgt := 557) hx hb dL_law_542 (by decide) (fun c_542 => ?_) (fun c_542 => absurd c_542 (by decide))
  refine lv_goto (tgt := 1950) hx hb dL_law_557 (by decide) ?_
  refine lv_iinc (v := 5) (lv' := [(4, .int 5), (6, .int 0), (5, .int 1), (0, .ref b), (1, .ref x), (2, .ref mo), (3, .ref o)]) hx hb dL_law_1950 hl (k := 6) rfl (by decide) (by decide) rfl (fun ls hl => ?_)
  refine lv_goto (tgt := 23) hx hb dL_law_1953 (by decide) ?_
  refine lv_iload hx hb dL_law_23 (lv_at hl 0 rfl) ?_
  refine lv_aload_n hx hb dL_law_25 rfl (lv_at hl 3 rfl) ?_
  refine va_slen hx hb hX hbl hbA hS dL_law_26 ?_
  refine lv_topi (fun y_15 ey_15 => ?_)
  obtain rfl : y_15 = 5 := ey_15.trans (by decide)
  refine lv_iconst (v := 5) hx hb dL_law_27 (by decide) ?_
  refine lv_isub hx hb dL_law_28 ?_
  refine lv_topi (fun x_16 ex_16 => ?_)
  obtain rfl : x_16 = 0 := ex_16.trans (by decide)
  refine lv_icmp_gt (tgt := 1956) hx hb dL_law_29 (by decide) (fun c_29 => ?_) (fun c_29 => absurd (by decide) c_29)
  refine lv_iconst (v := 1) hx hb dL_law_1956 (by decide) ?_
  refine va_forget (fun q hq => by have h9 := hS.2.2 q hq; rw [← hAe] at h9; exact h9) ?_
  refine W.widen (k := 600002) (n := 7302232) (Nat.le_of_ble_eq_true rfl) (Nat.le_of_ble_eq_true rfl) ?_
  refine W.base ?_
  exact lw_ret (Drawn.sameBut.refl s.drawn lw_cs) hx hb hr hlocks dL_law_1957

set_option maxHeartbeats 4000000 in
set_option maxRecDepth 100000 in
theorem lc_5 {p : Program} {l : Launch} {e : Env} {s : State} {m : MethodId} {below : List Frame} {meth : Method} {c : Code} {b : Nat} {xs : Nat → Int32} (hfl : l.stackTraces = false) {ae : Nat} {D : va_G} {cI cJ cS cO : ClassId} (C0 : lw_At p s m meth c b 5 xs) (hK : va_K D vwCl [(cI, .int), (cJ, .long), (cS, .object "IronwoodModel$State"), (cO, .object "java/lang/Object")] s) (hG : Gl ae (fun q : Nat => s.heap.size ≤ q) s s.heap) (x : Nat) (t : Nat) (n : Nat) (sp : Nat) (t_kinds : Nat) (t_codes : Nat) (t_targets : Nat) (t_settings : Nat) (t_sources : Nat) (t_accessCounts : Nat) (t_acts : Nat) (t_actVariables : Nat) (t_actPlaces : Nat) (mo : Nat) (vl : Nat) (sl : Nat) (o : Nat) (x1 : Int32) (e1 : xs (Int32.toNatClampNeg 1) = x1) (x2 : Int32) (e2 : xs (Int32.toNatClampNeg 2) = x2) (x3 : Int32) (e3 : xs (Int32.toNatClampNeg 3) = x3) (x4 : Int32) (e4 : xs (Int32.toNatClampNeg 4) = x4)  (H : Heap) (locs : List Loc) (hP : va_P D vwCl [(x, .inr (6, [.ref t, .ref n, .ref sp, .int 0])), (t, .inr (4, [.ref t_kinds, .int 0, .long 0, .long 0, .ref t_codes, .ref t_targets, .ref t_settings, .ref t_sources, .ref t_accessCounts, .int 0, .ref t_acts, .ref t_actVariables, .ref t_actPlaces])), (mo, .inr (12, [.int 0, .ref vl, .ref sl])), (vl, .inr (0, [.int 0, .ref ae, .int 0])), (o, .inl (cJ, 1, .inr (.inl (fun _ => 0))))] H) (hD : va_D (fun q : Nat => s.heap.size ≤ q) [(x, .inr (6, [.ref t, .ref n, .ref sp, .int 0])), (t, .inr (4, [.ref t_kinds, .int 0, .long 0, .long 0, .ref t_codes, .ref t_targets, .ref t_settings, .ref t_sources, .ref t_accessCounts, .int 0, .ref t_acts, .ref t_actVariables, .ref t_actPlaces])), (mo, .inr (12, [.int 0, .ref vl, .ref sl])), (vl, .inr (0, [.int 0, .ref ae, .int 0])), (o, .inl (cJ, 1, .inr (.inl (fun _ => 0))))]) (hS : va_S (fun q : Nat => s.heap.size ≤ q) s.heap H locs) (ls : Array Slot) (hl : lv_has ls 9 [(0, .ref b), (1, .ref x), (2, .ref mo), (3, .ref o), (4, .int 0)]) : W p l e room_1 s m #[Value.ref b] below meth c H locs 61 3597 (lw_Z below #[Value.ref b] s) (F0 m 560 ls []) := by
  obtain ⟨hx, hb, hr, hml, hown, hts0, hX, hbl, hlocks, hgv⟩ := id C0
  have hts := law_hts hts0
  have hA : ∀ q : Nat, s.heap.size ≤ q → (fun q : Nat => s.heap.size ≤ q) q := fun _ h => h
  have hbA : ¬ (fun q : Nat => s.heap.size ≤ q) b := Nat.not_le.mpr hbl
  generalize hAe : (fun q : Nat => s.heap.size ≤ q) = A at hD hG hS hA hbA
  refine lv_aload_n hx hb dL_law_560 rfl (lv_at hl 1 rfl) ?_
  refine lv_aload_n hx hb dL_law_561 rfl (lv_at hl 0 rfl) ?_
  refine lv_iload hx hb dL_law_562 (lv_at hl 4 rfl) ?_
  refine lv_iconst (v := 1) hx hb dL_law_564 (by decide) ?_
  refine lv_iadd hx hb dL_law_565 ?_
  refine lv_topi (fun x_1 ex_1 => ?_)
  obtain rfl : x_1 = 1 := ex_1.trans (by decide)
  refine va_sld hx hb hX hbl hbA hS (vp_in_iff.mpr (by decide)) dL_law_566 ?_
  refine lv_topi (fun y_2 ey_2 => ?_)
  rw [show y_2 = x1 from ey_2.trans e1]
  refine lv_aload_n hx hb dL_law_567 rfl (lv_at hl 0 rfl) ?_
  refine lv_iload hx hb dL_law_568 (lv_at hl 4 rfl) ?_
  refine lv_iconst (v := 2) hx hb dL_law_570 (by decide) ?_
  refine lv_iadd hx hb dL_law_571 ?_
  refine lv_topi (fun x_3 ex_3 => ?_)
  obtain rfl : x_3 = 2 := ex_3.trans (by decide)
  refine va_sld hx hb hX hbl hbA hS (vp_in_iff.mpr (by decide)) dL_law_572 ?_
  refine lv_topi (fun y_4 ey_4 => ?_)
  rw [show y_4 = x2 from ey_4.trans e2]
  refine lv_aload_n hx hb dL_law_573 rfl (lv_at hl 3 rfl) ?_
  refine kc_i (wr := [(mo, .inr (12, [.int 0, .ref vl, .ref sl])), (vl, .inr (0, [.int 0, .ref ae, .int 0]))]) (vx_runSW (As := [.ref x, .int x1, .int x2, .ref o]) (rest := []) ⟨hx, hb, hml, hown, hts⟩ (w_read_x l hfl ae D cI cJ cS cO x t n sp 0 t_kinds 0 0 t_codes t_targets t_settings t_sources t_accessCounts 0 t_acts t_actVariables t_actPlaces x1 x2 o (fun _ => 0) _) (vx_cwSW 4 hts (gT q_809 q_807 q_808 q_97) rfl rfl rfl (by decide +kernel) ⟨Nat.le_of_ble_eq_true rfl, Nat.le_of_ble_eq_true rfl⟩) ⟨Pw.blind, Pw.mk_call hP hK hD hS hA hG [0, 1, 4] rfl (by decide)⟩ rfl rfl hl.1 rfl (lv_room (Nat.le_of_ble_eq_true rfl)) dL_law_574 ⟨Nat.le_of_ble_eq_true rfl, Nat.le_of_ble_eq_true rfl⟩) hP hD hS hA [0, 1, 4] [2, 3] rfl rfl (by decide) (by decide) (fun r_5 u_6 H locs hw hP hD hS => ?_)
  obtain rfl : r_5 = 1 := hw
  have hP : va_P D vwCl [(mo, .inr (12, [.int 0, .ref vl, .ref sl])), (vl, .inr (0, [.int 0, .ref ae, .int 0])), (x, .inr (6, [.ref t, .ref n, .ref sp, .int 0])), (t, .inr (4, [.ref t_kinds, .int 0, .long 0, .long 0, .ref t_codes, .ref t_targets, .ref t_settings, .ref t_sources, .ref t_accessCounts, .int 0, .ref t_acts, .ref t_actVariables, .ref t_actPlaces])), (o, .inl (cJ, 1, .inr (.inl (fun _ => 0))))] H := hP
  have hD : va_D A [(mo, .inr (12, [.int 0, .ref vl, .ref sl])), (vl, .inr (0, [.int 0, .ref ae, .int 0])), (x, .inr (6, [.ref t, .ref n, .ref sp, .int 0])), (t, .inr (4, [.ref t_kinds, .int 0, .long 0, .long 0, .ref t_codes, .ref t_targets, .ref t_settings, .ref t_sources, .ref t_accessCounts, .int 0, .ref t_acts, .ref t_actVariables, .ref t_actPlaces])), (o, .inl (cJ, 1, .inr (.inl (fun _ => 0))))] := hD
  refine lv_istore (lv' := [(5, .int 1), (0, .ref b), (1, .ref x), (2, .ref mo), (3, .ref o), (4, .int 0)]) hx hb dL_law_577 hl (by decide) rfl (fun ls hl => ?_)
  refine lv_aload_n hx hb dL_law_579 rfl (lv_at hl 3 rfl) ?_
  refine lv_aload_n hx hb dL_law_580 rfl (lv_at hl 1 rfl) ?_
  refine lv_iload hx hb dL_law_581 (lv_at hl 5 rfl) ?_
  refine lv_iconst (v := 1) hx hb dL_law_583 (by decide) ?_
  refine lv_iadd hx hb dL_law_584 ?_
  refine lv_topi (fun x_7 ex_7 => ?_)
  obtain rfl : x_7 = 1 := ex_7.trans (by decide)
  refine va_sld hx hb hX hbl hbA hS (vp_in_iff.mpr (by decide)) dL_law_585 ?_
  refine lv_topi (fun y_8 ey_8 => ?_)
  rw [show y_8 = x1 from ey_8.trans e1]
  refine lv_aload_n hx hb dL_law_586 rfl (lv_at hl 1 rfl) ?_
  refine lv_iload hx hb dL_law_587 (lv_at hl 5 rfl) ?_
  refine lv_iconst (v := 2) hx hb dL_law_589 (by decide) ?_
  refine lv_iadd hx hb dL_law_590 ?_
  refine lv_topi (fun x_9 ex_9 => ?_)
  obtain rfl : x_9 = 2 := ex_9.trans (by decide)
  refine va_sld hx hb hX hbl hbA hS (vp_in_iff.mpr (by decide)) dL_law_591 ?_
  refine lv_topi (fun y_10 ey_10 => ?_)
  rw [show y_10 = x2 from ey_10.trans e2]
  refine kc_i (wr := [(x, .inr (6, [.ref t, .ref n, .ref sp, .int 0])), (t, .inr (4, [.ref t_kinds, .int 0, .long 0, .long 0, .ref t_codes, .ref t_targets, .ref t_settings, .ref t_sources, .ref t_accessCounts, .int 0, .ref t_acts, .ref t_actVariables, .ref t_actPlaces])), (o, .inl (cJ, 1, .inr (.inl (fun _ => 0))))]) (va_runV (As := [.int x1, .int x2]) (rest := []) ⟨hx, hb, hml, hown, hts⟩ (m_read_x l hfl ae D cI cJ cS cO mo vl sl x1 x2 _) (cwV 2 hts (gV q_1200 q_1197 q_1198 q_1199 q_104) rfl rfl rfl (by decide +kernel) ⟨Nat.le_of_ble_eq_true rfl, Nat.le_of_ble_eq_true rfl⟩) ⟨Pw.blind, va_recv hK hP (ci := 12) (q0 := 0) rfl rfl, Pw.mk_call hP hK hD hS hA hG [0, 1] rfl (by decide)⟩ rfl rfl hl.1 rfl (lv_room (Nat.le_of_ble_eq_true rfl)) dL_law_592 ⟨Nat.le_of_ble_eq_true rfl, Nat.le_of_ble_eq_true rfl⟩) hP hD hS hA [0, 1] [2, 3, 4] rfl rfl (by decide) (by decide) (fun r_11 u_12 H locs hw hP hD hS => ?_)
  obtain rfl : r_11 = 0 := hw
  have hP : va_P D vwCl [(x, .inr (6, [.ref t, .ref n, .ref sp, .int 0])), (t, .inr (4, [.ref t_kinds, .int 0, .long 0, .long 0, .ref t_codes, .ref t_targets, .ref t_settings, .ref t_sources, .ref t_accessCounts, .int 0, .ref t_acts, .ref t_actVariables, .ref t_actPlaces])), (o, .inl (cJ, 1, .inr (.inl (fun _ => 0)))), (mo, .inr (12, [.int 1, .ref vl, .ref sl])), (vl, .inr (0, [.int 0, .ref ae, .int 0]))] H := hP
  have hD : va_D A [(x, .inr (6, [.ref t, .ref n, .ref sp, .int 0])), (t, .inr (4, [.ref t_kinds, .int 0, .long 0, .long 0, .ref t_codes, .ref t_targets, .ref t_settings, .ref t_sources, .ref t_accessCounts, .int 0, .ref t_acts, .ref t_actVariables, .ref t_actPlaces])), (o, .inl (cJ, 1, .inr (.inl (fun _ => 0)))), (mo, .inr (12, [.int 1, .ref vl, .ref sl])), (vl, .inr (0, [.int 0, .ref ae, .int 0]))] := hD
  refine lv_istore (lv' := [(6, .int 0), (5, .int 1), (0, .ref b), (1, .ref x), (2, .ref mo), (3, .ref o), (4, .int 0)]) hx hb dL_law_595 hl (by decide) rfl (fun ls hl => ?_)
  refine lv_aload_n hx hb dL_law_597 rfl (lv_at hl 4 rfl) ?_
  refine kc_i (wr := [(x, .inr (6, [.ref t, .ref n, .ref sp, .int 0])), (t, .inr (4, [.ref t_kinds, .int 0, .long 0, .long 0, .ref t_codes, .ref t_targets, .ref t_settings, .ref t_sources, .ref t_accessCounts, .int 0, .ref t_acts, .ref t_actVariables, .ref t_actPlaces])), (o, .inl (cJ, 1, .inr (.inl (fun _ => 0)))), (vl, .inr (0, [.int 0, .ref ae, .int 0]))]) (va_runV (As := []) (rest := []) ⟨hx, hb, hml, hown, hts⟩ (m_thrown l hfl ae D cI cJ cS cO mo vl sl 1 _) (cwV 0 hts (gV q_1017 q_1014 q_1015 q_1016 q_104) rfl rfl rfl (by decide +kernel) ⟨Nat.le_of_ble_eq_true rfl, Nat.le_of_ble_eq_true rfl⟩) ⟨Pw.blind, va_recv hK hP (ci := 12) (q0 := 3) rfl rfl, Pw.mk_call hP hK hD hS hA hG [3] rfl (by decide)⟩ rfl rfl hl.1 rfl (lv_room (Nat.le_of_ble_eq_true rfl)) dL_law_598 ⟨Nat.le_of_ble_eq_true rfl, Nat.le_of_ble_eq_true rfl⟩) hP hD hS hA [3] [0, 1, 2, 4] rfl rfl (by decide) (by decide) (fun r_13 u_14 H locs hw hP hD hS => ?_)
  obtain rfl : r_13 = 1 := hw
  have hP : va_P D vwCl [(x, .inr (6, [.ref t, .ref n, .ref sp, .int 0])), (t, .inr (4, [.ref t_kinds, .int 0, .long 0, .long 0, .ref t_codes, .ref t_targets, .ref t_settings, .ref t_sources, .ref t_accessCounts, .int 0, .ref t_acts, .ref t_actVariables, .ref t_actPlaces])), (o, .inl (cJ, 1, .inr (.inl (fun _ => 0)))), (vl, .inr (0, [.int 0, .ref ae, .int 0])), (mo, .inr (12, [.int 1, .ref vl, .ref sl]))] H := hP
  have hD : va_D A [(x, .inr (6, [.ref t, .ref n, .ref sp, .int 0])), (t, .inr (4, [.ref t_kinds, .int 0, .long 0, .long 0, .ref t_codes, .ref t_targets, .ref t_settings, .ref t_sources, .ref t_accessCounts, .int 0, .ref t_acts, .ref t_actVariables, .ref t_actPlaces])), (o, .inl (cJ, 1, .inr (.inl (fun _ => 0)))), (vl, .inr (0, [.int 0, .ref ae, .int 0])), (mo, .inr (12, [.int 1, .ref vl, .ref sl]))] := hD
  refine lv_iload hx hb dL_law_601 (lv_at hl 1 rfl) ?_
  refine lv_icmp_eq (tgt := 608) hx hb dL_law_603 (by decide) (fun c_603 => ?_) (fun c_603 => absurd (by decide) c_603)
  refine lv_iload hx hb dL_law_608 (lv_at hl 1 rfl) ?_
  refine lv_if_ne (tgt := 625) hx hb dL_law_610 (by decide) (fun c_610 => ?_) (fun c_610 => absurd c_610 (by decide))
  refine lv_goto (tgt := 1950) hx hb dL_law_625 (by decide) ?_
  refine lv_iinc (v := 5) (lv' := [(4, .int 5), (6, .int 0), (5, .int 1), (0, .ref b), (1, .ref x), (2, .ref mo), (3, .ref o)]) hx hb dL_law_1950 hl (k := 6) rfl (by decide) (by decide) rfl (fun ls hl => ?_)
  refine lv_goto (tgt := 23) hx hb dL_law_1953 (by decide) ?_
  refine lv_iload hx hb dL_law_23 (lv_at hl 0 rfl) ?_
  refine lv_aload_n hx hb dL_law_25 rfl (lv_at hl 3 rfl) ?_
  refine va_slen hx hb hX hbl hbA hS dL_law_26 ?_
  refine lv_topi (fun y_15 ey_15 => ?_)
  obtain rfl : y_15 = 5 := ey_15.trans (by decide)
  refine lv_iconst (v := 5) hx hb dL_law_27 (by decide) ?_
  refine lv_isub hx hb dL_law_28 ?_
  refine lv_topi (fun x_16 ex_16 => ?_)
  obtain rfl : x_16 = 0 := ex_16.trans (by decide)
  refine lv_icmp_gt (tgt := 1956) hx hb dL_law_29 (by decide) (fun c_29 => ?_) (fun c_29 => absurd (by decide) c_29)
  refine lv_iconst (v := 1) hx hb dL_law_1956 (by decide) ?_
  refine va_forget (fun q hq => by have h9 := hS.2.2 q hq; rw [← hAe] at h9; exact h9) ?_
  refine W.widen (k := 600002) (n := 7302232) (Nat.le_of_ble_eq_true rfl) (Nat.le_of_ble_eq_true rfl) ?_
  refine W.base ?_
  exact lw_ret (Drawn.sameBut.refl s.drawn lw_cs) hx hb hr hlocks dL_law_1957

set_option maxHeartbeats 4000000 in
set_option maxRecDepth 100000 in
theorem lc_6 {p : Program} {l : Launch} {e : Env} {s : State} {m : MethodId} {below : List Frame} {meth : Method} {c : Code} {b : Nat} {xs : Nat → Int32} (hfl : l.stackTraces = false) {ae : Nat} {D : va_G} {cI cJ cS cO : ClassId} (C0 : lw_At p s m meth c b 5 xs) (hK : va_K D vwCl [(cI, .int), (cJ, .long), (cS, .object "IronwoodModel$State"), (cO, .object "java/lang/Object")] s) (hG : Gl ae (fun q : Nat => s.heap.size ≤ q) s s.heap) (x : Nat) (t : Nat) (n : Nat) (sp : Nat) (t_kinds : Nat) (t_codes : Nat) (t_targets : Nat) (t_settings : Nat) (t_sources : Nat) (t_accessCounts : Nat) (t_acts : Nat) (t_actVariables : Nat) (t_actPlaces : Nat) (mo : Nat) (vl : Nat) (sl : Nat) (o : Nat) (x1 : Int32) (e1 : xs (Int32.toNatClampNeg 1) = x1) (x2 : Int32) (e2 : xs (Int32.toNatClampNeg 2) = x2) (x3 : Int32) (e3 : xs (Int32.toNatClampNeg 3) = x3) (x4 : Int32) (e4 : xs (Int32.toNatClampNeg 4) = x4)  (H : Heap) (locs : List Loc) (hP : va_P D vwCl [(x, .inr (6, [.ref t, .ref n, .ref sp, .int 0])), (t, .inr (4, [.ref t_kinds, .int 0, .long 0, .long 0, .ref t_codes, .ref t_targets, .ref t_settings, .ref t_sources, .ref t_accessCounts, .int 0, .ref t_acts, .ref t_actVariables, .ref t_actPlaces])), (mo, .inr (12, [.int 0, .ref vl, .ref sl])), (vl, .inr (0, [.int 0, .ref ae, .int 0])), (o, .inl (cJ, 1, .inr (.inl (fun _ => 0))))] H) (hD : va_D (fun q : Nat => s.heap.size ≤ q) [(x, .inr (6, [.ref t, .ref n, .ref sp, .int 0])), (t, .inr (4, [.ref t_kinds, .int 0, .long 0, .long 0, .ref t_codes, .ref t_targets, .ref t_settings, .ref t_sources, .ref t_accessCounts, .int 0, .ref t_acts, .ref t_actVariables, .ref t_actPlaces])), (mo, .inr (12, [.int 0, .ref vl, .ref sl])), (vl, .inr (0, [.int 0, .ref ae, .int 0])), (o, .inl (cJ, 1, .inr (.inl (fun _ => 0))))]) (hS : va_S (fun q : Nat => s.heap.size ≤ q) s.heap H locs) (ls : Array Slot) (hl : lv_has ls 9 [(0, .ref b), (1, .ref x), (2, .ref mo), (3, .ref o), (4, .int 0)]) : W p l e room_1 s m #[Value.ref b] below meth c H locs 61 3597 (lw_Z below #[Value.ref b] s) (F0 m 628 ls []) := by
  obtain ⟨hx, hb, hr, hml, hown, hts0, hX, hbl, hlocks, hgv⟩ := id C0
  have hts := law_hts hts0
  have hA : ∀ q : Nat, s.heap.size ≤ q → (fun q : Nat => s.heap.size ≤ q) q := fun _ h => h
  have hbA : ¬ (fun q : Nat => s.heap.size ≤ q) b := Nat.not_le.mpr hbl
  generalize hAe : (fun q : Nat => s.heap.size ≤ q) = A at hD hG hS hA hbA
  refine lv_aload_n hx hb dL_law_628 rfl (lv_at hl 1 rfl) ?_
  refine lv_aload_n hx hb dL_law_629 rfl (lv_at hl 0 rfl) ?_
  refine lv_iload hx hb dL_law_630 (lv_at hl 4 rfl) ?_
  refine lv_iconst (v := 1) hx hb dL_law_632 (by decide) ?_
  refine lv_iadd hx hb dL_law_633 ?_
  refine lv_topi (fun x_1 ex_1 => ?_)
  obtain rfl : x_1 = 1 := ex_1.trans (by decide)
  refine va_sld hx hb hX hbl hbA hS (vp_in_iff.mpr (by decide)) dL_law_634 ?_
  refine lv_topi (fun y_2 ey_2 => ?_)
  rw [show y_2 = x1 from ey_2.trans e1]
  refine lv_aload_n hx hb dL_law_635 rfl (lv_at hl 3 rfl) ?_
  refine kc_i (wr := [(mo, .inr (12, [.int 0, .ref vl, .ref sl])), (vl, .inr (0, [.int 0, .ref ae, .int 0]))]) (vx_runSW (As := [.ref x, .int x1, .ref o]) (rest := []) ⟨hx, hb, hml, hown, hts⟩ (w_drop_x l hfl ae D cI cJ cS cO x t n sp 0 t_kinds 0 0 t_codes t_targets t_settings t_sources t_accessCounts 0 t_acts t_actVariables t_actPlaces x1 o (fun _ => 0) _) (vx_cwSW 3 hts (gT q_817 q_815 q_816 q_97) rfl rfl rfl (by decide +kernel) ⟨Nat.le_of_ble_eq_true rfl, Nat.le_of_ble_eq_true rfl⟩) ⟨Pw.blind, Pw.mk_call hP hK hD hS hA hG [0, 1, 4] rfl (by decide)⟩ rfl rfl hl.1 rfl (lv_room (Nat.le_of_ble_eq_true rfl)) dL_law_636 ⟨Nat.le_of_ble_eq_true rfl, Nat.le_of_ble_eq_true rfl⟩) hP hD hS hA [0, 1, 4] [2, 3] rfl rfl (by decide) (by decide) (fun r_3 u_4 H locs hw hP hD hS => ?_)
  obtain rfl : r_3 = 1 := hw
  have hP : va_P D vwCl [(mo, .inr (12, [.int 0, .ref vl, .ref sl])), (vl, .inr (0, [.int 0, .ref ae, .int 0])), (x, .inr (6, [.ref t, .ref n, .ref sp, .int 0])), (t, .inr (4, [.ref t_kinds, .int 0, .long 0, .long 0, .ref t_codes, .ref t_targets, .ref t_settings, .ref t_sources, .ref t_accessCounts, .int 0, .ref t_acts, .ref t_actVariables, .ref t_actPlaces])), (o, .inl (cJ, 1, .inr (.inl (fun _ => 0))))] H := hP
  have hD : va_D A [(mo, .inr (12, [.int 0, .ref vl, .ref sl])), (vl, .inr (0, [.int 0, .ref ae, .int 0])), (x, .inr (6, [.ref t, .ref n, .ref sp, .int 0])), (t, .inr (4, [.ref t_kinds, .int 0, .long 0, .long 0, .ref t_codes, .ref t_targets, .ref t_settings, .ref t_sources, .ref t_accessCounts, .int 0, .ref t_acts, .ref t_actVariables, .ref t_actPlaces])), (o, .inl (cJ, 1, .inr (.inl (fun _ => 0))))] := hD
  refine lv_istore (lv' := [(5, .int 1), (0, .ref b), (1, .ref x), (2, .ref mo), (3, .ref o), (4, .int 0)]) hx hb dL_law_639 hl (by decide) rfl (fun ls hl => ?_)
  refine lv_aload_n hx hb dL_law_641 rfl (lv_at hl 3 rfl) ?_
  refine lv_aload_n hx hb dL_law_642 rfl (lv_at hl 1 rfl) ?_
  refine lv_iload hx hb dL_law_643 (lv_at hl 5 rfl) ?_
  refine lv_iconst (v := 1) hx hb dL_law_645 (by decide) ?_
  refine lv_iadd hx hb dL_law_646 ?_
  refine lv_topi (fun x_5 ex_5 => ?_)
  obtain rfl : x_5 = 1 := ex_5.trans (by decide)
  refine va_sld hx hb hX hbl hbA hS (vp_in_iff.mpr (by decide)) dL_law_647 ?_
  refine lv_topi (fun y_6 ey_6 => ?_)
  rw [show y_6 = x1 from ey_6.trans e1]
  refine kc_i (wr := [(x, .inr (6, [.ref t, .ref n, .ref sp, .int 0])), (t, .inr (4, [.ref t_kinds, .int 0, .long 0, .long 0, .ref t_codes, .ref t_targets, .ref t_settings, .ref t_sources, .ref t_accessCounts, .int 0, .ref t_acts, .ref t_actVariables, .ref t_actPlaces])), (o, .inl (cJ, 1, .inr (.inl (fun _ => 0))))]) (va_runV (As := [.int x1]) (rest := []) ⟨hx, hb, hml, hown, hts⟩ (m_drop_x l hfl ae D cI cJ cS cO mo vl sl x1 _) (cwV 1 hts (gV q_1204 q_1201 q_1202 q_1203 q_104) rfl rfl rfl (by decide +kernel) ⟨Nat.le_of_ble_eq_true rfl, Nat.le_of_ble_eq_true rfl⟩) ⟨Pw.blind, va_recv hK hP (ci := 12) (q0 := 0) rfl rfl, Pw.mk_call hP hK hD hS hA hG [0, 1] rfl (by decide)⟩ rfl rfl hl.1 rfl (lv_room (Nat.le_of_ble_eq_true rfl)) dL_law_648 ⟨Nat.le_of_ble_eq_true rfl, Nat.le_of_ble_eq_true rfl⟩) hP hD hS hA [0, 1] [2, 3, 4] rfl rfl (by decide) (by decide) (fun r_7 u_8 H locs hw hP hD hS => ?_)
  obtain rfl : r_7 = 0 := hw
  have hP : va_P D vwCl [(x, .inr (6, [.ref t, .ref n, .ref sp, .int 0])), (t, .inr (4, [.ref t_kinds, .int 0, .long 0, .long 0, .ref t_codes, .ref t_targets, .ref t_settings, .ref t_sources, .ref t_accessCounts, .int 0, .ref t_acts, .ref t_actVariables, .ref t_actPlaces])), (o, .inl (cJ, 1, .inr (.inl (fun _ => 0)))), (mo, .inr (12, [.int 1, .ref vl, .ref sl])), (vl, .inr (0, [.int 0, .ref ae, .int 0]))] H := hP
  have hD : va_D A [(x, .inr (6, [.ref t, .ref n, .ref sp, .int 0])), (t, .inr (4, [.ref t_kinds, .int 0, .long 0, .long 0, .ref t_codes, .ref t_targets, .ref t_settings, .ref t_sources, .ref t_accessCounts, .int 0, .ref t_acts, .ref t_actVariables, .ref t_actPlaces])), (o, .inl (cJ, 1, .inr (.inl (fun _ => 0)))), (mo, .inr (12, [.int 1, .ref vl, .ref sl])), (vl, .inr (0, [.int 0, .ref ae, .int 0]))] := hD
  refine lv_istore (lv' := [(6, .int 0), (5, .int 1), (0, .ref b), (1, .ref x), (2, .ref mo), (3, .ref o), (4, .int 0)]) hx hb dL_law_651 hl (by decide) rfl (fun ls hl => ?_)
  refine lv_aload_n hx hb dL_law_653 rfl (lv_at hl 4 rfl) ?_
  refine kc_i (wr := [(x, .inr (6, [.ref t, .ref n, .ref sp, .int 0])), (t, .inr (4, [.ref t_kinds, .int 0, .long 0, .long 0, .ref t_codes, .ref t_targets, .ref t_settings, .ref t_sources, .ref t_accessCounts, .int 0, .ref t_acts, .ref t_actVariables, .ref t_actPlaces])), (o, .inl (cJ, 1, .inr (.inl (fun _ => 0)))), (vl, .inr (0, [.int 0, .ref ae, .int 0]))]) (va_runV (As := []) (rest := []) ⟨hx, hb, hml, hown, hts⟩ (m_thrown l hfl ae D cI cJ cS cO mo vl sl 1 _) (cwV 0 hts (gV q_1017 q_1014 q_1015 q_1016 q_104) rfl rfl rfl (by decide +kernel) ⟨Nat.le_of_ble_eq_true rfl, Nat.le_of_ble_eq_true rfl⟩) ⟨Pw.blind, va_recv hK hP (ci := 12) (q0 := 3) rfl rfl, Pw.mk_call hP hK hD hS hA hG [3] rfl (by decide)⟩ rfl rfl hl.1 rfl (lv_room (Nat.le_of_ble_eq_true rfl)) dL_law_654 ⟨Nat.le_of_ble_eq_true rfl, Nat.le_of_ble_eq_true rfl⟩) hP hD hS hA [3] [0, 1, 2, 4] rfl rfl (by decide) (by decide) (fun r_9 u_10 H locs hw hP hD hS => ?_)
  obtain rfl : r_9 = 1 := hw
  have hP : va_P D vwCl [(x, .inr (6, [.ref t, .ref n, .ref sp, .int 0])), (t, .inr (4, [.ref t_kinds, .int 0, .long 0, .long 0, .ref t_codes, .ref t_targets, .ref t_settings, .ref t_sources, .ref t_accessCounts, .int 0, .ref t_acts, .ref t_actVariables, .ref t_actPlaces])), (o, .inl (cJ, 1, .inr (.inl (fun _ => 0)))), (vl, .inr (0, [.int 0, .ref ae, .int 0])), (mo, .inr (12, [.int 1, .ref vl, .ref sl]))] H := hP
  have hD : va_D A [(x, .inr (6, [.ref t, .ref n, .ref sp, .int 0])), (t, .inr (4, [.ref t_kinds, .int 0, .long 0, .long 0, .ref t_codes, .ref t_targets, .ref t_settings, .ref t_sources, .ref t_accessCounts, .int 0, .ref t_acts, .ref t_actVariables, .ref t_actPlaces])), (o, .inl (cJ, 1, .inr (.inl (fun _ => 0)))), (vl, .inr (0, [.int 0, .ref ae, .int 0])), (mo, .inr (12, [.int 1, .ref vl, .ref sl]))] := hD
  refine lv_iload hx hb dL_law_657 (lv_at hl 1 rfl) ?_
  refine lv_icmp_eq (tgt := 664) hx hb dL_law_659 (by decide) (fun c_659 => ?_) (fun c_659 => absurd (by decide) c_659)
  refine lv_iload hx hb dL_law_664 (lv_at hl 1 rfl) ?_
  refine lv_if_ne (tgt := 681) hx hb dL_law_666 (by decide) (fun c_666 => ?_) (fun c_666 => absurd c_666 (by decide))
  refine lv_goto (tgt := 1950) hx hb dL_law_681 (by decide) ?_
  refine lv_iinc (v := 5) (lv' := [(4, .int 5), (6, .int 0), (5, .int 1), (0, .ref b), (1, .ref x), (2, .ref mo), (3, .ref o)]) hx hb dL_law_1950 hl (k := 6) rfl (by decide) (by decide) rfl (fun ls hl => ?_)
  refine lv_goto (tgt := 23) hx hb dL_law_1953 (by decide) ?_
  refine lv_iload hx hb dL_law_23 (lv_at hl 0 rfl) ?_
  refine lv_aload_n hx hb dL_law_25 rfl (lv_at hl 3 rfl) ?_
  refine va_slen hx hb hX hbl hbA hS dL_law_26 ?_
  refine lv_topi (fun y_11 ey_11 => ?_)
  obtain rfl : y_11 = 5 := ey_11.trans (by decide)
  refine lv_iconst (v := 5) hx hb dL_law_27 (by decide) ?_
  refine lv_isub hx hb dL_law_28 ?_
  refine lv_topi (fun x_12 ex_12 => ?_)
  obtain rfl : x_12 = 0 := ex_12.trans (by decide)
  refine lv_icmp_gt (tgt := 1956) hx hb dL_law_29 (by decide) (fun c_29 => ?_) (fun c_29 => absurd (by decide) c_29)
  refine lv_iconst (v := 1) hx hb dL_law_1956 (by decide) ?_
  refine va_forget (fun q hq => by have h9 := hS.2.2 q hq; rw [← hAe] at h9; exact h9) ?_
  refine W.widen (k := 600002) (n := 7302232) (Nat.le_of_ble_eq_true rfl) (Nat.le_of_ble_eq_true rfl) ?_
  refine W.base ?_
  exact lw_ret (Drawn.sameBut.refl s.drawn lw_cs) hx hb hr hlocks dL_law_1957

set_option maxHeartbeats 4000000 in
set_option maxRecDepth 100000 in
theorem lc_7 {p : Program} {l : Launch} {e : Env} {s : State} {m : MethodId} {below : List Frame} {meth : Method} {c : Code} {b : Nat} {xs : Nat → Int32} (hfl : l.stackTraces = false) {ae : Nat} {D : va_G} {cI cJ cS cO : ClassId} (C0 : lw_At p s m meth c b 5 xs) (hK : va_K D vwCl [(cI, .int), (cJ, .long), (cS, .object "IronwoodModel$State"), (cO, .object "java/lang/Object")] s) (hG : Gl ae (fun q : Nat => s.heap.size ≤ q) s s.heap) (x : Nat) (t : Nat) (n : Nat) (sp : Nat) (t_kinds : Nat) (t_codes : Nat) (t_targets : Nat) (t_settings : Nat) (t_sources : Nat) (t_accessCounts : Nat) (t_acts : Nat) (t_actVariables : Nat) (t_actPlaces : Nat) (mo : Nat) (vl : Nat) (sl : Nat) (o : Nat) (x1 : Int32) (e1 : xs (Int32.toNatClampNeg 1) = x1) (x2 : Int32) (e2 : xs (Int32.toNatClampNeg 2) = x2) (x3 : Int32) (e3 : xs (Int32.toNatClampNeg 3) = x3) (x4 : Int32) (e4 : xs (Int32.toNatClampNeg 4) = x4)  (H : Heap) (locs : List Loc) (hP : va_P D vwCl [(x, .inr (6, [.ref t, .ref n, .ref sp, .int 0])), (t, .inr (4, [.ref t_kinds, .int 0, .long 0, .long 0, .ref t_codes, .ref t_targets, .ref t_settings, .ref t_sources, .ref t_accessCounts, .int 0, .ref t_acts, .ref t_actVariables, .ref t_actPlaces])), (mo, .inr (12, [.int 0, .ref vl, .ref sl])), (vl, .inr (0, [.int 0, .ref ae, .int 0])), (o, .inl (cJ, 1, .inr (.inl (fun _ => 0))))] H) (hD : va_D (fun q : Nat => s.heap.size ≤ q) [(x, .inr (6, [.ref t, .ref n, .ref sp, .int 0])), (t, .inr (4, [.ref t_kinds, .int 0, .long 0, .long 0, .ref t_codes, .ref t_targets, .ref t_settings, .ref t_sources, .ref t_accessCounts, .int 0, .ref t_acts, .ref t_actVariables, .ref t_actPlaces])), (mo, .inr (12, [.int 0, .ref vl, .ref sl])), (vl, .inr (0, [.int 0, .ref ae, .int 0])), (o, .inl (cJ, 1, .inr (.inl (fun _ => 0))))]) (hS : va_S (fun q : Nat => s.heap.size ≤ q) s.heap H locs) (ls : Array Slot) (hl : lv_has ls 9 [(0, .ref b), (1, .ref x), (2, .ref mo), (3, .ref o), (4, .int 0)]) : W p l e room_1 s m #[Value.ref b] below meth c H locs 61 3597 (lw_Z below #[Value.ref b] s) (F0 m 684 ls []) := by
  obtain ⟨hx, hb, hr, hml, hown, hts0, hX, hbl, hlocks, hgv⟩ := id C0
  have hts := law_hts hts0
  have hA : ∀ q : Nat, s.heap.size ≤ q → (fun q : Nat => s.heap.size ≤ q) q := fun _ h => h
  have hbA : ¬ (fun q : Nat => s.heap.size ≤ q) b := Nat.not_le.mpr hbl
  generalize hAe : (fun q : Nat => s.heap.size ≤ q) = A at hD hG hS hA hbA
  refine lv_aload_n hx hb dL_law_684 rfl (lv_at hl 1 rfl) ?_
  refine lv_aload_n hx hb dL_law_685 rfl (lv_at hl 0 rfl) ?_
  refine lv_iload hx hb dL_law_686 (lv_at hl 4 rfl) ?_
  refine lv_iconst (v := 1) hx hb dL_law_688 (by decide) ?_
  refine lv_iadd hx hb dL_law_689 ?_
  refine lv_topi (fun x_1 ex_1 => ?_)
  obtain rfl : x_1 = 1 := ex_1.trans (by decide)
  refine va_sld hx hb hX hbl hbA hS (vp_in_iff.mpr (by decide)) dL_law_690 ?_
  refine lv_topi (fun y_2 ey_2 => ?_)
  rw [show y_2 = x1 from ey_2.trans e1]
  refine lv_aload_n hx hb dL_law_691 rfl (lv_at hl 0 rfl) ?_
  refine lv_iload hx hb dL_law_692 (lv_at hl 4 rfl) ?_
  refine lv_iconst (v := 2) hx hb dL_law_694 (by decide) ?_
  refine lv_iadd hx hb dL_law_695 ?_
  refine lv_topi (fun x_3 ex_3 => ?_)
  obtain rfl : x_3 = 2 := ex_3.trans (by decide)
  refine va_sld hx hb hX hbl hbA hS (vp_in_iff.mpr (by decide)) dL_law_696 ?_
  refine lv_topi (fun y_4 ey_4 => ?_)
  rw [show y_4 = x2 from ey_4.trans e2]
  refine lv_aload_n hx hb dL_law_697 rfl (lv_at hl 0 rfl) ?_
  refine lv_iload hx hb dL_law_698 (lv_at hl 4 rfl) ?_
  refine lv_iconst (v := 3) hx hb dL_law_700 (by decide) ?_
  refine lv_iadd hx hb dL_law_701 ?_
  refine lv_topi (fun x_5 ex_5 => ?_)
  obtain rfl : x_5 = 3 := ex_5.trans (by decide)
  refine va_sld hx hb hX hbl hbA hS (vp_in_iff.mpr (by decide)) dL_law_702 ?_
  refine lv_topi (fun y_6 ey_6 => ?_)
  rw [show y_6 = x3 from ey_6.trans e3]
  refine lv_aload_n hx hb dL_law_703 rfl (lv_at hl 0 rfl) ?_
  refine lv_iload hx hb dL_law_704 (lv_at hl 4 rfl) ?_
  refine lv_iconst (v := 4) hx hb dL_law_706 (by decide) ?_
  refine lv_iadd hx hb dL_law_707 ?_
  refine lv_topi (fun x_7 ex_7 => ?_)
  obtain rfl : x_7 = 4 := ex_7.trans (by decide)
  refine va_sld hx hb hX hbl hbA hS (vp_in_iff.mpr (by decide)) dL_law_708 ?_
  refine lv_topi (fun y_8 ey_8 => ?_)
  rw [show y_8 = x4 from ey_8.trans e4]
  refine lv_aload_n hx hb dL_law_709 rfl (lv_at hl 3 rfl) ?_
  refine kc_i (wr := [(mo, .inr (12, [.int 0, .ref vl, .ref sl])), (vl, .inr (0, [.int 0, .ref ae, .int 0]))]) (vx_runSW (As := [.ref x, .int x1, .int x2, .int x3, .int x4, .ref o]) (rest := []) ⟨hx, hb, hml, hown, hts⟩ (w_call_x l hfl ae D cI cJ cS cO x t n sp 0 t_kinds 0 0 t_codes t_targets t_settings t_sources t_accessCounts 0 t_acts t_actVariables t_actPlaces x1 x2 x3 x4 o (fun _ => 0) _) (vx_cwSW 6 hts (gT q_824 q_822 q_823 q_97) rfl rfl rfl (by decide +kernel) ⟨Nat.le_of_ble_eq_true rfl, Nat.le_of_ble_eq_true rfl⟩) ⟨Pw.blind, Pw.mk_call hP hK hD hS hA hG [0, 1, 4] rfl (by decide)⟩ rfl rfl hl.1 rfl (lv_room (Nat.le_of_ble_eq_true rfl)) dL_law_710 ⟨Nat.le_of_ble_eq_true rfl, Nat.le_of_ble_eq_true rfl⟩) hP hD hS hA [0, 1, 4] [2, 3] rfl rfl (by decide) (by decide) (fun r_9 u_10 H locs hw hP hD hS => ?_)
  obtain rfl : r_9 = 1 := hw
  have hP : va_P D vwCl [(mo, .inr (12, [.int 0, .ref vl, .ref sl])), (vl, .inr (0, [.int 0, .ref ae, .int 0])), (x, .inr (6, [.ref t, .ref n, .ref sp, .int 0])), (t, .inr (4, [.ref t_kinds, .int 0, .long 0, .long 0, .ref t_codes, .ref t_targets, .ref t_settings, .ref t_sources, .ref t_accessCounts, .int 0, .ref t_acts, .ref t_actVariables, .ref t_actPlaces])), (o, .inl (cJ, 1, .inr (.inl (fun _ => 0))))] H := hP
  have hD : va_D A [(mo, .inr (12, [.int 0, .ref vl, .ref sl])), (vl, .inr (0, [.int 0, .ref ae, .int 0])), (x, .inr (6, [.ref t, .ref n, .ref sp, .int 0])), (t, .inr (4, [.ref t_kinds, .int 0, .long 0, .long 0, .ref t_codes, .ref t_targets, .ref t_settings, .ref t_sources, .ref t_accessCounts, .int 0, .ref t_acts, .ref t_actVariables, .ref t_actPlaces])), (o, .inl (cJ, 1, .inr (.inl (fun _ => 0))))] := hD
  refine lv_istore (lv' := [(5, .int 1), (0, .ref b), (1, .ref x), (2, .ref mo), (3, .ref o), (4, .int 0)]) hx hb dL_law_713 hl (by decide) rfl (fun ls hl => ?_)
  refine lv_aload_n hx hb dL_law_715 rfl (lv_at hl 3 rfl) ?_
  refine lv_aload_n hx hb dL_law_716 rfl (lv_at hl 1 rfl) ?_
  refine lv_iload hx hb dL_law_717 (lv_at hl 5 rfl) ?_
  refine lv_iconst (v := 1) hx hb dL_law_719 (by decide) ?_
  refine lv_iadd hx hb dL_law_720 ?_
  refine lv_topi (fun x_11 ex_11 => ?_)
  obtain rfl : x_11 = 1 := ex_11.trans (by decide)
  refine va_sld hx hb hX hbl hbA hS (vp_in_iff.mpr (by decide)) dL_law_721 ?_
  refine lv_topi (fun y_12 ey_12 => ?_)
  rw [show y_12 = x1 from ey_12.trans e1]
  refine lv_aload_n hx hb dL_law_722 rfl (lv_at hl 1 rfl) ?_
  refine lv_iload hx hb dL_law_723 (lv_at hl 5 rfl) ?_
  refine lv_iconst (v := 2) hx hb dL_law_725 (by decide) ?_
  refine lv_iadd hx hb dL_law_726 ?_
  refine lv_topi (fun x_13 ex_13 => ?_)
  obtain rfl : x_13 = 2 := ex_13.trans (by decide)
  refine va_sld hx hb hX hbl hbA hS (vp_in_iff.mpr (by decide)) dL_law_727 ?_
  refine lv_topi (fun y_14 ey_14 => ?_)
  rw [show y_14 = x2 from ey_14.trans e2]
  refine lv_aload_n hx hb dL_law_728 rfl (lv_at hl 1 rfl) ?_
  refine lv_iload hx hb dL_law_729 (lv_at hl 5 rfl) ?_
  refine lv_iconst (v := 3) hx hb dL_law_731 (by decide) ?_
  refine lv_iadd hx hb dL_law_732 ?_
  refine lv_topi (fun x_15 ex_15 => ?_)
  obtain rfl : x_15 = 3 := ex_15.trans (by decide)
  refine va_sld hx hb hX hbl hbA hS (vp_in_iff.mpr (by decide)) dL_law_733 ?_
  refine lv_topi (fun y_16 ey_16 => ?_)
  rw [show y_16 = x3 from ey_16.trans e3]
  refine lv_aload_n hx hb dL_law_734 rfl (lv_at hl 1 rfl) ?_
  refine lv_iload hx hb dL_law_735 (lv_at hl 5 rfl) ?_
  refine lv_iconst (v := 4) hx hb dL_law_737 (by decide) ?_
  refine lv_iadd hx hb dL_law_738 ?_
  refine lv_topi (fun x_17 ex_17 => ?_)
  obtain rfl : x_17 = 4 := ex_17.trans (by decide)
  refine va_sld hx hb hX hbl hbA hS (vp_in_iff.mpr (by decide)) dL_law_739 ?_
  refine lv_topi (fun y_18 ey_18 => ?_)
  rw [show y_18 = x4 from ey_18.trans e4]
  refine kc_i (wr := [(x, .inr (6, [.ref t, .ref n, .ref sp, .int 0])), (t, .inr (4, [.ref t_kinds, .int 0, .long 0, .long 0, .ref t_codes, .ref t_targets, .ref t_settings, .ref t_sources, .ref t_accessCounts, .int 0, .ref t_acts, .ref t_actVariables, .ref t_actPlaces])), (o, .inl (cJ, 1, .inr (.inl (fun _ => 0))))]) (va_runV (As := [.int x1, .int x2, .int x3, .int x4]) (rest := []) ⟨hx, hb, hml, hown, hts⟩ (m_call_x l hfl ae D cI cJ cS cO mo vl sl x1 x2 x3 x4 _) (cwV 4 hts (gV q_1208 q_1205 q_1206 q_1207 q_104) rfl rfl rfl (by decide +kernel) ⟨Nat.le_of_ble_eq_true rfl, Nat.le_of_ble_eq_true rfl⟩) ⟨Pw.blind, va_recv hK hP (ci := 12) (q0 := 0) rfl rfl, Pw.mk_call hP hK hD hS hA hG [0, 1] rfl (by decide)⟩ rfl rfl hl.1 rfl (lv_room (Nat.le_of_ble_eq_true rfl)) dL_law_740 ⟨Nat.le_of_ble_eq_true rfl, Nat.le_of_ble_eq_true rfl⟩) hP hD hS hA [0, 1] [2, 3, 4] rfl rfl (by decide) (by decide) (fun r_19 u_20 H locs hw hP hD hS => ?_)
  obtain rfl : r_19 = 0 := hw
  have hP : va_P D vwCl [(x, .inr (6, [.ref t, .ref n, .ref sp, .int 0])), (t, .inr (4, [.ref t_kinds, .int 0, .long 0, .long 0, .ref t_codes, .ref t_targets, .ref t_settings, .ref t_sources, .ref t_accessCounts, .int 0, .ref t_acts, .ref t_actVariables, .ref t_actPlaces])), (o, .inl (cJ, 1, .inr (.inl (fun _ => 0)))), (mo, .inr (12, [.int 1, .ref vl, .ref sl])), (vl, .inr (0, [.int 0, .ref ae, .int 0]))] H := hP
  have hD : va_D A [(x, .inr (6, [.ref t, .ref n, .ref sp, .int 0])), (t, .inr (4, [.ref t_kinds, .int 0, .long 0, .long 0, .ref t_codes, .ref t_targets, .ref t_settings, .ref t_sources, .ref t_accessCounts, .int 0, .ref t_acts, .ref t_actVariables, .ref t_actPlaces])), (o, .inl (cJ, 1, .inr (.inl (fun _ => 0)))), (mo, .inr (12, [.int 1, .ref vl, .ref sl])), (vl, .inr (0, [.int 0, .ref ae, .int 0]))] := hD
  refine lv_istore (lv' := [(6, .int 0), (5, .int 1), (0, .ref b), (1, .ref x), (2, .ref mo), (3, .ref o), (4, .int 0)]) hx hb dL_law_743 hl (by decide) rfl (fun ls hl => ?_)
  refine lv_aload_n hx hb dL_law_745 rfl (lv_at hl 4 rfl) ?_
  refine kc_i (wr := [(x, .inr (6, [.ref t, .ref n, .ref sp, .int 0])), (t, .inr (4, [.ref t_kinds, .int 0, .long 0, .long 0, .ref t_codes, .ref t_targets, .ref t_settings, .ref t_sources, .ref t_accessCounts, .int 0, .ref t_acts, .ref t_actVariables, .ref t_actPlaces])), (o, .inl (cJ, 1, .inr (.inl (fun _ => 0)))), (vl, .inr (0, [.int 0, .ref ae, .int 0]))]) (va_runV (As := []) (rest := []) ⟨hx, hb, hml, hown, hts⟩ (m_thrown l hfl ae D cI cJ cS cO mo vl sl 1 _) (cwV 0 hts (gV q_1017 q_1014 q_1015 q_1016 q_104) rfl rfl rfl (by decide +kernel) ⟨Nat.le_of_ble_eq_true rfl, Nat.le_of_ble_eq_true rfl⟩) ⟨Pw.blind, va_recv hK hP (ci := 12) (q0 := 3) rfl rfl, Pw.mk_call hP hK hD hS hA hG [3] rfl (by decide)⟩ rfl rfl hl.1 rfl (lv_room (Nat.le_of_ble_eq_true rfl)) dL_law_746 ⟨Nat.le_of_ble_eq_true rfl, Nat.le_of_ble_eq_true rfl⟩) hP hD hS hA [3] [0, 1, 2, 4] rfl rfl (by decide) (by decide) (fun r_21 u_22 H locs hw hP hD hS => ?_)
  obtain rfl : r_21 = 1 := hw
  have hP : va_P D vwCl [(x, .inr (6, [.ref t, .ref n, .ref sp, .int 0])), (t, .inr (4, [.ref t_kinds, .int 0, .long 0, .long 0, .ref t_codes, .ref t_targets, .ref t_settings, .ref t_sources, .ref t_accessCounts, .int 0, .ref t_acts, .ref t_actVariables, .ref t_actPlaces])), (o, .inl (cJ, 1, .inr (.inl (fun _ => 0)))), (vl, .inr (0, [.int 0, .ref ae, .int 0])), (mo, .inr (12, [.int 1, .ref vl, .ref sl]))] H := hP
  have hD : va_D A [(x, .inr (6, [.ref t, .ref n, .ref sp, .int 0])), (t, .inr (4, [.ref t_kinds, .int 0, .long 0, .long 0, .ref t_codes, .ref t_targets, .ref t_settings, .ref t_sources, .ref t_accessCounts, .int 0, .ref t_acts, .ref t_actVariables, .ref t_actPlaces])), (o, .inl (cJ, 1, .inr (.inl (fun _ => 0)))), (vl, .inr (0, [.int 0, .ref ae, .int 0])), (mo, .inr (12, [.int 1, .ref vl, .ref sl]))] := hD
  refine lv_iload hx hb dL_law_749 (lv_at hl 1 rfl) ?_
  refine lv_icmp_eq (tgt := 756) hx hb dL_law_751 (by decide) (fun c_751 => ?_) (fun c_751 => absurd (by decide) c_751)
  refine lv_iload hx hb dL_law_756 (lv_at hl 1 rfl) ?_
  refine lv_if_ne (tgt := 773) hx hb dL_law_758 (by decide) (fun c_758 => ?_) (fun c_758 => absurd c_758 (by decide))
  refine lv_goto (tgt := 1950) hx hb dL_law_773 (by decide) ?_
  refine lv_iinc (v := 5) (lv' := [(4, .int 5), (6, .int 0), (5, .int 1), (0, .ref b), (1, .ref x), (2, .ref mo), (3, .ref o)]) hx hb dL_law_1950 hl (k := 6) rfl (by decide) (by decide) rfl (fun ls hl => ?_)
  refine lv_goto (tgt := 23) hx hb dL_law_1953 (by decide) ?_
  refine lv_iload hx hb dL_law_23 (lv_at hl 0 rfl) ?_
  refine lv_aload_n hx hb dL_law_25 rfl (lv_at hl 3 rfl) ?_
  refine va_slen hx hb hX hbl hbA hS dL_law_26 ?_
  refine lv_topi (fun y_23 ey_23 => ?_)
  obtain rfl : y_23 = 5 := ey_23.trans (by decide)
  refine lv_iconst (v := 5) hx hb dL_law_27 (by decide) ?_
  refine lv_isub hx hb dL_law_28 ?_
  refine lv_topi (fun x_24 ex_24 => ?_)
  obtain rfl : x_24 = 0 := ex_24.trans (by decide)
  refine lv_icmp_gt (tgt := 1956) hx hb dL_law_29 (by decide) (fun c_29 => ?_) (fun c_29 => absurd (by decide) c_29)
  refine lv_iconst (v := 1) hx hb dL_law_1956 (by decide) ?_
  refine va_forget (fun q hq => by have h9 := hS.2.2 q hq; rw [← hAe] at h9; exact h9) ?_
  refine W.widen (k := 600002) (n := 7302232) (Nat.le_of_ble_eq_true rfl) (Nat.le_of_ble_eq_true rfl) ?_
  refine W.base ?_
  exact lw_ret (Drawn.sameBut.refl s.drawn lw_cs) hx hb hr hlocks dL_law_1957

set_option maxHeartbeats 4000000 in
set_option maxRecDepth 100000 in
theorem lc_8 {p : Program} {l : Launch} {e : Env} {s : State} {m : MethodId} {below : List Frame} {meth : Method} {c : Code} {b : Nat} {xs : Nat → Int32} (hfl : l.stackTraces = false) {ae : Nat} {D : va_G} {cI cJ cS cO : ClassId} (C0 : lw_At p s m meth c b 5 xs) (hK : va_K D vwCl [(cI, .int), (cJ, .long), (cS, .object "IronwoodModel$State"), (cO, .object "java/lang/Object")] s) (hG : Gl ae (fun q : Nat => s.heap.size ≤ q) s s.heap) (x : Nat) (t : Nat) (n : Nat) (sp : Nat) (t_kinds : Nat) (t_codes : Nat) (t_targets : Nat) (t_settings : Nat) (t_sources : Nat) (t_accessCounts : Nat) (t_acts : Nat) (t_actVariables : Nat) (t_actPlaces : Nat) (mo : Nat) (vl : Nat) (sl : Nat) (o : Nat) (x1 : Int32) (e1 : xs (Int32.toNatClampNeg 1) = x1) (x2 : Int32) (e2 : xs (Int32.toNatClampNeg 2) = x2) (x3 : Int32) (e3 : xs (Int32.toNatClampNeg 3) = x3) (x4 : Int32) (e4 : xs (Int32.toNatClampNeg 4) = x4) (hv : 0 ≤ x2 ∧ x2 ≤ 40) (H : Heap) (locs : List Loc) (hP : va_P D vwCl [(x, .inr (6, [.ref t, .ref n, .ref sp, .int 0])), (t, .inr (4, [.ref t_kinds, .int 0, .long 0, .long 0, .ref t_codes, .ref t_targets, .ref t_settings, .ref t_sources, .ref t_accessCounts, .int 0, .ref t_acts, .ref t_actVariables, .ref t_actPlaces])), (t_codes, .inl (cI, 40, .inl (fun _ => 0))), (t_targets, .inl (cI, 40, .inl (fun _ => 0))), (t_settings, .inl (cI, 40, .inl (fun _ => 0))), (t_sources, .inl (cI, 40, .inl (fun _ => 0))), (t_accessCounts, .inl (cI, 40, .inl (fun _ => 0))), (mo, .inr (12, [.int 0, .ref vl, .ref sl])), (sl, .inr (0, [.int 0, .ref ae, .int 0])), (o, .inl (cJ, 1, .inr (.inl (fun _ => 0))))] H) (hD : va_D (fun q : Nat => s.heap.size ≤ q) [(x, .inr (6, [.ref t, .ref n, .ref sp, .int 0])), (t, .inr (4, [.ref t_kinds, .int 0, .long 0, .long 0, .ref t_codes, .ref t_targets, .ref t_settings, .ref t_sources, .ref t_accessCounts, .int 0, .ref t_acts, .ref t_actVariables, .ref t_actPlaces])), (t_codes, .inl (cI, 40, .inl (fun _ => 0))), (t_targets, .inl (cI, 40, .inl (fun _ => 0))), (t_settings, .inl (cI, 40, .inl (fun _ => 0))), (t_sources, .inl (cI, 40, .inl (fun _ => 0))), (t_accessCounts, .inl (cI, 40, .inl (fun _ => 0))), (mo, .inr (12, [.int 0, .ref vl, .ref sl])), (sl, .inr (0, [.int 0, .ref ae, .int 0])), (o, .inl (cJ, 1, .inr (.inl (fun _ => 0))))]) (hS : va_S (fun q : Nat => s.heap.size ≤ q) s.heap H locs) (ls : Array Slot) (hl : lv_has ls 9 [(0, .ref b), (1, .ref x), (2, .ref mo), (3, .ref o), (4, .int 0)]) : W p l e room_1 s m #[Value.ref b] below meth c H locs 61 3597 (lw_Z below #[Value.ref b] s) (F0 m 776 ls []) := by
  obtain ⟨hx, hb, hr, hml, hown, hts0, hX, hbl, hlocks, hgv⟩ := id C0
  have hts := law_hts hts0
  have hA : ∀ q : Nat, s.heap.size ≤ q → (fun q : Nat => s.heap.size ≤ q) q := fun _ h => h
  have hbA : ¬ (fun q : Nat => s.heap.size ≤ q) b := Nat.not_le.mpr hbl
  generalize hAe : (fun q : Nat => s.heap.size ≤ q) = A at hD hG hS hA hbA
  refine lv_aload_n hx hb dL_law_776 rfl (lv_at hl 1 rfl) ?_
  refine lv_aload_n hx hb dL_law_777 rfl (lv_at hl 0 rfl) ?_
  refine lv_iload hx hb dL_law_778 (lv_at hl 4 rfl) ?_
  refine lv_iconst (v := 1) hx hb dL_law_780 (by decide) ?_
  refine lv_iadd hx hb dL_law_781 ?_
  refine lv_topi (fun x_1 ex_1 => ?_)
  obtain rfl : x_1 = 1 := ex_1.trans (by decide)
  refine va_sld hx hb hX hbl hbA hS (vp_in_iff.mpr (by decide)) dL_law_782 ?_
  refine lv_topi (fun y_2 ey_2 => ?_)
  rw [show y_2 = x1 from ey_2.trans e1]
  refine lv_if_eq (tgt := 790) hx hb dL_law_783 (by decide) (fun c_783 => ?_) (fun c_783 => ?_)
  · skip
    refine lv_iconst (v := 0) hx hb dL_law_790 (by decide) ?_
    refine lv_aload_n hx hb dL_law_791 rfl (lv_at hl 0 rfl) ?_
    refine lv_iload hx hb dL_law_792 (lv_at hl 4 rfl) ?_
    refine lv_iconst (v := 2) hx hb dL_law_794 (by decide) ?_
    refine lv_iadd hx hb dL_law_795 ?_
    refine lv_topi (fun x_3 ex_3 => ?_)
    obtain rfl : x_3 = 2 := ex_3.trans (by decide)
    refine va_sld hx hb hX hbl hbA hS (vp_in_iff.mpr (by decide)) dL_law_796 ?_
    refine lv_topi (fun y_4 ey_4 => ?_)
    rw [show y_4 = x2 from ey_4.trans e2]
    refine lv_aload_n hx hb dL_law_797 rfl (lv_at hl 3 rfl) ?_
    refine kc_i (wr := [(mo, .inr (12, [.int 0, .ref vl, .ref sl])), (sl, .inr (0, [.int 0, .ref ae, .int 0]))]) (vx_runSW (As := [.ref x, .int 0, .int x2, .ref o]) (rest := []) ⟨hx, hb, hml, hown, hts⟩ (w_branch l hfl ae D cI cJ cS cO x t n sp 0 t_kinds 0 0 0 t_acts t_actVariables t_actPlaces t_codes (fun _ => 0) t_targets (fun _ => 0) t_settings (fun _ => 0) t_sources (fun _ => 0) t_accessCounts (fun _ => 0) 0 x2 o (fun _ => 0) _ hv) (vx_cwSW 4 hts (gT q_837 q_835 q_836 q_97) rfl rfl rfl (by decide +kernel) ⟨Nat.le_of_ble_eq_true rfl, Nat.le_of_ble_eq_true rfl⟩) ⟨Pw.blind, Pw.mk_call hP hK hD hS hA hG [0, 1, 2, 3, 4, 5, 6, 9] rfl (by decide)⟩ rfl rfl hl.1 rfl (lv_room (Nat.le_of_ble_eq_true rfl)) dL_law_798 ⟨Nat.le_of_ble_eq_true rfl, Nat.le_of_ble_eq_true rfl⟩) hP hD hS hA [0, 1, 2, 3, 4, 5, 6, 9] [7, 8] rfl rfl (by decide) (by decide) (fun r_5 u_6 H locs hw hP hD hS => ?_)
    obtain ⟨ofc_7, oft_8, ofse_9, ofso_10, ofac_11⟩ := u_6
    obtain rfl : r_5 = 0 := hw
    have hP : va_P D vwCl [(mo, .inr (12, [.int 0, .ref vl, .ref sl])), (sl, .inr (0, [.int 0, .ref ae, .int 0])), (x, .inr (6, [.ref t, .ref n, .ref sp, .int 0])), (t, .inr (4, [.ref t_kinds, .int 0, .long 0, .long 0, .ref t_codes, .ref t_targets, .ref t_settings, .ref t_sources, .ref t_accessCounts, .int 1, .ref t_acts, .ref t_actVariables, .ref t_actPlaces])), (t_codes, .inl (cI, 40, .inl ofc_7)), (t_targets, .inl (cI, 40, .inl oft_8)), (t_settings, .inl (cI, 40, .inl ofse_9)), (t_sources, .inl (cI, 40, .inl ofso_10)), (t_accessCounts, .inl (cI, 40, .inl ofac_11)), (o, .inl (cJ, 1, .inr (.inl (vp_updL (fun _ => 0) (Int32.toNatClampNeg 0) 0))))] H := hP
    have hD : va_D A [(mo, .inr (12, [.int 0, .ref vl, .ref sl])), (sl, .inr (0, [.int 0, .ref ae, .int 0])), (x, .inr (6, [.ref t, .ref n, .ref sp, .int 0])), (t, .inr (4, [.ref t_kinds, .int 0, .long 0, .long 0, .ref t_codes, .ref t_targets, .ref t_settings, .ref t_sources, .ref t_accessCounts, .int 1, .ref t_acts, .ref t_actVariables, .ref t_actPlaces])), (t_codes, .inl (cI, 40, .inl ofc_7)), (t_targets, .inl (cI, 40, .inl oft_8)), (t_settings, .inl (cI, 40, .inl ofse_9)), (t_sources, .inl (cI, 40, .inl ofso_10)), (t_accessCounts, .inl (cI, 40, .inl ofac_11)), (o, .inl (cJ, 1, .inr (.inl (vp_updL (fun _ => 0) (Int32.toNatClampNeg 0) 0))))] := hD
    refine lv_istore (lv' := [(5, .int 0), (0, .ref b), (1, .ref x), (2, .ref mo), (3, .ref o), (4, .int 0)]) hx hb dL_law_801 hl (by decide) rfl (fun ls hl => ?_)
    refine lv_aload_n hx hb dL_law_803 rfl (lv_at hl 3 rfl) ?_
    refine lv_aload_n hx hb dL_law_804 rfl (lv_at hl 1 rfl) ?_
    refine lv_iload hx hb dL_law_805 (lv_at hl 5 rfl) ?_
    refine lv_iconst (v := 1) hx hb dL_law_807 (by decide) ?_
    refine lv_iadd hx hb dL_law_808 ?_
    refine lv_topi (fun x_12 ex_12 => ?_)
    obtain rfl : x_12 = 1 := ex_12.trans (by decide)
    refine va_sld hx hb hX hbl hbA hS (vp_in_iff.mpr (by decide)) dL_law_809 ?_
    refine lv_topi (fun y_13 ey_13 => ?_)
    rw [show y_13 = x1 from ey_13.trans e1]
    refine lv_if_eq (tgt := 817) hx hb dL_law_810 (by decide) (fun c_810 => ?_) (fun c_810 => absurd c_783 c_810)
    refine lv_iconst (v := 0) hx hb dL_law_817 (by decide) ?_
    refine lv_aload_n hx hb dL_law_818 rfl (lv_at hl 1 rfl) ?_
    refine lv_iload hx hb dL_law_819 (lv_at hl 5 rfl) ?_
    refine lv_iconst (v := 2) hx hb dL_law_821 (by decide) ?_
    refine lv_iadd hx hb dL_law_822 ?_
    refine lv_topi (fun x_14 ex_14 => ?_)
    obtain rfl : x_14 = 2 := ex_14.trans (by decide)
    refine va_sld hx hb hX hbl hbA hS (vp_in_iff.mpr (by decide)) dL_law_823 ?_
    refine lv_topi (fun y_15 ey_15 => ?_)
    rw [show y_15 = x2 from ey_15.trans e2]
    refine kc_i (wr := [(x, .inr (6, [.ref t, .ref n, .ref sp, .int 0])), (t, .inr (4, [.ref t_kinds, .int 0, .long 0, .long 0, .ref t_codes, .ref t_targets, .ref t_settings, .ref t_sources, .ref t_accessCounts, .int 1, .ref t_acts, .ref t_actVariables, .ref t_actPlaces])), (t_codes, .inl (cI, 40, .inl ofc_7)), (t_targets, .inl (cI, 40, .inl oft_8)), (t_settings, .inl (cI, 40, .inl ofse_9)), (t_sources, .inl (cI, 40, .inl ofso_10)), (t_accessCounts, .inl (cI, 40, .inl ofac_11)), (o, .inl (cJ, 1, .inr (.inl (vp_updL (fun _ => 0) (Int32.toNatClampNeg 0) 0))))]) (va_runV (As := [.int 0, .int x2]) (rest := []) ⟨hx, hb, hml, hown, hts⟩ (m_branch l hfl ae D cI cJ cS cO mo vl sl 0 x2 _ hv) (cwV 2 hts (gV q_1212 q_1209 q_1210 q_1211 q_104) rfl rfl rfl (by decide +kernel) ⟨Nat.le_of_ble_eq_true rfl, Nat.le_of_ble_eq_true rfl⟩) ⟨Pw.blind, va_recv hK hP (ci := 12) (q0 := 0) rfl rfl, Pw.mk_call hP hK hD hS hA hG [0, 1] rfl (by decide)⟩ rfl rfl hl.1 rfl (lv_room (Nat.le_of_ble_eq_true rfl)) dL_law_824 ⟨Nat.le_of_ble_eq_true rfl, Nat.le_of_ble_eq_true rfl⟩) hP hD hS hA [0, 1] [2, 3, 4, 5, 6, 7, 8, 9] rfl rfl (by decide) (by decide) (fun r_16 u_17 H locs hw hP hD hS => ?_)
    obtain rfl : r_16 = 0 := hw
    have hP : va_P D vwCl [(x, .inr (6, [.ref t, .ref n, .ref sp, .int 0])), (t, .inr (4, [.ref t_kinds, .int 0, .long 0, .long 0, .ref t_codes, .ref t_targets, .ref t_settings, .ref t_sources, .ref t_accessCounts, .int 1, .ref t_acts, .ref t_actVariables, .ref t_actPlaces])), (t_codes, .inl (cI, 40, .inl ofc_7)), (t_targets, .inl (cI, 40, .inl oft_8)), (t_settings, .inl (cI, 40, .inl ofse_9)), (t_sources, .inl (cI, 40, .inl ofso_10)), (t_accessCounts, .inl (cI, 40, .inl ofac_11)), (o, .inl (cJ, 1, .inr (.inl (vp_updL (fun _ => 0) (Int32.toNatClampNeg 0) 0)))), (mo, .inr (12, [.int 0, .ref vl, .ref sl]))] H := hP
    have hD : va_D A [(x, .inr (6, [.ref t, .ref n, .ref sp, .int 0])), (t, .inr (4, [.ref t_kinds, .int 0, .long 0, .long 0, .ref t_codes, .ref t_targets, .ref t_settings, .ref t_sources, .ref t_accessCounts, .int 1, .ref t_acts, .ref t_actVariables, .ref t_actPlaces])), (t_codes, .inl (cI, 40, .inl ofc_7)), (t_targets, .inl (cI, 40, .inl oft_8)), (t_settings, .inl (cI, 40, .inl ofse_9)), (t_sources, .inl (cI, 40, .inl ofso_10)), (t_accessCounts, .inl (cI, 40, .inl ofac_11)), (o, .inl (cJ, 1, .inr (.inl (vp_updL (fun _ => 0) (Int32.toNatClampNeg 0) 0)))), (mo, .inr (12, [.int 0, .ref vl, .ref sl]))] := hD
    refine lv_istore (lv' := [(6, .int 0), (5, .int 0), (0, .ref b), (1, .ref x), (2, .ref mo), (3, .ref o), (4, .int 0)]) hx hb dL_law_827 hl (by decide) rfl (fun ls hl => ?_)
    refine lv_aload_n hx hb dL_law_829 rfl (lv_at hl 4 rfl) ?_
    refine kc_i (wr := [(x, .inr (6, [.ref t, .ref n, .ref sp, .int 0])), (t, .inr (4, [.ref t_kinds, .int 0, .long 0, .long 0, .ref t_codes, .ref t_targets, .ref t_settings, .ref t_sources, .ref t_accessCounts, .int 1, .ref t_acts, .ref t_actVariables, .ref t_actPlaces])), (t_codes, .inl (cI, 40, .inl ofc_7)), (t_targets, .inl (cI, 40, .inl oft_8)), (t_settings, .inl (cI, 40, .inl ofse_9)), (t_sources, .inl (cI, 40, .inl ofso_10)), (t_accessCounts, .inl (cI, 40, .inl ofac_11)), (o, .inl (cJ, 1, .inr (.inl (vp_updL (fun _ => 0) (Int32.toNatClampNeg 0) 0))))]) (va_runV (As := []) (rest := []) ⟨hx, hb, hml, hown, hts⟩ (m_thrown l hfl ae D cI cJ cS cO mo vl sl 0 _) (cwV 0 hts (gV q_1017 q_1014 q_1015 q_1016 q_104) rfl rfl rfl (by decide +kernel) ⟨Nat.le_of_ble_eq_true rfl, Nat.le_of_ble_eq_true rfl⟩) ⟨Pw.blind, va_recv hK hP (ci := 12) (q0 := 8) rfl rfl, Pw.mk_call hP hK hD hS hA hG [8] rfl (by decide)⟩ rfl rfl hl.1 rfl (lv_room (Nat.le_of_ble_eq_true rfl)) dL_law_830 ⟨Nat.le_of_ble_eq_true rfl, Nat.le_of_ble_eq_true rfl⟩) hP hD hS hA [8] [0, 1, 2, 3, 4, 5, 6, 7] rfl rfl (by decide) (by decide) (fun r_18 u_19 H locs hw hP hD hS => ?_)
    obtain rfl : r_18 = 0 := hw
    have hP : va_P D vwCl [(x, .inr (6, [.ref t, .ref n, .ref sp, .int 0])), (t, .inr (4, [.ref t_kinds, .int 0, .long 0, .long 0, .ref t_codes, .ref t_targets, .ref t_settings, .ref t_sources, .ref t_accessCounts, .int 1, .ref t_acts, .ref t_actVariables, .ref t_actPlaces])), (t_codes, .inl (cI, 40, .inl ofc_7)), (t_targets, .inl (cI, 40, .inl oft_8)), (t_settings, .inl (cI, 40, .inl ofse_9)), (t_sources, .inl (cI, 40, .inl ofso_10)), (t_accessCounts, .inl (cI, 40, .inl ofac_11)), (o, .inl (cJ, 1, .inr (.inl (vp_updL (fun _ => 0) (Int32.toNatClampNeg 0) 0)))), (mo, .inr (12, [.int 0, .ref vl, .ref sl]))] H := hP
    have hD : va_D A [(x, .inr (6, [.ref t, .ref n, .ref sp, .int 0])), (t, .inr (4, [.ref t_kinds, .int 0, .long 0, .long 0, .ref t_codes, .ref t_targets, .ref t_settings, .ref t_sources, .ref t_accessCounts, .int 1, .ref t_acts, .ref t_actVariables, .ref t_actPlaces])), (t_codes, .inl (cI, 40, .inl ofc_7)), (t_targets, .inl (cI, 40, .inl oft_8)), (t_settings, .inl (cI, 40, .inl ofse_9)), (t_sources, .inl (cI, 40, .inl ofso_10)), (t_accessCounts, .inl (cI, 40, .inl ofac_11)), (o, .inl (cJ, 1, .inr (.inl (vp_updL (fun _ => 0) (Int32.toNatClampNeg 0) 0)))), (mo, .inr (12, [.int 0, .ref vl, .ref sl]))] := hD
    refine lv_iload hx hb dL_law_833 (lv_at hl 1 rfl) ?_
    refine lv_icmp_eq (tgt := 840) hx hb dL_law_835 (by decide) (fun c_835 => ?_) (fun c_835 => absurd (by decide) c_835)
    refine lv_iload hx hb dL_law_840 (lv_at hl 1 rfl) ?_
    refine lv_if_ne (tgt := 857) hx hb dL_law_842 (by decide) (fun c_842 => absurd (by decide) c_842) (fun c_842 => ?_)
    refine lv_aload_n hx hb dL_law_845 rfl (lv_at hl 5 rfl) ?_
    refine lv_iconst (v := 0) hx hb dL_law_846 (by decide) ?_
    refine va_lald hx hb hK hP 7 1 rfl rfl (vp_in_iff.mpr (by decide)) dL_law_847 ?_
    refine lv_topl (fun y_20 ey_20 => ?_)
    obtain rfl : y_20 = 0 := ey_20.trans (by simp [vp_updL])
    refine lv_iload hx hb dL_law_848 (lv_at hl 0 rfl) ?_
    refine lv_i2l (v := 0) hx hb dL_law_850 (by decide) ?_
    refine W.lcmp hx hb dL_law_851 ?_
    refine lv_topi (fun y_21 ey_21 => ?_)
    obtain rfl : y_21 = 0 := ey_21.trans (by decide)
    refine lv_if_eq (tgt := 857) hx hb dL_law_852 (by decide) (fun c_852 => ?_) (fun c_852 => absurd (by decide) c_852)
    refine lv_goto (tgt := 1950) hx hb dL_law_857 (by decide) ?_
    refine lv_iinc (v := 5) (lv' := [(4, .int 5), (6, .int 0), (5, .int 0), (0, .ref b), (1, .ref x), (2, .ref mo), (3, .ref o)]) hx hb dL_law_1950 hl (k := 6) rfl (by decide) (by decide) rfl (fun ls hl => ?_)
    refine lv_goto (tgt := 23) hx hb dL_law_1953 (by decide) ?_
    refine lv_iload hx hb dL_law_23 (lv_at hl 0 rfl) ?_
    refine lv_aload_n hx hb dL_law_25 rfl (lv_at hl 3 rfl) ?_
    refine va_slen hx hb hX hbl hbA hS dL_law_26 ?_
    refine lv_topi (fun y_22 ey_22 => ?_)
    obtain rfl : y_22 = 5 := ey_22.trans (by decide)
    refine lv_iconst (v := 5) hx hb dL_law_27 (by decide) ?_
    refine lv_isub hx hb dL_law_28 ?_
    refine lv_topi (fun x_23 ex_23 => ?_)
    obtain rfl : x_23 = 0 := ex_23.trans (by decide)
    refine lv_icmp_gt (tgt := 1956) hx hb dL_law_29 (by decide) (fun c_29 => ?_) (fun c_29 => absurd (by decide) c_29)
    refine lv_iconst (v := 1) hx hb dL_law_1956 (by decide) ?_
    refine va_forget (fun q hq => by have h9 := hS.2.2 q hq; rw [← hAe] at h9; exact h9) ?_
    refine W.widen (k := 600002) (n := 7302232) (Nat.le_of_ble_eq_true rfl) (Nat.le_of_ble_eq_true rfl) ?_
    refine W.base ?_
    exact lw_ret (Drawn.sameBut.refl s.drawn lw_cs) hx hb hr hlocks dL_law_1957
  · skip
    refine lv_iconst (v := 1) hx hb dL_law_786 (by decide) ?_
    refine lv_goto (tgt := 791) hx hb dL_law_787 (by decide) ?_
    refine lv_aload_n hx hb dL_law_791 rfl (lv_at hl 0 rfl) ?_
    refine lv_iload hx hb dL_law_792 (lv_at hl 4 rfl) ?_
    refine lv_iconst (v := 2) hx hb dL_law_794 (by decide) ?_
    refine lv_iadd hx hb dL_law_795 ?_
    refine lv_topi (fun x_24 ex_24 => ?_)
    obtain rfl : x_24 = 2 := ex_24.trans (by decide)
    refine va_sld hx hb hX hbl hbA hS (vp_in_iff.mpr (by decide)) dL_law_796 ?_
    refine lv_topi (fun y_25 ey_25 => ?_)
    rw [show y_25 = x2 from ey_25.trans e2]
    refine lv_aload_n hx hb dL_law_797 rfl (lv_at hl 3 rfl) ?_
    refine kc_i (wr := [(mo, .inr (12, [.int 0, .ref vl, .ref sl])), (sl, .inr (0, [.int 0, .ref ae, .int 0]))]) (vx_runSW (As := [.ref x, .int 1, .int x2, .ref o]) (rest := []) ⟨hx, hb, hml, hown, hts⟩ (w_branch l hfl ae D cI cJ cS cO x t n sp 0 t_kinds 0 0 0 t_acts t_actVariables t_actPlaces t_codes (fun _ => 0) t_targets (fun _ => 0) t_settings (fun _ => 0) t_sources (fun _ => 0) t_accessCounts (fun _ => 0) 1 x2 o (fun _ => 0) _ hv) (vx_cwSW 4 hts (gT q_837 q_835 q_836 q_97) rfl rfl rfl (by decide +kernel) ⟨Nat.le_of_ble_eq_true rfl, Nat.le_of_ble_eq_true rfl⟩) ⟨Pw.blind, Pw.mk_call hP hK hD hS hA hG [0, 1, 2, 3, 4, 5, 6, 9] rfl (by decide)⟩ rfl rfl hl.1 rfl (lv_room (Nat.le_of_ble_eq_true rfl)) dL_law_798 ⟨Nat.le_of_ble_eq_true rfl, Nat.le_of_ble_eq_true rfl⟩) hP hD hS hA [0, 1, 2, 3, 4, 5, 6, 9] [7, 8] rfl rfl (by decide) (by decide) (fun r_26 u_27 H locs hw hP hD hS => ?_)
    obtain ⟨ofc_28, oft_29, ofse_30, ofso_31, ofac_32⟩ := u_27
    obtain rfl : r_26 = 0 := hw
    have hP : va_P D vwCl [(mo, .inr (12, [.int 0, .ref vl, .ref sl])), (sl, .inr (0, [.int 0, .ref ae, .int 0])), (x, .inr (6, [.ref t, .ref n, .ref sp, .int 0])), (t, .inr (4, [.ref t_kinds, .int 0, .long 0, .long 0, .ref t_codes, .ref t_targets, .ref t_settings, .ref t_sources, .ref t_accessCounts, .int 1, .ref t_acts, .ref t_actVariables, .ref t_actPlaces])), (t_codes, .inl (cI, 40, .inl ofc_28)), (t_targets, .inl (cI, 40, .inl oft_29)), (t_settings, .inl (cI, 40, .inl ofse_30)), (t_sources, .inl (cI, 40, .inl ofso_31)), (t_accessCounts, .inl (cI, 40, .inl ofac_32)), (o, .inl (cJ, 1, .inr (.inl (vp_updL (fun _ => 0) (Int32.toNatClampNeg 0) 0))))] H := hP
    have hD : va_D A [(mo, .inr (12, [.int 0, .ref vl, .ref sl])), (sl, .inr (0, [.int 0, .ref ae, .int 0])), (x, .inr (6, [.ref t, .ref n, .ref sp, .int 0])), (t, .inr (4, [.ref t_kinds, .int 0, .long 0, .long 0, .ref t_codes, .ref t_targets, .ref t_settings, .ref t_sources, .ref t_accessCounts, .int 1, .ref t_acts, .ref t_actVariables, .ref t_actPlaces])), (t_codes, .inl (cI, 40, .inl ofc_28)), (t_targets, .inl (cI, 40, .inl oft_29)), (t_settings, .inl (cI, 40, .inl ofse_30)), (t_sources, .inl (cI, 40, .inl ofso_31)), (t_accessCounts, .inl (cI, 40, .inl ofac_32)), (o, .inl (cJ, 1, .inr (.inl (vp_updL (fun _ => 0) (Int32.toNatClampNeg 0) 0))))] := hD
    refine lv_istore (lv' := [(5, .int 0), (0, .ref b), (1, .ref x), (2, .ref mo), (3, .ref o), (4, .int 0)]) hx hb dL_law_801 hl (by decide) rfl (fun ls hl => ?_)
    refine lv_aload_n hx hb dL_law_803 rfl (lv_at hl 3 rfl) ?_
    refine lv_aload_n hx hb dL_law_804 rfl (lv_at hl 1 rfl) ?_
    refine lv_iload hx hb dL_law_805 (lv_at hl 5 rfl) ?_
    refine lv_iconst (v := 1) hx hb dL_law_807 (by decide) ?_
    refine lv_iadd hx hb dL_law_808 ?_
    refine lv_topi (fun x_33 ex_33 => ?_)
    obtain rfl : x_33 = 1 := ex_33.trans (by decide)
    refine va_sld hx hb hX hbl hbA hS (vp_in_iff.mpr (by decide)) dL_law_809 ?_
    refine lv_topi (fun y_34 ey_34 => ?_)
    rw [show y_34 = x1 from ey_34.trans e1]
    refine lv_if_eq (tgt := 817) hx hb dL_law_810 (by decide) (fun c_810 => absurd c_810 c_783) (fun c_810 => ?_)
    refine lv_iconst (v := 1) hx hb dL_law_813 (by decide) ?_
    refine lv_goto (tgt := 818) hx hb dL_law_814 (by decide) ?_
    refine lv_aload_n hx hb dL_law_818 rfl (lv_at hl 1 rfl) ?_
    refine lv_iload hx hb dL_law_819 (lv_at hl 5 rfl) ?_
    refine lv_iconst (v := 2) hx hb dL_law_821 (by decide) ?_
    refine lv_iadd hx hb dL_law_822 ?_
    refine lv_topi (fun x_35 ex_35 => ?_)
    obtain rfl : x_35 = 2 := ex_35.trans (by decide)
    refine va_sld hx hb hX hbl hbA hS (vp_in_iff.mpr (by decide)) dL_law_823 ?_
    refine lv_topi (fun y_36 ey_36 => ?_)
    rw [show y_36 = x2 from ey_36.trans e2]
    refine kc_i (wr := [(x, .inr (6, [.ref t, .ref n, .ref sp, .int 0])), (t, .inr (4, [.ref t_kinds, .int 0, .long 0, .long 0, .ref t_codes, .ref t_targets, .ref t_settings, .ref t_sources, .ref t_accessCounts, .int 1, .ref t_acts, .ref t_actVariables, .ref t_actPlaces])), (t_codes, .inl (cI, 40, .inl ofc_28)), (t_targets, .inl (cI, 40, .inl oft_29)), (t_settings, .inl (cI, 40, .inl ofse_30)), (t_sources, .inl (cI, 40, .inl ofso_31)), (t_accessCounts, .inl (cI, 40, .inl ofac_32)), (o, .inl (cJ, 1, .inr (.inl (vp_updL (fun _ => 0) (Int32.toNatClampNeg 0) 0))))]) (va_runV (As := [.int 1, .int x2]) (rest := []) ⟨hx, hb, hml, hown, hts⟩ (m_branch l hfl ae D cI cJ cS cO mo vl sl 1 x2 _ hv) (cwV 2 hts (gV q_1212 q_1209 q_1210 q_1211 q_104) rfl rfl rfl (by decide +kernel) ⟨Nat.le_of_ble_eq_true rfl, Nat.le_of_ble_eq_true rfl⟩) ⟨Pw.blind, va_recv hK hP (ci := 12) (q0 := 0) rfl rfl, Pw.mk_call hP hK hD hS hA hG [0, 1] rfl (by decide)⟩ rfl rfl hl.1 rfl (lv_room (Nat.le_of_ble_eq_true rfl)) dL_law_824 ⟨Nat.le_of_ble_eq_true rfl, Nat.le_of_ble_eq_true rfl⟩) hP hD hS hA [0, 1] [2, 3, 4, 5, 6, 7, 8, 9] rfl rfl (by decide) (by decide) (fun r_37 u_38 H locs hw hP hD hS => ?_)
    obtain rfl : r_37 = 0 := hw
    have hP : va_P D vwCl [(x, .inr (6, [.ref t, .ref n, .ref sp, .int 0])), (t, .inr (4, [.ref t_kinds, .int 0, .long 0, .long 0, .ref t_codes, .ref t_targets, .ref t_settings, .ref t_sources, .ref t_accessCounts, .int 1, .ref t_acts, .ref t_actVariables, .ref t_actPlaces])), (t_codes, .inl (cI, 40, .inl ofc_28)), (t_targets, .inl (cI, 40, .inl oft_29)), (t_settings, .inl (cI, 40, .inl ofse_30)), (t_sources, .inl (cI, 40, .inl ofso_31)), (t_accessCounts, .inl (cI, 40, .inl ofac_32)), (o, .inl (cJ, 1, .inr (.inl (vp_updL (fun _ => 0) (Int32.toNatClampNeg 0) 0)))), (mo, .inr (12, [.int 0, .ref vl, .ref sl]))] H := hP
    have hD : va_D A [(x, .inr (6, [.ref t, .ref n, .ref sp, .int 0])), (t, .inr (4, [.ref t_kinds, .int 0, .long 0, .long 0, .ref t_codes, .ref t_targets, .ref t_settings, .ref t_sources, .ref t_accessCounts, .int 1, .ref t_acts, .ref t_actVariables, .ref t_actPlaces])), (t_codes, .inl (cI, 40, .inl ofc_28)), (t_targets, .inl (cI, 40, .inl oft_29)), (t_settings, .inl (cI, 40, .inl ofse_30)), (t_sources, .inl (cI, 40, .inl ofso_31)), (t_accessCounts, .inl (cI, 40, .inl ofac_32)), (o, .inl (cJ, 1, .inr (.inl (vp_updL (fun _ => 0) (Int32.toNatClampNeg 0) 0)))), (mo, .inr (12, [.int 0, .ref vl, .ref sl]))] := hD
    refine lv_istore (lv' := [(6, .int 0), (5, .int 0), (0, .ref b), (1, .ref x), (2, .ref mo), (3, .ref o), (4, .int 0)]) hx hb dL_law_827 hl (by decide) rfl (fun ls hl => ?_)
    refine lv_aload_n hx hb dL_law_829 rfl (lv_at hl 4 rfl) ?_
    refine kc_i (wr := [(x, .inr (6, [.ref t, .ref n, .ref sp, .int 0])), (t, .inr (4, [.ref t_kinds, .int 0, .long 0, .long 0, .ref t_codes, .ref t_targets, .ref t_settings, .ref t_sources, .ref t_accessCounts, .int 1, .ref t_acts, .ref t_actVariables, .ref t_actPlaces])), (t_codes, .inl (cI, 40, .inl ofc_28)), (t_targets, .inl (cI, 40, .inl oft_29)), (t_settings, .inl (cI, 40, .inl ofse_30)), (t_sources, .inl (cI, 40, .inl ofso_31)), (t_accessCounts, .inl (cI, 40, .inl ofac_32)), (o, .inl (cJ, 1, .inr (.inl (vp_updL (fun _ => 0) (Int32.toNatClampNeg 0) 0))))]) (va_runV (As := []) (rest := []) ⟨hx, hb, hml, hown, hts⟩ (m_thrown l hfl ae D cI cJ cS cO mo vl sl 0 _) (cwV 0 hts (gV q_1017 q_1014 q_1015 q_1016 q_104) rfl rfl rfl (by decide +kernel) ⟨Nat.le_of_ble_eq_true rfl, Nat.le_of_ble_eq_true rfl⟩) ⟨Pw.blind, va_recv hK hP (ci := 12) (q0 := 8) rfl rfl, Pw.mk_call hP hK hD hS hA hG [8] rfl (by decide)⟩ rfl rfl hl.1 rfl (lv_room (Nat.le_of_ble_eq_true rfl)) dL_law_830 ⟨Nat.le_of_ble_eq_true rfl, Nat.le_of_ble_eq_true rfl⟩) hP hD hS hA [8] [0, 1, 2, 3, 4, 5, 6, 7] rfl rfl (by decide) (by decide) (fun r_39 u_40 H locs hw hP hD hS => ?_)
    obtain rfl : r_39 = 0 := hw
    have hP : va_P D vwCl [(x, .inr (6, [.ref t, .ref n, .ref sp, .int 0])), (t, .inr (4, [.ref t_kinds, .int 0, .long 0, .long 0, .ref t_codes, .ref t_targets, .ref t_settings, .ref t_sources, .ref t_accessCounts, .int 1, .ref t_acts, .ref t_actVariables, .ref t_actPlaces])), (t_codes, .inl (cI, 40, .inl ofc_28)), (t_targets, .inl (cI, 40, .inl oft_29)), (t_settings, .inl (cI, 40, .inl ofse_30)), (t_sources, .inl (cI, 40, .inl ofso_31)), (t_accessCounts, .inl (cI, 40, .inl ofac_32)), (o, .inl (cJ, 1, .inr (.inl (vp_updL (fun _ => 0) (Int32.toNatClampNeg 0) 0)))), (mo, .inr (12, [.int 0, .ref vl, .ref sl]))] H := hP
    have hD : va_D A [(x, .inr (6, [.ref t, .ref n, .ref sp, .int 0])), (t, .inr (4, [.ref t_kinds, .int 0, .long 0, .long 0, .ref t_codes, .ref t_targets, .ref t_settings, .ref t_sources, .ref t_accessCounts, .int 1, .ref t_acts, .ref t_actVariables, .ref t_actPlaces])), (t_codes, .inl (cI, 40, .inl ofc_28)), (t_targets, .inl (cI, 40, .inl oft_29)), (t_settings, .inl (cI, 40, .inl ofse_30)), (t_sources, .inl (cI, 40, .inl ofso_31)), (t_accessCounts, .inl (cI, 40, .inl ofac_32)), (o, .inl (cJ, 1, .inr (.inl (vp_updL (fun _ => 0) (Int32.toNatClampNeg 0) 0)))), (mo, .inr (12, [.int 0, .ref vl, .ref sl]))] := hD
    refine lv_iload hx hb dL_law_833 (lv_at hl 1 rfl) ?_
    refine lv_icmp_eq (tgt := 840) hx hb dL_law_835 (by decide) (fun c_835 => ?_) (fun c_835 => absurd (by decide) c_835)
    refine lv_iload hx hb dL_law_840 (lv_at hl 1 rfl) ?_
    refine lv_if_ne (tgt := 857) hx hb dL_law_842 (by decide) (fun c_842 => absurd (by decide) c_842) (fun c_842 => ?_)
    refine lv_aload_n hx hb dL_law_845 rfl (lv_at hl 5 rfl) ?_
    refine lv_iconst (v := 0) hx hb dL_law_846 (by decide) ?_
    refine va_lald hx hb hK hP 7 1 rfl rfl (vp_in_iff.mpr (by decide)) dL_law_847 ?_
    refine lv_topl (fun y_41 ey_41 => ?_)
    obtain rfl : y_41 = 0 := ey_41.trans (by simp [vp_updL])
    refine lv_iload hx hb dL_law_848 (lv_at hl 0 rfl) ?_
    refine lv_i2l (v := 0) hx hb dL_law_850 (by decide) ?_
    refine W.lcmp hx hb dL_law_851 ?_
    refine lv_topi (fun y_42 ey_42 => ?_)
    obtain rfl : y_42 = 0 := ey_42.trans (by decide)
    refine lv_if_eq (tgt := 857) hx hb dL_law_852 (by decide) (fun c_852 => ?_) (fun c_852 => absurd (by decide) c_852)
    refine lv_goto (tgt := 1950) hx hb dL_law_857 (by decide) ?_
    refine lv_iinc (v := 5) (lv' := [(4, .int 5), (6, .int 0), (5, .int 0), (0, .ref b), (1, .ref x), (2, .ref mo), (3, .ref o)]) hx hb dL_law_1950 hl (k := 6) rfl (by decide) (by decide) rfl (fun ls hl => ?_)
    refine lv_goto (tgt := 23) hx hb dL_law_1953 (by decide) ?_
    refine lv_iload hx hb dL_law_23 (lv_at hl 0 rfl) ?_
    refine lv_aload_n hx hb dL_law_25 rfl (lv_at hl 3 rfl) ?_
    refine va_slen hx hb hX hbl hbA hS dL_law_26 ?_
    refine lv_topi (fun y_43 ey_43 => ?_)
    obtain rfl : y_43 = 5 := ey_43.trans (by decide)
    refine lv_iconst (v := 5) hx hb dL_law_27 (by decide) ?_
    refine lv_isub hx hb dL_law_28 ?_
    refine lv_topi (fun x_44 ex_44 => ?_)
    obtain rfl : x_44 = 0 := ex_44.trans (by decide)
    refine lv_icmp_gt (tgt := 1956) hx hb dL_law_29 (by decide) (fun c_29 => ?_) (fun c_29 => absurd (by decide) c_29)
    refine lv_iconst (v := 1) hx hb dL_law_1956 (by decide) ?_
    refine va_forget (fun q hq => by have h9 := hS.2.2 q hq; rw [← hAe] at h9; exact h9) ?_
    refine W.widen (k := 600002) (n := 7302232) (Nat.le_of_ble_eq_true rfl) (Nat.le_of_ble_eq_true rfl) ?_
    refine W.base ?_
    exact lw_ret (Drawn.sameBut.refl s.drawn lw_cs) hx hb hr hlocks dL_law_1957

set_option maxHeartbeats 4000000 in
set_option maxRecDepth 100000 in
theorem lc_8x {p : Program} {l : Launch} {e : Env} {s : State} {m : MethodId} {below : List Frame} {meth : Method} {c : Code} {b : Nat} {xs : Nat → Int32} (hfl : l.stackTraces = false) {ae : Nat} {D : va_G} {cI cJ cS cO : ClassId} (C0 : lw_At p s m meth c b 5 xs) (hK : va_K D vwCl [(cI, .int), (cJ, .long), (cS, .object "IronwoodModel$State"), (cO, .object "java/lang/Object")] s) (hG : Gl ae (fun q : Nat => s.heap.size ≤ q) s s.heap) (x : Nat) (t : Nat) (n : Nat) (sp : Nat) (mo : Nat) (vl : Nat) (sl : Nat) (o : Nat) (x1 : Int32) (e1 : xs (Int32.toNatClampNeg 1) = x1) (x2 : Int32) (e2 : xs (Int32.toNatClampNeg 2) = x2) (x3 : Int32) (e3 : xs (Int32.toNatClampNeg 3) = x3) (x4 : Int32) (e4 : xs (Int32.toNatClampNeg 4) = x4) (hv : ¬ (0 ≤ x2 ∧ x2 ≤ 40)) (H : Heap) (locs : List Loc) (hP : va_P D vwCl [(x, .inr (6, [.ref t, .ref n, .ref sp, .int 0])), (mo, .inr (12, [.int 0, .ref vl, .ref sl])), (sl, .inr (0, [.int 0, .ref ae, .int 0])), (o, .inl (cJ, 1, .inr (.inl (fun _ => 0))))] H) (hD : va_D (fun q : Nat => s.heap.size ≤ q) [(x, .inr (6, [.ref t, .ref n, .ref sp, .int 0])), (mo, .inr (12, [.int 0, .ref vl, .ref sl])), (sl, .inr (0, [.int 0, .ref ae, .int 0])), (o, .inl (cJ, 1, .inr (.inl (fun _ => 0))))]) (hS : va_S (fun q : Nat => s.heap.size ≤ q) s.heap H locs) (ls : Array Slot) (hl : lv_has ls 9 [(0, .ref b), (1, .ref x), (2, .ref mo), (3, .ref o), (4, .int 0)]) : W p l e room_1 s m #[Value.ref b] below meth c H locs 61 3597 (lw_Z below #[Value.ref b] s) (F0 m 776 ls []) := by
  obtain ⟨hx, hb, hr, hml, hown, hts0, hX, hbl, hlocks, hgv⟩ := id C0
  have hts := law_hts hts0
  have hA : ∀ q : Nat, s.heap.size ≤ q → (fun q : Nat => s.heap.size ≤ q) q := fun _ h => h
  have hbA : ¬ (fun q : Nat => s.heap.size ≤ q) b := Nat.not_le.mpr hbl
  generalize hAe : (fun q : Nat => s.heap.size ≤ q) = A at hD hG hS hA hbA
  refine lv_aload_n hx hb dL_law_776 rfl (lv_at hl 1 rfl) ?_
  refine lv_aload_n hx hb dL_law_777 rfl (lv_at hl 0 rfl) ?_
  refine lv_iload hx hb dL_law_778 (lv_at hl 4 rfl) ?_
  refine lv_iconst (v := 1) hx hb dL_law_780 (by decide) ?_
  refine lv_iadd hx hb dL_law_781 ?_
  refine lv_topi (fun x_1 ex_1 => ?_)
  obtain rfl : x_1 = 1 := ex_1.trans (by decide)
  refine va_sld hx hb hX hbl hbA hS (vp_in_iff.mpr (by decide)) dL_law_782 ?_
  refine lv_topi (fun y_2 ey_2 => ?_)
  rw [show y_2 = x1 from ey_2.trans e1]
  refine lv_if_eq (tgt := 790) hx hb dL_law_783 (by decide) (fun c_783 => ?_) (fun c_783 => ?_)
  · skip
    refine lv_iconst (v := 0) hx hb dL_law_790 (by decide) ?_
    refine lv_aload_n hx hb dL_law_791 rfl (lv_at hl 0 rfl) ?_
    refine lv_iload hx hb dL_law_792 (lv_at hl 4 rfl) ?_
    refine lv_iconst (v := 2) hx hb dL_law_794 (by decide) ?_
    refine lv_iadd hx hb dL_law_795 ?_
    refine lv_topi (fun x_3 ex_3 => ?_)
    obtain rfl : x_3 = 2 := ex_3.trans (by decide)
    refine va_sld hx hb hX hbl hbA hS (vp_in_iff.mpr (by decide)) dL_law_796 ?_
    refine lv_topi (fun y_4 ey_4 => ?_)
    rw [show y_4 = x2 from ey_4.trans e2]
    refine lv_aload_n hx hb dL_law_797 rfl (lv_at hl 3 rfl) ?_
    refine kc_i (wr := [(mo, .inr (12, [.int 0, .ref vl, .ref sl])), (sl, .inr (0, [.int 0, .ref ae, .int 0]))]) (vx_runSW (As := [.ref x, .int 0, .int x2, .ref o]) (rest := []) ⟨hx, hb, hml, hown, hts⟩ (w_branch_x l hfl ae D cI cJ cS cO x t n sp 0 0 x2 o (fun _ => 0) _ hv) (vx_cwSW 4 hts (gT q_837 q_835 q_836 q_97) rfl rfl rfl (by decide +kernel) ⟨Nat.le_of_ble_eq_true rfl, Nat.le_of_ble_eq_true rfl⟩) ⟨Pw.blind, Pw.mk_call hP hK hD hS hA hG [0, 3] rfl (by decide)⟩ rfl rfl hl.1 rfl (lv_room (Nat.le_of_ble_eq_true rfl)) dL_law_798 ⟨Nat.le_of_ble_eq_true rfl, Nat.le_of_ble_eq_true rfl⟩) hP hD hS hA [0, 3] [1, 2] rfl rfl (by decide) (by decide) (fun r_5 u_6 H locs hw hP hD hS => ?_)
    obtain rfl : r_5 = 1 := hw
    have hP : va_P D vwCl [(mo, .inr (12, [.int 0, .ref vl, .ref sl])), (sl, .inr (0, [.int 0, .ref ae, .int 0])), (x, .inr (6, [.ref t, .ref n, .ref sp, .int 0])), (o, .inl (cJ, 1, .inr (.inl (fun _ => 0))))] H := hP
    have hD : va_D A [(mo, .inr (12, [.int 0, .ref vl, .ref sl])), (sl, .inr (0, [.int 0, .ref ae, .int 0])), (x, .inr (6, [.ref t, .ref n, .ref sp, .int 0])), (o, .inl (cJ, 1, .inr (.inl (fun _ => 0))))] := hD
    refine lv_istore (lv' := [(5, .int 1), (0, .ref b), (1, .ref x), (2, .ref mo), (3, .ref o), (4, .int 0)]) hx hb dL_law_801 hl (by decide) rfl (fun ls hl => ?_)
    refine lv_aload_n hx hb dL_law_803 rfl (lv_at hl 3 rfl) ?_
    refine lv_aload_n hx hb dL_law_804 rfl (lv_at hl 1 rfl) ?_
    refine lv_iload hx hb dL_law_805 (lv_at hl 5 rfl) ?_
    refine lv_iconst (v := 1) hx hb dL_law_807 (by decide) ?_
    refine lv_iadd hx hb dL_law_808 ?_
    refine lv_topi (fun x_7 ex_7 => ?_)
    obtain rfl : x_7 = 1 := ex_7.trans (by decide)
    refine va_sld hx hb hX hbl hbA hS (vp_in_iff.mpr (by decide)) dL_law_809 ?_
    refine lv_topi (fun y_8 ey_8 => ?_)
    rw [show y_8 = x1 from ey_8.trans e1]
    refine lv_if_eq (tgt := 817) hx hb dL_law_810 (by decide) (fun c_810 => ?_) (fun c_810 => absurd c_783 c_810)
    refine lv_iconst (v := 0) hx hb dL_law_817 (by decide) ?_
    refine lv_aload_n hx hb dL_law_818 rfl (lv_at hl 1 rfl) ?_
    refine lv_iload hx hb dL_law_819 (lv_at hl 5 rfl) ?_
    refine lv_iconst (v := 2) hx hb dL_law_821 (by decide) ?_
    refine lv_iadd hx hb dL_law_822 ?_
    refine lv_topi (fun x_9 ex_9 => ?_)
    obtain rfl : x_9 = 2 := ex_9.trans (by decide)
    refine va_sld hx hb hX hbl hbA hS (vp_in_iff.mpr (by decide)) dL_law_823 ?_
    refine lv_topi (fun y_10 ey_10 => ?_)
    rw [show y_10 = x2 from ey_10.trans e2]
    refine kc_i (wr := [(x, .inr (6, [.ref t, .ref n, .ref sp, .int 0])), (o, .inl (cJ, 1, .inr (.inl (fun _ => 0))))]) (va_runV (As := [.int 0, .int x2]) (rest := []) ⟨hx, hb, hml, hown, hts⟩ (m_branch_x l hfl ae D cI cJ cS cO mo vl sl 0 x2 _ hv) (cwV 2 hts (gV q_1212 q_1209 q_1210 q_1211 q_104) rfl rfl rfl (by decide +kernel) ⟨Nat.le_of_ble_eq_true rfl, Nat.le_of_ble_eq_true rfl⟩) ⟨Pw.blind, va_recv hK hP (ci := 12) (q0 := 0) rfl rfl, Pw.mk_call hP hK hD hS hA hG [0, 1] rfl (by decide)⟩ rfl rfl hl.1 rfl (lv_room (Nat.le_of_ble_eq_true rfl)) dL_law_824 ⟨Nat.le_of_ble_eq_true rfl, Nat.le_of_ble_eq_true rfl⟩) hP hD hS hA [0, 1] [2, 3] rfl rfl (by decide) (by decide) (fun r_11 u_12 H locs hw hP hD hS => ?_)
    obtain rfl : r_11 = 0 := hw
    have hP : va_P D vwCl [(x, .inr (6, [.ref t, .ref n, .ref sp, .int 0])), (o, .inl (cJ, 1, .inr (.inl (fun _ => 0)))), (mo, .inr (12, [.int 1, .ref vl, .ref sl])), (sl, .inr (0, [.int 0, .ref ae, .int 0]))] H := hP
    have hD : va_D A [(x, .inr (6, [.ref t, .ref n, .ref sp, .int 0])), (o, .inl (cJ, 1, .inr (.inl (fun _ => 0)))), (mo, .inr (12, [.int 1, .ref vl, .ref sl])), (sl, .inr (0, [.int 0, .ref ae, .int 0]))] := hD
    refine lv_istore (lv' := [(6, .int 0), (5, .int 1), (0, .ref b), (1, .ref x), (2, .ref mo), (3, .ref o), (4, .int 0)]) hx hb dL_law_827 hl (by decide) rfl (fun ls hl => ?_)
    refine lv_aload_n hx hb dL_law_829 rfl (lv_at hl 4 rfl) ?_
    refine kc_i (wr := [(x, .inr (6, [.ref t, .ref n, .ref sp, .int 0])), (o, .inl (cJ, 1, .inr (.inl (fun _ => 0)))), (sl, .inr (0, [.int 0, .ref ae, .int 0]))]) (va_runV (As := []) (rest := []) ⟨hx, hb, hml, hown, hts⟩ (m_thrown l hfl ae D cI cJ cS cO mo vl sl 1 _) (cwV 0 hts (gV q_1017 q_1014 q_1015 q_1016 q_104) rfl rfl rfl (by decide +kernel) ⟨Nat.le_of_ble_eq_true rfl, Nat.le_of_ble_eq_true rfl⟩) ⟨Pw.blind, va_recv hK hP (ci := 12) (q0 := 2) rfl rfl, Pw.mk_call hP hK hD hS hA hG [2] rfl (by decide)⟩ rfl rfl hl.1 rfl (lv_room (Nat.le_of_ble_eq_true rfl)) dL_law_830 ⟨Nat.le_of_ble_eq_true rfl, Nat.le_of_ble_eq_true rfl⟩) hP hD hS hA [2] [0, 1, 3] rfl rfl (by decide) (by decide) (fun r_13 u_14 H locs hw hP hD hS => ?_)
    obtain rfl : r_13 = 1 := hw
    have hP : va_P D vwCl [(x, .inr (6, [.ref t, .ref n, .ref sp, .int 0])), (o, .inl (cJ, 1, .inr (.inl (fun _ => 0)))), (sl, .inr (0, [.int 0, .ref ae, .int 0])), (mo, .inr (12, [.int 1, .ref vl, .ref sl]))] H := hP
    have hD : va_D A [(x, .inr (6, [.ref t, .ref n, .ref sp, .int 0])), (o, .inl (cJ, 1, .inr (.inl (fun _ => 0)))), (sl, .inr (0, [.int 0, .ref ae, .int 0])), (mo, .inr (12, [.int 1, .ref vl, .ref sl]))] := hD
    refine lv_iload hx hb dL_law_833 (lv_at hl 1 rfl) ?_
    refine lv_icmp_eq (tgt := 840) hx hb dL_law_835 (by decide) (fun c_835 => ?_) (fun c_835 => absurd (by decide) c_835)
    refine lv_iload hx hb dL_law_840 (lv_at hl 1 rfl) ?_
    refine lv_if_ne (tgt := 857) hx hb dL_law_842 (by decide) (fun c_842 => ?_) (fun c_842 => absurd c_842 (by decide))
    refine lv_goto (tgt := 1950) hx hb dL_law_857 (by decide) ?_
    refine lv_iinc (v := 5) (lv' := [(4, .int 5), (6, .int 0), (5, .int 1), (0, .ref b), (1, .ref x), (2, .ref mo), (3, .ref o)]) hx hb dL_law_1950 hl (k := 6) rfl (by decide) (by decide) rfl (fun ls hl => ?_)
    refine lv_goto (tgt := 23) hx hb dL_law_1953 (by decide) ?_
    refine lv_iload hx hb dL_law_23 (lv_at hl 0 rfl) ?_
    refine lv_aload_n hx hb dL_law_25 rfl (lv_at hl 3 rfl) ?_
    refine va_slen hx hb hX hbl hbA hS dL_law_26 ?_
    refine lv_topi (fun y_15 ey_15 => ?_)
    obtain rfl : y_15 = 5 := ey_15.trans (by decide)
    refine lv_iconst (v := 5) hx hb dL_law_27 (by decide) ?_
    refine lv_isub hx hb dL_law_28 ?_
    refine lv_topi (fun x_16 ex_16 => ?_)
    obtain rfl : x_16 = 0 := ex_16.trans (by decide)
    refine lv_icmp_gt (tgt := 1956) hx hb dL_law_29 (by decide) (fun c_29 => ?_) (fun c_29 => absurd (by decide) c_29)
    refine lv_iconst (v := 1) hx hb dL_law_1956 (by decide) ?_
    refine va_forget (fun q hq => by have h9 := hS.2.2 q hq; rw [← hAe] at h9; exact h9) ?_
    refine W.widen (k := 600002) (n := 7302232) (Nat.le_of_ble_eq_true rfl) (Nat.le_of_ble_eq_true rfl) ?_
    refine W.base ?_
    exact lw_ret (Drawn.sameBut.refl s.drawn lw_cs) hx hb hr hlocks dL_law_1957
  · skip
    refine lv_iconst (v := 1) hx hb dL_law_786 (by decide) ?_
    refine lv_goto (tgt := 791) hx hb dL_law_787 (by decide) ?_
    refine lv_aload_n hx hb dL_law_791 rfl (lv_at hl 0 rfl) ?_
    refine lv_iload hx hb dL_law_792 (lv_at hl 4 rfl) ?_
    refine lv_iconst (v := 2) hx hb dL_law_794 (by decide) ?_
    refine lv_iadd hx hb dL_law_795 ?_
    refine lv_topi (fun x_17 ex_17 => ?_)
    obtain rfl : x_17 = 2 := ex_17.trans (by decide)
    refine va_sld hx hb hX hbl hbA hS (vp_in_iff.mpr (by decide)) dL_law_796 ?_
    refine lv_topi (fun y_18 ey_18 => ?_)
    rw [show y_18 = x2 from ey_18.trans e2]
    refine lv_aload_n hx hb dL_law_797 rfl (lv_at hl 3 rfl) ?_
    refine kc_i (wr := [(mo, .inr (12, [.int 0, .ref vl, .ref sl])), (sl, .inr (0, [.int 0, .ref ae, .int 0]))]) (vx_runSW (As := [.ref x, .int 1, .int x2, .ref o]) (rest := []) ⟨hx, hb, hml, hown, hts⟩ (w_branch_x l hfl ae D cI cJ cS cO x t n sp 0 1 x2 o (fun _ => 0) _ hv) (vx_cwSW 4 hts (gT q_837 q_835 q_836 q_97) rfl rfl rfl (by decide +kernel) ⟨Nat.le_of_ble_eq_true rfl, Nat.le_of_ble_eq_true rfl⟩) ⟨Pw.blind, Pw.mk_call hP hK hD hS hA hG [0, 3] rfl (by decide)⟩ rfl rfl hl.1 rfl (lv_room (Nat.le_of_ble_eq_true rfl)) dL_law_798 ⟨Nat.le_of_ble_eq_true rfl, Nat.le_of_ble_eq_true rfl⟩) hP hD hS hA [0, 3] [1, 2] rfl rfl (by decide) (by decide) (fun r_19 u_20 H locs hw hP hD hS => ?_)
    obtain rfl : r_19 = 1 := hw
    have hP : va_P D vwCl [(mo, .inr (12, [.int 0, .ref vl, .ref sl])), (sl, .inr (0, [.int 0, .ref ae, .int 0])), (x, .inr (6, [.ref t, .ref n, .ref sp, .int 0])), (o, .inl (cJ, 1, .inr (.inl (fun _ => 0))))] H := hP
    have hD : va_D A [(mo, .inr (12, [.int 0, .ref vl, .ref sl])), (sl, .inr (0, [.int 0, .ref ae, .int 0])), (x, .inr (6, [.ref t, .ref n, .ref sp, .int 0])), (o, .inl (cJ, 1, .inr (.inl (fun _ => 0))))] := hD
    refine lv_istore (lv' := [(5, .int 1), (0, .ref b), (1, .ref x), (2, .ref mo), (3, .ref o), (4, .int 0)]) hx hb dL_law_801 hl (by decide) rfl (fun ls hl => ?_)
    refine lv_aload_n hx hb dL_law_803 rfl (lv_at hl 3 rfl) ?_
    refine lv_aload_n hx hb dL_law_804 rfl (lv_at hl 1 rfl) ?_
    refine lv_iload hx hb dL_law_805 (lv_at hl 5 rfl) ?_
    refine lv_iconst (v := 1) hx hb dL_law_807 (by decide) ?_
    refine lv_iadd hx hb dL_law_808 ?_
    refine lv_topi (fun x_21 ex_21 => ?_)
    obtain rfl : x_21 = 1 := ex_21.trans (by decide)
    refine va_sld hx hb hX hbl hbA hS (vp_in_iff.mpr (by decide)) dL_law_809 ?_
    refine lv_topi (fun y_22 ey_22 => ?_)
    rw [show y_22 = x1 from ey_22.trans e1]
    refine lv_if_eq (tgt := 817) hx hb dL_law_810 (by decide) (fun c_810 => absurd c_810 c_783) (fun c_810 => ?_)
    refine lv_iconst (v := 1) hx hb dL_law_813 (by decide) ?_
    refine lv_goto (tgt := 818) hx hb dL_law_814 (by decide) ?_
    refine lv_aload_n hx hb dL_law_818 rfl (lv_at hl 1 rfl) ?_
    refine lv_iload hx hb dL_law_819 (lv_at hl 5 rfl) ?_
    refine lv_iconst (v := 2) hx hb dL_law_821 (by decide) ?_
    refine lv_iadd hx hb dL_law_822 ?_
    refine lv_topi (fun x_23 ex_23 => ?_)
    obtain rfl : x_23 = 2 := ex_23.trans (by decide)
    refine va_sld hx hb hX hbl hbA hS (vp_in_iff.mpr (by decide)) dL_law_823 ?_
    refine lv_topi (fun y_24 ey_24 => ?_)
    rw [show y_24 = x2 from ey_24.trans e2]
    refine kc_i (wr := [(x, .inr (6, [.ref t, .ref n, .ref sp, .int 0])), (o, .inl (cJ, 1, .inr (.inl (fun _ => 0))))]) (va_runV (As := [.int 1, .int x2]) (rest := []) ⟨hx, hb, hml, hown, hts⟩ (m_branch_x l hfl ae D cI cJ cS cO mo vl sl 1 x2 _ hv) (cwV 2 hts (gV q_1212 q_1209 q_1210 q_1211 q_104) rfl rfl rfl (by decide +kernel) ⟨Nat.le_of_ble_eq_true rfl, Nat.le_of_ble_eq_true rfl⟩) ⟨Pw.blind, va_recv hK hP (ci := 12) (q0 := 0) rfl rfl, Pw.mk_call hP hK hD hS hA hG [0, 1] rfl (by decide)⟩ rfl rfl hl.1 rfl (lv_room (Nat.le_of_ble_eq_true rfl)) dL_law_824 ⟨Nat.le_of_ble_eq_true rfl, Nat.le_of_ble_eq_true rfl⟩) hP hD hS hA [0, 1] [2, 3] rfl rfl (by decide) (by decide) (fun r_25 u_26 H locs hw hP hD hS => ?_)
    obtain rfl : r_25 = 0 := hw
    have hP : va_P D vwCl [(x, .inr (6, [.ref t, .ref n, .ref sp, .int 0])), (o, .inl (cJ, 1, .inr (.inl (fun _ => 0)))), (mo, .inr (12, [.int 1, .ref vl, .ref sl])), (sl, .inr (0, [.int 0, .ref ae, .int 0]))] H := hP
    have hD : va_D A [(x, .inr (6, [.ref t, .ref n, .ref sp, .int 0])), (o, .inl (cJ, 1, .inr (.inl (fun _ => 0)))), (mo, .inr (12, [.int 1, .ref vl, .ref sl])), (sl, .inr (0, [.int 0, .ref ae, .int 0]))] := hD
    refine lv_istore (lv' := [(6, .int 0), (5, .int 1), (0, .ref b), (1, .ref x), (2, .ref mo), (3, .ref o), (4, .int 0)]) hx hb dL_law_827 hl (by decide) rfl (fun ls hl => ?_)
    refine lv_aload_n hx hb dL_law_829 rfl (lv_at hl 4 rfl) ?_
    refine kc_i (wr := [(x, .inr (6, [.ref t, .ref n, .ref sp, .int 0])), (o, .inl (cJ, 1, .inr (.inl (fun _ => 0)))), (sl, .inr (0, [.int 0, .ref ae, .int 0]))]) (va_runV (As := []) (rest := []) ⟨hx, hb, hml, hown, hts⟩ (m_thrown l hfl ae D cI cJ cS cO mo vl sl 1 _) (cwV 0 hts (gV q_1017 q_1014 q_1015 q_1016 q_104) rfl rfl rfl (by decide +kernel) ⟨Nat.le_of_ble_eq_true rfl, Nat.le_of_ble_eq_true rfl⟩) ⟨Pw.blind, va_recv hK hP (ci := 12) (q0 := 2) rfl rfl, Pw.mk_call hP hK hD hS hA hG [2] rfl (by decide)⟩ rfl rfl hl.1 rfl (lv_room (Nat.le_of_ble_eq_true rfl)) dL_law_830 ⟨Nat.le_of_ble_eq_true rfl, Nat.le_of_ble_eq_true rfl⟩) hP hD hS hA [2] [0, 1, 3] rfl rfl (by decide) (by decide) (fun r_27 u_28 H locs hw hP hD hS => ?_)
    obtain rfl : r_27 = 1 := hw
    have hP : va_P D vwCl [(x, .inr (6, [.ref t, .ref n, .ref sp, .int 0])), (o, .inl (cJ, 1, .inr (.inl (fun _ => 0)))), (sl, .inr (0, [.int 0, .ref ae, .int 0])), (mo, .inr (12, [.int 1, .ref vl, .ref sl]))] H := hP
    have hD : va_D A [(x, .inr (6, [.ref t, .ref n, .ref sp, .int 0])), (o, .inl (cJ, 1, .inr (.inl (fun _ => 0)))), (sl, .inr (0, [.int 0, .ref ae, .int 0])), (mo, .inr (12, [.int 1, .ref vl, .ref sl]))] := hD
    refine lv_iload hx hb dL_law_833 (lv_at hl 1 rfl) ?_
    refine lv_icmp_eq (tgt := 840) hx hb dL_law_835 (by decide) (fun c_835 => ?_) (fun c_835 => absurd (by decide) c_835)
    refine lv_iload hx hb dL_law_840 (lv_at hl 1 rfl) ?_
    refine lv_if_ne (tgt := 857) hx hb dL_law_842 (by decide) (fun c_842 => ?_) (fun c_842 => absurd c_842 (by decide))
    refine lv_goto (tgt := 1950) hx hb dL_law_857 (by decide) ?_
    refine lv_iinc (v := 5) (lv' := [(4, .int 5), (6, .int 0), (5, .int 1), (0, .ref b), (1, .ref x), (2, .ref mo), (3, .ref o)]) hx hb dL_law_1950 hl (k := 6) rfl (by decide) (by decide) rfl (fun ls hl => ?_)
    refine lv_goto (tgt := 23) hx hb dL_law_1953 (by decide) ?_
    refine lv_iload hx hb dL_law_23 (lv_at hl 0 rfl) ?_
    refine lv_aload_n hx hb dL_law_25 rfl (lv_at hl 3 rfl) ?_
    refine va_slen hx hb hX hbl hbA hS dL_law_26 ?_
    refine lv_topi (fun y_29 ey_29 => ?_)
    obtain rfl : y_29 = 5 := ey_29.trans (by decide)
    refine lv_iconst (v := 5) hx hb dL_law_27 (by decide) ?_
    refine lv_isub hx hb dL_law_28 ?_
    refine lv_topi (fun x_30 ex_30 => ?_)
    obtain rfl : x_30 = 0 := ex_30.trans (by decide)
    refine lv_icmp_gt (tgt := 1956) hx hb dL_law_29 (by decide) (fun c_29 => ?_) (fun c_29 => absurd (by decide) c_29)
    refine lv_iconst (v := 1) hx hb dL_law_1956 (by decide) ?_
    refine va_forget (fun q hq => by have h9 := hS.2.2 q hq; rw [← hAe] at h9; exact h9) ?_
    refine W.widen (k := 600002) (n := 7302232) (Nat.le_of_ble_eq_true rfl) (Nat.le_of_ble_eq_true rfl) ?_
    refine W.base ?_
    exact lw_ret (Drawn.sameBut.refl s.drawn lw_cs) hx hb hr hlocks dL_law_1957

set_option maxHeartbeats 4000000 in
set_option maxRecDepth 100000 in
theorem lc_9 {p : Program} {l : Launch} {e : Env} {s : State} {m : MethodId} {below : List Frame} {meth : Method} {c : Code} {b : Nat} {xs : Nat → Int32} (hfl : l.stackTraces = false) {ae : Nat} {D : va_G} {cI cJ cS cO : ClassId} (C0 : lw_At p s m meth c b 5 xs) (hK : va_K D vwCl [(cI, .int), (cJ, .long), (cS, .object "IronwoodModel$State"), (cO, .object "java/lang/Object")] s) (hG : Gl ae (fun q : Nat => s.heap.size ≤ q) s s.heap) (x : Nat) (t : Nat) (n : Nat) (sp : Nat) (t_kinds : Nat) (t_codes : Nat) (t_targets : Nat) (t_settings : Nat) (t_sources : Nat) (t_accessCounts : Nat) (t_acts : Nat) (t_actVariables : Nat) (t_actPlaces : Nat) (mo : Nat) (vl : Nat) (sl : Nat) (o : Nat) (e1 : xs (Int32.toNatClampNeg 1) = (-1)) (x2 : Int32) (e2 : xs (Int32.toNatClampNeg 2) = x2) (x3 : Int32) (e3 : xs (Int32.toNatClampNeg 3) = x3) (x4 : Int32) (e4 : xs (Int32.toNatClampNeg 4) = x4)  (H : Heap) (locs : List Loc) (hP : va_P D vwCl [(x, .inr (6, [.ref t, .ref n, .ref sp, .int 0])), (t, .inr (4, [.ref t_kinds, .int 0, .long 0, .long 0, .ref t_codes, .ref t_targets, .ref t_settings, .ref t_sources, .ref t_accessCounts, .int 0, .ref t_acts, .ref t_actVariables, .ref t_actPlaces])), (t_codes, .inl (cI, 40, .inl (fun _ => 0))), (t_targets, .inl (cI, 40, .inl (fun _ => 0))), (t_settings, .inl (cI, 40, .inl (fun _ => 0))), (t_sources, .inl (cI, 40, .inl (fun _ => 0))), (t_accessCounts, .inl (cI, 40, .inl (fun _ => 0))), (mo, .inr (12, [.int 0, .ref vl, .ref sl])), (sl, .inr (0, [.int 0, .ref ae, .int 0])), (o, .inl (cJ, 1, .inr (.inl (fun _ => 0))))] H) (hD : va_D (fun q : Nat => s.heap.size ≤ q) [(x, .inr (6, [.ref t, .ref n, .ref sp, .int 0])), (t, .inr (4, [.ref t_kinds, .int 0, .long 0, .long 0, .ref t_codes, .ref t_targets, .ref t_settings, .ref t_sources, .ref t_accessCounts, .int 0, .ref t_acts, .ref t_actVariables, .ref t_actPlaces])), (t_codes, .inl (cI, 40, .inl (fun _ => 0))), (t_targets, .inl (cI, 40, .inl (fun _ => 0))), (t_settings, .inl (cI, 40, .inl (fun _ => 0))), (t_sources, .inl (cI, 40, .inl (fun _ => 0))), (t_accessCounts, .inl (cI, 40, .inl (fun _ => 0))), (mo, .inr (12, [.int 0, .ref vl, .ref sl])), (sl, .inr (0, [.int 0, .ref ae, .int 0])), (o, .inl (cJ, 1, .inr (.inl (fun _ => 0))))]) (hS : va_S (fun q : Nat => s.heap.size ≤ q) s.heap H locs) (ls : Array Slot) (hl : lv_has ls 9 [(0, .ref b), (1, .ref x), (2, .ref mo), (3, .ref o), (4, .int 0)]) : W p l e room_1 s m #[Value.ref b] below meth c H locs 61 3597 (lw_Z below #[Value.ref b] s) (F0 m 860 ls []) := by
  obtain ⟨hx, hb, hr, hml, hown, hts0, hX, hbl, hlocks, hgv⟩ := id C0
  have hts := law_hts hts0
  have hA : ∀ q : Nat, s.heap.size ≤ q → (fun q : Nat => s.heap.size ≤ q) q := fun _ h => h
  have hbA : ¬ (fun q : Nat => s.heap.size ≤ q) b := Nat.not_le.mpr hbl
  generalize hAe : (fun q : Nat => s.heap.size ≤ q) = A at hD hG hS hA hbA
  refine lv_aload_n hx hb dL_law_860 rfl (lv_at hl 1 rfl) ?_
  refine lv_aload_n hx hb dL_law_861 rfl (lv_at hl 0 rfl) ?_
  refine lv_iload hx hb dL_law_862 (lv_at hl 4 rfl) ?_
  refine lv_iconst (v := 1) hx hb dL_law_864 (by decide) ?_
  refine lv_iadd hx hb dL_law_865 ?_
  refine lv_topi (fun x_1 ex_1 => ?_)
  obtain rfl : x_1 = 1 := ex_1.trans (by decide)
  refine va_sld hx hb hX hbl hbA hS (vp_in_iff.mpr (by decide)) dL_law_866 ?_
  refine lv_topi (fun y_2 ey_2 => ?_)
  obtain rfl : y_2 = (-1) := ey_2.trans e1
  refine lv_aload_n hx hb dL_law_867 rfl (lv_at hl 3 rfl) ?_
  refine kc_i (wr := [(mo, .inr (12, [.int 0, .ref vl, .ref sl])), (sl, .inr (0, [.int 0, .ref ae, .int 0]))]) (vx_runSW (As := [.ref x, .int (-1), .ref o]) (rest := []) ⟨hx, hb, hml, hown, hts⟩ (w_finish l hfl ae D cI cJ cS cO x t n sp 0 t_kinds 0 0 0 t_acts t_actVariables t_actPlaces t_codes (fun _ => 0) t_targets (fun _ => 0) t_settings (fun _ => 0) t_sources (fun _ => 0) t_accessCounts (fun _ => 0) o (fun _ => 0) _) (vx_cwSW 3 hts (gT q_849 q_847 q_848 q_97) rfl rfl rfl (by decide +kernel) ⟨Nat.le_of_ble_eq_true rfl, Nat.le_of_ble_eq_true rfl⟩) ⟨Pw.blind, Pw.mk_call hP hK hD hS hA hG [0, 1, 2, 3, 4, 5, 6, 9] rfl (by decide)⟩ rfl rfl hl.1 rfl (lv_room (Nat.le_of_ble_eq_true rfl)) dL_law_868 ⟨Nat.le_of_ble_eq_true rfl, Nat.le_of_ble_eq_true rfl⟩) hP hD hS hA [0, 1, 2, 3, 4, 5, 6, 9] [7, 8] rfl rfl (by decide) (by decide) (fun r_3 u_4 H locs hw hP hD hS => ?_)
  obtain ⟨ofc_5, oft_6, ofse_7, ofso_8, ofac_9⟩ := u_4
  obtain rfl : r_3 = 0 := hw
  have hP : va_P D vwCl [(mo, .inr (12, [.int 0, .ref vl, .ref sl])), (sl, .inr (0, [.int 0, .ref ae, .int 0])), (x, .inr (6, [.ref t, .ref n, .ref sp, .int 0])), (t, .inr (4, [.ref t_kinds, .int 0, .long 0, .long 0, .ref t_codes, .ref t_targets, .ref t_settings, .ref t_sources, .ref t_accessCounts, .int 1, .ref t_acts, .ref t_actVariables, .ref t_actPlaces])), (t_codes, .inl (cI, 40, .inl ofc_5)), (t_targets, .inl (cI, 40, .inl oft_6)), (t_settings, .inl (cI, 40, .inl ofse_7)), (t_sources, .inl (cI, 40, .inl ofso_8)), (t_accessCounts, .inl (cI, 40, .inl ofac_9)), (o, .inl (cJ, 1, .inr (.inl (vp_updL (fun _ => 0) (Int32.toNatClampNeg 0) 0))))] H := hP
  have hD : va_D A [(mo, .inr (12, [.int 0, .ref vl, .ref sl])), (sl, .inr (0, [.int 0, .ref ae, .int 0])), (x, .inr (6, [.ref t, .ref n, .ref sp, .int 0])), (t, .inr (4, [.ref t_kinds, .int 0, .long 0, .long 0, .ref t_codes, .ref t_targets, .ref t_settings, .ref t_sources, .ref t_accessCounts, .int 1, .ref t_acts, .ref t_actVariables, .ref t_actPlaces])), (t_codes, .inl (cI, 40, .inl ofc_5)), (t_targets, .inl (cI, 40, .inl oft_6)), (t_settings, .inl (cI, 40, .inl ofse_7)), (t_sources, .inl (cI, 40, .inl ofso_8)), (t_accessCounts, .inl (cI, 40, .inl ofac_9)), (o, .inl (cJ, 1, .inr (.inl (vp_updL (fun _ => 0) (Int32.toNatClampNeg 0) 0))))] := hD
  refine lv_istore (lv' := [(5, .int 0), (0, .ref b), (1, .ref x), (2, .ref mo), (3, .ref o), (4, .int 0)]) hx hb dL_law_871 hl (by decide) rfl (fun ls hl => ?_)
  refine lv_aload_n hx hb dL_law_873 rfl (lv_at hl 3 rfl) ?_
  refine lv_aload_n hx hb dL_law_874 rfl (lv_at hl 1 rfl) ?_
  refine lv_iload hx hb dL_law_875 (lv_at hl 5 rfl) ?_
  refine lv_iconst (v := 1) hx hb dL_law_877 (by decide) ?_
  refine lv_iadd hx hb dL_law_878 ?_
  refine lv_topi (fun x_10 ex_10 => ?_)
  obtain rfl : x_10 = 1 := ex_10.trans (by decide)
  refine va_sld hx hb hX hbl hbA hS (vp_in_iff.mpr (by decide)) dL_law_879 ?_
  refine lv_topi (fun y_11 ey_11 => ?_)
  obtain rfl : y_11 = (-1) := ey_11.trans e1
  refine kc_i (wr := [(x, .inr (6, [.ref t, .ref n, .ref sp, .int 0])), (t, .inr (4, [.ref t_kinds, .int 0, .long 0, .long 0, .ref t_codes, .ref t_targets, .ref t_settings, .ref t_sources, .ref t_accessCounts, .int 1, .ref t_acts, .ref t_actVariables, .ref t_actPlaces])), (t_codes, .inl (cI, 40, .inl ofc_5)), (t_targets, .inl (cI, 40, .inl oft_6)), (t_settings, .inl (cI, 40, .inl ofse_7)), (t_sources, .inl (cI, 40, .inl ofso_8)), (t_accessCounts, .inl (cI, 40, .inl ofac_9)), (o, .inl (cJ, 1, .inr (.inl (vp_updL (fun _ => 0) (Int32.toNatClampNeg 0) 0))))]) (va_runV (As := [.int (-1)]) (rest := []) ⟨hx, hb, hml, hown, hts⟩ (m_finish l hfl ae D cI cJ cS cO mo vl sl _) (cwV 1 hts (gV q_1216 q_1213 q_1214 q_1215 q_104) rfl rfl rfl (by decide +kernel) ⟨Nat.le_of_ble_eq_true rfl, Nat.le_of_ble_eq_true rfl⟩) ⟨Pw.blind, va_recv hK hP (ci := 12) (q0 := 0) rfl rfl, Pw.mk_call hP hK hD hS hA hG [0, 1] rfl (by decide)⟩ rfl rfl hl.1 rfl (lv_room (Nat.le_of_ble_eq_true rfl)) dL_law_880 ⟨Nat.le_of_ble_eq_true rfl, Nat.le_of_ble_eq_true rfl⟩) hP hD hS hA [0, 1] [2, 3, 4, 5, 6, 7, 8, 9] rfl rfl (by decide) (by decide) (fun r_12 u_13 H locs hw hP hD hS => ?_)
  obtain rfl : r_12 = 0 := hw
  have hP : va_P D vwCl [(x, .inr (6, [.ref t, .ref n, .ref sp, .int 0])), (t, .inr (4, [.ref t_kinds, .int 0, .long 0, .long 0, .ref t_codes, .ref t_targets, .ref t_settings, .ref t_sources, .ref t_accessCounts, .int 1, .ref t_acts, .ref t_actVariables, .ref t_actPlaces])), (t_codes, .inl (cI, 40, .inl ofc_5)), (t_targets, .inl (cI, 40, .inl oft_6)), (t_settings, .inl (cI, 40, .inl ofse_7)), (t_sources, .inl (cI, 40, .inl ofso_8)), (t_accessCounts, .inl (cI, 40, .inl ofac_9)), (o, .inl (cJ, 1, .inr (.inl (vp_updL (fun _ => 0) (Int32.toNatClampNeg 0) 0)))), (mo, .inr (12, [.int 0, .ref vl, .ref sl]))] H := hP
  have hD : va_D A [(x, .inr (6, [.ref t, .ref n, .ref sp, .int 0])), (t, .inr (4, [.ref t_kinds, .int 0, .long 0, .long 0, .ref t_codes, .ref t_targets, .ref t_settings, .ref t_sources, .ref t_accessCounts, .int 1, .ref t_acts, .ref t_actVariables, .ref t_actPlaces])), (t_codes, .inl (cI, 40, .inl ofc_5)), (t_targets, .inl (cI, 40, .inl oft_6)), (t_settings, .inl (cI, 40, .inl ofse_7)), (t_sources, .inl (cI, 40, .inl ofso_8)), (t_accessCounts, .inl (cI, 40, .inl ofac_9)), (o, .inl (cJ, 1, .inr (.inl (vp_updL (fun _ => 0) (Int32.toNatClampNeg 0) 0)))), (mo, .inr (12, [.int 0, .ref vl, .ref sl]))] := hD
  refine lv_istore (lv' := [(6, .int 0), (5, .int 0), (0, .ref b), (1, .ref x), (2, .ref mo), (3, .ref o), (4, .int 0)]) hx hb dL_law_883 hl (by decide) rfl (fun ls hl => ?_)
  refine lv_aload_n hx hb dL_law_885 rfl (lv_at hl 4 rfl) ?_
  refine kc_i (wr := [(x, .inr (6, [.ref t, .ref n, .ref sp, .int 0])), (t, .inr (4, [.ref t_kinds, .int 0, .long 0, .long 0, .ref t_codes, .ref t_targets, .ref t_settings, .ref t_sources, .ref t_accessCounts, .int 1, .ref t_acts, .ref t_actVariables, .ref t_actPlaces])), (t_codes, .inl (cI, 40, .inl ofc_5)), (t_targets, .inl (cI, 40, .inl oft_6)), (t_settings, .inl (cI, 40, .inl ofse_7)), (t_sources, .inl (cI, 40, .inl ofso_8)), (t_accessCounts, .inl (cI, 40, .inl ofac_9)), (o, .inl (cJ, 1, .inr (.inl (vp_updL (fun _ => 0) (Int32.toNatClampNeg 0) 0))))]) (va_runV (As := []) (rest := []) ⟨hx, hb, hml, hown, hts⟩ (m_thrown l hfl ae D cI cJ cS cO mo vl sl 0 _) (cwV 0 hts (gV q_1017 q_1014 q_1015 q_1016 q_104) rfl rfl rfl (by decide +kernel) ⟨Nat.le_of_ble_eq_true rfl, Nat.le_of_ble_eq_true rfl⟩) ⟨Pw.blind, va_recv hK hP (ci := 12) (q0 := 8) rfl rfl, Pw.mk_call hP hK hD hS hA hG [8] rfl (by decide)⟩ rfl rfl hl.1 rfl (lv_room (Nat.le_of_ble_eq_true rfl)) dL_law_886 ⟨Nat.le_of_ble_eq_true rfl, Nat.le_of_ble_eq_true rfl⟩) hP hD hS hA [8] [0, 1, 2, 3, 4, 5, 6, 7] rfl rfl (by decide) (by decide) (fun r_14 u_15 H locs hw hP hD hS => ?_)
  obtain rfl : r_14 = 0 := hw
  have hP : va_P D vwCl [(x, .inr (6, [.ref t, .ref n, .ref sp, .int 0])), (t, .inr (4, [.ref t_kinds, .int 0, .long 0, .long 0, .ref t_codes, .ref t_targets, .ref t_settings, .ref t_sources, .ref t_accessCounts, .int 1, .ref t_acts, .ref t_actVariables, .ref t_actPlaces])), (t_codes, .inl (cI, 40, .inl ofc_5)), (t_targets, .inl (cI, 40, .inl oft_6)), (t_settings, .inl (cI, 40, .inl ofse_7)), (t_sources, .inl (cI, 40, .inl ofso_8)), (t_accessCounts, .inl (cI, 40, .inl ofac_9)), (o, .inl (cJ, 1, .inr (.inl (vp_updL (fun _ => 0) (Int32.toNatClampNeg 0) 0)))), (mo, .inr (12, [.int 0, .ref vl, .ref sl]))] H := hP
  have hD : va_D A [(x, .inr (6, [.ref t, .ref n, .ref sp, .int 0])), (t, .inr (4, [.ref t_kinds, .int 0, .long 0, .long 0, .ref t_codes, .ref t_targets, .ref t_settings, .ref t_sources, .ref t_accessCounts, .int 1, .ref t_acts, .ref t_actVariables, .ref t_actPlaces])), (t_codes, .inl (cI, 40, .inl ofc_5)), (t_targets, .inl (cI, 40, .inl oft_6)), (t_settings, .inl (cI, 40, .inl ofse_7)), (t_sources, .inl (cI, 40, .inl ofso_8)), (t_accessCounts, .inl (cI, 40, .inl ofac_9)), (o, .inl (cJ, 1, .inr (.inl (vp_updL (fun _ => 0) (Int32.toNatClampNeg 0) 0)))), (mo, .inr (12, [.int 0, .ref vl, .ref sl]))] := hD
  refine lv_iload hx hb dL_law_889 (lv_at hl 1 rfl) ?_
  refine lv_icmp_eq (tgt := 896) hx hb dL_law_891 (by decide) (fun c_891 => ?_) (fun c_891 => absurd (by decide) c_891)
  refine lv_iload hx hb dL_law_896 (lv_at hl 1 rfl) ?_
  refine lv_if_ne (tgt := 913) hx hb dL_law_898 (by decide) (fun c_898 => absurd (by decide) c_898) (fun c_898 => ?_)
  refine lv_aload_n hx hb dL_law_901 rfl (lv_at hl 5 rfl) ?_
  refine lv_iconst (v := 0) hx hb dL_law_902 (by decide) ?_
  refine va_lald hx hb hK hP 7 1 rfl rfl (vp_in_iff.mpr (by decide)) dL_law_903 ?_
  refine lv_topl (fun y_16 ey_16 => ?_)
  obtain rfl : y_16 = 0 := ey_16.trans (by simp [vp_updL])
  refine lv_iload hx hb dL_law_904 (lv_at hl 0 rfl) ?_
  refine lv_i2l (v := 0) hx hb dL_law_906 (by decide) ?_
  refine W.lcmp hx hb dL_law_907 ?_
  refine lv_topi (fun y_17 ey_17 => ?_)
  obtain rfl : y_17 = 0 := ey_17.trans (by decide)
  refine lv_if_eq (tgt := 913) hx hb dL_law_908 (by decide) (fun c_908 => ?_) (fun c_908 => absurd (by decide) c_908)
  refine lv_goto (tgt := 1950) hx hb dL_law_913 (by decide) ?_
  refine lv_iinc (v := 5) (lv' := [(4, .int 5), (6, .int 0), (5, .int 0), (0, .ref b), (1, .ref x), (2, .ref mo), (3, .ref o)]) hx hb dL_law_1950 hl (k := 6) rfl (by decide) (by decide) rfl (fun ls hl => ?_)
  refine lv_goto (tgt := 23) hx hb dL_law_1953 (by decide) ?_
  refine lv_iload hx hb dL_law_23 (lv_at hl 0 rfl) ?_
  refine lv_aload_n hx hb dL_law_25 rfl (lv_at hl 3 rfl) ?_
  refine va_slen hx hb hX hbl hbA hS dL_law_26 ?_
  refine lv_topi (fun y_18 ey_18 => ?_)
  obtain rfl : y_18 = 5 := ey_18.trans (by decide)
  refine lv_iconst (v := 5) hx hb dL_law_27 (by decide) ?_
  refine lv_isub hx hb dL_law_28 ?_
  refine lv_topi (fun x_19 ex_19 => ?_)
  obtain rfl : x_19 = 0 := ex_19.trans (by decide)
  refine lv_icmp_gt (tgt := 1956) hx hb dL_law_29 (by decide) (fun c_29 => ?_) (fun c_29 => absurd (by decide) c_29)
  refine lv_iconst (v := 1) hx hb dL_law_1956 (by decide) ?_
  refine va_forget (fun q hq => by have h9 := hS.2.2 q hq; rw [← hAe] at h9; exact h9) ?_
  refine W.widen (k := 600002) (n := 7302232) (Nat.le_of_ble_eq_true rfl) (Nat.le_of_ble_eq_true rfl) ?_
  refine W.base ?_
  exact lw_ret (Drawn.sameBut.refl s.drawn lw_cs) hx hb hr hlocks dL_law_1957

set_option maxHeartbeats 4000000 in
set_option maxRecDepth 100000 in
theorem lc_9x {p : Program} {l : Launch} {e : Env} {s : State} {m : MethodId} {below : List Frame} {meth : Method} {c : Code} {b : Nat} {xs : Nat → Int32} (hfl : l.stackTraces = false) {ae : Nat} {D : va_G} {cI cJ cS cO : ClassId} (C0 : lw_At p s m meth c b 5 xs) (hK : va_K D vwCl [(cI, .int), (cJ, .long), (cS, .object "IronwoodModel$State"), (cO, .object "java/lang/Object")] s) (hG : Gl ae (fun q : Nat => s.heap.size ≤ q) s s.heap) (x : Nat) (t : Nat) (n : Nat) (sp : Nat) (t_kinds : Nat) (t_codes : Nat) (t_targets : Nat) (t_settings : Nat) (t_sources : Nat) (t_accessCounts : Nat) (t_acts : Nat) (t_actVariables : Nat) (t_actPlaces : Nat) (mo : Nat) (vl : Nat) (sl : Nat) (o : Nat) (x1 : Int32) (e1 : xs (Int32.toNatClampNeg 1) = x1) (x2 : Int32) (e2 : xs (Int32.toNatClampNeg 2) = x2) (x3 : Int32) (e3 : xs (Int32.toNatClampNeg 3) = x3) (x4 : Int32) (e4 : xs (Int32.toNatClampNeg 4) = x4) (hv : ¬ x1 = -1) (H : Heap) (locs : List Loc) (hP : va_P D vwCl [(x, .inr (6, [.ref t, .ref n, .ref sp, .int 0])), (t, .inr (4, [.ref t_kinds, .int 0, .long 0, .long 0, .ref t_codes, .ref t_targets, .ref t_settings, .ref t_sources, .ref t_accessCounts, .int 0, .ref t_acts, .ref t_actVariables, .ref t_actPlaces])), (mo, .inr (12, [.int 0, .ref vl, .ref sl])), (vl, .inr (0, [.int 0, .ref ae, .int 0])), (o, .inl (cJ, 1, .inr (.inl (fun _ => 0))))] H) (hD : va_D (fun q : Nat => s.heap.size ≤ q) [(x, .inr (6, [.ref t, .ref n, .ref sp, .int 0])), (t, .inr (4, [.ref t_kinds, .int 0, .long 0, .long 0, .ref t_codes, .ref t_targets, .ref t_settings, .ref t_sources, .ref t_accessCounts, .int 0, .ref t_acts, .ref t_actVariables, .ref t_actPlaces])), (mo, .inr (12, [.int 0, .ref vl, .ref sl])), (vl, .inr (0, [.int 0, .ref ae, .int 0])), (o, .inl (cJ, 1, .inr (.inl (fun _ => 0))))]) (hS : va_S (fun q : Nat => s.heap.size ≤ q) s.heap H locs) (ls : Array Slot) (hl : lv_has ls 9 [(0, .ref b), (1, .ref x), (2, .ref mo), (3, .ref o), (4, .int 0)]) : W p l e room_1 s m #[Value.ref b] below meth c H locs 61 3597 (lw_Z below #[Value.ref b] s) (F0 m 860 ls []) := by
  obtain ⟨hx, hb, hr, hml, hown, hts0, hX, hbl, hlocks, hgv⟩ := id C0
  have hts := law_hts hts0
  have hA : ∀ q : Nat, s.heap.size ≤ q → (fun q : Nat => s.heap.size ≤ q) q := fun _ h => h
  have hbA : ¬ (fun q : Nat => s.heap.size ≤ q) b := Nat.not_le.mpr hbl
  generalize hAe : (fun q : Nat => s.heap.size ≤ q) = A at hD hG hS hA hbA
  refine lv_aload_n hx hb dL_law_860 rfl (lv_at hl 1 rfl) ?_
  refine lv_aload_n hx hb dL_law_861 rfl (lv_at hl 0 rfl) ?_
  refine lv_iload hx hb dL_law_862 (lv_at hl 4 rfl) ?_
  refine lv_iconst (v := 1) hx hb dL_law_864 (by decide) ?_
  refine lv_iadd hx hb dL_law_865 ?_
  refine lv_topi (fun x_1 ex_1 => ?_)
  obtain rfl : x_1 = 1 := ex_1.trans (by decide)
  refine va_sld hx hb hX hbl hbA hS (vp_in_iff.mpr (by decide)) dL_law_866 ?_
  refine lv_topi (fun y_2 ey_2 => ?_)
  rw [show y_2 = x1 from ey_2.trans e1]
  refine lv_aload_n hx hb dL_law_867 rfl (lv_at hl 3 rfl) ?_
  refine kc_i (wr := [(mo, .inr (12, [.int 0, .ref vl, .ref sl])), (vl, .inr (0, [.int 0, .ref ae, .int 0]))]) (vx_runSW (As := [.ref x, .int x1, .ref o]) (rest := []) ⟨hx, hb, hml, hown, hts⟩ (w_finish_x l hfl ae D cI cJ cS cO x t n sp 0 t_kinds 0 0 t_codes t_targets t_settings t_sources t_accessCounts 0 t_acts t_actVariables t_actPlaces x1 o (fun _ => 0) _ hv) (vx_cwSW 3 hts (gT q_849 q_847 q_848 q_97) rfl rfl rfl (by decide +kernel) ⟨Nat.le_of_ble_eq_true rfl, Nat.le_of_ble_eq_true rfl⟩) ⟨Pw.blind, Pw.mk_call hP hK hD hS hA hG [0, 1, 4] rfl (by decide)⟩ rfl rfl hl.1 rfl (lv_room (Nat.le_of_ble_eq_true rfl)) dL_law_868 ⟨Nat.le_of_ble_eq_true rfl, Nat.le_of_ble_eq_true rfl⟩) hP hD hS hA [0, 1, 4] [2, 3] rfl rfl (by decide) (by decide) (fun r_3 u_4 H locs hw hP hD hS => ?_)
  obtain rfl : r_3 = 1 := hw
  have hP : va_P D vwCl [(mo, .inr (12, [.int 0, .ref vl, .ref sl])), (vl, .inr (0, [.int 0, .ref ae, .int 0])), (x, .inr (6, [.ref t, .ref n, .ref sp, .int 0])), (t, .inr (4, [.ref t_kinds, .int 0, .long 0, .long 0, .ref t_codes, .ref t_targets, .ref t_settings, .ref t_sources, .ref t_accessCounts, .int 0, .ref t_acts, .ref t_actVariables, .ref t_actPlaces])), (o, .inl (cJ, 1, .inr (.inl (fun _ => 0))))] H := hP
  have hD : va_D A [(mo, .inr (12, [.int 0, .ref vl, .ref sl])), (vl, .inr (0, [.int 0, .ref ae, .int 0])), (x, .inr (6, [.ref t, .ref n, .ref sp, .int 0])), (t, .inr (4, [.ref t_kinds, .int 0, .long 0, .long 0, .ref t_codes, .ref t_targets, .ref t_settings, .ref t_sources, .ref t_accessCounts, .int 0, .ref t_acts, .ref t_actVariables, .ref t_actPlaces])), (o, .inl (cJ, 1, .inr (.inl (fun _ => 0))))] := hD
  refine lv_istore (lv' := [(5, .int 1), (0, .ref b), (1, .ref x), (2, .ref mo), (3, .ref o), (4, .int 0)]) hx hb dL_law_871 hl (by decide) rfl (fun ls hl => ?_)
  refine lv_aload_n hx hb dL_law_873 rfl (lv_at hl 3 rfl) ?_
  refine lv_aload_n hx hb dL_law_874 rfl (lv_at hl 1 rfl) ?_
  refine lv_iload hx hb dL_law_875 (lv_at hl 5 rfl) ?_
  refine lv_iconst (v := 1) hx hb dL_law_877 (by decide) ?_
  refine lv_iadd hx hb dL_law_878 ?_
  refine lv_topi (fun x_5 ex_5 => ?_)
  obtain rfl : x_5 = 1 := ex_5.trans (by decide)
  refine va_sld hx hb hX hbl hbA hS (vp_in_iff.mpr (by decide)) dL_law_879 ?_
  refine lv_topi (fun y_6 ey_6 => ?_)
  rw [show y_6 = x1 from ey_6.trans e1]
  refine kc_i (wr := [(x, .inr (6, [.ref t, .ref n, .ref sp, .int 0])), (t, .inr (4, [.ref t_kinds, .int 0, .long 0, .long 0, .ref t_codes, .ref t_targets, .ref t_settings, .ref t_sources, .ref t_accessCounts, .int 0, .ref t_acts, .ref t_actVariables, .ref t_actPlaces])), (o, .inl (cJ, 1, .inr (.inl (fun _ => 0))))]) (va_runV (As := [.int x1]) (rest := []) ⟨hx, hb, hml, hown, hts⟩ (m_finish_x l hfl ae D cI cJ cS cO mo vl sl x1 _ hv) (cwV 1 hts (gV q_1216 q_1213 q_1214 q_1215 q_104) rfl rfl rfl (by decide +kernel) ⟨Nat.le_of_ble_eq_true rfl, Nat.le_of_ble_eq_true rfl⟩) ⟨Pw.blind, va_recv hK hP (ci := 12) (q0 := 0) rfl rfl, Pw.mk_call hP hK hD hS hA hG [0, 1] rfl (by decide)⟩ rfl rfl hl.1 rfl (lv_room (Nat.le_of_ble_eq_true rfl)) dL_law_880 ⟨Nat.le_of_ble_eq_true rfl, Nat.le_of_ble_eq_true rfl⟩) hP hD hS hA [0, 1] [2, 3, 4] rfl rfl (by decide) (by decide) (fun r_7 u_8 H locs hw hP hD hS => ?_)
  obtain rfl : r_7 = 0 := hw
  have hP : va_P D vwCl [(x, .inr (6, [.ref t, .ref n, .ref sp, .int 0])), (t, .inr (4, [.ref t_kinds, .int 0, .long 0, .long 0, .ref t_codes, .ref t_targets, .ref t_settings, .ref t_sources, .ref t_accessCounts, .int 0, .ref t_acts, .ref t_actVariables, .ref t_actPlaces])), (o, .inl (cJ, 1, .inr (.inl (fun _ => 0)))), (mo, .inr (12, [.int 1, .ref vl, .ref sl])), (vl, .inr (0, [.int 0, .ref ae, .int 0]))] H := hP
  have hD : va_D A [(x, .inr (6, [.ref t, .ref n, .ref sp, .int 0])), (t, .inr (4, [.ref t_kinds, .int 0, .long 0, .long 0, .ref t_codes, .ref t_targets, .ref t_settings, .ref t_sources, .ref t_accessCounts, .int 0, .ref t_acts, .ref t_actVariables, .ref t_actPlaces])), (o, .inl (cJ, 1, .inr (.inl (fun _ => 0)))), (mo, .inr (12, [.int 1, .ref vl, .ref sl])), (vl, .inr (0, [.int 0, .ref ae, .int 0]))] := hD
  refine lv_istore (lv' := [(6, .int 0), (5, .int 1), (0, .ref b), (1, .ref x), (2, .ref mo), (3, .ref o), (4, .int 0)]) hx hb dL_law_883 hl (by decide) rfl (fun ls hl => ?_)
  refine lv_aload_n hx hb dL_law_885 rfl (lv_at hl 4 rfl) ?_
  refine kc_i (wr := [(x, .inr (6, [.ref t, .ref n, .ref sp, .int 0])), (t, .inr (4, [.ref t_kinds, .int 0, .long 0, .long 0, .ref t_codes, .ref t_targets, .ref t_settings, .ref t_sources, .ref t_accessCounts, .int 0, .ref t_acts, .ref t_actVariables, .ref t_actPlaces])), (o, .inl (cJ, 1, .inr (.inl (fun _ => 0)))), (vl, .inr (0, [.int 0, .ref ae, .int 0]))]) (va_runV (As := []) (rest := []) ⟨hx, hb, hml, hown, hts⟩ (m_thrown l hfl ae D cI cJ cS cO mo vl sl 1 _) (cwV 0 hts (gV q_1017 q_1014 q_1015 q_1016 q_104) rfl rfl rfl (by decide +kernel) ⟨Nat.le_of_ble_eq_true rfl, Nat.le_of_ble_eq_true rfl⟩) ⟨Pw.blind, va_recv hK hP (ci := 12) (q0 := 3) rfl rfl, Pw.mk_call hP hK hD hS hA hG [3] rfl (by decide)⟩ rfl rfl hl.1 rfl (lv_room (Nat.le_of_ble_eq_true rfl)) dL_law_886 ⟨Nat.le_of_ble_eq_true rfl, Nat.le_of_ble_eq_true rfl⟩) hP hD hS hA [3] [0, 1, 2, 4] rfl rfl (by decide) (by decide) (fun r_9 u_10 H locs hw hP hD hS => ?_)
  obtain rfl : r_9 = 1 := hw
  have hP : va_P D vwCl [(x, .inr (6, [.ref t, .ref n, .ref sp, .int 0])), (t, .inr (4, [.ref t_kinds, .int 0, .long 0, .long 0, .ref t_codes, .ref t_targets, .ref t_settings, .ref t_sources, .ref t_accessCounts, .int 0, .ref t_acts, .ref t_actVariables, .ref t_actPlaces])), (o, .inl (cJ, 1, .inr (.inl (fun _ => 0)))), (vl, .inr (0, [.int 0, .ref ae, .int 0])), (mo, .inr (12, [.int 1, .ref vl, .ref sl]))] H := hP
  have hD : va_D A [(x, .inr (6, [.ref t, .ref n, .ref sp, .int 0])), (t, .inr (4, [.ref t_kinds, .int 0, .long 0, .long 0, .ref t_codes, .ref t_targets, .ref t_settings, .ref t_sources, .ref t_accessCounts, .int 0, .ref t_acts, .ref t_actVariables, .ref t_actPlaces])), (o, .inl (cJ, 1, .inr (.inl (fun _ => 0)))), (vl, .inr (0, [.int 0, .ref ae, .int 0])), (mo, .inr (12, [.int 1, .ref vl, .ref sl]))] := hD
  refine lv_iload hx hb dL_law_889 (lv_at hl 1 rfl) ?_
  refine lv_icmp_eq (tgt := 896) hx hb dL_law_891 (by decide) (fun c_891 => ?_) (fun c_891 => absurd (by decide) c_891)
  refine lv_iload hx hb dL_law_896 (lv_at hl 1 rfl) ?_
  refine lv_if_ne (tgt := 913) hx hb dL_law_898 (by decide) (fun c_898 => ?_) (fun c_898 => absurd c_898 (by decide))
  refine lv_goto (tgt := 1950) hx hb dL_law_913 (by decide) ?_
  refine lv_iinc (v := 5) (lv' := [(4, .int 5), (6, .int 0), (5, .int 1), (0, .ref b), (1, .ref x), (2, .ref mo), (3, .ref o)]) hx hb dL_law_1950 hl (k := 6) rfl (by decide) (by decide) rfl (fun ls hl => ?_)
  refine lv_goto (tgt := 23) hx hb dL_law_1953 (by decide) ?_
  refine lv_iload hx hb dL_law_23 (lv_at hl 0 rfl) ?_
  refine lv_aload_n hx hb dL_law_25 rfl (lv_at hl 3 rfl) ?_
  refine va_slen hx hb hX hbl hbA hS dL_law_26 ?_
  refine lv_topi (fun y_11 ey_11 => ?_)
  obtain rfl : y_11 = 5 := ey_11.trans (by decide)
  refine lv_iconst (v := 5) hx hb dL_law_27 (by decide) ?_
  refine lv_isub hx hb dL_law_28 ?_
  refine lv_topi (fun x_12 ex_12 => ?_)
  obtain rfl : x_12 = 0 := ex_12.trans (by decide)
  refine lv_icmp_gt (tgt := 1956) hx hb dL_law_29 (by decide) (fun c_29 => ?_) (fun c_29 => absurd (by decide) c_29)
  refine lv_iconst (v := 1) hx hb dL_law_1956 (by decide) ?_
  refine va_forget (fun q hq => by have h9 := hS.2.2 q hq; rw [← hAe] at h9; exact h9) ?_
  refine W.widen (k := 600002) (n := 7302232) (Nat.le_of_ble_eq_true rfl) (Nat.le_of_ble_eq_true rfl) ?_
  refine W.base ?_
  exact lw_ret (Drawn.sameBut.refl s.drawn lw_cs) hx hb hr hlocks dL_law_1957

set_option maxHeartbeats 4000000 in
set_option maxRecDepth 100000 in
theorem lc_10 {p : Program} {l : Launch} {e : Env} {s : State} {m : MethodId} {below : List Frame} {meth : Method} {c : Code} {b : Nat} {xs : Nat → Int32} (hfl : l.stackTraces = false) {ae : Nat} {D : va_G} {cI cJ cS cO : ClassId} (C0 : lw_At p s m meth c b 5 xs) (hK : va_K D vwCl [(cI, .int), (cJ, .long), (cS, .object "IronwoodModel$State"), (cO, .object "java/lang/Object")] s) (hG : Gl ae (fun q : Nat => s.heap.size ≤ q) s s.heap) (x : Nat) (t : Nat) (n : Nat) (sp : Nat) (t_kinds : Nat) (t_codes : Nat) (t_targets : Nat) (t_settings : Nat) (t_sources : Nat) (t_accessCounts : Nat) (t_acts : Nat) (t_actVariables : Nat) (t_actPlaces : Nat) (mo : Nat) (vl : Nat) (sl : Nat) (o : Nat) (x1 : Int32) (e1 : xs (Int32.toNatClampNeg 1) = x1) (x2 : Int32) (e2 : xs (Int32.toNatClampNeg 2) = x2) (x3 : Int32) (e3 : xs (Int32.toNatClampNeg 3) = x3) (x4 : Int32) (e4 : xs (Int32.toNatClampNeg 4) = x4)  (H : Heap) (locs : List Loc) (hP : va_P D vwCl [(x, .inr (6, [.ref t, .ref n, .ref sp, .int 0])), (t, .inr (4, [.ref t_kinds, .int 0, .long 0, .long 0, .ref t_codes, .ref t_targets, .ref t_settings, .ref t_sources, .ref t_accessCounts, .int 0, .ref t_acts, .ref t_actVariables, .ref t_actPlaces])), (mo, .inr (12, [.int 0, .ref vl, .ref sl])), (sl, .inr (0, [.int 0, .ref ae, .int 0])), (o, .inl (cJ, 1, .inr (.inl (fun _ => 0))))] H) (hD : va_D (fun q : Nat => s.heap.size ≤ q) [(x, .inr (6, [.ref t, .ref n, .ref sp, .int 0])), (t, .inr (4, [.ref t_kinds, .int 0, .long 0, .long 0, .ref t_codes, .ref t_targets, .ref t_settings, .ref t_sources, .ref t_accessCounts, .int 0, .ref t_acts, .ref t_actVariables, .ref t_actPlaces])), (mo, .inr (12, [.int 0, .ref vl, .ref sl])), (sl, .inr (0, [.int 0, .ref ae, .int 0])), (o, .inl (cJ, 1, .inr (.inl (fun _ => 0))))]) (hS : va_S (fun q : Nat => s.heap.size ≤ q) s.heap H locs) (ls : Array Slot) (hl : lv_has ls 9 [(0, .ref b), (1, .ref x), (2, .ref mo), (3, .ref o), (4, .int 0)]) : W p l e room_1 s m #[Value.ref b] below meth c H locs 61 3597 (lw_Z below #[Value.ref b] s) (F0 m 916 ls []) := by
  obtain ⟨hx, hb, hr, hml, hown, hts0, hX, hbl, hlocks, hgv⟩ := id C0
  have hts := law_hts hts0
  have hA : ∀ q : Nat, s.heap.size ≤ q → (fun q : Nat => s.heap.size ≤ q) q := fun _ h => h
  have hbA : ¬ (fun q : Nat => s.heap.size ≤ q) b := Nat.not_le.mpr hbl
  generalize hAe : (fun q : Nat => s.heap.size ≤ q) = A at hD hG hS hA hbA
  refine lv_aload_n hx hb dL_law_916 rfl (lv_at hl 1 rfl) ?_
  refine lv_aload_n hx hb dL_law_917 rfl (lv_at hl 0 rfl) ?_
  refine lv_iload hx hb dL_law_918 (lv_at hl 4 rfl) ?_
  refine lv_iconst (v := 1) hx hb dL_law_920 (by decide) ?_
  refine lv_iadd hx hb dL_law_921 ?_
  refine lv_topi (fun x_1 ex_1 => ?_)
  obtain rfl : x_1 = 1 := ex_1.trans (by decide)
  refine va_sld hx hb hX hbl hbA hS (vp_in_iff.mpr (by decide)) dL_law_922 ?_
  refine lv_topi (fun y_2 ey_2 => ?_)
  rw [show y_2 = x1 from ey_2.trans e1]
  refine lv_aload_n hx hb dL_law_923 rfl (lv_at hl 0 rfl) ?_
  refine lv_iload hx hb dL_law_924 (lv_at hl 4 rfl) ?_
  refine lv_iconst (v := 2) hx hb dL_law_926 (by decide) ?_
  refine lv_iadd hx hb dL_law_927 ?_
  refine lv_topi (fun x_3 ex_3 => ?_)
  obtain rfl : x_3 = 2 := ex_3.trans (by decide)
  refine va_sld hx hb hX hbl hbA hS (vp_in_iff.mpr (by decide)) dL_law_928 ?_
  refine lv_topi (fun y_4 ey_4 => ?_)
  rw [show y_4 = x2 from ey_4.trans e2]
  refine lv_aload_n hx hb dL_law_929 rfl (lv_at hl 3 rfl) ?_
  refine kc_i (wr := [(mo, .inr (12, [.int 0, .ref vl, .ref sl])), (sl, .inr (0, [.int 0, .ref ae, .int 0]))]) (vx_runSW (As := [.ref x, .int x1, .int x2, .ref o]) (rest := []) ⟨hx, hb, hml, hown, hts⟩ (w_setTarget_x l hfl ae D cI cJ cS cO x t n sp 0 t_kinds 0 0 0 t_codes t_targets t_settings t_sources t_accessCounts t_acts t_actVariables t_actPlaces x1 x2 o (fun _ => 0) _) (vx_cwSW 4 hts (gT q_856 q_854 q_855 q_97) rfl rfl rfl (by decide +kernel) ⟨Nat.le_of_ble_eq_true rfl, Nat.le_of_ble_eq_true rfl⟩) ⟨Pw.blind, Pw.mk_call hP hK hD hS hA hG [0, 1, 4] rfl (by decide)⟩ rfl rfl hl.1 rfl (lv_room (Nat.le_of_ble_eq_true rfl)) dL_law_930 ⟨Nat.le_of_ble_eq_true rfl, Nat.le_of_ble_eq_true rfl⟩) hP hD hS hA [0, 1, 4] [2, 3] rfl rfl (by decide) (by decide) (fun r_5 u_6 H locs hw hP hD hS => ?_)
  obtain rfl : r_5 = 1 := hw
  have hP : va_P D vwCl [(mo, .inr (12, [.int 0, .ref vl, .ref sl])), (sl, .inr (0, [.int 0, .ref ae, .int 0])), (x, .inr (6, [.ref t, .ref n, .ref sp, .int 0])), (t, .inr (4, [.ref t_kinds, .int 0, .long 0, .long 0, .ref t_codes, .ref t_targets, .ref t_settings, .ref t_sources, .ref t_accessCounts, .int 0, .ref t_acts, .ref t_actVariables, .ref t_actPlaces])), (o, .inl (cJ, 1, .inr (.inl (fun _ => 0))))] H := hP
  have hD : va_D A [(mo, .inr (12, [.int 0, .ref vl, .ref sl])), (sl, .inr (0, [.int 0, .ref ae, .int 0])), (x, .inr (6, [.ref t, .ref n, .ref sp, .int 0])), (t, .inr (4, [.ref t_kinds, .int 0, .long 0, .long 0, .ref t_codes, .ref t_targets, .ref t_settings, .ref t_sources, .ref t_accessCounts, .int 0, .ref t_acts, .ref t_actVariables, .ref t_actPlaces])), (o, .inl (cJ, 1, .inr (.inl (fun _ => 0))))] := hD
  refine lv_istore (lv' := [(5, .int 1), (0, .ref b), (1, .ref x), (2, .ref mo), (3, .ref o), (4, .int 0)]) hx hb dL_law_933 hl (by decide) rfl (fun ls hl => ?_)
  refine lv_aload_n hx hb dL_law_935 rfl (lv_at hl 3 rfl) ?_
  refine lv_aload_n hx hb dL_law_936 rfl (lv_at hl 1 rfl) ?_
  refine lv_iload hx hb dL_law_937 (lv_at hl 5 rfl) ?_
  refine lv_iconst (v := 1) hx hb dL_law_939 (by decide) ?_
  refine lv_iadd hx hb dL_law_940 ?_
  refine lv_topi (fun x_7 ex_7 => ?_)
  obtain rfl : x_7 = 1 := ex_7.trans (by decide)
  refine va_sld hx hb hX hbl hbA hS (vp_in_iff.mpr (by decide)) dL_law_941 ?_
  refine lv_topi (fun y_8 ey_8 => ?_)
  rw [show y_8 = x1 from ey_8.trans e1]
  refine lv_aload_n hx hb dL_law_942 rfl (lv_at hl 1 rfl) ?_
  refine lv_iload hx hb dL_law_943 (lv_at hl 5 rfl) ?_
  refine lv_iconst (v := 2) hx hb dL_law_945 (by decide) ?_
  refine lv_iadd hx hb dL_law_946 ?_
  refine lv_topi (fun x_9 ex_9 => ?_)
  obtain rfl : x_9 = 2 := ex_9.trans (by decide)
  refine va_sld hx hb hX hbl hbA hS (vp_in_iff.mpr (by decide)) dL_law_947 ?_
  refine lv_topi (fun y_10 ey_10 => ?_)
  rw [show y_10 = x2 from ey_10.trans e2]
  refine kc_i (wr := [(x, .inr (6, [.ref t, .ref n, .ref sp, .int 0])), (t, .inr (4, [.ref t_kinds, .int 0, .long 0, .long 0, .ref t_codes, .ref t_targets, .ref t_settings, .ref t_sources, .ref t_accessCounts, .int 0, .ref t_acts, .ref t_actVariables, .ref t_actPlaces])), (o, .inl (cJ, 1, .inr (.inl (fun _ => 0))))]) (va_runV (As := [.int x1, .int x2]) (rest := []) ⟨hx, hb, hml, hown, hts⟩ (m_setTarget_x l hfl ae D cI cJ cS cO mo vl sl x1 x2 _) (cwV 2 hts (gV q_1220 q_1217 q_1218 q_1219 q_104) rfl rfl rfl (by decide +kernel) ⟨Nat.le_of_ble_eq_true rfl, Nat.le_of_ble_eq_true rfl⟩) ⟨Pw.blind, va_recv hK hP (ci := 12) (q0 := 0) rfl rfl, Pw.mk_call hP hK hD hS hA hG [0, 1] rfl (by decide)⟩ rfl rfl hl.1 rfl (lv_room (Nat.le_of_ble_eq_true rfl)) dL_law_948 ⟨Nat.le_of_ble_eq_true rfl, Nat.le_of_ble_eq_true rfl⟩) hP hD hS hA [0, 1] [2, 3, 4] rfl rfl (by decide) (by decide) (fun r_11 u_12 H locs hw hP hD hS => ?_)
  obtain rfl : r_11 = 0 := hw
  have hP : va_P D vwCl [(x, .inr (6, [.ref t, .ref n, .ref sp, .int 0])), (t, .inr (4, [.ref t_kinds, .int 0, .long 0, .long 0, .ref t_codes, .ref t_targets, .ref t_settings, .ref t_sources, .ref t_accessCounts, .int 0, .ref t_acts, .ref t_actVariables, .ref t_actPlaces])), (o, .inl (cJ, 1, .inr (.inl (fun _ => 0)))), (mo, .inr (12, [.int 1, .ref vl, .ref sl])), (sl, .inr (0, [.int 0, .ref ae, .int 0]))] H := hP
  have hD : va_D A [(x, .inr (6, [.ref t, .ref n, .ref sp, .int 0])), (t, .inr (4, [.ref t_kinds, .int 0, .long 0, .long 0, .ref t_codes, .ref t_targets, .ref t_settings, .ref t_sources, .ref t_accessCounts, .int 0, .ref t_acts, .ref t_actVariables, .ref t_actPlaces])), (o, .inl (cJ, 1, .inr (.inl (fun _ => 0)))), (mo, .inr (12, [.int 1, .ref vl, .ref sl])), (sl, .inr (0, [.int 0, .ref ae, .int 0]))] := hD
  refine lv_istore (lv' := [(6, .int 0), (5, .int 1), (0, .ref b), (1, .ref x), (2, .ref mo), (3, .ref o), (4, .int 0)]) hx hb dL_law_951 hl (by decide) rfl (fun ls hl => ?_)
  refine lv_aload_n hx hb dL_law_953 rfl (lv_at hl 4 rfl) ?_
  refine kc_i (wr := [(x, .inr (6, [.ref t, .ref n, .ref sp, .int 0])), (t, .inr (4, [.ref t_kinds, .int 0, .long 0, .long 0, .ref t_codes, .ref t_targets, .ref t_settings, .ref t_sources, .ref t_accessCounts, .int 0, .ref t_acts, .ref t_actVariables, .ref t_actPlaces])), (o, .inl (cJ, 1, .inr (.inl (fun _ => 0)))), (sl, .inr (0, [.int 0, .ref ae, .int 0]))]) (va_runV (As := []) (rest := []) ⟨hx, hb, hml, hown, hts⟩ (m_thrown l hfl ae D cI cJ cS cO mo vl sl 1 _) (cwV 0 hts (gV q_1017 q_1014 q_1015 q_1016 q_104) rfl rfl rfl (by decide +kernel) ⟨Nat.le_of_ble_eq_true rfl, Nat.le_of_ble_eq_true rfl⟩) ⟨Pw.blind, va_recv hK hP (ci := 12) (q0 := 3) rfl rfl, Pw.mk_call hP hK hD hS hA hG [3] rfl (by decide)⟩ rfl rfl hl.1 rfl (lv_room (Nat.le_of_ble_eq_true rfl)) dL_law_954 ⟨Nat.le_of_ble_eq_true rfl, Nat.le_of_ble_eq_true rfl⟩) hP hD hS hA [3] [0, 1, 2, 4] rfl rfl (by decide) (by decide) (fun r_13 u_14 H locs hw hP hD hS => ?_)
  obtain rfl : r_13 = 1 := hw
  have hP : va_P D vwCl [(x, .inr (6, [.ref t, .ref n, .ref sp, .int 0])), (t, .inr (4, [.ref t_kinds, .int 0, .long 0, .long 0, .ref t_codes, .ref t_targets, .ref t_settings, .ref t_sources, .ref t_accessCounts, .int 0, .ref t_acts, .ref t_actVariables, .ref t_actPlaces])), (o, .inl (cJ, 1, .inr (.inl (fun _ => 0)))), (sl, .inr (0, [.int 0, .ref ae, .int 0])), (mo, .inr (12, [.int 1, .ref vl, .ref sl]))] H := hP
  have hD : va_D A [(x, .inr (6, [.ref t, .ref n, .ref sp, .int 0])), (t, .inr (4, [.ref t_kinds, .int 0, .long 0, .long 0, .ref t_codes, .ref t_targets, .ref t_settings, .ref t_sources, .ref t_accessCounts, .int 0, .ref t_acts, .ref t_actVariables, .ref t_actPlaces])), (o, .inl (cJ, 1, .inr (.inl (fun _ => 0)))), (sl, .inr (0, [.int 0, .ref ae, .int 0])), (mo, .inr (12, [.int 1, .ref vl, .ref sl]))] := hD
  refine lv_iload hx hb dL_law_957 (lv_at hl 1 rfl) ?_
  refine lv_icmp_eq (tgt := 964) hx hb dL_law_959 (by decide) (fun c_959 => ?_) (fun c_959 => absurd (by decide) c_959)
  refine lv_iload hx hb dL_law_964 (lv_at hl 1 rfl) ?_
  refine lv_if_ne (tgt := 981) hx hb dL_law_966 (by decide) (fun c_966 => ?_) (fun c_966 => absurd c_966 (by decide))
  refine lv_goto (tgt := 1950) hx hb dL_law_981 (by decide) ?_
  refine lv_iinc (v := 5) (lv' := [(4, .int 5), (6, .int 0), (5, .int 1), (0, .ref b), (1, .ref x), (2, .ref mo), (3, .ref o)]) hx hb dL_law_1950 hl (k := 6) rfl (by decide) (by decide) rfl (fun ls hl => ?_)
  refine lv_goto (tgt := 23) hx hb dL_law_1953 (by decide) ?_
  refine lv_iload hx hb dL_law_23 (lv_at hl 0 rfl) ?_
  refine lv_aload_n hx hb dL_law_25 rfl (lv_at hl 3 rfl) ?_
  refine va_slen hx hb hX hbl hbA hS dL_law_26 ?_
  refine lv_topi (fun y_15 ey_15 => ?_)
  obtain rfl : y_15 = 5 := ey_15.trans (by decide)
  refine lv_iconst (v := 5) hx hb dL_law_27 (by decide) ?_
  refine lv_isub hx hb dL_law_28 ?_
  refine lv_topi (fun x_16 ex_16 => ?_)
  obtain rfl : x_16 = 0 := ex_16.trans (by decide)
  refine lv_icmp_gt (tgt := 1956) hx hb dL_law_29 (by decide) (fun c_29 => ?_) (fun c_29 => absurd (by decide) c_29)
  refine lv_iconst (v := 1) hx hb dL_law_1956 (by decide) ?_
  refine va_forget (fun q hq => by have h9 := hS.2.2 q hq; rw [← hAe] at h9; exact h9) ?_
  refine W.widen (k := 600002) (n := 7302232) (Nat.le_of_ble_eq_true rfl) (Nat.le_of_ble_eq_true rfl) ?_
  refine W.base ?_
  exact lw_ret (Drawn.sameBut.refl s.drawn lw_cs) hx hb hr hlocks dL_law_1957

set_option maxHeartbeats 4000000 in
set_option maxRecDepth 100000 in
theorem lc_11 {p : Program} {l : Launch} {e : Env} {s : State} {m : MethodId} {below : List Frame} {meth : Method} {c : Code} {b : Nat} {xs : Nat → Int32} (hfl : l.stackTraces = false) {ae : Nat} {D : va_G} {cI cJ cS cO : ClassId} (C0 : lw_At p s m meth c b 5 xs) (hK : va_K D vwCl [(cI, .int), (cJ, .long), (cS, .object "IronwoodModel$State"), (cO, .object "java/lang/Object")] s) (hG : Gl ae (fun q : Nat => s.heap.size ≤ q) s s.heap) (x : Nat) (t : Nat) (n : Nat) (sp : Nat) (t_kinds : Nat) (t_codes : Nat) (t_targets : Nat) (t_settings : Nat) (t_sources : Nat) (t_accessCounts : Nat) (t_acts : Nat) (t_actVariables : Nat) (t_actPlaces : Nat) (mo : Nat) (vl : Nat) (sl : Nat) (o : Nat) (x1 : Int32) (e1 : xs (Int32.toNatClampNeg 1) = x1) (x2 : Int32) (e2 : xs (Int32.toNatClampNeg 2) = x2) (x3 : Int32) (e3 : xs (Int32.toNatClampNeg 3) = x3) (x4 : Int32) (e4 : xs (Int32.toNatClampNeg 4) = x4)  (H : Heap) (locs : List Loc) (hP : va_P D vwCl [(x, .inr (6, [.ref t, .ref n, .ref sp, .int 0])), (t, .inr (4, [.ref t_kinds, .int 0, .long 0, .long 0, .ref t_codes, .ref t_targets, .ref t_settings, .ref t_sources, .ref t_accessCounts, .int 0, .ref t_acts, .ref t_actVariables, .ref t_actPlaces])), (mo, .inr (12, [.int 0, .ref vl, .ref sl])), (sl, .inr (0, [.int 0, .ref ae, .int 0])), (o, .inl (cJ, 1, .inr (.inl (fun _ => 0))))] H) (hD : va_D (fun q : Nat => s.heap.size ≤ q) [(x, .inr (6, [.ref t, .ref n, .ref sp, .int 0])), (t, .inr (4, [.ref t_kinds, .int 0, .long 0, .long 0, .ref t_codes, .ref t_targets, .ref t_settings, .ref t_sources, .ref t_accessCounts, .int 0, .ref t_acts, .ref t_actVariables, .ref t_actPlaces])), (mo, .inr (12, [.int 0, .ref vl, .ref sl])), (sl, .inr (0, [.int 0, .ref ae, .int 0])), (o, .inl (cJ, 1, .inr (.inl (fun _ => 0))))]) (hS : va_S (fun q : Nat => s.heap.size ≤ q) s.heap H locs) (ls : Array Slot) (hl : lv_has ls 9 [(0, .ref b), (1, .ref x), (2, .ref mo), (3, .ref o), (4, .int 0)]) : W p l e room_1 s m #[Value.ref b] below meth c H locs 61 3597 (lw_Z below #[Value.ref b] s) (F0 m 984 ls []) := by
  obtain ⟨hx, hb, hr, hml, hown, hts0, hX, hbl, hlocks, hgv⟩ := id C0
  have hts := law_hts hts0
  have hA : ∀ q : Nat, s.heap.size ≤ q → (fun q : Nat => s.heap.size ≤ q) q := fun _ h => h
  have hbA : ¬ (fun q : Nat => s.heap.size ≤ q) b := Nat.not_le.mpr hbl
  generalize hAe : (fun q : Nat => s.heap.size ≤ q) = A at hD hG hS hA hbA
  refine lv_aload_n hx hb dL_law_984 rfl (lv_at hl 1 rfl) ?_
  refine lv_aload_n hx hb dL_law_985 rfl (lv_at hl 3 rfl) ?_
  refine kc_i (wr := [(mo, .inr (12, [.int 0, .ref vl, .ref sl])), (sl, .inr (0, [.int 0, .ref ae, .int 0]))]) (vx_runSW (As := [.ref x, .ref o]) (rest := []) ⟨hx, hb, hml, hown, hts⟩ (w_undo_x l hfl ae D cI cJ cS cO x t n sp 0 t_kinds 0 0 0 t_codes t_targets t_settings t_sources t_accessCounts t_acts t_actVariables t_actPlaces o (fun _ => 0) _) (vx_cwSW 2 hts (gT q_870 q_868 q_869 q_97) rfl rfl rfl (by decide +kernel) ⟨Nat.le_of_ble_eq_true rfl, Nat.le_of_ble_eq_true rfl⟩) ⟨Pw.blind, Pw.mk_call hP hK hD hS hA hG [0, 1, 4] rfl (by decide)⟩ rfl rfl hl.1 rfl (lv_room (Nat.le_of_ble_eq_true rfl)) dL_law_986 ⟨Nat.le_of_ble_eq_true rfl, Nat.le_of_ble_eq_true rfl⟩) hP hD hS hA [0, 1, 4] [2, 3] rfl rfl (by decide) (by decide) (fun r_1 u_2 H locs hw hP hD hS => ?_)
  obtain rfl : r_1 = 1 := hw
  have hP : va_P D vwCl [(mo, .inr (12, [.int 0, .ref vl, .ref sl])), (sl, .inr (0, [.int 0, .ref ae, .int 0])), (x, .inr (6, [.ref t, .ref n, .ref sp, .int 0])), (t, .inr (4, [.ref t_kinds, .int 0, .long 0, .long 0, .ref t_codes, .ref t_targets, .ref t_settings, .ref t_sources, .ref t_accessCounts, .int 0, .ref t_acts, .ref t_actVariables, .ref t_actPlaces])), (o, .inl (cJ, 1, .inr (.inl (fun _ => 0))))] H := hP
  have hD : va_D A [(mo, .inr (12, [.int 0, .ref vl, .ref sl])), (sl, .inr (0, [.int 0, .ref ae, .int 0])), (x, .inr (6, [.ref t, .ref n, .ref sp, .int 0])), (t, .inr (4, [.ref t_kinds, .int 0, .long 0, .long 0, .ref t_codes, .ref t_targets, .ref t_settings, .ref t_sources, .ref t_accessCounts, .int 0, .ref t_acts, .ref t_actVariables, .ref t_actPlaces])), (o, .inl (cJ, 1, .inr (.inl (fun _ => 0))))] := hD
  refine lv_istore (lv' := [(5, .int 1), (0, .ref b), (1, .ref x), (2, .ref mo), (3, .ref o), (4, .int 0)]) hx hb dL_law_989 hl (by decide) rfl (fun ls hl => ?_)
  refine lv_aload_n hx hb dL_law_991 rfl (lv_at hl 3 rfl) ?_
  refine kc_i (wr := [(x, .inr (6, [.ref t, .ref n, .ref sp, .int 0])), (t, .inr (4, [.ref t_kinds, .int 0, .long 0, .long 0, .ref t_codes, .ref t_targets, .ref t_settings, .ref t_sources, .ref t_accessCounts, .int 0, .ref t_acts, .ref t_actVariables, .ref t_actPlaces])), (o, .inl (cJ, 1, .inr (.inl (fun _ => 0))))]) (va_runV (As := []) (rest := []) ⟨hx, hb, hml, hown, hts⟩ (m_undo_x l hfl ae D cI cJ cS cO mo vl sl _) (cwV 0 hts (gV q_1232 q_1229 q_1230 q_1231 q_104) rfl rfl rfl (by decide +kernel) ⟨Nat.le_of_ble_eq_true rfl, Nat.le_of_ble_eq_true rfl⟩) ⟨Pw.blind, va_recv hK hP (ci := 12) (q0 := 0) rfl rfl, Pw.mk_call hP hK hD hS hA hG [0, 1] rfl (by decide)⟩ rfl rfl hl.1 rfl (lv_room (Nat.le_of_ble_eq_true rfl)) dL_law_992 ⟨Nat.le_of_ble_eq_true rfl, Nat.le_of_ble_eq_true rfl⟩) hP hD hS hA [0, 1] [2, 3, 4] rfl rfl (by decide) (by decide) (fun r_3 u_4 H locs hw hP hD hS => ?_)
  obtain rfl : r_3 = 0 := hw
  have hP : va_P D vwCl [(x, .inr (6, [.ref t, .ref n, .ref sp, .int 0])), (t, .inr (4, [.ref t_kinds, .int 0, .long 0, .long 0, .ref t_codes, .ref t_targets, .ref t_settings, .ref t_sources, .ref t_accessCounts, .int 0, .ref t_acts, .ref t_actVariables, .ref t_actPlaces])), (o, .inl (cJ, 1, .inr (.inl (fun _ => 0)))), (mo, .inr (12, [.int 1, .ref vl, .ref sl])), (sl, .inr (0, [.int 0, .ref ae, .int 0]))] H := hP
  have hD : va_D A [(x, .inr (6, [.ref t, .ref n, .ref sp, .int 0])), (t, .inr (4, [.ref t_kinds, .int 0, .long 0, .long 0, .ref t_codes, .ref t_targets, .ref t_settings, .ref t_sources, .ref t_accessCounts, .int 0, .ref t_acts, .ref t_actVariables, .ref t_actPlaces])), (o, .inl (cJ, 1, .inr (.inl (fun _ => 0)))), (mo, .inr (12, [.int 1, .ref vl, .ref sl])), (sl, .inr (0, [.int 0, .ref ae, .int 0]))] := hD
  refine lv_istore (lv' := [(6, .int 0), (5, .int 1), (0, .ref b), (1, .ref x), (2, .ref mo), (3, .ref o), (4, .int 0)]) hx hb dL_law_995 hl (by decide) rfl (fun ls hl => ?_)
  refine lv_aload_n hx hb dL_law_997 rfl (lv_at hl 4 rfl) ?_
  refine kc_i (wr := [(x, .inr (6, [.ref t, .ref n, .ref sp, .int 0])), (t, .inr (4, [.ref t_kinds, .int 0, .long 0, .long 0, .ref t_codes, .ref t_targets, .ref t_settings, .ref t_sources, .ref t_accessCounts, .int 0, .ref t_acts, .ref t_actVariables, .ref t_actPlaces])), (o, .inl (cJ, 1, .inr (.inl (fun _ => 0)))), (sl, .inr (0, [.int 0, .ref ae, .int 0]))]) (va_runV (As := []) (rest := []) ⟨hx, hb, hml, hown, hts⟩ (m_thrown l hfl ae D cI cJ cS cO mo vl sl 1 _) (cwV 0 hts (gV q_1017 q_1014 q_1015 q_1016 q_104) rfl rfl rfl (by decide +kernel) ⟨Nat.le_of_ble_eq_true rfl, Nat.le_of_ble_eq_true rfl⟩) ⟨Pw.blind, va_recv hK hP (ci := 12) (q0 := 3) rfl rfl, Pw.mk_call hP hK hD hS hA hG [3] rfl (by decide)⟩ rfl rfl hl.1 rfl (lv_room (Nat.le_of_ble_eq_true rfl)) dL_law_998 ⟨Nat.le_of_ble_eq_true rfl, Nat.le_of_ble_eq_true rfl⟩) hP hD hS hA [3] [0, 1, 2, 4] rfl rfl (by decide) (by decide) (fun r_5 u_6 H locs hw hP hD hS => ?_)
  obtain rfl : r_5 = 1 := hw
  have hP : va_P D vwCl [(x, .inr (6, [.ref t, .ref n, .ref sp, .int 0])), (t, .inr (4, [.ref t_kinds, .int 0, .long 0, .long 0, .ref t_codes, .ref t_targets, .ref t_settings, .ref t_sources, .ref t_accessCounts, .int 0, .ref t_acts, .ref t_actVariables, .ref t_actPlaces])), (o, .inl (cJ, 1, .inr (.inl (fun _ => 0)))), (sl, .inr (0, [.int 0, .ref ae, .int 0])), (mo, .inr (12, [.int 1, .ref vl, .ref sl]))] H := hP
  have hD : va_D A [(x, .inr (6, [.ref t, .ref n, .ref sp, .int 0])), (t, .inr (4, [.ref t_kinds, .int 0, .long 0, .long 0, .ref t_codes, .ref t_targets, .ref t_settings, .ref t_sources, .ref t_accessCounts, .int 0, .ref t_acts, .ref t_actVariables, .ref t_actPlaces])), (o, .inl (cJ, 1, .inr (.inl (fun _ => 0)))), (sl, .inr (0, [.int 0, .ref ae, .int 0])), (mo, .inr (12, [.int 1, .ref vl, .ref sl]))] := hD
  refine lv_iload hx hb dL_law_1001 (lv_at hl 1 rfl) ?_
  refine lv_icmp_eq (tgt := 1008) hx hb dL_law_1003 (by decide) (fun c_1003 => ?_) (fun c_1003 => absurd (by decide) c_1003)
  refine lv_iload hx hb dL_law_1008 (lv_at hl 1 rfl) ?_
  refine lv_if_ne (tgt := 1025) hx hb dL_law_1010 (by decide) (fun c_1010 => ?_) (fun c_1010 => absurd c_1010 (by decide))
  refine lv_goto (tgt := 1950) hx hb dL_law_1025 (by decide) ?_
  refine lv_iinc (v := 5) (lv' := [(4, .int 5), (6, .int 0), (5, .int 1), (0, .ref b), (1, .ref x), (2, .ref mo), (3, .ref o)]) hx hb dL_law_1950 hl (k := 6) rfl (by decide) (by decide) rfl (fun ls hl => ?_)
  refine lv_goto (tgt := 23) hx hb dL_law_1953 (by decide) ?_
  refine lv_iload hx hb dL_law_23 (lv_at hl 0 rfl) ?_
  refine lv_aload_n hx hb dL_law_25 rfl (lv_at hl 3 rfl) ?_
  refine va_slen hx hb hX hbl hbA hS dL_law_26 ?_
  refine lv_topi (fun y_7 ey_7 => ?_)
  obtain rfl : y_7 = 5 := ey_7.trans (by decide)
  refine lv_iconst (v := 5) hx hb dL_law_27 (by decide) ?_
  refine lv_isub hx hb dL_law_28 ?_
  refine lv_topi (fun x_8 ex_8 => ?_)
  obtain rfl : x_8 = 0 := ex_8.trans (by decide)
  refine lv_icmp_gt (tgt := 1956) hx hb dL_law_29 (by decide) (fun c_29 => ?_) (fun c_29 => absurd (by decide) c_29)
  refine lv_iconst (v := 1) hx hb dL_law_1956 (by decide) ?_
  refine va_forget (fun q hq => by have h9 := hS.2.2 q hq; rw [← hAe] at h9; exact h9) ?_
  refine W.widen (k := 600002) (n := 7302232) (Nat.le_of_ble_eq_true rfl) (Nat.le_of_ble_eq_true rfl) ?_
  refine W.base ?_
  exact lw_ret (Drawn.sameBut.refl s.drawn lw_cs) hx hb hr hlocks dL_law_1957

set_option maxHeartbeats 4000000 in
set_option maxRecDepth 100000 in
theorem lc_12 {p : Program} {l : Launch} {e : Env} {s : State} {m : MethodId} {below : List Frame} {meth : Method} {c : Code} {b : Nat} {xs : Nat → Int32} (hfl : l.stackTraces = false) {ae : Nat} {D : va_G} {cI cJ cS cO : ClassId} (C0 : lw_At p s m meth c b 5 xs) (hK : va_K D vwCl [(cI, .int), (cJ, .long), (cS, .object "IronwoodModel$State"), (cO, .object "java/lang/Object")] s) (hG : Gl ae (fun q : Nat => s.heap.size ≤ q) s s.heap) (x : Nat) (t : Nat) (n : Nat) (sp : Nat) (t_kinds : Nat) (t_codes : Nat) (t_targets : Nat) (t_settings : Nat) (t_sources : Nat) (t_accessCounts : Nat) (t_acts : Nat) (t_actVariables : Nat) (t_actPlaces : Nat) (mo : Nat) (vl : Nat) (sl : Nat) (o : Nat) (x1 : Int32) (e1 : xs (Int32.toNatClampNeg 1) = x1) (x2 : Int32) (e2 : xs (Int32.toNatClampNeg 2) = x2) (x3 : Int32) (e3 : xs (Int32.toNatClampNeg 3) = x3) (x4 : Int32) (e4 : xs (Int32.toNatClampNeg 4) = x4)  (H : Heap) (locs : List Loc) (hP : va_P D vwCl [(x, .inr (6, [.ref t, .ref n, .ref sp, .int 0])), (t, .inr (4, [.ref t_kinds, .int 0, .long 0, .long 0, .ref t_codes, .ref t_targets, .ref t_settings, .ref t_sources, .ref t_accessCounts, .int 0, .ref t_acts, .ref t_actVariables, .ref t_actPlaces])), (mo, .inr (12, [.int 0, .ref vl, .ref sl])), (vl, .inr (0, [.int 0, .ref ae, .int 0])), (o, .inl (cJ, 1, .inr (.inl (fun _ => 0))))] H) (hD : va_D (fun q : Nat => s.heap.size ≤ q) [(x, .inr (6, [.ref t, .ref n, .ref sp, .int 0])), (t, .inr (4, [.ref t_kinds, .int 0, .long 0, .long 0, .ref t_codes, .ref t_targets, .ref t_settings, .ref t_sources, .ref t_accessCounts, .int 0, .ref t_acts, .ref t_actVariables, .ref t_actPlaces])), (mo, .inr (12, [.int 0, .ref vl, .ref sl])), (vl, .inr (0, [.int 0, .ref ae, .int 0])), (o, .inl (cJ, 1, .inr (.inl (fun _ => 0))))]) (hS : va_S (fun q : Nat => s.heap.size ≤ q) s.heap H locs) (ls : Array Slot) (hl : lv_has ls 9 [(0, .ref b), (1, .ref x), (2, .ref mo), (3, .ref o), (4, .int 0)]) : W p l e room_1 s m #[Value.ref b] below meth c H locs 61 3597 (lw_Z below #[Value.ref b] s) (F0 m 1028 ls []) := by
  obtain ⟨hx, hb, hr, hml, hown, hts0, hX, hbl, hlocks, hgv⟩ := id C0
  have hts := law_hts hts0
  have hA : ∀ q : Nat, s.heap.size ≤ q → (fun q : Nat => s.heap.size ≤ q) q := fun _ h => h
  have hbA : ¬ (fun q : Nat => s.heap.size ≤ q) b := Nat.not_le.mpr hbl
  generalize hAe : (fun q : Nat => s.heap.size ≤ q) = A at hD hG hS hA hbA
  refine lv_aload_n hx hb dL_law_1028 rfl (lv_at hl 1 rfl) ?_
  refine kc_i (wr := [(mo, .inr (12, [.int 0, .ref vl, .ref sl])), (vl, .inr (0, [.int 0, .ref ae, .int 0])), (o, .inl (cJ, 1, .inr (.inl (fun _ => 0))))]) (va_runV (As := []) (rest := []) ⟨hx, hb, hml, hown, hts⟩ (k_variables l hfl ae D cI cJ cS cO x t n sp 0 t_kinds 0 0 t_codes t_targets t_settings t_sources t_accessCounts t_acts t_actVariables t_actPlaces _) (cwV 0 hts (gV q_354 q_351 q_352 q_353 q_98) rfl rfl rfl (by decide +kernel) ⟨Nat.le_of_ble_eq_true rfl, Nat.le_of_ble_eq_true rfl⟩) ⟨Pw.blind, va_recv hK hP (ci := 6) (q0 := 0) rfl rfl, Pw.mk_call hP hK hD hS hA hG [0, 1] rfl (by decide)⟩ rfl rfl hl.1 rfl (lv_room (Nat.le_of_ble_eq_true rfl)) dL_law_1029 ⟨Nat.le_of_ble_eq_true rfl, Nat.le_of_ble_eq_true rfl⟩) hP hD hS hA [0, 1] [2, 3, 4] rfl rfl (by decide) (by decide) (fun r_1 u_2 H locs hw hP hD hS => ?_)
  obtain rfl : r_1 = 0 := hw
  have hP : va_P D vwCl [(mo, .inr (12, [.int 0, .ref vl, .ref sl])), (vl, .inr (0, [.int 0, .ref ae, .int 0])), (o, .inl (cJ, 1, .inr (.inl (fun _ => 0)))), (x, .inr (6, [.ref t, .ref n, .ref sp, .int 0])), (t, .inr (4, [.ref t_kinds, .int 0, .long 0, .long 0, .ref t_codes, .ref t_targets, .ref t_settings, .ref t_sources, .ref t_accessCounts, .int 0, .ref t_acts, .ref t_actVariables, .ref t_actPlaces]))] H := hP
  have hD : va_D A [(mo, .inr (12, [.int 0, .ref vl, .ref sl])), (vl, .inr (0, [.int 0, .ref ae, .int 0])), (o, .inl (cJ, 1, .inr (.inl (fun _ => 0)))), (x, .inr (6, [.ref t, .ref n, .ref sp, .int 0])), (t, .inr (4, [.ref t_kinds, .int 0, .long 0, .long 0, .ref t_codes, .ref t_targets, .ref t_settings, .ref t_sources, .ref t_accessCounts, .int 0, .ref t_acts, .ref t_actVariables, .ref t_actPlaces]))] := hD
  refine lv_aload_n hx hb dL_law_1032 rfl (lv_at hl 2 rfl) ?_
  refine kc_i (wr := [(o, .inl (cJ, 1, .inr (.inl (fun _ => 0)))), (x, .inr (6, [.ref t, .ref n, .ref sp, .int 0])), (t, .inr (4, [.ref t_kinds, .int 0, .long 0, .long 0, .ref t_codes, .ref t_targets, .ref t_settings, .ref t_sources, .ref t_accessCounts, .int 0, .ref t_acts, .ref t_actVariables, .ref t_actPlaces]))]) (va_runV (As := []) (rest := [.int 0]) ⟨hx, hb, hml, hown, hts⟩ (m_variables l hfl ae D cI cJ cS cO mo vl sl _) (cwV 0 hts (gV q_1249 q_1246 q_1247 q_1248 q_104) rfl rfl rfl (by decide +kernel) ⟨Nat.le_of_ble_eq_true rfl, Nat.le_of_ble_eq_true rfl⟩) ⟨Pw.blind, va_recv hK hP (ci := 12) (q0 := 0) rfl rfl, Pw.mk_call hP hK hD hS hA hG [0, 1] rfl (by decide)⟩ rfl rfl hl.1 rfl (lv_room (Nat.le_of_ble_eq_true rfl)) dL_law_1033 ⟨Nat.le_of_ble_eq_true rfl, Nat.le_of_ble_eq_true rfl⟩) hP hD hS hA [0, 1] [2, 3, 4] rfl rfl (by decide) (by decide) (fun r_3 u_4 H locs hw hP hD hS => ?_)
  obtain rfl : r_3 = 0 := hw
  have hP : va_P D vwCl [(o, .inl (cJ, 1, .inr (.inl (fun _ => 0)))), (x, .inr (6, [.ref t, .ref n, .ref sp, .int 0])), (t, .inr (4, [.ref t_kinds, .int 0, .long 0, .long 0, .ref t_codes, .ref t_targets, .ref t_settings, .ref t_sources, .ref t_accessCounts, .int 0, .ref t_acts, .ref t_actVariables, .ref t_actPlaces])), (mo, .inr (12, [.int 0, .ref vl, .ref sl])), (vl, .inr (0, [.int 0, .ref ae, .int 0]))] H := hP
  have hD : va_D A [(o, .inl (cJ, 1, .inr (.inl (fun _ => 0)))), (x, .inr (6, [.ref t, .ref n, .ref sp, .int 0])), (t, .inr (4, [.ref t_kinds, .int 0, .long 0, .long 0, .ref t_codes, .ref t_targets, .ref t_settings, .ref t_sources, .ref t_accessCounts, .int 0, .ref t_acts, .ref t_actVariables, .ref t_actPlaces])), (mo, .inr (12, [.int 0, .ref vl, .ref sl])), (vl, .inr (0, [.int 0, .ref ae, .int 0]))] := hD
  refine lv_icmp_eq (tgt := 1950) hx hb dL_law_1036 (by decide) (fun c_1036 => ?_) (fun c_1036 => absurd (by decide) c_1036)
  refine lv_iinc (v := 5) (lv' := [(4, .int 5), (0, .ref b), (1, .ref x), (2, .ref mo), (3, .ref o)]) hx hb dL_law_1950 hl (k := 4) rfl (by decide) (by decide) rfl (fun ls hl => ?_)
  refine lv_goto (tgt := 23) hx hb dL_law_1953 (by decide) ?_
  refine lv_iload hx hb dL_law_23 (lv_at hl 0 rfl) ?_
  refine lv_aload_n hx hb dL_law_25 rfl (lv_at hl 1 rfl) ?_
  refine va_slen hx hb hX hbl hbA hS dL_law_26 ?_
  refine lv_topi (fun y_5 ey_5 => ?_)
  obtain rfl : y_5 = 5 := ey_5.trans (by decide)
  refine lv_iconst (v := 5) hx hb dL_law_27 (by decide) ?_
  refine lv_isub hx hb dL_law_28 ?_
  refine lv_topi (fun x_6 ex_6 => ?_)
  obtain rfl : x_6 = 0 := ex_6.trans (by decide)
  refine lv_icmp_gt (tgt := 1956) hx hb dL_law_29 (by decide) (fun c_29 => ?_) (fun c_29 => absurd (by decide) c_29)
  refine lv_iconst (v := 1) hx hb dL_law_1956 (by decide) ?_
  refine va_forget (fun q hq => by have h9 := hS.2.2 q hq; rw [← hAe] at h9; exact h9) ?_
  refine W.widen (k := 600002) (n := 7302232) (Nat.le_of_ble_eq_true rfl) (Nat.le_of_ble_eq_true rfl) ?_
  refine W.base ?_
  exact lw_ret (Drawn.sameBut.refl s.drawn lw_cs) hx hb hr hlocks dL_law_1957

set_option maxHeartbeats 4000000 in
set_option maxRecDepth 100000 in
theorem lc_13 {p : Program} {l : Launch} {e : Env} {s : State} {m : MethodId} {below : List Frame} {meth : Method} {c : Code} {b : Nat} {xs : Nat → Int32} (hfl : l.stackTraces = false) {ae : Nat} {D : va_G} {cI cJ cS cO : ClassId} (C0 : lw_At p s m meth c b 5 xs) (hK : va_K D vwCl [(cI, .int), (cJ, .long), (cS, .object "IronwoodModel$State"), (cO, .object "java/lang/Object")] s) (hG : Gl ae (fun q : Nat => s.heap.size ≤ q) s s.heap) (x : Nat) (t : Nat) (n : Nat) (sp : Nat) (t_kinds : Nat) (t_codes : Nat) (t_targets : Nat) (t_settings : Nat) (t_sources : Nat) (t_accessCounts : Nat) (t_acts : Nat) (t_actVariables : Nat) (t_actPlaces : Nat) (mo : Nat) (vl : Nat) (sl : Nat) (o : Nat) (x1 : Int32) (e1 : xs (Int32.toNatClampNeg 1) = x1) (x2 : Int32) (e2 : xs (Int32.toNatClampNeg 2) = x2) (x3 : Int32) (e3 : xs (Int32.toNatClampNeg 3) = x3) (x4 : Int32) (e4 : xs (Int32.toNatClampNeg 4) = x4)  (H : Heap) (locs : List Loc) (hP : va_P D vwCl [(x, .inr (6, [.ref t, .ref n, .ref sp, .int 0])), (t, .inr (4, [.ref t_kinds, .int 0, .long 0, .long 0, .ref t_codes, .ref t_targets, .ref t_settings, .ref t_sources, .ref t_accessCounts, .int 0, .ref t_acts, .ref t_actVariables, .ref t_actPlaces])), (mo, .inr (12, [.int 0, .ref vl, .ref sl])), (sl, .inr (0, [.int 0, .ref ae, .int 0])), (o, .inl (cJ, 1, .inr (.inl (fun _ => 0))))] H) (hD : va_D (fun q : Nat => s.heap.size ≤ q) [(x, .inr (6, [.ref t, .ref n, .ref sp, .int 0])), (t, .inr (4, [.ref t_kinds, .int 0, .long 0, .long 0, .ref t_codes, .ref t_targets, .ref t_settings, .ref t_sources, .ref t_accessCounts, .int 0, .ref t_acts, .ref t_actVariables, .ref t_actPlaces])), (mo, .inr (12, [.int 0, .ref vl, .ref sl])), (sl, .inr (0, [.int 0, .ref ae, .int 0])), (o, .inl (cJ, 1, .inr (.inl (fun _ => 0))))]) (hS : va_S (fun q : Nat => s.heap.size ≤ q) s.heap H locs) (ls : Array Slot) (hl : lv_has ls 9 [(0, .ref b), (1, .ref x), (2, .ref mo), (3, .ref o), (4, .int 0)]) : W p l e room_1 s m #[Value.ref b] below meth c H locs 61 3597 (lw_Z below #[Value.ref b] s) (F0 m 1041 ls []) := by
  obtain ⟨hx, hb, hr, hml, hown, hts0, hX, hbl, hlocks, hgv⟩ := id C0
  have hts := law_hts hts0
  have hA : ∀ q : Nat, s.heap.size ≤ q → (fun q : Nat => s.heap.size ≤ q) q := fun _ h => h
  have hbA : ¬ (fun q : Nat => s.heap.size ≤ q) b := Nat.not_le.mpr hbl
  generalize hAe : (fun q : Nat => s.heap.size ≤ q) = A at hD hG hS hA hbA
  refine lv_aload_n hx hb dL_law_1041 rfl (lv_at hl 1 rfl) ?_
  refine kc_i (wr := [(mo, .inr (12, [.int 0, .ref vl, .ref sl])), (sl, .inr (0, [.int 0, .ref ae, .int 0])), (o, .inl (cJ, 1, .inr (.inl (fun _ => 0))))]) (va_runV (As := []) (rest := []) ⟨hx, hb, hml, hown, hts⟩ (k_statements l hfl ae D cI cJ cS cO x t n sp 0 t_kinds 0 0 t_codes t_targets t_settings t_sources t_accessCounts t_acts t_actVariables t_actPlaces _) (cwV 0 hts (gV q_358 q_355 q_356 q_357 q_98) rfl rfl rfl (by decide +kernel) ⟨Nat.le_of_ble_eq_true rfl, Nat.le_of_ble_eq_true rfl⟩) ⟨Pw.blind, va_recv hK hP (ci := 6) (q0 := 0) rfl rfl, Pw.mk_call hP hK hD hS hA hG [0, 1] rfl (by decide)⟩ rfl rfl hl.1 rfl (lv_room (Nat.le_of_ble_eq_true rfl)) dL_law_1042 ⟨Nat.le_of_ble_eq_true rfl, Nat.le_of_ble_eq_true rfl⟩) hP hD hS hA [0, 1] [2, 3, 4] rfl rfl (by decide) (by decide) (fun r_1 u_2 H locs hw hP hD hS => ?_)
  obtain rfl : r_1 = 0 := hw
  have hP : va_P D vwCl [(mo, .inr (12, [.int 0, .ref vl, .ref sl])), (sl, .inr (0, [.int 0, .ref ae, .int 0])), (o, .inl (cJ, 1, .inr (.inl (fun _ => 0)))), (x, .inr (6, [.ref t, .ref n, .ref sp, .int 0])), (t, .inr (4, [.ref t_kinds, .int 0, .long 0, .long 0, .ref t_codes, .ref t_targets, .ref t_settings, .ref t_sources, .ref t_accessCounts, .int 0, .ref t_acts, .ref t_actVariables, .ref t_actPlaces]))] H := hP
  have hD : va_D A [(mo, .inr (12, [.int 0, .ref vl, .ref sl])), (sl, .inr (0, [.int 0, .ref ae, .int 0])), (o, .inl (cJ, 1, .inr (.inl (fun _ => 0)))), (x, .inr (6, [.ref t, .ref n, .ref sp, .int 0])), (t, .inr (4, [.ref t_kinds, .int 0, .long 0, .long 0, .ref t_codes, .ref t_targets, .ref t_settings, .ref t_sources, .ref t_accessCounts, .int 0, .ref t_acts, .ref t_actVariables, .ref t_actPlaces]))] := hD
  refine lv_aload_n hx hb dL_law_1045 rfl (lv_at hl 2 rfl) ?_
  refine kc_i (wr := [(o, .inl (cJ, 1, .inr (.inl (fun _ => 0)))), (x, .inr (6, [.ref t, .ref n, .ref sp, .int 0])), (t, .inr (4, [.ref t_kinds, .int 0, .long 0, .long 0, .ref t_codes, .ref t_targets, .ref t_settings, .ref t_sources, .ref t_accessCounts, .int 0, .ref t_acts, .ref t_actVariables, .ref t_actPlaces]))]) (va_runV (As := []) (rest := [.int 0]) ⟨hx, hb, hml, hown, hts⟩ (m_statements l hfl ae D cI cJ cS cO mo vl sl _) (cwV 0 hts (gV q_1257 q_1254 q_1255 q_1256 q_104) rfl rfl rfl (by decide +kernel) ⟨Nat.le_of_ble_eq_true rfl, Nat.le_of_ble_eq_true rfl⟩) ⟨Pw.blind, va_recv hK hP (ci := 12) (q0 := 0) rfl rfl, Pw.mk_call hP hK hD hS hA hG [0, 1] rfl (by decide)⟩ rfl rfl hl.1 rfl (lv_room (Nat.le_of_ble_eq_true rfl)) dL_law_1046 ⟨Nat.le_of_ble_eq_true rfl, Nat.le_of_ble_eq_true rfl⟩) hP hD hS hA [0, 1] [2, 3, 4] rfl rfl (by decide) (by decide) (fun r_3 u_4 H locs hw hP hD hS => ?_)
  obtain rfl : r_3 = 0 := hw
  have hP : va_P D vwCl [(o, .inl (cJ, 1, .inr (.inl (fun _ => 0)))), (x, .inr (6, [.ref t, .ref n, .ref sp, .int 0])), (t, .inr (4, [.ref t_kinds, .int 0, .long 0, .long 0, .ref t_codes, .ref t_targets, .ref t_settings, .ref t_sources, .ref t_accessCounts, .int 0, .ref t_acts, .ref t_actVariables, .ref t_actPlaces])), (mo, .inr (12, [.int 0, .ref vl, .ref sl])), (sl, .inr (0, [.int 0, .ref ae, .int 0]))] H := hP
  have hD : va_D A [(o, .inl (cJ, 1, .inr (.inl (fun _ => 0)))), (x, .inr (6, [.ref t, .ref n, .ref sp, .int 0])), (t, .inr (4, [.ref t_kinds, .int 0, .long 0, .long 0, .ref t_codes, .ref t_targets, .ref t_settings, .ref t_sources, .ref t_accessCounts, .int 0, .ref t_acts, .ref t_actVariables, .ref t_actPlaces])), (mo, .inr (12, [.int 0, .ref vl, .ref sl])), (sl, .inr (0, [.int 0, .ref ae, .int 0]))] := hD
  refine lv_icmp_eq (tgt := 1950) hx hb dL_law_1049 (by decide) (fun c_1049 => ?_) (fun c_1049 => absurd (by decide) c_1049)
  refine lv_iinc (v := 5) (lv' := [(4, .int 5), (0, .ref b), (1, .ref x), (2, .ref mo), (3, .ref o)]) hx hb dL_law_1950 hl (k := 4) rfl (by decide) (by decide) rfl (fun ls hl => ?_)
  refine lv_goto (tgt := 23) hx hb dL_law_1953 (by decide) ?_
  refine lv_iload hx hb dL_law_23 (lv_at hl 0 rfl) ?_
  refine lv_aload_n hx hb dL_law_25 rfl (lv_at hl 1 rfl) ?_
  refine va_slen hx hb hX hbl hbA hS dL_law_26 ?_
  refine lv_topi (fun y_5 ey_5 => ?_)
  obtain rfl : y_5 = 5 := ey_5.trans (by decide)
  refine lv_iconst (v := 5) hx hb dL_law_27 (by decide) ?_
  refine lv_isub hx hb dL_law_28 ?_
  refine lv_topi (fun x_6 ex_6 => ?_)
  obtain rfl : x_6 = 0 := ex_6.trans (by decide)
  refine lv_icmp_gt (tgt := 1956) hx hb dL_law_29 (by decide) (fun c_29 => ?_) (fun c_29 => absurd (by decide) c_29)
  refine lv_iconst (v := 1) hx hb dL_law_1956 (by decide) ?_
  refine va_forget (fun q hq => by have h9 := hS.2.2 q hq; rw [← hAe] at h9; exact h9) ?_
  refine W.widen (k := 600002) (n := 7302232) (Nat.le_of_ble_eq_true rfl) (Nat.le_of_ble_eq_true rfl) ?_
  refine W.base ?_
  exact lw_ret (Drawn.sameBut.refl s.drawn lw_cs) hx hb hr hlocks dL_law_1957

set_option maxHeartbeats 4000000 in
set_option maxRecDepth 100000 in
theorem lc_14 {p : Program} {l : Launch} {e : Env} {s : State} {m : MethodId} {below : List Frame} {meth : Method} {c : Code} {b : Nat} {xs : Nat → Int32} (hfl : l.stackTraces = false) {ae : Nat} {D : va_G} {cI cJ cS cO : ClassId} (C0 : lw_At p s m meth c b 5 xs) (hK : va_K D vwCl [(cI, .int), (cJ, .long), (cS, .object "IronwoodModel$State"), (cO, .object "java/lang/Object")] s) (hG : Gl ae (fun q : Nat => s.heap.size ≤ q) s s.heap) (x : Nat) (t : Nat) (n : Nat) (sp : Nat) (t_kinds : Nat) (t_codes : Nat) (t_targets : Nat) (t_settings : Nat) (t_sources : Nat) (t_accessCounts : Nat) (t_acts : Nat) (t_actVariables : Nat) (t_actPlaces : Nat) (mo : Nat) (vl : Nat) (sl : Nat) (o : Nat) (x1 : Int32) (e1 : xs (Int32.toNatClampNeg 1) = x1) (x2 : Int32) (e2 : xs (Int32.toNatClampNeg 2) = x2) (x3 : Int32) (e3 : xs (Int32.toNatClampNeg 3) = x3) (x4 : Int32) (e4 : xs (Int32.toNatClampNeg 4) = x4)  (H : Heap) (locs : List Loc) (hP : va_P D vwCl [(x, .inr (6, [.ref t, .ref n, .ref sp, .int 0])), (t, .inr (4, [.ref t_kinds, .int 0, .long 0, .long 0, .ref t_codes, .ref t_targets, .ref t_settings, .ref t_sources, .ref t_accessCounts, .int 0, .ref t_acts, .ref t_actVariables, .ref t_actPlaces])), (mo, .inr (12, [.int 0, .ref vl, .ref sl])), (sl, .inr (0, [.int 0, .ref ae, .int 0])), (o, .inl (cJ, 1, .inr (.inl (fun _ => 0))))] H) (hD : va_D (fun q : Nat => s.heap.size ≤ q) [(x, .inr (6, [.ref t, .ref n, .ref sp, .int 0])), (t, .inr (4, [.ref t_kinds, .int 0, .long 0, .long 0, .ref t_codes, .ref t_targets, .ref t_settings, .ref t_sources, .ref t_accessCounts, .int 0, .ref t_acts, .ref t_actVariables, .ref t_actPlaces])), (mo, .inr (12, [.int 0, .ref vl, .ref sl])), (sl, .inr (0, [.int 0, .ref ae, .int 0])), (o, .inl (cJ, 1, .inr (.inl (fun _ => 0))))]) (hS : va_S (fun q : Nat => s.heap.size ≤ q) s.heap H locs) (ls : Array Slot) (hl : lv_has ls 9 [(0, .ref b), (1, .ref x), (2, .ref mo), (3, .ref o), (4, .int 0)]) : W p l e room_1 s m #[Value.ref b] below meth c H locs 61 3597 (lw_Z below #[Value.ref b] s) (F0 m 1054 ls []) := by
  obtain ⟨hx, hb, hr, hml, hown, hts0, hX, hbl, hlocks, hgv⟩ := id C0
  have hts := law_hts hts0
  have hA : ∀ q : Nat, s.heap.size ≤ q → (fun q : Nat => s.heap.size ≤ q) q := fun _ h => h
  have hbA : ¬ (fun q : Nat => s.heap.size ≤ q) b := Nat.not_le.mpr hbl
  generalize hAe : (fun q : Nat => s.heap.size ≤ q) = A at hD hG hS hA hbA
  refine lv_aload_n hx hb dL_law_1054 rfl (lv_at hl 1 rfl) ?_
  refine lv_aload_n hx hb dL_law_1055 rfl (lv_at hl 0 rfl) ?_
  refine lv_iload hx hb dL_law_1056 (lv_at hl 4 rfl) ?_
  refine lv_iconst (v := 1) hx hb dL_law_1058 (by decide) ?_
  refine lv_iadd hx hb dL_law_1059 ?_
  refine lv_topi (fun x_1 ex_1 => ?_)
  obtain rfl : x_1 = 1 := ex_1.trans (by decide)
  refine va_sld hx hb hX hbl hbA hS (vp_in_iff.mpr (by decide)) dL_law_1060 ?_
  refine lv_topi (fun y_2 ey_2 => ?_)
  rw [show y_2 = x1 from ey_2.trans e1]
  refine lv_aload_n hx hb dL_law_1061 rfl (lv_at hl 3 rfl) ?_
  refine kc_i (wr := [(mo, .inr (12, [.int 0, .ref vl, .ref sl])), (sl, .inr (0, [.int 0, .ref ae, .int 0]))]) (vx_runSW (As := [.ref x, .int x1, .ref o]) (rest := []) ⟨hx, hb, hml, hown, hts⟩ (w_codeOf_x l hfl ae D cI cJ cS cO x t n sp 0 t_kinds 0 0 0 t_codes t_targets t_settings t_sources t_accessCounts t_acts t_actVariables t_actPlaces x1 o (fun _ => 0) _) (vx_cwSW 3 hts (gT q_878 q_876 q_877 q_97) rfl rfl rfl (by decide +kernel) ⟨Nat.le_of_ble_eq_true rfl, Nat.le_of_ble_eq_true rfl⟩) ⟨Pw.blind, Pw.mk_call hP hK hD hS hA hG [0, 1, 4] rfl (by decide)⟩ rfl rfl hl.1 rfl (lv_room (Nat.le_of_ble_eq_true rfl)) dL_law_1062 ⟨Nat.le_of_ble_eq_true rfl, Nat.le_of_ble_eq_true rfl⟩) hP hD hS hA [0, 1, 4] [2, 3] rfl rfl (by decide) (by decide) (fun r_3 u_4 H locs hw hP hD hS => ?_)
  obtain rfl : r_3 = 1 := hw
  have hP : va_P D vwCl [(mo, .inr (12, [.int 0, .ref vl, .ref sl])), (sl, .inr (0, [.int 0, .ref ae, .int 0])), (x, .inr (6, [.ref t, .ref n, .ref sp, .int 0])), (t, .inr (4, [.ref t_kinds, .int 0, .long 0, .long 0, .ref t_codes, .ref t_targets, .ref t_settings, .ref t_sources, .ref t_accessCounts, .int 0, .ref t_acts, .ref t_actVariables, .ref t_actPlaces])), (o, .inl (cJ, 1, .inr (.inl (fun _ => 0))))] H := hP
  have hD : va_D A [(mo, .inr (12, [.int 0, .ref vl, .ref sl])), (sl, .inr (0, [.int 0, .ref ae, .int 0])), (x, .inr (6, [.ref t, .ref n, .ref sp, .int 0])), (t, .inr (4, [.ref t_kinds, .int 0, .long 0, .long 0, .ref t_codes, .ref t_targets, .ref t_settings, .ref t_sources, .ref t_accessCounts, .int 0, .ref t_acts, .ref t_actVariables, .ref t_actPlaces])), (o, .inl (cJ, 1, .inr (.inl (fun _ => 0))))] := hD
  refine lv_istore (lv' := [(5, .int 1), (0, .ref b), (1, .ref x), (2, .ref mo), (3, .ref o), (4, .int 0)]) hx hb dL_law_1065 hl (by decide) rfl (fun ls hl => ?_)
  refine lv_aload_n hx hb dL_law_1067 rfl (lv_at hl 3 rfl) ?_
  refine lv_aload_n hx hb dL_law_1068 rfl (lv_at hl 1 rfl) ?_
  refine lv_iload hx hb dL_law_1069 (lv_at hl 5 rfl) ?_
  refine lv_iconst (v := 1) hx hb dL_law_1071 (by decide) ?_
  refine lv_iadd hx hb dL_law_1072 ?_
  refine lv_topi (fun x_5 ex_5 => ?_)
  obtain rfl : x_5 = 1 := ex_5.trans (by decide)
  refine va_sld hx hb hX hbl hbA hS (vp_in_iff.mpr (by decide)) dL_law_1073 ?_
  refine lv_topi (fun y_6 ey_6 => ?_)
  rw [show y_6 = x1 from ey_6.trans e1]
  refine kc_i (wr := [(x, .inr (6, [.ref t, .ref n, .ref sp, .int 0])), (t, .inr (4, [.ref t_kinds, .int 0, .long 0, .long 0, .ref t_codes, .ref t_targets, .ref t_settings, .ref t_sources, .ref t_accessCounts, .int 0, .ref t_acts, .ref t_actVariables, .ref t_actPlaces])), (o, .inl (cJ, 1, .inr (.inl (fun _ => 0))))]) (va_runV (As := [.int x1]) (rest := []) ⟨hx, hb, hml, hown, hts⟩ (m_codeOf_x l hfl ae D cI cJ cS cO mo vl sl x1 _) (cwV 1 hts (gV q_1261 q_1258 q_1259 q_1260 q_104) rfl rfl rfl (by decide +kernel) ⟨Nat.le_of_ble_eq_true rfl, Nat.le_of_ble_eq_true rfl⟩) ⟨Pw.blind, va_recv hK hP (ci := 12) (q0 := 0) rfl rfl, Pw.mk_call hP hK hD hS hA hG [0, 1] rfl (by decide)⟩ rfl rfl hl.1 rfl (lv_room (Nat.le_of_ble_eq_true rfl)) dL_law_1074 ⟨Nat.le_of_ble_eq_true rfl, Nat.le_of_ble_eq_true rfl⟩) hP hD hS hA [0, 1] [2, 3, 4] rfl rfl (by decide) (by decide) (fun r_7 u_8 H locs hw hP hD hS => ?_)
  obtain rfl : r_7 = 0 := hw
  have hP : va_P D vwCl [(x, .inr (6, [.ref t, .ref n, .ref sp, .int 0])), (t, .inr (4, [.ref t_kinds, .int 0, .long 0, .long 0, .ref t_codes, .ref t_targets, .ref t_settings, .ref t_sources, .ref t_accessCounts, .int 0, .ref t_acts, .ref t_actVariables, .ref t_actPlaces])), (o, .inl (cJ, 1, .inr (.inl (fun _ => 0)))), (mo, .inr (12, [.int 1, .ref vl, .ref sl])), (sl, .inr (0, [.int 0, .ref ae, .int 0]))] H := hP
  have hD : va_D A [(x, .inr (6, [.ref t, .ref n, .ref sp, .int 0])), (t, .inr (4, [.ref t_kinds, .int 0, .long 0, .long 0, .ref t_codes, .ref t_targets, .ref t_settings, .ref t_sources, .ref t_accessCounts, .int 0, .ref t_acts, .ref t_actVariables, .ref t_actPlaces])), (o, .inl (cJ, 1, .inr (.inl (fun _ => 0)))), (mo, .inr (12, [.int 1, .ref vl, .ref sl])), (sl, .inr (0, [.int 0, .ref ae, .int 0]))] := hD
  refine lv_istore (lv' := [(6, .int 0), (5, .int 1), (0, .ref b), (1, .ref x), (2, .ref mo), (3, .ref o), (4, .int 0)]) hx hb dL_law_1077 hl (by decide) rfl (fun ls hl => ?_)
  refine lv_aload_n hx hb dL_law_1079 rfl (lv_at hl 4 rfl) ?_
  refine kc_i (wr := [(x, .inr (6, [.ref t, .ref n, .ref sp, .int 0])), (t, .inr (4, [.ref t_kinds, .int 0, .long 0, .long 0, .ref t_codes, .ref t_targets, .ref t_settings, .ref t_sources, .ref t_accessCounts, .int 0, .ref t_acts, .ref t_actVariables, .ref t_actPlaces])), (o, .inl (cJ, 1, .inr (.inl (fun _ => 0)))), (sl, .inr (0, [.int 0, .ref ae, .int 0]))]) (va_runV (As := []) (rest := []) ⟨hx, hb, hml, hown, hts⟩ (m_thrown l hfl ae D cI cJ cS cO mo vl sl 1 _) (cwV 0 hts (gV q_1017 q_1014 q_1015 q_1016 q_104) rfl rfl rfl (by decide +kernel) ⟨Nat.le_of_ble_eq_true rfl, Nat.le_of_ble_eq_true rfl⟩) ⟨Pw.blind, va_recv hK hP (ci := 12) (q0 := 3) rfl rfl, Pw.mk_call hP hK hD hS hA hG [3] rfl (by decide)⟩ rfl rfl hl.1 rfl (lv_room (Nat.le_of_ble_eq_true rfl)) dL_law_1080 ⟨Nat.le_of_ble_eq_true rfl, Nat.le_of_ble_eq_true rfl⟩) hP hD hS hA [3] [0, 1, 2, 4] rfl rfl (by decide) (by decide) (fun r_9 u_10 H locs hw hP hD hS => ?_)
  obtain rfl : r_9 = 1 := hw
  have hP : va_P D vwCl [(x, .inr (6, [.ref t, .ref n, .ref sp, .int 0])), (t, .inr (4, [.ref t_kinds, .int 0, .long 0, .long 0, .ref t_codes, .ref t_targets, .ref t_settings, .ref t_sources, .ref t_accessCounts, .int 0, .ref t_acts, .ref t_actVariables, .ref t_actPlaces])), (o, .inl (cJ, 1, .inr (.inl (fun _ => 0)))), (sl, .inr (0, [.int 0, .ref ae, .int 0])), (mo, .inr (12, [.int 1, .ref vl, .ref sl]))] H := hP
  have hD : va_D A [(x, .inr (6, [.ref t, .ref n, .ref sp, .int 0])), (t, .inr (4, [.ref t_kinds, .int 0, .long 0, .long 0, .ref t_codes, .ref t_targets, .ref t_settings, .ref t_sources, .ref t_accessCounts, .int 0, .ref t_acts, .ref t_actVariables, .ref t_actPlaces])), (o, .inl (cJ, 1, .inr (.inl (fun _ => 0)))), (sl, .inr (0, [.int 0, .ref ae, .int 0])), (mo, .inr (12, [.int 1, .ref vl, .ref sl]))] := hD
  refine lv_iload hx hb dL_law_1083 (lv_at hl 1 rfl) ?_
  refine lv_icmp_eq (tgt := 1090) hx hb dL_law_1085 (by decide) (fun c_1085 => ?_) (fun c_1085 => absurd (by decide) c_1085)
  refine lv_iload hx hb dL_law_1090 (lv_at hl 1 rfl) ?_
  refine lv_if_ne (tgt := 1107) hx hb dL_law_1092 (by decide) (fun c_1092 => ?_) (fun c_1092 => absurd c_1092 (by decide))
  refine lv_goto (tgt := 1950) hx hb dL_law_1107 (by decide) ?_
  refine lv_iinc (v := 5) (lv' := [(4, .int 5), (6, .int 0), (5, .int 1), (0, .ref b), (1, .ref x), (2, .ref mo), (3, .ref o)]) hx hb dL_law_1950 hl (k := 6) rfl (by decide) (by decide) rfl (fun ls hl => ?_)
  refine lv_goto (tgt := 23) hx hb dL_law_1953 (by decide) ?_
  refine lv_iload hx hb dL_law_23 (lv_at hl 0 rfl) ?_
  refine lv_aload_n hx hb dL_law_25 rfl (lv_at hl 3 rfl) ?_
  refine va_slen hx hb hX hbl hbA hS dL_law_26 ?_
  refine lv_topi (fun y_11 ey_11 => ?_)
  obtain rfl : y_11 = 5 := ey_11.trans (by decide)
  refine lv_iconst (v := 5) hx hb dL_law_27 (by decide) ?_
  refine lv_isub hx hb dL_law_28 ?_
  refine lv_topi (fun x_12 ex_12 => ?_)
  obtain rfl : x_12 = 0 := ex_12.trans (by decide)
  refine lv_icmp_gt (tgt := 1956) hx hb dL_law_29 (by decide) (fun c_29 => ?_) (fun c_29 => absurd (by decide) c_29)
  refine lv_iconst (v := 1) hx hb dL_law_1956 (by decide) ?_
  refine va_forget (fun q hq => by have h9 := hS.2.2 q hq; rw [← hAe] at h9; exact h9) ?_
  refine W.widen (k := 600002) (n := 7302232) (Nat.le_of_ble_eq_true rfl) (Nat.le_of_ble_eq_true rfl) ?_
  refine W.base ?_
  exact lw_ret (Drawn.sameBut.refl s.drawn lw_cs) hx hb hr hlocks dL_law_1957

set_option maxHeartbeats 4000000 in
set_option maxRecDepth 100000 in
theorem lc_15 {p : Program} {l : Launch} {e : Env} {s : State} {m : MethodId} {below : List Frame} {meth : Method} {c : Code} {b : Nat} {xs : Nat → Int32} (hfl : l.stackTraces = false) {ae : Nat} {D : va_G} {cI cJ cS cO : ClassId} (C0 : lw_At p s m meth c b 5 xs) (hK : va_K D vwCl [(cI, .int), (cJ, .long), (cS, .object "IronwoodModel$State"), (cO, .object "java/lang/Object")] s) (hG : Gl ae (fun q : Nat => s.heap.size ≤ q) s s.heap) (x : Nat) (t : Nat) (n : Nat) (sp : Nat) (t_kinds : Nat) (t_codes : Nat) (t_targets : Nat) (t_settings : Nat) (t_sources : Nat) (t_accessCounts : Nat) (t_acts : Nat) (t_actVariables : Nat) (t_actPlaces : Nat) (mo : Nat) (vl : Nat) (sl : Nat) (o : Nat) (x1 : Int32) (e1 : xs (Int32.toNatClampNeg 1) = x1) (x2 : Int32) (e2 : xs (Int32.toNatClampNeg 2) = x2) (x3 : Int32) (e3 : xs (Int32.toNatClampNeg 3) = x3) (x4 : Int32) (e4 : xs (Int32.toNatClampNeg 4) = x4)  (H : Heap) (locs : List Loc) (hP : va_P D vwCl [(x, .inr (6, [.ref t, .ref n, .ref sp, .int 0])), (t, .inr (4, [.ref t_kinds, .int 0, .long 0, .long 0, .ref t_codes, .ref t_targets, .ref t_settings, .ref t_sources, .ref t_accessCounts, .int 0, .ref t_acts, .ref t_actVariables, .ref t_actPlaces])), (mo, .inr (12, [.int 0, .ref vl, .ref sl])), (sl, .inr (0, [.int 0, .ref ae, .int 0])), (o, .inl (cJ, 1, .inr (.inl (fun _ => 0))))] H) (hD : va_D (fun q : Nat => s.heap.size ≤ q) [(x, .inr (6, [.ref t, .ref n, .ref sp, .int 0])), (t, .inr (4, [.ref t_kinds, .int 0, .long 0, .long 0, .ref t_codes, .ref t_targets, .ref t_settings, .ref t_sources, .ref t_accessCounts, .int 0, .ref t_acts, .ref t_actVariables, .ref t_actPlaces])), (mo, .inr (12, [.int 0, .ref vl, .ref sl])), (sl, .inr (0, [.int 0, .ref ae, .int 0])), (o, .inl (cJ, 1, .inr (.inl (fun _ => 0))))]) (hS : va_S (fun q : Nat => s.heap.size ≤ q) s.heap H locs) (ls : Array Slot) (hl : lv_has ls 9 [(0, .ref b), (1, .ref x), (2, .ref mo), (3, .ref o), (4, .int 0)]) : W p l e room_1 s m #[Value.ref b] below meth c H locs 61 3597 (lw_Z below #[Value.ref b] s) (F0 m 1110 ls []) := by
  obtain ⟨hx, hb, hr, hml, hown, hts0, hX, hbl, hlocks, hgv⟩ := id C0
  have hts := law_hts hts0
  have hA : ∀ q : Nat, s.heap.size ≤ q → (fun q : Nat => s.heap.size ≤ q) q := fun _ h => h
  have hbA : ¬ (fun q : Nat => s.heap.size ≤ q) b := Nat.not_le.mpr hbl
  generalize hAe : (fun q : Nat => s.heap.size ≤ q) = A at hD hG hS hA hbA
  refine lv_aload_n hx hb dL_law_1110 rfl (lv_at hl 1 rfl) ?_
  refine lv_aload_n hx hb dL_law_1111 rfl (lv_at hl 0 rfl) ?_
  refine lv_iload hx hb dL_law_1112 (lv_at hl 4 rfl) ?_
  refine lv_iconst (v := 1) hx hb dL_law_1114 (by decide) ?_
  refine lv_iadd hx hb dL_law_1115 ?_
  refine lv_topi (fun x_1 ex_1 => ?_)
  obtain rfl : x_1 = 1 := ex_1.trans (by decide)
  refine va_sld hx hb hX hbl hbA hS (vp_in_iff.mpr (by decide)) dL_law_1116 ?_
  refine lv_topi (fun y_2 ey_2 => ?_)
  rw [show y_2 = x1 from ey_2.trans e1]
  refine lv_aload_n hx hb dL_law_1117 rfl (lv_at hl 3 rfl) ?_
  refine kc_i (wr := [(mo, .inr (12, [.int 0, .ref vl, .ref sl])), (sl, .inr (0, [.int 0, .ref ae, .int 0]))]) (vx_runSW (As := [.ref x, .int x1, .ref o]) (rest := []) ⟨hx, hb, hml, hown, hts⟩ (w_isReached_x l hfl ae D cI cJ cS cO x t n sp 0 t_kinds 0 0 0 t_codes t_targets t_settings t_sources t_accessCounts t_acts t_actVariables t_actPlaces x1 o (fun _ => 0) _) (vx_cwSW 3 hts (gT q_885 q_883 q_884 q_97) rfl rfl rfl (by decide +kernel) ⟨Nat.le_of_ble_eq_true rfl, Nat.le_of_ble_eq_true rfl⟩) ⟨Pw.blind, Pw.mk_call hP hK hD hS hA hG [0, 1, 4] rfl (by decide)⟩ rfl rfl hl.1 rfl (lv_room (Nat.le_of_ble_eq_true rfl)) dL_law_1118 ⟨Nat.le_of_ble_eq_true rfl, Nat.le_of_ble_eq_true rfl⟩) hP hD hS hA [0, 1, 4] [2, 3] rfl rfl (by decide) (by decide) (fun r_3 u_4 H locs hw hP hD hS => ?_)
  obtain rfl : r_3 = 1 := hw
  have hP : va_P D vwCl [(mo, .inr (12, [.int 0, .ref vl, .ref sl])), (sl, .inr (0, [.int 0, .ref ae, .int 0])), (x, .inr (6, [.ref t, .ref n, .ref sp, .int 0])), (t, .inr (4, [.ref t_kinds, .int 0, .long 0, .long 0, .ref t_codes, .ref t_targets, .ref t_settings, .ref t_sources, .ref t_accessCounts, .int 0, .ref t_acts, .ref t_actVariables, .ref t_actPlaces])), (o, .inl (cJ, 1, .inr (.inl (fun _ => 0))))] H := hP
  have hD : va_D A [(mo, .inr (12, [.int 0, .ref vl, .ref sl])), (sl, .inr (0, [.int 0, .ref ae, .int 0])), (x, .inr (6, [.ref t, .ref n, .ref sp, .int 0])), (t, .inr (4, [.ref t_kinds, .int 0, .long 0, .long 0, .ref t_codes, .ref t_targets, .ref t_settings, .ref t_sources, .ref t_accessCounts, .int 0, .ref t_acts, .ref t_actVariables, .ref t_actPlaces])), (o, .inl (cJ, 1, .inr (.inl (fun _ => 0))))] := hD
  refine lv_istore (lv' := [(5, .int 1), (0, .ref b), (1, .ref x), (2, .ref mo), (3, .ref o), (4, .int 0)]) hx hb dL_law_1121 hl (by decide) rfl (fun ls hl => ?_)
  refine lv_aload_n hx hb dL_law_1123 rfl (lv_at hl 3 rfl) ?_
  refine lv_aload_n hx hb dL_law_1124 rfl (lv_at hl 1 rfl) ?_
  refine lv_iload hx hb dL_law_1125 (lv_at hl 5 rfl) ?_
  refine lv_iconst (v := 1) hx hb dL_law_1127 (by decide) ?_
  refine lv_iadd hx hb dL_law_1128 ?_
  refine lv_topi (fun x_5 ex_5 => ?_)
  obtain rfl : x_5 = 1 := ex_5.trans (by decide)
  refine va_sld hx hb hX hbl hbA hS (vp_in_iff.mpr (by decide)) dL_law_1129 ?_
  refine lv_topi (fun y_6 ey_6 => ?_)
  rw [show y_6 = x1 from ey_6.trans e1]
  refine kc_i (wr := [(x, .inr (6, [.ref t, .ref n, .ref sp, .int 0])), (t, .inr (4, [.ref t_kinds, .int 0, .long 0, .long 0, .ref t_codes, .ref t_targets, .ref t_settings, .ref t_sources, .ref t_accessCounts, .int 0, .ref t_acts, .ref t_actVariables, .ref t_actPlaces])), (o, .inl (cJ, 1, .inr (.inl (fun _ => 0))))]) (va_runV (As := [.int x1]) (rest := []) ⟨hx, hb, hml, hown, hts⟩ (m_isReached_x l hfl ae D cI cJ cS cO mo vl sl x1 _) (cwV 1 hts (gV q_1265 q_1262 q_1263 q_1264 q_104) rfl rfl rfl (by decide +kernel) ⟨Nat.le_of_ble_eq_true rfl, Nat.le_of_ble_eq_true rfl⟩) ⟨Pw.blind, va_recv hK hP (ci := 12) (q0 := 0) rfl rfl, Pw.mk_call hP hK hD hS hA hG [0, 1] rfl (by decide)⟩ rfl rfl hl.1 rfl (lv_room (Nat.le_of_ble_eq_true rfl)) dL_law_1130 ⟨Nat.le_of_ble_eq_true rfl, Nat.le_of_ble_eq_true rfl⟩) hP hD hS hA [0, 1] [2, 3, 4] rfl rfl (by decide) (by decide) (fun r_7 u_8 H locs hw hP hD hS => ?_)
  obtain rfl : r_7 = 0 := hw
  have hP : va_P D vwCl [(x, .inr (6, [.ref t, .ref n, .ref sp, .int 0])), (t, .inr (4, [.ref t_kinds, .int 0, .long 0, .long 0, .ref t_codes, .ref t_targets, .ref t_settings, .ref t_sources, .ref t_accessCounts, .int 0, .ref t_acts, .ref t_actVariables, .ref t_actPlaces])), (o, .inl (cJ, 1, .inr (.inl (fun _ => 0)))), (mo, .inr (12, [.int 1, .ref vl, .ref sl])), (sl, .inr (0, [.int 0, .ref ae, .int 0]))] H := hP
  have hD : va_D A [(x, .inr (6, [.ref t, .ref n, .ref sp, .int 0])), (t, .inr (4, [.ref t_kinds, .int 0, .long 0, .long 0, .ref t_codes, .ref t_targets, .ref t_settings, .ref t_sources, .ref t_accessCounts, .int 0, .ref t_acts, .ref t_actVariables, .ref t_actPlaces])), (o, .inl (cJ, 1, .inr (.inl (fun _ => 0)))), (mo, .inr (12, [.int 1, .ref vl, .ref sl])), (sl, .inr (0, [.int 0, .ref ae, .int 0]))] := hD
  refine lv_istore (lv' := [(6, .int 0), (5, .int 1), (0, .ref b), (1, .ref x), (2, .ref mo), (3, .ref o), (4, .int 0)]) hx hb dL_law_1133 hl (by decide) rfl (fun ls hl => ?_)
  refine lv_aload_n hx hb dL_law_1135 rfl (lv_at hl 4 rfl) ?_
  refine kc_i (wr := [(x, .inr (6, [.ref t, .ref n, .ref sp, .int 0])), (t, .inr (4, [.ref t_kinds, .int 0, .long 0, .long 0, .ref t_codes, .ref t_targets, .ref t_settings, .ref t_sources, .ref t_accessCounts, .int 0, .ref t_acts, .ref t_actVariables, .ref t_actPlaces])), (o, .inl (cJ, 1, .inr (.inl (fun _ => 0)))), (sl, .inr (0, [.int 0, .ref ae, .int 0]))]) (va_runV (As := []) (rest := []) ⟨hx, hb, hml, hown, hts⟩ (m_thrown l hfl ae D cI cJ cS cO mo vl sl 1 _) (cwV 0 hts (gV q_1017 q_1014 q_1015 q_1016 q_104) rfl rfl rfl (by decide +kernel) ⟨Nat.le_of_ble_eq_true rfl, Nat.le_of_ble_eq_true rfl⟩) ⟨Pw.blind, va_recv hK hP (ci := 12) (q0 := 3) rfl rfl, Pw.mk_call hP hK hD hS hA hG [3] rfl (by decide)⟩ rfl rfl hl.1 rfl (lv_room (Nat.le_of_ble_eq_true rfl)) dL_law_1136 ⟨Nat.le_of_ble_eq_true rfl, Nat.le_of_ble_eq_true rfl⟩) hP hD hS hA [3] [0, 1, 2, 4] rfl rfl (by decide) (by decide) (fun r_9 u_10 H locs hw hP hD hS => ?_)
  obtain rfl : r_9 = 1 := hw
  have hP : va_P D vwCl [(x, .inr (6, [.ref t, .ref n, .ref sp, .int 0])), (t, .inr (4, [.ref t_kinds, .int 0, .long 0, .long 0, .ref t_codes, .ref t_targets, .ref t_settings, .ref t_sources, .ref t_accessCounts, .int 0, .ref t_acts, .ref t_actVariables, .ref t_actPlaces])), (o, .inl (cJ, 1, .inr (.inl (fun _ => 0)))), (sl, .inr (0, [.int 0, .ref ae, .int 0])), (mo, .inr (12, [.int 1, .ref vl, .ref sl]))] H := hP
  have hD : va_D A [(x, .inr (6, [.ref t, .ref n, .ref sp, .int 0])), (t, .inr (4, [.ref t_kinds, .int 0, .long 0, .long 0, .ref t_codes, .ref t_targets, .ref t_settings, .ref t_sources, .ref t_accessCounts, .int 0, .ref t_acts, .ref t_actVariables, .ref t_actPlaces])), (o, .inl (cJ, 1, .inr (.inl (fun _ => 0)))), (sl, .inr (0, [.int 0, .ref ae, .int 0])), (mo, .inr (12, [.int 1, .ref vl, .ref sl]))] := hD
  refine lv_iload hx hb dL_law_1139 (lv_at hl 1 rfl) ?_
  refine lv_icmp_eq (tgt := 1146) hx hb dL_law_1141 (by decide) (fun c_1141 => ?_) (fun c_1141 => absurd (by decide) c_1141)
  refine lv_iload hx hb dL_law_1146 (lv_at hl 1 rfl) ?_
  refine lv_if_ne (tgt := 1170) hx hb dL_law_1148 (by decide) (fun c_1148 => ?_) (fun c_1148 => absurd c_1148 (by decide))
  refine lv_goto (tgt := 1950) hx hb dL_law_1170 (by decide) ?_
  refine lv_iinc (v := 5) (lv' := [(4, .int 5), (6, .int 0), (5, .int 1), (0, .ref b), (1, .ref x), (2, .ref mo), (3, .ref o)]) hx hb dL_law_1950 hl (k := 6) rfl (by decide) (by decide) rfl (fun ls hl => ?_)
  refine lv_goto (tgt := 23) hx hb dL_law_1953 (by decide) ?_
  refine lv_iload hx hb dL_law_23 (lv_at hl 0 rfl) ?_
  refine lv_aload_n hx hb dL_law_25 rfl (lv_at hl 3 rfl) ?_
  refine va_slen hx hb hX hbl hbA hS dL_law_26 ?_
  refine lv_topi (fun y_11 ey_11 => ?_)
  obtain rfl : y_11 = 5 := ey_11.trans (by decide)
  refine lv_iconst (v := 5) hx hb dL_law_27 (by decide) ?_
  refine lv_isub hx hb dL_law_28 ?_
  refine lv_topi (fun x_12 ex_12 => ?_)
  obtain rfl : x_12 = 0 := ex_12.trans (by decide)
  refine lv_icmp_gt (tgt := 1956) hx hb dL_law_29 (by decide) (fun c_29 => ?_) (fun c_29 => absurd (by decide) c_29)
  refine lv_iconst (v := 1) hx hb dL_law_1956 (by decide) ?_
  refine va_forget (fun q hq => by have h9 := hS.2.2 q hq; rw [← hAe] at h9; exact h9) ?_
  refine W.widen (k := 600002) (n := 7302232) (Nat.le_of_ble_eq_true rfl) (Nat.le_of_ble_eq_true rfl) ?_
  refine W.base ?_
  exact lw_ret (Drawn.sameBut.refl s.drawn lw_cs) hx hb hr hlocks dL_law_1957

set_option maxHeartbeats 4000000 in
set_option maxRecDepth 100000 in
theorem lc_16 {p : Program} {l : Launch} {e : Env} {s : State} {m : MethodId} {below : List Frame} {meth : Method} {c : Code} {b : Nat} {xs : Nat → Int32} (hfl : l.stackTraces = false) {ae : Nat} {D : va_G} {cI cJ cS cO : ClassId} (C0 : lw_At p s m meth c b 5 xs) (hK : va_K D vwCl [(cI, .int), (cJ, .long), (cS, .object "IronwoodModel$State"), (cO, .object "java/lang/Object")] s) (hG : Gl ae (fun q : Nat => s.heap.size ≤ q) s s.heap) (x : Nat) (t : Nat) (n : Nat) (sp : Nat) (t_kinds : Nat) (t_codes : Nat) (t_targets : Nat) (t_settings : Nat) (t_sources : Nat) (t_accessCounts : Nat) (t_acts : Nat) (t_actVariables : Nat) (t_actPlaces : Nat) (mo : Nat) (vl : Nat) (sl : Nat) (o : Nat) (x1 : Int32) (e1 : xs (Int32.toNatClampNeg 1) = x1) (x2 : Int32) (e2 : xs (Int32.toNatClampNeg 2) = x2) (x3 : Int32) (e3 : xs (Int32.toNatClampNeg 3) = x3) (x4 : Int32) (e4 : xs (Int32.toNatClampNeg 4) = x4)  (H : Heap) (locs : List Loc) (hP : va_P D vwCl [(x, .inr (6, [.ref t, .ref n, .ref sp, .int 0])), (t, .inr (4, [.ref t_kinds, .int 0, .long 0, .long 0, .ref t_codes, .ref t_targets, .ref t_settings, .ref t_sources, .ref t_accessCounts, .int 0, .ref t_acts, .ref t_actVariables, .ref t_actPlaces])), (mo, .inr (12, [.int 0, .ref vl, .ref sl])), (sl, .inr (0, [.int 0, .ref ae, .int 0])), (o, .inl (cJ, 1, .inr (.inl (fun _ => 0))))] H) (hD : va_D (fun q : Nat => s.heap.size ≤ q) [(x, .inr (6, [.ref t, .ref n, .ref sp, .int 0])), (t, .inr (4, [.ref t_kinds, .int 0, .long 0, .long 0, .ref t_codes, .ref t_targets, .ref t_settings, .ref t_sources, .ref t_accessCounts, .int 0, .ref t_acts, .ref t_actVariables, .ref t_actPlaces])), (mo, .inr (12, [.int 0, .ref vl, .ref sl])), (sl, .inr (0, [.int 0, .ref ae, .int 0])), (o, .inl (cJ, 1, .inr (.inl (fun _ => 0))))]) (hS : va_S (fun q : Nat => s.heap.size ≤ q) s.heap H locs) (ls : Array Slot) (hl : lv_has ls 9 [(0, .ref b), (1, .ref x), (2, .ref mo), (3, .ref o), (4, .int 0)]) : W p l e room_1 s m #[Value.ref b] below meth c H locs 61 3597 (lw_Z below #[Value.ref b] s) (F0 m 1173 ls []) := by
  obtain ⟨hx, hb, hr, hml, hown, hts0, hX, hbl, hlocks, hgv⟩ := id C0
  have hts := law_hts hts0
  have hA : ∀ q : Nat, s.heap.size ≤ q → (fun q : Nat => s.heap.size ≤ q) q := fun _ h => h
  have hbA : ¬ (fun q : Nat => s.heap.size ≤ q) b := Nat.not_le.mpr hbl
  generalize hAe : (fun q : Nat => s.heap.size ≤ q) = A at hD hG hS hA hbA
  refine lv_aload_n hx hb dL_law_1173 rfl (lv_at hl 1 rfl) ?_
  refine lv_aload_n hx hb dL_law_1174 rfl (lv_at hl 0 rfl) ?_
  refine lv_iload hx hb dL_law_1175 (lv_at hl 4 rfl) ?_
  refine lv_iconst (v := 1) hx hb dL_law_1177 (by decide) ?_
  refine lv_iadd hx hb dL_law_1178 ?_
  refine lv_topi (fun x_1 ex_1 => ?_)
  obtain rfl : x_1 = 1 := ex_1.trans (by decide)
  refine va_sld hx hb hX hbl hbA hS (vp_in_iff.mpr (by decide)) dL_law_1179 ?_
  refine lv_topi (fun y_2 ey_2 => ?_)
  rw [show y_2 = x1 from ey_2.trans e1]
  refine lv_aload_n hx hb dL_law_1180 rfl (lv_at hl 0 rfl) ?_
  refine lv_iload hx hb dL_law_1181 (lv_at hl 4 rfl) ?_
  refine lv_iconst (v := 2) hx hb dL_law_1183 (by decide) ?_
  refine lv_iadd hx hb dL_law_1184 ?_
  refine lv_topi (fun x_3 ex_3 => ?_)
  obtain rfl : x_3 = 2 := ex_3.trans (by decide)
  refine va_sld hx hb hX hbl hbA hS (vp_in_iff.mpr (by decide)) dL_law_1185 ?_
  refine lv_topi (fun y_4 ey_4 => ?_)
  rw [show y_4 = x2 from ey_4.trans e2]
  refine lv_aload_n hx hb dL_law_1186 rfl (lv_at hl 0 rfl) ?_
  refine lv_iload hx hb dL_law_1187 (lv_at hl 4 rfl) ?_
  refine lv_iconst (v := 3) hx hb dL_law_1189 (by decide) ?_
  refine lv_iadd hx hb dL_law_1190 ?_
  refine lv_topi (fun x_5 ex_5 => ?_)
  obtain rfl : x_5 = 3 := ex_5.trans (by decide)
  refine va_sld hx hb hX hbl hbA hS (vp_in_iff.mpr (by decide)) dL_law_1191 ?_
  refine lv_topi (fun y_6 ey_6 => ?_)
  rw [show y_6 = x3 from ey_6.trans e3]
  refine lv_aload_n hx hb dL_law_1192 rfl (lv_at hl 3 rfl) ?_
  refine kc_i (wr := [(mo, .inr (12, [.int 0, .ref vl, .ref sl])), (sl, .inr (0, [.int 0, .ref ae, .int 0]))]) (vx_runSW (As := [.ref x, .int x1, .int x2, .int x3, .ref o]) (rest := []) ⟨hx, hb, hml, hown, hts⟩ (w_canBe_x l hfl ae D cI cJ cS cO x t n sp 0 t_kinds 0 0 0 t_codes t_targets t_settings t_sources t_accessCounts t_acts t_actVariables t_actPlaces x1 x2 x3 o (fun _ => 0) _) (vx_cwSW 5 hts (gT q_892 q_890 q_891 q_97) rfl rfl rfl (by decide +kernel) ⟨Nat.le_of_ble_eq_true rfl, Nat.le_of_ble_eq_true rfl⟩) ⟨Pw.blind, Pw.mk_call hP hK hD hS hA hG [0, 1, 4] rfl (by decide)⟩ rfl rfl hl.1 rfl (lv_room (Nat.le_of_ble_eq_true rfl)) dL_law_1193 ⟨Nat.le_of_ble_eq_true rfl, Nat.le_of_ble_eq_true rfl⟩) hP hD hS hA [0, 1, 4] [2, 3] rfl rfl (by decide) (by decide) (fun r_7 u_8 H locs hw hP hD hS => ?_)
  obtain rfl : r_7 = 1 := hw
  have hP : va_P D vwCl [(mo, .inr (12, [.int 0, .ref vl, .ref sl])), (sl, .inr (0, [.int 0, .ref ae, .int 0])), (x, .inr (6, [.ref t, .ref n, .ref sp, .int 0])), (t, .inr (4, [.ref t_kinds, .int 0, .long 0, .long 0, .ref t_codes, .ref t_targets, .ref t_settings, .ref t_sources, .ref t_accessCounts, .int 0, .ref t_acts, .ref t_actVariables, .ref t_actPlaces])), (o, .inl (cJ, 1, .inr (.inl (fun _ => 0))))] H := hP
  have hD : va_D A [(mo, .inr (12, [.int 0, .ref vl, .ref sl])), (sl, .inr (0, [.int 0, .ref ae, .int 0])), (x, .inr (6, [.ref t, .ref n, .ref sp, .int 0])), (t, .inr (4, [.ref t_kinds, .int 0, .long 0, .long 0, .ref t_codes, .ref t_targets, .ref t_settings, .ref t_sources, .ref t_accessCounts, .int 0, .ref t_acts, .ref t_actVariables, .ref t_actPlaces])), (o, .inl (cJ, 1, .inr (.inl (fun _ => 0))))] := hD
  refine lv_istore (lv' := [(5, .int 1), (0, .ref b), (1, .ref x), (2, .ref mo), (3, .ref o), (4, .int 0)]) hx hb dL_law_1196 hl (by decide) rfl (fun ls hl => ?_)
  refine lv_aload_n hx hb dL_law_1198 rfl (lv_at hl 3 rfl) ?_
  refine lv_aload_n hx hb dL_law_1199 rfl (lv_at hl 1 rfl) ?_
  refine lv_iload hx hb dL_law_1200 (lv_at hl 5 rfl) ?_
  refine lv_iconst (v := 1) hx hb dL_law_1202 (by decide) ?_
  refine lv_iadd hx hb dL_law_1203 ?_
  refine lv_topi (fun x_9 ex_9 => ?_)
  obtain rfl : x_9 = 1 := ex_9.trans (by decide)
  refine va_sld hx hb hX hbl hbA hS (vp_in_iff.mpr (by decide)) dL_law_1204 ?_
  refine lv_topi (fun y_10 ey_10 => ?_)
  rw [show y_10 = x1 from ey_10.trans e1]
  refine lv_aload_n hx hb dL_law_1205 rfl (lv_at hl 1 rfl) ?_
  refine lv_iload hx hb dL_law_1206 (lv_at hl 5 rfl) ?_
  refine lv_iconst (v := 2) hx hb dL_law_1208 (by decide) ?_
  refine lv_iadd hx hb dL_law_1209 ?_
  refine lv_topi (fun x_11 ex_11 => ?_)
  obtain rfl : x_11 = 2 := ex_11.trans (by decide)
  refine va_sld hx hb hX hbl hbA hS (vp_in_iff.mpr (by decide)) dL_law_1210 ?_
  refine lv_topi (fun y_12 ey_12 => ?_)
  rw [show y_12 = x2 from ey_12.trans e2]
  refine lv_aload_n hx hb dL_law_1211 rfl (lv_at hl 1 rfl) ?_
  refine lv_iload hx hb dL_law_1212 (lv_at hl 5 rfl) ?_
  refine lv_iconst (v := 3) hx hb dL_law_1214 (by decide) ?_
  refine lv_iadd hx hb dL_law_1215 ?_
  refine lv_topi (fun x_13 ex_13 => ?_)
  obtain rfl : x_13 = 3 := ex_13.trans (by decide)
  refine va_sld hx hb hX hbl hbA hS (vp_in_iff.mpr (by decide)) dL_law_1216 ?_
  refine lv_topi (fun y_14 ey_14 => ?_)
  rw [show y_14 = x3 from ey_14.trans e3]
  refine kc_i (wr := [(x, .inr (6, [.ref t, .ref n, .ref sp, .int 0])), (t, .inr (4, [.ref t_kinds, .int 0, .long 0, .long 0, .ref t_codes, .ref t_targets, .ref t_settings, .ref t_sources, .ref t_accessCounts, .int 0, .ref t_acts, .ref t_actVariables, .ref t_actPlaces])), (o, .inl (cJ, 1, .inr (.inl (fun _ => 0))))]) (va_runV (As := [.int x1, .int x2, .int x3]) (rest := []) ⟨hx, hb, hml, hown, hts⟩ (m_canBe_x l hfl ae D cI cJ cS cO mo vl sl x1 x2 x3 _) (cwV 3 hts (gV q_1501 q_1498 q_1499 q_1500 q_104) rfl rfl rfl (by decide +kernel) ⟨Nat.le_of_ble_eq_true rfl, Nat.le_of_ble_eq_true rfl⟩) ⟨Pw.blind, va_recv hK hP (ci := 12) (q0 := 0) rfl rfl, Pw.mk_call hP hK hD hS hA hG [0, 1] rfl (by decide)⟩ rfl rfl hl.1 rfl (lv_room (Nat.le_of_ble_eq_true rfl)) dL_law_1217 ⟨Nat.le_of_ble_eq_true rfl, Nat.le_of_ble_eq_true rfl⟩) hP hD hS hA [0, 1] [2, 3, 4] rfl rfl (by decide) (by decide) (fun r_15 u_16 H locs hw hP hD hS => ?_)
  obtain rfl : r_15 = 0 := hw
  have hP : va_P D vwCl [(x, .inr (6, [.ref t, .ref n, .ref sp, .int 0])), (t, .inr (4, [.ref t_kinds, .int 0, .long 0, .long 0, .ref t_codes, .ref t_targets, .ref t_settings, .ref t_sources, .ref t_accessCounts, .int 0, .ref t_acts, .ref t_actVariables, .ref t_actPlaces])), (o, .inl (cJ, 1, .inr (.inl (fun _ => 0)))), (mo, .inr (12, [.int 1, .ref vl, .ref sl])), (sl, .inr (0, [.int 0, .ref ae, .int 0]))] H := hP
  have hD : va_D A [(x, .inr (6, [.ref t, .ref n, .ref sp, .int 0])), (t, .inr (4, [.ref t_kinds, .int 0, .long 0, .long 0, .ref t_codes, .ref t_targets, .ref t_settings, .ref t_sources, .ref t_accessCounts, .int 0, .ref t_acts, .ref t_actVariables, .ref t_actPlaces])), (o, .inl (cJ, 1, .inr (.inl (fun _ => 0)))), (mo, .inr (12, [.int 1, .ref vl, .ref sl])), (sl, .inr (0, [.int 0, .ref ae, .int 0]))] := hD
  refine lv_istore (lv' := [(6, .int 0), (5, .int 1), (0, .ref b), (1, .ref x), (2, .ref mo), (3, .ref o), (4, .int 0)]) hx hb dL_law_1220 hl (by decide) rfl (fun ls hl => ?_)
  refine lv_aload_n hx hb dL_law_1222 rfl (lv_at hl 4 rfl) ?_
  refine kc_i (wr := [(x, .inr (6, [.ref t, .ref n, .ref sp, .int 0])), (t, .inr (4, [.ref t_kinds, .int 0, .long 0, .long 0, .ref t_codes, .ref t_targets, .ref t_settings, .ref t_sources, .ref t_accessCounts, .int 0, .ref t_acts, .ref t_actVariables, .ref t_actPlaces])), (o, .inl (cJ, 1, .inr (.inl (fun _ => 0)))), (sl, .inr (0, [.int 0, .ref ae, .int 0]))]) (va_runV (As := []) (rest := []) ⟨hx, hb, hml, hown, hts⟩ (m_thrown l hfl ae D cI cJ cS cO mo vl sl 1 _) (cwV 0 hts (gV q_1017 q_1014 q_1015 q_1016 q_104) rfl rfl rfl (by decide +kernel) ⟨Nat.le_of_ble_eq_true rfl, Nat.le_of_ble_eq_true rfl⟩) ⟨Pw.blind, va_recv hK hP (ci := 12) (q0 := 3) rfl rfl, Pw.mk_call hP hK hD hS hA hG [3] rfl (by decide)⟩ rfl rfl hl.1 rfl (lv_room (Nat.le_of_ble_eq_true rfl)) dL_law_1223 ⟨Nat.le_of_ble_eq_true rfl, Nat.le_of_ble_eq_true rfl⟩) hP hD hS hA [3] [0, 1, 2, 4] rfl rfl (by decide) (by decide) (fun r_17 u_18 H locs hw hP hD hS => ?_)
  obtain rfl : r_17 = 1 := hw
  have hP : va_P D vwCl [(x, .inr (6, [.ref t, .ref n, .ref sp, .int 0])), (t, .inr (4, [.ref t_kinds, .int 0, .long 0, .long 0, .ref t_codes, .ref t_targets, .ref t_settings, .ref t_sources, .ref t_accessCounts, .int 0, .ref t_acts, .ref t_actVariables, .ref t_actPlaces])), (o, .inl (cJ, 1, .inr (.inl (fun _ => 0)))), (sl, .inr (0, [.int 0, .ref ae, .int 0])), (mo, .inr (12, [.int 1, .ref vl, .ref sl]))] H := hP
  have hD : va_D A [(x, .inr (6, [.ref t, .ref n, .ref sp, .int 0])), (t, .inr (4, [.ref t_kinds, .int 0, .long 0, .long 0, .ref t_codes, .ref t_targets, .ref t_settings, .ref t_sources, .ref t_accessCounts, .int 0, .ref t_acts, .ref t_actVariables, .ref t_actPlaces])), (o, .inl (cJ, 1, .inr (.inl (fun _ => 0)))), (sl, .inr (0, [.int 0, .ref ae, .int 0])), (mo, .inr (12, [.int 1, .ref vl, .ref sl]))] := hD
  refine lv_iload hx hb dL_law_1226 (lv_at hl 1 rfl) ?_
  refine lv_icmp_eq (tgt := 1233) hx hb dL_law_1228 (by decide) (fun c_1228 => ?_) (fun c_1228 => absurd (by decide) c_1228)
  refine lv_iload hx hb dL_law_1233 (lv_at hl 1 rfl) ?_
  refine lv_if_ne (tgt := 1250) hx hb dL_law_1235 (by decide) (fun c_1235 => ?_) (fun c_1235 => absurd c_1235 (by decide))
  refine lv_goto (tgt := 1950) hx hb dL_law_1250 (by decide) ?_
  refine lv_iinc (v := 5) (lv' := [(4, .int 5), (6, .int 0), (5, .int 1), (0, .ref b), (1, .ref x), (2, .ref mo), (3, .ref o)]) hx hb dL_law_1950 hl (k := 6) rfl (by decide) (by decide) rfl (fun ls hl => ?_)
  refine lv_goto (tgt := 23) hx hb dL_law_1953 (by decide) ?_
  refine lv_iload hx hb dL_law_23 (lv_at hl 0 rfl) ?_
  refine lv_aload_n hx hb dL_law_25 rfl (lv_at hl 3 rfl) ?_
  refine va_slen hx hb hX hbl hbA hS dL_law_26 ?_
  refine lv_topi (fun y_19 ey_19 => ?_)
  obtain rfl : y_19 = 5 := ey_19.trans (by decide)
  refine lv_iconst (v := 5) hx hb dL_law_27 (by decide) ?_
  refine lv_isub hx hb dL_law_28 ?_
  refine lv_topi (fun x_20 ex_20 => ?_)
  obtain rfl : x_20 = 0 := ex_20.trans (by decide)
  refine lv_icmp_gt (tgt := 1956) hx hb dL_law_29 (by decide) (fun c_29 => ?_) (fun c_29 => absurd (by decide) c_29)
  refine lv_iconst (v := 1) hx hb dL_law_1956 (by decide) ?_
  refine va_forget (fun q hq => by have h9 := hS.2.2 q hq; rw [← hAe] at h9; exact h9) ?_
  refine W.widen (k := 600002) (n := 7302232) (Nat.le_of_ble_eq_true rfl) (Nat.le_of_ble_eq_true rfl) ?_
  refine W.base ?_
  exact lw_ret (Drawn.sameBut.refl s.drawn lw_cs) hx hb hr hlocks dL_law_1957

set_option maxHeartbeats 4000000 in
set_option maxRecDepth 100000 in
theorem lc_17 {p : Program} {l : Launch} {e : Env} {s : State} {m : MethodId} {below : List Frame} {meth : Method} {c : Code} {b : Nat} {xs : Nat → Int32} (hfl : l.stackTraces = false) {ae : Nat} {D : va_G} {cI cJ cS cO : ClassId} (C0 : lw_At p s m meth c b 5 xs) (hK : va_K D vwCl [(cI, .int), (cJ, .long), (cS, .object "IronwoodModel$State"), (cO, .object "java/lang/Object")] s) (hG : Gl ae (fun q : Nat => s.heap.size ≤ q) s s.heap) (x : Nat) (t : Nat) (n : Nat) (sp : Nat) (t_kinds : Nat) (t_codes : Nat) (t_targets : Nat) (t_settings : Nat) (t_sources : Nat) (t_accessCounts : Nat) (t_acts : Nat) (t_actVariables : Nat) (t_actPlaces : Nat) (mo : Nat) (vl : Nat) (sl : Nat) (o : Nat) (x1 : Int32) (e1 : xs (Int32.toNatClampNeg 1) = x1) (x2 : Int32) (e2 : xs (Int32.toNatClampNeg 2) = x2) (x3 : Int32) (e3 : xs (Int32.toNatClampNeg 3) = x3) (x4 : Int32) (e4 : xs (Int32.toNatClampNeg 4) = x4)  (H : Heap) (locs : List Loc) (hP : va_P D vwCl [(x, .inr (6, [.ref t, .ref n, .ref sp, .int 0])), (t, .inr (4, [.ref t_kinds, .int 0, .long 0, .long 0, .ref t_codes, .ref t_targets, .ref t_settings, .ref t_sources, .ref t_accessCounts, .int 0, .ref t_acts, .ref t_actVariables, .ref t_actPlaces])), (mo, .inr (12, [.int 0, .ref vl, .ref sl])), (sl, .inr (0, [.int 0, .ref ae, .int 0])), (o, .inl (cJ, 1, .inr (.inl (fun _ => 0))))] H) (hD : va_D (fun q : Nat => s.heap.size ≤ q) [(x, .inr (6, [.ref t, .ref n, .ref sp, .int 0])), (t, .inr (4, [.ref t_kinds, .int 0, .long 0, .long 0, .ref t_codes, .ref t_targets, .ref t_settings, .ref t_sources, .ref t_accessCounts, .int 0, .ref t_acts, .ref t_actVariables, .ref t_actPlaces])), (mo, .inr (12, [.int 0, .ref vl, .ref sl])), (sl, .inr (0, [.int 0, .ref ae, .int 0])), (o, .inl (cJ, 1, .inr (.inl (fun _ => 0))))]) (hS : va_S (fun q : Nat => s.heap.size ≤ q) s.heap H locs) (ls : Array Slot) (hl : lv_has ls 9 [(0, .ref b), (1, .ref x), (2, .ref mo), (3, .ref o), (4, .int 0)]) : W p l e room_1 s m #[Value.ref b] below meth c H locs 61 3597 (lw_Z below #[Value.ref b] s) (F0 m 1253 ls []) := by
  obtain ⟨hx, hb, hr, hml, hown, hts0, hX, hbl, hlocks, hgv⟩ := id C0
  have hts := law_hts hts0
  have hA : ∀ q : Nat, s.heap.size ≤ q → (fun q : Nat => s.heap.size ≤ q) q := fun _ h => h
  have hbA : ¬ (fun q : Nat => s.heap.size ≤ q) b := Nat.not_le.mpr hbl
  generalize hAe : (fun q : Nat => s.heap.size ≤ q) = A at hD hG hS hA hbA
  refine lv_aload_n hx hb dL_law_1253 rfl (lv_at hl 1 rfl) ?_
  refine lv_aload_n hx hb dL_law_1254 rfl (lv_at hl 0 rfl) ?_
  refine lv_iload hx hb dL_law_1255 (lv_at hl 4 rfl) ?_
  refine lv_iconst (v := 1) hx hb dL_law_1257 (by decide) ?_
  refine lv_iadd hx hb dL_law_1258 ?_
  refine lv_topi (fun x_1 ex_1 => ?_)
  obtain rfl : x_1 = 1 := ex_1.trans (by decide)
  refine va_sld hx hb hX hbl hbA hS (vp_in_iff.mpr (by decide)) dL_law_1259 ?_
  refine lv_topi (fun y_2 ey_2 => ?_)
  rw [show y_2 = x1 from ey_2.trans e1]
  refine lv_aload_n hx hb dL_law_1260 rfl (lv_at hl 0 rfl) ?_
  refine lv_iload hx hb dL_law_1261 (lv_at hl 4 rfl) ?_
  refine lv_iconst (v := 2) hx hb dL_law_1263 (by decide) ?_
  refine lv_iadd hx hb dL_law_1264 ?_
  refine lv_topi (fun x_3 ex_3 => ?_)
  obtain rfl : x_3 = 2 := ex_3.trans (by decide)
  refine va_sld hx hb hX hbl hbA hS (vp_in_iff.mpr (by decide)) dL_law_1265 ?_
  refine lv_topi (fun y_4 ey_4 => ?_)
  rw [show y_4 = x2 from ey_4.trans e2]
  refine lv_aload_n hx hb dL_law_1266 rfl (lv_at hl 3 rfl) ?_
  refine kc_i (wr := [(mo, .inr (12, [.int 0, .ref vl, .ref sl])), (sl, .inr (0, [.int 0, .ref ae, .int 0]))]) (vx_runSW (As := [.ref x, .int x1, .int x2, .ref o]) (rest := []) ⟨hx, hb, hml, hown, hts⟩ (w_holds_x l hfl ae D cI cJ cS cO x t n sp 0 t_kinds 0 0 0 t_codes t_targets t_settings t_sources t_accessCounts t_acts t_actVariables t_actPlaces x1 x2 o (fun _ => 0) _) (vx_cwSW 4 hts (gT q_900 q_898 q_899 q_97) rfl rfl rfl (by decide +kernel) ⟨Nat.le_of_ble_eq_true rfl, Nat.le_of_ble_eq_true rfl⟩) ⟨Pw.blind, Pw.mk_call hP hK hD hS hA hG [0, 1, 4] rfl (by decide)⟩ rfl rfl hl.1 rfl (lv_room (Nat.le_of_ble_eq_true rfl)) dL_law_1267 ⟨Nat.le_of_ble_eq_true rfl, Nat.le_of_ble_eq_true rfl⟩) hP hD hS hA [0, 1, 4] [2, 3] rfl rfl (by decide) (by decide) (fun r_5 u_6 H locs hw hP hD hS => ?_)
  obtain rfl : r_5 = 1 := hw
  have hP : va_P D vwCl [(mo, .inr (12, [.int 0, .ref vl, .ref sl])), (sl, .inr (0, [.int 0, .ref ae, .int 0])), (x, .inr (6, [.ref t, .ref n, .ref sp, .int 0])), (t, .inr (4, [.ref t_kinds, .int 0, .long 0, .long 0, .ref t_codes, .ref t_targets, .ref t_settings, .ref t_sources, .ref t_accessCounts, .int 0, .ref t_acts, .ref t_actVariables, .ref t_actPlaces])), (o, .inl (cJ, 1, .inr (.inl (fun _ => 0))))] H := hP
  have hD : va_D A [(mo, .inr (12, [.int 0, .ref vl, .ref sl])), (sl, .inr (0, [.int 0, .ref ae, .int 0])), (x, .inr (6, [.ref t, .ref n, .ref sp, .int 0])), (t, .inr (4, [.ref t_kinds, .int 0, .long 0, .long 0, .ref t_codes, .ref t_targets, .ref t_settings, .ref t_sources, .ref t_accessCounts, .int 0, .ref t_acts, .ref t_actVariables, .ref t_actPlaces])), (o, .inl (cJ, 1, .inr (.inl (fun _ => 0))))] := hD
  refine lv_istore (lv' := [(5, .int 1), (0, .ref b), (1, .ref x), (2, .ref mo), (3, .ref o), (4, .int 0)]) hx hb dL_law_1270 hl (by decide) rfl (fun ls hl => ?_)
  refine lv_aload_n hx hb dL_law_1272 rfl (lv_at hl 3 rfl) ?_
  refine lv_aload_n hx hb dL_law_1273 rfl (lv_at hl 1 rfl) ?_
  refine lv_iload hx hb dL_law_1274 (lv_at hl 5 rfl) ?_
  refine lv_iconst (v := 1) hx hb dL_law_1276 (by decide) ?_
  refine lv_iadd hx hb dL_law_1277 ?_
  refine lv_topi (fun x_7 ex_7 => ?_)
  obtain rfl : x_7 = 1 := ex_7.trans (by decide)
  refine va_sld hx hb hX hbl hbA hS (vp_in_iff.mpr (by decide)) dL_law_1278 ?_
  refine lv_topi (fun y_8 ey_8 => ?_)
  rw [show y_8 = x1 from ey_8.trans e1]
  refine lv_aload_n hx hb dL_law_1279 rfl (lv_at hl 1 rfl) ?_
  refine lv_iload hx hb dL_law_1280 (lv_at hl 5 rfl) ?_
  refine lv_iconst (v := 2) hx hb dL_law_1282 (by decide) ?_
  refine lv_iadd hx hb dL_law_1283 ?_
  refine lv_topi (fun x_9 ex_9 => ?_)
  obtain rfl : x_9 = 2 := ex_9.trans (by decide)
  refine va_sld hx hb hX hbl hbA hS (vp_in_iff.mpr (by decide)) dL_law_1284 ?_
  refine lv_topi (fun y_10 ey_10 => ?_)
  rw [show y_10 = x2 from ey_10.trans e2]
  refine kc_i (wr := [(x, .inr (6, [.ref t, .ref n, .ref sp, .int 0])), (t, .inr (4, [.ref t_kinds, .int 0, .long 0, .long 0, .ref t_codes, .ref t_targets, .ref t_settings, .ref t_sources, .ref t_accessCounts, .int 0, .ref t_acts, .ref t_actVariables, .ref t_actPlaces])), (o, .inl (cJ, 1, .inr (.inl (fun _ => 0))))]) (va_runV (As := [.int x1, .int x2]) (rest := []) ⟨hx, hb, hml, hown, hts⟩ (m_holds_x l hfl ae D cI cJ cS cO mo vl sl x1 x2 _) (cwV 2 hts (gV q_1509 q_1506 q_1507 q_1508 q_104) rfl rfl rfl (by decide +kernel) ⟨Nat.le_of_ble_eq_true rfl, Nat.le_of_ble_eq_true rfl⟩) ⟨Pw.blind, va_recv hK hP (ci := 12) (q0 := 0) rfl rfl, Pw.mk_call hP hK hD hS hA hG [0, 1] rfl (by decide)⟩ rfl rfl hl.1 rfl (lv_room (Nat.le_of_ble_eq_true rfl)) dL_law_1285 ⟨Nat.le_of_ble_eq_true rfl, Nat.le_of_ble_eq_true rfl⟩) hP hD hS hA [0, 1] [2, 3, 4] rfl rfl (by decide) (by decide) (fun r_11 u_12 H locs hw hP hD hS => ?_)
  obtain rfl : r_11 = 0 := hw
  have hP : va_P D vwCl [(x, .inr (6, [.ref t, .ref n, .ref sp, .int 0])), (t, .inr (4, [.ref t_kinds, .int 0, .long 0, .long 0, .ref t_codes, .ref t_targets, .ref t_settings, .ref t_sources, .ref t_accessCounts, .int 0, .ref t_acts, .ref t_actVariables, .ref t_actPlaces])), (o, .inl (cJ, 1, .inr (.inl (fun _ => 0)))), (mo, .inr (12, [.int 1, .ref vl, .ref sl])), (sl, .inr (0, [.int 0, .ref ae, .int 0]))] H := hP
  have hD : va_D A [(x, .inr (6, [.ref t, .ref n, .ref sp, .int 0])), (t, .inr (4, [.ref t_kinds, .int 0, .long 0, .long 0, .ref t_codes, .ref t_targets, .ref t_settings, .ref t_sources, .ref t_accessCounts, .int 0, .ref t_acts, .ref t_actVariables, .ref t_actPlaces])), (o, .inl (cJ, 1, .inr (.inl (fun _ => 0)))), (mo, .inr (12, [.int 1, .ref vl, .ref sl])), (sl, .inr (0, [.int 0, .ref ae, .int 0]))] := hD
  refine lv_istore (lv' := [(6, .int 0), (5, .int 1), (0, .ref b), (1, .ref x), (2, .ref mo), (3, .ref o), (4, .int 0)]) hx hb dL_law_1288 hl (by decide) rfl (fun ls hl => ?_)
  refine lv_aload_n hx hb dL_law_1290 rfl (lv_at hl 4 rfl) ?_
  refine kc_i (wr := [(x, .inr (6, [.ref t, .ref n, .ref sp, .int 0])), (t, .inr (4, [.ref t_kinds, .int 0, .long 0, .long 0, .ref t_codes, .ref t_targets, .ref t_settings, .ref t_sources, .ref t_accessCounts, .int 0, .ref t_acts, .ref t_actVariables, .ref t_actPlaces])), (o, .inl (cJ, 1, .inr (.inl (fun _ => 0)))), (sl, .inr (0, [.int 0, .ref ae, .int 0]))]) (va_runV (As := []) (rest := []) ⟨hx, hb, hml, hown, hts⟩ (m_thrown l hfl ae D cI cJ cS cO mo vl sl 1 _) (cwV 0 hts (gV q_1017 q_1014 q_1015 q_1016 q_104) rfl rfl rfl (by decide +kernel) ⟨Nat.le_of_ble_eq_true rfl, Nat.le_of_ble_eq_true rfl⟩) ⟨Pw.blind, va_recv hK hP (ci := 12) (q0 := 3) rfl rfl, Pw.mk_call hP hK hD hS hA hG [3] rfl (by decide)⟩ rfl rfl hl.1 rfl (lv_room (Nat.le_of_ble_eq_true rfl)) dL_law_1291 ⟨Nat.le_of_ble_eq_true rfl, Nat.le_of_ble_eq_true rfl⟩) hP hD hS hA [3] [0, 1, 2, 4] rfl rfl (by decide) (by decide) (fun r_13 u_14 H locs hw hP hD hS => ?_)
  obtain rfl : r_13 = 1 := hw
  have hP : va_P D vwCl [(x, .inr (6, [.ref t, .ref n, .ref sp, .int 0])), (t, .inr (4, [.ref t_kinds, .int 0, .long 0, .long 0, .ref t_codes, .ref t_targets, .ref t_settings, .ref t_sources, .ref t_accessCounts, .int 0, .ref t_acts, .ref t_actVariables, .ref t_actPlaces])), (o, .inl (cJ, 1, .inr (.inl (fun _ => 0)))), (sl, .inr (0, [.int 0, .ref ae, .int 0])), (mo, .inr (12, [.int 1, .ref vl, .ref sl]))] H := hP
  have hD : va_D A [(x, .inr (6, [.ref t, .ref n, .ref sp, .int 0])), (t, .inr (4, [.ref t_kinds, .int 0, .long 0, .long 0, .ref t_codes, .ref t_targets, .ref t_settings, .ref t_sources, .ref t_accessCounts, .int 0, .ref t_acts, .ref t_actVariables, .ref t_actPlaces])), (o, .inl (cJ, 1, .inr (.inl (fun _ => 0)))), (sl, .inr (0, [.int 0, .ref ae, .int 0])), (mo, .inr (12, [.int 1, .ref vl, .ref sl]))] := hD
  refine lv_iload hx hb dL_law_1294 (lv_at hl 1 rfl) ?_
  refine lv_icmp_eq (tgt := 1301) hx hb dL_law_1296 (by decide) (fun c_1296 => ?_) (fun c_1296 => absurd (by decide) c_1296)
  refine lv_iload hx hb dL_law_1301 (lv_at hl 1 rfl) ?_
  refine lv_if_ne (tgt := 1318) hx hb dL_law_1303 (by decide) (fun c_1303 => ?_) (fun c_1303 => absurd c_1303 (by decide))
  refine lv_goto (tgt := 1950) hx hb dL_law_1318 (by decide) ?_
  refine lv_iinc (v := 5) (lv' := [(4, .int 5), (6, .int 0), (5, .int 1), (0, .ref b), (1, .ref x), (2, .ref mo), (3, .ref o)]) hx hb dL_law_1950 hl (k := 6) rfl (by decide) (by decide) rfl (fun ls hl => ?_)
  refine lv_goto (tgt := 23) hx hb dL_law_1953 (by decide) ?_
  refine lv_iload hx hb dL_law_23 (lv_at hl 0 rfl) ?_
  refine lv_aload_n hx hb dL_law_25 rfl (lv_at hl 3 rfl) ?_
  refine va_slen hx hb hX hbl hbA hS dL_law_26 ?_
  refine lv_topi (fun y_15 ey_15 => ?_)
  obtain rfl : y_15 = 5 := ey_15.trans (by decide)
  refine lv_iconst (v := 5) hx hb dL_law_27 (by decide) ?_
  refine lv_isub hx hb dL_law_28 ?_
  refine lv_topi (fun x_16 ex_16 => ?_)
  obtain rfl : x_16 = 0 := ex_16.trans (by decide)
  refine lv_icmp_gt (tgt := 1956) hx hb dL_law_29 (by decide) (fun c_29 => ?_) (fun c_29 => absurd (by decide) c_29)
  refine lv_iconst (v := 1) hx hb dL_law_1956 (by decide) ?_
  refine va_forget (fun q hq => by have h9 := hS.2.2 q hq; rw [← hAe] at h9; exact h9) ?_
  refine W.widen (k := 600002) (n := 7302232) (Nat.le_of_ble_eq_true rfl) (Nat.le_of_ble_eq_true rfl) ?_
  refine W.base ?_
  exact lw_ret (Drawn.sameBut.refl s.drawn lw_cs) hx hb hr hlocks dL_law_1957

set_option maxHeartbeats 4000000 in
set_option maxRecDepth 100000 in
theorem lc_18 {p : Program} {l : Launch} {e : Env} {s : State} {m : MethodId} {below : List Frame} {meth : Method} {c : Code} {b : Nat} {xs : Nat → Int32} (hfl : l.stackTraces = false) {ae : Nat} {D : va_G} {cI cJ cS cO : ClassId} (C0 : lw_At p s m meth c b 5 xs) (hK : va_K D vwCl [(cI, .int), (cJ, .long), (cS, .object "IronwoodModel$State"), (cO, .object "java/lang/Object")] s) (hG : Gl ae (fun q : Nat => s.heap.size ≤ q) s s.heap) (x : Nat) (t : Nat) (n : Nat) (sp : Nat) (t_kinds : Nat) (t_codes : Nat) (t_targets : Nat) (t_settings : Nat) (t_sources : Nat) (t_accessCounts : Nat) (t_acts : Nat) (t_actVariables : Nat) (t_actPlaces : Nat) (mo : Nat) (vl : Nat) (sl : Nat) (o : Nat) (x1 : Int32) (e1 : xs (Int32.toNatClampNeg 1) = x1) (x2 : Int32) (e2 : xs (Int32.toNatClampNeg 2) = x2) (x3 : Int32) (e3 : xs (Int32.toNatClampNeg 3) = x3) (x4 : Int32) (e4 : xs (Int32.toNatClampNeg 4) = x4)  (H : Heap) (locs : List Loc) (hP : va_P D vwCl [(x, .inr (6, [.ref t, .ref n, .ref sp, .int 0])), (t, .inr (4, [.ref t_kinds, .int 0, .long 0, .long 0, .ref t_codes, .ref t_targets, .ref t_settings, .ref t_sources, .ref t_accessCounts, .int 0, .ref t_acts, .ref t_actVariables, .ref t_actPlaces])), (mo, .inr (12, [.int 0, .ref vl, .ref sl])), (sl, .inr (0, [.int 0, .ref ae, .int 0])), (o, .inl (cJ, 1, .inr (.inl (fun _ => 0))))] H) (hD : va_D (fun q : Nat => s.heap.size ≤ q) [(x, .inr (6, [.ref t, .ref n, .ref sp, .int 0])), (t, .inr (4, [.ref t_kinds, .int 0, .long 0, .long 0, .ref t_codes, .ref t_targets, .ref t_settings, .ref t_sources, .ref t_accessCounts, .int 0, .ref t_acts, .ref t_actVariables, .ref t_actPlaces])), (mo, .inr (12, [.int 0, .ref vl, .ref sl])), (sl, .inr (0, [.int 0, .ref ae, .int 0])), (o, .inl (cJ, 1, .inr (.inl (fun _ => 0))))]) (hS : va_S (fun q : Nat => s.heap.size ≤ q) s.heap H locs) (ls : Array Slot) (hl : lv_has ls 9 [(0, .ref b), (1, .ref x), (2, .ref mo), (3, .ref o), (4, .int 0)]) : W p l e room_1 s m #[Value.ref b] below meth c H locs 61 3597 (lw_Z below #[Value.ref b] s) (F0 m 1321 ls []) := by
  obtain ⟨hx, hb, hr, hml, hown, hts0, hX, hbl, hlocks, hgv⟩ := id C0
  have hts := law_hts hts0
  have hA : ∀ q : Nat, s.heap.size ≤ q → (fun q : Nat => s.heap.size ≤ q) q := fun _ h => h
  have hbA : ¬ (fun q : Nat => s.heap.size ≤ q) b := Nat.not_le.mpr hbl
  generalize hAe : (fun q : Nat => s.heap.size ≤ q) = A at hD hG hS hA hbA
  refine lv_aload_n hx hb dL_law_1321 rfl (lv_at hl 1 rfl) ?_
  refine lv_aload_n hx hb dL_law_1322 rfl (lv_at hl 0 rfl) ?_
  refine lv_iload hx hb dL_law_1323 (lv_at hl 4 rfl) ?_
  refine lv_iconst (v := 1) hx hb dL_law_1325 (by decide) ?_
  refine lv_iadd hx hb dL_law_1326 ?_
  refine lv_topi (fun x_1 ex_1 => ?_)
  obtain rfl : x_1 = 1 := ex_1.trans (by decide)
  refine va_sld hx hb hX hbl hbA hS (vp_in_iff.mpr (by decide)) dL_law_1327 ?_
  refine lv_topi (fun y_2 ey_2 => ?_)
  rw [show y_2 = x1 from ey_2.trans e1]
  refine lv_aload_n hx hb dL_law_1328 rfl (lv_at hl 0 rfl) ?_
  refine lv_iload hx hb dL_law_1329 (lv_at hl 4 rfl) ?_
  refine lv_iconst (v := 2) hx hb dL_law_1331 (by decide) ?_
  refine lv_iadd hx hb dL_law_1332 ?_
  refine lv_topi (fun x_3 ex_3 => ?_)
  obtain rfl : x_3 = 2 := ex_3.trans (by decide)
  refine va_sld hx hb hX hbl hbA hS (vp_in_iff.mpr (by decide)) dL_law_1333 ?_
  refine lv_topi (fun y_4 ey_4 => ?_)
  rw [show y_4 = x2 from ey_4.trans e2]
  refine lv_aload_n hx hb dL_law_1334 rfl (lv_at hl 0 rfl) ?_
  refine lv_iload hx hb dL_law_1335 (lv_at hl 4 rfl) ?_
  refine lv_iconst (v := 3) hx hb dL_law_1337 (by decide) ?_
  refine lv_iadd hx hb dL_law_1338 ?_
  refine lv_topi (fun x_5 ex_5 => ?_)
  obtain rfl : x_5 = 3 := ex_5.trans (by decide)
  refine va_sld hx hb hX hbl hbA hS (vp_in_iff.mpr (by decide)) dL_law_1339 ?_
  refine lv_topi (fun y_6 ey_6 => ?_)
  rw [show y_6 = x3 from ey_6.trans e3]
  refine lv_aload_n hx hb dL_law_1340 rfl (lv_at hl 3 rfl) ?_
  refine kc_i (wr := [(mo, .inr (12, [.int 0, .ref vl, .ref sl])), (sl, .inr (0, [.int 0, .ref ae, .int 0]))]) (vx_runSW (As := [.ref x, .int x1, .int x2, .int x3, .ref o]) (rest := []) ⟨hx, hb, hml, hown, hts⟩ (w_canHold_x l hfl ae D cI cJ cS cO x t n sp 0 t_kinds 0 0 0 t_codes t_targets t_settings t_sources t_accessCounts t_acts t_actVariables t_actPlaces x1 x2 x3 o (fun _ => 0) _) (vx_cwSW 5 hts (gT q_907 q_905 q_906 q_97) rfl rfl rfl (by decide +kernel) ⟨Nat.le_of_ble_eq_true rfl, Nat.le_of_ble_eq_true rfl⟩) ⟨Pw.blind, Pw.mk_call hP hK hD hS hA hG [0, 1, 4] rfl (by decide)⟩ rfl rfl hl.1 rfl (lv_room (Nat.le_of_ble_eq_true rfl)) dL_law_1341 ⟨Nat.le_of_ble_eq_true rfl, Nat.le_of_ble_eq_true rfl⟩) hP hD hS hA [0, 1, 4] [2, 3] rfl rfl (by decide) (by decide) (fun r_7 u_8 H locs hw hP hD hS => ?_)
  obtain rfl : r_7 = 1 := hw
  have hP : va_P D vwCl [(mo, .inr (12, [.int 0, .ref vl, .ref sl])), (sl, .inr (0, [.int 0, .ref ae, .int 0])), (x, .inr (6, [.ref t, .ref n, .ref sp, .int 0])), (t, .inr (4, [.ref t_kinds, .int 0, .long 0, .long 0, .ref t_codes, .ref t_targets, .ref t_settings, .ref t_sources, .ref t_accessCounts, .int 0, .ref t_acts, .ref t_actVariables, .ref t_actPlaces])), (o, .inl (cJ, 1, .inr (.inl (fun _ => 0))))] H := hP
  have hD : va_D A [(mo, .inr (12, [.int 0, .ref vl, .ref sl])), (sl, .inr (0, [.int 0, .ref ae, .int 0])), (x, .inr (6, [.ref t, .ref n, .ref sp, .int 0])), (t, .inr (4, [.ref t_kinds, .int 0, .long 0, .long 0, .ref t_codes, .ref t_targets, .ref t_settings, .ref t_sources, .ref t_accessCounts, .int 0, .ref t_acts, .ref t_actVariables, .ref t_actPlaces])), (o, .inl (cJ, 1, .inr (.inl (fun _ => 0))))] := hD
  refine lv_istore (lv' := [(5, .int 1), (0, .ref b), (1, .ref x), (2, .ref mo), (3, .ref o), (4, .int 0)]) hx hb dL_law_1344 hl (by decide) rfl (fun ls hl => ?_)
  refine lv_aload_n hx hb dL_law_1346 rfl (lv_at hl 3 rfl) ?_
  refine lv_aload_n hx hb dL_law_1347 rfl (lv_at hl 1 rfl) ?_
  refine lv_iload hx hb dL_law_1348 (lv_at hl 5 rfl) ?_
  refine lv_iconst (v := 1) hx hb dL_law_1350 (by decide) ?_
  refine lv_iadd hx hb dL_law_1351 ?_
  refine lv_topi (fun x_9 ex_9 => ?_)
  obtain rfl : x_9 = 1 := ex_9.trans (by decide)
  refine va_sld hx hb hX hbl hbA hS (vp_in_iff.mpr (by decide)) dL_law_1352 ?_
  refine lv_topi (fun y_10 ey_10 => ?_)
  rw [show y_10 = x1 from ey_10.trans e1]
  refine lv_aload_n hx hb dL_law_1353 rfl (lv_at hl 1 rfl) ?_
  refine lv_iload hx hb dL_law_1354 (lv_at hl 5 rfl) ?_
  refine lv_iconst (v := 2) hx hb dL_law_1356 (by decide) ?_
  refine lv_iadd hx hb dL_law_1357 ?_
  refine lv_topi (fun x_11 ex_11 => ?_)
  obtain rfl : x_11 = 2 := ex_11.trans (by decide)
  refine va_sld hx hb hX hbl hbA hS (vp_in_iff.mpr (by decide)) dL_law_1358 ?_
  refine lv_topi (fun y_12 ey_12 => ?_)
  rw [show y_12 = x2 from ey_12.trans e2]
  refine lv_aload_n hx hb dL_law_1359 rfl (lv_at hl 1 rfl) ?_
  refine lv_iload hx hb dL_law_1360 (lv_at hl 5 rfl) ?_
  refine lv_iconst (v := 3) hx hb dL_law_1362 (by decide) ?_
  refine lv_iadd hx hb dL_law_1363 ?_
  refine lv_topi (fun x_13 ex_13 => ?_)
  obtain rfl : x_13 = 3 := ex_13.trans (by decide)
  refine va_sld hx hb hX hbl hbA hS (vp_in_iff.mpr (by decide)) dL_law_1364 ?_
  refine lv_topi (fun y_14 ey_14 => ?_)
  rw [show y_14 = x3 from ey_14.trans e3]
  refine kc_i (wr := [(x, .inr (6, [.ref t, .ref n, .ref sp, .int 0])), (t, .inr (4, [.ref t_kinds, .int 0, .long 0, .long 0, .ref t_codes, .ref t_targets, .ref t_settings, .ref t_sources, .ref t_accessCounts, .int 0, .ref t_acts, .ref t_actVariables, .ref t_actPlaces])), (o, .inl (cJ, 1, .inr (.inl (fun _ => 0))))]) (va_runV (As := [.int x1, .int x2, .int x3]) (rest := []) ⟨hx, hb, hml, hown, hts⟩ (m_canHold_x l hfl ae D cI cJ cS cO mo vl sl x1 x2 x3 _) (cwV 3 hts (gV q_1518 q_1515 q_1516 q_1517 q_104) rfl rfl rfl (by decide +kernel) ⟨Nat.le_of_ble_eq_true rfl, Nat.le_of_ble_eq_true rfl⟩) ⟨Pw.blind, va_recv hK hP (ci := 12) (q0 := 0) rfl rfl, Pw.mk_call hP hK hD hS hA hG [0, 1] rfl (by decide)⟩ rfl rfl hl.1 rfl (lv_room (Nat.le_of_ble_eq_true rfl)) dL_law_1365 ⟨Nat.le_of_ble_eq_true rfl, Nat.le_of_ble_eq_true rfl⟩) hP hD hS hA [0, 1] [2, 3, 4] rfl rfl (by decide) (by decide) (fun r_15 u_16 H locs hw hP hD hS => ?_)
  obtain rfl : r_15 = 0 := hw
  have hP : va_P D vwCl [(x, .inr (6, [.ref t, .ref n, .ref sp, .int 0])), (t, .inr (4, [.ref t_kinds, .int 0, .long 0, .long 0, .ref t_codes, .ref t_targets, .ref t_settings, .ref t_sources, .ref t_accessCounts, .int 0, .ref t_acts, .ref t_actVariables, .ref t_actPlaces])), (o, .inl (cJ, 1, .inr (.inl (fun _ => 0)))), (mo, .inr (12, [.int 1, .ref vl, .ref sl])), (sl, .inr (0, [.int 0, .ref ae, .int 0]))] H := hP
  have hD : va_D A [(x, .inr (6, [.ref t, .ref n, .ref sp, .int 0])), (t, .inr (4, [.ref t_kinds, .int 0, .long 0, .long 0, .ref t_codes, .ref t_targets, .ref t_settings, .ref t_sources, .ref t_accessCounts, .int 0, .ref t_acts, .ref t_actVariables, .ref t_actPlaces])), (o, .inl (cJ, 1, .inr (.inl (fun _ => 0)))), (mo, .inr (12, [.int 1, .ref vl, .ref sl])), (sl, .inr (0, [.int 0, .ref ae, .int 0]))] := hD
  refine lv_istore (lv' := [(6, .int 0), (5, .int 1), (0, .ref b), (1, .ref x), (2, .ref mo), (3, .ref o), (4, .int 0)]) hx hb dL_law_1368 hl (by decide) rfl (fun ls hl => ?_)
  refine lv_aload_n hx hb dL_law_1370 rfl (lv_at hl 4 rfl) ?_
  refine kc_i (wr := [(x, .inr (6, [.ref t, .ref n, .ref sp, .int 0])), (t, .inr (4, [.ref t_kinds, .int 0, .long 0, .long 0, .ref t_codes, .ref t_targets, .ref t_settings, .ref t_sources, .ref t_accessCounts, .int 0, .ref t_acts, .ref t_actVariables, .ref t_actPlaces])), (o, .inl (cJ, 1, .inr (.inl (fun _ => 0)))), (sl, .inr (0, [.int 0, .ref ae, .int 0]))]) (va_runV (As := []) (rest := []) ⟨hx, hb, hml, hown, hts⟩ (m_thrown l hfl ae D cI cJ cS cO mo vl sl 1 _) (cwV 0 hts (gV q_1017 q_1014 q_1015 q_1016 q_104) rfl rfl rfl (by decide +kernel) ⟨Nat.le_of_ble_eq_true rfl, Nat.le_of_ble_eq_true rfl⟩) ⟨Pw.blind, va_recv hK hP (ci := 12) (q0 := 3) rfl rfl, Pw.mk_call hP hK hD hS hA hG [3] rfl (by decide)⟩ rfl rfl hl.1 rfl (lv_room (Nat.le_of_ble_eq_true rfl)) dL_law_1371 ⟨Nat.le_of_ble_eq_true rfl, Nat.le_of_ble_eq_true rfl⟩) hP hD hS hA [3] [0, 1, 2, 4] rfl rfl (by decide) (by decide) (fun r_17 u_18 H locs hw hP hD hS => ?_)
  obtain rfl : r_17 = 1 := hw
  have hP : va_P D vwCl [(x, .inr (6, [.ref t, .ref n, .ref sp, .int 0])), (t, .inr (4, [.ref t_kinds, .int 0, .long 0, .long 0, .ref t_codes, .ref t_targets, .ref t_settings, .ref t_sources, .ref t_accessCounts, .int 0, .ref t_acts, .ref t_actVariables, .ref t_actPlaces])), (o, .inl (cJ, 1, .inr (.inl (fun _ => 0)))), (sl, .inr (0, [.int 0, .ref ae, .int 0])), (mo, .inr (12, [.int 1, .ref vl, .ref sl]))] H := hP
  have hD : va_D A [(x, .inr (6, [.ref t, .ref n, .ref sp, .int 0])), (t, .inr (4, [.ref t_kinds, .int 0, .long 0, .long 0, .ref t_codes, .ref t_targets, .ref t_settings, .ref t_sources, .ref t_accessCounts, .int 0, .ref t_acts, .ref t_actVariables, .ref t_actPlaces])), (o, .inl (cJ, 1, .inr (.inl (fun _ => 0)))), (sl, .inr (0, [.int 0, .ref ae, .int 0])), (mo, .inr (12, [.int 1, .ref vl, .ref sl]))] := hD
  refine lv_iload hx hb dL_law_1374 (lv_at hl 1 rfl) ?_
  refine lv_icmp_eq (tgt := 1381) hx hb dL_law_1376 (by decide) (fun c_1376 => ?_) (fun c_1376 => absurd (by decide) c_1376)
  refine lv_iload hx hb dL_law_1381 (lv_at hl 1 rfl) ?_
  refine lv_if_ne (tgt := 1405) hx hb dL_law_1383 (by decide) (fun c_1383 => ?_) (fun c_1383 => absurd c_1383 (by decide))
  refine lv_goto (tgt := 1950) hx hb dL_law_1405 (by decide) ?_
  refine lv_iinc (v := 5) (lv' := [(4, .int 5), (6, .int 0), (5, .int 1), (0, .ref b), (1, .ref x), (2, .ref mo), (3, .ref o)]) hx hb dL_law_1950 hl (k := 6) rfl (by decide) (by decide) rfl (fun ls hl => ?_)
  refine lv_goto (tgt := 23) hx hb dL_law_1953 (by decide) ?_
  refine lv_iload hx hb dL_law_23 (lv_at hl 0 rfl) ?_
  refine lv_aload_n hx hb dL_law_25 rfl (lv_at hl 3 rfl) ?_
  refine va_slen hx hb hX hbl hbA hS dL_law_26 ?_
  refine lv_topi (fun y_19 ey_19 => ?_)
  obtain rfl : y_19 = 5 := ey_19.trans (by decide)
  refine lv_iconst (v := 5) hx hb dL_law_27 (by decide) ?_
  refine lv_isub hx hb dL_law_28 ?_
  refine lv_topi (fun x_20 ex_20 => ?_)
  obtain rfl : x_20 = 0 := ex_20.trans (by decide)
  refine lv_icmp_gt (tgt := 1956) hx hb dL_law_29 (by decide) (fun c_29 => ?_) (fun c_29 => absurd (by decide) c_29)
  refine lv_iconst (v := 1) hx hb dL_law_1956 (by decide) ?_
  refine va_forget (fun q hq => by have h9 := hS.2.2 q hq; rw [← hAe] at h9; exact h9) ?_
  refine W.widen (k := 600002) (n := 7302232) (Nat.le_of_ble_eq_true rfl) (Nat.le_of_ble_eq_true rfl) ?_
  refine W.base ?_
  exact lw_ret (Drawn.sameBut.refl s.drawn lw_cs) hx hb hr hlocks dL_law_1957

set_option maxHeartbeats 4000000 in
set_option maxRecDepth 100000 in
theorem lc_19 {p : Program} {l : Launch} {e : Env} {s : State} {m : MethodId} {below : List Frame} {meth : Method} {c : Code} {b : Nat} {xs : Nat → Int32} (hfl : l.stackTraces = false) {ae : Nat} {D : va_G} {cI cJ cS cO : ClassId} (C0 : lw_At p s m meth c b 5 xs) (hK : va_K D vwCl [(cI, .int), (cJ, .long), (cS, .object "IronwoodModel$State"), (cO, .object "java/lang/Object")] s) (hG : Gl ae (fun q : Nat => s.heap.size ≤ q) s s.heap) (x : Nat) (t : Nat) (n : Nat) (sp : Nat) (t_kinds : Nat) (t_codes : Nat) (t_targets : Nat) (t_settings : Nat) (t_sources : Nat) (t_accessCounts : Nat) (t_acts : Nat) (t_actVariables : Nat) (t_actPlaces : Nat) (mo : Nat) (vl : Nat) (sl : Nat) (o : Nat) (x1 : Int32) (e1 : xs (Int32.toNatClampNeg 1) = x1) (x2 : Int32) (e2 : xs (Int32.toNatClampNeg 2) = x2) (x3 : Int32) (e3 : xs (Int32.toNatClampNeg 3) = x3) (x4 : Int32) (e4 : xs (Int32.toNatClampNeg 4) = x4)  (H : Heap) (locs : List Loc) (hP : va_P D vwCl [(x, .inr (6, [.ref t, .ref n, .ref sp, .int 0])), (t, .inr (4, [.ref t_kinds, .int 0, .long 0, .long 0, .ref t_codes, .ref t_targets, .ref t_settings, .ref t_sources, .ref t_accessCounts, .int 0, .ref t_acts, .ref t_actVariables, .ref t_actPlaces])), (mo, .inr (12, [.int 0, .ref vl, .ref sl])), (sl, .inr (0, [.int 0, .ref ae, .int 0])), (o, .inl (cJ, 1, .inr (.inl (fun _ => 0))))] H) (hD : va_D (fun q : Nat => s.heap.size ≤ q) [(x, .inr (6, [.ref t, .ref n, .ref sp, .int 0])), (t, .inr (4, [.ref t_kinds, .int 0, .long 0, .long 0, .ref t_codes, .ref t_targets, .ref t_settings, .ref t_sources, .ref t_accessCounts, .int 0, .ref t_acts, .ref t_actVariables, .ref t_actPlaces])), (mo, .inr (12, [.int 0, .ref vl, .ref sl])), (sl, .inr (0, [.int 0, .ref ae, .int 0])), (o, .inl (cJ, 1, .inr (.inl (fun _ => 0))))]) (hS : va_S (fun q : Nat => s.heap.size ≤ q) s.heap H locs) (ls : Array Slot) (hl : lv_has ls 9 [(0, .ref b), (1, .ref x), (2, .ref mo), (3, .ref o), (4, .int 0)]) : W p l e room_1 s m #[Value.ref b] below meth c H locs 61 3597 (lw_Z below #[Value.ref b] s) (F0 m 1408 ls []) := by
  obtain ⟨hx, hb, hr, hml, hown, hts0, hX, hbl, hlocks, hgv⟩ := id C0
  have hts := law_hts hts0
  have hA : ∀ q : Nat, s.heap.size ≤ q → (fun q : Nat => s.heap.size ≤ q) q := fun _ h => h
  have hbA : ¬ (fun q : Nat => s.heap.size ≤ q) b := Nat.not_le.mpr hbl
  generalize hAe : (fun q : Nat => s.heap.size ≤ q) = A at hD hG hS hA hbA
  refine lv_aload_n hx hb dL_law_1408 rfl (lv_at hl 1 rfl) ?_
  refine lv_aload_n hx hb dL_law_1409 rfl (lv_at hl 0 rfl) ?_
  refine lv_iload hx hb dL_law_1410 (lv_at hl 4 rfl) ?_
  refine lv_iconst (v := 1) hx hb dL_law_1412 (by decide) ?_
  refine lv_iadd hx hb dL_law_1413 ?_
  refine lv_topi (fun x_1 ex_1 => ?_)
  obtain rfl : x_1 = 1 := ex_1.trans (by decide)
  refine va_sld hx hb hX hbl hbA hS (vp_in_iff.mpr (by decide)) dL_law_1414 ?_
  refine lv_topi (fun y_2 ey_2 => ?_)
  rw [show y_2 = x1 from ey_2.trans e1]
  refine lv_aload_n hx hb dL_law_1415 rfl (lv_at hl 3 rfl) ?_
  refine kc_i (wr := [(mo, .inr (12, [.int 0, .ref vl, .ref sl])), (sl, .inr (0, [.int 0, .ref ae, .int 0]))]) (vx_runSW (As := [.ref x, .int x1, .ref o]) (rest := []) ⟨hx, hb, hml, hown, hts⟩ (w_awaited_x l hfl ae D cI cJ cS cO x t n sp 0 t_kinds 0 0 0 t_codes t_targets t_settings t_sources t_accessCounts t_acts t_actVariables t_actPlaces x1 o (fun _ => 0) _) (vx_cwSW 3 hts (gT q_916 q_914 q_915 q_97) rfl rfl rfl (by decide +kernel) ⟨Nat.le_of_ble_eq_true rfl, Nat.le_of_ble_eq_true rfl⟩) ⟨Pw.blind, Pw.mk_call hP hK hD hS hA hG [0, 1, 4] rfl (by decide)⟩ rfl rfl hl.1 rfl (lv_room (Nat.le_of_ble_eq_true rfl)) dL_law_1416 ⟨Nat.le_of_ble_eq_true rfl, Nat.le_of_ble_eq_true rfl⟩) hP hD hS hA [0, 1, 4] [2, 3] rfl rfl (by decide) (by decide) (fun r_3 u_4 H locs hw hP hD hS => ?_)
  obtain rfl : r_3 = 1 := hw
  have hP : va_P D vwCl [(mo, .inr (12, [.int 0, .ref vl, .ref sl])), (sl, .inr (0, [.int 0, .ref ae, .int 0])), (x, .inr (6, [.ref t, .ref n, .ref sp, .int 0])), (t, .inr (4, [.ref t_kinds, .int 0, .long 0, .long 0, .ref t_codes, .ref t_targets, .ref t_settings, .ref t_sources, .ref t_accessCounts, .int 0, .ref t_acts, .ref t_actVariables, .ref t_actPlaces])), (o, .inl (cJ, 1, .inr (.inl (fun _ => 0))))] H := hP
  have hD : va_D A [(mo, .inr (12, [.int 0, .ref vl, .ref sl])), (sl, .inr (0, [.int 0, .ref ae, .int 0])), (x, .inr (6, [.ref t, .ref n, .ref sp, .int 0])), (t, .inr (4, [.ref t_kinds, .int 0, .long 0, .long 0, .ref t_codes, .ref t_targets, .ref t_settings, .ref t_sources, .ref t_accessCounts, .int 0, .ref t_acts, .ref t_actVariables, .ref t_actPlaces])), (o, .inl (cJ, 1, .inr (.inl (fun _ => 0))))] := hD
  refine lv_istore (lv' := [(5, .int 1), (0, .ref b), (1, .ref x), (2, .ref mo), (3, .ref o), (4, .int 0)]) hx hb dL_law_1419 hl (by decide) rfl (fun ls hl => ?_)
  refine lv_aload_n hx hb dL_law_1421 rfl (lv_at hl 3 rfl) ?_
  refine lv_aload_n hx hb dL_law_1422 rfl (lv_at hl 1 rfl) ?_
  refine lv_iload hx hb dL_law_1423 (lv_at hl 5 rfl) ?_
  refine lv_iconst (v := 1) hx hb dL_law_1425 (by decide) ?_
  refine lv_iadd hx hb dL_law_1426 ?_
  refine lv_topi (fun x_5 ex_5 => ?_)
  obtain rfl : x_5 = 1 := ex_5.trans (by decide)
  refine va_sld hx hb hX hbl hbA hS (vp_in_iff.mpr (by decide)) dL_law_1427 ?_
  refine lv_topi (fun y_6 ey_6 => ?_)
  rw [show y_6 = x1 from ey_6.trans e1]
  refine kc_i (wr := [(x, .inr (6, [.ref t, .ref n, .ref sp, .int 0])), (t, .inr (4, [.ref t_kinds, .int 0, .long 0, .long 0, .ref t_codes, .ref t_targets, .ref t_settings, .ref t_sources, .ref t_accessCounts, .int 0, .ref t_acts, .ref t_actVariables, .ref t_actPlaces])), (o, .inl (cJ, 1, .inr (.inl (fun _ => 0))))]) (va_runV (As := [.int x1]) (rest := []) ⟨hx, hb, hml, hown, hts⟩ (m_awaited_x l hfl ae D cI cJ cS cO mo vl sl x1 _) (cwV 1 hts (gV q_1524 q_1521 q_1522 q_1523 q_104) rfl rfl rfl (by decide +kernel) ⟨Nat.le_of_ble_eq_true rfl, Nat.le_of_ble_eq_true rfl⟩) ⟨Pw.blind, va_recv hK hP (ci := 12) (q0 := 0) rfl rfl, Pw.mk_call hP hK hD hS hA hG [0, 1] rfl (by decide)⟩ rfl rfl hl.1 rfl (lv_room (Nat.le_of_ble_eq_true rfl)) dL_law_1428 ⟨Nat.le_of_ble_eq_true rfl, Nat.le_of_ble_eq_true rfl⟩) hP hD hS hA [0, 1] [2, 3, 4] rfl rfl (by decide) (by decide) (fun r_7 u_8 H locs hw hP hD hS => ?_)
  obtain rfl : r_7 = 0 := hw
  have hP : va_P D vwCl [(x, .inr (6, [.ref t, .ref n, .ref sp, .int 0])), (t, .inr (4, [.ref t_kinds, .int 0, .long 0, .long 0, .ref t_codes, .ref t_targets, .ref t_settings, .ref t_sources, .ref t_accessCounts, .int 0, .ref t_acts, .ref t_actVariables, .ref t_actPlaces])), (o, .inl (cJ, 1, .inr (.inl (fun _ => 0)))), (mo, .inr (12, [.int 1, .ref vl, .ref sl])), (sl, .inr (0, [.int 0, .ref ae, .int 0]))] H := hP
  have hD : va_D A [(x, .inr (6, [.ref t, .ref n, .ref sp, .int 0])), (t, .inr (4, [.ref t_kinds, .int 0, .long 0, .long 0, .ref t_codes, .ref t_targets, .ref t_settings, .ref t_sources, .ref t_accessCounts, .int 0, .ref t_acts, .ref t_actVariables, .ref t_actPlaces])), (o, .inl (cJ, 1, .inr (.inl (fun _ => 0)))), (mo, .inr (12, [.int 1, .ref vl, .ref sl])), (sl, .inr (0, [.int 0, .ref ae, .int 0]))] := hD
  refine lv_istore (lv' := [(6, .int 0), (5, .int 1), (0, .ref b), (1, .ref x), (2, .ref mo), (3, .ref o), (4, .int 0)]) hx hb dL_law_1431 hl (by decide) rfl (fun ls hl => ?_)
  refine lv_aload_n hx hb dL_law_1433 rfl (lv_at hl 4 rfl) ?_
  refine kc_i (wr := [(x, .inr (6, [.ref t, .ref n, .ref sp, .int 0])), (t, .inr (4, [.ref t_kinds, .int 0, .long 0, .long 0, .ref t_codes, .ref t_targets, .ref t_settings, .ref t_sources, .ref t_accessCounts, .int 0, .ref t_acts, .ref t_actVariables, .ref t_actPlaces])), (o, .inl (cJ, 1, .inr (.inl (fun _ => 0)))), (sl, .inr (0, [.int 0, .ref ae, .int 0]))]) (va_runV (As := []) (rest := []) ⟨hx, hb, hml, hown, hts⟩ (m_thrown l hfl ae D cI cJ cS cO mo vl sl 1 _) (cwV 0 hts (gV q_1017 q_1014 q_1015 q_1016 q_104) rfl rfl rfl (by decide +kernel) ⟨Nat.le_of_ble_eq_true rfl, Nat.le_of_ble_eq_true rfl⟩) ⟨Pw.blind, va_recv hK hP (ci := 12) (q0 := 3) rfl rfl, Pw.mk_call hP hK hD hS hA hG [3] rfl (by decide)⟩ rfl rfl hl.1 rfl (lv_room (Nat.le_of_ble_eq_true rfl)) dL_law_1434 ⟨Nat.le_of_ble_eq_true rfl, Nat.le_of_ble_eq_true rfl⟩) hP hD hS hA [3] [0, 1, 2, 4] rfl rfl (by decide) (by decide) (fun r_9 u_10 H locs hw hP hD hS => ?_)
  obtain rfl : r_9 = 1 := hw
  have hP : va_P D vwCl [(x, .inr (6, [.ref t, .ref n, .ref sp, .int 0])), (t, .inr (4, [.ref t_kinds, .int 0, .long 0, .long 0, .ref t_codes, .ref t_targets, .ref t_settings, .ref t_sources, .ref t_accessCounts, .int 0, .ref t_acts, .ref t_actVariables, .ref t_actPlaces])), (o, .inl (cJ, 1, .inr (.inl (fun _ => 0)))), (sl, .inr (0, [.int 0, .ref ae, .int 0])), (mo, .inr (12, [.int 1, .ref vl, .ref sl]))] H := hP
  have hD : va_D A [(x, .inr (6, [.ref t, .ref n, .ref sp, .int 0])), (t, .inr (4, [.ref t_kinds, .int 0, .long 0, .long 0, .ref t_codes, .ref t_targets, .ref t_settings, .ref t_sources, .ref t_accessCounts, .int 0, .ref t_acts, .ref t_actVariables, .ref t_actPlaces])), (o, .inl (cJ, 1, .inr (.inl (fun _ => 0)))), (sl, .inr (0, [.int 0, .ref ae, .int 0])), (mo, .inr (12, [.int 1, .ref vl, .ref sl]))] := hD
  refine lv_iload hx hb dL_law_1437 (lv_at hl 1 rfl) ?_
  refine lv_icmp_eq (tgt := 1444) hx hb dL_law_1439 (by decide) (fun c_1439 => ?_) (fun c_1439 => absurd (by decide) c_1439)
  refine lv_iload hx hb dL_law_1444 (lv_at hl 1 rfl) ?_
  refine lv_if_ne (tgt := 1461) hx hb dL_law_1446 (by decide) (fun c_1446 => ?_) (fun c_1446 => absurd c_1446 (by decide))
  refine lv_goto (tgt := 1950) hx hb dL_law_1461 (by decide) ?_
  refine lv_iinc (v := 5) (lv' := [(4, .int 5), (6, .int 0), (5, .int 1), (0, .ref b), (1, .ref x), (2, .ref mo), (3, .ref o)]) hx hb dL_law_1950 hl (k := 6) rfl (by decide) (by decide) rfl (fun ls hl => ?_)
  refine lv_goto (tgt := 23) hx hb dL_law_1953 (by decide) ?_
  refine lv_iload hx hb dL_law_23 (lv_at hl 0 rfl) ?_
  refine lv_aload_n hx hb dL_law_25 rfl (lv_at hl 3 rfl) ?_
  refine va_slen hx hb hX hbl hbA hS dL_law_26 ?_
  refine lv_topi (fun y_11 ey_11 => ?_)
  obtain rfl : y_11 = 5 := ey_11.trans (by decide)
  refine lv_iconst (v := 5) hx hb dL_law_27 (by decide) ?_
  refine lv_isub hx hb dL_law_28 ?_
  refine lv_topi (fun x_12 ex_12 => ?_)
  obtain rfl : x_12 = 0 := ex_12.trans (by decide)
  refine lv_icmp_gt (tgt := 1956) hx hb dL_law_29 (by decide) (fun c_29 => ?_) (fun c_29 => absurd (by decide) c_29)
  refine lv_iconst (v := 1) hx hb dL_law_1956 (by decide) ?_
  refine va_forget (fun q hq => by have h9 := hS.2.2 q hq; rw [← hAe] at h9; exact h9) ?_
  refine W.widen (k := 600002) (n := 7302232) (Nat.le_of_ble_eq_true rfl) (Nat.le_of_ble_eq_true rfl) ?_
  refine W.base ?_
  exact lw_ret (Drawn.sameBut.refl s.drawn lw_cs) hx hb hr hlocks dL_law_1957

set_option maxHeartbeats 4000000 in
set_option maxRecDepth 100000 in
theorem lc_20 {p : Program} {l : Launch} {e : Env} {s : State} {m : MethodId} {below : List Frame} {meth : Method} {c : Code} {b : Nat} {xs : Nat → Int32} (hfl : l.stackTraces = false) {ae : Nat} {D : va_G} {cI cJ cS cO : ClassId} (C0 : lw_At p s m meth c b 5 xs) (hK : va_K D vwCl [(cI, .int), (cJ, .long), (cS, .object "IronwoodModel$State"), (cO, .object "java/lang/Object")] s) (hG : Gl ae (fun q : Nat => s.heap.size ≤ q) s s.heap) (x : Nat) (t : Nat) (n : Nat) (sp : Nat) (t_kinds : Nat) (t_codes : Nat) (t_targets : Nat) (t_settings : Nat) (t_sources : Nat) (t_accessCounts : Nat) (t_acts : Nat) (t_actVariables : Nat) (t_actPlaces : Nat) (ns : Nat) (nw : Nat) (nn : Nat) (s_nexts : Nat) (s_jumps : Nat) (s_uses : Nat) (s_sets : Nat) (s_changes : Nat) (s_toUnmade : Nat) (s_toMade : Nat) (s_toGone : Nat) (w_unmade : Nat) (w_made : Nat) (w_gone : Nat) (w_held : Nat) (w_awaiting : Nat) (w_living : Nat) (w_heldBehind : Nat) (w_asked : Nat) (d_slots : Nat) (d_codes : Nat) (d_reasons : Nat) (mo : Nat) (vl : Nat) (sl : Nat) (o : Nat) (x1 : Int32) (e1 : xs (Int32.toNatClampNeg 1) = x1) (x2 : Int32) (e2 : xs (Int32.toNatClampNeg 2) = x2) (x3 : Int32) (e3 : xs (Int32.toNatClampNeg 3) = x3) (x4 : Int32) (e4 : xs (Int32.toNatClampNeg 4) = x4)  (H : Heap) (locs : List Loc) (hP : va_P D vwCl [(x, .inr (6, [.ref t, .ref n, .ref sp, .int 0])), (t, .inr (4, [.ref t_kinds, .int 0, .long 0, .long 0, .ref t_codes, .ref t_targets, .ref t_settings, .ref t_sources, .ref t_accessCounts, .int 0, .ref t_acts, .ref t_actVariables, .ref t_actPlaces])), (n, .inr (1, [.ref ns, .ref nw, .ref nn])), (ns, .inr (3, [.ref s_nexts, .ref s_jumps, .ref s_uses, .ref s_sets, .ref s_changes, .ref s_toUnmade, .ref s_toMade, .ref s_toGone, .int 0, .int 0, .int 0])), (nw, .inr (5, [.long 0, .ref w_unmade, .ref w_made, .ref w_gone, .ref w_held, .ref w_awaiting, .ref w_living, .ref w_heldBehind, .ref w_asked])), (nn, .inr (2, [.ref d_slots, .ref d_codes, .ref d_reasons, .int 0])), (mo, .inr (12, [.int 0, .ref vl, .ref sl])), (sl, .inr (0, [.int 0, .ref ae, .int 0])), (o, .inl (cJ, 1, .inr (.inl (fun _ => 0))))] H) (hD : va_D (fun q : Nat => s.heap.size ≤ q) [(x, .inr (6, [.ref t, .ref n, .ref sp, .int 0])), (t, .inr (4, [.ref t_kinds, .int 0, .long 0, .long 0, .ref t_codes, .ref t_targets, .ref t_settings, .ref t_sources, .ref t_accessCounts, .int 0, .ref t_acts, .ref t_actVariables, .ref t_actPlaces])), (n, .inr (1, [.ref ns, .ref nw, .ref nn])), (ns, .inr (3, [.ref s_nexts, .ref s_jumps, .ref s_uses, .ref s_sets, .ref s_changes, .ref s_toUnmade, .ref s_toMade, .ref s_toGone, .int 0, .int 0, .int 0])), (nw, .inr (5, [.long 0, .ref w_unmade, .ref w_made, .ref w_gone, .ref w_held, .ref w_awaiting, .ref w_living, .ref w_heldBehind, .ref w_asked])), (nn, .inr (2, [.ref d_slots, .ref d_codes, .ref d_reasons, .int 0])), (mo, .inr (12, [.int 0, .ref vl, .ref sl])), (sl, .inr (0, [.int 0, .ref ae, .int 0])), (o, .inl (cJ, 1, .inr (.inl (fun _ => 0))))]) (hS : va_S (fun q : Nat => s.heap.size ≤ q) s.heap H locs) (ls : Array Slot) (hl : lv_has ls 9 [(0, .ref b), (1, .ref x), (2, .ref mo), (3, .ref o), (4, .int 0)]) : W p l e room_1 s m #[Value.ref b] below meth c H locs 61 3597 (lw_Z below #[Value.ref b] s) (F0 m 1464 ls []) := by
  obtain ⟨hx, hb, hr, hml, hown, hts0, hX, hbl, hlocks, hgv⟩ := id C0
  have hts := law_hts hts0
  have hA : ∀ q : Nat, s.heap.size ≤ q → (fun q : Nat => s.heap.size ≤ q) q := fun _ h => h
  have hbA : ¬ (fun q : Nat => s.heap.size ≤ q) b := Nat.not_le.mpr hbl
  generalize hAe : (fun q : Nat => s.heap.size ≤ q) = A at hD hG hS hA hbA
  refine lv_aload_n hx hb dL_law_1464 rfl (lv_at hl 1 rfl) ?_
  refine kc_i (wr := [(mo, .inr (12, [.int 0, .ref vl, .ref sl])), (sl, .inr (0, [.int 0, .ref ae, .int 0])), (o, .inl (cJ, 1, .inr (.inl (fun _ => 0))))]) (va_runV (As := []) (rest := []) ⟨hx, hb, hml, hown, hts⟩ (k_loans l hfl ae D cI cJ cS cO x t n sp t_kinds 0 0 0 t_codes t_targets t_settings t_sources t_accessCounts t_acts t_actVariables t_actPlaces ns nw nn s_nexts s_jumps s_uses s_sets s_changes s_toUnmade s_toMade s_toGone 0 0 0 0 w_unmade w_made w_gone w_held w_awaiting w_living w_heldBehind w_asked d_slots d_codes d_reasons 0 _) (cwV 0 hts (gV q_362 q_359 q_360 q_361 q_98) rfl rfl rfl (by decide +kernel) ⟨Nat.le_of_ble_eq_true rfl, Nat.le_of_ble_eq_true rfl⟩) ⟨Pw.blind, va_recv hK hP (ci := 6) (q0 := 0) rfl rfl, Pw.mk_call hP hK hD hS hA hG [0, 1, 2, 3, 4, 5] rfl (by decide)⟩ rfl rfl hl.1 rfl (lv_room (Nat.le_of_ble_eq_true rfl)) dL_law_1465 ⟨Nat.le_of_ble_eq_true rfl, Nat.le_of_ble_eq_true rfl⟩) hP hD hS hA [0, 1, 2, 3, 4, 5] [6, 7, 8] rfl rfl (by decide) (by decide) (fun r_1 u_2 H locs hw hP hD hS => ?_)
  obtain rfl : r_1 = 0 := hw
  have hP : va_P D vwCl [(mo, .inr (12, [.int 0, .ref vl, .ref sl])), (sl, .inr (0, [.int 0, .ref ae, .int 0])), (o, .inl (cJ, 1, .inr (.inl (fun _ => 0)))), (x, .inr (6, [.ref t, .ref n, .ref sp, .int 1])), (t, .inr (4, [.ref t_kinds, .int 0, .long 0, .long 0, .ref t_codes, .ref t_targets, .ref t_settings, .ref t_sources, .ref t_accessCounts, .int 0, .ref t_acts, .ref t_actVariables, .ref t_actPlaces])), (n, .inr (1, [.ref ns, .ref nw, .ref nn])), (ns, .inr (3, [.ref s_nexts, .ref s_jumps, .ref s_uses, .ref s_sets, .ref s_changes, .ref s_toUnmade, .ref s_toMade, .ref s_toGone, .int 0, .int (-1), .int (-1)])), (nw, .inr (5, [.long 0, .ref w_unmade, .ref w_made, .ref w_gone, .ref w_held, .ref w_awaiting, .ref w_living, .ref w_heldBehind, .ref w_asked])), (nn, .inr (2, [.ref d_slots, .ref d_codes, .ref d_reasons, .int 0]))] H := hP
  have hD : va_D A [(mo, .inr (12, [.int 0, .ref vl, .ref sl])), (sl, .inr (0, [.int 0, .ref ae, .int 0])), (o, .inl (cJ, 1, .inr (.inl (fun _ => 0)))), (x, .inr (6, [.ref t, .ref n, .ref sp, .int 1])), (t, .inr (4, [.ref t_kinds, .int 0, .long 0, .long 0, .ref t_codes, .ref t_targets, .ref t_settings, .ref t_sources, .ref t_accessCounts, .int 0, .ref t_acts, .ref t_actVariables, .ref t_actPlaces])), (n, .inr (1, [.ref ns, .ref nw, .ref nn])), (ns, .inr (3, [.ref s_nexts, .ref s_jumps, .ref s_uses, .ref s_sets, .ref s_changes, .ref s_toUnmade, .ref s_toMade, .ref s_toGone, .int 0, .int (-1), .int (-1)])), (nw, .inr (5, [.long 0, .ref w_unmade, .ref w_made, .ref w_gone, .ref w_held, .ref w_awaiting, .ref w_living, .ref w_heldBehind, .ref w_asked])), (nn, .inr (2, [.ref d_slots, .ref d_codes, .ref d_reasons, .int 0]))] := hD
  refine lv_aload_n hx hb dL_law_1468 rfl (lv_at hl 2 rfl) ?_
  refine kc_i (wr := [(o, .inl (cJ, 1, .inr (.inl (fun _ => 0)))), (x, .inr (6, [.ref t, .ref n, .ref sp, .int 1])), (t, .inr (4, [.ref t_kinds, .int 0, .long 0, .long 0, .ref t_codes, .ref t_targets, .ref t_settings, .ref t_sources, .ref t_accessCounts, .int 0, .ref t_acts, .ref t_actVariables, .ref t_actPlaces])), (n, .inr (1, [.ref ns, .ref nw, .ref nn])), (ns, .inr (3, [.ref s_nexts, .ref s_jumps, .ref s_uses, .ref s_sets, .ref s_changes, .ref s_toUnmade, .ref s_toMade, .ref s_toGone, .int 0, .int (-1), .int (-1)])), (nw, .inr (5, [.long 0, .ref w_unmade, .ref w_made, .ref w_gone, .ref w_held, .ref w_awaiting, .ref w_living, .ref w_heldBehind, .ref w_asked])), (nn, .inr (2, [.ref d_slots, .ref d_codes, .ref d_reasons, .int 0]))]) (va_runV (As := []) (rest := [.int 0]) ⟨hx, hb, hml, hown, hts⟩ (m_loans l hfl ae D cI cJ cS cO mo vl sl _) (cwV 0 hts (gV q_1528 q_1525 q_1526 q_1527 q_104) rfl rfl rfl (by decide +kernel) ⟨Nat.le_of_ble_eq_true rfl, Nat.le_of_ble_eq_true rfl⟩) ⟨Pw.blind, va_recv hK hP (ci := 12) (q0 := 0) rfl rfl, Pw.mk_call hP hK hD hS hA hG [0, 1] rfl (by decide)⟩ rfl rfl hl.1 rfl (lv_room (Nat.le_of_ble_eq_true rfl)) dL_law_1469 ⟨Nat.le_of_ble_eq_true rfl, Nat.le_of_ble_eq_true rfl⟩) hP hD hS hA [0, 1] [2, 3, 4, 5, 6, 7, 8] rfl rfl (by decide) (by decide) (fun r_3 u_4 H locs hw hP hD hS => ?_)
  obtain rfl : r_3 = 0 := hw
  have hP : va_P D vwCl [(o, .inl (cJ, 1, .inr (.inl (fun _ => 0)))), (x, .inr (6, [.ref t, .ref n, .ref sp, .int 1])), (t, .inr (4, [.ref t_kinds, .int 0, .long 0, .long 0, .ref t_codes, .ref t_targets, .ref t_settings, .ref t_sources, .ref t_accessCounts, .int 0, .ref t_acts, .ref t_actVariables, .ref t_actPlaces])), (n, .inr (1, [.ref ns, .ref nw, .ref nn])), (ns, .inr (3, [.ref s_nexts, .ref s_jumps, .ref s_uses, .ref s_sets, .ref s_changes, .ref s_toUnmade, .ref s_toMade, .ref s_toGone, .int 0, .int (-1), .int (-1)])), (nw, .inr (5, [.long 0, .ref w_unmade, .ref w_made, .ref w_gone, .ref w_held, .ref w_awaiting, .ref w_living, .ref w_heldBehind, .ref w_asked])), (nn, .inr (2, [.ref d_slots, .ref d_codes, .ref d_reasons, .int 0])), (mo, .inr (12, [.int 0, .ref vl, .ref sl])), (sl, .inr (0, [.int 0, .ref ae, .int 0]))] H := hP
  have hD : va_D A [(o, .inl (cJ, 1, .inr (.inl (fun _ => 0)))), (x, .inr (6, [.ref t, .ref n, .ref sp, .int 1])), (t, .inr (4, [.ref t_kinds, .int 0, .long 0, .long 0, .ref t_codes, .ref t_targets, .ref t_settings, .ref t_sources, .ref t_accessCounts, .int 0, .ref t_acts, .ref t_actVariables, .ref t_actPlaces])), (n, .inr (1, [.ref ns, .ref nw, .ref nn])), (ns, .inr (3, [.ref s_nexts, .ref s_jumps, .ref s_uses, .ref s_sets, .ref s_changes, .ref s_toUnmade, .ref s_toMade, .ref s_toGone, .int 0, .int (-1), .int (-1)])), (nw, .inr (5, [.long 0, .ref w_unmade, .ref w_made, .ref w_gone, .ref w_held, .ref w_awaiting, .ref w_living, .ref w_heldBehind, .ref w_asked])), (nn, .inr (2, [.ref d_slots, .ref d_codes, .ref d_reasons, .int 0])), (mo, .inr (12, [.int 0, .ref vl, .ref sl])), (sl, .inr (0, [.int 0, .ref ae, .int 0]))] := hD
  refine lv_icmp_eq (tgt := 1950) hx hb dL_law_1472 (by decide) (fun c_1472 => ?_) (fun c_1472 => absurd (by decide) c_1472)
  refine lv_iinc (v := 5) (lv' := [(4, .int 5), (0, .ref b), (1, .ref x), (2, .ref mo), (3, .ref o)]) hx hb dL_law_1950 hl (k := 4) rfl (by decide) (by decide) rfl (fun ls hl => ?_)
  refine lv_goto (tgt := 23) hx hb dL_law_1953 (by decide) ?_
  refine lv_iload hx hb dL_law_23 (lv_at hl 0 rfl) ?_
  refine lv_aload_n hx hb dL_law_25 rfl (lv_at hl 1 rfl) ?_
  refine va_slen hx hb hX hbl hbA hS dL_law_26 ?_
  refine lv_topi (fun y_5 ey_5 => ?_)
  obtain rfl : y_5 = 5 := ey_5.trans (by decide)
  refine lv_iconst (v := 5) hx hb dL_law_27 (by decide) ?_
  refine lv_isub hx hb dL_law_28 ?_
  refine lv_topi (fun x_6 ex_6 => ?_)
  obtain rfl : x_6 = 0 := ex_6.trans (by decide)
  refine lv_icmp_gt (tgt := 1956) hx hb dL_law_29 (by decide) (fun c_29 => ?_) (fun c_29 => absurd (by decide) c_29)
  refine lv_iconst (v := 1) hx hb dL_law_1956 (by decide) ?_
  refine va_forget (fun q hq => by have h9 := hS.2.2 q hq; rw [← hAe] at h9; exact h9) ?_
  refine W.widen (k := 600002) (n := 7302232) (Nat.le_of_ble_eq_true rfl) (Nat.le_of_ble_eq_true rfl) ?_
  refine W.base ?_
  exact lw_ret (Drawn.sameBut.refl s.drawn lw_cs) hx hb hr hlocks dL_law_1957

set_option maxHeartbeats 4000000 in
set_option maxRecDepth 100000 in
theorem lc_21 {p : Program} {l : Launch} {e : Env} {s : State} {m : MethodId} {below : List Frame} {meth : Method} {c : Code} {b : Nat} {xs : Nat → Int32} (hfl : l.stackTraces = false) {ae : Nat} {D : va_G} {cI cJ cS cO : ClassId} (C0 : lw_At p s m meth c b 5 xs) (hK : va_K D vwCl [(cI, .int), (cJ, .long), (cS, .object "IronwoodModel$State"), (cO, .object "java/lang/Object")] s) (hG : Gl ae (fun q : Nat => s.heap.size ≤ q) s s.heap) (x : Nat) (t : Nat) (n : Nat) (sp : Nat) (t_kinds : Nat) (t_codes : Nat) (t_targets : Nat) (t_settings : Nat) (t_sources : Nat) (t_accessCounts : Nat) (t_acts : Nat) (t_actVariables : Nat) (t_actPlaces : Nat) (mo : Nat) (vl : Nat) (sl : Nat) (o : Nat) (x1 : Int32) (e1 : xs (Int32.toNatClampNeg 1) = x1) (x2 : Int32) (e2 : xs (Int32.toNatClampNeg 2) = x2) (x3 : Int32) (e3 : xs (Int32.toNatClampNeg 3) = x3) (x4 : Int32) (e4 : xs (Int32.toNatClampNeg 4) = x4)  (H : Heap) (locs : List Loc) (hP : va_P D vwCl [(x, .inr (6, [.ref t, .ref n, .ref sp, .int 0])), (t, .inr (4, [.ref t_kinds, .int 0, .long 0, .long 0, .ref t_codes, .ref t_targets, .ref t_settings, .ref t_sources, .ref t_accessCounts, .int 0, .ref t_acts, .ref t_actVariables, .ref t_actPlaces])), (mo, .inr (12, [.int 0, .ref vl, .ref sl])), (sl, .inr (0, [.int 0, .ref ae, .int 0])), (o, .inl (cJ, 1, .inr (.inl (fun _ => 0))))] H) (hD : va_D (fun q : Nat => s.heap.size ≤ q) [(x, .inr (6, [.ref t, .ref n, .ref sp, .int 0])), (t, .inr (4, [.ref t_kinds, .int 0, .long 0, .long 0, .ref t_codes, .ref t_targets, .ref t_settings, .ref t_sources, .ref t_accessCounts, .int 0, .ref t_acts, .ref t_actVariables, .ref t_actPlaces])), (mo, .inr (12, [.int 0, .ref vl, .ref sl])), (sl, .inr (0, [.int 0, .ref ae, .int 0])), (o, .inl (cJ, 1, .inr (.inl (fun _ => 0))))]) (hS : va_S (fun q : Nat => s.heap.size ≤ q) s.heap H locs) (ls : Array Slot) (hl : lv_has ls 9 [(0, .ref b), (1, .ref x), (2, .ref mo), (3, .ref o), (4, .int 0)]) : W p l e room_1 s m #[Value.ref b] below meth c H locs 61 3597 (lw_Z below #[Value.ref b] s) (F0 m 1477 ls []) := by
  obtain ⟨hx, hb, hr, hml, hown, hts0, hX, hbl, hlocks, hgv⟩ := id C0
  have hts := law_hts hts0
  have hA : ∀ q : Nat, s.heap.size ≤ q → (fun q : Nat => s.heap.size ≤ q) q := fun _ h => h
  have hbA : ¬ (fun q : Nat => s.heap.size ≤ q) b := Nat.not_le.mpr hbl
  generalize hAe : (fun q : Nat => s.heap.size ≤ q) = A at hD hG hS hA hbA
  refine lv_aload_n hx hb dL_law_1477 rfl (lv_at hl 1 rfl) ?_
  refine lv_aload_n hx hb dL_law_1478 rfl (lv_at hl 0 rfl) ?_
  refine lv_iload hx hb dL_law_1479 (lv_at hl 4 rfl) ?_
  refine lv_iconst (v := 1) hx hb dL_law_1481 (by decide) ?_
  refine lv_iadd hx hb dL_law_1482 ?_
  refine lv_topi (fun x_1 ex_1 => ?_)
  obtain rfl : x_1 = 1 := ex_1.trans (by decide)
  refine va_sld hx hb hX hbl hbA hS (vp_in_iff.mpr (by decide)) dL_law_1483 ?_
  refine lv_topi (fun y_2 ey_2 => ?_)
  rw [show y_2 = x1 from ey_2.trans e1]
  refine lv_aload_n hx hb dL_law_1484 rfl (lv_at hl 0 rfl) ?_
  refine lv_iload hx hb dL_law_1485 (lv_at hl 4 rfl) ?_
  refine lv_iconst (v := 2) hx hb dL_law_1487 (by decide) ?_
  refine lv_iadd hx hb dL_law_1488 ?_
  refine lv_topi (fun x_3 ex_3 => ?_)
  obtain rfl : x_3 = 2 := ex_3.trans (by decide)
  refine va_sld hx hb hX hbl hbA hS (vp_in_iff.mpr (by decide)) dL_law_1489 ?_
  refine lv_topi (fun y_4 ey_4 => ?_)
  rw [show y_4 = x2 from ey_4.trans e2]
  refine lv_aload_n hx hb dL_law_1490 rfl (lv_at hl 3 rfl) ?_
  refine kc_i (wr := [(mo, .inr (12, [.int 0, .ref vl, .ref sl])), (sl, .inr (0, [.int 0, .ref ae, .int 0]))]) (vx_runSW (As := [.ref x, .int x1, .int x2, .ref o]) (rest := []) ⟨hx, hb, hml, hown, hts⟩ (w_isLive_x l hfl ae D cI cJ cS cO x t n sp 0 t_kinds 0 0 0 t_codes t_targets t_settings t_sources t_accessCounts t_acts t_actVariables t_actPlaces x1 x2 o (fun _ => 0) _) (vx_cwSW 4 hts (gT q_923 q_921 q_922 q_97) rfl rfl rfl (by decide +kernel) ⟨Nat.le_of_ble_eq_true rfl, Nat.le_of_ble_eq_true rfl⟩) ⟨Pw.blind, Pw.mk_call hP hK hD hS hA hG [0, 1, 4] rfl (by decide)⟩ rfl rfl hl.1 rfl (lv_room (Nat.le_of_ble_eq_true rfl)) dL_law_1491 ⟨Nat.le_of_ble_eq_true rfl, Nat.le_of_ble_eq_true rfl⟩) hP hD hS hA [0, 1, 4] [2, 3] rfl rfl (by decide) (by decide) (fun r_5 u_6 H locs hw hP hD hS => ?_)
  obtain rfl : r_5 = 1 := hw
  have hP : va_P D vwCl [(mo, .inr (12, [.int 0, .ref vl, .ref sl])), (sl, .inr (0, [.int 0, .ref ae, .int 0])), (x, .inr (6, [.ref t, .ref n, .ref sp, .int 0])), (t, .inr (4, [.ref t_kinds, .int 0, .long 0, .long 0, .ref t_codes, .ref t_targets, .ref t_settings, .ref t_sources, .ref t_accessCounts, .int 0, .ref t_acts, .ref t_actVariables, .ref t_actPlaces])), (o, .inl (cJ, 1, .inr (.inl (fun _ => 0))))] H := hP
  have hD : va_D A [(mo, .inr (12, [.int 0, .ref vl, .ref sl])), (sl, .inr (0, [.int 0, .ref ae, .int 0])), (x, .inr (6, [.ref t, .ref n, .ref sp, .int 0])), (t, .inr (4, [.ref t_kinds, .int 0, .long 0, .long 0, .ref t_codes, .ref t_targets, .ref t_settings, .ref t_sources, .ref t_accessCounts, .int 0, .ref t_acts, .ref t_actVariables, .ref t_actPlaces])), (o, .inl (cJ, 1, .inr (.inl (fun _ => 0))))] := hD
  refine lv_istore (lv' := [(5, .int 1), (0, .ref b), (1, .ref x), (2, .ref mo), (3, .ref o), (4, .int 0)]) hx hb dL_law_1494 hl (by decide) rfl (fun ls hl => ?_)
  refine lv_aload_n hx hb dL_law_1496 rfl (lv_at hl 3 rfl) ?_
  refine lv_aload_n hx hb dL_law_1497 rfl (lv_at hl 1 rfl) ?_
  refine lv_iload hx hb dL_law_1498 (lv_at hl 5 rfl) ?_
  refine lv_iconst (v := 1) hx hb dL_law_1500 (by decide) ?_
  refine lv_iadd hx hb dL_law_1501 ?_
  refine lv_topi (fun x_7 ex_7 => ?_)
  obtain rfl : x_7 = 1 := ex_7.trans (by decide)
  refine va_sld hx hb hX hbl hbA hS (vp_in_iff.mpr (by decide)) dL_law_1502 ?_
  refine lv_topi (fun y_8 ey_8 => ?_)
  rw [show y_8 = x1 from ey_8.trans e1]
  refine lv_aload_n hx hb dL_law_1503 rfl (lv_at hl 1 rfl) ?_
  refine lv_iload hx hb dL_law_1504 (lv_at hl 5 rfl) ?_
  refine lv_iconst (v := 2) hx hb dL_law_1506 (by decide) ?_
  refine lv_iadd hx hb dL_law_1507 ?_
  refine lv_topi (fun x_9 ex_9 => ?_)
  obtain rfl : x_9 = 2 := ex_9.trans (by decide)
  refine va_sld hx hb hX hbl hbA hS (vp_in_iff.mpr (by decide)) dL_law_1508 ?_
  refine lv_topi (fun y_10 ey_10 => ?_)
  rw [show y_10 = x2 from ey_10.trans e2]
  refine kc_i (wr := [(x, .inr (6, [.ref t, .ref n, .ref sp, .int 0])), (t, .inr (4, [.ref t_kinds, .int 0, .long 0, .long 0, .ref t_codes, .ref t_targets, .ref t_settings, .ref t_sources, .ref t_accessCounts, .int 0, .ref t_acts, .ref t_actVariables, .ref t_actPlaces])), (o, .inl (cJ, 1, .inr (.inl (fun _ => 0))))]) (va_runV (As := [.int x1, .int x2]) (rest := []) ⟨hx, hb, hml, hown, hts⟩ (m_isLive_x l hfl ae D cI cJ cS cO mo vl sl x1 x2 _) (cwV 2 hts (gV q_1536 q_1533 q_1534 q_1535 q_104) rfl rfl rfl (by decide +kernel) ⟨Nat.le_of_ble_eq_true rfl, Nat.le_of_ble_eq_true rfl⟩) ⟨Pw.blind, va_recv hK hP (ci := 12) (q0 := 0) rfl rfl, Pw.mk_call hP hK hD hS hA hG [0, 1] rfl (by decide)⟩ rfl rfl hl.1 rfl (lv_room (Nat.le_of_ble_eq_true rfl)) dL_law_1509 ⟨Nat.le_of_ble_eq_true rfl, Nat.le_of_ble_eq_true rfl⟩) hP hD hS hA [0, 1] [2, 3, 4] rfl rfl (by decide) (by decide) (fun r_11 u_12 H locs hw hP hD hS => ?_)
  obtain rfl : r_11 = 0 := hw
  have hP : va_P D vwCl [(x, .inr (6, [.ref t, .ref n, .ref sp, .int 0])), (t, .inr (4, [.ref t_kinds, .int 0, .long 0, .long 0, .ref t_codes, .ref t_targets, .ref t_settings, .ref t_sources, .ref t_accessCounts, .int 0, .ref t_acts, .ref t_actVariables, .ref t_actPlaces])), (o, .inl (cJ, 1, .inr (.inl (fun _ => 0)))), (mo, .inr (12, [.int 1, .ref vl, .ref sl])), (sl, .inr (0, [.int 0, .ref ae, .int 0]))] H := hP
  have hD : va_D A [(x, .inr (6, [.ref t, .ref n, .ref sp, .int 0])), (t, .inr (4, [.ref t_kinds, .int 0, .long 0, .long 0, .ref t_codes, .ref t_targets, .ref t_settings, .ref t_sources, .ref t_accessCounts, .int 0, .ref t_acts, .ref t_actVariables, .ref t_actPlaces])), (o, .inl (cJ, 1, .inr (.inl (fun _ => 0)))), (mo, .inr (12, [.int 1, .ref vl, .ref sl])), (sl, .inr (0, [.int 0, .ref ae, .int 0]))] := hD
  refine lv_istore (lv' := [(6, .int 0), (5, .int 1), (0, .ref b), (1, .ref x), (2, .ref mo), (3, .ref o), (4, .int 0)]) hx hb dL_law_1512 hl (by decide) rfl (fun ls hl => ?_)
  refine lv_aload_n hx hb dL_law_1514 rfl (lv_at hl 4 rfl) ?_
  refine kc_i (wr := [(x, .inr (6, [.ref t, .ref n, .ref sp, .int 0])), (t, .inr (4, [.ref t_kinds, .int 0, .long 0, .long 0, .ref t_codes, .ref t_targets, .ref t_settings, .ref t_sources, .ref t_accessCounts, .int 0, .ref t_acts, .ref t_actVariables, .ref t_actPlaces])), (o, .inl (cJ, 1, .inr (.inl (fun _ => 0)))), (sl, .inr (0, [.int 0, .ref ae, .int 0]))]) (va_runV (As := []) (rest := []) ⟨hx, hb, hml, hown, hts⟩ (m_thrown l hfl ae D cI cJ cS cO mo vl sl 1 _) (cwV 0 hts (gV q_1017 q_1014 q_1015 q_1016 q_104) rfl rfl rfl (by decide +kernel) ⟨Nat.le_of_ble_eq_true rfl, Nat.le_of_ble_eq_true rfl⟩) ⟨Pw.blind, va_recv hK hP (ci := 12) (q0 := 3) rfl rfl, Pw.mk_call hP hK hD hS hA hG [3] rfl (by decide)⟩ rfl rfl hl.1 rfl (lv_room (Nat.le_of_ble_eq_true rfl)) dL_law_1515 ⟨Nat.le_of_ble_eq_true rfl, Nat.le_of_ble_eq_true rfl⟩) hP hD hS hA [3] [0, 1, 2, 4] rfl rfl (by decide) (by decide) (fun r_13 u_14 H locs hw hP hD hS => ?_)
  obtain rfl : r_13 = 1 := hw
  have hP : va_P D vwCl [(x, .inr (6, [.ref t, .ref n, .ref sp, .int 0])), (t, .inr (4, [.ref t_kinds, .int 0, .long 0, .long 0, .ref t_codes, .ref t_targets, .ref t_settings, .ref t_sources, .ref t_accessCounts, .int 0, .ref t_acts, .ref t_actVariables, .ref t_actPlaces])), (o, .inl (cJ, 1, .inr (.inl (fun _ => 0)))), (sl, .inr (0, [.int 0, .ref ae, .int 0])), (mo, .inr (12, [.int 1, .ref vl, .ref sl]))] H := hP
  have hD : va_D A [(x, .inr (6, [.ref t, .ref n, .ref sp, .int 0])), (t, .inr (4, [.ref t_kinds, .int 0, .long 0, .long 0, .ref t_codes, .ref t_targets, .ref t_settings, .ref t_sources, .ref t_accessCounts, .int 0, .ref t_acts, .ref t_actVariables, .ref t_actPlaces])), (o, .inl (cJ, 1, .inr (.inl (fun _ => 0)))), (sl, .inr (0, [.int 0, .ref ae, .int 0])), (mo, .inr (12, [.int 1, .ref vl, .ref sl]))] := hD
  refine lv_iload hx hb dL_law_1518 (lv_at hl 1 rfl) ?_
  refine lv_icmp_eq (tgt := 1525) hx hb dL_law_1520 (by decide) (fun c_1520 => ?_) (fun c_1520 => absurd (by decide) c_1520)
  refine lv_iload hx hb dL_law_1525 (lv_at hl 1 rfl) ?_
  refine lv_if_ne (tgt := 1549) hx hb dL_law_1527 (by decide) (fun c_1527 => ?_) (fun c_1527 => absurd c_1527 (by decide))
  refine lv_goto (tgt := 1950) hx hb dL_law_1549 (by decide) ?_
  refine lv_iinc (v := 5) (lv' := [(4, .int 5), (6, .int 0), (5, .int 1), (0, .ref b), (1, .ref x), (2, .ref mo), (3, .ref o)]) hx hb dL_law_1950 hl (k := 6) rfl (by decide) (by decide) rfl (fun ls hl => ?_)
  refine lv_goto (tgt := 23) hx hb dL_law_1953 (by decide) ?_
  refine lv_iload hx hb dL_law_23 (lv_at hl 0 rfl) ?_
  refine lv_aload_n hx hb dL_law_25 rfl (lv_at hl 3 rfl) ?_
  refine va_slen hx hb hX hbl hbA hS dL_law_26 ?_
  refine lv_topi (fun y_15 ey_15 => ?_)
  obtain rfl : y_15 = 5 := ey_15.trans (by decide)
  refine lv_iconst (v := 5) hx hb dL_law_27 (by decide) ?_
  refine lv_isub hx hb dL_law_28 ?_
  refine lv_topi (fun x_16 ex_16 => ?_)
  obtain rfl : x_16 = 0 := ex_16.trans (by decide)
  refine lv_icmp_gt (tgt := 1956) hx hb dL_law_29 (by decide) (fun c_29 => ?_) (fun c_29 => absurd (by decide) c_29)
  refine lv_iconst (v := 1) hx hb dL_law_1956 (by decide) ?_
  refine va_forget (fun q hq => by have h9 := hS.2.2 q hq; rw [← hAe] at h9; exact h9) ?_
  refine W.widen (k := 600002) (n := 7302232) (Nat.le_of_ble_eq_true rfl) (Nat.le_of_ble_eq_true rfl) ?_
  refine W.base ?_
  exact lw_ret (Drawn.sameBut.refl s.drawn lw_cs) hx hb hr hlocks dL_law_1957

set_option maxHeartbeats 4000000 in
set_option maxRecDepth 100000 in
theorem lc_22 {p : Program} {l : Launch} {e : Env} {s : State} {m : MethodId} {below : List Frame} {meth : Method} {c : Code} {b : Nat} {xs : Nat → Int32} (hfl : l.stackTraces = false) {ae : Nat} {D : va_G} {cI cJ cS cO : ClassId} (C0 : lw_At p s m meth c b 5 xs) (hK : va_K D vwCl [(cI, .int), (cJ, .long), (cS, .object "IronwoodModel$State"), (cO, .object "java/lang/Object")] s) (hG : Gl ae (fun q : Nat => s.heap.size ≤ q) s s.heap) (x : Nat) (t : Nat) (n : Nat) (sp : Nat) (t_kinds : Nat) (t_codes : Nat) (t_targets : Nat) (t_settings : Nat) (t_sources : Nat) (t_accessCounts : Nat) (t_acts : Nat) (t_actVariables : Nat) (t_actPlaces : Nat) (ns : Nat) (nw : Nat) (nn : Nat) (s_nexts : Nat) (s_jumps : Nat) (s_uses : Nat) (s_sets : Nat) (s_changes : Nat) (s_toUnmade : Nat) (s_toMade : Nat) (s_toGone : Nat) (w_unmade : Nat) (w_made : Nat) (w_gone : Nat) (w_held : Nat) (w_awaiting : Nat) (w_living : Nat) (w_heldBehind : Nat) (w_asked : Nat) (d_slots : Nat) (d_codes : Nat) (d_reasons : Nat) (mo : Nat) (vl : Nat) (sl : Nat) (o : Nat) (x1 : Int32) (e1 : xs (Int32.toNatClampNeg 1) = x1) (x2 : Int32) (e2 : xs (Int32.toNatClampNeg 2) = x2) (x3 : Int32) (e3 : xs (Int32.toNatClampNeg 3) = x3) (x4 : Int32) (e4 : xs (Int32.toNatClampNeg 4) = x4)  (H : Heap) (locs : List Loc) (hP : va_P D vwCl [(x, .inr (6, [.ref t, .ref n, .ref sp, .int 0])), (t, .inr (4, [.ref t_kinds, .int 0, .long 0, .long 0, .ref t_codes, .ref t_targets, .ref t_settings, .ref t_sources, .ref t_accessCounts, .int 0, .ref t_acts, .ref t_actVariables, .ref t_actPlaces])), (n, .inr (1, [.ref ns, .ref nw, .ref nn])), (ns, .inr (3, [.ref s_nexts, .ref s_jumps, .ref s_uses, .ref s_sets, .ref s_changes, .ref s_toUnmade, .ref s_toMade, .ref s_toGone, .int 0, .int 0, .int 0])), (nw, .inr (5, [.long 0, .ref w_unmade, .ref w_made, .ref w_gone, .ref w_held, .ref w_awaiting, .ref w_living, .ref w_heldBehind, .ref w_asked])), (nn, .inr (2, [.ref d_slots, .ref d_codes, .ref d_reasons, .int 0])), (mo, .inr (12, [.int 0, .ref vl, .ref sl])), (sl, .inr (0, [.int 0, .ref ae, .int 0])), (o, .inl (cJ, 1, .inr (.inl (fun _ => 0))))] H) (hD : va_D (fun q : Nat => s.heap.size ≤ q) [(x, .inr (6, [.ref t, .ref n, .ref sp, .int 0])), (t, .inr (4, [.ref t_kinds, .int 0, .long 0, .long 0, .ref t_codes, .ref t_targets, .ref t_settings, .ref t_sources, .ref t_accessCounts, .int 0, .ref t_acts, .ref t_actVariables, .ref t_actPlaces])), (n, .inr (1, [.ref ns, .ref nw, .ref nn])), (ns, .inr (3, [.ref s_nexts, .ref s_jumps, .ref s_uses, .ref s_sets, .ref s_changes, .ref s_toUnmade, .ref s_toMade, .ref s_toGone, .int 0, .int 0, .int 0])), (nw, .inr (5, [.long 0, .ref w_unmade, .ref w_made, .ref w_gone, .ref w_held, .ref w_awaiting, .ref w_living, .ref w_heldBehind, .ref w_asked])), (nn, .inr (2, [.ref d_slots, .ref d_codes, .ref d_reasons, .int 0])), (mo, .inr (12, [.int 0, .ref vl, .ref sl])), (sl, .inr (0, [.int 0, .ref ae, .int 0])), (o, .inl (cJ, 1, .inr (.inl (fun _ => 0))))]) (hS : va_S (fun q : Nat => s.heap.size ≤ q) s.heap H locs) (ls : Array Slot) (hl : lv_has ls 9 [(0, .ref b), (1, .ref x), (2, .ref mo), (3, .ref o), (4, .int 0)]) : W p l e room_1 s m #[Value.ref b] below meth c H locs 61 3597 (lw_Z below #[Value.ref b] s) (F0 m 1552 ls []) := by
  obtain ⟨hx, hb, hr, hml, hown, hts0, hX, hbl, hlocks, hgv⟩ := id C0
  have hts := law_hts hts0
  have hA : ∀ q : Nat, s.heap.size ≤ q → (fun q : Nat => s.heap.size ≤ q) q := fun _ h => h
  have hbA : ¬ (fun q : Nat => s.heap.size ≤ q) b := Nat.not_le.mpr hbl
  generalize hAe : (fun q : Nat => s.heap.size ≤ q) = A at hD hG hS hA hbA
  refine lv_aload_n hx hb dL_law_1552 rfl (lv_at hl 1 rfl) ?_
  refine lv_aload_n hx hb dL_law_1553 rfl (lv_at hl 0 rfl) ?_
  refine lv_iload hx hb dL_law_1554 (lv_at hl 4 rfl) ?_
  refine lv_iconst (v := 1) hx hb dL_law_1556 (by decide) ?_
  refine lv_iadd hx hb dL_law_1557 ?_
  refine lv_topi (fun x_1 ex_1 => ?_)
  obtain rfl : x_1 = 1 := ex_1.trans (by decide)
  refine va_sld hx hb hX hbl hbA hS (vp_in_iff.mpr (by decide)) dL_law_1558 ?_
  refine lv_topi (fun y_2 ey_2 => ?_)
  rw [show y_2 = x1 from ey_2.trans e1]
  refine kc_i (wr := [(mo, .inr (12, [.int 0, .ref vl, .ref sl])), (sl, .inr (0, [.int 0, .ref ae, .int 0])), (o, .inl (cJ, 1, .inr (.inl (fun _ => 0))))]) (va_runV (As := [.int x1]) (rest := []) ⟨hx, hb, hml, hown, hts⟩ (k_region l hfl ae D cI cJ cS cO x t n sp t_kinds 0 0 0 t_codes t_targets t_settings t_sources t_accessCounts t_acts t_actVariables t_actPlaces ns nw nn s_nexts s_jumps s_uses s_sets s_changes s_toUnmade s_toMade s_toGone 0 0 0 0 w_unmade w_made w_gone w_held w_awaiting w_living w_heldBehind w_asked d_slots d_codes d_reasons 0 x1 _) (cwV 1 hts (gV q_528 q_525 q_526 q_527 q_98) rfl rfl rfl (by decide +kernel) ⟨Nat.le_of_ble_eq_true rfl, Nat.le_of_ble_eq_true rfl⟩) ⟨Pw.blind, va_recv hK hP (ci := 6) (q0 := 0) rfl rfl, Pw.mk_call hP hK hD hS hA hG [0, 1, 2, 3, 4, 5] rfl (by decide)⟩ rfl rfl hl.1 rfl (lv_room (Nat.le_of_ble_eq_true rfl)) dL_law_1559 ⟨Nat.le_of_ble_eq_true rfl, Nat.le_of_ble_eq_true rfl⟩) hP hD hS hA [0, 1, 2, 3, 4, 5] [6, 7, 8] rfl rfl (by decide) (by decide) (fun r_3 u_4 H locs hw hP hD hS => ?_)
  obtain rfl : r_3 = (-1) := hw
  have hP : va_P D vwCl [(mo, .inr (12, [.int 0, .ref vl, .ref sl])), (sl, .inr (0, [.int 0, .ref ae, .int 0])), (o, .inl (cJ, 1, .inr (.inl (fun _ => 0)))), (x, .inr (6, [.ref t, .ref n, .ref sp, .int 1])), (t, .inr (4, [.ref t_kinds, .int 0, .long 0, .long 0, .ref t_codes, .ref t_targets, .ref t_settings, .ref t_sources, .ref t_accessCounts, .int 0, .ref t_acts, .ref t_actVariables, .ref t_actPlaces])), (n, .inr (1, [.ref ns, .ref nw, .ref nn])), (ns, .inr (3, [.ref s_nexts, .ref s_jumps, .ref s_uses, .ref s_sets, .ref s_changes, .ref s_toUnmade, .ref s_toMade, .ref s_toGone, .int 0, .int (-1), .int (-1)])), (nw, .inr (5, [.long 0, .ref w_unmade, .ref w_made, .ref w_gone, .ref w_held, .ref w_awaiting, .ref w_living, .ref w_heldBehind, .ref w_asked])), (nn, .inr (2, [.ref d_slots, .ref d_codes, .ref d_reasons, .int 0]))] H := hP
  have hD : va_D A [(mo, .inr (12, [.int 0, .ref vl, .ref sl])), (sl, .inr (0, [.int 0, .ref ae, .int 0])), (o, .inl (cJ, 1, .inr (.inl (fun _ => 0)))), (x, .inr (6, [.ref t, .ref n, .ref sp, .int 1])), (t, .inr (4, [.ref t_kinds, .int 0, .long 0, .long 0, .ref t_codes, .ref t_targets, .ref t_settings, .ref t_sources, .ref t_accessCounts, .int 0, .ref t_acts, .ref t_actVariables, .ref t_actPlaces])), (n, .inr (1, [.ref ns, .ref nw, .ref nn])), (ns, .inr (3, [.ref s_nexts, .ref s_jumps, .ref s_uses, .ref s_sets, .ref s_changes, .ref s_toUnmade, .ref s_toMade, .ref s_toGone, .int 0, .int (-1), .int (-1)])), (nw, .inr (5, [.long 0, .ref w_unmade, .ref w_made, .ref w_gone, .ref w_held, .ref w_awaiting, .ref w_living, .ref w_heldBehind, .ref w_asked])), (nn, .inr (2, [.ref d_slots, .ref d_codes, .ref d_reasons, .int 0]))] := hD
  refine lv_aload_n hx hb dL_law_1562 rfl (lv_at hl 2 rfl) ?_
  refine lv_aload_n hx hb dL_law_1563 rfl (lv_at hl 0 rfl) ?_
  refine lv_iload hx hb dL_law_1564 (lv_at hl 4 rfl) ?_
  refine lv_iconst (v := 1) hx hb dL_law_1566 (by decide) ?_
  refine lv_iadd hx hb dL_law_1567 ?_
  refine lv_topi (fun x_5 ex_5 => ?_)
  obtain rfl : x_5 = 1 := ex_5.trans (by decide)
  refine va_sld hx hb hX hbl hbA hS (vp_in_iff.mpr (by decide)) dL_law_1568 ?_
  refine lv_topi (fun y_6 ey_6 => ?_)
  rw [show y_6 = x1 from ey_6.trans e1]
  refine kc_i (wr := [(o, .inl (cJ, 1, .inr (.inl (fun _ => 0)))), (x, .inr (6, [.ref t, .ref n, .ref sp, .int 1])), (t, .inr (4, [.ref t_kinds, .int 0, .long 0, .long 0, .ref t_codes, .ref t_targets, .ref t_settings, .ref t_sources, .ref t_accessCounts, .int 0, .ref t_acts, .ref t_actVariables, .ref t_actPlaces])), (n, .inr (1, [.ref ns, .ref nw, .ref nn])), (ns, .inr (3, [.ref s_nexts, .ref s_jumps, .ref s_uses, .ref s_sets, .ref s_changes, .ref s_toUnmade, .ref s_toMade, .ref s_toGone, .int 0, .int (-1), .int (-1)])), (nw, .inr (5, [.long 0, .ref w_unmade, .ref w_made, .ref w_gone, .ref w_held, .ref w_awaiting, .ref w_living, .ref w_heldBehind, .ref w_asked])), (nn, .inr (2, [.ref d_slots, .ref d_codes, .ref d_reasons, .int 0]))]) (va_runV (As := [.int x1]) (rest := [.int (-1)]) ⟨hx, hb, hml, hown, hts⟩ (m_region l hfl ae D cI cJ cS cO mo vl sl x1 _) (cwV 1 hts (gV q_1541 q_1538 q_1539 q_1540 q_104) rfl rfl rfl (by decide +kernel) ⟨Nat.le_of_ble_eq_true rfl, Nat.le_of_ble_eq_true rfl⟩) ⟨Pw.blind, va_recv hK hP (ci := 12) (q0 := 0) rfl rfl, Pw.mk_call hP hK hD hS hA hG [0, 1] rfl (by decide)⟩ rfl rfl hl.1 rfl (lv_room (Nat.le_of_ble_eq_true rfl)) dL_law_1569 ⟨Nat.le_of_ble_eq_true rfl, Nat.le_of_ble_eq_true rfl⟩) hP hD hS hA [0, 1] [2, 3, 4, 5, 6, 7, 8] rfl rfl (by decide) (by decide) (fun r_7 u_8 H locs hw hP hD hS => ?_)
  obtain rfl : r_7 = (-1) := hw
  have hP : va_P D vwCl [(o, .inl (cJ, 1, .inr (.inl (fun _ => 0)))), (x, .inr (6, [.ref t, .ref n, .ref sp, .int 1])), (t, .inr (4, [.ref t_kinds, .int 0, .long 0, .long 0, .ref t_codes, .ref t_targets, .ref t_settings, .ref t_sources, .ref t_accessCounts, .int 0, .ref t_acts, .ref t_actVariables, .ref t_actPlaces])), (n, .inr (1, [.ref ns, .ref nw, .ref nn])), (ns, .inr (3, [.ref s_nexts, .ref s_jumps, .ref s_uses, .ref s_sets, .ref s_changes, .ref s_toUnmade, .ref s_toMade, .ref s_toGone, .int 0, .int (-1), .int (-1)])), (nw, .inr (5, [.long 0, .ref w_unmade, .ref w_made, .ref w_gone, .ref w_held, .ref w_awaiting, .ref w_living, .ref w_heldBehind, .ref w_asked])), (nn, .inr (2, [.ref d_slots, .ref d_codes, .ref d_reasons, .int 0])), (mo, .inr (12, [.int 0, .ref vl, .ref sl])), (sl, .inr (0, [.int 0, .ref ae, .int 0]))] H := hP
  have hD : va_D A [(o, .inl (cJ, 1, .inr (.inl (fun _ => 0)))), (x, .inr (6, [.ref t, .ref n, .ref sp, .int 1])), (t, .inr (4, [.ref t_kinds, .int 0, .long 0, .long 0, .ref t_codes, .ref t_targets, .ref t_settings, .ref t_sources, .ref t_accessCounts, .int 0, .ref t_acts, .ref t_actVariables, .ref t_actPlaces])), (n, .inr (1, [.ref ns, .ref nw, .ref nn])), (ns, .inr (3, [.ref s_nexts, .ref s_jumps, .ref s_uses, .ref s_sets, .ref s_changes, .ref s_toUnmade, .ref s_toMade, .ref s_toGone, .int 0, .int (-1), .int (-1)])), (nw, .inr (5, [.long 0, .ref w_unmade, .ref w_made, .ref w_gone, .ref w_held, .ref w_awaiting, .ref w_living, .ref w_heldBehind, .ref w_asked])), (nn, .inr (2, [.ref d_slots, .ref d_codes, .ref d_reasons, .int 0])), (mo, .inr (12, [.int 0, .ref vl, .ref sl])), (sl, .inr (0, [.int 0, .ref ae, .int 0]))] := hD
  refine lv_icmp_eq (tgt := 1950) hx hb dL_law_1572 (by decide) (fun c_1572 => ?_) (fun c_1572 => absurd (by decide) c_1572)
  refine lv_iinc (v := 5) (lv' := [(4, .int 5), (0, .ref b), (1, .ref x), (2, .ref mo), (3, .ref o)]) hx hb dL_law_1950 hl (k := 4) rfl (by decide) (by decide) rfl (fun ls hl => ?_)
  refine lv_goto (tgt := 23) hx hb dL_law_1953 (by decide) ?_
  refine lv_iload hx hb dL_law_23 (lv_at hl 0 rfl) ?_
  refine lv_aload_n hx hb dL_law_25 rfl (lv_at hl 1 rfl) ?_
  refine va_slen hx hb hX hbl hbA hS dL_law_26 ?_
  refine lv_topi (fun y_9 ey_9 => ?_)
  obtain rfl : y_9 = 5 := ey_9.trans (by decide)
  refine lv_iconst (v := 5) hx hb dL_law_27 (by decide) ?_
  refine lv_isub hx hb dL_law_28 ?_
  refine lv_topi (fun x_10 ex_10 => ?_)
  obtain rfl : x_10 = 0 := ex_10.trans (by decide)
  refine lv_icmp_gt (tgt := 1956) hx hb dL_law_29 (by decide) (fun c_29 => ?_) (fun c_29 => absurd (by decide) c_29)
  refine lv_iconst (v := 1) hx hb dL_law_1956 (by decide) ?_
  refine va_forget (fun q hq => by have h9 := hS.2.2 q hq; rw [← hAe] at h9; exact h9) ?_
  refine W.widen (k := 600002) (n := 7302232) (Nat.le_of_ble_eq_true rfl) (Nat.le_of_ble_eq_true rfl) ?_
  refine W.base ?_
  exact lw_ret (Drawn.sameBut.refl s.drawn lw_cs) hx hb hr hlocks dL_law_1957

set_option maxHeartbeats 4000000 in
set_option maxRecDepth 100000 in
theorem lc_23 {p : Program} {l : Launch} {e : Env} {s : State} {m : MethodId} {below : List Frame} {meth : Method} {c : Code} {b : Nat} {xs : Nat → Int32} (hfl : l.stackTraces = false) {ae : Nat} {D : va_G} {cI cJ cS cO : ClassId} (C0 : lw_At p s m meth c b 5 xs) (hK : va_K D vwCl [(cI, .int), (cJ, .long), (cS, .object "IronwoodModel$State"), (cO, .object "java/lang/Object")] s) (hG : Gl ae (fun q : Nat => s.heap.size ≤ q) s s.heap) (x : Nat) (t : Nat) (n : Nat) (sp : Nat) (t_kinds : Nat) (t_codes : Nat) (t_targets : Nat) (t_settings : Nat) (t_sources : Nat) (t_accessCounts : Nat) (t_acts : Nat) (t_actVariables : Nat) (t_actPlaces : Nat) (ns : Nat) (nw : Nat) (nn : Nat) (s_nexts : Nat) (s_jumps : Nat) (s_uses : Nat) (s_sets : Nat) (s_changes : Nat) (s_toUnmade : Nat) (s_toMade : Nat) (s_toGone : Nat) (w_unmade : Nat) (w_made : Nat) (w_gone : Nat) (w_held : Nat) (w_awaiting : Nat) (w_living : Nat) (w_heldBehind : Nat) (w_asked : Nat) (d_slots : Nat) (d_codes : Nat) (d_reasons : Nat) (mo : Nat) (vl : Nat) (sl : Nat) (o : Nat) (x1 : Int32) (e1 : xs (Int32.toNatClampNeg 1) = x1) (x2 : Int32) (e2 : xs (Int32.toNatClampNeg 2) = x2) (x3 : Int32) (e3 : xs (Int32.toNatClampNeg 3) = x3) (x4 : Int32) (e4 : xs (Int32.toNatClampNeg 4) = x4)  (H : Heap) (locs : List Loc) (hP : va_P D vwCl [(x, .inr (6, [.ref t, .ref n, .ref sp, .int 0])), (t, .inr (4, [.ref t_kinds, .int 0, .long 0, .long 0, .ref t_codes, .ref t_targets, .ref t_settings, .ref t_sources, .ref t_accessCounts, .int 0, .ref t_acts, .ref t_actVariables, .ref t_actPlaces])), (n, .inr (1, [.ref ns, .ref nw, .ref nn])), (ns, .inr (3, [.ref s_nexts, .ref s_jumps, .ref s_uses, .ref s_sets, .ref s_changes, .ref s_toUnmade, .ref s_toMade, .ref s_toGone, .int 0, .int 0, .int 0])), (nw, .inr (5, [.long 0, .ref w_unmade, .ref w_made, .ref w_gone, .ref w_held, .ref w_awaiting, .ref w_living, .ref w_heldBehind, .ref w_asked])), (nn, .inr (2, [.ref d_slots, .ref d_codes, .ref d_reasons, .int 0])), (mo, .inr (12, [.int 0, .ref vl, .ref sl])), (sl, .inr (0, [.int 0, .ref ae, .int 0])), (o, .inl (cJ, 1, .inr (.inl (fun _ => 0))))] H) (hD : va_D (fun q : Nat => s.heap.size ≤ q) [(x, .inr (6, [.ref t, .ref n, .ref sp, .int 0])), (t, .inr (4, [.ref t_kinds, .int 0, .long 0, .long 0, .ref t_codes, .ref t_targets, .ref t_settings, .ref t_sources, .ref t_accessCounts, .int 0, .ref t_acts, .ref t_actVariables, .ref t_actPlaces])), (n, .inr (1, [.ref ns, .ref nw, .ref nn])), (ns, .inr (3, [.ref s_nexts, .ref s_jumps, .ref s_uses, .ref s_sets, .ref s_changes, .ref s_toUnmade, .ref s_toMade, .ref s_toGone, .int 0, .int 0, .int 0])), (nw, .inr (5, [.long 0, .ref w_unmade, .ref w_made, .ref w_gone, .ref w_held, .ref w_awaiting, .ref w_living, .ref w_heldBehind, .ref w_asked])), (nn, .inr (2, [.ref d_slots, .ref d_codes, .ref d_reasons, .int 0])), (mo, .inr (12, [.int 0, .ref vl, .ref sl])), (sl, .inr (0, [.int 0, .ref ae, .int 0])), (o, .inl (cJ, 1, .inr (.inl (fun _ => 0))))]) (hS : va_S (fun q : Nat => s.heap.size ≤ q) s.heap H locs) (ls : Array Slot) (hl : lv_has ls 9 [(0, .ref b), (1, .ref x), (2, .ref mo), (3, .ref o), (4, .int 0)]) : W p l e room_1 s m #[Value.ref b] below meth c H locs 61 3597 (lw_Z below #[Value.ref b] s) (F0 m 1577 ls []) := by
  obtain ⟨hx, hb, hr, hml, hown, hts0, hX, hbl, hlocks, hgv⟩ := id C0
  have hts := law_hts hts0
  have hA : ∀ q : Nat, s.heap.size ≤ q → (fun q : Nat => s.heap.size ≤ q) q := fun _ h => h
  have hbA : ¬ (fun q : Nat => s.heap.size ≤ q) b := Nat.not_le.mpr hbl
  generalize hAe : (fun q : Nat => s.heap.size ≤ q) = A at hD hG hS hA hbA
  refine lv_aload_n hx hb dL_law_1577 rfl (lv_at hl 1 rfl) ?_
  refine kc_i (wr := [(mo, .inr (12, [.int 0, .ref vl, .ref sl])), (sl, .inr (0, [.int 0, .ref ae, .int 0])), (o, .inl (cJ, 1, .inr (.inl (fun _ => 0))))]) (va_runV (As := []) (rest := []) ⟨hx, hb, hml, hown, hts⟩ (k_faults l hfl ae D cI cJ cS cO x t n sp t_kinds 0 0 0 t_codes t_targets t_settings t_sources t_accessCounts t_acts t_actVariables t_actPlaces ns nw nn s_nexts s_jumps s_uses s_sets s_changes s_toUnmade s_toMade s_toGone 0 0 0 0 w_unmade w_made w_gone w_held w_awaiting w_living w_heldBehind w_asked d_slots d_codes d_reasons 0 _) (cwV 0 hts (gV q_537 q_534 q_535 q_536 q_98) rfl rfl rfl (by decide +kernel) ⟨Nat.le_of_ble_eq_true rfl, Nat.le_of_ble_eq_true rfl⟩) ⟨Pw.blind, va_recv hK hP (ci := 6) (q0 := 0) rfl rfl, Pw.mk_call hP hK hD hS hA hG [0, 1, 2, 3, 4, 5] rfl (by decide)⟩ rfl rfl hl.1 rfl (lv_room (Nat.le_of_ble_eq_true rfl)) dL_law_1578 ⟨Nat.le_of_ble_eq_true rfl, Nat.le_of_ble_eq_true rfl⟩) hP hD hS hA [0, 1, 2, 3, 4, 5] [6, 7, 8] rfl rfl (by decide) (by decide) (fun r_1 u_2 H locs hw hP hD hS => ?_)
  obtain rfl : r_1 = 0 := hw
  have hP : va_P D vwCl [(mo, .inr (12, [.int 0, .ref vl, .ref sl])), (sl, .inr (0, [.int 0, .ref ae, .int 0])), (o, .inl (cJ, 1, .inr (.inl (fun _ => 0)))), (x, .inr (6, [.ref t, .ref n, .ref sp, .int 1])), (t, .inr (4, [.ref t_kinds, .int 0, .long 0, .long 0, .ref t_codes, .ref t_targets, .ref t_settings, .ref t_sources, .ref t_accessCounts, .int 0, .ref t_acts, .ref t_actVariables, .ref t_actPlaces])), (n, .inr (1, [.ref ns, .ref nw, .ref nn])), (ns, .inr (3, [.ref s_nexts, .ref s_jumps, .ref s_uses, .ref s_sets, .ref s_changes, .ref s_toUnmade, .ref s_toMade, .ref s_toGone, .int 0, .int (-1), .int (-1)])), (nw, .inr (5, [.long 0, .ref w_unmade, .ref w_made, .ref w_gone, .ref w_held, .ref w_awaiting, .ref w_living, .ref w_heldBehind, .ref w_asked])), (nn, .inr (2, [.ref d_slots, .ref d_codes, .ref d_reasons, .int 0]))] H := hP
  have hD : va_D A [(mo, .inr (12, [.int 0, .ref vl, .ref sl])), (sl, .inr (0, [.int 0, .ref ae, .int 0])), (o, .inl (cJ, 1, .inr (.inl (fun _ => 0)))), (x, .inr (6, [.ref t, .ref n, .ref sp, .int 1])), (t, .inr (4, [.ref t_kinds, .int 0, .long 0, .long 0, .ref t_codes, .ref t_targets, .ref t_settings, .ref t_sources, .ref t_accessCounts, .int 0, .ref t_acts, .ref t_actVariables, .ref t_actPlaces])), (n, .inr (1, [.ref ns, .ref nw, .ref nn])), (ns, .inr (3, [.ref s_nexts, .ref s_jumps, .ref s_uses, .ref s_sets, .ref s_changes, .ref s_toUnmade, .ref s_toMade, .ref s_toGone, .int 0, .int (-1), .int (-1)])), (nw, .inr (5, [.long 0, .ref w_unmade, .ref w_made, .ref w_gone, .ref w_held, .ref w_awaiting, .ref w_living, .ref w_heldBehind, .ref w_asked])), (nn, .inr (2, [.ref d_slots, .ref d_codes, .ref d_reasons, .int 0]))] := hD
  refine lv_aload_n hx hb dL_law_1581 rfl (lv_at hl 2 rfl) ?_
  refine kc_i (wr := [(o, .inl (cJ, 1, .inr (.inl (fun _ => 0)))), (x, .inr (6, [.ref t, .ref n, .ref sp, .int 1])), (t, .inr (4, [.ref t_kinds, .int 0, .long 0, .long 0, .ref t_codes, .ref t_targets, .ref t_settings, .ref t_sources, .ref t_accessCounts, .int 0, .ref t_acts, .ref t_actVariables, .ref t_actPlaces])), (n, .inr (1, [.ref ns, .ref nw, .ref nn])), (ns, .inr (3, [.ref s_nexts, .ref s_jumps, .ref s_uses, .ref s_sets, .ref s_changes, .ref s_toUnmade, .ref s_toMade, .ref s_toGone, .int 0, .int (-1), .int (-1)])), (nw, .inr (5, [.long 0, .ref w_unmade, .ref w_made, .ref w_gone, .ref w_held, .ref w_awaiting, .ref w_living, .ref w_heldBehind, .ref w_asked])), (nn, .inr (2, [.ref d_slots, .ref d_codes, .ref d_reasons, .int 0]))]) (va_runV (As := []) (rest := [.int 0]) ⟨hx, hb, hml, hown, hts⟩ (m_faults l hfl ae D cI cJ cS cO mo vl sl _) (cwV 0 hts (gV q_1549 q_1546 q_1547 q_1548 q_104) rfl rfl rfl (by decide +kernel) ⟨Nat.le_of_ble_eq_true rfl, Nat.le_of_ble_eq_true rfl⟩) ⟨Pw.blind, va_recv hK hP (ci := 12) (q0 := 0) rfl rfl, Pw.mk_call hP hK hD hS hA hG [0, 1] rfl (by decide)⟩ rfl rfl hl.1 rfl (lv_room (Nat.le_of_ble_eq_true rfl)) dL_law_1582 ⟨Nat.le_of_ble_eq_true rfl, Nat.le_of_ble_eq_true rfl⟩) hP hD hS hA [0, 1] [2, 3, 4, 5, 6, 7, 8] rfl rfl (by decide) (by decide) (fun r_3 u_4 H locs hw hP hD hS => ?_)
  obtain rfl : r_3 = 0 := hw
  have hP : va_P D vwCl [(o, .inl (cJ, 1, .inr (.inl (fun _ => 0)))), (x, .inr (6, [.ref t, .ref n, .ref sp, .int 1])), (t, .inr (4, [.ref t_kinds, .int 0, .long 0, .long 0, .ref t_codes, .ref t_targets, .ref t_settings, .ref t_sources, .ref t_accessCounts, .int 0, .ref t_acts, .ref t_actVariables, .ref t_actPlaces])), (n, .inr (1, [.ref ns, .ref nw, .ref nn])), (ns, .inr (3, [.ref s_nexts, .ref s_jumps, .ref s_uses, .ref s_sets, .ref s_changes, .ref s_toUnmade, .ref s_toMade, .ref s_toGone, .int 0, .int (-1), .int (-1)])), (nw, .inr (5, [.long 0, .ref w_unmade, .ref w_made, .ref w_gone, .ref w_held, .ref w_awaiting, .ref w_living, .ref w_heldBehind, .ref w_asked])), (nn, .inr (2, [.ref d_slots, .ref d_codes, .ref d_reasons, .int 0])), (mo, .inr (12, [.int 0, .ref vl, .ref sl])), (sl, .inr (0, [.int 0, .ref ae, .int 0]))] H := hP
  have hD : va_D A [(o, .inl (cJ, 1, .inr (.inl (fun _ => 0)))), (x, .inr (6, [.ref t, .ref n, .ref sp, .int 1])), (t, .inr (4, [.ref t_kinds, .int 0, .long 0, .long 0, .ref t_codes, .ref t_targets, .ref t_settings, .ref t_sources, .ref t_accessCounts, .int 0, .ref t_acts, .ref t_actVariables, .ref t_actPlaces])), (n, .inr (1, [.ref ns, .ref nw, .ref nn])), (ns, .inr (3, [.ref s_nexts, .ref s_jumps, .ref s_uses, .ref s_sets, .ref s_changes, .ref s_toUnmade, .ref s_toMade, .ref s_toGone, .int 0, .int (-1), .int (-1)])), (nw, .inr (5, [.long 0, .ref w_unmade, .ref w_made, .ref w_gone, .ref w_held, .ref w_awaiting, .ref w_living, .ref w_heldBehind, .ref w_asked])), (nn, .inr (2, [.ref d_slots, .ref d_codes, .ref d_reasons, .int 0])), (mo, .inr (12, [.int 0, .ref vl, .ref sl])), (sl, .inr (0, [.int 0, .ref ae, .int 0]))] := hD
  refine lv_icmp_eq (tgt := 1950) hx hb dL_law_1585 (by decide) (fun c_1585 => ?_) (fun c_1585 => absurd (by decide) c_1585)
  refine lv_iinc (v := 5) (lv' := [(4, .int 5), (0, .ref b), (1, .ref x), (2, .ref mo), (3, .ref o)]) hx hb dL_law_1950 hl (k := 4) rfl (by decide) (by decide) rfl (fun ls hl => ?_)
  refine lv_goto (tgt := 23) hx hb dL_law_1953 (by decide) ?_
  refine lv_iload hx hb dL_law_23 (lv_at hl 0 rfl) ?_
  refine lv_aload_n hx hb dL_law_25 rfl (lv_at hl 1 rfl) ?_
  refine va_slen hx hb hX hbl hbA hS dL_law_26 ?_
  refine lv_topi (fun y_5 ey_5 => ?_)
  obtain rfl : y_5 = 5 := ey_5.trans (by decide)
  refine lv_iconst (v := 5) hx hb dL_law_27 (by decide) ?_
  refine lv_isub hx hb dL_law_28 ?_
  refine lv_topi (fun x_6 ex_6 => ?_)
  obtain rfl : x_6 = 0 := ex_6.trans (by decide)
  refine lv_icmp_gt (tgt := 1956) hx hb dL_law_29 (by decide) (fun c_29 => ?_) (fun c_29 => absurd (by decide) c_29)
  refine lv_iconst (v := 1) hx hb dL_law_1956 (by decide) ?_
  refine va_forget (fun q hq => by have h9 := hS.2.2 q hq; rw [← hAe] at h9; exact h9) ?_
  refine W.widen (k := 600002) (n := 7302232) (Nat.le_of_ble_eq_true rfl) (Nat.le_of_ble_eq_true rfl) ?_
  refine W.base ?_
  exact lw_ret (Drawn.sameBut.refl s.drawn lw_cs) hx hb hr hlocks dL_law_1957

set_option maxHeartbeats 4000000 in
set_option maxRecDepth 100000 in
theorem lc_24 {p : Program} {l : Launch} {e : Env} {s : State} {m : MethodId} {below : List Frame} {meth : Method} {c : Code} {b : Nat} {xs : Nat → Int32} (hfl : l.stackTraces = false) {ae : Nat} {D : va_G} {cI cJ cS cO : ClassId} (C0 : lw_At p s m meth c b 5 xs) (hK : va_K D vwCl [(cI, .int), (cJ, .long), (cS, .object "IronwoodModel$State"), (cO, .object "java/lang/Object")] s) (hG : Gl ae (fun q : Nat => s.heap.size ≤ q) s s.heap) (x : Nat) (t : Nat) (n : Nat) (sp : Nat) (t_kinds : Nat) (t_codes : Nat) (t_targets : Nat) (t_settings : Nat) (t_sources : Nat) (t_accessCounts : Nat) (t_acts : Nat) (t_actVariables : Nat) (t_actPlaces : Nat) (ns : Nat) (nw : Nat) (nn : Nat) (s_nexts : Nat) (s_jumps : Nat) (s_uses : Nat) (s_sets : Nat) (s_changes : Nat) (s_toUnmade : Nat) (s_toMade : Nat) (s_toGone : Nat) (w_unmade : Nat) (w_made : Nat) (w_gone : Nat) (w_held : Nat) (w_awaiting : Nat) (w_living : Nat) (w_heldBehind : Nat) (w_asked : Nat) (d_slots : Nat) (d_codes : Nat) (d_reasons : Nat) (mo : Nat) (vl : Nat) (sl : Nat) (o : Nat) (x1 : Int32) (e1 : xs (Int32.toNatClampNeg 1) = x1) (x2 : Int32) (e2 : xs (Int32.toNatClampNeg 2) = x2) (x3 : Int32) (e3 : xs (Int32.toNatClampNeg 3) = x3) (x4 : Int32) (e4 : xs (Int32.toNatClampNeg 4) = x4)  (H : Heap) (locs : List Loc) (hP : va_P D vwCl [(x, .inr (6, [.ref t, .ref n, .ref sp, .int 0])), (t, .inr (4, [.ref t_kinds, .int 0, .long 0, .long 0, .ref t_codes, .ref t_targets, .ref t_settings, .ref t_sources, .ref t_accessCounts, .int 0, .ref t_acts, .ref t_actVariables, .ref t_actPlaces])), (n, .inr (1, [.ref ns, .ref nw, .ref nn])), (ns, .inr (3, [.ref s_nexts, .ref s_jumps, .ref s_uses, .ref s_sets, .ref s_changes, .ref s_toUnmade, .ref s_toMade, .ref s_toGone, .int 0, .int 0, .int 0])), (nw, .inr (5, [.long 0, .ref w_unmade, .ref w_made, .ref w_gone, .ref w_held, .ref w_awaiting, .ref w_living, .ref w_heldBehind, .ref w_asked])), (nn, .inr (2, [.ref d_slots, .ref d_codes, .ref d_reasons, .int 0])), (mo, .inr (12, [.int 0, .ref vl, .ref sl])), (sl, .inr (0, [.int 0, .ref ae, .int 0])), (o, .inl (cJ, 1, .inr (.inl (fun _ => 0))))] H) (hD : va_D (fun q : Nat => s.heap.size ≤ q) [(x, .inr (6, [.ref t, .ref n, .ref sp, .int 0])), (t, .inr (4, [.ref t_kinds, .int 0, .long 0, .long 0, .ref t_codes, .ref t_targets, .ref t_settings, .ref t_sources, .ref t_accessCounts, .int 0, .ref t_acts, .ref t_actVariables, .ref t_actPlaces])), (n, .inr (1, [.ref ns, .ref nw, .ref nn])), (ns, .inr (3, [.ref s_nexts, .ref s_jumps, .ref s_uses, .ref s_sets, .ref s_changes, .ref s_toUnmade, .ref s_toMade, .ref s_toGone, .int 0, .int 0, .int 0])), (nw, .inr (5, [.long 0, .ref w_unmade, .ref w_made, .ref w_gone, .ref w_held, .ref w_awaiting, .ref w_living, .ref w_heldBehind, .ref w_asked])), (nn, .inr (2, [.ref d_slots, .ref d_codes, .ref d_reasons, .int 0])), (mo, .inr (12, [.int 0, .ref vl, .ref sl])), (sl, .inr (0, [.int 0, .ref ae, .int 0])), (o, .inl (cJ, 1, .inr (.inl (fun _ => 0))))]) (hS : va_S (fun q : Nat => s.heap.size ≤ q) s.heap H locs) (ls : Array Slot) (hl : lv_has ls 9 [(0, .ref b), (1, .ref x), (2, .ref mo), (3, .ref o), (4, .int 0)]) : W p l e room_1 s m #[Value.ref b] below meth c H locs 61 3597 (lw_Z below #[Value.ref b] s) (F0 m 1590 ls []) := by
  obtain ⟨hx, hb, hr, hml, hown, hts0, hX, hbl, hlocks, hgv⟩ := id C0
  have hts := law_hts hts0
  have hA : ∀ q : Nat, s.heap.size ≤ q → (fun q : Nat => s.heap.size ≤ q) q := fun _ h => h
  have hbA : ¬ (fun q : Nat => s.heap.size ≤ q) b := Nat.not_le.mpr hbl
  generalize hAe : (fun q : Nat => s.heap.size ≤ q) = A at hD hG hS hA hbA
  refine lv_aload_n hx hb dL_law_1590 rfl (lv_at hl 1 rfl) ?_
  refine lv_aload_n hx hb dL_law_1591 rfl (lv_at hl 0 rfl) ?_
  refine lv_iload hx hb dL_law_1592 (lv_at hl 4 rfl) ?_
  refine lv_iconst (v := 1) hx hb dL_law_1594 (by decide) ?_
  refine lv_iadd hx hb dL_law_1595 ?_
  refine lv_topi (fun x_1 ex_1 => ?_)
  obtain rfl : x_1 = 1 := ex_1.trans (by decide)
  refine va_sld hx hb hX hbl hbA hS (vp_in_iff.mpr (by decide)) dL_law_1596 ?_
  refine lv_topi (fun y_2 ey_2 => ?_)
  rw [show y_2 = x1 from ey_2.trans e1]
  refine lv_aload_n hx hb dL_law_1597 rfl (lv_at hl 0 rfl) ?_
  refine lv_iload hx hb dL_law_1598 (lv_at hl 4 rfl) ?_
  refine lv_iconst (v := 2) hx hb dL_law_1600 (by decide) ?_
  refine lv_iadd hx hb dL_law_1601 ?_
  refine lv_topi (fun x_3 ex_3 => ?_)
  obtain rfl : x_3 = 2 := ex_3.trans (by decide)
  refine va_sld hx hb hX hbl hbA hS (vp_in_iff.mpr (by decide)) dL_law_1602 ?_
  refine lv_topi (fun y_4 ey_4 => ?_)
  rw [show y_4 = x2 from ey_4.trans e2]
  refine lv_aload_n hx hb dL_law_1603 rfl (lv_at hl 3 rfl) ?_
  refine kc_i (wr := [(mo, .inr (12, [.int 0, .ref vl, .ref sl])), (sl, .inr (0, [.int 0, .ref ae, .int 0]))]) (vx_runSW (As := [.ref x, .int x1, .int x2, .ref o]) (rest := []) ⟨hx, hb, hml, hown, hts⟩ (w_ofFault_x l hfl ae D cI cJ cS cO x t n sp t_kinds 0 0 0 t_codes t_targets t_settings t_sources t_accessCounts t_acts t_actVariables t_actPlaces ns nw nn s_nexts s_jumps s_uses s_sets s_changes s_toUnmade s_toMade s_toGone 0 0 0 0 w_unmade w_made w_gone w_held w_awaiting w_living w_heldBehind w_asked d_slots d_codes d_reasons 0 x1 x2 o (fun _ => 0) _) (vx_cwSW 4 hts (gT q_930 q_928 q_929 q_97) rfl rfl rfl (by decide +kernel) ⟨Nat.le_of_ble_eq_true rfl, Nat.le_of_ble_eq_true rfl⟩) ⟨Pw.blind, Pw.mk_call hP hK hD hS hA hG [0, 1, 2, 3, 4, 5, 8] rfl (by decide)⟩ rfl rfl hl.1 rfl (lv_room (Nat.le_of_ble_eq_true rfl)) dL_law_1604 ⟨Nat.le_of_ble_eq_true rfl, Nat.le_of_ble_eq_true rfl⟩) hP hD hS hA [0, 1, 2, 3, 4, 5, 8] [6, 7] rfl rfl (by decide) (by decide) (fun r_5 u_6 H locs hw hP hD hS => ?_)
  obtain rfl : r_5 = 1 := hw
  have hP : va_P D vwCl [(mo, .inr (12, [.int 0, .ref vl, .ref sl])), (sl, .inr (0, [.int 0, .ref ae, .int 0])), (x, .inr (6, [.ref t, .ref n, .ref sp, .int 1])), (t, .inr (4, [.ref t_kinds, .int 0, .long 0, .long 0, .ref t_codes, .ref t_targets, .ref t_settings, .ref t_sources, .ref t_accessCounts, .int 0, .ref t_acts, .ref t_actVariables, .ref t_actPlaces])), (n, .inr (1, [.ref ns, .ref nw, .ref nn])), (ns, .inr (3, [.ref s_nexts, .ref s_jumps, .ref s_uses, .ref s_sets, .ref s_changes, .ref s_toUnmade, .ref s_toMade, .ref s_toGone, .int 0, .int (-1), .int (-1)])), (nw, .inr (5, [.long 0, .ref w_unmade, .ref w_made, .ref w_gone, .ref w_held, .ref w_awaiting, .ref w_living, .ref w_heldBehind, .ref w_asked])), (nn, .inr (2, [.ref d_slots, .ref d_codes, .ref d_reasons, .int 0])), (o, .inl (cJ, 1, .inr (.inl (fun _ => 0))))] H := hP
  have hD : va_D A [(mo, .inr (12, [.int 0, .ref vl, .ref sl])), (sl, .inr (0, [.int 0, .ref ae, .int 0])), (x, .inr (6, [.ref t, .ref n, .ref sp, .int 1])), (t, .inr (4, [.ref t_kinds, .int 0, .long 0, .long 0, .ref t_codes, .ref t_targets, .ref t_settings, .ref t_sources, .ref t_accessCounts, .int 0, .ref t_acts, .ref t_actVariables, .ref t_actPlaces])), (n, .inr (1, [.ref ns, .ref nw, .ref nn])), (ns, .inr (3, [.ref s_nexts, .ref s_jumps, .ref s_uses, .ref s_sets, .ref s_changes, .ref s_toUnmade, .ref s_toMade, .ref s_toGone, .int 0, .int (-1), .int (-1)])), (nw, .inr (5, [.long 0, .ref w_unmade, .ref w_made, .ref w_gone, .ref w_held, .ref w_awaiting, .ref w_living, .ref w_heldBehind, .ref w_asked])), (nn, .inr (2, [.ref d_slots, .ref d_codes, .ref d_reasons, .int 0])), (o, .inl (cJ, 1, .inr (.inl (fun _ => 0))))] := hD
  refine lv_istore (lv' := [(5, .int 1), (0, .ref b), (1, .ref x), (2, .ref mo), (3, .ref o), (4, .int 0)]) hx hb dL_law_1607 hl (by decide) rfl (fun ls hl => ?_)
  refine lv_aload_n hx hb dL_law_1609 rfl (lv_at hl 3 rfl) ?_
  refine lv_aload_n hx hb dL_law_1610 rfl (lv_at hl 1 rfl) ?_
  refine lv_iload hx hb dL_law_1611 (lv_at hl 5 rfl) ?_
  refine lv_iconst (v := 1) hx hb dL_law_1613 (by decide) ?_
  refine lv_iadd hx hb dL_law_1614 ?_
  refine lv_topi (fun x_7 ex_7 => ?_)
  obtain rfl : x_7 = 1 := ex_7.trans (by decide)
  refine va_sld hx hb hX hbl hbA hS (vp_in_iff.mpr (by decide)) dL_law_1615 ?_
  refine lv_topi (fun y_8 ey_8 => ?_)
  rw [show y_8 = x1 from ey_8.trans e1]
  refine lv_aload_n hx hb dL_law_1616 rfl (lv_at hl 1 rfl) ?_
  refine lv_iload hx hb dL_law_1617 (lv_at hl 5 rfl) ?_
  refine lv_iconst (v := 2) hx hb dL_law_1619 (by decide) ?_
  refine lv_iadd hx hb dL_law_1620 ?_
  refine lv_topi (fun x_9 ex_9 => ?_)
  obtain rfl : x_9 = 2 := ex_9.trans (by decide)
  refine va_sld hx hb hX hbl hbA hS (vp_in_iff.mpr (by decide)) dL_law_1621 ?_
  refine lv_topi (fun y_10 ey_10 => ?_)
  rw [show y_10 = x2 from ey_10.trans e2]
  refine kc_i (wr := [(x, .inr (6, [.ref t, .ref n, .ref sp, .int 1])), (t, .inr (4, [.ref t_kinds, .int 0, .long 0, .long 0, .ref t_codes, .ref t_targets, .ref t_settings, .ref t_sources, .ref t_accessCounts, .int 0, .ref t_acts, .ref t_actVariables, .ref t_actPlaces])), (n, .inr (1, [.ref ns, .ref nw, .ref nn])), (ns, .inr (3, [.ref s_nexts, .ref s_jumps, .ref s_uses, .ref s_sets, .ref s_changes, .ref s_toUnmade, .ref s_toMade, .ref s_toGone, .int 0, .int (-1), .int (-1)])), (nw, .inr (5, [.long 0, .ref w_unmade, .ref w_made, .ref w_gone, .ref w_held, .ref w_awaiting, .ref w_living, .ref w_heldBehind, .ref w_asked])), (nn, .inr (2, [.ref d_slots, .ref d_codes, .ref d_reasons, .int 0])), (o, .inl (cJ, 1, .inr (.inl (fun _ => 0))))]) (va_runV (As := [.int x1, .int x2]) (rest := []) ⟨hx, hb, hml, hown, hts⟩ (m_ofFault_x l hfl ae D cI cJ cS cO mo vl sl x1 x2 _) (cwV 2 hts (gV q_1553 q_1550 q_1551 q_1552 q_104) rfl rfl rfl (by decide +kernel) ⟨Nat.le_of_ble_eq_true rfl, Nat.le_of_ble_eq_true rfl⟩) ⟨Pw.blind, va_recv hK hP (ci := 12) (q0 := 0) rfl rfl, Pw.mk_call hP hK hD hS hA hG [0, 1] rfl (by decide)⟩ rfl rfl hl.1 rfl (lv_room (Nat.le_of_ble_eq_true rfl)) dL_law_1622 ⟨Nat.le_of_ble_eq_true rfl, Nat.le_of_ble_eq_true rfl⟩) hP hD hS hA [0, 1] [2, 3, 4, 5, 6, 7, 8] rfl rfl (by decide) (by decide) (fun r_11 u_12 H locs hw hP hD hS => ?_)
  obtain rfl : r_11 = 0 := hw
  have hP : va_P D vwCl [(x, .inr (6, [.ref t, .ref n, .ref sp, .int 1])), (t, .inr (4, [.ref t_kinds, .int 0, .long 0, .long 0, .ref t_codes, .ref t_targets, .ref t_settings, .ref t_sources, .ref t_accessCounts, .int 0, .ref t_acts, .ref t_actVariables, .ref t_actPlaces])), (n, .inr (1, [.ref ns, .ref nw, .ref nn])), (ns, .inr (3, [.ref s_nexts, .ref s_jumps, .ref s_uses, .ref s_sets, .ref s_changes, .ref s_toUnmade, .ref s_toMade, .ref s_toGone, .int 0, .int (-1), .int (-1)])), (nw, .inr (5, [.long 0, .ref w_unmade, .ref w_made, .ref w_gone, .ref w_held, .ref w_awaiting, .ref w_living, .ref w_heldBehind, .ref w_asked])), (nn, .inr (2, [.ref d_slots, .ref d_codes, .ref d_reasons, .int 0])), (o, .inl (cJ, 1, .inr (.inl (fun _ => 0)))), (mo, .inr (12, [.int 1, .ref vl, .ref sl])), (sl, .inr (0, [.int 0, .ref ae, .int 0]))] H := hP
  have hD : va_D A [(x, .inr (6, [.ref t, .ref n, .ref sp, .int 1])), (t, .inr (4, [.ref t_kinds, .int 0, .long 0, .long 0, .ref t_codes, .ref t_targets, .ref t_settings, .ref t_sources, .ref t_accessCounts, .int 0, .ref t_acts, .ref t_actVariables, .ref t_actPlaces])), (n, .inr (1, [.ref ns, .ref nw, .ref nn])), (ns, .inr (3, [.ref s_nexts, .ref s_jumps, .ref s_uses, .ref s_sets, .ref s_changes, .ref s_toUnmade, .ref s_toMade, .ref s_toGone, .int 0, .int (-1), .int (-1)])), (nw, .inr (5, [.long 0, .ref w_unmade, .ref w_made, .ref w_gone, .ref w_held, .ref w_awaiting, .ref w_living, .ref w_heldBehind, .ref w_asked])), (nn, .inr (2, [.ref d_slots, .ref d_codes, .ref d_reasons, .int 0])), (o, .inl (cJ, 1, .inr (.inl (fun _ => 0)))), (mo, .inr (12, [.int 1, .ref vl, .ref sl])), (sl, .inr (0, [.int 0, .ref ae, .int 0]))] := hD
  refine lv_istore (lv' := [(6, .int 0), (5, .int 1), (0, .ref b), (1, .ref x), (2, .ref mo), (3, .ref o), (4, .int 0)]) hx hb dL_law_1625 hl (by decide) rfl (fun ls hl => ?_)
  refine lv_aload_n hx hb dL_law_1627 rfl (lv_at hl 4 rfl) ?_
  refine kc_i (wr := [(x, .inr (6, [.ref t, .ref n, .ref sp, .int 1])), (t, .inr (4, [.ref t_kinds, .int 0, .long 0, .long 0, .ref t_codes, .ref t_targets, .ref t_settings, .ref t_sources, .ref t_accessCounts, .int 0, .ref t_acts, .ref t_actVariables, .ref t_actPlaces])), (n, .inr (1, [.ref ns, .ref nw, .ref nn])), (ns, .inr (3, [.ref s_nexts, .ref s_jumps, .ref s_uses, .ref s_sets, .ref s_changes, .ref s_toUnmade, .ref s_toMade, .ref s_toGone, .int 0, .int (-1), .int (-1)])), (nw, .inr (5, [.long 0, .ref w_unmade, .ref w_made, .ref w_gone, .ref w_held, .ref w_awaiting, .ref w_living, .ref w_heldBehind, .ref w_asked])), (nn, .inr (2, [.ref d_slots, .ref d_codes, .ref d_reasons, .int 0])), (o, .inl (cJ, 1, .inr (.inl (fun _ => 0)))), (sl, .inr (0, [.int 0, .ref ae, .int 0]))]) (va_runV (As := []) (rest := []) ⟨hx, hb, hml, hown, hts⟩ (m_thrown l hfl ae D cI cJ cS cO mo vl sl 1 _) (cwV 0 hts (gV q_1017 q_1014 q_1015 q_1016 q_104) rfl rfl rfl (by decide +kernel) ⟨Nat.le_of_ble_eq_true rfl, Nat.le_of_ble_eq_true rfl⟩) ⟨Pw.blind, va_recv hK hP (ci := 12) (q0 := 7) rfl rfl, Pw.mk_call hP hK hD hS hA hG [7] rfl (by decide)⟩ rfl rfl hl.1 rfl (lv_room (Nat.le_of_ble_eq_true rfl)) dL_law_1628 ⟨Nat.le_of_ble_eq_true rfl, Nat.le_of_ble_eq_true rfl⟩) hP hD hS hA [7] [0, 1, 2, 3, 4, 5, 6, 8] rfl rfl (by decide) (by decide) (fun r_13 u_14 H locs hw hP hD hS => ?_)
  obtain rfl : r_13 = 1 := hw
  have hP : va_P D vwCl [(x, .inr (6, [.ref t, .ref n, .ref sp, .int 1])), (t, .inr (4, [.ref t_kinds, .int 0, .long 0, .long 0, .ref t_codes, .ref t_targets, .ref t_settings, .ref t_sources, .ref t_accessCounts, .int 0, .ref t_acts, .ref t_actVariables, .ref t_actPlaces])), (n, .inr (1, [.ref ns, .ref nw, .ref nn])), (ns, .inr (3, [.ref s_nexts, .ref s_jumps, .ref s_uses, .ref s_sets, .ref s_changes, .ref s_toUnmade, .ref s_toMade, .ref s_toGone, .int 0, .int (-1), .int (-1)])), (nw, .inr (5, [.long 0, .ref w_unmade, .ref w_made, .ref w_gone, .ref w_held, .ref w_awaiting, .ref w_living, .ref w_heldBehind, .ref w_asked])), (nn, .inr (2, [.ref d_slots, .ref d_codes, .ref d_reasons, .int 0])), (o, .inl (cJ, 1, .inr (.inl (fun _ => 0)))), (sl, .inr (0, [.int 0, .ref ae, .int 0])), (mo, .inr (12, [.int 1, .ref vl, .ref sl]))] H := hP
  have hD : va_D A [(x, .inr (6, [.ref t, .ref n, .ref sp, .int 1])), (t, .inr (4, [.ref t_kinds, .int 0, .long 0, .long 0, .ref t_codes, .ref t_targets, .ref t_settings, .ref t_sources, .ref t_accessCounts, .int 0, .ref t_acts, .ref t_actVariables, .ref t_actPlaces])), (n, .inr (1, [.ref ns, .ref nw, .ref nn])), (ns, .inr (3, [.ref s_nexts, .ref s_jumps, .ref s_uses, .ref s_sets, .ref s_changes, .ref s_toUnmade, .ref s_toMade, .ref s_toGone, .int 0, .int (-1), .int (-1)])), (nw, .inr (5, [.long 0, .ref w_unmade, .ref w_made, .ref w_gone, .ref w_held, .ref w_awaiting, .ref w_living, .ref w_heldBehind, .ref w_asked])), (nn, .inr (2, [.ref d_slots, .ref d_codes, .ref d_reasons, .int 0])), (o, .inl (cJ, 1, .inr (.inl (fun _ => 0)))), (sl, .inr (0, [.int 0, .ref ae, .int 0])), (mo, .inr (12, [.int 1, .ref vl, .ref sl]))] := hD
  refine lv_iload hx hb dL_law_1631 (lv_at hl 1 rfl) ?_
  refine lv_icmp_eq (tgt := 1638) hx hb dL_law_1633 (by decide) (fun c_1633 => ?_) (fun c_1633 => absurd (by decide) c_1633)
  refine lv_iload hx hb dL_law_1638 (lv_at hl 1 rfl) ?_
  refine lv_if_ne (tgt := 1655) hx hb dL_law_1640 (by decide) (fun c_1640 => ?_) (fun c_1640 => absurd c_1640 (by decide))
  refine lv_goto (tgt := 1950) hx hb dL_law_1655 (by decide) ?_
  refine lv_iinc (v := 5) (lv' := [(4, .int 5), (6, .int 0), (5, .int 1), (0, .ref b), (1, .ref x), (2, .ref mo), (3, .ref o)]) hx hb dL_law_1950 hl (k := 6) rfl (by decide) (by decide) rfl (fun ls hl => ?_)
  refine lv_goto (tgt := 23) hx hb dL_law_1953 (by decide) ?_
  refine lv_iload hx hb dL_law_23 (lv_at hl 0 rfl) ?_
  refine lv_aload_n hx hb dL_law_25 rfl (lv_at hl 3 rfl) ?_
  refine va_slen hx hb hX hbl hbA hS dL_law_26 ?_
  refine lv_topi (fun y_15 ey_15 => ?_)
  obtain rfl : y_15 = 5 := ey_15.trans (by decide)
  refine lv_iconst (v := 5) hx hb dL_law_27 (by decide) ?_
  refine lv_isub hx hb dL_law_28 ?_
  refine lv_topi (fun x_16 ex_16 => ?_)
  obtain rfl : x_16 = 0 := ex_16.trans (by decide)
  refine lv_icmp_gt (tgt := 1956) hx hb dL_law_29 (by decide) (fun c_29 => ?_) (fun c_29 => absurd (by decide) c_29)
  refine lv_iconst (v := 1) hx hb dL_law_1956 (by decide) ?_
  refine va_forget (fun q hq => by have h9 := hS.2.2 q hq; rw [← hAe] at h9; exact h9) ?_
  refine W.widen (k := 600002) (n := 7302232) (Nat.le_of_ble_eq_true rfl) (Nat.le_of_ble_eq_true rfl) ?_
  refine W.base ?_
  exact lw_ret (Drawn.sameBut.refl s.drawn lw_cs) hx hb hr hlocks dL_law_1957

set_option maxHeartbeats 4000000 in
set_option maxRecDepth 100000 in
theorem lc_25 {p : Program} {l : Launch} {e : Env} {s : State} {m : MethodId} {below : List Frame} {meth : Method} {c : Code} {b : Nat} {xs : Nat → Int32} (hfl : l.stackTraces = false) {ae : Nat} {D : va_G} {cI cJ cS cO : ClassId} (C0 : lw_At p s m meth c b 5 xs) (hK : va_K D vwCl [(cI, .int), (cJ, .long), (cS, .object "IronwoodModel$State"), (cO, .object "java/lang/Object")] s) (hG : Gl ae (fun q : Nat => s.heap.size ≤ q) s s.heap) (x : Nat) (t : Nat) (n : Nat) (sp : Nat) (t_kinds : Nat) (t_codes : Nat) (t_targets : Nat) (t_settings : Nat) (t_sources : Nat) (t_accessCounts : Nat) (t_acts : Nat) (t_actVariables : Nat) (t_actPlaces : Nat) (mo : Nat) (vl : Nat) (sl : Nat) (o : Nat) (x1 : Int32) (e1 : xs (Int32.toNatClampNeg 1) = x1) (x2 : Int32) (e2 : xs (Int32.toNatClampNeg 2) = x2) (x3 : Int32) (e3 : xs (Int32.toNatClampNeg 3) = x3) (x4 : Int32) (e4 : xs (Int32.toNatClampNeg 4) = x4)  (H : Heap) (locs : List Loc) (hP : va_P D vwCl [(x, .inr (6, [.ref t, .ref n, .ref sp, .int 0])), (t, .inr (4, [.ref t_kinds, .int 0, .long 0, .long 0, .ref t_codes, .ref t_targets, .ref t_settings, .ref t_sources, .ref t_accessCounts, .int 0, .ref t_acts, .ref t_actVariables, .ref t_actPlaces])), (mo, .inr (12, [.int 0, .ref vl, .ref sl])), (sl, .inr (0, [.int 0, .ref ae, .int 0])), (o, .inl (cJ, 1, .inr (.inl (fun _ => 0))))] H) (hD : va_D (fun q : Nat => s.heap.size ≤ q) [(x, .inr (6, [.ref t, .ref n, .ref sp, .int 0])), (t, .inr (4, [.ref t_kinds, .int 0, .long 0, .long 0, .ref t_codes, .ref t_targets, .ref t_settings, .ref t_sources, .ref t_accessCounts, .int 0, .ref t_acts, .ref t_actVariables, .ref t_actPlaces])), (mo, .inr (12, [.int 0, .ref vl, .ref sl])), (sl, .inr (0, [.int 0, .ref ae, .int 0])), (o, .inl (cJ, 1, .inr (.inl (fun _ => 0))))]) (hS : va_S (fun q : Nat => s.heap.size ≤ q) s.heap H locs) (ls : Array Slot) (hl : lv_has ls 9 [(0, .ref b), (1, .ref x), (2, .ref mo), (3, .ref o), (4, .int 0)]) : W p l e room_1 s m #[Value.ref b] below meth c H locs 61 3597 (lw_Z below #[Value.ref b] s) (F0 m 1658 ls []) := by
  obtain ⟨hx, hb, hr, hml, hown, hts0, hX, hbl, hlocks, hgv⟩ := id C0
  have hts := law_hts hts0
  have hA : ∀ q : Nat, s.heap.size ≤ q → (fun q : Nat => s.heap.size ≤ q) q := fun _ h => h
  have hbA : ¬ (fun q : Nat => s.heap.size ≤ q) b := Nat.not_le.mpr hbl
  generalize hAe : (fun q : Nat => s.heap.size ≤ q) = A at hD hG hS hA hbA
  refine lv_aload_n hx hb dL_law_1658 rfl (lv_at hl 1 rfl) ?_
  refine lv_aload_n hx hb dL_law_1659 rfl (lv_at hl 0 rfl) ?_
  refine lv_iload hx hb dL_law_1660 (lv_at hl 4 rfl) ?_
  refine lv_iconst (v := 1) hx hb dL_law_1662 (by decide) ?_
  refine lv_iadd hx hb dL_law_1663 ?_
  refine lv_topi (fun x_1 ex_1 => ?_)
  obtain rfl : x_1 = 1 := ex_1.trans (by decide)
  refine va_sld hx hb hX hbl hbA hS (vp_in_iff.mpr (by decide)) dL_law_1664 ?_
  refine lv_topi (fun y_2 ey_2 => ?_)
  rw [show y_2 = x1 from ey_2.trans e1]
  refine lv_aload_n hx hb dL_law_1665 rfl (lv_at hl 3 rfl) ?_
  refine kc_i (wr := [(mo, .inr (12, [.int 0, .ref vl, .ref sl])), (sl, .inr (0, [.int 0, .ref ae, .int 0]))]) (vx_runSW (As := [.ref x, .int x1, .ref o]) (rest := []) ⟨hx, hb, hml, hown, hts⟩ (w_faultsAt_x l hfl ae D cI cJ cS cO x t n sp 0 t_kinds 0 0 0 t_codes t_targets t_settings t_sources t_accessCounts t_acts t_actVariables t_actPlaces x1 o (fun _ => 0) _) (vx_cwSW 3 hts (gT q_939 q_937 q_938 q_97) rfl rfl rfl (by decide +kernel) ⟨Nat.le_of_ble_eq_true rfl, Nat.le_of_ble_eq_true rfl⟩) ⟨Pw.blind, Pw.mk_call hP hK hD hS hA hG [0, 1, 4] rfl (by decide)⟩ rfl rfl hl.1 rfl (lv_room (Nat.le_of_ble_eq_true rfl)) dL_law_1666 ⟨Nat.le_of_ble_eq_true rfl, Nat.le_of_ble_eq_true rfl⟩) hP hD hS hA [0, 1, 4] [2, 3] rfl rfl (by decide) (by decide) (fun r_3 u_4 H locs hw hP hD hS => ?_)
  obtain rfl : r_3 = 1 := hw
  have hP : va_P D vwCl [(mo, .inr (12, [.int 0, .ref vl, .ref sl])), (sl, .inr (0, [.int 0, .ref ae, .int 0])), (x, .inr (6, [.ref t, .ref n, .ref sp, .int 0])), (t, .inr (4, [.ref t_kinds, .int 0, .long 0, .long 0, .ref t_codes, .ref t_targets, .ref t_settings, .ref t_sources, .ref t_accessCounts, .int 0, .ref t_acts, .ref t_actVariables, .ref t_actPlaces])), (o, .inl (cJ, 1, .inr (.inl (fun _ => 0))))] H := hP
  have hD : va_D A [(mo, .inr (12, [.int 0, .ref vl, .ref sl])), (sl, .inr (0, [.int 0, .ref ae, .int 0])), (x, .inr (6, [.ref t, .ref n, .ref sp, .int 0])), (t, .inr (4, [.ref t_kinds, .int 0, .long 0, .long 0, .ref t_codes, .ref t_targets, .ref t_settings, .ref t_sources, .ref t_accessCounts, .int 0, .ref t_acts, .ref t_actVariables, .ref t_actPlaces])), (o, .inl (cJ, 1, .inr (.inl (fun _ => 0))))] := hD
  refine lv_istore (lv' := [(5, .int 1), (0, .ref b), (1, .ref x), (2, .ref mo), (3, .ref o), (4, .int 0)]) hx hb dL_law_1669 hl (by decide) rfl (fun ls hl => ?_)
  refine lv_aload_n hx hb dL_law_1671 rfl (lv_at hl 3 rfl) ?_
  refine lv_aload_n hx hb dL_law_1672 rfl (lv_at hl 1 rfl) ?_
  refine lv_iload hx hb dL_law_1673 (lv_at hl 5 rfl) ?_
  refine lv_iconst (v := 1) hx hb dL_law_1675 (by decide) ?_
  refine lv_iadd hx hb dL_law_1676 ?_
  refine lv_topi (fun x_5 ex_5 => ?_)
  obtain rfl : x_5 = 1 := ex_5.trans (by decide)
  refine va_sld hx hb hX hbl hbA hS (vp_in_iff.mpr (by decide)) dL_law_1677 ?_
  refine lv_topi (fun y_6 ey_6 => ?_)
  rw [show y_6 = x1 from ey_6.trans e1]
  refine kc_i (wr := [(x, .inr (6, [.ref t, .ref n, .ref sp, .int 0])), (t, .inr (4, [.ref t_kinds, .int 0, .long 0, .long 0, .ref t_codes, .ref t_targets, .ref t_settings, .ref t_sources, .ref t_accessCounts, .int 0, .ref t_acts, .ref t_actVariables, .ref t_actPlaces])), (o, .inl (cJ, 1, .inr (.inl (fun _ => 0))))]) (va_runV (As := [.int x1]) (rest := []) ⟨hx, hb, hml, hown, hts⟩ (m_faultsAt_x l hfl ae D cI cJ cS cO mo vl sl x1 _) (cwV 1 hts (gV q_1558 q_1555 q_1556 q_1557 q_104) rfl rfl rfl (by decide +kernel) ⟨Nat.le_of_ble_eq_true rfl, Nat.le_of_ble_eq_true rfl⟩) ⟨Pw.blind, va_recv hK hP (ci := 12) (q0 := 0) rfl rfl, Pw.mk_call hP hK hD hS hA hG [0, 1] rfl (by decide)⟩ rfl rfl hl.1 rfl (lv_room (Nat.le_of_ble_eq_true rfl)) dL_law_1678 ⟨Nat.le_of_ble_eq_true rfl, Nat.le_of_ble_eq_true rfl⟩) hP hD hS hA [0, 1] [2, 3, 4] rfl rfl (by decide) (by decide) (fun r_7 u_8 H locs hw hP hD hS => ?_)
  obtain rfl : r_7 = 0 := hw
  have hP : va_P D vwCl [(x, .inr (6, [.ref t, .ref n, .ref sp, .int 0])), (t, .inr (4, [.ref t_kinds, .int 0, .long 0, .long 0, .ref t_codes, .ref t_targets, .ref t_settings, .ref t_sources, .ref t_accessCounts, .int 0, .ref t_acts, .ref t_actVariables, .ref t_actPlaces])), (o, .inl (cJ, 1, .inr (.inl (fun _ => 0)))), (mo, .inr (12, [.int 1, .ref vl, .ref sl])), (sl, .inr (0, [.int 0, .ref ae, .int 0]))] H := hP
  have hD : va_D A [(x, .inr (6, [.ref t, .ref n, .ref sp, .int 0])), (t, .inr (4, [.ref t_kinds, .int 0, .long 0, .long 0, .ref t_codes, .ref t_targets, .ref t_settings, .ref t_sources, .ref t_accessCounts, .int 0, .ref t_acts, .ref t_actVariables, .ref t_actPlaces])), (o, .inl (cJ, 1, .inr (.inl (fun _ => 0)))), (mo, .inr (12, [.int 1, .ref vl, .ref sl])), (sl, .inr (0, [.int 0, .ref ae, .int 0]))] := hD
  refine lv_istore (lv' := [(6, .int 0), (5, .int 1), (0, .ref b), (1, .ref x), (2, .ref mo), (3, .ref o), (4, .int 0)]) hx hb dL_law_1681 hl (by decide) rfl (fun ls hl => ?_)
  refine lv_aload_n hx hb dL_law_1683 rfl (lv_at hl 4 rfl) ?_
  refine kc_i (wr := [(x, .inr (6, [.ref t, .ref n, .ref sp, .int 0])), (t, .inr (4, [.ref t_kinds, .int 0, .long 0, .long 0, .ref t_codes, .ref t_targets, .ref t_settings, .ref t_sources, .ref t_accessCounts, .int 0, .ref t_acts, .ref t_actVariables, .ref t_actPlaces])), (o, .inl (cJ, 1, .inr (.inl (fun _ => 0)))), (sl, .inr (0, [.int 0, .ref ae, .int 0]))]) (va_runV (As := []) (rest := []) ⟨hx, hb, hml, hown, hts⟩ (m_thrown l hfl ae D cI cJ cS cO mo vl sl 1 _) (cwV 0 hts (gV q_1017 q_1014 q_1015 q_1016 q_104) rfl rfl rfl (by decide +kernel) ⟨Nat.le_of_ble_eq_true rfl, Nat.le_of_ble_eq_true rfl⟩) ⟨Pw.blind, va_recv hK hP (ci := 12) (q0 := 3) rfl rfl, Pw.mk_call hP hK hD hS hA hG [3] rfl (by decide)⟩ rfl rfl hl.1 rfl (lv_room (Nat.le_of_ble_eq_true rfl)) dL_law_1684 ⟨Nat.le_of_ble_eq_true rfl, Nat.le_of_ble_eq_true rfl⟩) hP hD hS hA [3] [0, 1, 2, 4] rfl rfl (by decide) (by decide) (fun r_9 u_10 H locs hw hP hD hS => ?_)
  obtain rfl : r_9 = 1 := hw
  have hP : va_P D vwCl [(x, .inr (6, [.ref t, .ref n, .ref sp, .int 0])), (t, .inr (4, [.ref t_kinds, .int 0, .long 0, .long 0, .ref t_codes, .ref t_targets, .ref t_settings, .ref t_sources, .ref t_accessCounts, .int 0, .ref t_acts, .ref t_actVariables, .ref t_actPlaces])), (o, .inl (cJ, 1, .inr (.inl (fun _ => 0)))), (sl, .inr (0, [.int 0, .ref ae, .int 0])), (mo, .inr (12, [.int 1, .ref vl, .ref sl]))] H := hP
  have hD : va_D A [(x, .inr (6, [.ref t, .ref n, .ref sp, .int 0])), (t, .inr (4, [.ref t_kinds, .int 0, .long 0, .long 0, .ref t_codes, .ref t_targets, .ref t_settings, .ref t_sources, .ref t_accessCounts, .int 0, .ref t_acts, .ref t_actVariables, .ref t_actPlaces])), (o, .inl (cJ, 1, .inr (.inl (fun _ => 0)))), (sl, .inr (0, [.int 0, .ref ae, .int 0])), (mo, .inr (12, [.int 1, .ref vl, .ref sl]))] := hD
  refine lv_iload hx hb dL_law_1687 (lv_at hl 1 rfl) ?_
  refine lv_icmp_eq (tgt := 1694) hx hb dL_law_1689 (by decide) (fun c_1689 => ?_) (fun c_1689 => absurd (by decide) c_1689)
  refine lv_iload hx hb dL_law_1694 (lv_at hl 1 rfl) ?_
  refine lv_if_ne (tgt := 1711) hx hb dL_law_1696 (by decide) (fun c_1696 => ?_) (fun c_1696 => absurd c_1696 (by decide))
  refine lv_goto (tgt := 1950) hx hb dL_law_1711 (by decide) ?_
  refine lv_iinc (v := 5) (lv' := [(4, .int 5), (6, .int 0), (5, .int 1), (0, .ref b), (1, .ref x), (2, .ref mo), (3, .ref o)]) hx hb dL_law_1950 hl (k := 6) rfl (by decide) (by decide) rfl (fun ls hl => ?_)
  refine lv_goto (tgt := 23) hx hb dL_law_1953 (by decide) ?_
  refine lv_iload hx hb dL_law_23 (lv_at hl 0 rfl) ?_
  refine lv_aload_n hx hb dL_law_25 rfl (lv_at hl 3 rfl) ?_
  refine va_slen hx hb hX hbl hbA hS dL_law_26 ?_
  refine lv_topi (fun y_11 ey_11 => ?_)
  obtain rfl : y_11 = 5 := ey_11.trans (by decide)
  refine lv_iconst (v := 5) hx hb dL_law_27 (by decide) ?_
  refine lv_isub hx hb dL_law_28 ?_
  refine lv_topi (fun x_12 ex_12 => ?_)
  obtain rfl : x_12 = 0 := ex_12.trans (by decide)
  refine lv_icmp_gt (tgt := 1956) hx hb dL_law_29 (by decide) (fun c_29 => ?_) (fun c_29 => absurd (by decide) c_29)
  refine lv_iconst (v := 1) hx hb dL_law_1956 (by decide) ?_
  refine va_forget (fun q hq => by have h9 := hS.2.2 q hq; rw [← hAe] at h9; exact h9) ?_
  refine W.widen (k := 600002) (n := 7302232) (Nat.le_of_ble_eq_true rfl) (Nat.le_of_ble_eq_true rfl) ?_
  refine W.base ?_
  exact lw_ret (Drawn.sameBut.refl s.drawn lw_cs) hx hb hr hlocks dL_law_1957

set_option maxHeartbeats 4000000 in
set_option maxRecDepth 100000 in
theorem lc_26 {p : Program} {l : Launch} {e : Env} {s : State} {m : MethodId} {below : List Frame} {meth : Method} {c : Code} {b : Nat} {xs : Nat → Int32} (hfl : l.stackTraces = false) {ae : Nat} {D : va_G} {cI cJ cS cO : ClassId} (C0 : lw_At p s m meth c b 5 xs) (hK : va_K D vwCl [(cI, .int), (cJ, .long), (cS, .object "IronwoodModel$State"), (cO, .object "java/lang/Object")] s) (hG : Gl ae (fun q : Nat => s.heap.size ≤ q) s s.heap) (x : Nat) (t : Nat) (n : Nat) (sp : Nat) (t_kinds : Nat) (t_codes : Nat) (t_targets : Nat) (t_settings : Nat) (t_sources : Nat) (t_accessCounts : Nat) (t_acts : Nat) (t_actVariables : Nat) (t_actPlaces : Nat) (ns : Nat) (nw : Nat) (nn : Nat) (s_nexts : Nat) (s_jumps : Nat) (s_uses : Nat) (s_sets : Nat) (s_changes : Nat) (s_toUnmade : Nat) (s_toMade : Nat) (s_toGone : Nat) (w_unmade : Nat) (w_made : Nat) (w_gone : Nat) (w_held : Nat) (w_awaiting : Nat) (w_living : Nat) (w_heldBehind : Nat) (w_asked : Nat) (d_slots : Nat) (d_codes : Nat) (d_reasons : Nat) (mo : Nat) (vl : Nat) (sl : Nat) (o : Nat) (x1 : Int32) (e1 : xs (Int32.toNatClampNeg 1) = x1) (x2 : Int32) (e2 : xs (Int32.toNatClampNeg 2) = x2) (x3 : Int32) (e3 : xs (Int32.toNatClampNeg 3) = x3) (x4 : Int32) (e4 : xs (Int32.toNatClampNeg 4) = x4) (hv : 1 ≤ x1 ∧ x1 ≤ 6) (H : Heap) (locs : List Loc) (hP : va_P D vwCl [(x, .inr (6, [.ref t, .ref n, .ref sp, .int 0])), (t, .inr (4, [.ref t_kinds, .int 0, .long 0, .long 0, .ref t_codes, .ref t_targets, .ref t_settings, .ref t_sources, .ref t_accessCounts, .int 0, .ref t_acts, .ref t_actVariables, .ref t_actPlaces])), (n, .inr (1, [.ref ns, .ref nw, .ref nn])), (ns, .inr (3, [.ref s_nexts, .ref s_jumps, .ref s_uses, .ref s_sets, .ref s_changes, .ref s_toUnmade, .ref s_toMade, .ref s_toGone, .int 0, .int 0, .int 0])), (nw, .inr (5, [.long 0, .ref w_unmade, .ref w_made, .ref w_gone, .ref w_held, .ref w_awaiting, .ref w_living, .ref w_heldBehind, .ref w_asked])), (nn, .inr (2, [.ref d_slots, .ref d_codes, .ref d_reasons, .int 0])), (d_slots, .inl (cI, 280, .inl (fun _ => 0))), (mo, .inr (12, [.int 0, .ref vl, .ref sl])), (sl, .inr (0, [.int 0, .ref ae, .int 0])), (o, .inl (cJ, 1, .inr (.inl (fun _ => 0))))] H) (hD : va_D (fun q : Nat => s.heap.size ≤ q) [(x, .inr (6, [.ref t, .ref n, .ref sp, .int 0])), (t, .inr (4, [.ref t_kinds, .int 0, .long 0, .long 0, .ref t_codes, .ref t_targets, .ref t_settings, .ref t_sources, .ref t_accessCounts, .int 0, .ref t_acts, .ref t_actVariables, .ref t_actPlaces])), (n, .inr (1, [.ref ns, .ref nw, .ref nn])), (ns, .inr (3, [.ref s_nexts, .ref s_jumps, .ref s_uses, .ref s_sets, .ref s_changes, .ref s_toUnmade, .ref s_toMade, .ref s_toGone, .int 0, .int 0, .int 0])), (nw, .inr (5, [.long 0, .ref w_unmade, .ref w_made, .ref w_gone, .ref w_held, .ref w_awaiting, .ref w_living, .ref w_heldBehind, .ref w_asked])), (nn, .inr (2, [.ref d_slots, .ref d_codes, .ref d_reasons, .int 0])), (d_slots, .inl (cI, 280, .inl (fun _ => 0))), (mo, .inr (12, [.int 0, .ref vl, .ref sl])), (sl, .inr (0, [.int 0, .ref ae, .int 0])), (o, .inl (cJ, 1, .inr (.inl (fun _ => 0))))]) (hS : va_S (fun q : Nat => s.heap.size ≤ q) s.heap H locs) (ls : Array Slot) (hl : lv_has ls 9 [(0, .ref b), (1, .ref x), (2, .ref mo), (3, .ref o), (4, .int 0)]) : W p l e room_1 s m #[Value.ref b] below meth c H locs 61 3597 (lw_Z below #[Value.ref b] s) (F0 m 1714 ls []) := by
  obtain ⟨hx, hb, hr, hml, hown, hts0, hX, hbl, hlocks, hgv⟩ := id C0
  have hts := law_hts hts0
  have hA : ∀ q : Nat, s.heap.size ≤ q → (fun q : Nat => s.heap.size ≤ q) q := fun _ h => h
  have hbA : ¬ (fun q : Nat => s.heap.size ≤ q) b := Nat.not_le.mpr hbl
  generalize hAe : (fun q : Nat => s.heap.size ≤ q) = A at hD hG hS hA hbA
  refine lv_aload_n hx hb dL_law_1714 rfl (lv_at hl 1 rfl) ?_
  refine lv_aload_n hx hb dL_law_1715 rfl (lv_at hl 0 rfl) ?_
  refine lv_iload hx hb dL_law_1716 (lv_at hl 4 rfl) ?_
  refine lv_iconst (v := 1) hx hb dL_law_1718 (by decide) ?_
  refine lv_iadd hx hb dL_law_1719 ?_
  refine lv_topi (fun x_1 ex_1 => ?_)
  obtain rfl : x_1 = 1 := ex_1.trans (by decide)
  refine va_sld hx hb hX hbl hbA hS (vp_in_iff.mpr (by decide)) dL_law_1720 ?_
  refine lv_topi (fun y_2 ey_2 => ?_)
  rw [show y_2 = x1 from ey_2.trans e1]
  refine lv_aload_n hx hb dL_law_1721 rfl (lv_at hl 3 rfl) ?_
  refine kc_i (wr := [(mo, .inr (12, [.int 0, .ref vl, .ref sl])), (sl, .inr (0, [.int 0, .ref ae, .int 0]))]) (vx_runSW (As := [.ref x, .int x1, .ref o]) (rest := []) ⟨hx, hb, hml, hown, hts⟩ (w_faultsOf l hfl ae D cI cJ cS cO x t n sp t_kinds 0 0 t_codes t_targets t_settings t_sources t_accessCounts t_acts t_actVariables t_actPlaces ns nw nn s_nexts s_jumps s_uses s_sets s_changes s_toUnmade s_toMade s_toGone 0 0 0 0 w_unmade w_made w_gone w_held w_awaiting w_living w_heldBehind w_asked d_codes d_reasons 0 d_slots (fun _ => 0) x1 o (fun _ => 0) _ hv) (vx_cwSW 3 hts (gT q_950 q_948 q_949 q_97) rfl rfl rfl (by decide +kernel) ⟨Nat.le_of_ble_eq_true rfl, Nat.le_of_ble_eq_true rfl⟩) ⟨Pw.blind, Pw.mk_call hP hK hD hS hA hG [0, 1, 2, 3, 4, 5, 6, 9] rfl (by decide)⟩ rfl rfl hl.1 rfl (lv_room (Nat.le_of_ble_eq_true rfl)) dL_law_1722 ⟨Nat.le_of_ble_eq_true rfl, Nat.le_of_ble_eq_true rfl⟩) hP hD hS hA [0, 1, 2, 3, 4, 5, 6, 9] [7, 8] rfl rfl (by decide) (by decide) (fun r_3 u_4 H locs hw hP hD hS => ?_)
  obtain rfl : r_3 = 0 := hw
  have hP : va_P D vwCl [(mo, .inr (12, [.int 0, .ref vl, .ref sl])), (sl, .inr (0, [.int 0, .ref ae, .int 0])), (x, .inr (6, [.ref t, .ref n, .ref sp, .int 1])), (t, .inr (4, [.ref t_kinds, .int 0, .long 0, .long 0, .ref t_codes, .ref t_targets, .ref t_settings, .ref t_sources, .ref t_accessCounts, .int 0, .ref t_acts, .ref t_actVariables, .ref t_actPlaces])), (n, .inr (1, [.ref ns, .ref nw, .ref nn])), (ns, .inr (3, [.ref s_nexts, .ref s_jumps, .ref s_uses, .ref s_sets, .ref s_changes, .ref s_toUnmade, .ref s_toMade, .ref s_toGone, .int 0, .int (-1), .int (-1)])), (nw, .inr (5, [.long 0, .ref w_unmade, .ref w_made, .ref w_gone, .ref w_held, .ref w_awaiting, .ref w_living, .ref w_heldBehind, .ref w_asked])), (nn, .inr (2, [.ref d_slots, .ref d_codes, .ref d_reasons, .int 0])), (d_slots, .inl (cI, 280, .inl (fun _ => 0))), (o, .inl (cJ, 1, .inr (.inl (vp_updL (fun _ => 0) (Int32.toNatClampNeg 0) 0))))] H := hP
  have hD : va_D A [(mo, .inr (12, [.int 0, .ref vl, .ref sl])), (sl, .inr (0, [.int 0, .ref ae, .int 0])), (x, .inr (6, [.ref t, .ref n, .ref sp, .int 1])), (t, .inr (4, [.ref t_kinds, .int 0, .long 0, .long 0, .ref t_codes, .ref t_targets, .ref t_settings, .ref t_sources, .ref t_accessCounts, .int 0, .ref t_acts, .ref t_actVariables, .ref t_actPlaces])), (n, .inr (1, [.ref ns, .ref nw, .ref nn])), (ns, .inr (3, [.ref s_nexts, .ref s_jumps, .ref s_uses, .ref s_sets, .ref s_changes, .ref s_toUnmade, .ref s_toMade, .ref s_toGone, .int 0, .int (-1), .int (-1)])), (nw, .inr (5, [.long 0, .ref w_unmade, .ref w_made, .ref w_gone, .ref w_held, .ref w_awaiting, .ref w_living, .ref w_heldBehind, .ref w_asked])), (nn, .inr (2, [.ref d_slots, .ref d_codes, .ref d_reasons, .int 0])), (d_slots, .inl (cI, 280, .inl (fun _ => 0))), (o, .inl (cJ, 1, .inr (.inl (vp_updL (fun _ => 0) (Int32.toNatClampNeg 0) 0))))] := hD
  refine lv_istore (lv' := [(5, .int 0), (0, .ref b), (1, .ref x), (2, .ref mo), (3, .ref o), (4, .int 0)]) hx hb dL_law_1725 hl (by decide) rfl (fun ls hl => ?_)
  refine lv_aload_n hx hb dL_law_1727 rfl (lv_at hl 3 rfl) ?_
  refine lv_aload_n hx hb dL_law_1728 rfl (lv_at hl 1 rfl) ?_
  refine lv_iload hx hb dL_law_1729 (lv_at hl 5 rfl) ?_
  refine lv_iconst (v := 1) hx hb dL_law_1731 (by decide) ?_
  refine lv_iadd hx hb dL_law_1732 ?_
  refine lv_topi (fun x_5 ex_5 => ?_)
  obtain rfl : x_5 = 1 := ex_5.trans (by decide)
  refine va_sld hx hb hX hbl hbA hS (vp_in_iff.mpr (by decide)) dL_law_1733 ?_
  refine lv_topi (fun y_6 ey_6 => ?_)
  rw [show y_6 = x1 from ey_6.trans e1]
  refine kc_i (wr := [(x, .inr (6, [.ref t, .ref n, .ref sp, .int 1])), (t, .inr (4, [.ref t_kinds, .int 0, .long 0, .long 0, .ref t_codes, .ref t_targets, .ref t_settings, .ref t_sources, .ref t_accessCounts, .int 0, .ref t_acts, .ref t_actVariables, .ref t_actPlaces])), (n, .inr (1, [.ref ns, .ref nw, .ref nn])), (ns, .inr (3, [.ref s_nexts, .ref s_jumps, .ref s_uses, .ref s_sets, .ref s_changes, .ref s_toUnmade, .ref s_toMade, .ref s_toGone, .int 0, .int (-1), .int (-1)])), (nw, .inr (5, [.long 0, .ref w_unmade, .ref w_made, .ref w_gone, .ref w_held, .ref w_awaiting, .ref w_living, .ref w_heldBehind, .ref w_asked])), (nn, .inr (2, [.ref d_slots, .ref d_codes, .ref d_reasons, .int 0])), (d_slots, .inl (cI, 280, .inl (fun _ => 0))), (o, .inl (cJ, 1, .inr (.inl (vp_updL (fun _ => 0) (Int32.toNatClampNeg 0) 0))))]) (va_runV (As := [.int x1]) (rest := []) ⟨hx, hb, hml, hown, hts⟩ (m_faultsOf l hfl ae D cI cJ cS cO mo vl sl x1 _ hv) (cwV 1 hts (gV q_1565 q_1562 q_1563 q_1564 q_104) rfl rfl rfl (by decide +kernel) ⟨Nat.le_of_ble_eq_true rfl, Nat.le_of_ble_eq_true rfl⟩) ⟨Pw.blind, va_recv hK hP (ci := 12) (q0 := 0) rfl rfl, Pw.mk_call hP hK hD hS hA hG [0, 1] rfl (by decide)⟩ rfl rfl hl.1 rfl (lv_room (Nat.le_of_ble_eq_true rfl)) dL_law_1734 ⟨Nat.le_of_ble_eq_true rfl, Nat.le_of_ble_eq_true rfl⟩) hP hD hS hA [0, 1] [2, 3, 4, 5, 6, 7, 8, 9] rfl rfl (by decide) (by decide) (fun r_7 u_8 H locs hw hP hD hS => ?_)
  obtain rfl : r_7 = 0 := hw
  have hP : va_P D vwCl [(x, .inr (6, [.ref t, .ref n, .ref sp, .int 1])), (t, .inr (4, [.ref t_kinds, .int 0, .long 0, .long 0, .ref t_codes, .ref t_targets, .ref t_settings, .ref t_sources, .ref t_accessCounts, .int 0, .ref t_acts, .ref t_actVariables, .ref t_actPlaces])), (n, .inr (1, [.ref ns, .ref nw, .ref nn])), (ns, .inr (3, [.ref s_nexts, .ref s_jumps, .ref s_uses, .ref s_sets, .ref s_changes, .ref s_toUnmade, .ref s_toMade, .ref s_toGone, .int 0, .int (-1), .int (-1)])), (nw, .inr (5, [.long 0, .ref w_unmade, .ref w_made, .ref w_gone, .ref w_held, .ref w_awaiting, .ref w_living, .ref w_heldBehind, .ref w_asked])), (nn, .inr (2, [.ref d_slots, .ref d_codes, .ref d_reasons, .int 0])), (d_slots, .inl (cI, 280, .inl (fun _ => 0))), (o, .inl (cJ, 1, .inr (.inl (vp_updL (fun _ => 0) (Int32.toNatClampNeg 0) 0)))), (mo, .inr (12, [.int 0, .ref vl, .ref sl])), (sl, .inr (0, [.int 0, .ref ae, .int 0]))] H := hP
  have hD : va_D A [(x, .inr (6, [.ref t, .ref n, .ref sp, .int 1])), (t, .inr (4, [.ref t_kinds, .int 0, .long 0, .long 0, .ref t_codes, .ref t_targets, .ref t_settings, .ref t_sources, .ref t_accessCounts, .int 0, .ref t_acts, .ref t_actVariables, .ref t_actPlaces])), (n, .inr (1, [.ref ns, .ref nw, .ref nn])), (ns, .inr (3, [.ref s_nexts, .ref s_jumps, .ref s_uses, .ref s_sets, .ref s_changes, .ref s_toUnmade, .ref s_toMade, .ref s_toGone, .int 0, .int (-1), .int (-1)])), (nw, .inr (5, [.long 0, .ref w_unmade, .ref w_made, .ref w_gone, .ref w_held, .ref w_awaiting, .ref w_living, .ref w_heldBehind, .ref w_asked])), (nn, .inr (2, [.ref d_slots, .ref d_codes, .ref d_reasons, .int 0])), (d_slots, .inl (cI, 280, .inl (fun _ => 0))), (o, .inl (cJ, 1, .inr (.inl (vp_updL (fun _ => 0) (Int32.toNatClampNeg 0) 0)))), (mo, .inr (12, [.int 0, .ref vl, .ref sl])), (sl, .inr (0, [.int 0, .ref ae, .int 0]))] := hD
  refine lv_istore (lv' := [(6, .int 0), (5, .int 0), (0, .ref b), (1, .ref x), (2, .ref mo), (3, .ref o), (4, .int 0)]) hx hb dL_law_1737 hl (by decide) rfl (fun ls hl => ?_)
  refine lv_aload_n hx hb dL_law_1739 rfl (lv_at hl 4 rfl) ?_
  refine kc_i (wr := [(x, .inr (6, [.ref t, .ref n, .ref sp, .int 1])), (t, .inr (4, [.ref t_kinds, .int 0, .long 0, .long 0, .ref t_codes, .ref t_targets, .ref t_settings, .ref t_sources, .ref t_accessCounts, .int 0, .ref t_acts, .ref t_actVariables, .ref t_actPlaces])), (n, .inr (1, [.ref ns, .ref nw, .ref nn])), (ns, .inr (3, [.ref s_nexts, .ref s_jumps, .ref s_uses, .ref s_sets, .ref s_changes, .ref s_toUnmade, .ref s_toMade, .ref s_toGone, .int 0, .int (-1), .int (-1)])), (nw, .inr (5, [.long 0, .ref w_unmade, .ref w_made, .ref w_gone, .ref w_held, .ref w_awaiting, .ref w_living, .ref w_heldBehind, .ref w_asked])), (nn, .inr (2, [.ref d_slots, .ref d_codes, .ref d_reasons, .int 0])), (d_slots, .inl (cI, 280, .inl (fun _ => 0))), (o, .inl (cJ, 1, .inr (.inl (vp_updL (fun _ => 0) (Int32.toNatClampNeg 0) 0)))), (sl, .inr (0, [.int 0, .ref ae, .int 0]))]) (va_runV (As := []) (rest := []) ⟨hx, hb, hml, hown, hts⟩ (m_thrown l hfl ae D cI cJ cS cO mo vl sl 0 _) (cwV 0 hts (gV q_1017 q_1014 q_1015 q_1016 q_104) rfl rfl rfl (by decide +kernel) ⟨Nat.le_of_ble_eq_true rfl, Nat.le_of_ble_eq_true rfl⟩) ⟨Pw.blind, va_recv hK hP (ci := 12) (q0 := 8) rfl rfl, Pw.mk_call hP hK hD hS hA hG [8] rfl (by decide)⟩ rfl rfl hl.1 rfl (lv_room (Nat.le_of_ble_eq_true rfl)) dL_law_1740 ⟨Nat.le_of_ble_eq_true rfl, Nat.le_of_ble_eq_true rfl⟩) hP hD hS hA [8] [0, 1, 2, 3, 4, 5, 6, 7, 9] rfl rfl (by decide) (by decide) (fun r_9 u_10 H locs hw hP hD hS => ?_)
  obtain rfl : r_9 = 0 := hw
  have hP : va_P D vwCl [(x, .inr (6, [.ref t, .ref n, .ref sp, .int 1])), (t, .inr (4, [.ref t_kinds, .int 0, .long 0, .long 0, .ref t_codes, .ref t_targets, .ref t_settings, .ref t_sources, .ref t_accessCounts, .int 0, .ref t_acts, .ref t_actVariables, .ref t_actPlaces])), (n, .inr (1, [.ref ns, .ref nw, .ref nn])), (ns, .inr (3, [.ref s_nexts, .ref s_jumps, .ref s_uses, .ref s_sets, .ref s_changes, .ref s_toUnmade, .ref s_toMade, .ref s_toGone, .int 0, .int (-1), .int (-1)])), (nw, .inr (5, [.long 0, .ref w_unmade, .ref w_made, .ref w_gone, .ref w_held, .ref w_awaiting, .ref w_living, .ref w_heldBehind, .ref w_asked])), (nn, .inr (2, [.ref d_slots, .ref d_codes, .ref d_reasons, .int 0])), (d_slots, .inl (cI, 280, .inl (fun _ => 0))), (o, .inl (cJ, 1, .inr (.inl (vp_updL (fun _ => 0) (Int32.toNatClampNeg 0) 0)))), (sl, .inr (0, [.int 0, .ref ae, .int 0])), (mo, .inr (12, [.int 0, .ref vl, .ref sl]))] H := hP
  have hD : va_D A [(x, .inr (6, [.ref t, .ref n, .ref sp, .int 1])), (t, .inr (4, [.ref t_kinds, .int 0, .long 0, .long 0, .ref t_codes, .ref t_targets, .ref t_settings, .ref t_sources, .ref t_accessCounts, .int 0, .ref t_acts, .ref t_actVariables, .ref t_actPlaces])), (n, .inr (1, [.ref ns, .ref nw, .ref nn])), (ns, .inr (3, [.ref s_nexts, .ref s_jumps, .ref s_uses, .ref s_sets, .ref s_changes, .ref s_toUnmade, .ref s_toMade, .ref s_toGone, .int 0, .int (-1), .int (-1)])), (nw, .inr (5, [.long 0, .ref w_unmade, .ref w_made, .ref w_gone, .ref w_held, .ref w_awaiting, .ref w_living, .ref w_heldBehind, .ref w_asked])), (nn, .inr (2, [.ref d_slots, .ref d_codes, .ref d_reasons, .int 0])), (d_slots, .inl (cI, 280, .inl (fun _ => 0))), (o, .inl (cJ, 1, .inr (.inl (vp_updL (fun _ => 0) (Int32.toNatClampNeg 0) 0)))), (sl, .inr (0, [.int 0, .ref ae, .int 0])), (mo, .inr (12, [.int 0, .ref vl, .ref sl]))] := hD
  refine lv_iload hx hb dL_law_1743 (lv_at hl 1 rfl) ?_
  refine lv_icmp_eq (tgt := 1750) hx hb dL_law_1745 (by decide) (fun c_1745 => ?_) (fun c_1745 => absurd (by decide) c_1745)
  refine lv_iload hx hb dL_law_1750 (lv_at hl 1 rfl) ?_
  refine lv_if_ne (tgt := 1767) hx hb dL_law_1752 (by decide) (fun c_1752 => absurd (by decide) c_1752) (fun c_1752 => ?_)
  refine lv_aload_n hx hb dL_law_1755 rfl (lv_at hl 5 rfl) ?_
  refine lv_iconst (v := 0) hx hb dL_law_1756 (by decide) ?_
  refine va_lald hx hb hK hP 7 1 rfl rfl (vp_in_iff.mpr (by decide)) dL_law_1757 ?_
  refine lv_topl (fun y_11 ey_11 => ?_)
  obtain rfl : y_11 = 0 := ey_11.trans (by simp [vp_updL])
  refine lv_iload hx hb dL_law_1758 (lv_at hl 0 rfl) ?_
  refine lv_i2l (v := 0) hx hb dL_law_1760 (by decide) ?_
  refine W.lcmp hx hb dL_law_1761 ?_
  refine lv_topi (fun y_12 ey_12 => ?_)
  obtain rfl : y_12 = 0 := ey_12.trans (by decide)
  refine lv_if_eq (tgt := 1767) hx hb dL_law_1762 (by decide) (fun c_1762 => ?_) (fun c_1762 => absurd (by decide) c_1762)
  refine lv_goto (tgt := 1950) hx hb dL_law_1767 (by decide) ?_
  refine lv_iinc (v := 5) (lv' := [(4, .int 5), (6, .int 0), (5, .int 0), (0, .ref b), (1, .ref x), (2, .ref mo), (3, .ref o)]) hx hb dL_law_1950 hl (k := 6) rfl (by decide) (by decide) rfl (fun ls hl => ?_)
  refine lv_goto (tgt := 23) hx hb dL_law_1953 (by decide) ?_
  refine lv_iload hx hb dL_law_23 (lv_at hl 0 rfl) ?_
  refine lv_aload_n hx hb dL_law_25 rfl (lv_at hl 3 rfl) ?_
  refine va_slen hx hb hX hbl hbA hS dL_law_26 ?_
  refine lv_topi (fun y_13 ey_13 => ?_)
  obtain rfl : y_13 = 5 := ey_13.trans (by decide)
  refine lv_iconst (v := 5) hx hb dL_law_27 (by decide) ?_
  refine lv_isub hx hb dL_law_28 ?_
  refine lv_topi (fun x_14 ex_14 => ?_)
  obtain rfl : x_14 = 0 := ex_14.trans (by decide)
  refine lv_icmp_gt (tgt := 1956) hx hb dL_law_29 (by decide) (fun c_29 => ?_) (fun c_29 => absurd (by decide) c_29)
  refine lv_iconst (v := 1) hx hb dL_law_1956 (by decide) ?_
  refine va_forget (fun q hq => by have h9 := hS.2.2 q hq; rw [← hAe] at h9; exact h9) ?_
  refine W.widen (k := 600002) (n := 7302232) (Nat.le_of_ble_eq_true rfl) (Nat.le_of_ble_eq_true rfl) ?_
  refine W.base ?_
  exact lw_ret (Drawn.sameBut.refl s.drawn lw_cs) hx hb hr hlocks dL_law_1957

set_option maxHeartbeats 4000000 in
set_option maxRecDepth 100000 in
theorem lc_26x {p : Program} {l : Launch} {e : Env} {s : State} {m : MethodId} {below : List Frame} {meth : Method} {c : Code} {b : Nat} {xs : Nat → Int32} (hfl : l.stackTraces = false) {ae : Nat} {D : va_G} {cI cJ cS cO : ClassId} (C0 : lw_At p s m meth c b 5 xs) (hK : va_K D vwCl [(cI, .int), (cJ, .long), (cS, .object "IronwoodModel$State"), (cO, .object "java/lang/Object")] s) (hG : Gl ae (fun q : Nat => s.heap.size ≤ q) s s.heap) (x : Nat) (t : Nat) (n : Nat) (sp : Nat) (mo : Nat) (vl : Nat) (sl : Nat) (o : Nat) (x1 : Int32) (e1 : xs (Int32.toNatClampNeg 1) = x1) (x2 : Int32) (e2 : xs (Int32.toNatClampNeg 2) = x2) (x3 : Int32) (e3 : xs (Int32.toNatClampNeg 3) = x3) (x4 : Int32) (e4 : xs (Int32.toNatClampNeg 4) = x4) (hv : ¬ (1 ≤ x1 ∧ x1 ≤ 6)) (H : Heap) (locs : List Loc) (hP : va_P D vwCl [(x, .inr (6, [.ref t, .ref n, .ref sp, .int 0])), (mo, .inr (12, [.int 0, .ref vl, .ref sl])), (sl, .inr (0, [.int 0, .ref ae, .int 0])), (o, .inl (cJ, 1, .inr (.inl (fun _ => 0))))] H) (hD : va_D (fun q : Nat => s.heap.size ≤ q) [(x, .inr (6, [.ref t, .ref n, .ref sp, .int 0])), (mo, .inr (12, [.int 0, .ref vl, .ref sl])), (sl, .inr (0, [.int 0, .ref ae, .int 0])), (o, .inl (cJ, 1, .inr (.inl (fun _ => 0))))]) (hS : va_S (fun q : Nat => s.heap.size ≤ q) s.heap H locs) (ls : Array Slot) (hl : lv_has ls 9 [(0, .ref b), (1, .ref x), (2, .ref mo), (3, .ref o), (4, .int 0)]) : W p l e room_1 s m #[Value.ref b] below meth c H locs 61 3597 (lw_Z below #[Value.ref b] s) (F0 m 1714 ls []) := by
  obtain ⟨hx, hb, hr, hml, hown, hts0, hX, hbl, hlocks, hgv⟩ := id C0
  have hts := law_hts hts0
  have hA : ∀ q : Nat, s.heap.size ≤ q → (fun q : Nat => s.heap.size ≤ q) q := fun _ h => h
  have hbA : ¬ (fun q : Nat => s.heap.size ≤ q) b := Nat.not_le.mpr hbl
  generalize hAe : (fun q : Nat => s.heap.size ≤ q) = A at hD hG hS hA hbA
  refine lv_aload_n hx hb dL_law_1714 rfl (lv_at hl 1 rfl) ?_
  refine lv_aload_n hx hb dL_law_1715 rfl (lv_at hl 0 rfl) ?_
  refine lv_iload hx hb dL_law_1716 (lv_at hl 4 rfl) ?_
  refine lv_iconst (v := 1) hx hb dL_law_1718 (by decide) ?_
  refine lv_iadd hx hb dL_law_1719 ?_
  refine lv_topi (fun x_1 ex_1 => ?_)
  obtain rfl : x_1 = 1 := ex_1.trans (by decide)
  refine va_sld hx hb hX hbl hbA hS (vp_in_iff.mpr (by decide)) dL_law_1720 ?_
  refine lv_topi (fun y_2 ey_2 => ?_)
  rw [show y_2 = x1 from ey_2.trans e1]
  refine lv_aload_n hx hb dL_law_1721 rfl (lv_at hl 3 rfl) ?_
  refine kc_i (wr := [(mo, .inr (12, [.int 0, .ref vl, .ref sl])), (sl, .inr (0, [.int 0, .ref ae, .int 0]))]) (vx_runSW (As := [.ref x, .int x1, .ref o]) (rest := []) ⟨hx, hb, hml, hown, hts⟩ (w_faultsOf_x l hfl ae D cI cJ cS cO x t n sp 0 x1 o (fun _ => 0) _ hv) (vx_cwSW 3 hts (gT q_950 q_948 q_949 q_97) rfl rfl rfl (by decide +kernel) ⟨Nat.le_of_ble_eq_true rfl, Nat.le_of_ble_eq_true rfl⟩) ⟨Pw.blind, Pw.mk_call hP hK hD hS hA hG [0, 3] rfl (by decide)⟩ rfl rfl hl.1 rfl (lv_room (Nat.le_of_ble_eq_true rfl)) dL_law_1722 ⟨Nat.le_of_ble_eq_true rfl, Nat.le_of_ble_eq_true rfl⟩) hP hD hS hA [0, 3] [1, 2] rfl rfl (by decide) (by decide) (fun r_3 u_4 H locs hw hP hD hS => ?_)
  obtain rfl : r_3 = 1 := hw
  have hP : va_P D vwCl [(mo, .inr (12, [.int 0, .ref vl, .ref sl])), (sl, .inr (0, [.int 0, .ref ae, .int 0])), (x, .inr (6, [.ref t, .ref n, .ref sp, .int 0])), (o, .inl (cJ, 1, .inr (.inl (fun _ => 0))))] H := hP
  have hD : va_D A [(mo, .inr (12, [.int 0, .ref vl, .ref sl])), (sl, .inr (0, [.int 0, .ref ae, .int 0])), (x, .inr (6, [.ref t, .ref n, .ref sp, .int 0])), (o, .inl (cJ, 1, .inr (.inl (fun _ => 0))))] := hD
  refine lv_istore (lv' := [(5, .int 1), (0, .ref b), (1, .ref x), (2, .ref mo), (3, .ref o), (4, .int 0)]) hx hb dL_law_1725 hl (by decide) rfl (fun ls hl => ?_)
  refine lv_aload_n hx hb dL_law_1727 rfl (lv_at hl 3 rfl) ?_
  refine lv_aload_n hx hb dL_law_1728 rfl (lv_at hl 1 rfl) ?_
  refine lv_iload hx hb dL_law_1729 (lv_at hl 5 rfl) ?_
  refine lv_iconst (v := 1) hx hb dL_law_1731 (by decide) ?_
  refine lv_iadd hx hb dL_law_1732 ?_
  refine lv_topi (fun x_5 ex_5 => ?_)
  obtain rfl : x_5 = 1 := ex_5.trans (by decide)
  refine va_sld hx hb hX hbl hbA hS (vp_in_iff.mpr (by decide)) dL_law_1733 ?_
  refine lv_topi (fun y_6 ey_6 => ?_)
  rw [show y_6 = x1 from ey_6.trans e1]
  refine kc_i (wr := [(x, .inr (6, [.ref t, .ref n, .ref sp, .int 0])), (o, .inl (cJ, 1, .inr (.inl (fun _ => 0))))]) (va_runV (As := [.int x1]) (rest := []) ⟨hx, hb, hml, hown, hts⟩ (m_faultsOf_x l hfl ae D cI cJ cS cO mo vl sl x1 _ hv) (cwV 1 hts (gV q_1565 q_1562 q_1563 q_1564 q_104) rfl rfl rfl (by decide +kernel) ⟨Nat.le_of_ble_eq_true rfl, Nat.le_of_ble_eq_true rfl⟩) ⟨Pw.blind, va_recv hK hP (ci := 12) (q0 := 0) rfl rfl, Pw.mk_call hP hK hD hS hA hG [0, 1] rfl (by decide)⟩ rfl rfl hl.1 rfl (lv_room (Nat.le_of_ble_eq_true rfl)) dL_law_1734 ⟨Nat.le_of_ble_eq_true rfl, Nat.le_of_ble_eq_true rfl⟩) hP hD hS hA [0, 1] [2, 3] rfl rfl (by decide) (by decide) (fun r_7 u_8 H locs hw hP hD hS => ?_)
  obtain rfl : r_7 = 0 := hw
  have hP : va_P D vwCl [(x, .inr (6, [.ref t, .ref n, .ref sp, .int 0])), (o, .inl (cJ, 1, .inr (.inl (fun _ => 0)))), (mo, .inr (12, [.int 1, .ref vl, .ref sl])), (sl, .inr (0, [.int 0, .ref ae, .int 0]))] H := hP
  have hD : va_D A [(x, .inr (6, [.ref t, .ref n, .ref sp, .int 0])), (o, .inl (cJ, 1, .inr (.inl (fun _ => 0)))), (mo, .inr (12, [.int 1, .ref vl, .ref sl])), (sl, .inr (0, [.int 0, .ref ae, .int 0]))] := hD
  refine lv_istore (lv' := [(6, .int 0), (5, .int 1), (0, .ref b), (1, .ref x), (2, .ref mo), (3, .ref o), (4, .int 0)]) hx hb dL_law_1737 hl (by decide) rfl (fun ls hl => ?_)
  refine lv_aload_n hx hb dL_law_1739 rfl (lv_at hl 4 rfl) ?_
  refine kc_i (wr := [(x, .inr (6, [.ref t, .ref n, .ref sp, .int 0])), (o, .inl (cJ, 1, .inr (.inl (fun _ => 0)))), (sl, .inr (0, [.int 0, .ref ae, .int 0]))]) (va_runV (As := []) (rest := []) ⟨hx, hb, hml, hown, hts⟩ (m_thrown l hfl ae D cI cJ cS cO mo vl sl 1 _) (cwV 0 hts (gV q_1017 q_1014 q_1015 q_1016 q_104) rfl rfl rfl (by decide +kernel) ⟨Nat.le_of_ble_eq_true rfl, Nat.le_of_ble_eq_true rfl⟩) ⟨Pw.blind, va_recv hK hP (ci := 12) (q0 := 2) rfl rfl, Pw.mk_call hP hK hD hS hA hG [2] rfl (by decide)⟩ rfl rfl hl.1 rfl (lv_room (Nat.le_of_ble_eq_true rfl)) dL_law_1740 ⟨Nat.le_of_ble_eq_true rfl, Nat.le_of_ble_eq_true rfl⟩) hP hD hS hA [2] [0, 1, 3] rfl rfl (by decide) (by decide) (fun r_9 u_10 H locs hw hP hD hS => ?_)
  obtain rfl : r_9 = 1 := hw
  have hP : va_P D vwCl [(x, .inr (6, [.ref t, .ref n, .ref sp, .int 0])), (o, .inl (cJ, 1, .inr (.inl (fun _ => 0)))), (sl, .inr (0, [.int 0, .ref ae, .int 0])), (mo, .inr (12, [.int 1, .ref vl, .ref sl]))] H := hP
  have hD : va_D A [(x, .inr (6, [.ref t, .ref n, .ref sp, .int 0])), (o, .inl (cJ, 1, .inr (.inl (fun _ => 0)))), (sl, .inr (0, [.int 0, .ref ae, .int 0])), (mo, .inr (12, [.int 1, .ref vl, .ref sl]))] := hD
  refine lv_iload hx hb dL_law_1743 (lv_at hl 1 rfl) ?_
  refine lv_icmp_eq (tgt := 1750) hx hb dL_law_1745 (by decide) (fun c_1745 => ?_) (fun c_1745 => absurd (by decide) c_1745)
  refine lv_iload hx hb dL_law_1750 (lv_at hl 1 rfl) ?_
  refine lv_if_ne (tgt := 1767) hx hb dL_law_1752 (by decide) (fun c_1752 => ?_) (fun c_1752 => absurd c_1752 (by decide))
  refine lv_goto (tgt := 1950) hx hb dL_law_1767 (by decide) ?_
  refine lv_iinc (v := 5) (lv' := [(4, .int 5), (6, .int 0), (5, .int 1), (0, .ref b), (1, .ref x), (2, .ref mo), (3, .ref o)]) hx hb dL_law_1950 hl (k := 6) rfl (by decide) (by decide) rfl (fun ls hl => ?_)
  refine lv_goto (tgt := 23) hx hb dL_law_1953 (by decide) ?_
  refine lv_iload hx hb dL_law_23 (lv_at hl 0 rfl) ?_
  refine lv_aload_n hx hb dL_law_25 rfl (lv_at hl 3 rfl) ?_
  refine va_slen hx hb hX hbl hbA hS dL_law_26 ?_
  refine lv_topi (fun y_11 ey_11 => ?_)
  obtain rfl : y_11 = 5 := ey_11.trans (by decide)
  refine lv_iconst (v := 5) hx hb dL_law_27 (by decide) ?_
  refine lv_isub hx hb dL_law_28 ?_
  refine lv_topi (fun x_12 ex_12 => ?_)
  obtain rfl : x_12 = 0 := ex_12.trans (by decide)
  refine lv_icmp_gt (tgt := 1956) hx hb dL_law_29 (by decide) (fun c_29 => ?_) (fun c_29 => absurd (by decide) c_29)
  refine lv_iconst (v := 1) hx hb dL_law_1956 (by decide) ?_
  refine va_forget (fun q hq => by have h9 := hS.2.2 q hq; rw [← hAe] at h9; exact h9) ?_
  refine W.widen (k := 600002) (n := 7302232) (Nat.le_of_ble_eq_true rfl) (Nat.le_of_ble_eq_true rfl) ?_
  refine W.base ?_
  exact lw_ret (Drawn.sameBut.refl s.drawn lw_cs) hx hb hr hlocks dL_law_1957

set_option maxHeartbeats 4000000 in
set_option maxRecDepth 100000 in
theorem lc_27 {p : Program} {l : Launch} {e : Env} {s : State} {m : MethodId} {below : List Frame} {meth : Method} {c : Code} {b : Nat} {xs : Nat → Int32} (hfl : l.stackTraces = false) {ae : Nat} {D : va_G} {cI cJ cS cO : ClassId} (C0 : lw_At p s m meth c b 5 xs) (hK : va_K D vwCl [(cI, .int), (cJ, .long), (cS, .object "IronwoodModel$State"), (cO, .object "java/lang/Object")] s) (hG : Gl ae (fun q : Nat => s.heap.size ≤ q) s s.heap) (x : Nat) (t : Nat) (n : Nat) (sp : Nat) (t_kinds : Nat) (t_codes : Nat) (t_targets : Nat) (t_settings : Nat) (t_sources : Nat) (t_accessCounts : Nat) (t_acts : Nat) (t_actVariables : Nat) (t_actPlaces : Nat) (mo : Nat) (vl : Nat) (sl : Nat) (o : Nat) (x1 : Int32) (e1 : xs (Int32.toNatClampNeg 1) = x1) (x2 : Int32) (e2 : xs (Int32.toNatClampNeg 2) = x2) (x3 : Int32) (e3 : xs (Int32.toNatClampNeg 3) = x3) (x4 : Int32) (e4 : xs (Int32.toNatClampNeg 4) = x4)  (H : Heap) (locs : List Loc) (hP : va_P D vwCl [(x, .inr (6, [.ref t, .ref n, .ref sp, .int 0])), (t, .inr (4, [.ref t_kinds, .int 0, .long 0, .long 0, .ref t_codes, .ref t_targets, .ref t_settings, .ref t_sources, .ref t_accessCounts, .int 0, .ref t_acts, .ref t_actVariables, .ref t_actPlaces])), (mo, .inr (12, [.int 0, .ref vl, .ref sl])), (sl, .inr (0, [.int 0, .ref ae, .int 0])), (o, .inl (cJ, 1, .inr (.inl (fun _ => 0))))] H) (hD : va_D (fun q : Nat => s.heap.size ≤ q) [(x, .inr (6, [.ref t, .ref n, .ref sp, .int 0])), (t, .inr (4, [.ref t_kinds, .int 0, .long 0, .long 0, .ref t_codes, .ref t_targets, .ref t_settings, .ref t_sources, .ref t_accessCounts, .int 0, .ref t_acts, .ref t_actVariables, .ref t_actPlaces])), (mo, .inr (12, [.int 0, .ref vl, .ref sl])), (sl, .inr (0, [.int 0, .ref ae, .int 0])), (o, .inl (cJ, 1, .inr (.inl (fun _ => 0))))]) (hS : va_S (fun q : Nat => s.heap.size ≤ q) s.heap H locs) (ls : Array Slot) (hl : lv_has ls 9 [(0, .ref b), (1, .ref x), (2, .ref mo), (3, .ref o), (4, .int 0)]) : W p l e room_1 s m #[Value.ref b] below meth c H locs 61 3597 (lw_Z below #[Value.ref b] s) (F0 m 1770 ls []) := by
  obtain ⟨hx, hb, hr, hml, hown, hts0, hX, hbl, hlocks, hgv⟩ := id C0
  have hts := law_hts hts0
  have hA : ∀ q : Nat, s.heap.size ≤ q → (fun q : Nat => s.heap.size ≤ q) q := fun _ h => h
  have hbA : ¬ (fun q : Nat => s.heap.size ≤ q) b := Nat.not_le.mpr hbl
  generalize hAe : (fun q : Nat => s.heap.size ≤ q) = A at hD hG hS hA hbA
  refine lv_aload_n hx hb dL_law_1770 rfl (lv_at hl 1 rfl) ?_
  refine lv_aload_n hx hb dL_law_1771 rfl (lv_at hl 0 rfl) ?_
  refine lv_iload hx hb dL_law_1772 (lv_at hl 4 rfl) ?_
  refine lv_iconst (v := 1) hx hb dL_law_1774 (by decide) ?_
  refine lv_iadd hx hb dL_law_1775 ?_
  refine lv_topi (fun x_1 ex_1 => ?_)
  obtain rfl : x_1 = 1 := ex_1.trans (by decide)
  refine va_sld hx hb hX hbl hbA hS (vp_in_iff.mpr (by decide)) dL_law_1776 ?_
  refine lv_topi (fun y_2 ey_2 => ?_)
  rw [show y_2 = x1 from ey_2.trans e1]
  refine lv_aload_n hx hb dL_law_1777 rfl (lv_at hl 3 rfl) ?_
  refine kc_i (wr := [(mo, .inr (12, [.int 0, .ref vl, .ref sl])), (sl, .inr (0, [.int 0, .ref ae, .int 0]))]) (vx_runSW (As := [.ref x, .int x1, .ref o]) (rest := []) ⟨hx, hb, hml, hown, hts⟩ (w_without_x l hfl ae D cI cJ cS cO x t n sp 0 t_kinds 0 0 0 t_codes t_targets t_settings t_sources t_accessCounts t_acts t_actVariables t_actPlaces x1 o (fun _ => 0) _) (vx_cwSW 3 hts (gT q_958 q_956 q_957 q_97) rfl rfl rfl (by decide +kernel) ⟨Nat.le_of_ble_eq_true rfl, Nat.le_of_ble_eq_true rfl⟩) ⟨Pw.blind, Pw.mk_call hP hK hD hS hA hG [0, 1, 4] rfl (by decide)⟩ rfl rfl hl.1 rfl (lv_room (Nat.le_of_ble_eq_true rfl)) dL_law_1778 ⟨Nat.le_of_ble_eq_true rfl, Nat.le_of_ble_eq_true rfl⟩) hP hD hS hA [0, 1, 4] [2, 3] rfl rfl (by decide) (by decide) (fun r_3 u_4 H locs hw hP hD hS => ?_)
  obtain rfl : r_3 = 1 := hw
  have hP : va_P D vwCl [(mo, .inr (12, [.int 0, .ref vl, .ref sl])), (sl, .inr (0, [.int 0, .ref ae, .int 0])), (x, .inr (6, [.ref t, .ref n, .ref sp, .int 0])), (t, .inr (4, [.ref t_kinds, .int 0, .long 0, .long 0, .ref t_codes, .ref t_targets, .ref t_settings, .ref t_sources, .ref t_accessCounts, .int 0, .ref t_acts, .ref t_actVariables, .ref t_actPlaces])), (o, .inl (cJ, 1, .inr (.inl (fun _ => 0))))] H := hP
  have hD : va_D A [(mo, .inr (12, [.int 0, .ref vl, .ref sl])), (sl, .inr (0, [.int 0, .ref ae, .int 0])), (x, .inr (6, [.ref t, .ref n, .ref sp, .int 0])), (t, .inr (4, [.ref t_kinds, .int 0, .long 0, .long 0, .ref t_codes, .ref t_targets, .ref t_settings, .ref t_sources, .ref t_accessCounts, .int 0, .ref t_acts, .ref t_actVariables, .ref t_actPlaces])), (o, .inl (cJ, 1, .inr (.inl (fun _ => 0))))] := hD
  refine lv_istore (lv' := [(5, .int 1), (0, .ref b), (1, .ref x), (2, .ref mo), (3, .ref o), (4, .int 0)]) hx hb dL_law_1781 hl (by decide) rfl (fun ls hl => ?_)
  refine lv_aload_n hx hb dL_law_1783 rfl (lv_at hl 3 rfl) ?_
  refine lv_aload_n hx hb dL_law_1784 rfl (lv_at hl 1 rfl) ?_
  refine lv_iload hx hb dL_law_1785 (lv_at hl 5 rfl) ?_
  refine lv_iconst (v := 1) hx hb dL_law_1787 (by decide) ?_
  refine lv_iadd hx hb dL_law_1788 ?_
  refine lv_topi (fun x_5 ex_5 => ?_)
  obtain rfl : x_5 = 1 := ex_5.trans (by decide)
  refine va_sld hx hb hX hbl hbA hS (vp_in_iff.mpr (by decide)) dL_law_1789 ?_
  refine lv_topi (fun y_6 ey_6 => ?_)
  rw [show y_6 = x1 from ey_6.trans e1]
  refine kc_i (wr := [(x, .inr (6, [.ref t, .ref n, .ref sp, .int 0])), (t, .inr (4, [.ref t_kinds, .int 0, .long 0, .long 0, .ref t_codes, .ref t_targets, .ref t_settings, .ref t_sources, .ref t_accessCounts, .int 0, .ref t_acts, .ref t_actVariables, .ref t_actPlaces])), (o, .inl (cJ, 1, .inr (.inl (fun _ => 0))))]) (va_runV (As := [.int x1]) (rest := []) ⟨hx, hb, hml, hown, hts⟩ (m_without_x l hfl ae D cI cJ cS cO mo vl sl x1 _) (cwV 1 hts (gV q_1569 q_1566 q_1567 q_1568 q_104) rfl rfl rfl (by decide +kernel) ⟨Nat.le_of_ble_eq_true rfl, Nat.le_of_ble_eq_true rfl⟩) ⟨Pw.blind, va_recv hK hP (ci := 12) (q0 := 0) rfl rfl, Pw.mk_call hP hK hD hS hA hG [0, 1] rfl (by decide)⟩ rfl rfl hl.1 rfl (lv_room (Nat.le_of_ble_eq_true rfl)) dL_law_1790 ⟨Nat.le_of_ble_eq_true rfl, Nat.le_of_ble_eq_true rfl⟩) hP hD hS hA [0, 1] [2, 3, 4] rfl rfl (by decide) (by decide) (fun r_7 u_8 H locs hw hP hD hS => ?_)
  obtain rfl : r_7 = 0 := hw
  have hP : va_P D vwCl [(x, .inr (6, [.ref t, .ref n, .ref sp, .int 0])), (t, .inr (4, [.ref t_kinds, .int 0, .long 0, .long 0, .ref t_codes, .ref t_targets, .ref t_settings, .ref t_sources, .ref t_accessCounts, .int 0, .ref t_acts, .ref t_actVariables, .ref t_actPlaces])), (o, .inl (cJ, 1, .inr (.inl (fun _ => 0)))), (mo, .inr (12, [.int 1, .ref vl, .ref sl])), (sl, .inr (0, [.int 0, .ref ae, .int 0]))] H := hP
  have hD : va_D A [(x, .inr (6, [.ref t, .ref n, .ref sp, .int 0])), (t, .inr (4, [.ref t_kinds, .int 0, .long 0, .long 0, .ref t_codes, .ref t_targets, .ref t_settings, .ref t_sources, .ref t_accessCounts, .int 0, .ref t_acts, .ref t_actVariables, .ref t_actPlaces])), (o, .inl (cJ, 1, .inr (.inl (fun _ => 0)))), (mo, .inr (12, [.int 1, .ref vl, .ref sl])), (sl, .inr (0, [.int 0, .ref ae, .int 0]))] := hD
  refine lv_istore (lv' := [(6, .int 0), (5, .int 1), (0, .ref b), (1, .ref x), (2, .ref mo), (3, .ref o), (4, .int 0)]) hx hb dL_law_1793 hl (by decide) rfl (fun ls hl => ?_)
  refine lv_aload_n hx hb dL_law_1795 rfl (lv_at hl 4 rfl) ?_
  refine kc_i (wr := [(x, .inr (6, [.ref t, .ref n, .ref sp, .int 0])), (t, .inr (4, [.ref t_kinds, .int 0, .long 0, .long 0, .ref t_codes, .ref t_targets, .ref t_settings, .ref t_sources, .ref t_accessCounts, .int 0, .ref t_acts, .ref t_actVariables, .ref t_actPlaces])), (o, .inl (cJ, 1, .inr (.inl (fun _ => 0)))), (sl, .inr (0, [.int 0, .ref ae, .int 0]))]) (va_runV (As := []) (rest := []) ⟨hx, hb, hml, hown, hts⟩ (m_thrown l hfl ae D cI cJ cS cO mo vl sl 1 _) (cwV 0 hts (gV q_1017 q_1014 q_1015 q_1016 q_104) rfl rfl rfl (by decide +kernel) ⟨Nat.le_of_ble_eq_true rfl, Nat.le_of_ble_eq_true rfl⟩) ⟨Pw.blind, va_recv hK hP (ci := 12) (q0 := 3) rfl rfl, Pw.mk_call hP hK hD hS hA hG [3] rfl (by decide)⟩ rfl rfl hl.1 rfl (lv_room (Nat.le_of_ble_eq_true rfl)) dL_law_1796 ⟨Nat.le_of_ble_eq_true rfl, Nat.le_of_ble_eq_true rfl⟩) hP hD hS hA [3] [0, 1, 2, 4] rfl rfl (by decide) (by decide) (fun r_9 u_10 H locs hw hP hD hS => ?_)
  obtain rfl : r_9 = 1 := hw
  have hP : va_P D vwCl [(x, .inr (6, [.ref t, .ref n, .ref sp, .int 0])), (t, .inr (4, [.ref t_kinds, .int 0, .long 0, .long 0, .ref t_codes, .ref t_targets, .ref t_settings, .ref t_sources, .ref t_accessCounts, .int 0, .ref t_acts, .ref t_actVariables, .ref t_actPlaces])), (o, .inl (cJ, 1, .inr (.inl (fun _ => 0)))), (sl, .inr (0, [.int 0, .ref ae, .int 0])), (mo, .inr (12, [.int 1, .ref vl, .ref sl]))] H := hP
  have hD : va_D A [(x, .inr (6, [.ref t, .ref n, .ref sp, .int 0])), (t, .inr (4, [.ref t_kinds, .int 0, .long 0, .long 0, .ref t_codes, .ref t_targets, .ref t_settings, .ref t_sources, .ref t_accessCounts, .int 0, .ref t_acts, .ref t_actVariables, .ref t_actPlaces])), (o, .inl (cJ, 1, .inr (.inl (fun _ => 0)))), (sl, .inr (0, [.int 0, .ref ae, .int 0])), (mo, .inr (12, [.int 1, .ref vl, .ref sl]))] := hD
  refine lv_iload hx hb dL_law_1799 (lv_at hl 1 rfl) ?_
  refine lv_icmp_eq (tgt := 1806) hx hb dL_law_1801 (by decide) (fun c_1801 => ?_) (fun c_1801 => absurd (by decide) c_1801)
  refine lv_iload hx hb dL_law_1806 (lv_at hl 1 rfl) ?_
  refine lv_if_ne (tgt := 1823) hx hb dL_law_1808 (by decide) (fun c_1808 => ?_) (fun c_1808 => absurd c_1808 (by decide))
  refine lv_goto (tgt := 1950) hx hb dL_law_1823 (by decide) ?_
  refine lv_iinc (v := 5) (lv' := [(4, .int 5), (6, .int 0), (5, .int 1), (0, .ref b), (1, .ref x), (2, .ref mo), (3, .ref o)]) hx hb dL_law_1950 hl (k := 6) rfl (by decide) (by decide) rfl (fun ls hl => ?_)
  refine lv_goto (tgt := 23) hx hb dL_law_1953 (by decide) ?_
  refine lv_iload hx hb dL_law_23 (lv_at hl 0 rfl) ?_
  refine lv_aload_n hx hb dL_law_25 rfl (lv_at hl 3 rfl) ?_
  refine va_slen hx hb hX hbl hbA hS dL_law_26 ?_
  refine lv_topi (fun y_11 ey_11 => ?_)
  obtain rfl : y_11 = 5 := ey_11.trans (by decide)
  refine lv_iconst (v := 5) hx hb dL_law_27 (by decide) ?_
  refine lv_isub hx hb dL_law_28 ?_
  refine lv_topi (fun x_12 ex_12 => ?_)
  obtain rfl : x_12 = 0 := ex_12.trans (by decide)
  refine lv_icmp_gt (tgt := 1956) hx hb dL_law_29 (by decide) (fun c_29 => ?_) (fun c_29 => absurd (by decide) c_29)
  refine lv_iconst (v := 1) hx hb dL_law_1956 (by decide) ?_
  refine va_forget (fun q hq => by have h9 := hS.2.2 q hq; rw [← hAe] at h9; exact h9) ?_
  refine W.widen (k := 600002) (n := 7302232) (Nat.le_of_ble_eq_true rfl) (Nat.le_of_ble_eq_true rfl) ?_
  refine W.base ?_
  exact lw_ret (Drawn.sameBut.refl s.drawn lw_cs) hx hb hr hlocks dL_law_1957

set_option maxHeartbeats 4000000 in
set_option maxRecDepth 100000 in
theorem lc_28 {p : Program} {l : Launch} {e : Env} {s : State} {m : MethodId} {below : List Frame} {meth : Method} {c : Code} {b : Nat} {xs : Nat → Int32} (hfl : l.stackTraces = false) {ae : Nat} {D : va_G} {cI cJ cS cO : ClassId} (C0 : lw_At p s m meth c b 5 xs) (hK : va_K D vwCl [(cI, .int), (cJ, .long), (cS, .object "IronwoodModel$State"), (cO, .object "java/lang/Object")] s) (hG : Gl ae (fun q : Nat => s.heap.size ≤ q) s s.heap) (x : Nat) (t : Nat) (n : Nat) (sp : Nat) (t_kinds : Nat) (t_codes : Nat) (t_targets : Nat) (t_settings : Nat) (t_sources : Nat) (t_accessCounts : Nat) (t_acts : Nat) (t_actVariables : Nat) (t_actPlaces : Nat) (mo : Nat) (vl : Nat) (sl : Nat) (o : Nat) (x1 : Int32) (e1 : xs (Int32.toNatClampNeg 1) = x1) (x2 : Int32) (e2 : xs (Int32.toNatClampNeg 2) = x2) (x3 : Int32) (e3 : xs (Int32.toNatClampNeg 3) = x3) (x4 : Int32) (e4 : xs (Int32.toNatClampNeg 4) = x4)  (H : Heap) (locs : List Loc) (hP : va_P D vwCl [(x, .inr (6, [.ref t, .ref n, .ref sp, .int 0])), (t, .inr (4, [.ref t_kinds, .int 0, .long 0, .long 0, .ref t_codes, .ref t_targets, .ref t_settings, .ref t_sources, .ref t_accessCounts, .int 0, .ref t_acts, .ref t_actVariables, .ref t_actPlaces])), (mo, .inr (12, [.int 0, .ref vl, .ref sl])), (sl, .inr (0, [.int 0, .ref ae, .int 0])), (o, .inl (cJ, 1, .inr (.inl (fun _ => 0))))] H) (hD : va_D (fun q : Nat => s.heap.size ≤ q) [(x, .inr (6, [.ref t, .ref n, .ref sp, .int 0])), (t, .inr (4, [.ref t_kinds, .int 0, .long 0, .long 0, .ref t_codes, .ref t_targets, .ref t_settings, .ref t_sources, .ref t_accessCounts, .int 0, .ref t_acts, .ref t_actVariables, .ref t_actPlaces])), (mo, .inr (12, [.int 0, .ref vl, .ref sl])), (sl, .inr (0, [.int 0, .ref ae, .int 0])), (o, .inl (cJ, 1, .inr (.inl (fun _ => 0))))]) (hS : va_S (fun q : Nat => s.heap.size ≤ q) s.heap H locs) (ls : Array Slot) (hl : lv_has ls 9 [(0, .ref b), (1, .ref x), (2, .ref mo), (3, .ref o), (4, .int 0)]) : W p l e room_1 s m #[Value.ref b] below meth c H locs 61 3597 (lw_Z below #[Value.ref b] s) (F0 m 1826 ls []) := by
  obtain ⟨hx, hb, hr, hml, hown, hts0, hX, hbl, hlocks, hgv⟩ := id C0
  have hts := law_hts hts0
  have hA : ∀ q : Nat, s.heap.size ≤ q → (fun q : Nat => s.heap.size ≤ q) q := fun _ h => h
  have hbA : ¬ (fun q : Nat => s.heap.size ≤ q) b := Nat.not_le.mpr hbl
  generalize hAe : (fun q : Nat => s.heap.size ≤ q) = A at hD hG hS hA hbA
  refine lv_aload_n hx hb dL_law_1826 rfl (lv_at hl 1 rfl) ?_
  refine lv_aload_n hx hb dL_law_1827 rfl (lv_at hl 0 rfl) ?_
  refine lv_iload hx hb dL_law_1828 (lv_at hl 4 rfl) ?_
  refine lv_iconst (v := 1) hx hb dL_law_1830 (by decide) ?_
  refine lv_iadd hx hb dL_law_1831 ?_
  refine lv_topi (fun x_1 ex_1 => ?_)
  obtain rfl : x_1 = 1 := ex_1.trans (by decide)
  refine va_sld hx hb hX hbl hbA hS (vp_in_iff.mpr (by decide)) dL_law_1832 ?_
  refine lv_topi (fun y_2 ey_2 => ?_)
  rw [show y_2 = x1 from ey_2.trans e1]
  refine lv_aload_n hx hb dL_law_1833 rfl (lv_at hl 3 rfl) ?_
  refine kc_i (wr := [(mo, .inr (12, [.int 0, .ref vl, .ref sl])), (sl, .inr (0, [.int 0, .ref ae, .int 0]))]) (vx_runSW (As := [.ref x, .int x1, .ref o]) (rest := []) ⟨hx, hb, hml, hown, hts⟩ (w_copied_x l hfl ae D cI cJ cS cO x t n sp 0 t_kinds 0 0 0 t_codes t_targets t_settings t_sources t_accessCounts t_acts t_actVariables t_actPlaces x1 o (fun _ => 0) _) (vx_cwSW 3 hts (gT q_965 q_963 q_964 q_97) rfl rfl rfl (by decide +kernel) ⟨Nat.le_of_ble_eq_true rfl, Nat.le_of_ble_eq_true rfl⟩) ⟨Pw.blind, Pw.mk_call hP hK hD hS hA hG [0, 1, 4] rfl (by decide)⟩ rfl rfl hl.1 rfl (lv_room (Nat.le_of_ble_eq_true rfl)) dL_law_1834 ⟨Nat.le_of_ble_eq_true rfl, Nat.le_of_ble_eq_true rfl⟩) hP hD hS hA [0, 1, 4] [2, 3] rfl rfl (by decide) (by decide) (fun r_3 u_4 H locs hw hP hD hS => ?_)
  obtain rfl : r_3 = 1 := hw
  have hP : va_P D vwCl [(mo, .inr (12, [.int 0, .ref vl, .ref sl])), (sl, .inr (0, [.int 0, .ref ae, .int 0])), (x, .inr (6, [.ref t, .ref n, .ref sp, .int 0])), (t, .inr (4, [.ref t_kinds, .int 0, .long 0, .long 0, .ref t_codes, .ref t_targets, .ref t_settings, .ref t_sources, .ref t_accessCounts, .int 0, .ref t_acts, .ref t_actVariables, .ref t_actPlaces])), (o, .inl (cJ, 1, .inr (.inl (fun _ => 0))))] H := hP
  have hD : va_D A [(mo, .inr (12, [.int 0, .ref vl, .ref sl])), (sl, .inr (0, [.int 0, .ref ae, .int 0])), (x, .inr (6, [.ref t, .ref n, .ref sp, .int 0])), (t, .inr (4, [.ref t_kinds, .int 0, .long 0, .long 0, .ref t_codes, .ref t_targets, .ref t_settings, .ref t_sources, .ref t_accessCounts, .int 0, .ref t_acts, .ref t_actVariables, .ref t_actPlaces])), (o, .inl (cJ, 1, .inr (.inl (fun _ => 0))))] := hD
  refine lv_istore (lv' := [(5, .int 1), (0, .ref b), (1, .ref x), (2, .ref mo), (3, .ref o), (4, .int 0)]) hx hb dL_law_1837 hl (by decide) rfl (fun ls hl => ?_)
  refine lv_aload_n hx hb dL_law_1839 rfl (lv_at hl 3 rfl) ?_
  refine lv_aload_n hx hb dL_law_1840 rfl (lv_at hl 1 rfl) ?_
  refine lv_iload hx hb dL_law_1841 (lv_at hl 5 rfl) ?_
  refine lv_iconst (v := 1) hx hb dL_law_1843 (by decide) ?_
  refine lv_iadd hx hb dL_law_1844 ?_
  refine lv_topi (fun x_5 ex_5 => ?_)
  obtain rfl : x_5 = 1 := ex_5.trans (by decide)
  refine va_sld hx hb hX hbl hbA hS (vp_in_iff.mpr (by decide)) dL_law_1845 ?_
  refine lv_topi (fun y_6 ey_6 => ?_)
  rw [show y_6 = x1 from ey_6.trans e1]
  refine kc_i (wr := [(x, .inr (6, [.ref t, .ref n, .ref sp, .int 0])), (t, .inr (4, [.ref t_kinds, .int 0, .long 0, .long 0, .ref t_codes, .ref t_targets, .ref t_settings, .ref t_sources, .ref t_accessCounts, .int 0, .ref t_acts, .ref t_actVariables, .ref t_actPlaces])), (o, .inl (cJ, 1, .inr (.inl (fun _ => 0))))]) (va_runV (As := [.int x1]) (rest := []) ⟨hx, hb, hml, hown, hts⟩ (m_copied_x l hfl ae D cI cJ cS cO mo vl sl x1 _) (cwV 1 hts (gV q_1577 q_1574 q_1575 q_1576 q_104) rfl rfl rfl (by decide +kernel) ⟨Nat.le_of_ble_eq_true rfl, Nat.le_of_ble_eq_true rfl⟩) ⟨Pw.blind, va_recv hK hP (ci := 12) (q0 := 0) rfl rfl, Pw.mk_call hP hK hD hS hA hG [0, 1] rfl (by decide)⟩ rfl rfl hl.1 rfl (lv_room (Nat.le_of_ble_eq_true rfl)) dL_law_1846 ⟨Nat.le_of_ble_eq_true rfl, Nat.le_of_ble_eq_true rfl⟩) hP hD hS hA [0, 1] [2, 3, 4] rfl rfl (by decide) (by decide) (fun r_7 u_8 H locs hw hP hD hS => ?_)
  obtain rfl : r_7 = 0 := hw
  have hP : va_P D vwCl [(x, .inr (6, [.ref t, .ref n, .ref sp, .int 0])), (t, .inr (4, [.ref t_kinds, .int 0, .long 0, .long 0, .ref t_codes, .ref t_targets, .ref t_settings, .ref t_sources, .ref t_accessCounts, .int 0, .ref t_acts, .ref t_actVariables, .ref t_actPlaces])), (o, .inl (cJ, 1, .inr (.inl (fun _ => 0)))), (mo, .inr (12, [.int 1, .ref vl, .ref sl])), (sl, .inr (0, [.int 0, .ref ae, .int 0]))] H := hP
  have hD : va_D A [(x, .inr (6, [.ref t, .ref n, .ref sp, .int 0])), (t, .inr (4, [.ref t_kinds, .int 0, .long 0, .long 0, .ref t_codes, .ref t_targets, .ref t_settings, .ref t_sources, .ref t_accessCounts, .int 0, .ref t_acts, .ref t_actVariables, .ref t_actPlaces])), (o, .inl (cJ, 1, .inr (.inl (fun _ => 0)))), (mo, .inr (12, [.int 1, .ref vl, .ref sl])), (sl, .inr (0, [.int 0, .ref ae, .int 0]))] := hD
  refine lv_istore (lv' := [(6, .int 0), (5, .int 1), (0, .ref b), (1, .ref x), (2, .ref mo), (3, .ref o), (4, .int 0)]) hx hb dL_law_1849 hl (by decide) rfl (fun ls hl => ?_)
  refine lv_aload_n hx hb dL_law_1851 rfl (lv_at hl 4 rfl) ?_
  refine kc_i (wr := [(x, .inr (6, [.ref t, .ref n, .ref sp, .int 0])), (t, .inr (4, [.ref t_kinds, .int 0, .long 0, .long 0, .ref t_codes, .ref t_targets, .ref t_settings, .ref t_sources, .ref t_accessCounts, .int 0, .ref t_acts, .ref t_actVariables, .ref t_actPlaces])), (o, .inl (cJ, 1, .inr (.inl (fun _ => 0)))), (sl, .inr (0, [.int 0, .ref ae, .int 0]))]) (va_runV (As := []) (rest := []) ⟨hx, hb, hml, hown, hts⟩ (m_thrown l hfl ae D cI cJ cS cO mo vl sl 1 _) (cwV 0 hts (gV q_1017 q_1014 q_1015 q_1016 q_104) rfl rfl rfl (by decide +kernel) ⟨Nat.le_of_ble_eq_true rfl, Nat.le_of_ble_eq_true rfl⟩) ⟨Pw.blind, va_recv hK hP (ci := 12) (q0 := 3) rfl rfl, Pw.mk_call hP hK hD hS hA hG [3] rfl (by decide)⟩ rfl rfl hl.1 rfl (lv_room (Nat.le_of_ble_eq_true rfl)) dL_law_1852 ⟨Nat.le_of_ble_eq_true rfl, Nat.le_of_ble_eq_true rfl⟩) hP hD hS hA [3] [0, 1, 2, 4] rfl rfl (by decide) (by decide) (fun r_9 u_10 H locs hw hP hD hS => ?_)
  obtain rfl : r_9 = 1 := hw
  have hP : va_P D vwCl [(x, .inr (6, [.ref t, .ref n, .ref sp, .int 0])), (t, .inr (4, [.ref t_kinds, .int 0, .long 0, .long 0, .ref t_codes, .ref t_targets, .ref t_settings, .ref t_sources, .ref t_accessCounts, .int 0, .ref t_acts, .ref t_actVariables, .ref t_actPlaces])), (o, .inl (cJ, 1, .inr (.inl (fun _ => 0)))), (sl, .inr (0, [.int 0, .ref ae, .int 0])), (mo, .inr (12, [.int 1, .ref vl, .ref sl]))] H := hP
  have hD : va_D A [(x, .inr (6, [.ref t, .ref n, .ref sp, .int 0])), (t, .inr (4, [.ref t_kinds, .int 0, .long 0, .long 0, .ref t_codes, .ref t_targets, .ref t_settings, .ref t_sources, .ref t_accessCounts, .int 0, .ref t_acts, .ref t_actVariables, .ref t_actPlaces])), (o, .inl (cJ, 1, .inr (.inl (fun _ => 0)))), (sl, .inr (0, [.int 0, .ref ae, .int 0])), (mo, .inr (12, [.int 1, .ref vl, .ref sl]))] := hD
  refine lv_iload hx hb dL_law_1855 (lv_at hl 1 rfl) ?_
  refine lv_icmp_eq (tgt := 1862) hx hb dL_law_1857 (by decide) (fun c_1857 => ?_) (fun c_1857 => absurd (by decide) c_1857)
  refine lv_iload hx hb dL_law_1862 (lv_at hl 1 rfl) ?_
  refine lv_if_ne (tgt := 1879) hx hb dL_law_1864 (by decide) (fun c_1864 => ?_) (fun c_1864 => absurd c_1864 (by decide))
  refine lv_goto (tgt := 1950) hx hb dL_law_1879 (by decide) ?_
  refine lv_iinc (v := 5) (lv' := [(4, .int 5), (6, .int 0), (5, .int 1), (0, .ref b), (1, .ref x), (2, .ref mo), (3, .ref o)]) hx hb dL_law_1950 hl (k := 6) rfl (by decide) (by decide) rfl (fun ls hl => ?_)
  refine lv_goto (tgt := 23) hx hb dL_law_1953 (by decide) ?_
  refine lv_iload hx hb dL_law_23 (lv_at hl 0 rfl) ?_
  refine lv_aload_n hx hb dL_law_25 rfl (lv_at hl 3 rfl) ?_
  refine va_slen hx hb hX hbl hbA hS dL_law_26 ?_
  refine lv_topi (fun y_11 ey_11 => ?_)
  obtain rfl : y_11 = 5 := ey_11.trans (by decide)
  refine lv_iconst (v := 5) hx hb dL_law_27 (by decide) ?_
  refine lv_isub hx hb dL_law_28 ?_
  refine lv_topi (fun x_12 ex_12 => ?_)
  obtain rfl : x_12 = 0 := ex_12.trans (by decide)
  refine lv_icmp_gt (tgt := 1956) hx hb dL_law_29 (by decide) (fun c_29 => ?_) (fun c_29 => absurd (by decide) c_29)
  refine lv_iconst (v := 1) hx hb dL_law_1956 (by decide) ?_
  refine va_forget (fun q hq => by have h9 := hS.2.2 q hq; rw [← hAe] at h9; exact h9) ?_
  refine W.widen (k := 600002) (n := 7302232) (Nat.le_of_ble_eq_true rfl) (Nat.le_of_ble_eq_true rfl) ?_
  refine W.base ?_
  exact lw_ret (Drawn.sameBut.refl s.drawn lw_cs) hx hb hr hlocks dL_law_1957

set_option maxHeartbeats 4000000 in
set_option maxRecDepth 100000 in
theorem lc_29 {p : Program} {l : Launch} {e : Env} {s : State} {m : MethodId} {below : List Frame} {meth : Method} {c : Code} {b : Nat} {xs : Nat → Int32} (hfl : l.stackTraces = false) {ae : Nat} {D : va_G} {cI cJ cS cO : ClassId} (C0 : lw_At p s m meth c b 5 xs) (hK : va_K D vwCl [(cI, .int), (cJ, .long), (cS, .object "IronwoodModel$State"), (cO, .object "java/lang/Object")] s) (hG : Gl ae (fun q : Nat => s.heap.size ≤ q) s s.heap) (x : Nat) (t : Nat) (n : Nat) (sp : Nat) (t_kinds : Nat) (t_codes : Nat) (t_targets : Nat) (t_settings : Nat) (t_sources : Nat) (t_accessCounts : Nat) (t_acts : Nat) (t_actVariables : Nat) (t_actPlaces : Nat) (ns : Nat) (nw : Nat) (nn : Nat) (s_nexts : Nat) (s_jumps : Nat) (s_uses : Nat) (s_sets : Nat) (s_changes : Nat) (s_toUnmade : Nat) (s_toMade : Nat) (s_toGone : Nat) (w_unmade : Nat) (w_made : Nat) (w_gone : Nat) (w_held : Nat) (w_awaiting : Nat) (w_living : Nat) (w_heldBehind : Nat) (w_asked : Nat) (d_slots : Nat) (d_codes : Nat) (d_reasons : Nat) (mo : Nat) (vl : Nat) (sl : Nat) (o : Nat) (x1 : Int32) (e1 : xs (Int32.toNatClampNeg 1) = x1) (x2 : Int32) (e2 : xs (Int32.toNatClampNeg 2) = x2) (x3 : Int32) (e3 : xs (Int32.toNatClampNeg 3) = x3) (x4 : Int32) (e4 : xs (Int32.toNatClampNeg 4) = x4)  (H : Heap) (locs : List Loc) (hP : va_P D vwCl [(x, .inr (6, [.ref t, .ref n, .ref sp, .int 0])), (t, .inr (4, [.ref t_kinds, .int 0, .long 0, .long 0, .ref t_codes, .ref t_targets, .ref t_settings, .ref t_sources, .ref t_accessCounts, .int 0, .ref t_acts, .ref t_actVariables, .ref t_actPlaces])), (n, .inr (1, [.ref ns, .ref nw, .ref nn])), (ns, .inr (3, [.ref s_nexts, .ref s_jumps, .ref s_uses, .ref s_sets, .ref s_changes, .ref s_toUnmade, .ref s_toMade, .ref s_toGone, .int 0, .int 0, .int 0])), (nw, .inr (5, [.long 0, .ref w_unmade, .ref w_made, .ref w_gone, .ref w_held, .ref w_awaiting, .ref w_living, .ref w_heldBehind, .ref w_asked])), (nn, .inr (2, [.ref d_slots, .ref d_codes, .ref d_reasons, .int 0])), (mo, .inr (12, [.int 0, .ref vl, .ref sl])), (sl, .inr (0, [.int 0, .ref ae, .int 0])), (o, .inl (cJ, 1, .inr (.inl (fun _ => 0))))] H) (hD : va_D (fun q : Nat => s.heap.size ≤ q) [(x, .inr (6, [.ref t, .ref n, .ref sp, .int 0])), (t, .inr (4, [.ref t_kinds, .int 0, .long 0, .long 0, .ref t_codes, .ref t_targets, .ref t_settings, .ref t_sources, .ref t_accessCounts, .int 0, .ref t_acts, .ref t_actVariables, .ref t_actPlaces])), (n, .inr (1, [.ref ns, .ref nw, .ref nn])), (ns, .inr (3, [.ref s_nexts, .ref s_jumps, .ref s_uses, .ref s_sets, .ref s_changes, .ref s_toUnmade, .ref s_toMade, .ref s_toGone, .int 0, .int 0, .int 0])), (nw, .inr (5, [.long 0, .ref w_unmade, .ref w_made, .ref w_gone, .ref w_held, .ref w_awaiting, .ref w_living, .ref w_heldBehind, .ref w_asked])), (nn, .inr (2, [.ref d_slots, .ref d_codes, .ref d_reasons, .int 0])), (mo, .inr (12, [.int 0, .ref vl, .ref sl])), (sl, .inr (0, [.int 0, .ref ae, .int 0])), (o, .inl (cJ, 1, .inr (.inl (fun _ => 0))))]) (hS : va_S (fun q : Nat => s.heap.size ≤ q) s.heap H locs) (ls : Array Slot) (hl : lv_has ls 9 [(0, .ref b), (1, .ref x), (2, .ref mo), (3, .ref o), (4, .int 0)]) : W p l e room_1 s m #[Value.ref b] below meth c H locs 61 3597 (lw_Z below #[Value.ref b] s) (F0 m 1882 ls []) := by
  obtain ⟨hx, hb, hr, hml, hown, hts0, hX, hbl, hlocks, hgv⟩ := id C0
  have hts := law_hts hts0
  have hA : ∀ q : Nat, s.heap.size ≤ q → (fun q : Nat => s.heap.size ≤ q) q := fun _ h => h
  have hbA : ¬ (fun q : Nat => s.heap.size ≤ q) b := Nat.not_le.mpr hbl
  generalize hAe : (fun q : Nat => s.heap.size ≤ q) = A at hD hG hS hA hbA
  refine lv_aload_n hx hb dL_law_1882 rfl (lv_at hl 1 rfl) ?_
  refine kc_i (wr := [(mo, .inr (12, [.int 0, .ref vl, .ref sl])), (sl, .inr (0, [.int 0, .ref ae, .int 0])), (o, .inl (cJ, 1, .inr (.inl (fun _ => 0))))]) (va_runV (As := []) (rest := []) ⟨hx, hb, hml, hown, hts⟩ (k_culprit l hfl ae D cI cJ cS cO x t n sp t_kinds 0 0 0 t_codes t_targets t_settings t_sources t_accessCounts t_acts t_actVariables t_actPlaces ns nw nn s_nexts s_jumps s_uses s_sets s_changes s_toUnmade s_toMade s_toGone 0 0 0 0 w_unmade w_made w_gone w_held w_awaiting w_living w_heldBehind w_asked d_slots d_codes d_reasons 0 _) (cwV 0 hts (gV q_541 q_538 q_539 q_540 q_98) rfl rfl rfl (by decide +kernel) ⟨Nat.le_of_ble_eq_true rfl, Nat.le_of_ble_eq_true rfl⟩) ⟨Pw.blind, va_recv hK hP (ci := 6) (q0 := 0) rfl rfl, Pw.mk_call hP hK hD hS hA hG [0, 1, 2, 3, 4, 5] rfl (by decide)⟩ rfl rfl hl.1 rfl (lv_room (Nat.le_of_ble_eq_true rfl)) dL_law_1883 ⟨Nat.le_of_ble_eq_true rfl, Nat.le_of_ble_eq_true rfl⟩) hP hD hS hA [0, 1, 2, 3, 4, 5] [6, 7, 8] rfl rfl (by decide) (by decide) (fun r_1 u_2 H locs hw hP hD hS => ?_)
  obtain rfl : r_1 = (-1) := hw
  have hP : va_P D vwCl [(mo, .inr (12, [.int 0, .ref vl, .ref sl])), (sl, .inr (0, [.int 0, .ref ae, .int 0])), (o, .inl (cJ, 1, .inr (.inl (fun _ => 0)))), (x, .inr (6, [.ref t, .ref n, .ref sp, .int 1])), (t, .inr (4, [.ref t_kinds, .int 0, .long 0, .long 0, .ref t_codes, .ref t_targets, .ref t_settings, .ref t_sources, .ref t_accessCounts, .int 0, .ref t_acts, .ref t_actVariables, .ref t_actPlaces])), (n, .inr (1, [.ref ns, .ref nw, .ref nn])), (ns, .inr (3, [.ref s_nexts, .ref s_jumps, .ref s_uses, .ref s_sets, .ref s_changes, .ref s_toUnmade, .ref s_toMade, .ref s_toGone, .int 0, .int (-1), .int (-1)])), (nw, .inr (5, [.long 0, .ref w_unmade, .ref w_made, .ref w_gone, .ref w_held, .ref w_awaiting, .ref w_living, .ref w_heldBehind, .ref w_asked])), (nn, .inr (2, [.ref d_slots, .ref d_codes, .ref d_reasons, .int 0]))] H := hP
  have hD : va_D A [(mo, .inr (12, [.int 0, .ref vl, .ref sl])), (sl, .inr (0, [.int 0, .ref ae, .int 0])), (o, .inl (cJ, 1, .inr (.inl (fun _ => 0)))), (x, .inr (6, [.ref t, .ref n, .ref sp, .int 1])), (t, .inr (4, [.ref t_kinds, .int 0, .long 0, .long 0, .ref t_codes, .ref t_targets, .ref t_settings, .ref t_sources, .ref t_accessCounts, .int 0, .ref t_acts, .ref t_actVariables, .ref t_actPlaces])), (n, .inr (1, [.ref ns, .ref nw, .ref nn])), (ns, .inr (3, [.ref s_nexts, .ref s_jumps, .ref s_uses, .ref s_sets, .ref s_changes, .ref s_toUnmade, .ref s_toMade, .ref s_toGone, .int 0, .int (-1), .int (-1)])), (nw, .inr (5, [.long 0, .ref w_unmade, .ref w_made, .ref w_gone, .ref w_held, .ref w_awaiting, .ref w_living, .ref w_heldBehind, .ref w_asked])), (nn, .inr (2, [.ref d_slots, .ref d_codes, .ref d_reasons, .int 0]))] := hD
  refine lv_aload_n hx hb dL_law_1886 rfl (lv_at hl 2 rfl) ?_
  refine kc_i (wr := [(o, .inl (cJ, 1, .inr (.inl (fun _ => 0)))), (x, .inr (6, [.ref t, .ref n, .ref sp, .int 1])), (t, .inr (4, [.ref t_kinds, .int 0, .long 0, .long 0, .ref t_codes, .ref t_targets, .ref t_settings, .ref t_sources, .ref t_accessCounts, .int 0, .ref t_acts, .ref t_actVariables, .ref t_actPlaces])), (n, .inr (1, [.ref ns, .ref nw, .ref nn])), (ns, .inr (3, [.ref s_nexts, .ref s_jumps, .ref s_uses, .ref s_sets, .ref s_changes, .ref s_toUnmade, .ref s_toMade, .ref s_toGone, .int 0, .int (-1), .int (-1)])), (nw, .inr (5, [.long 0, .ref w_unmade, .ref w_made, .ref w_gone, .ref w_held, .ref w_awaiting, .ref w_living, .ref w_heldBehind, .ref w_asked])), (nn, .inr (2, [.ref d_slots, .ref d_codes, .ref d_reasons, .int 0]))]) (va_runV (As := []) (rest := [.int (-1)]) ⟨hx, hb, hml, hown, hts⟩ (m_culprit l hfl ae D cI cJ cS cO mo vl sl _) (cwV 0 hts (gV q_1581 q_1578 q_1579 q_1580 q_104) rfl rfl rfl (by decide +kernel) ⟨Nat.le_of_ble_eq_true rfl, Nat.le_of_ble_eq_true rfl⟩) ⟨Pw.blind, va_recv hK hP (ci := 12) (q0 := 0) rfl rfl, Pw.mk_call hP hK hD hS hA hG [0, 1] rfl (by decide)⟩ rfl rfl hl.1 rfl (lv_room (Nat.le_of_ble_eq_true rfl)) dL_law_1887 ⟨Nat.le_of_ble_eq_true rfl, Nat.le_of_ble_eq_true rfl⟩) hP hD hS hA [0, 1] [2, 3, 4, 5, 6, 7, 8] rfl rfl (by decide) (by decide) (fun r_3 u_4 H locs hw hP hD hS => ?_)
  obtain rfl : r_3 = (-1) := hw
  have hP : va_P D vwCl [(o, .inl (cJ, 1, .inr (.inl (fun _ => 0)))), (x, .inr (6, [.ref t, .ref n, .ref sp, .int 1])), (t, .inr (4, [.ref t_kinds, .int 0, .long 0, .long 0, .ref t_codes, .ref t_targets, .ref t_settings, .ref t_sources, .ref t_accessCounts, .int 0, .ref t_acts, .ref t_actVariables, .ref t_actPlaces])), (n, .inr (1, [.ref ns, .ref nw, .ref nn])), (ns, .inr (3, [.ref s_nexts, .ref s_jumps, .ref s_uses, .ref s_sets, .ref s_changes, .ref s_toUnmade, .ref s_toMade, .ref s_toGone, .int 0, .int (-1), .int (-1)])), (nw, .inr (5, [.long 0, .ref w_unmade, .ref w_made, .ref w_gone, .ref w_held, .ref w_awaiting, .ref w_living, .ref w_heldBehind, .ref w_asked])), (nn, .inr (2, [.ref d_slots, .ref d_codes, .ref d_reasons, .int 0])), (mo, .inr (12, [.int 0, .ref vl, .ref sl])), (sl, .inr (0, [.int 0, .ref ae, .int 0]))] H := hP
  have hD : va_D A [(o, .inl (cJ, 1, .inr (.inl (fun _ => 0)))), (x, .inr (6, [.ref t, .ref n, .ref sp, .int 1])), (t, .inr (4, [.ref t_kinds, .int 0, .long 0, .long 0, .ref t_codes, .ref t_targets, .ref t_settings, .ref t_sources, .ref t_accessCounts, .int 0, .ref t_acts, .ref t_actVariables, .ref t_actPlaces])), (n, .inr (1, [.ref ns, .ref nw, .ref nn])), (ns, .inr (3, [.ref s_nexts, .ref s_jumps, .ref s_uses, .ref s_sets, .ref s_changes, .ref s_toUnmade, .ref s_toMade, .ref s_toGone, .int 0, .int (-1), .int (-1)])), (nw, .inr (5, [.long 0, .ref w_unmade, .ref w_made, .ref w_gone, .ref w_held, .ref w_awaiting, .ref w_living, .ref w_heldBehind, .ref w_asked])), (nn, .inr (2, [.ref d_slots, .ref d_codes, .ref d_reasons, .int 0])), (mo, .inr (12, [.int 0, .ref vl, .ref sl])), (sl, .inr (0, [.int 0, .ref ae, .int 0]))] := hD
  refine lv_icmp_eq (tgt := 1950) hx hb dL_law_1890 (by decide) (fun c_1890 => ?_) (fun c_1890 => absurd (by decide) c_1890)
  refine lv_iinc (v := 5) (lv' := [(4, .int 5), (0, .ref b), (1, .ref x), (2, .ref mo), (3, .ref o)]) hx hb dL_law_1950 hl (k := 4) rfl (by decide) (by decide) rfl (fun ls hl => ?_)
  refine lv_goto (tgt := 23) hx hb dL_law_1953 (by decide) ?_
  refine lv_iload hx hb dL_law_23 (lv_at hl 0 rfl) ?_
  refine lv_aload_n hx hb dL_law_25 rfl (lv_at hl 1 rfl) ?_
  refine va_slen hx hb hX hbl hbA hS dL_law_26 ?_
  refine lv_topi (fun y_5 ey_5 => ?_)
  obtain rfl : y_5 = 5 := ey_5.trans (by decide)
  refine lv_iconst (v := 5) hx hb dL_law_27 (by decide) ?_
  refine lv_isub hx hb dL_law_28 ?_
  refine lv_topi (fun x_6 ex_6 => ?_)
  obtain rfl : x_6 = 0 := ex_6.trans (by decide)
  refine lv_icmp_gt (tgt := 1956) hx hb dL_law_29 (by decide) (fun c_29 => ?_) (fun c_29 => absurd (by decide) c_29)
  refine lv_iconst (v := 1) hx hb dL_law_1956 (by decide) ?_
  refine va_forget (fun q hq => by have h9 := hS.2.2 q hq; rw [← hAe] at h9; exact h9) ?_
  refine W.widen (k := 600002) (n := 7302232) (Nat.le_of_ble_eq_true rfl) (Nat.le_of_ble_eq_true rfl) ?_
  refine W.base ?_
  exact lw_ret (Drawn.sameBut.refl s.drawn lw_cs) hx hb hr hlocks dL_law_1957

set_option maxHeartbeats 4000000 in
set_option maxRecDepth 100000 in
theorem lc_30 {p : Program} {l : Launch} {e : Env} {s : State} {m : MethodId} {below : List Frame} {meth : Method} {c : Code} {b : Nat} {xs : Nat → Int32} (hfl : l.stackTraces = false) {ae : Nat} {D : va_G} {cI cJ cS cO : ClassId} (C0 : lw_At p s m meth c b 5 xs) (hK : va_K D vwCl [(cI, .int), (cJ, .long), (cS, .object "IronwoodModel$State"), (cO, .object "java/lang/Object")] s) (hG : Gl ae (fun q : Nat => s.heap.size ≤ q) s s.heap) (x : Nat) (t : Nat) (n : Nat) (sp : Nat) (t_kinds : Nat) (t_codes : Nat) (t_targets : Nat) (t_settings : Nat) (t_sources : Nat) (t_accessCounts : Nat) (t_acts : Nat) (t_actVariables : Nat) (t_actPlaces : Nat) (ns : Nat) (nw : Nat) (nn : Nat) (s_nexts : Nat) (s_jumps : Nat) (s_uses : Nat) (s_sets : Nat) (s_changes : Nat) (s_toUnmade : Nat) (s_toMade : Nat) (s_toGone : Nat) (w_unmade : Nat) (w_made : Nat) (w_gone : Nat) (w_held : Nat) (w_awaiting : Nat) (w_living : Nat) (w_heldBehind : Nat) (w_asked : Nat) (d_slots : Nat) (d_codes : Nat) (d_reasons : Nat) (mo : Nat) (vl : Nat) (sl : Nat) (o : Nat) (x1 : Int32) (e1 : xs (Int32.toNatClampNeg 1) = x1) (x2 : Int32) (e2 : xs (Int32.toNatClampNeg 2) = x2) (x3 : Int32) (e3 : xs (Int32.toNatClampNeg 3) = x3) (x4 : Int32) (e4 : xs (Int32.toNatClampNeg 4) = x4)  (H : Heap) (locs : List Loc) (hP : va_P D vwCl [(x, .inr (6, [.ref t, .ref n, .ref sp, .int 0])), (t, .inr (4, [.ref t_kinds, .int 0, .long 0, .long 0, .ref t_codes, .ref t_targets, .ref t_settings, .ref t_sources, .ref t_accessCounts, .int 0, .ref t_acts, .ref t_actVariables, .ref t_actPlaces])), (n, .inr (1, [.ref ns, .ref nw, .ref nn])), (ns, .inr (3, [.ref s_nexts, .ref s_jumps, .ref s_uses, .ref s_sets, .ref s_changes, .ref s_toUnmade, .ref s_toMade, .ref s_toGone, .int 0, .int 0, .int 0])), (nw, .inr (5, [.long 0, .ref w_unmade, .ref w_made, .ref w_gone, .ref w_held, .ref w_awaiting, .ref w_living, .ref w_heldBehind, .ref w_asked])), (nn, .inr (2, [.ref d_slots, .ref d_codes, .ref d_reasons, .int 0])), (mo, .inr (12, [.int 0, .ref vl, .ref sl])), (sl, .inr (0, [.int 0, .ref ae, .int 0])), (o, .inl (cJ, 1, .inr (.inl (fun _ => 0))))] H) (hD : va_D (fun q : Nat => s.heap.size ≤ q) [(x, .inr (6, [.ref t, .ref n, .ref sp, .int 0])), (t, .inr (4, [.ref t_kinds, .int 0, .long 0, .long 0, .ref t_codes, .ref t_targets, .ref t_settings, .ref t_sources, .ref t_accessCounts, .int 0, .ref t_acts, .ref t_actVariables, .ref t_actPlaces])), (n, .inr (1, [.ref ns, .ref nw, .ref nn])), (ns, .inr (3, [.ref s_nexts, .ref s_jumps, .ref s_uses, .ref s_sets, .ref s_changes, .ref s_toUnmade, .ref s_toMade, .ref s_toGone, .int 0, .int 0, .int 0])), (nw, .inr (5, [.long 0, .ref w_unmade, .ref w_made, .ref w_gone, .ref w_held, .ref w_awaiting, .ref w_living, .ref w_heldBehind, .ref w_asked])), (nn, .inr (2, [.ref d_slots, .ref d_codes, .ref d_reasons, .int 0])), (mo, .inr (12, [.int 0, .ref vl, .ref sl])), (sl, .inr (0, [.int 0, .ref ae, .int 0])), (o, .inl (cJ, 1, .inr (.inl (fun _ => 0))))]) (hS : va_S (fun q : Nat => s.heap.size ≤ q) s.heap H locs) (ls : Array Slot) (hl : lv_has ls 9 [(0, .ref b), (1, .ref x), (2, .ref mo), (3, .ref o), (4, .int 0)]) : W p l e room_1 s m #[Value.ref b] below meth c H locs 61 3597 (lw_Z below #[Value.ref b] s) (F0 m 1895 ls []) := by
  obtain ⟨hx, hb, hr, hml, hown, hts0, hX, hbl, hlocks, hgv⟩ := id C0
  have hts := law_hts hts0
  have hA : ∀ q : Nat, s.heap.size ≤ q → (fun q : Nat => s.heap.size ≤ q) q := fun _ h => h
  have hbA : ¬ (fun q : Nat => s.heap.size ≤ q) b := Nat.not_le.mpr hbl
  generalize hAe : (fun q : Nat => s.heap.size ≤ q) = A at hD hG hS hA hbA
  refine lv_aload_n hx hb dL_law_1895 rfl (lv_at hl 1 rfl) ?_
  refine kc_d (wr := [(mo, .inr (12, [.int 0, .ref vl, .ref sl])), (sl, .inr (0, [.int 0, .ref ae, .int 0])), (o, .inl (cJ, 1, .inr (.inl (fun _ => 0))))]) (va_runV (As := []) (rest := []) ⟨hx, hb, hml, hown, hts⟩ (k_density l hfl ae D cI cJ cS cO x t n sp t_kinds 0 0 0 t_codes t_targets t_settings t_sources t_accessCounts t_acts t_actVariables t_actPlaces ns nw nn s_nexts s_jumps s_uses s_sets s_changes s_toUnmade s_toMade s_toGone 0 0 0 0 w_unmade w_made w_gone w_held w_awaiting w_living w_heldBehind w_asked d_slots d_codes d_reasons 0 _) (cwV 0 hts (gV q_549 q_546 q_547 q_548 q_98) rfl rfl rfl (by decide +kernel) ⟨Nat.le_of_ble_eq_true rfl, Nat.le_of_ble_eq_true rfl⟩) ⟨Pw.blind, va_recv hK hP (ci := 6) (q0 := 0) rfl rfl, Pw.mk_call hP hK hD hS hA hG [0, 1, 2, 3, 4, 5] rfl (by decide)⟩ rfl rfl hl.1 rfl (lv_room (Nat.le_of_ble_eq_true rfl)) dL_law_1896 ⟨Nat.le_of_ble_eq_true rfl, Nat.le_of_ble_eq_true rfl⟩) hP hD hS hA [0, 1, 2, 3, 4, 5] [6, 7, 8] rfl rfl (by decide) (by decide) (fun r_1 u_2 H locs hw hP hD hS => ?_)
  obtain rfl : r_1 = 0 := hw
  have hP : va_P D vwCl [(mo, .inr (12, [.int 0, .ref vl, .ref sl])), (sl, .inr (0, [.int 0, .ref ae, .int 0])), (o, .inl (cJ, 1, .inr (.inl (fun _ => 0)))), (x, .inr (6, [.ref t, .ref n, .ref sp, .int 1])), (t, .inr (4, [.ref t_kinds, .int 0, .long 0, .long 0, .ref t_codes, .ref t_targets, .ref t_settings, .ref t_sources, .ref t_accessCounts, .int 0, .ref t_acts, .ref t_actVariables, .ref t_actPlaces])), (n, .inr (1, [.ref ns, .ref nw, .ref nn])), (ns, .inr (3, [.ref s_nexts, .ref s_jumps, .ref s_uses, .ref s_sets, .ref s_changes, .ref s_toUnmade, .ref s_toMade, .ref s_toGone, .int 0, .int (-1), .int (-1)])), (nw, .inr (5, [.long 0, .ref w_unmade, .ref w_made, .ref w_gone, .ref w_held, .ref w_awaiting, .ref w_living, .ref w_heldBehind, .ref w_asked])), (nn, .inr (2, [.ref d_slots, .ref d_codes, .ref d_reasons, .int 0]))] H := hP
  have hD : va_D A [(mo, .inr (12, [.int 0, .ref vl, .ref sl])), (sl, .inr (0, [.int 0, .ref ae, .int 0])), (o, .inl (cJ, 1, .inr (.inl (fun _ => 0)))), (x, .inr (6, [.ref t, .ref n, .ref sp, .int 1])), (t, .inr (4, [.ref t_kinds, .int 0, .long 0, .long 0, .ref t_codes, .ref t_targets, .ref t_settings, .ref t_sources, .ref t_accessCounts, .int 0, .ref t_acts, .ref t_actVariables, .ref t_actPlaces])), (n, .inr (1, [.ref ns, .ref nw, .ref nn])), (ns, .inr (3, [.ref s_nexts, .ref s_jumps, .ref s_uses, .ref s_sets, .ref s_changes, .ref s_toUnmade, .ref s_toMade, .ref s_toGone, .int 0, .int (-1), .int (-1)])), (nw, .inr (5, [.long 0, .ref w_unmade, .ref w_made, .ref w_gone, .ref w_held, .ref w_awaiting, .ref w_living, .ref w_heldBehind, .ref w_asked])), (nn, .inr (2, [.ref d_slots, .ref d_codes, .ref d_reasons, .int 0]))] := hD
  refine lv_dstore (lv' := [(5, .double 0), (0, .ref b), (1, .ref x), (2, .ref mo), (3, .ref o), (4, .int 0)]) hx hb dL_law_1899 hl (by decide) rfl (fun ls hl => ?_)
  refine lv_aload_n hx hb dL_law_1901 rfl (lv_at hl 3 rfl) ?_
  refine kc_d (wr := [(o, .inl (cJ, 1, .inr (.inl (fun _ => 0)))), (x, .inr (6, [.ref t, .ref n, .ref sp, .int 1])), (t, .inr (4, [.ref t_kinds, .int 0, .long 0, .long 0, .ref t_codes, .ref t_targets, .ref t_settings, .ref t_sources, .ref t_accessCounts, .int 0, .ref t_acts, .ref t_actVariables, .ref t_actPlaces])), (n, .inr (1, [.ref ns, .ref nw, .ref nn])), (ns, .inr (3, [.ref s_nexts, .ref s_jumps, .ref s_uses, .ref s_sets, .ref s_changes, .ref s_toUnmade, .ref s_toMade, .ref s_toGone, .int 0, .int (-1), .int (-1)])), (nw, .inr (5, [.long 0, .ref w_unmade, .ref w_made, .ref w_gone, .ref w_held, .ref w_awaiting, .ref w_living, .ref w_heldBehind, .ref w_asked])), (nn, .inr (2, [.ref d_slots, .ref d_codes, .ref d_reasons, .int 0]))]) (va_runV (As := []) (rest := []) ⟨hx, hb, hml, hown, hts⟩ (m_density l hfl ae D cI cJ cS cO mo vl sl _) (cwV 0 hts (gV q_1585 q_1582 q_1583 q_1584 q_104) rfl rfl rfl (by decide +kernel) ⟨Nat.le_of_ble_eq_true rfl, Nat.le_of_ble_eq_true rfl⟩) ⟨Pw.blind, va_recv hK hP (ci := 12) (q0 := 0) rfl rfl, Pw.mk_call hP hK hD hS hA hG [0, 1] rfl (by decide)⟩ rfl rfl hl.1 rfl (lv_room (Nat.le_of_ble_eq_true rfl)) dL_law_1902 ⟨Nat.le_of_ble_eq_true rfl, Nat.le_of_ble_eq_true rfl⟩) hP hD hS hA [0, 1] [2, 3, 4, 5, 6, 7, 8] rfl rfl (by decide) (by decide) (fun r_3 u_4 H locs hw hP hD hS => ?_)
  obtain rfl : r_3 = 0 := hw
  have hP : va_P D vwCl [(o, .inl (cJ, 1, .inr (.inl (fun _ => 0)))), (x, .inr (6, [.ref t, .ref n, .ref sp, .int 1])), (t, .inr (4, [.ref t_kinds, .int 0, .long 0, .long 0, .ref t_codes, .ref t_targets, .ref t_settings, .ref t_sources, .ref t_accessCounts, .int 0, .ref t_acts, .ref t_actVariables, .ref t_actPlaces])), (n, .inr (1, [.ref ns, .ref nw, .ref nn])), (ns, .inr (3, [.ref s_nexts, .ref s_jumps, .ref s_uses, .ref s_sets, .ref s_changes, .ref s_toUnmade, .ref s_toMade, .ref s_toGone, .int 0, .int (-1), .int (-1)])), (nw, .inr (5, [.long 0, .ref w_unmade, .ref w_made, .ref w_gone, .ref w_held, .ref w_awaiting, .ref w_living, .ref w_heldBehind, .ref w_asked])), (nn, .inr (2, [.ref d_slots, .ref d_codes, .ref d_reasons, .int 0])), (mo, .inr (12, [.int 0, .ref vl, .ref sl])), (sl, .inr (0, [.int 0, .ref ae, .int 0]))] H := hP
  have hD : va_D A [(o, .inl (cJ, 1, .inr (.inl (fun _ => 0)))), (x, .inr (6, [.ref t, .ref n, .ref sp, .int 1])), (t, .inr (4, [.ref t_kinds, .int 0, .long 0, .long 0, .ref t_codes, .ref t_targets, .ref t_settings, .ref t_sources, .ref t_accessCounts, .int 0, .ref t_acts, .ref t_actVariables, .ref t_actPlaces])), (n, .inr (1, [.ref ns, .ref nw, .ref nn])), (ns, .inr (3, [.ref s_nexts, .ref s_jumps, .ref s_uses, .ref s_sets, .ref s_changes, .ref s_toUnmade, .ref s_toMade, .ref s_toGone, .int 0, .int (-1), .int (-1)])), (nw, .inr (5, [.long 0, .ref w_unmade, .ref w_made, .ref w_gone, .ref w_held, .ref w_awaiting, .ref w_living, .ref w_heldBehind, .ref w_asked])), (nn, .inr (2, [.ref d_slots, .ref d_codes, .ref d_reasons, .int 0])), (mo, .inr (12, [.int 0, .ref vl, .ref sl])), (sl, .inr (0, [.int 0, .ref ae, .int 0]))] := hD
  refine lv_dstore (lv' := [(7, .double 0), (5, .double 0), (0, .ref b), (1, .ref x), (2, .ref mo), (3, .ref o), (4, .int 0)]) hx hb dL_law_1905 hl (by decide) rfl (fun ls hl => ?_)
  refine lv_dload hx hb dL_law_1907 (lv_at hl 1 rfl) ?_
  refine lv_dload hx hb dL_law_1909 (lv_at hl 0 rfl) ?_
  refine lv_dcmp hx hb dL_law_1911 ?_
  refine lv_topi (fun y_5 ey_5 => ?_)
  obtain rfl : y_5 = 0 := ey_5.trans (by decide)
  refine lv_if_eq (tgt := 1933) hx hb dL_law_1912 (by decide) (fun c_1912 => ?_) (fun c_1912 => absurd (by decide) c_1912)
  refine lv_goto (tgt := 1950) hx hb dL_law_1933 (by decide) ?_
  refine lv_iinc (v := 5) (lv' := [(4, .int 5), (7, .double 0), (5, .double 0), (0, .ref b), (1, .ref x), (2, .ref mo), (3, .ref o)]) hx hb dL_law_1950 hl (k := 6) rfl (by decide) (by decide) rfl (fun ls hl => ?_)
  refine lv_goto (tgt := 23) hx hb dL_law_1953 (by decide) ?_
  refine lv_iload hx hb dL_law_23 (lv_at hl 0 rfl) ?_
  refine lv_aload_n hx hb dL_law_25 rfl (lv_at hl 3 rfl) ?_
  refine va_slen hx hb hX hbl hbA hS dL_law_26 ?_
  refine lv_topi (fun y_6 ey_6 => ?_)
  obtain rfl : y_6 = 5 := ey_6.trans (by decide)
  refine lv_iconst (v := 5) hx hb dL_law_27 (by decide) ?_
  refine lv_isub hx hb dL_law_28 ?_
  refine lv_topi (fun x_7 ex_7 => ?_)
  obtain rfl : x_7 = 0 := ex_7.trans (by decide)
  refine lv_icmp_gt (tgt := 1956) hx hb dL_law_29 (by decide) (fun c_29 => ?_) (fun c_29 => absurd (by decide) c_29)
  refine lv_iconst (v := 1) hx hb dL_law_1956 (by decide) ?_
  refine va_forget (fun q hq => by have h9 := hS.2.2 q hq; rw [← hAe] at h9; exact h9) ?_
  refine W.widen (k := 600002) (n := 7302232) (Nat.le_of_ble_eq_true rfl) (Nat.le_of_ble_eq_true rfl) ?_
  refine W.base ?_
  exact lw_ret (Drawn.sameBut.refl s.drawn lw_cs) hx hb hr hlocks dL_law_1957

set_option maxHeartbeats 4000000 in
set_option maxRecDepth 100000 in
theorem lc_31 {p : Program} {l : Launch} {e : Env} {s : State} {m : MethodId} {below : List Frame} {meth : Method} {c : Code} {b : Nat} {xs : Nat → Int32} (hfl : l.stackTraces = false) {ae : Nat} {D : va_G} {cI cJ cS cO : ClassId} (C0 : lw_At p s m meth c b 5 xs) (hK : va_K D vwCl [(cI, .int), (cJ, .long), (cS, .object "IronwoodModel$State"), (cO, .object "java/lang/Object")] s) (hG : Gl ae (fun q : Nat => s.heap.size ≤ q) s s.heap) (x : Nat) (t : Nat) (n : Nat) (sp : Nat) (t_kinds : Nat) (t_codes : Nat) (t_targets : Nat) (t_settings : Nat) (t_sources : Nat) (t_accessCounts : Nat) (t_acts : Nat) (t_actVariables : Nat) (t_actPlaces : Nat) (ns : Nat) (nw : Nat) (nn : Nat) (s_nexts : Nat) (s_jumps : Nat) (s_uses : Nat) (s_sets : Nat) (s_changes : Nat) (s_toUnmade : Nat) (s_toMade : Nat) (s_toGone : Nat) (w_unmade : Nat) (w_made : Nat) (w_gone : Nat) (w_held : Nat) (w_awaiting : Nat) (w_living : Nat) (w_heldBehind : Nat) (w_asked : Nat) (d_slots : Nat) (d_codes : Nat) (d_reasons : Nat) (mo : Nat) (vl : Nat) (sl : Nat) (o : Nat) (x1 : Int32) (e1 : xs (Int32.toNatClampNeg 1) = x1) (x2 : Int32) (e2 : xs (Int32.toNatClampNeg 2) = x2) (x3 : Int32) (e3 : xs (Int32.toNatClampNeg 3) = x3) (x4 : Int32) (e4 : xs (Int32.toNatClampNeg 4) = x4)  (H : Heap) (locs : List Loc) (hP : va_P D vwCl [(x, .inr (6, [.ref t, .ref n, .ref sp, .int 0])), (t, .inr (4, [.ref t_kinds, .int 0, .long 0, .long 0, .ref t_codes, .ref t_targets, .ref t_settings, .ref t_sources, .ref t_accessCounts, .int 0, .ref t_acts, .ref t_actVariables, .ref t_actPlaces])), (n, .inr (1, [.ref ns, .ref nw, .ref nn])), (ns, .inr (3, [.ref s_nexts, .ref s_jumps, .ref s_uses, .ref s_sets, .ref s_changes, .ref s_toUnmade, .ref s_toMade, .ref s_toGone, .int 0, .int 0, .int 0])), (nw, .inr (5, [.long 0, .ref w_unmade, .ref w_made, .ref w_gone, .ref w_held, .ref w_awaiting, .ref w_living, .ref w_heldBehind, .ref w_asked])), (nn, .inr (2, [.ref d_slots, .ref d_codes, .ref d_reasons, .int 0])), (d_slots, .inl (cI, 280, .inl (fun _ => 0))), (mo, .inr (12, [.int 0, .ref vl, .ref sl])), (vl, .inr (0, [.int 0, .ref ae, .int 0])), (sl, .inr (0, [.int 0, .ref ae, .int 0])), (o, .inl (cJ, 1, .inr (.inl (fun _ => 0))))] H) (hD : va_D (fun q : Nat => s.heap.size ≤ q) [(x, .inr (6, [.ref t, .ref n, .ref sp, .int 0])), (t, .inr (4, [.ref t_kinds, .int 0, .long 0, .long 0, .ref t_codes, .ref t_targets, .ref t_settings, .ref t_sources, .ref t_accessCounts, .int 0, .ref t_acts, .ref t_actVariables, .ref t_actPlaces])), (n, .inr (1, [.ref ns, .ref nw, .ref nn])), (ns, .inr (3, [.ref s_nexts, .ref s_jumps, .ref s_uses, .ref s_sets, .ref s_changes, .ref s_toUnmade, .ref s_toMade, .ref s_toGone, .int 0, .int 0, .int 0])), (nw, .inr (5, [.long 0, .ref w_unmade, .ref w_made, .ref w_gone, .ref w_held, .ref w_awaiting, .ref w_living, .ref w_heldBehind, .ref w_asked])), (nn, .inr (2, [.ref d_slots, .ref d_codes, .ref d_reasons, .int 0])), (d_slots, .inl (cI, 280, .inl (fun _ => 0))), (mo, .inr (12, [.int 0, .ref vl, .ref sl])), (vl, .inr (0, [.int 0, .ref ae, .int 0])), (sl, .inr (0, [.int 0, .ref ae, .int 0])), (o, .inl (cJ, 1, .inr (.inl (fun _ => 0))))]) (hS : va_S (fun q : Nat => s.heap.size ≤ q) s.heap H locs) (ls : Array Slot) (hl : lv_has ls 9 [(0, .ref b), (1, .ref x), (2, .ref mo), (3, .ref o), (4, .int 0)]) : W p l e room_1 s m #[Value.ref b] below meth c H locs 61 3597 (lw_Z below #[Value.ref b] s) (F0 m 1936 ls []) := by
  obtain ⟨hx, hb, hr, hml, hown, hts0, hX, hbl, hlocks, hgv⟩ := id C0
  have hts := law_hts hts0
  have hA : ∀ q : Nat, s.heap.size ≤ q → (fun q : Nat => s.heap.size ≤ q) q := fun _ h => h
  have hbA : ¬ (fun q : Nat => s.heap.size ≤ q) b := Nat.not_le.mpr hbl
  generalize hAe : (fun q : Nat => s.heap.size ≤ q) = A at hD hG hS hA hbA
  refine lv_aload_n hx hb dL_law_1936 rfl (lv_at hl 1 rfl) ?_
  refine kc_l (wr := [(mo, .inr (12, [.int 0, .ref vl, .ref sl])), (vl, .inr (0, [.int 0, .ref ae, .int 0])), (sl, .inr (0, [.int 0, .ref ae, .int 0])), (o, .inl (cJ, 1, .inr (.inl (fun _ => 0))))]) (va_runV (As := []) (rest := []) ⟨hx, hb, hml, hown, hts⟩ (k_digest l hfl ae D cI cJ cS cO x t n sp t_kinds 0 0 t_codes t_targets t_settings t_sources t_accessCounts t_acts t_actVariables t_actPlaces ns nw nn s_nexts s_jumps s_uses s_sets s_changes s_toUnmade s_toMade s_toGone 0 0 0 0 w_unmade w_made w_gone w_held w_awaiting w_living w_heldBehind w_asked d_codes d_reasons 0 d_slots (fun _ => 0) _) (cwV 0 hts (gV q_559 q_556 q_557 q_558 q_98) rfl rfl rfl (by decide +kernel) ⟨Nat.le_of_ble_eq_true rfl, Nat.le_of_ble_eq_true rfl⟩) ⟨Pw.blind, va_recv hK hP (ci := 6) (q0 := 0) rfl rfl, Pw.mk_call hP hK hD hS hA hG [0, 1, 2, 3, 4, 5, 6] rfl (by decide)⟩ rfl rfl hl.1 rfl (lv_room (Nat.le_of_ble_eq_true rfl)) dL_law_1937 ⟨Nat.le_of_ble_eq_true rfl, Nat.le_of_ble_eq_true rfl⟩) hP hD hS hA [0, 1, 2, 3, 4, 5, 6] [7, 8, 9, 10] rfl rfl (by decide) (by decide) (fun r_1 u_2 H locs hw hP hD hS => ?_)
  obtain rfl : r_1 = (-7755072763884291191) := hw
  have hP : va_P D vwCl [(mo, .inr (12, [.int 0, .ref vl, .ref sl])), (vl, .inr (0, [.int 0, .ref ae, .int 0])), (sl, .inr (0, [.int 0, .ref ae, .int 0])), (o, .inl (cJ, 1, .inr (.inl (fun _ => 0)))), (x, .inr (6, [.ref t, .ref n, .ref sp, .int 1])), (t, .inr (4, [.ref t_kinds, .int 0, .long 0, .long 0, .ref t_codes, .ref t_targets, .ref t_settings, .ref t_sources, .ref t_accessCounts, .int 0, .ref t_acts, .ref t_actVariables, .ref t_actPlaces])), (n, .inr (1, [.ref ns, .ref nw, .ref nn])), (ns, .inr (3, [.ref s_nexts, .ref s_jumps, .ref s_uses, .ref s_sets, .ref s_changes, .ref s_toUnmade, .ref s_toMade, .ref s_toGone, .int 0, .int (-1), .int (-1)])), (nw, .inr (5, [.long 0, .ref w_unmade, .ref w_made, .ref w_gone, .ref w_held, .ref w_awaiting, .ref w_living, .ref w_heldBehind, .ref w_asked])), (nn, .inr (2, [.ref d_slots, .ref d_codes, .ref d_reasons, .int 0])), (d_slots, .inl (cI, 280, .inl (fun _ => 0)))] H := hP
  have hD : va_D A [(mo, .inr (12, [.int 0, .ref vl, .ref sl])), (vl, .inr (0, [.int 0, .ref ae, .int 0])), (sl, .inr (0, [.int 0, .ref ae, .int 0])), (o, .inl (cJ, 1, .inr (.inl (fun _ => 0)))), (x, .inr (6, [.ref t, .ref n, .ref sp, .int 1])), (t, .inr (4, [.ref t_kinds, .int 0, .long 0, .long 0, .ref t_codes, .ref t_targets, .ref t_settings, .ref t_sources, .ref t_accessCounts, .int 0, .ref t_acts, .ref t_actVariables, .ref t_actPlaces])), (n, .inr (1, [.ref ns, .ref nw, .ref nn])), (ns, .inr (3, [.ref s_nexts, .ref s_jumps, .ref s_uses, .ref s_sets, .ref s_changes, .ref s_toUnmade, .ref s_toMade, .ref s_toGone, .int 0, .int (-1), .int (-1)])), (nw, .inr (5, [.long 0, .ref w_unmade, .ref w_made, .ref w_gone, .ref w_held, .ref w_awaiting, .ref w_living, .ref w_heldBehind, .ref w_asked])), (nn, .inr (2, [.ref d_slots, .ref d_codes, .ref d_reasons, .int 0])), (d_slots, .inl (cI, 280, .inl (fun _ => 0)))] := hD
  refine lv_aload_n hx hb dL_law_1940 rfl (lv_at hl 2 rfl) ?_
  refine kc_l (wr := [(o, .inl (cJ, 1, .inr (.inl (fun _ => 0)))), (x, .inr (6, [.ref t, .ref n, .ref sp, .int 1])), (t, .inr (4, [.ref t_kinds, .int 0, .long 0, .long 0, .ref t_codes, .ref t_targets, .ref t_settings, .ref t_sources, .ref t_accessCounts, .int 0, .ref t_acts, .ref t_actVariables, .ref t_actPlaces])), (n, .inr (1, [.ref ns, .ref nw, .ref nn])), (ns, .inr (3, [.ref s_nexts, .ref s_jumps, .ref s_uses, .ref s_sets, .ref s_changes, .ref s_toUnmade, .ref s_toMade, .ref s_toGone, .int 0, .int (-1), .int (-1)])), (nw, .inr (5, [.long 0, .ref w_unmade, .ref w_made, .ref w_gone, .ref w_held, .ref w_awaiting, .ref w_living, .ref w_heldBehind, .ref w_asked])), (nn, .inr (2, [.ref d_slots, .ref d_codes, .ref d_reasons, .int 0])), (d_slots, .inl (cI, 280, .inl (fun _ => 0)))]) (va_runV (As := []) (rest := [.long (-7755072763884291191)]) ⟨hx, hb, hml, hown, hts⟩ (m_digest l hfl ae D cI cJ cS cO mo vl sl _) (cwV 0 hts (gV q_1589 q_1586 q_1587 q_1588 q_104) rfl rfl rfl (by decide +kernel) ⟨Nat.le_of_ble_eq_true rfl, Nat.le_of_ble_eq_true rfl⟩) ⟨Pw.blind, va_recv hK hP (ci := 12) (q0 := 0) rfl rfl, Pw.mk_call hP hK hD hS hA hG [0, 1, 2] rfl (by decide)⟩ rfl rfl hl.1 rfl (lv_room (Nat.le_of_ble_eq_true rfl)) dL_law_1941 ⟨Nat.le_of_ble_eq_true rfl, Nat.le_of_ble_eq_true rfl⟩) hP hD hS hA [0, 1, 2] [3, 4, 5, 6, 7, 8, 9, 10] rfl rfl (by decide) (by decide) (fun r_3 u_4 H locs hw hP hD hS => ?_)
  obtain rfl : r_3 = (-7755072763884291191) := hw
  have hP : va_P D vwCl [(o, .inl (cJ, 1, .inr (.inl (fun _ => 0)))), (x, .inr (6, [.ref t, .ref n, .ref sp, .int 1])), (t, .inr (4, [.ref t_kinds, .int 0, .long 0, .long 0, .ref t_codes, .ref t_targets, .ref t_settings, .ref t_sources, .ref t_accessCounts, .int 0, .ref t_acts, .ref t_actVariables, .ref t_actPlaces])), (n, .inr (1, [.ref ns, .ref nw, .ref nn])), (ns, .inr (3, [.ref s_nexts, .ref s_jumps, .ref s_uses, .ref s_sets, .ref s_changes, .ref s_toUnmade, .ref s_toMade, .ref s_toGone, .int 0, .int (-1), .int (-1)])), (nw, .inr (5, [.long 0, .ref w_unmade, .ref w_made, .ref w_gone, .ref w_held, .ref w_awaiting, .ref w_living, .ref w_heldBehind, .ref w_asked])), (nn, .inr (2, [.ref d_slots, .ref d_codes, .ref d_reasons, .int 0])), (d_slots, .inl (cI, 280, .inl (fun _ => 0))), (mo, .inr (12, [.int 0, .ref vl, .ref sl])), (vl, .inr (0, [.int 0, .ref ae, .int 0])), (sl, .inr (0, [.int 0, .ref ae, .int 0]))] H := hP
  have hD : va_D A [(o, .inl (cJ, 1, .inr (.inl (fun _ => 0)))), (x, .inr (6, [.ref t, .ref n, .ref sp, .int 1])), (t, .inr (4, [.ref t_kinds, .int 0, .long 0, .long 0, .ref t_codes, .ref t_targets, .ref t_settings, .ref t_sources, .ref t_accessCounts, .int 0, .ref t_acts, .ref t_actVariables, .ref t_actPlaces])), (n, .inr (1, [.ref ns, .ref nw, .ref nn])), (ns, .inr (3, [.ref s_nexts, .ref s_jumps, .ref s_uses, .ref s_sets, .ref s_changes, .ref s_toUnmade, .ref s_toMade, .ref s_toGone, .int 0, .int (-1), .int (-1)])), (nw, .inr (5, [.long 0, .ref w_unmade, .ref w_made, .ref w_gone, .ref w_held, .ref w_awaiting, .ref w_living, .ref w_heldBehind, .ref w_asked])), (nn, .inr (2, [.ref d_slots, .ref d_codes, .ref d_reasons, .int 0])), (d_slots, .inl (cI, 280, .inl (fun _ => 0))), (mo, .inr (12, [.int 0, .ref vl, .ref sl])), (vl, .inr (0, [.int 0, .ref ae, .int 0])), (sl, .inr (0, [.int 0, .ref ae, .int 0]))] := hD
  refine W.lcmp hx hb dL_law_1944 ?_
  refine lv_topi (fun y_5 ey_5 => ?_)
  obtain rfl : y_5 = 0 := ey_5.trans (by decide)
  refine lv_if_eq (tgt := 1950) hx hb dL_law_1945 (by decide) (fun c_1945 => ?_) (fun c_1945 => absurd (by decide) c_1945)
  refine lv_iinc (v := 5) (lv' := [(4, .int 5), (0, .ref b), (1, .ref x), (2, .ref mo), (3, .ref o)]) hx hb dL_law_1950 hl (k := 4) rfl (by decide) (by decide) rfl (fun ls hl => ?_)
  refine lv_goto (tgt := 23) hx hb dL_law_1953 (by decide) ?_
  refine lv_iload hx hb dL_law_23 (lv_at hl 0 rfl) ?_
  refine lv_aload_n hx hb dL_law_25 rfl (lv_at hl 1 rfl) ?_
  refine va_slen hx hb hX hbl hbA hS dL_law_26 ?_
  refine lv_topi (fun y_6 ey_6 => ?_)
  obtain rfl : y_6 = 5 := ey_6.trans (by decide)
  refine lv_iconst (v := 5) hx hb dL_law_27 (by decide) ?_
  refine lv_isub hx hb dL_law_28 ?_
  refine lv_topi (fun x_7 ex_7 => ?_)
  obtain rfl : x_7 = 0 := ex_7.trans (by decide)
  refine lv_icmp_gt (tgt := 1956) hx hb dL_law_29 (by decide) (fun c_29 => ?_) (fun c_29 => absurd (by decide) c_29)
  refine lv_iconst (v := 1) hx hb dL_law_1956 (by decide) ?_
  refine va_forget (fun q hq => by have h9 := hS.2.2 q hq; rw [← hAe] at h9; exact h9) ?_
  refine W.widen (k := 600002) (n := 7302232) (Nat.le_of_ble_eq_true rfl) (Nat.le_of_ble_eq_true rfl) ?_
  refine W.base ?_
  exact lw_ret (Drawn.sameBut.refl s.drawn lw_cs) hx hb hr hlocks dL_law_1957
