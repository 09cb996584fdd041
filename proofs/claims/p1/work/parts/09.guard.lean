set_option maxHeartbeats 4000000 in
set_option maxRecDepth 100000 in
theorem k_requireVariable_x (l : Launch) (hfl : l.stackTraces = false) (ae : Nat) (D : va_G) (cI cJ cS cO : ClassId) (x : Nat) (t : Nat) (n : Nat) (x_supposed : Nat) (x_isChecked : Int32) (t_kinds : Nat) (t_parameterCells : Int64) (t_otherCells : Int64) (t_codes : Nat) (t_targets : Nat) (t_settings : Nat) (t_sources : Nat) (t_accessCounts : Nat) (t_statementCount : Int32) (t_acts : Nat) (t_actVariables : Nat) (t_actPlaces : Nat) (v : Int32) (sz : Nat)  : vx_Met l yX5_requireVariable (wx (.code yX5_requireVariable cX5_requireVariable 2 none)) ({ frames := 6, cells := 1, slots := 6, locals := 82 }) (va_Pc [.ref x, .int v] (Pw ae D vwCl [(cI, .int), (cJ, .long), (cS, .object "IronwoodModel$State"), (cO, .object "java/lang/Object")] [(x, .inr (6, [.ref t, .ref n, .ref x_supposed, .int x_isChecked])), (t, .inr (4, [.ref t_kinds, .int 0, .long t_parameterCells, .long t_otherCells, .ref t_codes, .ref t_targets, .ref t_settings, .ref t_sources, .ref t_accessCounts, .int t_statementCount, .ref t_acts, .ref t_actVariables, .ref t_actPlaces]))] sz)) Qn (Xw D vwCl "java/lang/IndexOutOfBoundsException" [(x, .inr (6, [.ref t, .ref n, .ref x_supposed, .int x_isChecked])), (t, .inr (4, [.ref t_kinds, .int 0, .long t_parameterCells, .long t_otherCells, .ref t_codes, .ref t_targets, .ref t_settings, .ref t_sources, .ref t_accessCounts, .int t_statementCount, .ref t_acts, .ref t_actVariables, .ref t_actPlaces]))] (va_A [(x, .inr (6, [.ref t, .ref n, .ref x_supposed, .int x_isChecked])), (t, .inr (4, [.ref t_kinds, .int 0, .long t_parameterCells, .long t_otherCells, .ref t_codes, .ref t_targets, .ref t_settings, .ref t_sources, .ref t_accessCounts, .int t_statementCount, .ref t_acts, .ref t_actVariables, .ref t_actPlaces]))] sz)) 1 6 (va_A [(x, .inr (6, [.ref t, .ref n, .ref x_supposed, .int x_isChecked])), (t, .inr (4, [.ref t_kinds, .int 0, .long t_parameterCells, .long t_otherCells, .ref t_codes, .ref t_targets, .ref t_settings, .ref t_sources, .ref t_accessCounts, .int t_statementCount, .ref t_acts, .ref t_actVariables, .ref t_actPlaces]))] sz) := by
  refine vx_ofW (cc := cX5_requireVariable) (maxL := 2) (ret := none) (by decide) rfl ?_
  intro p e s m args below meth c s₁ B hml htab hv9
  obtain ⟨rfl, hsz, hP, hK, hD0, hG⟩ := hv9
  have hx := B.exec
  have hb := B.bytes
  have hr := B.returns
  have hts := atoms_spec (ws := wx (.code yX5_requireVariable cX5_requireVariable 2 none)) B.pre
  have hown : s.vm.findClass RX5 = some m.cls := findClass_of_methodNamed B.named
  have hlocks := B.notSynchronized
  subst hsz
  have hD := hD0.self (sz := s.heap.size)
  generalize hAe : va_A [(x, .inr (6, [.ref t, .ref n, .ref x_supposed, .int x_isChecked])), (t, .inr (4, [.ref t_kinds, .int 0, .long t_parameterCells, .long t_otherCells, .ref t_codes, .ref t_targets, .ref t_settings, .ref t_sources, .ref t_accessCounts, .int t_statementCount, .ref t_acts, .ref t_actVariables, .ref t_actPlaces]))] s.heap.size = A at hD hG ⊢
  have hA : ∀ q : Nat, s.heap.size ≤ q → A q := fun q h => by rw [← hAe]; exact Or.inr h
  have hS : va_S A s.heap s.heap [] := va_S.rf
  have hP : va_P D vwCl [(x, .inr (6, [.ref t, .ref n, .ref x_supposed, .int x_isChecked])), (t, .inr (4, [.ref t_kinds, .int 0, .long t_parameterCells, .long t_otherCells, .ref t_codes, .ref t_targets, .ref t_settings, .ref t_sources, .ref t_accessCounts, .int t_statementCount, .ref t_acts, .ref t_actVariables, .ref t_actPlaces]))] s.heap := hP
  have hl := lv_entry ([.ref x, .int v]) (n := 2) (Nat.le_of_ble_eq_true rfl)
  rw [lg_entry_eq]
  generalize (lg_sl ([.ref x, .int v]) ++ List.replicate (2 - (lg_sl ([.ref x, .int v])).length) Slot.unset).toArray = ls at hl ⊢
  have hl : lv_has ls 2 [(0, .ref x), (1, .int v)] := hl
  refine lv_iload_n hx hb dX5_requireVariable_0 rfl (lv_at hl 1 rfl) ?_
  refine lv_if_lt (tgt := 15) hx hb dX5_requireVariable_1 (by decide) (fun c_1 => ?_) (fun c_1 => ?_)
  · skip
    exact ke_t (names := ["java/lang/RuntimeException", "java/lang/Exception"]) hx hb hfl hG 2 rfl hown (by decide +kernel) (by decide +kernel) (hts _ (mc q_730)) (hts _ (mc q_118)) (hG.1.at (fun w h => hts w (List.mem_cons_of_mem _ (in_at_196 w h))) (by decide +kernel)) (by decide +kernel) (by rw [hml]; exact hl.1) dX5_requireVariable_15 dX5_requireVariable_18 dX5_requireVariable_19 dX5_requireVariable_21 dX5_requireVariable_24 htab (Nat.le_of_ble_eq_true rfl) (Nat.le_of_ble_eq_true rfl) (Nat.le_of_ble_eq_true rfl) (Nat.le_of_ble_eq_true rfl) hlocks hP hD hS (Nat.le_of_ble_eq_true rfl) (Nat.le_of_ble_eq_true rfl)
  · skip
    refine lv_iload_n hx hb dX5_requireVariable_4 rfl (lv_at hl 1 rfl) ?_
    refine lv_aload_n hx hb dX5_requireVariable_5 rfl (lv_at hl 0 rfl) ?_
    refine va_get (D := D) (ci := 6) (v := .ref t) (C := RX5) (T := TX5) (N := 4) (ref := "Ironwood") hx hb hts in_RX5 hown hK hP 0 rfl rfl 0 (by decide) (hts _ (mc q_338)) (fun _ h9 => h9) rfl dX5_requireVariable_6 ?_
    refine va_getN (D := D) (ci := 4) (v := .int 0) (C := RX3) (T := TX3) (N := 13) (ref := "Ironwood$Told") (host := "Ironwood") hx hb hts in_RX3 hown hK hP 1 rfl rfl 1 (by decide) (hG.1.get 1 rfl) (fun _ h9 => h9) rfl dX5_requireVariable_9 ?_
    refine lv_icmp_lt (tgt := 25) hx hb dX5_requireVariable_12 (by decide) (fun c_12 => absurd c_12 c_1) (fun c_12 => ?_)
    exact ke_t (names := ["java/lang/RuntimeException", "java/lang/Exception"]) hx hb hfl hG 2 rfl hown (by decide +kernel) (by decide +kernel) (hts _ (mc q_730)) (hts _ (mc q_118)) (hG.1.at (fun w h => hts w (List.mem_cons_of_mem _ (in_at_196 w h))) (by decide +kernel)) (by decide +kernel) (by rw [hml]; exact hl.1) dX5_requireVariable_15 dX5_requireVariable_18 dX5_requireVariable_19 dX5_requireVariable_21 dX5_requireVariable_24 htab (Nat.le_of_ble_eq_true rfl) (Nat.le_of_ble_eq_true rfl) (Nat.le_of_ble_eq_true rfl) (Nat.le_of_ble_eq_true rfl) hlocks hP hD hS (Nat.le_of_ble_eq_true rfl) (Nat.le_of_ble_eq_true rfl)

set_option maxHeartbeats 4000000 in
set_option maxRecDepth 100000 in
theorem k_requireStatement_x (l : Launch) (hfl : l.stackTraces = false) (ae : Nat) (D : va_G) (cI cJ cS cO : ClassId) (x : Nat) (t : Nat) (n : Nat) (x_supposed : Nat) (x_isChecked : Int32) (t_kinds : Nat) (t_variableCount : Int32) (t_parameterCells : Int64) (t_otherCells : Int64) (t_codes : Nat) (t_targets : Nat) (t_settings : Nat) (t_sources : Nat) (t_accessCounts : Nat) (t_acts : Nat) (t_actVariables : Nat) (t_actPlaces : Nat) (v : Int32) (sz : Nat)  : vx_Met l yX5_requireStatement (wx (.code yX5_requireStatement cX5_requireStatement 2 none)) ({ frames := 6, cells := 1, slots := 6, locals := 82 }) (va_Pc [.ref x, .int v] (Pw ae D vwCl [(cI, .int), (cJ, .long), (cS, .object "IronwoodModel$State"), (cO, .object "java/lang/Object")] [(x, .inr (6, [.ref t, .ref n, .ref x_supposed, .int x_isChecked])), (t, .inr (4, [.ref t_kinds, .int t_variableCount, .long t_parameterCells, .long t_otherCells, .ref t_codes, .ref t_targets, .ref t_settings, .ref t_sources, .ref t_accessCounts, .int 0, .ref t_acts, .ref t_actVariables, .ref t_actPlaces]))] sz)) Qn (Xw D vwCl "java/lang/IndexOutOfBoundsException" [(x, .inr (6, [.ref t, .ref n, .ref x_supposed, .int x_isChecked])), (t, .inr (4, [.ref t_kinds, .int t_variableCount, .long t_parameterCells, .long t_otherCells, .ref t_codes, .ref t_targets, .ref t_settings, .ref t_sources, .ref t_accessCounts, .int 0, .ref t_acts, .ref t_actVariables, .ref t_actPlaces]))] (va_A [(x, .inr (6, [.ref t, .ref n, .ref x_supposed, .int x_isChecked])), (t, .inr (4, [.ref t_kinds, .int t_variableCount, .long t_parameterCells, .long t_otherCells, .ref t_codes, .ref t_targets, .ref t_settings, .ref t_sources, .ref t_accessCounts, .int 0, .ref t_acts, .ref t_actVariables, .ref t_actPlaces]))] sz)) 1 6 (va_A [(x, .inr (6, [.ref t, .ref n, .ref x_supposed, .int x_isChecked])), (t, .inr (4, [.ref t_kinds, .int t_variableCount, .long t_parameterCells, .long t_otherCells, .ref t_codes, .ref t_targets, .ref t_settings, .ref t_sources, .ref t_accessCounts, .int 0, .ref t_acts, .ref t_actVariables, .ref t_actPlaces]))] sz) := by
  refine vx_ofW (cc := cX5_requireStatement) (maxL := 2) (ret := none) (by decide) rfl ?_
  intro p e s m args below meth c s₁ B hml htab hv9
  obtain ⟨rfl, hsz, hP, hK, hD0, hG⟩ := hv9
  have hx := B.exec
  have hb := B.bytes
  have hr := B.returns
  have hts := atoms_spec (ws := wx (.code yX5_requireStatement cX5_requireStatement 2 none)) B.pre
  have hown : s.vm.findClass RX5 = some m.cls := findClass_of_methodNamed B.named
  have hlocks := B.notSynchronized
  subst hsz
  have hD := hD0.self (sz := s.heap.size)
  generalize hAe : va_A [(x, .inr (6, [.ref t, .ref n, .ref x_supposed, .int x_isChecked])), (t, .inr (4, [.ref t_kinds, .int t_variableCount, .long t_parameterCells, .long t_otherCells, .ref t_codes, .ref t_targets, .ref t_settings, .ref t_sources, .ref t_accessCounts, .int 0, .ref t_acts, .ref t_actVariables, .ref t_actPlaces]))] s.heap.size = A at hD hG ⊢
  have hA : ∀ q : Nat, s.heap.size ≤ q → A q := fun q h => by rw [← hAe]; exact Or.inr h
  have hS : va_S A s.heap s.heap [] := va_S.rf
  have hP : va_P D vwCl [(x, .inr (6, [.ref t, .ref n, .ref x_supposed, .int x_isChecked])), (t, .inr (4, [.ref t_kinds, .int t_variableCount, .long t_parameterCells, .long t_otherCells, .ref t_codes, .ref t_targets, .ref t_settings, .ref t_sources, .ref t_accessCounts, .int 0, .ref t_acts, .ref t_actVariables, .ref t_actPlaces]))] s.heap := hP
  have hl := lv_entry ([.ref x, .int v]) (n := 2) (Nat.le_of_ble_eq_true rfl)
  rw [lg_entry_eq]
  generalize (lg_sl ([.ref x, .int v]) ++ List.replicate (2 - (lg_sl ([.ref x, .int v])).length) Slot.unset).toArray = ls at hl ⊢
  have hl : lv_has ls 2 [(0, .ref x), (1, .int v)] := hl
  refine lv_iload_n hx hb dX5_requireStatement_0 rfl (lv_at hl 1 rfl) ?_
  refine lv_if_lt (tgt := 15) hx hb dX5_requireStatement_1 (by decide) (fun c_1 => ?_) (fun c_1 => ?_)
  · skip
    exact ke_t (names := ["java/lang/RuntimeException", "java/lang/Exception"]) hx hb hfl hG 13 rfl hown (by decide +kernel) (by decide +kernel) (hts _ (mc q_730)) (hts _ (mc q_118)) (hG.1.at (fun w h => hts w (List.mem_cons_of_mem _ (in_at_196 w h))) (by decide +kernel)) (by decide +kernel) (by rw [hml]; exact hl.1) dX5_requireStatement_15 dX5_requireStatement_18 dX5_requireStatement_19 dX5_requireStatement_21 dX5_requireStatement_24 htab (Nat.le_of_ble_eq_true rfl) (Nat.le_of_ble_eq_true rfl) (Nat.le_of_ble_eq_true rfl) (Nat.le_of_ble_eq_true rfl) hlocks hP hD hS (Nat.le_of_ble_eq_true rfl) (Nat.le_of_ble_eq_true rfl)
  · skip
    refine lv_iload_n hx hb dX5_requireStatement_4 rfl (lv_at hl 1 rfl) ?_
    refine lv_aload_n hx hb dX5_requireStatement_5 rfl (lv_at hl 0 rfl) ?_
    refine va_get (D := D) (ci := 6) (v := .ref t) (C := RX5) (T := TX5) (N := 4) (ref := "Ironwood") hx hb hts in_RX5 hown hK hP 0 rfl rfl 0 (by decide) (hts _ (mc q_338)) (fun _ h9 => h9) rfl dX5_requireStatement_6 ?_
    refine va_getN (D := D) (ci := 4) (v := .int 0) (C := RX3) (T := TX3) (N := 13) (ref := "Ironwood$Told") (host := "Ironwood") hx hb hts in_RX3 hown hK hP 1 rfl rfl 9 (by decide) (hG.1.get 16 rfl) (fun _ h9 => h9) rfl dX5_requireStatement_9 ?_
    refine lv_icmp_lt (tgt := 25) hx hb dX5_requireStatement_12 (by decide) (fun c_12 => absurd c_12 c_1) (fun c_12 => ?_)
    exact ke_t (names := ["java/lang/RuntimeException", "java/lang/Exception"]) hx hb hfl hG 13 rfl hown (by decide +kernel) (by decide +kernel) (hts _ (mc q_730)) (hts _ (mc q_118)) (hG.1.at (fun w h => hts w (List.mem_cons_of_mem _ (in_at_196 w h))) (by decide +kernel)) (by decide +kernel) (by rw [hml]; exact hl.1) dX5_requireStatement_15 dX5_requireStatement_18 dX5_requireStatement_19 dX5_requireStatement_21 dX5_requireStatement_24 htab (Nat.le_of_ble_eq_true rfl) (Nat.le_of_ble_eq_true rfl) (Nat.le_of_ble_eq_true rfl) (Nat.le_of_ble_eq_true rfl) hlocks hP hD hS (Nat.le_of_ble_eq_true rfl) (Nat.le_of_ble_eq_true rfl)

set_option maxHeartbeats 4000000 in
set_option maxRecDepth 100000 in
theorem k_requireVariableOrNone_x (l : Launch) (hfl : l.stackTraces = false) (ae : Nat) (D : va_G) (cI cJ cS cO : ClassId) (x : Nat) (t : Nat) (n : Nat) (x_supposed : Nat) (x_isChecked : Int32) (t_kinds : Nat) (t_parameterCells : Int64) (t_otherCells : Int64) (t_codes : Nat) (t_targets : Nat) (t_settings : Nat) (t_sources : Nat) (t_accessCounts : Nat) (t_statementCount : Int32) (t_acts : Nat) (t_actVariables : Nat) (t_actPlaces : Nat) (v : Int32) (sz : Nat) (hv : ¬ v = -1) : vx_Met l yX5_requireVariableOrNone (wx (.code yX5_requireVariableOrNone cX5_requireVariableOrNone 2 none)) ({ frames := 7, cells := 1, slots := 6, locals := 103 }) (va_Pc [.ref x, .int v] (Pw ae D vwCl [(cI, .int), (cJ, .long), (cS, .object "IronwoodModel$State"), (cO, .object "java/lang/Object")] [(x, .inr (6, [.ref t, .ref n, .ref x_supposed, .int x_isChecked])), (t, .inr (4, [.ref t_kinds, .int 0, .long t_parameterCells, .long t_otherCells, .ref t_codes, .ref t_targets, .ref t_settings, .ref t_sources, .ref t_accessCounts, .int t_statementCount, .ref t_acts, .ref t_actVariables, .ref t_actPlaces]))] sz)) Qn (Xw D vwCl "java/lang/IndexOutOfBoundsException" [(x, .inr (6, [.ref t, .ref n, .ref x_supposed, .int x_isChecked])), (t, .inr (4, [.ref t_kinds, .int 0, .long t_parameterCells, .long t_otherCells, .ref t_codes, .ref t_targets, .ref t_settings, .ref t_sources, .ref t_accessCounts, .int t_statementCount, .ref t_acts, .ref t_actVariables, .ref t_actPlaces]))] (va_A [(x, .inr (6, [.ref t, .ref n, .ref x_supposed, .int x_isChecked])), (t, .inr (4, [.ref t_kinds, .int 0, .long t_parameterCells, .long t_otherCells, .ref t_codes, .ref t_targets, .ref t_settings, .ref t_sources, .ref t_accessCounts, .int t_statementCount, .ref t_acts, .ref t_actVariables, .ref t_actPlaces]))] sz)) 1 6 (va_A [(x, .inr (6, [.ref t, .ref n, .ref x_supposed, .int x_isChecked])), (t, .inr (4, [.ref t_kinds, .int 0, .long t_parameterCells, .long t_otherCells, .ref t_codes, .ref t_targets, .ref t_settings, .ref t_sources, .ref t_accessCounts, .int t_statementCount, .ref t_acts, .ref t_actVariables, .ref t_actPlaces]))] sz) := by
  refine vx_ofW (cc := cX5_requireVariableOrNone) (maxL := 2) (ret := none) (by decide) rfl ?_
  intro p e s m args below meth c s₁ B hml htab hv9
  obtain ⟨rfl, hsz, hP, hK, hD0, hG⟩ := hv9
  have hx := B.exec
  have hb := B.bytes
  have hr := B.returns
  have hts := atoms_spec (ws := wx (.code yX5_requireVariableOrNone cX5_requireVariableOrNone 2 none)) B.pre
  have hown : s.vm.findClass RX5 = some m.cls := findClass_of_methodNamed B.named
  have hlocks := B.notSynchronized
  subst hsz
  have hD := hD0.self (sz := s.heap.size)
  generalize hAe : va_A [(x, .inr (6, [.ref t, .ref n, .ref x_supposed, .int x_isChecked])), (t, .inr (4, [.ref t_kinds, .int 0, .long t_parameterCells, .long t_otherCells, .ref t_codes, .ref t_targets, .ref t_settings, .ref t_sources, .ref t_accessCounts, .int t_statementCount, .ref t_acts, .ref t_actVariables, .ref t_actPlaces]))] s.heap.size = A at hD hG ⊢
  have hA : ∀ q : Nat, s.heap.size ≤ q → A q := fun q h => by rw [← hAe]; exact Or.inr h
  have hS : va_S A s.heap s.heap [] := va_S.rf
  have hP : va_P D vwCl [(x, .inr (6, [.ref t, .ref n, .ref x_supposed, .int x_isChecked])), (t, .inr (4, [.ref t_kinds, .int 0, .long t_parameterCells, .long t_otherCells, .ref t_codes, .ref t_targets, .ref t_settings, .ref t_sources, .ref t_accessCounts, .int t_statementCount, .ref t_acts, .ref t_actVariables, .ref t_actPlaces]))] s.heap := hP
  have hl := lv_entry ([.ref x, .int v]) (n := 2) (Nat.le_of_ble_eq_true rfl)
  rw [lg_entry_eq]
  generalize (lg_sl ([.ref x, .int v]) ++ List.replicate (2 - (lg_sl ([.ref x, .int v])).length) Slot.unset).toArray = ls at hl ⊢
  have hl : lv_has ls 2 [(0, .ref x), (1, .int v)] := hl
  refine lv_iload_n hx hb dX5_requireVariableOrNone_0 rfl (lv_at hl 1 rfl) ?_
  refine lv_iconst (v := (-1)) hx hb dX5_requireVariableOrNone_1 (by decide) ?_
  refine lv_icmp_eq (tgt := 10) hx hb dX5_requireVariableOrNone_2 (by decide) (fun c_2 => absurd c_2 hv) (fun c_2 => ?_)
  refine lv_aload_n hx hb dX5_requireVariableOrNone_5 rfl (lv_at hl 0 rfl) ?_
  refine lv_iload_n hx hb dX5_requireVariableOrNone_6 rfl (lv_at hl 1 rfl) ?_
  refine kc_x (wr := []) (vx_runV (As := [.int v]) (rest := []) ⟨hx, hb, hml, hown, hts⟩ (k_requireVariable_x l hfl ae D cI cJ cS cO x t n x_supposed x_isChecked t_kinds t_parameterCells t_otherCells t_codes t_targets t_settings t_sources t_accessCounts t_statementCount t_acts t_actVariables t_actPlaces v _) (cwV 1 hts (gV q_729 q_726 q_728 q_50 q_98) rfl rfl rfl (by decide +kernel) ⟨Nat.le_of_ble_eq_true rfl, Nat.le_of_ble_eq_true rfl⟩) ⟨Pw.blind, va_recv hK hP (ci := 6) (q0 := 0) rfl rfl, Pw.mk_call hP hK hD hS hA hG [0, 1] rfl (by decide)⟩ rfl rfl hl.1 rfl (lv_room (Nat.le_of_ble_eq_true rfl)) dX5_requireVariableOrNone_7 ⟨Nat.le_of_ble_eq_true rfl, Nat.le_of_ble_eq_true rfl⟩) hP hD hS hA [0, 1] [] rfl rfl (by decide) (by decide) (fun ce9 q9 H locs hP hD hS hce hcv hcl => ?_)
  have hP : va_P D vwCl [(x, .inr (6, [.ref t, .ref n, .ref x_supposed, .int x_isChecked])), (t, .inr (4, [.ref t_kinds, .int 0, .long t_parameterCells, .long t_otherCells, .ref t_codes, .ref t_targets, .ref t_settings, .ref t_sources, .ref t_accessCounts, .int t_statementCount, .ref t_acts, .ref t_actVariables, .ref t_actPlaces]))] H := hP
  have hD : va_D A [(x, .inr (6, [.ref t, .ref n, .ref x_supposed, .int x_isChecked])), (t, .inr (4, [.ref t_kinds, .int 0, .long t_parameterCells, .long t_otherCells, .ref t_codes, .ref t_targets, .ref t_settings, .ref t_sources, .ref t_accessCounts, .int t_statementCount, .ref t_acts, .ref t_actVariables, .ref t_actPlaces]))] := hD
  have hP := hP.sub (ws' := [(x, .inr (6, [.ref t, .ref n, .ref x_supposed, .int x_isChecked])), (t, .inr (4, [.ref t_kinds, .int 0, .long t_parameterCells, .long t_otherCells, .ref t_codes, .ref t_targets, .ref t_settings, .ref t_sources, .ref t_accessCounts, .int t_statementCount, .ref t_acts, .ref t_actVariables, .ref t_actPlaces]))]) [0, 1] rfl
  have hD := hD.sub (ws' := [(x, .inr (6, [.ref t, .ref n, .ref x_supposed, .int x_isChecked])), (t, .inr (4, [.ref t_kinds, .int 0, .long t_parameterCells, .long t_otherCells, .ref t_codes, .ref t_targets, .ref t_settings, .ref t_sources, .ref t_accessCounts, .int t_statementCount, .ref t_acts, .ref t_actVariables, .ref t_actPlaces]))]) [0, 1] (by decide) rfl
  exact ke_x htab hlocks hP hD hS hce hcv hcl (Nat.le_of_ble_eq_true rfl) (Nat.le_of_ble_eq_true rfl)

set_option maxHeartbeats 4000000 in
set_option maxRecDepth 100000 in
theorem k_requireVariableOrNone_n (l : Launch) (hfl : l.stackTraces = false) (ae : Nat) (D : va_G) (cI cJ cS cO : ClassId) (x : Nat) (t : Nat) (n : Nat) (x_supposed : Nat) (x_isChecked : Int32) (sz : Nat)  : Met l yX5_requireVariableOrNone (wx (.code yX5_requireVariableOrNone cX5_requireVariableOrNone 2 none)) ({ frames := 0, cells := 0, slots := 0, locals := 0 }) (va_Pc [.ref x, .int (-1)] (Pw ae D vwCl [(cI, .int), (cJ, .long), (cS, .object "IronwoodModel$State"), (cO, .object "java/lang/Object")] [(x, .inr (6, [.ref t, .ref n, .ref x_supposed, .int x_isChecked]))] sz)) (va_Qv (fun (u : Unit) => True) (Bw D vwCl (fun (u : Unit) => [(x, .inr (6, [.ref t, .ref n, .ref x_supposed, .int x_isChecked]))]) (va_A [(x, .inr (6, [.ref t, .ref n, .ref x_supposed, .int x_isChecked]))] sz)) (va_A [(x, .inr (6, [.ref t, .ref n, .ref x_supposed, .int x_isChecked]))] sz)) 0 0 (va_A [(x, .inr (6, [.ref t, .ref n, .ref x_supposed, .int x_isChecked]))] sz) := by
  refine Met.ofW (cc := cX5_requireVariableOrNone) (maxL := 2) (ret := none) (by decide) rfl ?_
  intro p e s m args below meth c s₁ B hml hv9
  obtain ⟨rfl, hsz, hP, hK, hD0, hG⟩ := hv9
  have hx := B.exec
  have hb := B.bytes
  have hr := B.returns
  have hts := atoms_spec (ws := wx (.code yX5_requireVariableOrNone cX5_requireVariableOrNone 2 none)) B.pre
  have hown : s.vm.findClass RX5 = some m.cls := findClass_of_methodNamed B.named
  have hlocks := B.notSynchronized
  subst hsz
  have hD := hD0.self (sz := s.heap.size)
  generalize hAe : va_A [(x, .inr (6, [.ref t, .ref n, .ref x_supposed, .int x_isChecked]))] s.heap.size = A at hD hG ⊢
  have hA : ∀ q : Nat, s.heap.size ≤ q → A q := fun q h => by rw [← hAe]; exact Or.inr h
  have hS : va_S A s.heap s.heap [] := va_S.rf
  have hP : va_P D vwCl [(x, .inr (6, [.ref t, .ref n, .ref x_supposed, .int x_isChecked]))] s.heap := hP
  have hl := lv_entry ([.ref x, .int (-1)]) (n := 2) (Nat.le_of_ble_eq_true rfl)
  rw [lg_entry_eq]
  generalize (lg_sl ([.ref x, .int (-1)]) ++ List.replicate (2 - (lg_sl ([.ref x, .int (-1)])).length) Slot.unset).toArray = ls at hl ⊢
  have hl : lv_has ls 2 [(0, .ref x), (1, .int (-1))] := hl
  refine lv_iload_n hx hb dX5_requireVariableOrNone_0 rfl (lv_at hl 1 rfl) ?_
  refine lv_iconst (v := (-1)) hx hb dX5_requireVariableOrNone_1 (by decide) ?_
  refine lv_icmp_eq (tgt := 10) hx hb dX5_requireVariableOrNone_2 (by decide) (fun c_2 => ?_) (fun c_2 => absurd (by decide) c_2)
  have hP := hP.sub (ws' := [(x, .inr (6, [.ref t, .ref n, .ref x_supposed, .int x_isChecked]))]) [0] rfl
  have hD := hD.sub (ws' := [(x, .inr (6, [.ref t, .ref n, .ref x_supposed, .int x_isChecked]))]) [0] (by decide) rfl
  exact ke_v hx hb hr () (trivial) hP hD hS (Nat.le_of_ble_eq_true rfl) (Nat.le_of_ble_eq_true rfl) hlocks dX5_requireVariableOrNone_10

set_option maxHeartbeats 4000000 in
set_option maxRecDepth 100000 in
theorem k_requireTarget_x (l : Launch) (hfl : l.stackTraces = false) (ae : Nat) (D : va_G) (cI cJ cS cO : ClassId) (x : Nat) (t : Nat) (n : Nat) (x_supposed : Nat) (x_isChecked : Int32) (v : Int32) (sz : Nat) (hv : ¬ (0 ≤ v ∧ v ≤ 40)) : vx_Met l yX5_requireTarget (wx (.code yX5_requireTarget cX5_requireTarget 2 none)) ({ frames := 6, cells := 1, slots := 6, locals := 82 }) (va_Pc [.ref x, .int v] (Pw ae D vwCl [(cI, .int), (cJ, .long), (cS, .object "IronwoodModel$State"), (cO, .object "java/lang/Object")] [(x, .inr (6, [.ref t, .ref n, .ref x_supposed, .int x_isChecked]))] sz)) Qn (Xw D vwCl "java/lang/IllegalArgumentException" [(x, .inr (6, [.ref t, .ref n, .ref x_supposed, .int x_isChecked]))] (va_A [(x, .inr (6, [.ref t, .ref n, .ref x_supposed, .int x_isChecked]))] sz)) 1 6 (va_A [(x, .inr (6, [.ref t, .ref n, .ref x_supposed, .int x_isChecked]))] sz) := by
  refine vx_ofW (cc := cX5_requireTarget) (maxL := 2) (ret := none) (by decide) rfl ?_
  intro p e s m args below meth c s₁ B hml htab hv9
  obtain ⟨rfl, hsz, hP, hK, hD0, hG⟩ := hv9
  have hx := B.exec
  have hb := B.bytes
  have hr := B.returns
  have hts := atoms_spec (ws := wx (.code yX5_requireTarget cX5_requireTarget 2 none)) B.pre
  have hown : s.vm.findClass RX5 = some m.cls := findClass_of_methodNamed B.named
  have hlocks := B.notSynchronized
  subst hsz
  have hD := hD0.self (sz := s.heap.size)
  generalize hAe : va_A [(x, .inr (6, [.ref t, .ref n, .ref x_supposed, .int x_isChecked]))] s.heap.size = A at hD hG ⊢
  have hA : ∀ q : Nat, s.heap.size ≤ q → A q := fun q h => by rw [← hAe]; exact Or.inr h
  have hS : va_S A s.heap s.heap [] := va_S.rf
  have hP : va_P D vwCl [(x, .inr (6, [.ref t, .ref n, .ref x_supposed, .int x_isChecked]))] s.heap := hP
  have hl := lv_entry ([.ref x, .int v]) (n := 2) (Nat.le_of_ble_eq_true rfl)
  rw [lg_entry_eq]
  generalize (lg_sl ([.ref x, .int v]) ++ List.replicate (2 - (lg_sl ([.ref x, .int v])).length) Slot.unset).toArray = ls at hl ⊢
  have hl : lv_has ls 2 [(0, .ref x), (1, .int v)] := hl
  refine lv_iload_n hx hb dX5_requireTarget_0 rfl (lv_at hl 1 rfl) ?_
  refine lv_if_lt (tgt := 10) hx hb dX5_requireTarget_1 (by decide) (fun c_1 => ?_) (fun c_1 => ?_)
  · skip
    exact ke_t (names := ["java/lang/RuntimeException", "java/lang/Exception"]) hx hb hfl hG 12 rfl hown (by decide +kernel) (by decide +kernel) (hts _ (mc q_630)) (hts _ (mc q_111)) (hG.1.at (fun w h => hts w (List.mem_cons_of_mem _ (in_at_36 w h))) (by decide +kernel)) (by decide +kernel) (by rw [hml]; exact hl.1) dX5_requireTarget_10 dX5_requireTarget_13 dX5_requireTarget_14 dX5_requireTarget_16 dX5_requireTarget_19 htab (Nat.le_of_ble_eq_true rfl) (Nat.le_of_ble_eq_true rfl) (Nat.le_of_ble_eq_true rfl) (Nat.le_of_ble_eq_true rfl) hlocks hP hD hS (Nat.le_of_ble_eq_true rfl) (Nat.le_of_ble_eq_true rfl)
  · skip
    refine lv_iload_n hx hb dX5_requireTarget_4 rfl (lv_at hl 1 rfl) ?_
    refine lv_bipush (v := 40) hx hb dX5_requireTarget_5 (by decide) ?_
    refine lv_icmp_le (tgt := 20) hx hb dX5_requireTarget_7 (by decide) (fun c_7 => hv ⟨Int32.not_lt.mp c_1, c_7⟩ |>.elim) (fun c_7 => ?_)
    exact ke_t (names := ["java/lang/RuntimeException", "java/lang/Exception"]) hx hb hfl hG 12 rfl hown (by decide +kernel) (by decide +kernel) (hts _ (mc q_630)) (hts _ (mc q_111)) (hG.1.at (fun w h => hts w (List.mem_cons_of_mem _ (in_at_36 w h))) (by decide +kernel)) (by decide +kernel) (by rw [hml]; exact hl.1) dX5_requireTarget_10 dX5_requireTarget_13 dX5_requireTarget_14 dX5_requireTarget_16 dX5_requireTarget_19 htab (Nat.le_of_ble_eq_true rfl) (Nat.le_of_ble_eq_true rfl) (Nat.le_of_ble_eq_true rfl) (Nat.le_of_ble_eq_true rfl) hlocks hP hD hS (Nat.le_of_ble_eq_true rfl) (Nat.le_of_ble_eq_true rfl)

set_option maxHeartbeats 4000000 in
set_option maxRecDepth 100000 in
theorem k_requireTarget_n (l : Launch) (hfl : l.stackTraces = false) (ae : Nat) (D : va_G) (cI cJ cS cO : ClassId) (x : Nat) (t : Nat) (n : Nat) (x_supposed : Nat) (x_isChecked : Int32) (v : Int32) (sz : Nat) (hv : 0 ≤ v ∧ v ≤ 40) : Met l yX5_requireTarget (wx (.code yX5_requireTarget cX5_requireTarget 2 none)) ({ frames := 0, cells := 0, slots := 0, locals := 0 }) (va_Pc [.ref x, .int v] (Pw ae D vwCl [(cI, .int), (cJ, .long), (cS, .object "IronwoodModel$State"), (cO, .object "java/lang/Object")] [(x, .inr (6, [.ref t, .ref n, .ref x_supposed, .int x_isChecked]))] sz)) (va_Qv (fun (u : Unit) => True) (Bw D vwCl (fun (u : Unit) => [(x, .inr (6, [.ref t, .ref n, .ref x_supposed, .int x_isChecked]))]) (va_A [(x, .inr (6, [.ref t, .ref n, .ref x_supposed, .int x_isChecked]))] sz)) (va_A [(x, .inr (6, [.ref t, .ref n, .ref x_supposed, .int x_isChecked]))] sz)) 0 0 (va_A [(x, .inr (6, [.ref t, .ref n, .ref x_supposed, .int x_isChecked]))] sz) := by
  refine Met.ofW (cc := cX5_requireTarget) (maxL := 2) (ret := none) (by decide) rfl ?_
  intro p e s m args below meth c s₁ B hml hv9
  obtain ⟨rfl, hsz, hP, hK, hD0, hG⟩ := hv9
  have hx := B.exec
  have hb := B.bytes
  have hr := B.returns
  have hts := atoms_spec (ws := wx (.code yX5_requireTarget cX5_requireTarget 2 none)) B.pre
  have hown : s.vm.findClass RX5 = some m.cls := findClass_of_methodNamed B.named
  have hlocks := B.notSynchronized
  subst hsz
  have hD := hD0.self (sz := s.heap.size)
  generalize hAe : va_A [(x, .inr (6, [.ref t, .ref n, .ref x_supposed, .int x_isChecked]))] s.heap.size = A at hD hG ⊢
  have hA : ∀ q : Nat, s.heap.size ≤ q → A q := fun q h => by rw [← hAe]; exact Or.inr h
  have hS : va_S A s.heap s.heap [] := va_S.rf
  have hP : va_P D vwCl [(x, .inr (6, [.ref t, .ref n, .ref x_supposed, .int x_isChecked]))] s.heap := hP
  have hl := lv_entry ([.ref x, .int v]) (n := 2) (Nat.le_of_ble_eq_true rfl)
  rw [lg_entry_eq]
  generalize (lg_sl ([.ref x, .int v]) ++ List.replicate (2 - (lg_sl ([.ref x, .int v])).length) Slot.unset).toArray = ls at hl ⊢
  have hl : lv_has ls 2 [(0, .ref x), (1, .int v)] := hl
  refine lv_iload_n hx hb dX5_requireTarget_0 rfl (lv_at hl 1 rfl) ?_
  refine lv_if_lt (tgt := 10) hx hb dX5_requireTarget_1 (by decide) (fun c_1 => absurd c_1 (Int32.not_lt.mpr hv.1)) (fun c_1 => ?_)
  refine lv_iload_n hx hb dX5_requireTarget_4 rfl (lv_at hl 1 rfl) ?_
  refine lv_bipush (v := 40) hx hb dX5_requireTarget_5 (by decide) ?_
  refine lv_icmp_le (tgt := 20) hx hb dX5_requireTarget_7 (by decide) (fun c_7 => ?_) (fun c_7 => absurd hv.2 c_7)
  have hP := hP.sub (ws' := [(x, .inr (6, [.ref t, .ref n, .ref x_supposed, .int x_isChecked]))]) [0] rfl
  have hD := hD.sub (ws' := [(x, .inr (6, [.ref t, .ref n, .ref x_supposed, .int x_isChecked]))]) [0] (by decide) rfl
  exact ke_v hx hb hr () (trivial) hP hD hS (Nat.le_of_ble_eq_true rfl) (Nat.le_of_ble_eq_true rfl) hlocks dX5_requireTarget_20

set_option maxHeartbeats 4000000 in
set_option maxRecDepth 100000 in
theorem k_requireRoom_n (l : Launch) (hfl : l.stackTraces = false) (ae : Nat) (D : va_G) (cI cJ cS cO : ClassId) (x : Nat) (t : Nat) (n : Nat) (x_supposed : Nat) (x_isChecked : Int32) (t_kinds : Nat) (t_variableCount : Int32) (t_parameterCells : Int64) (t_otherCells : Int64) (t_codes : Nat) (t_targets : Nat) (t_settings : Nat) (t_sources : Nat) (t_accessCounts : Nat) (t_acts : Nat) (t_actVariables : Nat) (t_actPlaces : Nat) (sz : Nat)  : Met l yX5_requireRoom (wx (.code yX5_requireRoom cX5_requireRoom 1 none)) ({ frames := 0, cells := 0, slots := 0, locals := 0 }) (va_Pc [.ref x] (Pw ae D vwCl [(cI, .int), (cJ, .long), (cS, .object "IronwoodModel$State"), (cO, .object "java/lang/Object")] [(x, .inr (6, [.ref t, .ref n, .ref x_supposed, .int x_isChecked])), (t, .inr (4, [.ref t_kinds, .int t_variableCount, .long t_parameterCells, .long t_otherCells, .ref t_codes, .ref t_targets, .ref t_settings, .ref t_sources, .ref t_accessCounts, .int 0, .ref t_acts, .ref t_actVariables, .ref t_actPlaces]))] sz)) (va_Qv (fun (u : Unit) => True) (Bw D vwCl (fun (u : Unit) => [(x, .inr (6, [.ref t, .ref n, .ref x_supposed, .int x_isChecked])), (t, .inr (4, [.ref t_kinds, .int t_variableCount, .long t_parameterCells, .long t_otherCells, .ref t_codes, .ref t_targets, .ref t_settings, .ref t_sources, .ref t_accessCounts, .int 0, .ref t_acts, .ref t_actVariables, .ref t_actPlaces]))]) (va_A [(x, .inr (6, [.ref t, .ref n, .ref x_supposed, .int x_isChecked])), (t, .inr (4, [.ref t_kinds, .int t_variableCount, .long t_parameterCells, .long t_otherCells, .ref t_codes, .ref t_targets, .ref t_settings, .ref t_sources, .ref t_accessCounts, .int 0, .ref t_acts, .ref t_actVariables, .ref t_actPlaces]))] sz)) (va_A [(x, .inr (6, [.ref t, .ref n, .ref x_supposed, .int x_isChecked])), (t, .inr (4, [.ref t_kinds, .int t_variableCount, .long t_parameterCells, .long t_otherCells, .ref t_codes, .ref t_targets, .ref t_settings, .ref t_sources, .ref t_accessCounts, .int 0, .ref t_acts, .ref t_actVariables, .ref t_actPlaces]))] sz)) 0 0 (va_A [(x, .inr (6, [.ref t, .ref n, .ref x_supposed, .int x_isChecked])), (t, .inr (4, [.ref t_kinds, .int t_variableCount, .long t_parameterCells, .long t_otherCells, .ref t_codes, .ref t_targets, .ref t_settings, .ref t_sources, .ref t_accessCounts, .int 0, .ref t_acts, .ref t_actVariables, .ref t_actPlaces]))] sz) := by
  refine Met.ofW (cc := cX5_requireRoom) (maxL := 1) (ret := none) (by decide) rfl ?_
  intro p e s m args below meth c s₁ B hml hv9
  obtain ⟨rfl, hsz, hP, hK, hD0, hG⟩ := hv9
  have hx := B.exec
  have hb := B.bytes
  have hr := B.returns
  have hts := atoms_spec (ws := wx (.code yX5_requireRoom cX5_requireRoom 1 none)) B.pre
  have hown : s.vm.findClass RX5 = some m.cls := findClass_of_methodNamed B.named
  have hlocks := B.notSynchronized
  subst hsz
  have hD := hD0.self (sz := s.heap.size)
  generalize hAe : va_A [(x, .inr (6, [.ref t, .ref n, .ref x_supposed, .int x_isChecked])), (t, .inr (4, [.ref t_kinds, .int t_variableCount, .long t_parameterCells, .long t_otherCells, .ref t_codes, .ref t_targets, .ref t_settings, .ref t_sources, .ref t_accessCounts, .int 0, .ref t_acts, .ref t_actVariables, .ref t_actPlaces]))] s.heap.size = A at hD hG ⊢
  have hA : ∀ q : Nat, s.heap.size ≤ q → A q := fun q h => by rw [← hAe]; exact Or.inr h
  have hS : va_S A s.heap s.heap [] := va_S.rf
  have hP : va_P D vwCl [(x, .inr (6, [.ref t, .ref n, .ref x_supposed, .int x_isChecked])), (t, .inr (4, [.ref t_kinds, .int t_variableCount, .long t_parameterCells, .long t_otherCells, .ref t_codes, .ref t_targets, .ref t_settings, .ref t_sources, .ref t_accessCounts, .int 0, .ref t_acts, .ref t_actVariables, .ref t_actPlaces]))] s.heap := hP
  have hl := lv_entry ([.ref x]) (n := 1) (Nat.le_of_ble_eq_true rfl)
  rw [lg_entry_eq]
  generalize (lg_sl ([.ref x]) ++ List.replicate (1 - (lg_sl ([.ref x])).length) Slot.unset).toArray = ls at hl ⊢
  have hl : lv_has ls 1 [(0, .ref x)] := hl
  refine lv_aload_n hx hb dX5_requireRoom_0 rfl (lv_at hl 0 rfl) ?_
  refine va_get (D := D) (ci := 6) (v := .ref t) (C := RX5) (T := TX5) (N := 4) (ref := "Ironwood") hx hb hts in_RX5 hown hK hP 0 rfl rfl 0 (by decide) (hts _ (mc q_338)) (fun _ h9 => h9) rfl dX5_requireRoom_1 ?_
  refine va_getN (D := D) (ci := 4) (v := .int 0) (C := RX3) (T := TX3) (N := 13) (ref := "Ironwood$Told") (host := "Ironwood") hx hb hts in_RX3 hown hK hP 1 rfl rfl 9 (by decide) (hG.1.get 16 rfl) (fun _ h9 => h9) rfl dX5_requireRoom_4 ?_
  refine lv_bipush (v := 40) hx hb dX5_requireRoom_7 (by decide) ?_
  refine lv_icmp_lt (tgt := 22) hx hb dX5_requireRoom_9 (by decide) (fun c_9 => ?_) (fun c_9 => absurd (by decide) c_9)
  have hP := hP.sub (ws' := [(x, .inr (6, [.ref t, .ref n, .ref x_supposed, .int x_isChecked])), (t, .inr (4, [.ref t_kinds, .int t_variableCount, .long t_parameterCells, .long t_otherCells, .ref t_codes, .ref t_targets, .ref t_settings, .ref t_sources, .ref t_accessCounts, .int 0, .ref t_acts, .ref t_actVariables, .ref t_actPlaces]))]) [0, 1] rfl
  have hD := hD.sub (ws' := [(x, .inr (6, [.ref t, .ref n, .ref x_supposed, .int x_isChecked])), (t, .inr (4, [.ref t_kinds, .int t_variableCount, .long t_parameterCells, .long t_otherCells, .ref t_codes, .ref t_targets, .ref t_settings, .ref t_sources, .ref t_accessCounts, .int 0, .ref t_acts, .ref t_actVariables, .ref t_actPlaces]))]) [0, 1] (by decide) rfl
  exact ke_v hx hb hr () (trivial) hP hD hS (Nat.le_of_ble_eq_true rfl) (Nat.le_of_ble_eq_true rfl) hlocks dX5_requireRoom_22
