theorem q_19 : .selects RX3 yX3_isLoan yX3_isLoan ∈ BW := mB 19 (by decide +kernel) rfl
theorem q_20 : .selects RX3 yX3_isMadeLoan yX3_isMadeLoan ∈ BW := mB 20 (by decide +kernel) rfl
theorem q_21 : .selects RX4 yX4_loansIn yX4_loansIn ∈ BW := mB 21 (by decide +kernel) rfl
theorem q_64 : .initialized RX5 ∈ BW := mB 64 (by decide +kernel) rfl
theorem q_68 : .initialized RX4 ∈ BW := mB 68 (by decide +kernel) rfl
theorem q_220 : .fieldLink RX4 48 "Ironwood$Ways" "reached" "J" ∈ BW := mB 220 (by decide +kernel) rfl
theorem q_222 : .fieldLink RX4 9 "Ironwood$Ways" "unmade" "[J" ∈ BW := mB 222 (by decide +kernel) rfl
theorem q_223 : .fieldLink RX4 15 "Ironwood$Ways" "made" "[J" ∈ BW := mB 223 (by decide +kernel) rfl
theorem q_224 : .fieldLink RX4 18 "Ironwood$Ways" "gone" "[J" ∈ BW := mB 224 (by decide +kernel) rfl
theorem q_225 : .fieldLink RX4 21 "Ironwood$Ways" "held" "[J" ∈ BW := mB 225 (by decide +kernel) rfl
theorem q_469 : .static yX5_isIn ∈ BW := mB 469 (by decide +kernel) rfl
theorem q_470 : .code yX5_isIn cX5_isIn 3 (some .boolean) ∈ BW := mB 470 (by decide +kernel) rfl
theorem q_481 : .instanceMethod yX3_isLoan ∈ BW := mB 481 (by decide +kernel) rfl
theorem q_482 : .code yX3_isLoan cX3_isLoan 2 (some .boolean) ∈ BW := mB 482 (by decide +kernel) rfl
theorem q_485 : .instanceMethod yX3_isMadeLoan ∈ BW := mB 485 (by decide +kernel) rfl
theorem q_486 : .code yX3_isMadeLoan cX3_isMadeLoan 2 (some .boolean) ∈ BW := mB 486 (by decide +kernel) rfl
theorem q_487 : .methodLink RX4 78 yX4_loansIn ∈ BW := mB 487 (by decide +kernel) rfl
theorem q_489 : .instanceMethod yX4_loansIn ∈ BW := mB 489 (by decide +kernel) rfl
theorem q_490 : .code yX4_loansIn cX4_loansIn 3 (some .long) ∈ BW := mB 490 (by decide +kernel) rfl
set_option maxHeartbeats 4000000 in
set_option maxRecDepth 100000 in
theorem k_comesTo (l : Launch) (D : va_G) (cI cJ cZ cR : ClassId) (cd : Nat → Nat) (rr : Int64) (j : Nat) (sz : Nat)  : Met l yX4_comesTo (wx (.code yX4_comesTo cX4_comesTo 2 (some .boolean))) ({ frames := 1, cells := 0, slots := 0, locals := 22 }) (va_Pc [.ref (cd 2), .int (nI j)] (Pw D vwCl [(cI, .int), (cJ, .long), (cZ, .boolean), (cR, .array .int)] [(cd 2, .inr (4, [.long rr, .ref (cd 20), .ref (cd 21), .ref (cd 22), .ref (cd 23), .ref (cd 24), .ref (cd 25), .ref (cd 26), .ref (cd 27)]))] sz)) (va_Qi (fun (r : Int32) (u : Unit) => r = bz (bI rr (nI j))) (Bw D vwCl (fun (u : Unit) => [(cd 2, .inr (4, [.long rr, .ref (cd 20), .ref (cd 21), .ref (cd 22), .ref (cd 23), .ref (cd 24), .ref (cd 25), .ref (cd 26), .ref (cd 27)]))]) (va_A [(cd 2, .inr (4, [.long rr, .ref (cd 20), .ref (cd 21), .ref (cd 22), .ref (cd 23), .ref (cd 24), .ref (cd 25), .ref (cd 26), .ref (cd 27)]))] sz)) (va_A [(cd 2, .inr (4, [.long rr, .ref (cd 20), .ref (cd 21), .ref (cd 22), .ref (cd 23), .ref (cd 24), .ref (cd 25), .ref (cd 26), .ref (cd 27)]))] sz)) 0 0 (va_A [(cd 2, .inr (4, [.long rr, .ref (cd 20), .ref (cd 21), .ref (cd 22), .ref (cd 23), .ref (cd 24), .ref (cd 25), .ref (cd 26), .ref (cd 27)]))] sz) := by
  refine Met.ofW (cc := cX4_comesTo) (maxL := 2) (ret := (some .boolean)) (by decide) rfl ?_
  intro p e s m args below meth c s₁ B hml hv9
  obtain ⟨rfl, hsz, hP, hK, hD0, hG⟩ := hv9
  have hx := B.exec
  have hb := B.bytes
  have hr := B.returns
  have hts := atoms_spec (ws := wx (.code yX4_comesTo cX4_comesTo 2 (some .boolean))) B.pre
  have hown : s.vm.findClass RX4 = some m.cls := findClass_of_methodNamed B.named
  have hlocks := B.notSynchronized
  subst hsz
  have hD := hD0.self (sz := s.heap.size)
  generalize hAe : va_A [(cd 2, .inr (4, [.long rr, .ref (cd 20), .ref (cd 21), .ref (cd 22), .ref (cd 23), .ref (cd 24), .ref (cd 25), .ref (cd 26), .ref (cd 27)]))] s.heap.size = A at hD hG ⊢
  have hA : ∀ q : Nat, s.heap.size ≤ q → A q := fun q h => by rw [← hAe]; exact Or.inr h
  have hS : va_S A s.heap s.heap [] := va_S.rf
  have hP : va_P D vwCl [(cd 2, .inr (4, [.long rr, .ref (cd 20), .ref (cd 21), .ref (cd 22), .ref (cd 23), .ref (cd 24), .ref (cd 25), .ref (cd 26), .ref (cd 27)]))] s.heap := hP
  have hl := lv_entry ([.ref (cd 2), .int (nI j)]) (n := 2) (Nat.le_of_ble_eq_true rfl)
  rw [lg_entry_eq]
  generalize (lg_sl ([.ref (cd 2), .int (nI j)]) ++ List.replicate (2 - (lg_sl ([.ref (cd 2), .int (nI j)])).length) Slot.unset).toArray = ls at hl ⊢
  have hl : lv_has ls 2 [(0, .ref (cd 2)), (1, .int (nI j))] := hl
  refine lv_aload_n hx hb dX4_comesTo_0 rfl (lv_at hl 0 rfl) ?_
  refine va_get (D := D) (ci := 4) (v := .long rr) (C := RX4) (T := TX4) (N := 9) (ref := "Ironwood$Ways") hx hb hts in_RX4 hown hK hP 0 rfl rfl 0 (by decide) (hts _ (mc q_220)) (fun _ h9 => h9) rfl dX4_comesTo_1 ?_
  refine lv_iload_n hx hb dX4_comesTo_4 rfl (lv_at hl 1 rfl) ?_
  refine kc_i (wr := [(cd 2, .inr (4, [.long rr, .ref (cd 20), .ref (cd 21), .ref (cd 22), .ref (cd 23), .ref (cd 24), .ref (cd 25), .ref (cd 26), .ref (cd 27)]))]) (va_runSN (As := [.long rr, .int (nI j)]) (rest := []) (host := "Ironwood") ⟨hx, hb, hml, hown, hts⟩ (k_isIn l D cI cJ cZ cR rr (nI j) _) ⟨va_cnB 2 hts (gB q_470) rfl rfl rfl (hG.1.nw 57 rfl) (hts _ (mc q_64)) (by decide +kernel) ⟨Nat.le_of_ble_eq_true rfl, Nat.le_of_ble_eq_true rfl⟩, hts _ (mc q_469), trivial⟩ ⟨Pw.blind, Pw.mk_call hP hK hD hS hA hG [] rfl (by decide)⟩ rfl rfl hl.1 rfl (lv_room (Nat.le_of_ble_eq_true rfl)) dX4_comesTo_5 ⟨Nat.le_of_ble_eq_true rfl, Nat.le_of_ble_eq_true rfl⟩) hP hD hS hA [] [0] rfl rfl (by decide) (by decide) (fun r_1 u_2 H locs hw hP hD hS => ?_)
  obtain rfl : r_1 = bz (bI rr (nI j)) := hw
  have hP : va_P D vwCl [(cd 2, .inr (4, [.long rr, .ref (cd 20), .ref (cd 21), .ref (cd 22), .ref (cd 23), .ref (cd 24), .ref (cd 25), .ref (cd 26), .ref (cd 27)]))] _ := hP
  have hD : va_D A [(cd 2, .inr (4, [.long rr, .ref (cd 20), .ref (cd 21), .ref (cd 22), .ref (cd 23), .ref (cd 24), .ref (cd 25), .ref (cd 26), .ref (cd 27)]))] := hD
  exact ke_i hx hb hr (by first | rfl | decide | exact bz_nar _) () (rfl) hP hD hS (Nat.le_of_ble_eq_true rfl) (Nat.le_of_ble_eq_true rfl) hlocks dX4_comesTo_8

set_option maxHeartbeats 4000000 in
set_option maxRecDepth 100000 in
theorem k_statesOf (l : Launch) (D : va_G) (cI cJ cZ cR : ClassId) (cd : Nat → Nat) (rr : Int64) (n : Nat) (j : Nat) (x : Int64) (U : Nat → Int64) (M : Nat → Int64) (G : Nat → Int64) (yu : Nat → Int64) (ym : Nat → Int64) (yg : Nat → Int64) (sz : Nat) (hn : n ≤ 40) (hj : j < n) : Met l yX4_statesOf (wx (.code yX4_statesOf cX4_statesOf 5 (some .int))) ({ frames := 0, cells := 0, slots := 0, locals := 0 }) (va_Pc [.ref (cd 2), .int (nI j), .long x] (Pw D vwCl [(cI, .int), (cJ, .long), (cZ, .boolean), (cR, .array .int)] [(cd 2, .inr (4, [.long rr, .ref (cd 20), .ref (cd 21), .ref (cd 22), .ref (cd 23), .ref (cd 24), .ref (cd 25), .ref (cd 26), .ref (cd 27)])), (cd 20, .inl (cJ, 40, .inr (.inl (fil n U yu)))), (cd 21, .inl (cJ, 40, .inr (.inl (fil n M ym)))), (cd 22, .inl (cJ, 40, .inr (.inl (fil n G yg))))] sz)) (va_Qi (fun (r : Int32) (u : Unit) => r = sO U M G j x) (Bw D vwCl (fun (u : Unit) => [(cd 2, .inr (4, [.long rr, .ref (cd 20), .ref (cd 21), .ref (cd 22), .ref (cd 23), .ref (cd 24), .ref (cd 25), .ref (cd 26), .ref (cd 27)])), (cd 20, .inl (cJ, 40, .inr (.inl (fil n U yu)))), (cd 21, .inl (cJ, 40, .inr (.inl (fil n M ym)))), (cd 22, .inl (cJ, 40, .inr (.inl (fil n G yg))))]) (va_A [(cd 2, .inr (4, [.long rr, .ref (cd 20), .ref (cd 21), .ref (cd 22), .ref (cd 23), .ref (cd 24), .ref (cd 25), .ref (cd 26), .ref (cd 27)])), (cd 20, .inl (cJ, 40, .inr (.inl (fil n U yu)))), (cd 21, .inl (cJ, 40, .inr (.inl (fil n M ym)))), (cd 22, .inl (cJ, 40, .inr (.inl (fil n G yg))))] sz)) (va_A [(cd 2, .inr (4, [.long rr, .ref (cd 20), .ref (cd 21), .ref (cd 22), .ref (cd 23), .ref (cd 24), .ref (cd 25), .ref (cd 26), .ref (cd 27)])), (cd 20, .inl (cJ, 40, .inr (.inl (fil n U yu)))), (cd 21, .inl (cJ, 40, .inr (.inl (fil n M ym)))), (cd 22, .inl (cJ, 40, .inr (.inl (fil n G yg))))] sz)) 0 0 (va_A [(cd 2, .inr (4, [.long rr, .ref (cd 20), .ref (cd 21), .ref (cd 22), .ref (cd 23), .ref (cd 24), .ref (cd 25), .ref (cd 26), .ref (cd 27)])), (cd 20, .inl (cJ, 40, .inr (.inl (fil n U yu)))), (cd 21, .inl (cJ, 40, .inr (.inl (fil n M ym)))), (cd 22, .inl (cJ, 40, .inr (.inl (fil n G yg))))] sz) := by
  refine Met.ofW (cc := cX4_statesOf) (maxL := 5) (ret := (some .int)) (by decide) rfl ?_
  intro p e s m args below meth c s₁ B hml hv9
  obtain ⟨rfl, hsz, hP, hK, hD0, hG⟩ := hv9
  have hx := B.exec
  have hb := B.bytes
  have hr := B.returns
  have hts := atoms_spec (ws := wx (.code yX4_statesOf cX4_statesOf 5 (some .int))) B.pre
  have hown : s.vm.findClass RX4 = some m.cls := findClass_of_methodNamed B.named
  have hlocks := B.notSynchronized
  subst hsz
  have hD := hD0.self (sz := s.heap.size)
  generalize hAe : va_A [(cd 2, .inr (4, [.long rr, .ref (cd 20), .ref (cd 21), .ref (cd 22), .ref (cd 23), .ref (cd 24), .ref (cd 25), .ref (cd 26), .ref (cd 27)])), (cd 20, .inl (cJ, 40, .inr (.inl (fil n U yu)))), (cd 21, .inl (cJ, 40, .inr (.inl (fil n M ym)))), (cd 22, .inl (cJ, 40, .inr (.inl (fil n G yg))))] s.heap.size = A at hD hG ⊢
  have hA : ∀ q : Nat, s.heap.size ≤ q → A q := fun q h => by rw [← hAe]; exact Or.inr h
  have hS : va_S A s.heap s.heap [] := va_S.rf
  have hP : va_P D vwCl [(cd 2, .inr (4, [.long rr, .ref (cd 20), .ref (cd 21), .ref (cd 22), .ref (cd 23), .ref (cd 24), .ref (cd 25), .ref (cd 26), .ref (cd 27)])), (cd 20, .inl (cJ, 40, .inr (.inl (fil n U yu)))), (cd 21, .inl (cJ, 40, .inr (.inl (fil n M ym)))), (cd 22, .inl (cJ, 40, .inr (.inl (fil n G yg))))] s.heap := hP
  have hl := lv_entry ([.ref (cd 2), .int (nI j), .long x]) (n := 5) (Nat.le_of_ble_eq_true rfl)
  rw [lg_entry_eq]
  generalize (lg_sl ([.ref (cd 2), .int (nI j), .long x]) ++ List.replicate (5 - (lg_sl ([.ref (cd 2), .int (nI j), .long x])).length) Slot.unset).toArray = ls at hl ⊢
  have hl : lv_has ls 5 [(0, .ref (cd 2)), (1, .int (nI j)), (2, .long x)] := hl
  refine lv_iconst (v := 0) hx hb dX4_statesOf_0 (by decide) ?_
  refine lv_istore (lv' := [(4, .int 0), (0, .ref (cd 2)), (1, .int (nI j)), (2, .long x)]) hx hb dX4_statesOf_1 hl (by decide) rfl (fun ls hl => ?_)
  refine lv_iload hx hb dX4_statesOf_3 (lv_at hl 0 rfl) ?_
  refine lv_aload_n hx hb dX4_statesOf_5 rfl (lv_at hl 1 rfl) ?_
  refine va_get (D := D) (ci := 4) (v := .ref (cd 20)) (C := RX4) (T := TX4) (N := 9) (ref := "Ironwood$Ways") hx hb hts in_RX4 hown hK hP 0 rfl rfl 1 (by decide) (hts _ (mc q_222)) (fun _ h9 => h9) rfl dX4_statesOf_6 ?_
  refine lv_iload_n hx hb dX4_statesOf_9 rfl (lv_at hl 2 rfl) ?_
  refine va_lald hx hb hK hP 1 1 rfl rfl (vp_in_nI (n := j) (by omega) (by omega)) dX4_statesOf_10 ?_
  refine tJ (v := U j) ((congrArg (fil n U yu) (nI_clamp (n := j) (by omega))).trans (fil_lt (by omega))) ?_
  refine lv_lload_n hx hb dX4_statesOf_11 rfl (lv_at hl 3 rfl) ?_
  refine lv_land hx hb dX4_statesOf_12 ?_
  refine lv_lconst (v := 0) hx hb dX4_statesOf_13 (by decide) ?_
  refine W.lcmp hx hb dX4_statesOf_14 ?_
  refine tI (v := lg_cmp ((U j) &&& x) 0) rfl ?_
  refine lv_if_eq (tgt := 22) hx hb dX4_statesOf_15 (by decide) (fun c_15 => ?_) (fun c_15 => ?_)
  · skip
    have c_15 : ((U j) &&& x) = 0 := (lg_cmp_eq _ _).mp c_15
    refine lv_iconst (v := 0) hx hb dX4_statesOf_22 (by decide) ?_
    refine lv_ior hx hb dX4_statesOf_23 ?_
    refine tI (v := 0) (by decide) ?_
    refine lv_istore (lv' := [(4, .int 0), (0, .ref (cd 2)), (1, .int (nI j)), (2, .long x)]) hx hb dX4_statesOf_24 hl (by decide) rfl (fun ls hl => ?_)
    refine lv_iload hx hb dX4_statesOf_26 (lv_at hl 0 rfl) ?_
    refine lv_aload_n hx hb dX4_statesOf_28 rfl (lv_at hl 1 rfl) ?_
    refine va_get (D := D) (ci := 4) (v := .ref (cd 21)) (C := RX4) (T := TX4) (N := 9) (ref := "Ironwood$Ways") hx hb hts in_RX4 hown hK hP 0 rfl rfl 2 (by decide) (hts _ (mc q_223)) (fun _ h9 => h9) rfl dX4_statesOf_29 ?_
    refine lv_iload_n hx hb dX4_statesOf_32 rfl (lv_at hl 2 rfl) ?_
    refine va_lald hx hb hK hP 2 1 rfl rfl (vp_in_nI (n := j) (by omega) (by omega)) dX4_statesOf_33 ?_
    refine tJ (v := M j) ((congrArg (fil n M ym) (nI_clamp (n := j) (by omega))).trans (fil_lt (by omega))) ?_
    refine lv_lload_n hx hb dX4_statesOf_34 rfl (lv_at hl 3 rfl) ?_
    refine lv_land hx hb dX4_statesOf_35 ?_
    refine lv_lconst (v := 0) hx hb dX4_statesOf_36 (by decide) ?_
    refine W.lcmp hx hb dX4_statesOf_37 ?_
    refine tI (v := lg_cmp ((M j) &&& x) 0) rfl ?_
    refine lv_if_eq (tgt := 45) hx hb dX4_statesOf_38 (by decide) (fun c_38 => ?_) (fun c_38 => ?_)
    · skip
      have c_38 : ((M j) &&& x) = 0 := (lg_cmp_eq _ _).mp c_38
      refine lv_iconst (v := 0) hx hb dX4_statesOf_45 (by decide) ?_
      refine lv_ior hx hb dX4_statesOf_46 ?_
      refine tI (v := 0) (by decide) ?_
      refine lv_istore (lv' := [(4, .int 0), (0, .ref (cd 2)), (1, .int (nI j)), (2, .long x)]) hx hb dX4_statesOf_47 hl (by decide) rfl (fun ls hl => ?_)
      refine lv_iload hx hb dX4_statesOf_49 (lv_at hl 0 rfl) ?_
      refine lv_aload_n hx hb dX4_statesOf_51 rfl (lv_at hl 1 rfl) ?_
      refine va_get (D := D) (ci := 4) (v := .ref (cd 22)) (C := RX4) (T := TX4) (N := 9) (ref := "Ironwood$Ways") hx hb hts in_RX4 hown hK hP 0 rfl rfl 3 (by decide) (hts _ (mc q_224)) (fun _ h9 => h9) rfl dX4_statesOf_52 ?_
      refine lv_iload_n hx hb dX4_statesOf_55 rfl (lv_at hl 2 rfl) ?_
      refine va_lald hx hb hK hP 3 1 rfl rfl (vp_in_nI (n := j) (by omega) (by omega)) dX4_statesOf_56 ?_
      refine tJ (v := G j) ((congrArg (fil n G yg) (nI_clamp (n := j) (by omega))).trans (fil_lt (by omega))) ?_
      refine lv_lload_n hx hb dX4_statesOf_57 rfl (lv_at hl 3 rfl) ?_
      refine lv_land hx hb dX4_statesOf_58 ?_
      refine lv_lconst (v := 0) hx hb dX4_statesOf_59 (by decide) ?_
      refine W.lcmp hx hb dX4_statesOf_60 ?_
      refine tI (v := lg_cmp ((G j) &&& x) 0) rfl ?_
      refine lv_if_eq (tgt := 68) hx hb dX4_statesOf_61 (by decide) (fun c_61 => ?_) (fun c_61 => ?_)
      · skip
        have c_61 : ((G j) &&& x) = 0 := (lg_cmp_eq _ _).mp c_61
        refine lv_iconst (v := 0) hx hb dX4_statesOf_68 (by decide) ?_
        refine lv_ior hx hb dX4_statesOf_69 ?_
        refine tI (v := 0) (by decide) ?_
        refine lv_istore (lv' := [(4, .int 0), (0, .ref (cd 2)), (1, .int (nI j)), (2, .long x)]) hx hb dX4_statesOf_70 hl (by decide) rfl (fun ls hl => ?_)
        refine lv_iload hx hb dX4_statesOf_72 (lv_at hl 0 rfl) ?_
        exact ke_i hx hb hr (by first | rfl | decide | exact bz_nar _) () (by first | (simp [sO, c_15, c_38, c_61]; done) | (simp [sO, if_pos c_15, if_pos c_38, if_pos c_61]; done) | rfl | (simp [sO, c_15, c_38, c_61]; omega)) hP hD hS (Nat.le_of_ble_eq_true rfl) (Nat.le_of_ble_eq_true rfl) hlocks dX4_statesOf_74
      · skip
        have c_61 : ¬ ((G j) &&& x) = 0 := fun h9 => c_61 ((lg_cmp_eq _ _).mpr h9)
        refine lv_iconst (v := 4) hx hb dX4_statesOf_64 (by decide) ?_
        refine lv_goto (tgt := 69) hx hb dX4_statesOf_65 (by decide) ?_
        refine lv_ior hx hb dX4_statesOf_69 ?_
        refine tI (v := 4) (by decide) ?_
        refine lv_istore (lv' := [(4, .int 4), (0, .ref (cd 2)), (1, .int (nI j)), (2, .long x)]) hx hb dX4_statesOf_70 hl (by decide) rfl (fun ls hl => ?_)
        refine lv_iload hx hb dX4_statesOf_72 (lv_at hl 0 rfl) ?_
        exact ke_i hx hb hr (by first | rfl | decide | exact bz_nar _) () (by first | (simp [sO, c_15, c_38, c_61]; done) | (simp [sO, if_pos c_15, if_pos c_38, if_neg c_61]; done) | rfl | (simp [sO, c_15, c_38, c_61]; omega)) hP hD hS (Nat.le_of_ble_eq_true rfl) (Nat.le_of_ble_eq_true rfl) hlocks dX4_statesOf_74
    · skip
      have c_38 : ¬ ((M j) &&& x) = 0 := fun h9 => c_38 ((lg_cmp_eq _ _).mpr h9)
      refine lv_iconst (v := 2) hx hb dX4_statesOf_41 (by decide) ?_
      refine lv_goto (tgt := 46) hx hb dX4_statesOf_42 (by decide) ?_
      refine lv_ior hx hb dX4_statesOf_46 ?_
      refine tI (v := 2) (by decide) ?_
      refine lv_istore (lv' := [(4, .int 2), (0, .ref (cd 2)), (1, .int (nI j)), (2, .long x)]) hx hb dX4_statesOf_47 hl (by decide) rfl (fun ls hl => ?_)
      refine lv_iload hx hb dX4_statesOf_49 (lv_at hl 0 rfl) ?_
      refine lv_aload_n hx hb dX4_statesOf_51 rfl (lv_at hl 1 rfl) ?_
      refine va_get (D := D) (ci := 4) (v := .ref (cd 22)) (C := RX4) (T := TX4) (N := 9) (ref := "Ironwood$Ways") hx hb hts in_RX4 hown hK hP 0 rfl rfl 3 (by decide) (hts _ (mc q_224)) (fun _ h9 => h9) rfl dX4_statesOf_52 ?_
      refine lv_iload_n hx hb dX4_statesOf_55 rfl (lv_at hl 2 rfl) ?_
      refine va_lald hx hb hK hP 3 1 rfl rfl (vp_in_nI (n := j) (by omega) (by omega)) dX4_statesOf_56 ?_
      refine tJ (v := G j) ((congrArg (fil n G yg) (nI_clamp (n := j) (by omega))).trans (fil_lt (by omega))) ?_
      refine lv_lload_n hx hb dX4_statesOf_57 rfl (lv_at hl 3 rfl) ?_
      refine lv_land hx hb dX4_statesOf_58 ?_
      refine lv_lconst (v := 0) hx hb dX4_statesOf_59 (by decide) ?_
      refine W.lcmp hx hb dX4_statesOf_60 ?_
      refine tI (v := lg_cmp ((G j) &&& x) 0) rfl ?_
      refine lv_if_eq (tgt := 68) hx hb dX4_statesOf_61 (by decide) (fun c_61 => ?_) (fun c_61 => ?_)
      · skip
        have c_61 : ((G j) &&& x) = 0 := (lg_cmp_eq _ _).mp c_61
        refine lv_iconst (v := 0) hx hb dX4_statesOf_68 (by decide) ?_
        refine lv_ior hx hb dX4_statesOf_69 ?_
        refine tI (v := 2) (by decide) ?_
        refine lv_istore (lv' := [(4, .int 2), (0, .ref (cd 2)), (1, .int (nI j)), (2, .long x)]) hx hb dX4_statesOf_70 hl (by decide) rfl (fun ls hl => ?_)
        refine lv_iload hx hb dX4_statesOf_72 (lv_at hl 0 rfl) ?_
        exact ke_i hx hb hr (by first | rfl | decide | exact bz_nar _) () (by first | (simp [sO, c_15, c_38, c_61]; done) | (simp [sO, if_pos c_15, if_neg c_38, if_pos c_61]; done) | rfl | (simp [sO, c_15, c_38, c_61]; omega)) hP hD hS (Nat.le_of_ble_eq_true rfl) (Nat.le_of_ble_eq_true rfl) hlocks dX4_statesOf_74
      · skip
        have c_61 : ¬ ((G j) &&& x) = 0 := fun h9 => c_61 ((lg_cmp_eq _ _).mpr h9)
        refine lv_iconst (v := 4) hx hb dX4_statesOf_64 (by decide) ?_
        refine lv_goto (tgt := 69) hx hb dX4_statesOf_65 (by decide) ?_
        refine lv_ior hx hb dX4_statesOf_69 ?_
        refine tI (v := 6) (by decide) ?_
        refine lv_istore (lv' := [(4, .int 6), (0, .ref (cd 2)), (1, .int (nI j)), (2, .long x)]) hx hb dX4_statesOf_70 hl (by decide) rfl (fun ls hl => ?_)
        refine lv_iload hx hb dX4_statesOf_72 (lv_at hl 0 rfl) ?_
        exact ke_i hx hb hr (by first | rfl | decide | exact bz_nar _) () (by first | (simp [sO, c_15, c_38, c_61]; done) | (simp [sO, if_pos c_15, if_neg c_38, if_neg c_61]; done) | rfl | (simp [sO, c_15, c_38, c_61]; omega)) hP hD hS (Nat.le_of_ble_eq_true rfl) (Nat.le_of_ble_eq_true rfl) hlocks dX4_statesOf_74
  · skip
    have c_15 : ¬ ((U j) &&& x) = 0 := fun h9 => c_15 ((lg_cmp_eq _ _).mpr h9)
    refine lv_iconst (v := 1) hx hb dX4_statesOf_18 (by decide) ?_
    refine lv_goto (tgt := 23) hx hb dX4_statesOf_19 (by decide) ?_
    refine lv_ior hx hb dX4_statesOf_23 ?_
    refine tI (v := 1) (by decide) ?_
    refine lv_istore (lv' := [(4, .int 1), (0, .ref (cd 2)), (1, .int (nI j)), (2, .long x)]) hx hb dX4_statesOf_24 hl (by decide) rfl (fun ls hl => ?_)
    refine lv_iload hx hb dX4_statesOf_26 (lv_at hl 0 rfl) ?_
    refine lv_aload_n hx hb dX4_statesOf_28 rfl (lv_at hl 1 rfl) ?_
    refine va_get (D := D) (ci := 4) (v := .ref (cd 21)) (C := RX4) (T := TX4) (N := 9) (ref := "Ironwood$Ways") hx hb hts in_RX4 hown hK hP 0 rfl rfl 2 (by decide) (hts _ (mc q_223)) (fun _ h9 => h9) rfl dX4_statesOf_29 ?_
    refine lv_iload_n hx hb dX4_statesOf_32 rfl (lv_at hl 2 rfl) ?_
    refine va_lald hx hb hK hP 2 1 rfl rfl (vp_in_nI (n := j) (by omega) (by omega)) dX4_statesOf_33 ?_
    refine tJ (v := M j) ((congrArg (fil n M ym) (nI_clamp (n := j) (by omega))).trans (fil_lt (by omega))) ?_
    refine lv_lload_n hx hb dX4_statesOf_34 rfl (lv_at hl 3 rfl) ?_
    refine lv_land hx hb dX4_statesOf_35 ?_
    refine lv_lconst (v := 0) hx hb dX4_statesOf_36 (by decide) ?_
    refine W.lcmp hx hb dX4_statesOf_37 ?_
    refine tI (v := lg_cmp ((M j) &&& x) 0) rfl ?_
    refine lv_if_eq (tgt := 45) hx hb dX4_statesOf_38 (by decide) (fun c_38 => ?_) (fun c_38 => ?_)
    · skip
      have c_38 : ((M j) &&& x) = 0 := (lg_cmp_eq _ _).mp c_38
      refine lv_iconst (v := 0) hx hb dX4_statesOf_45 (by decide) ?_
      refine lv_ior hx hb dX4_statesOf_46 ?_
      refine tI (v := 1) (by decide) ?_
      refine lv_istore (lv' := [(4, .int 1), (0, .ref (cd 2)), (1, .int (nI j)), (2, .long x)]) hx hb dX4_statesOf_47 hl (by decide) rfl (fun ls hl => ?_)
      refine lv_iload hx hb dX4_statesOf_49 (lv_at hl 0 rfl) ?_
      refine lv_aload_n hx hb dX4_statesOf_51 rfl (lv_at hl 1 rfl) ?_
      refine va_get (D := D) (ci := 4) (v := .ref (cd 22)) (C := RX4) (T := TX4) (N := 9) (ref := "Ironwood$Ways") hx hb hts in_RX4 hown hK hP 0 rfl rfl 3 (by decide) (hts _ (mc q_224)) (fun _ h9 => h9) rfl dX4_statesOf_52 ?_
      refine lv_iload_n hx hb dX4_statesOf_55 rfl (lv_at hl 2 rfl) ?_
      refine va_lald hx hb hK hP 3 1 rfl rfl (vp_in_nI (n := j) (by omega) (by omega)) dX4_statesOf_56 ?_
      refine tJ (v := G j) ((congrArg (fil n G yg) (nI_clamp (n := j) (by omega))).trans (fil_lt (by omega))) ?_
      refine lv_lload_n hx hb dX4_statesOf_57 rfl (lv_at hl 3 rfl) ?_
      refine lv_land hx hb dX4_statesOf_58 ?_
      refine lv_lconst (v := 0) hx hb dX4_statesOf_59 (by decide) ?_
      refine W.lcmp hx hb dX4_statesOf_60 ?_
      refine tI (v := lg_cmp ((G j) &&& x) 0) rfl ?_
      refine lv_if_eq (tgt := 68) hx hb dX4_statesOf_61 (by decide) (fun c_61 => ?_) (fun c_61 => ?_)
      · skip
        have c_61 : ((G j) &&& x) = 0 := (lg_cmp_eq _ _).mp c_61
        refine lv_iconst (v := 0) hx hb dX4_statesOf_68 (by decide) ?_
        refine lv_ior hx hb dX4_statesOf_69 ?_
        refine tI (v := 1) (by decide) ?_
        refine lv_istore (lv' := [(4, .int 1), (0, .ref (cd 2)), (1, .int (nI j)), (2, .long x)]) hx hb dX4_statesOf_70 hl (by decide) rfl (fun ls hl => ?_)
        refine lv_iload hx hb dX4_statesOf_72 (lv_at hl 0 rfl) ?_
        exact ke_i hx hb hr (by first | rfl | decide | exact bz_nar _) () (by first | (simp [sO, c_15, c_38, c_61]; done) | (simp [sO, if_neg c_15, if_pos c_38, if_pos c_61]; done) | rfl | (simp [sO, c_15, c_38, c_61]; omega)) hP hD hS (Nat.le_of_ble_eq_true rfl) (Nat.le_of_ble_eq_true rfl) hlocks dX4_statesOf_74
      · skip
        have c_61 : ¬ ((G j) &&& x) = 0 := fun h9 => c_61 ((lg_cmp_eq _ _).mpr h9)
        refine lv_iconst (v := 4) hx hb dX4_statesOf_64 (by decide) ?_
        refine lv_goto (tgt := 69) hx hb dX4_statesOf_65 (by decide) ?_
        refine lv_ior hx hb dX4_statesOf_69 ?_
        refine tI (v := 5) (by decide) ?_
        refine lv_istore (lv' := [(4, .int 5), (0, .ref (cd 2)), (1, .int (nI j)), (2, .long x)]) hx hb dX4_statesOf_70 hl (by decide) rfl (fun ls hl => ?_)
        refine lv_iload hx hb dX4_statesOf_72 (lv_at hl 0 rfl) ?_
        exact ke_i hx hb hr (by first | rfl | decide | exact bz_nar _) () (by first | (simp [sO, c_15, c_38, c_61]; done) | (simp [sO, if_neg c_15, if_pos c_38, if_neg c_61]; done) | rfl | (simp [sO, c_15, c_38, c_61]; omega)) hP hD hS (Nat.le_of_ble_eq_true rfl) (Nat.le_of_ble_eq_true rfl) hlocks dX4_statesOf_74
    · skip
      have c_38 : ¬ ((M j) &&& x) = 0 := fun h9 => c_38 ((lg_cmp_eq _ _).mpr h9)
      refine lv_iconst (v := 2) hx hb dX4_statesOf_41 (by decide) ?_
      refine lv_goto (tgt := 46) hx hb dX4_statesOf_42 (by decide) ?_
      refine lv_ior hx hb dX4_statesOf_46 ?_
      refine tI (v := 3) (by decide) ?_
      refine lv_istore (lv' := [(4, .int 3), (0, .ref (cd 2)), (1, .int (nI j)), (2, .long x)]) hx hb dX4_statesOf_47 hl (by decide) rfl (fun ls hl => ?_)
      refine lv_iload hx hb dX4_statesOf_49 (lv_at hl 0 rfl) ?_
      refine lv_aload_n hx hb dX4_statesOf_51 rfl (lv_at hl 1 rfl) ?_
      refine va_get (D := D) (ci := 4) (v := .ref (cd 22)) (C := RX4) (T := TX4) (N := 9) (ref := "Ironwood$Ways") hx hb hts in_RX4 hown hK hP 0 rfl rfl 3 (by decide) (hts _ (mc q_224)) (fun _ h9 => h9) rfl dX4_statesOf_52 ?_
      refine lv_iload_n hx hb dX4_statesOf_55 rfl (lv_at hl 2 rfl) ?_
      refine va_lald hx hb hK hP 3 1 rfl rfl (vp_in_nI (n := j) (by omega) (by omega)) dX4_statesOf_56 ?_
      refine tJ (v := G j) ((congrArg (fil n G yg) (nI_clamp (n := j) (by omega))).trans (fil_lt (by omega))) ?_
      refine lv_lload_n hx hb dX4_statesOf_57 rfl (lv_at hl 3 rfl) ?_
      refine lv_land hx hb dX4_statesOf_58 ?_
      refine lv_lconst (v := 0) hx hb dX4_statesOf_59 (by decide) ?_
      refine W.lcmp hx hb dX4_statesOf_60 ?_
      refine tI (v := lg_cmp ((G j) &&& x) 0) rfl ?_
      refine lv_if_eq (tgt := 68) hx hb dX4_statesOf_61 (by decide) (fun c_61 => ?_) (fun c_61 => ?_)
      · skip
        have c_61 : ((G j) &&& x) = 0 := (lg_cmp_eq _ _).mp c_61
        refine lv_iconst (v := 0) hx hb dX4_statesOf_68 (by decide) ?_
        refine lv_ior hx hb dX4_statesOf_69 ?_
        refine tI (v := 3) (by decide) ?_
        refine lv_istore (lv' := [(4, .int 3), (0, .ref (cd 2)), (1, .int (nI j)), (2, .long x)]) hx hb dX4_statesOf_70 hl (by decide) rfl (fun ls hl => ?_)
        refine lv_iload hx hb dX4_statesOf_72 (lv_at hl 0 rfl) ?_
        exact ke_i hx hb hr (by first | rfl | decide | exact bz_nar _) () (by first | (simp [sO, c_15, c_38, c_61]; done) | (simp [sO, if_neg c_15, if_neg c_38, if_pos c_61]; done) | rfl | (simp [sO, c_15, c_38, c_61]; omega)) hP hD hS (Nat.le_of_ble_eq_true rfl) (Nat.le_of_ble_eq_true rfl) hlocks dX4_statesOf_74
      · skip
        have c_61 : ¬ ((G j) &&& x) = 0 := fun h9 => c_61 ((lg_cmp_eq _ _).mpr h9)
        refine lv_iconst (v := 4) hx hb dX4_statesOf_64 (by decide) ?_
        refine lv_goto (tgt := 69) hx hb dX4_statesOf_65 (by decide) ?_
        refine lv_ior hx hb dX4_statesOf_69 ?_
        refine tI (v := 7) (by decide) ?_
        refine lv_istore (lv' := [(4, .int 7), (0, .ref (cd 2)), (1, .int (nI j)), (2, .long x)]) hx hb dX4_statesOf_70 hl (by decide) rfl (fun ls hl => ?_)
        refine lv_iload hx hb dX4_statesOf_72 (lv_at hl 0 rfl) ?_
        exact ke_i hx hb hr (by first | rfl | decide | exact bz_nar _) () (by first | (simp [sO, c_15, c_38, c_61]; done) | (simp [sO, if_neg c_15, if_neg c_38, if_neg c_61]; done) | rfl | (simp [sO, c_15, c_38, c_61]; omega)) hP hD hS (Nat.le_of_ble_eq_true rfl) (Nat.le_of_ble_eq_true rfl) hlocks dX4_statesOf_74

set_option maxHeartbeats 4000000 in
set_option maxRecDepth 100000 in
theorem k_loansIn (l : Launch) (D : va_G) (cI cJ cZ cR : ClassId) (cd : Nat → Nat) (rr : Int64) (n : Nat) (j : Nat) (v : Nat) (Hd : Nat → Nat → Int64) (yh : Nat → Int64) (sz : Nat) (hn : n ≤ 40) (hj : j < n) (hv : v < 6) : Met l yX4_loansIn (wx (.code yX4_loansIn cX4_loansIn 3 (some .long))) ({ frames := 0, cells := 0, slots := 0, locals := 0 }) (va_Pc [.ref (cd 2), .int (nI j), .int (nI v)] (Pw D vwCl [(cI, .int), (cJ, .long), (cZ, .boolean), (cR, .array .int)] [(cd 2, .inr (4, [.long rr, .ref (cd 20), .ref (cd 21), .ref (cd 22), .ref (cd 23), .ref (cd 24), .ref (cd 25), .ref (cd 26), .ref (cd 27)])), (cd 23, .inl (cJ, 480, .inr (.inl (fih n Hd yh))))] sz)) (va_Ql (fun (r : Int64) (u : Unit) => r = Hd j v) (Bw D vwCl (fun (u : Unit) => [(cd 2, .inr (4, [.long rr, .ref (cd 20), .ref (cd 21), .ref (cd 22), .ref (cd 23), .ref (cd 24), .ref (cd 25), .ref (cd 26), .ref (cd 27)])), (cd 23, .inl (cJ, 480, .inr (.inl (fih n Hd yh))))]) (va_A [(cd 2, .inr (4, [.long rr, .ref (cd 20), .ref (cd 21), .ref (cd 22), .ref (cd 23), .ref (cd 24), .ref (cd 25), .ref (cd 26), .ref (cd 27)])), (cd 23, .inl (cJ, 480, .inr (.inl (fih n Hd yh))))] sz)) (va_A [(cd 2, .inr (4, [.long rr, .ref (cd 20), .ref (cd 21), .ref (cd 22), .ref (cd 23), .ref (cd 24), .ref (cd 25), .ref (cd 26), .ref (cd 27)])), (cd 23, .inl (cJ, 480, .inr (.inl (fih n Hd yh))))] sz)) 0 0 (va_A [(cd 2, .inr (4, [.long rr, .ref (cd 20), .ref (cd 21), .ref (cd 22), .ref (cd 23), .ref (cd 24), .ref (cd 25), .ref (cd 26), .ref (cd 27)])), (cd 23, .inl (cJ, 480, .inr (.inl (fih n Hd yh))))] sz) := by
  refine Met.ofW (cc := cX4_loansIn) (maxL := 3) (ret := (some .long)) (by decide) rfl ?_
  intro p e s m args below meth c s₁ B hml hv9
  obtain ⟨rfl, hsz, hP, hK, hD0, hG⟩ := hv9
  have hx := B.exec
  have hb := B.bytes
  have hr := B.returns
  have hts := atoms_spec (ws := wx (.code yX4_loansIn cX4_loansIn 3 (some .long))) B.pre
  have hown : s.vm.findClass RX4 = some m.cls := findClass_of_methodNamed B.named
  have hlocks := B.notSynchronized
  subst hsz
  have hD := hD0.self (sz := s.heap.size)
  generalize hAe : va_A [(cd 2, .inr (4, [.long rr, .ref (cd 20), .ref (cd 21), .ref (cd 22), .ref (cd 23), .ref (cd 24), .ref (cd 25), .ref (cd 26), .ref (cd 27)])), (cd 23, .inl (cJ, 480, .inr (.inl (fih n Hd yh))))] s.heap.size = A at hD hG ⊢
  have hA : ∀ q : Nat, s.heap.size ≤ q → A q := fun q h => by rw [← hAe]; exact Or.inr h
  have hS : va_S A s.heap s.heap [] := va_S.rf
  have hP : va_P D vwCl [(cd 2, .inr (4, [.long rr, .ref (cd 20), .ref (cd 21), .ref (cd 22), .ref (cd 23), .ref (cd 24), .ref (cd 25), .ref (cd 26), .ref (cd 27)])), (cd 23, .inl (cJ, 480, .inr (.inl (fih n Hd yh))))] s.heap := hP
  have hl := lv_entry ([.ref (cd 2), .int (nI j), .int (nI v)]) (n := 3) (Nat.le_of_ble_eq_true rfl)
  rw [lg_entry_eq]
  generalize (lg_sl ([.ref (cd 2), .int (nI j), .int (nI v)]) ++ List.replicate (3 - (lg_sl ([.ref (cd 2), .int (nI j), .int (nI v)])).length) Slot.unset).toArray = ls at hl ⊢
  have hl : lv_has ls 3 [(0, .ref (cd 2)), (1, .int (nI j)), (2, .int (nI v))] := hl
  refine lv_aload_n hx hb dX4_loansIn_0 rfl (lv_at hl 0 rfl) ?_
  refine va_get (D := D) (ci := 4) (v := .ref (cd 23)) (C := RX4) (T := TX4) (N := 9) (ref := "Ironwood$Ways") hx hb hts in_RX4 hown hK hP 0 rfl rfl 4 (by decide) (hts _ (mc q_225)) (fun _ h9 => h9) rfl dX4_loansIn_1 ?_
  refine lv_iload_n hx hb dX4_loansIn_4 rfl (lv_at hl 1 rfl) ?_
  refine lv_bipush (v := 12) hx hb dX4_loansIn_5 (by decide) ?_
  refine lv_imul hx hb dX4_loansIn_7 ?_
  refine tI (v := nI (j * 12)) (pk_mul j 12) ?_
  refine lv_iload_n hx hb dX4_loansIn_8 rfl (lv_at hl 2 rfl) ?_
  refine lv_iadd hx hb dX4_loansIn_9 ?_
  refine tI (v := nI ((j * 12) + v)) (nI_add (j * 12) v) ?_
  refine va_lald hx hb hK hP 1 1 rfl rfl (vp_in_nI (n := (j * 12) + v) (by omega) (by omega)) dX4_loansIn_10 ?_
  refine tJ (v := Hd j v) ((congrArg (fih n Hd yh) (nI_clamp (n := (j * 12) + v) (by omega))).trans (fih_at (by omega) (by omega))) ?_
  exact ke_l hx hb hr () (rfl) hP hD hS (Nat.le_of_ble_eq_true rfl) (Nat.le_of_ble_eq_true rfl) hlocks dX4_loansIn_11

set_option maxHeartbeats 4000000 in
set_option maxRecDepth 100000 in
theorem k_loansSet (l : Launch) (D : va_G) (cI cJ cZ cR : ClassId) (ad : Nat → Nat) (po : Int64) (oc : Int64) (n : Nat) (T : Nat → Nat → Int32) (cd : Nat → Nat) (rr : Int64) (j : Nat) (v : Nat) (Hd : Nat → Nat → Int64) (yh : Nat → Int64) (sz : Nat) (hn : n ≤ 40) (hj : j < n) (hv : v < 6) : Met l yX4_loansSet (wx (.code yX4_loansSet cX4_loansSet 7 (some .long))) ({ frames := 1, cells := 0, slots := 0, locals := 22 }) (va_Pc [.ref (cd 2), .ref (ad 1), .int (nI j), .int (nI v)] (Pw D vwCl [(cI, .int), (cJ, .long), (cZ, .boolean), (cR, .array .int)] [(ad 1, .inr (3, [.ref (ad 10), .int 6, .long po, .long oc, .ref (ad 11), .ref (ad 12), .ref (ad 13), .ref (ad 14), .ref (ad 15), .int (nI n), .ref (ad 16), .ref (ad 17), .ref (ad 18)])), (ad 10, .inl (cI, 12, .inl (T 0))), (ad 11, .inl (cI, 40, .inl (T 1))), (ad 14, .inl (cI, 40, .inl (T 4))), (cd 2, .inr (4, [.long rr, .ref (cd 20), .ref (cd 21), .ref (cd 22), .ref (cd 23), .ref (cd 24), .ref (cd 25), .ref (cd 26), .ref (cd 27)])), (cd 23, .inl (cJ, 480, .inr (.inl (fih n Hd yh))))] sz)) (va_Ql (fun (r : Int64) (u : Unit) => r = lsF T n Hd j v) (Bw D vwCl (fun (u : Unit) => [(ad 1, .inr (3, [.ref (ad 10), .int 6, .long po, .long oc, .ref (ad 11), .ref (ad 12), .ref (ad 13), .ref (ad 14), .ref (ad 15), .int (nI n), .ref (ad 16), .ref (ad 17), .ref (ad 18)])), (ad 10, .inl (cI, 12, .inl (T 0))), (ad 11, .inl (cI, 40, .inl (T 1))), (ad 14, .inl (cI, 40, .inl (T 4))), (cd 2, .inr (4, [.long rr, .ref (cd 20), .ref (cd 21), .ref (cd 22), .ref (cd 23), .ref (cd 24), .ref (cd 25), .ref (cd 26), .ref (cd 27)])), (cd 23, .inl (cJ, 480, .inr (.inl (fih n Hd yh))))]) (va_A [(ad 1, .inr (3, [.ref (ad 10), .int 6, .long po, .long oc, .ref (ad 11), .ref (ad 12), .ref (ad 13), .ref (ad 14), .ref (ad 15), .int (nI n), .ref (ad 16), .ref (ad 17), .ref (ad 18)])), (ad 10, .inl (cI, 12, .inl (T 0))), (ad 11, .inl (cI, 40, .inl (T 1))), (ad 14, .inl (cI, 40, .inl (T 4))), (cd 2, .inr (4, [.long rr, .ref (cd 20), .ref (cd 21), .ref (cd 22), .ref (cd 23), .ref (cd 24), .ref (cd 25), .ref (cd 26), .ref (cd 27)])), (cd 23, .inl (cJ, 480, .inr (.inl (fih n Hd yh))))] sz)) (va_A [(ad 1, .inr (3, [.ref (ad 10), .int 6, .long po, .long oc, .ref (ad 11), .ref (ad 12), .ref (ad 13), .ref (ad 14), .ref (ad 15), .int (nI n), .ref (ad 16), .ref (ad 17), .ref (ad 18)])), (ad 10, .inl (cI, 12, .inl (T 0))), (ad 11, .inl (cI, 40, .inl (T 1))), (ad 14, .inl (cI, 40, .inl (T 4))), (cd 2, .inr (4, [.long rr, .ref (cd 20), .ref (cd 21), .ref (cd 22), .ref (cd 23), .ref (cd 24), .ref (cd 25), .ref (cd 26), .ref (cd 27)])), (cd 23, .inl (cJ, 480, .inr (.inl (fih n Hd yh))))] sz)) 0 0 (va_A [(ad 1, .inr (3, [.ref (ad 10), .int 6, .long po, .long oc, .ref (ad 11), .ref (ad 12), .ref (ad 13), .ref (ad 14), .ref (ad 15), .int (nI n), .ref (ad 16), .ref (ad 17), .ref (ad 18)])), (ad 10, .inl (cI, 12, .inl (T 0))), (ad 11, .inl (cI, 40, .inl (T 1))), (ad 14, .inl (cI, 40, .inl (T 4))), (cd 2, .inr (4, [.long rr, .ref (cd 20), .ref (cd 21), .ref (cd 22), .ref (cd 23), .ref (cd 24), .ref (cd 25), .ref (cd 26), .ref (cd 27)])), (cd 23, .inl (cJ, 480, .inr (.inl (fih n Hd yh))))] sz) := by
  refine Met.ofW (cc := cX4_loansSet) (maxL := 7) (ret := (some .long)) (by decide) rfl ?_
  intro p e s m args below meth c s₁ B hml hv9
  obtain ⟨rfl, hsz, hP, hK, hD0, hG⟩ := hv9
  have hx := B.exec
  have hb := B.bytes
  have hr := B.returns
  have hts := atoms_spec (ws := wx (.code yX4_loansSet cX4_loansSet 7 (some .long))) B.pre
  have hown : s.vm.findClass RX4 = some m.cls := findClass_of_methodNamed B.named
  have hlocks := B.notSynchronized
  subst hsz
  have hD := hD0.self (sz := s.heap.size)
  generalize hAe : va_A [(ad 1, .inr (3, [.ref (ad 10), .int 6, .long po, .long oc, .ref (ad 11), .ref (ad 12), .ref (ad 13), .ref (ad 14), .ref (ad 15), .int (nI n), .ref (ad 16), .ref (ad 17), .ref (ad 18)])), (ad 10, .inl (cI, 12, .inl (T 0))), (ad 11, .inl (cI, 40, .inl (T 1))), (ad 14, .inl (cI, 40, .inl (T 4))), (cd 2, .inr (4, [.long rr, .ref (cd 20), .ref (cd 21), .ref (cd 22), .ref (cd 23), .ref (cd 24), .ref (cd 25), .ref (cd 26), .ref (cd 27)])), (cd 23, .inl (cJ, 480, .inr (.inl (fih n Hd yh))))] s.heap.size = A at hD hG ⊢
  have hA : ∀ q : Nat, s.heap.size ≤ q → A q := fun q h => by rw [← hAe]; exact Or.inr h
  have hS : va_S A s.heap s.heap [] := va_S.rf
  have hP : va_P D vwCl [(ad 1, .inr (3, [.ref (ad 10), .int 6, .long po, .long oc, .ref (ad 11), .ref (ad 12), .ref (ad 13), .ref (ad 14), .ref (ad 15), .int (nI n), .ref (ad 16), .ref (ad 17), .ref (ad 18)])), (ad 10, .inl (cI, 12, .inl (T 0))), (ad 11, .inl (cI, 40, .inl (T 1))), (ad 14, .inl (cI, 40, .inl (T 4))), (cd 2, .inr (4, [.long rr, .ref (cd 20), .ref (cd 21), .ref (cd 22), .ref (cd 23), .ref (cd 24), .ref (cd 25), .ref (cd 26), .ref (cd 27)])), (cd 23, .inl (cJ, 480, .inr (.inl (fih n Hd yh))))] s.heap := hP
  have hl := lv_entry ([.ref (cd 2), .ref (ad 1), .int (nI j), .int (nI v)]) (n := 7) (Nat.le_of_ble_eq_true rfl)
  rw [lg_entry_eq]
  generalize (lg_sl ([.ref (cd 2), .ref (ad 1), .int (nI j), .int (nI v)]) ++ List.replicate (7 - (lg_sl ([.ref (cd 2), .ref (ad 1), .int (nI j), .int (nI v)])).length) Slot.unset).toArray = ls at hl ⊢
  have hl : lv_has ls 7 [(0, .ref (cd 2)), (1, .ref (ad 1)), (2, .int (nI j)), (3, .int (nI v))] := hl
  refine lv_aload_n hx hb dX4_loansSet_0 rfl (lv_at hl 1 rfl) ?_
  refine lv_iload_n hx hb dX4_loansSet_1 rfl (lv_at hl 3 rfl) ?_
  refine kc_i (wr := [(ad 11, .inl (cI, 40, .inl (T 1))), (ad 14, .inl (cI, 40, .inl (T 4))), (cd 2, .inr (4, [.long rr, .ref (cd 20), .ref (cd 21), .ref (cd 22), .ref (cd 23), .ref (cd 24), .ref (cd 25), .ref (cd 26), .ref (cd 27)])), (cd 23, .inl (cJ, 480, .inr (.inl (fih n Hd yh))))]) (va_runVN (As := [.int (nI v)]) (rest := []) (host := "Ironwood") ⟨hx, hb, hml, hown, hts⟩ (k_isLoan l D cI cJ cZ cR ad 6 (nI n) po oc T v _ (by omega)) ⟨va_cnB 1 hts (gB q_482) rfl rfl rfl (hG.1.nw 58 rfl) (hts _ (mc q_65)) (by decide +kernel) ⟨Nat.le_of_ble_eq_true rfl, Nat.le_of_ble_eq_true rfl⟩, hts _ (mc q_481), hts _ (mc q_19)⟩ ⟨Pw.blind, va_recv hK hP (ci := 3) (q0 := 0) rfl rfl, Pw.mk_call hP hK hD hS hA hG [0, 1] rfl (by decide)⟩ rfl rfl hl.1 rfl (lv_room (Nat.le_of_ble_eq_true rfl)) dX4_loansSet_2 ⟨Nat.le_of_ble_eq_true rfl, Nat.le_of_ble_eq_true rfl⟩) hP hD hS hA [0, 1] [2, 3, 4, 5] rfl rfl (by decide) (by decide) (fun r_1 u_2 H locs hw hP hD hS => ?_)
  obtain rfl : r_1 = bz (iL T v) := hw
  have hP : va_P D vwCl [(ad 11, .inl (cI, 40, .inl (T 1))), (ad 14, .inl (cI, 40, .inl (T 4))), (cd 2, .inr (4, [.long rr, .ref (cd 20), .ref (cd 21), .ref (cd 22), .ref (cd 23), .ref (cd 24), .ref (cd 25), .ref (cd 26), .ref (cd 27)])), (cd 23, .inl (cJ, 480, .inr (.inl (fih n Hd yh)))), (ad 1, .inr (3, [.ref (ad 10), .int 6, .long po, .long oc, .ref (ad 11), .ref (ad 12), .ref (ad 13), .ref (ad 14), .ref (ad 15), .int (nI n), .ref (ad 16), .ref (ad 17), .ref (ad 18)])), (ad 10, .inl (cI, 12, .inl (T 0)))] _ := hP
  have hD : va_D A [(ad 11, .inl (cI, 40, .inl (T 1))), (ad 14, .inl (cI, 40, .inl (T 4))), (cd 2, .inr (4, [.long rr, .ref (cd 20), .ref (cd 21), .ref (cd 22), .ref (cd 23), .ref (cd 24), .ref (cd 25), .ref (cd 26), .ref (cd 27)])), (cd 23, .inl (cJ, 480, .inr (.inl (fih n Hd yh)))), (ad 1, .inr (3, [.ref (ad 10), .int 6, .long po, .long oc, .ref (ad 11), .ref (ad 12), .ref (ad 13), .ref (ad 14), .ref (ad 15), .int (nI n), .ref (ad 16), .ref (ad 17), .ref (ad 18)])), (ad 10, .inl (cI, 12, .inl (T 0)))] := hD
  refine lv_if_ne (tgt := 10) hx hb dX4_loansSet_5 (by decide) (fun c_5 => ?_) (fun c_5 => ?_)
  · skip
    have c_5 : (iL T v) = true := bz_t c_5
    refine lv_aload_n hx hb dX4_loansSet_10 rfl (lv_at hl 1 rfl) ?_
    refine lv_iload_n hx hb dX4_loansSet_11 rfl (lv_at hl 2 rfl) ?_
    refine kc_i (wr := [(ad 14, .inl (cI, 40, .inl (T 4))), (cd 2, .inr (4, [.long rr, .ref (cd 20), .ref (cd 21), .ref (cd 22), .ref (cd 23), .ref (cd 24), .ref (cd 25), .ref (cd 26), .ref (cd 27)])), (cd 23, .inl (cJ, 480, .inr (.inl (fih n Hd yh)))), (ad 10, .inl (cI, 12, .inl (T 0)))]) (va_runVN (As := [.int (nI j)]) (rest := []) (host := "Ironwood") ⟨hx, hb, hml, hown, hts⟩ (k_isMadeLoan l D cI cJ cZ cR ad 6 po oc n T j _ hn (by omega)) ⟨va_cnB 1 hts (gB q_486) rfl rfl rfl (hG.1.nw 59 rfl) (hts _ (mc q_65)) (by decide +kernel) ⟨Nat.le_of_ble_eq_true rfl, Nat.le_of_ble_eq_true rfl⟩, hts _ (mc q_485), hts _ (mc q_20)⟩ ⟨Pw.blind, va_recv hK hP (ci := 3) (q0 := 4) rfl rfl, Pw.mk_call hP hK hD hS hA hG [4, 0] rfl (by decide)⟩ rfl rfl hl.1 rfl (lv_room (Nat.le_of_ble_eq_true rfl)) dX4_loansSet_12 ⟨Nat.le_of_ble_eq_true rfl, Nat.le_of_ble_eq_true rfl⟩) hP hD hS hA [4, 0] [1, 2, 3, 5] rfl rfl (by decide) (by decide) (fun r_3 u_4 H locs hw hP hD hS => ?_)
    obtain rfl : r_3 = bz (iML T n j) := hw
    have hP : va_P D vwCl [(ad 14, .inl (cI, 40, .inl (T 4))), (cd 2, .inr (4, [.long rr, .ref (cd 20), .ref (cd 21), .ref (cd 22), .ref (cd 23), .ref (cd 24), .ref (cd 25), .ref (cd 26), .ref (cd 27)])), (cd 23, .inl (cJ, 480, .inr (.inl (fih n Hd yh)))), (ad 10, .inl (cI, 12, .inl (T 0))), (ad 1, .inr (3, [.ref (ad 10), .int 6, .long po, .long oc, .ref (ad 11), .ref (ad 12), .ref (ad 13), .ref (ad 14), .ref (ad 15), .int (nI n), .ref (ad 16), .ref (ad 17), .ref (ad 18)])), (ad 11, .inl (cI, 40, .inl (T 1)))] _ := hP
    have hD : va_D A [(ad 14, .inl (cI, 40, .inl (T 4))), (cd 2, .inr (4, [.long rr, .ref (cd 20), .ref (cd 21), .ref (cd 22), .ref (cd 23), .ref (cd 24), .ref (cd 25), .ref (cd 26), .ref (cd 27)])), (cd 23, .inl (cJ, 480, .inr (.inl (fih n Hd yh)))), (ad 10, .inl (cI, 12, .inl (T 0))), (ad 1, .inr (3, [.ref (ad 10), .int 6, .long po, .long oc, .ref (ad 11), .ref (ad 12), .ref (ad 13), .ref (ad 14), .ref (ad 15), .int (nI n), .ref (ad 16), .ref (ad 17), .ref (ad 18)])), (ad 11, .inl (cI, 40, .inl (T 1)))] := hD
    refine lv_if_eq (tgt := 24) hx hb dX4_loansSet_15 (by decide) (fun c_15 => ?_) (fun c_15 => ?_)
    · skip
      have c_15 : (iML T n j) = false := bz_f c_15
      refine lv_lconst (v := 0) hx hb dX4_loansSet_24 (by decide) ?_
      refine lv_lstore (lv' := [(4, .long 0), (0, .ref (cd 2)), (1, .ref (ad 1)), (2, .int (nI j)), (3, .int (nI v))]) hx hb dX4_loansSet_25 hl (by decide) rfl (fun ls hl => ?_)
      refine lv_iconst (v := 0) hx hb dX4_loansSet_27 (by decide) ?_
      refine lv_istore (lv' := [(6, .int 0), (4, .long 0), (0, .ref (cd 2)), (1, .ref (ad 1)), (2, .int (nI j)), (3, .int (nI v))]) hx hb dX4_loansSet_28 hl (by decide) rfl (fun ls hl => ?_)
      refine W_loop (σ := (Nat) × (Int64)) (fun ⟨s0, x⟩ => 6 - s0) (fun ⟨s0, x⟩ ls H locs => (s0 ≤ 6) ∧ (lsF T n Hd j v = itF (lsB T Hd j) 6 s0 x) ∧ lv_has ls 7 [(6, .int (nI s0)), (4, .long x), (0, .ref (cd 2)), (1, .ref (ad 1)), (2, .int (nI j)), (3, .int (nI v))] ∧ va_P D vwCl [(ad 14, .inl (cI, 40, .inl (T 4))), (cd 2, .inr (4, [.long rr, .ref (cd 20), .ref (cd 21), .ref (cd 22), .ref (cd 23), .ref (cd 24), .ref (cd 25), .ref (cd 26), .ref (cd 27)])), (cd 23, .inl (cJ, 480, .inr (.inl (fih n Hd yh)))), (ad 10, .inl (cI, 12, .inl (T 0))), (ad 1, .inr (3, [.ref (ad 10), .int 6, .long po, .long oc, .ref (ad 11), .ref (ad 12), .ref (ad 13), .ref (ad 14), .ref (ad 15), .int (nI n), .ref (ad 16), .ref (ad 17), .ref (ad 18)])), (ad 11, .inl (cI, 40, .inl (T 1)))] H ∧ va_D A [(ad 14, .inl (cI, 40, .inl (T 4))), (cd 2, .inr (4, [.long rr, .ref (cd 20), .ref (cd 21), .ref (cd 22), .ref (cd 23), .ref (cd 24), .ref (cd 25), .ref (cd 26), .ref (cd 27)])), (cd 23, .inl (cJ, 480, .inr (.inl (fih n Hd yh)))), (ad 10, .inl (cI, 12, .inl (T 0))), (ad 1, .inr (3, [.ref (ad 10), .int 6, .long po, .long oc, .ref (ad 11), .ref (ad 12), .ref (ad 13), .ref (ad 14), .ref (ad 15), .int (nI n), .ref (ad 16), .ref (ad 17), .ref (ad 18)])), (ad 11, .inl (cI, 40, .inl (T 1)))] ∧ va_S A s.heap H locs) ?_ (0, 0) _ _ _ ⟨Nat.zero_le _, by first | (simp [lsF, lsB, c_5, c_15]; done) | (simp [lsF, lsB, if_pos c_5, if_neg (bnt c_15)]; done) | rfl | (simp [lsF, lsB, c_5, c_15]; omega), lv_sub hl (l' := [(6, .int 0), (4, .long 0), (0, .ref (cd 2)), (1, .ref (ad 1)), (2, .int (nI j)), (3, .int (nI v))]) [0, 1, 2, 3, 4, 5] rfl, hP, hD, hS⟩
      rintro ⟨s0, x⟩ ls H locs ⟨hs, hf, hl, hP, hD, hS⟩ ih
      have hs : s0 ≤ 6 := hs
      have hf : lsF T n Hd j v = itF (lsB T Hd j) 6 s0 x := hf
      have hl : lv_has ls 7 [(6, .int (nI s0)), (4, .long x), (0, .ref (cd 2)), (1, .ref (ad 1)), (2, .int (nI j)), (3, .int (nI v))] := hl
      have hP : va_P D vwCl [(ad 14, .inl (cI, 40, .inl (T 4))), (cd 2, .inr (4, [.long rr, .ref (cd 20), .ref (cd 21), .ref (cd 22), .ref (cd 23), .ref (cd 24), .ref (cd 25), .ref (cd 26), .ref (cd 27)])), (cd 23, .inl (cJ, 480, .inr (.inl (fih n Hd yh)))), (ad 10, .inl (cI, 12, .inl (T 0))), (ad 1, .inr (3, [.ref (ad 10), .int 6, .long po, .long oc, .ref (ad 11), .ref (ad 12), .ref (ad 13), .ref (ad 14), .ref (ad 15), .int (nI n), .ref (ad 16), .ref (ad 17), .ref (ad 18)])), (ad 11, .inl (cI, 40, .inl (T 1)))] _ := hP
      have hD : va_D A [(ad 14, .inl (cI, 40, .inl (T 4))), (cd 2, .inr (4, [.long rr, .ref (cd 20), .ref (cd 21), .ref (cd 22), .ref (cd 23), .ref (cd 24), .ref (cd 25), .ref (cd 26), .ref (cd 27)])), (cd 23, .inl (cJ, 480, .inr (.inl (fih n Hd yh)))), (ad 10, .inl (cI, 12, .inl (T 0))), (ad 1, .inr (3, [.ref (ad 10), .int 6, .long po, .long oc, .ref (ad 11), .ref (ad 12), .ref (ad 13), .ref (ad 14), .ref (ad 15), .int (nI n), .ref (ad 16), .ref (ad 17), .ref (ad 18)])), (ad 11, .inl (cI, 40, .inl (T 1)))] := hD
      have ih_30 := ih
      refine lv_iload hx hb dX4_loansSet_30 (lv_at hl 0 rfl) ?_
      refine lv_aload_n hx hb dX4_loansSet_32 rfl (lv_at hl 3 rfl) ?_
      refine va_getN (D := D) (ci := 3) (v := .int 6) (C := RX3) (T := TX3) (N := 13) (ref := "Ironwood$Told") (host := "Ironwood") hx hb hts in_RX3 hown hK hP 4 rfl rfl 1 (by decide) (hG.1.get 2 rfl) (fun _ h9 => h9) rfl dX4_loansSet_33 ?_
      refine lv_icmp_ge (tgt := 72) hx hb dX4_loansSet_36 (by decide) (fun c_36 => ?_) (fun c_36 => ?_)
      · skip
        have c_36 : 6 ≤ s0 := (nI_leI (a := 6) (b := s0) (by omega) (by omega)).mp c_36
        have hfe := hf.trans (itF_ge (by omega))
        refine lv_lload hx hb dX4_loansSet_72 (lv_at hl 1 rfl) ?_
        have hP := hP.sub (ws' := [(ad 1, .inr (3, [.ref (ad 10), .int 6, .long po, .long oc, .ref (ad 11), .ref (ad 12), .ref (ad 13), .ref (ad 14), .ref (ad 15), .int (nI n), .ref (ad 16), .ref (ad 17), .ref (ad 18)])), (ad 10, .inl (cI, 12, .inl (T 0))), (ad 11, .inl (cI, 40, .inl (T 1))), (ad 14, .inl (cI, 40, .inl (T 4))), (cd 2, .inr (4, [.long rr, .ref (cd 20), .ref (cd 21), .ref (cd 22), .ref (cd 23), .ref (cd 24), .ref (cd 25), .ref (cd 26), .ref (cd 27)])), (cd 23, .inl (cJ, 480, .inr (.inl (fih n Hd yh))))]) [4, 3, 5, 0, 1, 2] rfl
        have hD := hD.sub (ws' := [(ad 1, .inr (3, [.ref (ad 10), .int 6, .long po, .long oc, .ref (ad 11), .ref (ad 12), .ref (ad 13), .ref (ad 14), .ref (ad 15), .int (nI n), .ref (ad 16), .ref (ad 17), .ref (ad 18)])), (ad 10, .inl (cI, 12, .inl (T 0))), (ad 11, .inl (cI, 40, .inl (T 1))), (ad 14, .inl (cI, 40, .inl (T 4))), (cd 2, .inr (4, [.long rr, .ref (cd 20), .ref (cd 21), .ref (cd 22), .ref (cd 23), .ref (cd 24), .ref (cd 25), .ref (cd 26), .ref (cd 27)])), (cd 23, .inl (cJ, 480, .inr (.inl (fih n Hd yh))))]) [4, 3, 5, 0, 1, 2] (by decide) rfl
        exact ke_l hx hb hr () (hfe.symm) hP hD hS (Nat.le_of_ble_eq_true rfl) (Nat.le_of_ble_eq_true rfl) hlocks dX4_loansSet_74
      · skip
        have c_36 : s0 < 6 := Nat.lt_of_not_le (fun h9 => c_36 ((nI_leI (a := 6) (b := s0) (by omega) (by omega)).mpr h9))
        refine lv_aload_n hx hb dX4_loansSet_39 rfl (lv_at hl 3 rfl) ?_
        refine va_getN (D := D) (ci := 3) (v := .ref (ad 14)) (C := RX3) (T := TX3) (N := 13) (ref := "Ironwood$Told") (host := "Ironwood") hx hb hts in_RX3 hown hK hP 4 rfl rfl 7 (by decide) (hG.1.get 11 rfl) (fun _ h9 => h9) rfl dX4_loansSet_40 ?_
        refine lv_iload_n hx hb dX4_loansSet_43 rfl (lv_at hl 4 rfl) ?_
        refine va_iald hx hb hK hP 0 0 rfl rfl (vp_in_nI (n := j) (by omega) (by omega)) dX4_loansSet_44 ?_
        refine tI (v := T 4 j) (congrArg (T 4) (nI_clamp (n := j) (by omega))) ?_
        refine lv_i2l (v := (T 4 j).toInt64) hx hb dX4_loansSet_45 rfl ?_
        refine lv_iload hx hb dX4_loansSet_46 (lv_at hl 0 rfl) ?_
        refine kc_i (wr := [(ad 14, .inl (cI, 40, .inl (T 4))), (cd 2, .inr (4, [.long rr, .ref (cd 20), .ref (cd 21), .ref (cd 22), .ref (cd 23), .ref (cd 24), .ref (cd 25), .ref (cd 26), .ref (cd 27)])), (cd 23, .inl (cJ, 480, .inr (.inl (fih n Hd yh)))), (ad 10, .inl (cI, 12, .inl (T 0))), (ad 1, .inr (3, [.ref (ad 10), .int 6, .long po, .long oc, .ref (ad 11), .ref (ad 12), .ref (ad 13), .ref (ad 14), .ref (ad 15), .int (nI n), .ref (ad 16), .ref (ad 17), .ref (ad 18)])), (ad 11, .inl (cI, 40, .inl (T 1)))]) (va_runSN (As := [.long ((T 4 j).toInt64), .int (nI s0)]) (rest := []) (host := "Ironwood") ⟨hx, hb, hml, hown, hts⟩ (k_isIn l D cI cJ cZ cR ((T 4 j).toInt64) (nI s0) _) ⟨va_cnB 2 hts (gB q_470) rfl rfl rfl (hG.1.nw 57 rfl) (hts _ (mc q_64)) (by decide +kernel) ⟨Nat.le_of_ble_eq_true rfl, Nat.le_of_ble_eq_true rfl⟩, hts _ (mc q_469), trivial⟩ ⟨Pw.blind, Pw.mk_call hP hK hD hS hA hG [] rfl (by decide)⟩ rfl rfl hl.1 rfl (lv_room (Nat.le_of_ble_eq_true rfl)) dX4_loansSet_48 ⟨Nat.le_of_ble_eq_true rfl, Nat.le_of_ble_eq_true rfl⟩) hP hD hS hA [] [0, 1, 2, 3, 4, 5] rfl rfl (by decide) (by decide) (fun r_6 u_7 H locs hw hP hD hS => ?_)
        obtain rfl : r_6 = bz (bI ((T 4 j).toInt64) (nI s0)) := hw
        have hP : va_P D vwCl [(ad 14, .inl (cI, 40, .inl (T 4))), (cd 2, .inr (4, [.long rr, .ref (cd 20), .ref (cd 21), .ref (cd 22), .ref (cd 23), .ref (cd 24), .ref (cd 25), .ref (cd 26), .ref (cd 27)])), (cd 23, .inl (cJ, 480, .inr (.inl (fih n Hd yh)))), (ad 10, .inl (cI, 12, .inl (T 0))), (ad 1, .inr (3, [.ref (ad 10), .int 6, .long po, .long oc, .ref (ad 11), .ref (ad 12), .ref (ad 13), .ref (ad 14), .ref (ad 15), .int (nI n), .ref (ad 16), .ref (ad 17), .ref (ad 18)])), (ad 11, .inl (cI, 40, .inl (T 1)))] _ := hP
        have hD : va_D A [(ad 14, .inl (cI, 40, .inl (T 4))), (cd 2, .inr (4, [.long rr, .ref (cd 20), .ref (cd 21), .ref (cd 22), .ref (cd 23), .ref (cd 24), .ref (cd 25), .ref (cd 26), .ref (cd 27)])), (cd 23, .inl (cJ, 480, .inr (.inl (fih n Hd yh)))), (ad 10, .inl (cI, 12, .inl (T 0))), (ad 1, .inr (3, [.ref (ad 10), .int 6, .long po, .long oc, .ref (ad 11), .ref (ad 12), .ref (ad 13), .ref (ad 14), .ref (ad 15), .int (nI n), .ref (ad 16), .ref (ad 17), .ref (ad 18)])), (ad 11, .inl (cI, 40, .inl (T 1)))] := hD
        refine lv_if_eq (tgt := 66) hx hb dX4_loansSet_51 (by decide) (fun c_51 => ?_) (fun c_51 => ?_)
        · skip
          have c_51 : (bI ((T 4 j).toInt64) (nI s0)) = false := bz_f c_51
          refine lv_iinc (v := nI (s0 + 1)) (lv' := [(6, .int (nI (s0 + 1))), (4, .long x), (0, .ref (cd 2)), (1, .ref (ad 1)), (2, .int (nI j)), (3, .int (nI v))]) hx hb dX4_loansSet_66 hl (k := 0) rfl (nI_add s0 1) (by decide) rfl (fun ls hl => ?_)
          refine lv_goto (tgt := 30) hx hb dX4_loansSet_69 (by decide) ?_
          exact ih_30 (s0 + 1, x) _ _ _ (by show 6 - (s0 + 1) < 6 - s0; omega) ⟨by show _ ≤ _; omega, hf.trans ((itF_lt (by omega)).trans (congrArg _ (by first | (simp [lsF, lsB, c_5, c_15, c_36, (Nat.not_le.mpr c_36), c_51]; done) | (simp [lsF, lsB, if_pos c_5, if_neg (bnt c_15), if_pos c_36, if_neg (Nat.not_le.mpr c_36), if_neg (bnt c_51)]; done) | rfl | (simp [lsF, lsB, c_5, c_15, c_36, (Nat.not_le.mpr c_36), c_51]; omega)))), lv_sub hl [0, 1, 2, 3, 4, 5] rfl, hP, hD, hS⟩
        · skip
          have c_51 : (bI ((T 4 j).toInt64) (nI s0)) = true := bz_t c_51
          refine lv_lload hx hb dX4_loansSet_54 (lv_at hl 1 rfl) ?_
          refine lv_aload_n hx hb dX4_loansSet_56 rfl (lv_at hl 2 rfl) ?_
          refine lv_iload_n hx hb dX4_loansSet_57 rfl (lv_at hl 4 rfl) ?_
          refine lv_iload hx hb dX4_loansSet_58 (lv_at hl 0 rfl) ?_
          refine kc_l (wr := [(ad 14, .inl (cI, 40, .inl (T 4))), (ad 10, .inl (cI, 12, .inl (T 0))), (ad 1, .inr (3, [.ref (ad 10), .int 6, .long po, .long oc, .ref (ad 11), .ref (ad 12), .ref (ad 13), .ref (ad 14), .ref (ad 15), .int (nI n), .ref (ad 16), .ref (ad 17), .ref (ad 18)])), (ad 11, .inl (cI, 40, .inl (T 1)))]) (va_runV (As := [.int (nI j), .int (nI s0)]) (rest := [.long x]) ⟨hx, hb, hml, hown, hts⟩ (k_loansIn l D cI cJ cZ cR cd rr n j s0 Hd yh _ hn hj (by omega)) (cwV 2 hts (gV q_490 q_487 q_489 q_21 q_68) rfl rfl rfl (by decide +kernel) ⟨Nat.le_of_ble_eq_true rfl, Nat.le_of_ble_eq_true rfl⟩) ⟨Pw.blind, va_recv hK hP (ci := 4) (q0 := 1) rfl rfl, Pw.mk_call hP hK hD hS hA hG [1, 2] rfl (by decide)⟩ rfl rfl hl.1 rfl (lv_room (Nat.le_of_ble_eq_true rfl)) dX4_loansSet_60 ⟨Nat.le_of_ble_eq_true rfl, Nat.le_of_ble_eq_true rfl⟩) hP hD hS hA [1, 2] [0, 3, 4, 5] rfl rfl (by decide) (by decide) (fun r_8 u_9 H locs hw hP hD hS => ?_)
          obtain rfl : r_8 = Hd j s0 := hw
          have hP : va_P D vwCl [(ad 14, .inl (cI, 40, .inl (T 4))), (ad 10, .inl (cI, 12, .inl (T 0))), (ad 1, .inr (3, [.ref (ad 10), .int 6, .long po, .long oc, .ref (ad 11), .ref (ad 12), .ref (ad 13), .ref (ad 14), .ref (ad 15), .int (nI n), .ref (ad 16), .ref (ad 17), .ref (ad 18)])), (ad 11, .inl (cI, 40, .inl (T 1))), (cd 2, .inr (4, [.long rr, .ref (cd 20), .ref (cd 21), .ref (cd 22), .ref (cd 23), .ref (cd 24), .ref (cd 25), .ref (cd 26), .ref (cd 27)])), (cd 23, .inl (cJ, 480, .inr (.inl (fih n Hd yh))))] _ := hP
          have hD : va_D A [(ad 14, .inl (cI, 40, .inl (T 4))), (ad 10, .inl (cI, 12, .inl (T 0))), (ad 1, .inr (3, [.ref (ad 10), .int 6, .long po, .long oc, .ref (ad 11), .ref (ad 12), .ref (ad 13), .ref (ad 14), .ref (ad 15), .int (nI n), .ref (ad 16), .ref (ad 17), .ref (ad 18)])), (ad 11, .inl (cI, 40, .inl (T 1))), (cd 2, .inr (4, [.long rr, .ref (cd 20), .ref (cd 21), .ref (cd 22), .ref (cd 23), .ref (cd 24), .ref (cd 25), .ref (cd 26), .ref (cd 27)])), (cd 23, .inl (cJ, 480, .inr (.inl (fih n Hd yh))))] := hD
          refine lv_lor hx hb dX4_loansSet_63 ?_
          refine lv_lstore (lv' := [(4, .long (x ||| (Hd j s0))), (6, .int (nI s0)), (0, .ref (cd 2)), (1, .ref (ad 1)), (2, .int (nI j)), (3, .int (nI v))]) hx hb dX4_loansSet_64 hl (by decide) rfl (fun ls hl => ?_)
          refine lv_iinc (v := nI (s0 + 1)) (lv' := [(6, .int (nI (s0 + 1))), (4, .long (x ||| (Hd j s0))), (0, .ref (cd 2)), (1, .ref (ad 1)), (2, .int (nI j)), (3, .int (nI v))]) hx hb dX4_loansSet_66 hl (k := 1) rfl (nI_add s0 1) (by decide) rfl (fun ls hl => ?_)
          refine lv_goto (tgt := 30) hx hb dX4_loansSet_69 (by decide) ?_
          have hP := hP.sub (ws' := [(ad 14, .inl (cI, 40, .inl (T 4))), (cd 2, .inr (4, [.long rr, .ref (cd 20), .ref (cd 21), .ref (cd 22), .ref (cd 23), .ref (cd 24), .ref (cd 25), .ref (cd 26), .ref (cd 27)])), (cd 23, .inl (cJ, 480, .inr (.inl (fih n Hd yh)))), (ad 10, .inl (cI, 12, .inl (T 0))), (ad 1, .inr (3, [.ref (ad 10), .int 6, .long po, .long oc, .ref (ad 11), .ref (ad 12), .ref (ad 13), .ref (ad 14), .ref (ad 15), .int (nI n), .ref (ad 16), .ref (ad 17), .ref (ad 18)])), (ad 11, .inl (cI, 40, .inl (T 1)))]) [0, 4, 5, 1, 2, 3] rfl
          have hD := hD.sub (ws' := [(ad 14, .inl (cI, 40, .inl (T 4))), (cd 2, .inr (4, [.long rr, .ref (cd 20), .ref (cd 21), .ref (cd 22), .ref (cd 23), .ref (cd 24), .ref (cd 25), .ref (cd 26), .ref (cd 27)])), (cd 23, .inl (cJ, 480, .inr (.inl (fih n Hd yh)))), (ad 10, .inl (cI, 12, .inl (T 0))), (ad 1, .inr (3, [.ref (ad 10), .int 6, .long po, .long oc, .ref (ad 11), .ref (ad 12), .ref (ad 13), .ref (ad 14), .ref (ad 15), .int (nI n), .ref (ad 16), .ref (ad 17), .ref (ad 18)])), (ad 11, .inl (cI, 40, .inl (T 1)))]) [0, 4, 5, 1, 2, 3] (by decide) rfl
          exact ih_30 (s0 + 1, x ||| (Hd j s0)) _ _ _ (by show 6 - (s0 + 1) < 6 - s0; omega) ⟨by show _ ≤ _; omega, hf.trans ((itF_lt (by omega)).trans (congrArg _ (by first | (simp [lsF, lsB, c_5, c_15, c_36, (Nat.not_le.mpr c_36), c_51]; done) | (simp [lsF, lsB, if_pos c_5, if_neg (bnt c_15), if_pos c_36, if_neg (Nat.not_le.mpr c_36), if_pos c_51]; done) | rfl | (simp [lsF, lsB, c_5, c_15, c_36, (Nat.not_le.mpr c_36), c_51]; omega)))), lv_sub hl [0, 1, 2, 3, 4, 5] rfl, hP, hD, hS⟩
    · skip
      have c_15 : (iML T n j) = true := bz_t c_15
      refine lv_lconst (v := 1) hx hb dX4_loansSet_18 (by decide) ?_
      refine lv_iload_n hx hb dX4_loansSet_19 rfl (lv_at hl 2 rfl) ?_
      refine lv_lshl (v := 1 <<< ((nI j).toInt64 &&& 63)) hx hb dX4_loansSet_20 rfl ?_
      refine tJ (v := b1 j) rfl ?_
      refine lv_goto (tgt := 25) hx hb dX4_loansSet_21 (by decide) ?_
      refine lv_lstore (lv' := [(4, .long (b1 j)), (0, .ref (cd 2)), (1, .ref (ad 1)), (2, .int (nI j)), (3, .int (nI v))]) hx hb dX4_loansSet_25 hl (by decide) rfl (fun ls hl => ?_)
      refine lv_iconst (v := 0) hx hb dX4_loansSet_27 (by decide) ?_
      refine lv_istore (lv' := [(6, .int 0), (4, .long (b1 j)), (0, .ref (cd 2)), (1, .ref (ad 1)), (2, .int (nI j)), (3, .int (nI v))]) hx hb dX4_loansSet_28 hl (by decide) rfl (fun ls hl => ?_)
      refine W_loop (σ := (Nat) × (Int64)) (fun ⟨s0, x⟩ => 6 - s0) (fun ⟨s0, x⟩ ls H locs => (s0 ≤ 6) ∧ (lsF T n Hd j v = itF (lsB T Hd j) 6 s0 x) ∧ lv_has ls 7 [(6, .int (nI s0)), (4, .long x), (0, .ref (cd 2)), (1, .ref (ad 1)), (2, .int (nI j)), (3, .int (nI v))] ∧ va_P D vwCl [(ad 14, .inl (cI, 40, .inl (T 4))), (cd 2, .inr (4, [.long rr, .ref (cd 20), .ref (cd 21), .ref (cd 22), .ref (cd 23), .ref (cd 24), .ref (cd 25), .ref (cd 26), .ref (cd 27)])), (cd 23, .inl (cJ, 480, .inr (.inl (fih n Hd yh)))), (ad 10, .inl (cI, 12, .inl (T 0))), (ad 1, .inr (3, [.ref (ad 10), .int 6, .long po, .long oc, .ref (ad 11), .ref (ad 12), .ref (ad 13), .ref (ad 14), .ref (ad 15), .int (nI n), .ref (ad 16), .ref (ad 17), .ref (ad 18)])), (ad 11, .inl (cI, 40, .inl (T 1)))] H ∧ va_D A [(ad 14, .inl (cI, 40, .inl (T 4))), (cd 2, .inr (4, [.long rr, .ref (cd 20), .ref (cd 21), .ref (cd 22), .ref (cd 23), .ref (cd 24), .ref (cd 25), .ref (cd 26), .ref (cd 27)])), (cd 23, .inl (cJ, 480, .inr (.inl (fih n Hd yh)))), (ad 10, .inl (cI, 12, .inl (T 0))), (ad 1, .inr (3, [.ref (ad 10), .int 6, .long po, .long oc, .ref (ad 11), .ref (ad 12), .ref (ad 13), .ref (ad 14), .ref (ad 15), .int (nI n), .ref (ad 16), .ref (ad 17), .ref (ad 18)])), (ad 11, .inl (cI, 40, .inl (T 1)))] ∧ va_S A s.heap H locs) ?_ (0, b1 j) _ _ _ ⟨Nat.zero_le _, by first | (simp [lsF, lsB, c_5, c_15]; done) | (simp [lsF, lsB, if_pos c_5, if_pos c_15]; done) | rfl | (simp [lsF, lsB, c_5, c_15]; omega), lv_sub hl (l' := [(6, .int 0), (4, .long (b1 j)), (0, .ref (cd 2)), (1, .ref (ad 1)), (2, .int (nI j)), (3, .int (nI v))]) [0, 1, 2, 3, 4, 5] rfl, hP, hD, hS⟩
      rintro ⟨s0, x⟩ ls H locs ⟨hs, hf, hl, hP, hD, hS⟩ ih
      have hs : s0 ≤ 6 := hs
      have hf : lsF T n Hd j v = itF (lsB T Hd j) 6 s0 x := hf
      have hl : lv_has ls 7 [(6, .int (nI s0)), (4, .long x), (0, .ref (cd 2)), (1, .ref (ad 1)), (2, .int (nI j)), (3, .int (nI v))] := hl
      have hP : va_P D vwCl [(ad 14, .inl (cI, 40, .inl (T 4))), (cd 2, .inr (4, [.long rr, .ref (cd 20), .ref (cd 21), .ref (cd 22), .ref (cd 23), .ref (cd 24), .ref (cd 25), .ref (cd 26), .ref (cd 27)])), (cd 23, .inl (cJ, 480, .inr (.inl (fih n Hd yh)))), (ad 10, .inl (cI, 12, .inl (T 0))), (ad 1, .inr (3, [.ref (ad 10), .int 6, .long po, .long oc, .ref (ad 11), .ref (ad 12), .ref (ad 13), .ref (ad 14), .ref (ad 15), .int (nI n), .ref (ad 16), .ref (ad 17), .ref (ad 18)])), (ad 11, .inl (cI, 40, .inl (T 1)))] _ := hP
      have hD : va_D A [(ad 14, .inl (cI, 40, .inl (T 4))), (cd 2, .inr (4, [.long rr, .ref (cd 20), .ref (cd 21), .ref (cd 22), .ref (cd 23), .ref (cd 24), .ref (cd 25), .ref (cd 26), .ref (cd 27)])), (cd 23, .inl (cJ, 480, .inr (.inl (fih n Hd yh)))), (ad 10, .inl (cI, 12, .inl (T 0))), (ad 1, .inr (3, [.ref (ad 10), .int 6, .long po, .long oc, .ref (ad 11), .ref (ad 12), .ref (ad 13), .ref (ad 14), .ref (ad 15), .int (nI n), .ref (ad 16), .ref (ad 17), .ref (ad 18)])), (ad 11, .inl (cI, 40, .inl (T 1)))] := hD
      have ih_30 := ih
      refine lv_iload hx hb dX4_loansSet_30 (lv_at hl 0 rfl) ?_
      refine lv_aload_n hx hb dX4_loansSet_32 rfl (lv_at hl 3 rfl) ?_
      refine va_getN (D := D) (ci := 3) (v := .int 6) (C := RX3) (T := TX3) (N := 13) (ref := "Ironwood$Told") (host := "Ironwood") hx hb hts in_RX3 hown hK hP 4 rfl rfl 1 (by decide) (hG.1.get 2 rfl) (fun _ h9 => h9) rfl dX4_loansSet_33 ?_
      refine lv_icmp_ge (tgt := 72) hx hb dX4_loansSet_36 (by decide) (fun c_36 => ?_) (fun c_36 => ?_)
      · skip
        have c_36 : 6 ≤ s0 := (nI_leI (a := 6) (b := s0) (by omega) (by omega)).mp c_36
        have hfe := hf.trans (itF_ge (by omega))
        refine lv_lload hx hb dX4_loansSet_72 (lv_at hl 1 rfl) ?_
        have hP := hP.sub (ws' := [(ad 1, .inr (3, [.ref (ad 10), .int 6, .long po, .long oc, .ref (ad 11), .ref (ad 12), .ref (ad 13), .ref (ad 14), .ref (ad 15), .int (nI n), .ref (ad 16), .ref (ad 17), .ref (ad 18)])), (ad 10, .inl (cI, 12, .inl (T 0))), (ad 11, .inl (cI, 40, .inl (T 1))), (ad 14, .inl (cI, 40, .inl (T 4))), (cd 2, .inr (4, [.long rr, .ref (cd 20), .ref (cd 21), .ref (cd 22), .ref (cd 23), .ref (cd 24), .ref (cd 25), .ref (cd 26), .ref (cd 27)])), (cd 23, .inl (cJ, 480, .inr (.inl (fih n Hd yh))))]) [4, 3, 5, 0, 1, 2] rfl
        have hD := hD.sub (ws' := [(ad 1, .inr (3, [.ref (ad 10), .int 6, .long po, .long oc, .ref (ad 11), .ref (ad 12), .ref (ad 13), .ref (ad 14), .ref (ad 15), .int (nI n), .ref (ad 16), .ref (ad 17), .ref (ad 18)])), (ad 10, .inl (cI, 12, .inl (T 0))), (ad 11, .inl (cI, 40, .inl (T 1))), (ad 14, .inl (cI, 40, .inl (T 4))), (cd 2, .inr (4, [.long rr, .ref (cd 20), .ref (cd 21), .ref (cd 22), .ref (cd 23), .ref (cd 24), .ref (cd 25), .ref (cd 26), .ref (cd 27)])), (cd 23, .inl (cJ, 480, .inr (.inl (fih n Hd yh))))]) [4, 3, 5, 0, 1, 2] (by decide) rfl
        exact ke_l hx hb hr () (hfe.symm) hP hD hS (Nat.le_of_ble_eq_true rfl) (Nat.le_of_ble_eq_true rfl) hlocks dX4_loansSet_74
      · skip
        have c_36 : s0 < 6 := Nat.lt_of_not_le (fun h9 => c_36 ((nI_leI (a := 6) (b := s0) (by omega) (by omega)).mpr h9))
        refine lv_aload_n hx hb dX4_loansSet_39 rfl (lv_at hl 3 rfl) ?_
        refine va_getN (D := D) (ci := 3) (v := .ref (ad 14)) (C := RX3) (T := TX3) (N := 13) (ref := "Ironwood$Told") (host := "Ironwood") hx hb hts in_RX3 hown hK hP 4 rfl rfl 7 (by decide) (hG.1.get 11 rfl) (fun _ h9 => h9) rfl dX4_loansSet_40 ?_
        refine lv_iload_n hx hb dX4_loansSet_43 rfl (lv_at hl 4 rfl) ?_
        refine va_iald hx hb hK hP 0 0 rfl rfl (vp_in_nI (n := j) (by omega) (by omega)) dX4_loansSet_44 ?_
        refine tI (v := T 4 j) (congrArg (T 4) (nI_clamp (n := j) (by omega))) ?_
        refine lv_i2l (v := (T 4 j).toInt64) hx hb dX4_loansSet_45 rfl ?_
        refine lv_iload hx hb dX4_loansSet_46 (lv_at hl 0 rfl) ?_
        refine kc_i (wr := [(ad 14, .inl (cI, 40, .inl (T 4))), (cd 2, .inr (4, [.long rr, .ref (cd 20), .ref (cd 21), .ref (cd 22), .ref (cd 23), .ref (cd 24), .ref (cd 25), .ref (cd 26), .ref (cd 27)])), (cd 23, .inl (cJ, 480, .inr (.inl (fih n Hd yh)))), (ad 10, .inl (cI, 12, .inl (T 0))), (ad 1, .inr (3, [.ref (ad 10), .int 6, .long po, .long oc, .ref (ad 11), .ref (ad 12), .ref (ad 13), .ref (ad 14), .ref (ad 15), .int (nI n), .ref (ad 16), .ref (ad 17), .ref (ad 18)])), (ad 11, .inl (cI, 40, .inl (T 1)))]) (va_runSN (As := [.long ((T 4 j).toInt64), .int (nI s0)]) (rest := []) (host := "Ironwood") ⟨hx, hb, hml, hown, hts⟩ (k_isIn l D cI cJ cZ cR ((T 4 j).toInt64) (nI s0) _) ⟨va_cnB 2 hts (gB q_470) rfl rfl rfl (hG.1.nw 57 rfl) (hts _ (mc q_64)) (by decide +kernel) ⟨Nat.le_of_ble_eq_true rfl, Nat.le_of_ble_eq_true rfl⟩, hts _ (mc q_469), trivial⟩ ⟨Pw.blind, Pw.mk_call hP hK hD hS hA hG [] rfl (by decide)⟩ rfl rfl hl.1 rfl (lv_room (Nat.le_of_ble_eq_true rfl)) dX4_loansSet_48 ⟨Nat.le_of_ble_eq_true rfl, Nat.le_of_ble_eq_true rfl⟩) hP hD hS hA [] [0, 1, 2, 3, 4, 5] rfl rfl (by decide) (by decide) (fun r_11 u_12 H locs hw hP hD hS => ?_)
        obtain rfl : r_11 = bz (bI ((T 4 j).toInt64) (nI s0)) := hw
        have hP : va_P D vwCl [(ad 14, .inl (cI, 40, .inl (T 4))), (cd 2, .inr (4, [.long rr, .ref (cd 20), .ref (cd 21), .ref (cd 22), .ref (cd 23), .ref (cd 24), .ref (cd 25), .ref (cd 26), .ref (cd 27)])), (cd 23, .inl (cJ, 480, .inr (.inl (fih n Hd yh)))), (ad 10, .inl (cI, 12, .inl (T 0))), (ad 1, .inr (3, [.ref (ad 10), .int 6, .long po, .long oc, .ref (ad 11), .ref (ad 12), .ref (ad 13), .ref (ad 14), .ref (ad 15), .int (nI n), .ref (ad 16), .ref (ad 17), .ref (ad 18)])), (ad 11, .inl (cI, 40, .inl (T 1)))] _ := hP
        have hD : va_D A [(ad 14, .inl (cI, 40, .inl (T 4))), (cd 2, .inr (4, [.long rr, .ref (cd 20), .ref (cd 21), .ref (cd 22), .ref (cd 23), .ref (cd 24), .ref (cd 25), .ref (cd 26), .ref (cd 27)])), (cd 23, .inl (cJ, 480, .inr (.inl (fih n Hd yh)))), (ad 10, .inl (cI, 12, .inl (T 0))), (ad 1, .inr (3, [.ref (ad 10), .int 6, .long po, .long oc, .ref (ad 11), .ref (ad 12), .ref (ad 13), .ref (ad 14), .ref (ad 15), .int (nI n), .ref (ad 16), .ref (ad 17), .ref (ad 18)])), (ad 11, .inl (cI, 40, .inl (T 1)))] := hD
        refine lv_if_eq (tgt := 66) hx hb dX4_loansSet_51 (by decide) (fun c_51 => ?_) (fun c_51 => ?_)
        · skip
          have c_51 : (bI ((T 4 j).toInt64) (nI s0)) = false := bz_f c_51
          refine lv_iinc (v := nI (s0 + 1)) (lv' := [(6, .int (nI (s0 + 1))), (4, .long x), (0, .ref (cd 2)), (1, .ref (ad 1)), (2, .int (nI j)), (3, .int (nI v))]) hx hb dX4_loansSet_66 hl (k := 0) rfl (nI_add s0 1) (by decide) rfl (fun ls hl => ?_)
          refine lv_goto (tgt := 30) hx hb dX4_loansSet_69 (by decide) ?_
          exact ih_30 (s0 + 1, x) _ _ _ (by show 6 - (s0 + 1) < 6 - s0; omega) ⟨by show _ ≤ _; omega, hf.trans ((itF_lt (by omega)).trans (congrArg _ (by first | (simp [lsF, lsB, c_5, c_15, c_36, (Nat.not_le.mpr c_36), c_51]; done) | (simp [lsF, lsB, if_pos c_5, if_pos c_15, if_pos c_36, if_neg (Nat.not_le.mpr c_36), if_neg (bnt c_51)]; done) | rfl | (simp [lsF, lsB, c_5, c_15, c_36, (Nat.not_le.mpr c_36), c_51]; omega)))), lv_sub hl [0, 1, 2, 3, 4, 5] rfl, hP, hD, hS⟩
        · skip
          have c_51 : (bI ((T 4 j).toInt64) (nI s0)) = true := bz_t c_51
          refine lv_lload hx hb dX4_loansSet_54 (lv_at hl 1 rfl) ?_
          refine lv_aload_n hx hb dX4_loansSet_56 rfl (lv_at hl 2 rfl) ?_
          refine lv_iload_n hx hb dX4_loansSet_57 rfl (lv_at hl 4 rfl) ?_
          refine lv_iload hx hb dX4_loansSet_58 (lv_at hl 0 rfl) ?_
          refine kc_l (wr := [(ad 14, .inl (cI, 40, .inl (T 4))), (ad 10, .inl (cI, 12, .inl (T 0))), (ad 1, .inr (3, [.ref (ad 10), .int 6, .long po, .long oc, .ref (ad 11), .ref (ad 12), .ref (ad 13), .ref (ad 14), .ref (ad 15), .int (nI n), .ref (ad 16), .ref (ad 17), .ref (ad 18)])), (ad 11, .inl (cI, 40, .inl (T 1)))]) (va_runV (As := [.int (nI j), .int (nI s0)]) (rest := [.long x]) ⟨hx, hb, hml, hown, hts⟩ (k_loansIn l D cI cJ cZ cR cd rr n j s0 Hd yh _ hn hj (by omega)) (cwV 2 hts (gV q_490 q_487 q_489 q_21 q_68) rfl rfl rfl (by decide +kernel) ⟨Nat.le_of_ble_eq_true rfl, Nat.le_of_ble_eq_true rfl⟩) ⟨Pw.blind, va_recv hK hP (ci := 4) (q0 := 1) rfl rfl, Pw.mk_call hP hK hD hS hA hG [1, 2] rfl (by decide)⟩ rfl rfl hl.1 rfl (lv_room (Nat.le_of_ble_eq_true rfl)) dX4_loansSet_60 ⟨Nat.le_of_ble_eq_true rfl, Nat.le_of_ble_eq_true rfl⟩) hP hD hS hA [1, 2] [0, 3, 4, 5] rfl rfl (by decide) (by decide) (fun r_13 u_14 H locs hw hP hD hS => ?_)
          obtain rfl : r_13 = Hd j s0 := hw
          have hP : va_P D vwCl [(ad 14, .inl (cI, 40, .inl (T 4))), (ad 10, .inl (cI, 12, .inl (T 0))), (ad 1, .inr (3, [.ref (ad 10), .int 6, .long po, .long oc, .ref (ad 11), .ref (ad 12), .ref (ad 13), .ref (ad 14), .ref (ad 15), .int (nI n), .ref (ad 16), .ref (ad 17), .ref (ad 18)])), (ad 11, .inl (cI, 40, .inl (T 1))), (cd 2, .inr (4, [.long rr, .ref (cd 20), .ref (cd 21), .ref (cd 22), .ref (cd 23), .ref (cd 24), .ref (cd 25), .ref (cd 26), .ref (cd 27)])), (cd 23, .inl (cJ, 480, .inr (.inl (fih n Hd yh))))] _ := hP
          have hD : va_D A [(ad 14, .inl (cI, 40, .inl (T 4))), (ad 10, .inl (cI, 12, .inl (T 0))), (ad 1, .inr (3, [.ref (ad 10), .int 6, .long po, .long oc, .ref (ad 11), .ref (ad 12), .ref (ad 13), .ref (ad 14), .ref (ad 15), .int (nI n), .ref (ad 16), .ref (ad 17), .ref (ad 18)])), (ad 11, .inl (cI, 40, .inl (T 1))), (cd 2, .inr (4, [.long rr, .ref (cd 20), .ref (cd 21), .ref (cd 22), .ref (cd 23), .ref (cd 24), .ref (cd 25), .ref (cd 26), .ref (cd 27)])), (cd 23, .inl (cJ, 480, .inr (.inl (fih n Hd yh))))] := hD
          refine lv_lor hx hb dX4_loansSet_63 ?_
          refine lv_lstore (lv' := [(4, .long (x ||| (Hd j s0))), (6, .int (nI s0)), (0, .ref (cd 2)), (1, .ref (ad 1)), (2, .int (nI j)), (3, .int (nI v))]) hx hb dX4_loansSet_64 hl (by decide) rfl (fun ls hl => ?_)
          refine lv_iinc (v := nI (s0 + 1)) (lv' := [(6, .int (nI (s0 + 1))), (4, .long (x ||| (Hd j s0))), (0, .ref (cd 2)), (1, .ref (ad 1)), (2, .int (nI j)), (3, .int (nI v))]) hx hb dX4_loansSet_66 hl (k := 1) rfl (nI_add s0 1) (by decide) rfl (fun ls hl => ?_)
          refine lv_goto (tgt := 30) hx hb dX4_loansSet_69 (by decide) ?_
          have hP := hP.sub (ws' := [(ad 14, .inl (cI, 40, .inl (T 4))), (cd 2, .inr (4, [.long rr, .ref (cd 20), .ref (cd 21), .ref (cd 22), .ref (cd 23), .ref (cd 24), .ref (cd 25), .ref (cd 26), .ref (cd 27)])), (cd 23, .inl (cJ, 480, .inr (.inl (fih n Hd yh)))), (ad 10, .inl (cI, 12, .inl (T 0))), (ad 1, .inr (3, [.ref (ad 10), .int 6, .long po, .long oc, .ref (ad 11), .ref (ad 12), .ref (ad 13), .ref (ad 14), .ref (ad 15), .int (nI n), .ref (ad 16), .ref (ad 17), .ref (ad 18)])), (ad 11, .inl (cI, 40, .inl (T 1)))]) [0, 4, 5, 1, 2, 3] rfl
          have hD := hD.sub (ws' := [(ad 14, .inl (cI, 40, .inl (T 4))), (cd 2, .inr (4, [.long rr, .ref (cd 20), .ref (cd 21), .ref (cd 22), .ref (cd 23), .ref (cd 24), .ref (cd 25), .ref (cd 26), .ref (cd 27)])), (cd 23, .inl (cJ, 480, .inr (.inl (fih n Hd yh)))), (ad 10, .inl (cI, 12, .inl (T 0))), (ad 1, .inr (3, [.ref (ad 10), .int 6, .long po, .long oc, .ref (ad 11), .ref (ad 12), .ref (ad 13), .ref (ad 14), .ref (ad 15), .int (nI n), .ref (ad 16), .ref (ad 17), .ref (ad 18)])), (ad 11, .inl (cI, 40, .inl (T 1)))]) [0, 4, 5, 1, 2, 3] (by decide) rfl
          exact ih_30 (s0 + 1, x ||| (Hd j s0)) _ _ _ (by show 6 - (s0 + 1) < 6 - s0; omega) ⟨by show _ ≤ _; omega, hf.trans ((itF_lt (by omega)).trans (congrArg _ (by first | (simp [lsF, lsB, c_5, c_15, c_36, (Nat.not_le.mpr c_36), c_51]; done) | (simp [lsF, lsB, if_pos c_5, if_pos c_15, if_pos c_36, if_neg (Nat.not_le.mpr c_36), if_pos c_51]; done) | rfl | (simp [lsF, lsB, c_5, c_15, c_36, (Nat.not_le.mpr c_36), c_51]; omega)))), lv_sub hl [0, 1, 2, 3, 4, 5] rfl, hP, hD, hS⟩
  · skip
    have c_5 : (iL T v) = false := bz_f c_5
    refine lv_lconst (v := 0) hx hb dX4_loansSet_8 (by decide) ?_
    have hP : va_P D vwCl [(ad 11, .inl (cI, 40, .inl (T 1))), (ad 14, .inl (cI, 40, .inl (T 4))), (cd 2, .inr (4, [.long rr, .ref (cd 20), .ref (cd 21), .ref (cd 22), .ref (cd 23), .ref (cd 24), .ref (cd 25), .ref (cd 26), .ref (cd 27)])), (cd 23, .inl (cJ, 480, .inr (.inl (fih n Hd yh)))), (ad 1, .inr (3, [.ref (ad 10), .int 6, .long po, .long oc, .ref (ad 11), .ref (ad 12), .ref (ad 13), .ref (ad 14), .ref (ad 15), .int (nI n), .ref (ad 16), .ref (ad 17), .ref (ad 18)])), (ad 10, .inl (cI, 12, .inl (T 0)))] _ := hP
    have hD : va_D A [(ad 11, .inl (cI, 40, .inl (T 1))), (ad 14, .inl (cI, 40, .inl (T 4))), (cd 2, .inr (4, [.long rr, .ref (cd 20), .ref (cd 21), .ref (cd 22), .ref (cd 23), .ref (cd 24), .ref (cd 25), .ref (cd 26), .ref (cd 27)])), (cd 23, .inl (cJ, 480, .inr (.inl (fih n Hd yh)))), (ad 1, .inr (3, [.ref (ad 10), .int 6, .long po, .long oc, .ref (ad 11), .ref (ad 12), .ref (ad 13), .ref (ad 14), .ref (ad 15), .int (nI n), .ref (ad 16), .ref (ad 17), .ref (ad 18)])), (ad 10, .inl (cI, 12, .inl (T 0)))] := hD
    have hP := hP.sub (ws' := [(ad 1, .inr (3, [.ref (ad 10), .int 6, .long po, .long oc, .ref (ad 11), .ref (ad 12), .ref (ad 13), .ref (ad 14), .ref (ad 15), .int (nI n), .ref (ad 16), .ref (ad 17), .ref (ad 18)])), (ad 10, .inl (cI, 12, .inl (T 0))), (ad 11, .inl (cI, 40, .inl (T 1))), (ad 14, .inl (cI, 40, .inl (T 4))), (cd 2, .inr (4, [.long rr, .ref (cd 20), .ref (cd 21), .ref (cd 22), .ref (cd 23), .ref (cd 24), .ref (cd 25), .ref (cd 26), .ref (cd 27)])), (cd 23, .inl (cJ, 480, .inr (.inl (fih n Hd yh))))]) [4, 5, 0, 1, 2, 3] rfl
    have hD := hD.sub (ws' := [(ad 1, .inr (3, [.ref (ad 10), .int 6, .long po, .long oc, .ref (ad 11), .ref (ad 12), .ref (ad 13), .ref (ad 14), .ref (ad 15), .int (nI n), .ref (ad 16), .ref (ad 17), .ref (ad 18)])), (ad 10, .inl (cI, 12, .inl (T 0))), (ad 11, .inl (cI, 40, .inl (T 1))), (ad 14, .inl (cI, 40, .inl (T 4))), (cd 2, .inr (4, [.long rr, .ref (cd 20), .ref (cd 21), .ref (cd 22), .ref (cd 23), .ref (cd 24), .ref (cd 25), .ref (cd 26), .ref (cd 27)])), (cd 23, .inl (cJ, 480, .inr (.inl (fih n Hd yh))))]) [4, 5, 0, 1, 2, 3] (by decide) rfl
    exact ke_l hx hb hr () (by first | (simp [lsF, lsB, c_5]; done) | (simp [lsF, lsB, if_neg (bnt c_5)]; done) | rfl | (simp [lsF, lsB, c_5]; omega)) hP hD hS (Nat.le_of_ble_eq_true rfl) (Nat.le_of_ble_eq_true rfl) hlocks dX4_loansSet_9

set_option maxHeartbeats 4000000 in
set_option maxRecDepth 100000 in
theorem k_addTo (l : Launch) (D : va_G) (cI cJ cZ cR : ClassId) (q : Nat) (n : Nat) (U : Nat → Int64) (g : Nat → Int64) (j : Nat) (more : Int64) (sz : Nat) (hn : n ≤ 40) (hj : j < n) : Met l yX4_addTo (wx (.code yX4_addTo cX4_addTo 6 (some .boolean))) ({ frames := 0, cells := 0, slots := 0, locals := 0 }) (va_Pc [.ref q, .int (nI j), .long more] (Pw D vwCl [(cI, .int), (cJ, .long), (cZ, .boolean), (cR, .array .int)] [(q, .inl (cJ, 40, .inr (.inl (fil n U g))))] sz)) (va_Qi (fun (r : Int32) (u : Unit) => r = bz (adB (U j) more)) (Bw D vwCl (fun (u : Unit) => [(q, .inl (cJ, 40, .inr (.inl (fil n (vp_updL U j (U j ||| more)) g))))]) (va_A [(q, .inl (cJ, 40, .inr (.inl (fil n U g))))] sz)) (va_A [(q, .inl (cJ, 40, .inr (.inl (fil n U g))))] sz)) 0 0 (va_A [(q, .inl (cJ, 40, .inr (.inl (fil n U g))))] sz) := by
  refine Met.ofW (cc := cX4_addTo) (maxL := 6) (ret := (some .boolean)) (by decide) rfl ?_
  intro p e s m args below meth c s₁ B hml hv9
  obtain ⟨rfl, hsz, hP, hK, hD0, hG⟩ := hv9
  have hx := B.exec
  have hb := B.bytes
  have hr := B.returns
  have hts := atoms_spec (ws := wx (.code yX4_addTo cX4_addTo 6 (some .boolean))) B.pre
  have hown : s.vm.findClass RX4 = some m.cls := findClass_of_methodNamed B.named
  have hlocks := B.notSynchronized
  subst hsz
  have hD := hD0.self (sz := s.heap.size)
  generalize hAe : va_A [(q, .inl (cJ, 40, .inr (.inl (fil n U g))))] s.heap.size = A at hD hG ⊢
  have hA : ∀ q : Nat, s.heap.size ≤ q → A q := fun q h => by rw [← hAe]; exact Or.inr h
  have hS : va_S A s.heap s.heap [] := va_S.rf
  have hP : va_P D vwCl [(q, .inl (cJ, 40, .inr (.inl (fil n U g))))] s.heap := hP
  have hl := lv_entry ([.ref q, .int (nI j), .long more]) (n := 6) (Nat.le_of_ble_eq_true rfl)
  rw [lg_entry_eq]
  generalize (lg_sl ([.ref q, .int (nI j), .long more]) ++ List.replicate (6 - (lg_sl ([.ref q, .int (nI j), .long more])).length) Slot.unset).toArray = ls at hl ⊢
  have hl : lv_has ls 6 [(0, .ref q), (1, .int (nI j)), (2, .long more)] := hl
  refine lv_aload_n hx hb dX4_addTo_0 rfl (lv_at hl 0 rfl) ?_
  refine lv_iload_n hx hb dX4_addTo_1 rfl (lv_at hl 1 rfl) ?_
  refine va_lald hx hb hK hP 0 1 rfl rfl (vp_in_nI (n := j) (by omega) (by omega)) dX4_addTo_2 ?_
  refine tJ (v := U j) ((congrArg (fil n U g) (nI_clamp (n := j) (by omega))).trans (fil_lt (by omega))) ?_
  refine lv_lstore (lv' := [(4, .long (U j)), (0, .ref q), (1, .int (nI j)), (2, .long more)]) hx hb dX4_addTo_3 hl (by decide) rfl (fun ls hl => ?_)
  refine lv_aload_n hx hb dX4_addTo_5 rfl (lv_at hl 1 rfl) ?_
  refine lv_iload_n hx hb dX4_addTo_6 rfl (lv_at hl 2 rfl) ?_
  refine lv_lload hx hb dX4_addTo_7 (lv_at hl 0 rfl) ?_
  refine lv_lload_n hx hb dX4_addTo_9 rfl (lv_at hl 3 rfl) ?_
  refine lv_lor hx hb dX4_addTo_10 ?_
  refine va_last hx hb hK hP hD hS 0 1 rfl rfl (vp_in_nI (n := j) (by omega) (by omega)) dX4_addTo_11 (fun H locs hP hD hS => ?_)
  rw [nI_clamp (n := j) (by omega)] at hP hD
  rw [fil_vpl (n := n) (j := j) (by omega)] at hP hD
  have hP : va_P D vwCl [(q, .inl (cJ, 40, .inr (.inl (fil n (vp_updL U j ((U j) ||| more)) g))))] _ := hP
  have hD : va_D A [(q, .inl (cJ, 40, .inr (.inl (fil n (vp_updL U j ((U j) ||| more)) g))))] := hD
  refine lv_aload_n hx hb dX4_addTo_12 rfl (lv_at hl 1 rfl) ?_
  refine lv_iload_n hx hb dX4_addTo_13 rfl (lv_at hl 2 rfl) ?_
  refine va_lald hx hb hK hP 0 1 rfl rfl (vp_in_nI (n := j) (by omega) (by omega)) dX4_addTo_14 ?_
  refine tJ (v := (U j) ||| more) (((congrArg (fil n (vp_updL U j ((U j) ||| more)) g) (nI_clamp (n := j) (by omega))).trans (fil_lt (by omega))).trans (vpl_same _ _ _)) ?_
  refine lv_lload hx hb dX4_addTo_15 (lv_at hl 0 rfl) ?_
  refine W.lcmp hx hb dX4_addTo_17 ?_
  refine tI (v := lg_cmp ((U j) ||| more) (U j)) rfl ?_
  refine lv_if_eq (tgt := 25) hx hb dX4_addTo_18 (by decide) (fun c_18 => ?_) (fun c_18 => ?_)
  · skip
    have c_18 : ((U j) ||| more) = (U j) := (lg_cmp_eq _ _).mp c_18
    refine lv_iconst (v := 0) hx hb dX4_addTo_25 (by decide) ?_
    rw [show (fil n (vp_updL U j ((U j) ||| more)) g : Nat → Int64) = fil n (vp_updL U j (U j ||| more)) g from by first | (simp [adB, bz, upd_upd, vpl_upd, upd_id, vpl_id, c_18]; done) | (simp [adB, bz, upd_upd, vpl_upd, upd_id, vpl_id, if_pos c_18]; done) | rfl | (simp [adB, bz, upd_upd, vpl_upd, upd_id, vpl_id, c_18]; omega)] at hP hD
    have hP : va_P D vwCl [(q, .inl (cJ, 40, .inr (.inl (fil n (vp_updL U j (U j ||| more)) g))))] _ := hP
    have hD : va_D A [(q, .inl (cJ, 40, .inr (.inl (fil n (vp_updL U j (U j ||| more)) g))))] := hD
    exact ke_i hx hb hr (by first | rfl | decide | exact bz_nar _) () (by first | (simp [adB, bz, c_18]; done) | (simp [adB, bz, if_pos c_18]; done) | rfl | (simp [adB, bz, c_18]; omega)) hP hD hS (Nat.le_of_ble_eq_true rfl) (Nat.le_of_ble_eq_true rfl) hlocks dX4_addTo_26
  · skip
    have c_18 : ¬ ((U j) ||| more) = (U j) := fun h9 => c_18 ((lg_cmp_eq _ _).mpr h9)
    refine lv_iconst (v := 1) hx hb dX4_addTo_21 (by decide) ?_
    refine lv_goto (tgt := 26) hx hb dX4_addTo_22 (by decide) ?_
    rw [show (fil n (vp_updL U j ((U j) ||| more)) g : Nat → Int64) = fil n (vp_updL U j (U j ||| more)) g from by first | (simp [adB, bz, upd_upd, vpl_upd, upd_id, vpl_id, c_18]; done) | (simp [adB, bz, upd_upd, vpl_upd, upd_id, vpl_id, if_neg c_18]; done) | rfl | (simp [adB, bz, upd_upd, vpl_upd, upd_id, vpl_id, c_18]; omega)] at hP hD
    have hP : va_P D vwCl [(q, .inl (cJ, 40, .inr (.inl (fil n (vp_updL U j (U j ||| more)) g))))] _ := hP
    have hD : va_D A [(q, .inl (cJ, 40, .inr (.inl (fil n (vp_updL U j (U j ||| more)) g))))] := hD
    exact ke_i hx hb hr (by first | rfl | decide | exact bz_nar _) () (by first | (simp [adB, bz, c_18]; done) | (simp [adB, bz, if_neg c_18]; done) | rfl | (simp [adB, bz, c_18]; omega)) hP hD hS (Nat.le_of_ble_eq_true rfl) (Nat.le_of_ble_eq_true rfl) hlocks dX4_addTo_26

set_option maxHeartbeats 4000000 in
set_option maxRecDepth 100000 in
theorem k_addToH (l : Launch) (D : va_G) (cI cJ cZ cR : ClassId) (q : Nat) (n : Nat) (Hd : Nat → Nat → Int64) (g : Nat → Int64) (j : Nat) (v : Nat) (more : Int64) (sz : Nat) (hn : n ≤ 40) (hj : j < n) (hv : v < 6) : Met l yX4_addTo (wx (.code yX4_addTo cX4_addTo 6 (some .boolean))) ({ frames := 0, cells := 0, slots := 0, locals := 0 }) (va_Pc [.ref q, .int (nI ((j * 12) + v)), .long more] (Pw D vwCl [(cI, .int), (cJ, .long), (cZ, .boolean), (cR, .array .int)] [(q, .inl (cJ, 480, .inr (.inl (fih n Hd g))))] sz)) (va_Qi (fun (r : Int32) (u : Unit) => r = bz (adB (Hd j v) more)) (Bw D vwCl (fun (u : Unit) => [(q, .inl (cJ, 480, .inr (.inl (fih n (up2 Hd j v (Hd j v ||| more)) g))))]) (va_A [(q, .inl (cJ, 480, .inr (.inl (fih n Hd g))))] sz)) (va_A [(q, .inl (cJ, 480, .inr (.inl (fih n Hd g))))] sz)) 0 0 (va_A [(q, .inl (cJ, 480, .inr (.inl (fih n Hd g))))] sz) := by
  refine Met.ofW (cc := cX4_addTo) (maxL := 6) (ret := (some .boolean)) (by decide) rfl ?_
  intro p e s m args below meth c s₁ B hml hv9
  obtain ⟨rfl, hsz, hP, hK, hD0, hG⟩ := hv9
  have hx := B.exec
  have hb := B.bytes
  have hr := B.returns
  have hts := atoms_spec (ws := wx (.code yX4_addTo cX4_addTo 6 (some .boolean))) B.pre
  have hown : s.vm.findClass RX4 = some m.cls := findClass_of_methodNamed B.named
  have hlocks := B.notSynchronized
  subst hsz
  have hD := hD0.self (sz := s.heap.size)
  generalize hAe : va_A [(q, .inl (cJ, 480, .inr (.inl (fih n Hd g))))] s.heap.size = A at hD hG ⊢
  have hA : ∀ q : Nat, s.heap.size ≤ q → A q := fun q h => by rw [← hAe]; exact Or.inr h
  have hS : va_S A s.heap s.heap [] := va_S.rf
  have hP : va_P D vwCl [(q, .inl (cJ, 480, .inr (.inl (fih n Hd g))))] s.heap := hP
  have hl := lv_entry ([.ref q, .int (nI ((j * 12) + v)), .long more]) (n := 6) (Nat.le_of_ble_eq_true rfl)
  rw [lg_entry_eq]
  generalize (lg_sl ([.ref q, .int (nI ((j * 12) + v)), .long more]) ++ List.replicate (6 - (lg_sl ([.ref q, .int (nI ((j * 12) + v)), .long more])).length) Slot.unset).toArray = ls at hl ⊢
  have hl : lv_has ls 6 [(0, .ref q), (1, .int (nI ((j * 12) + v))), (2, .long more)] := hl
  refine lv_aload_n hx hb dX4_addTo_0 rfl (lv_at hl 0 rfl) ?_
  refine lv_iload_n hx hb dX4_addTo_1 rfl (lv_at hl 1 rfl) ?_
  refine va_lald hx hb hK hP 0 1 rfl rfl (vp_in_nI (n := (j * 12) + v) (by omega) (by omega)) dX4_addTo_2 ?_
  refine tJ (v := Hd j v) ((congrArg (fih n Hd g) (nI_clamp (n := (j * 12) + v) (by omega))).trans (fih_at (by omega) (by omega))) ?_
  refine lv_lstore (lv' := [(4, .long (Hd j v)), (0, .ref q), (1, .int (nI ((j * 12) + v))), (2, .long more)]) hx hb dX4_addTo_3 hl (by decide) rfl (fun ls hl => ?_)
  refine lv_aload_n hx hb dX4_addTo_5 rfl (lv_at hl 1 rfl) ?_
  refine lv_iload_n hx hb dX4_addTo_6 rfl (lv_at hl 2 rfl) ?_
  refine lv_lload hx hb dX4_addTo_7 (lv_at hl 0 rfl) ?_
  refine lv_lload_n hx hb dX4_addTo_9 rfl (lv_at hl 3 rfl) ?_
  refine lv_lor hx hb dX4_addTo_10 ?_
  refine va_last hx hb hK hP hD hS 0 1 rfl rfl (vp_in_nI (n := (j * 12) + v) (by omega) (by omega)) dX4_addTo_11 (fun H locs hP hD hS => ?_)
  rw [nI_clamp (n := (j * 12) + v) (by omega)] at hP hD
  rw [fih_upd (n := n) (j := j) (v := v) (by omega) (by omega)] at hP hD
  have hP : va_P D vwCl [(q, .inl (cJ, 480, .inr (.inl (fih n (up2 Hd j v ((Hd j v) ||| more)) g))))] _ := hP
  have hD : va_D A [(q, .inl (cJ, 480, .inr (.inl (fih n (up2 Hd j v ((Hd j v) ||| more)) g))))] := hD
  refine lv_aload_n hx hb dX4_addTo_12 rfl (lv_at hl 1 rfl) ?_
  refine lv_iload_n hx hb dX4_addTo_13 rfl (lv_at hl 2 rfl) ?_
  refine va_lald hx hb hK hP 0 1 rfl rfl (vp_in_nI (n := (j * 12) + v) (by omega) (by omega)) dX4_addTo_14 ?_
  refine tJ (v := (Hd j v) ||| more) (((congrArg (fih n (up2 Hd j v ((Hd j v) ||| more)) g) (nI_clamp (n := (j * 12) + v) (by omega))).trans (fih_at (by omega) (by omega))).trans (up2_same _ _ _ _)) ?_
  refine lv_lload hx hb dX4_addTo_15 (lv_at hl 0 rfl) ?_
  refine W.lcmp hx hb dX4_addTo_17 ?_
  refine tI (v := lg_cmp ((Hd j v) ||| more) (Hd j v)) rfl ?_
  refine lv_if_eq (tgt := 25) hx hb dX4_addTo_18 (by decide) (fun c_18 => ?_) (fun c_18 => ?_)
  · skip
    have c_18 : ((Hd j v) ||| more) = (Hd j v) := (lg_cmp_eq _ _).mp c_18
    refine lv_iconst (v := 0) hx hb dX4_addTo_25 (by decide) ?_
    rw [show (fih n (up2 Hd j v ((Hd j v) ||| more)) g : Nat → Int64) = fih n (up2 Hd j v (Hd j v ||| more)) g from by first | (simp [adB, bz, upd_upd, vpl_upd, upd_id, vpl_id, c_18]; done) | (simp [adB, bz, upd_upd, vpl_upd, upd_id, vpl_id, if_pos c_18]; done) | rfl | (simp [adB, bz, upd_upd, vpl_upd, upd_id, vpl_id, c_18]; omega)] at hP hD
    have hP : va_P D vwCl [(q, .inl (cJ, 480, .inr (.inl (fih n (up2 Hd j v (Hd j v ||| more)) g))))] _ := hP
    have hD : va_D A [(q, .inl (cJ, 480, .inr (.inl (fih n (up2 Hd j v (Hd j v ||| more)) g))))] := hD
    exact ke_i hx hb hr (by first | rfl | decide | exact bz_nar _) () (by first | (simp [adB, bz, c_18]; done) | (simp [adB, bz, if_pos c_18]; done) | rfl | (simp [adB, bz, c_18]; omega)) hP hD hS (Nat.le_of_ble_eq_true rfl) (Nat.le_of_ble_eq_true rfl) hlocks dX4_addTo_26
  · skip
    have c_18 : ¬ ((Hd j v) ||| more) = (Hd j v) := fun h9 => c_18 ((lg_cmp_eq _ _).mpr h9)
    refine lv_iconst (v := 1) hx hb dX4_addTo_21 (by decide) ?_
    refine lv_goto (tgt := 26) hx hb dX4_addTo_22 (by decide) ?_
    rw [show (fih n (up2 Hd j v ((Hd j v) ||| more)) g : Nat → Int64) = fih n (up2 Hd j v (Hd j v ||| more)) g from by first | (simp [adB, bz, upd_upd, vpl_upd, upd_id, vpl_id, c_18]; done) | (simp [adB, bz, upd_upd, vpl_upd, upd_id, vpl_id, if_neg c_18]; done) | rfl | (simp [adB, bz, upd_upd, vpl_upd, upd_id, vpl_id, c_18]; omega)] at hP hD
    have hP : va_P D vwCl [(q, .inl (cJ, 480, .inr (.inl (fih n (up2 Hd j v (Hd j v ||| more)) g))))] _ := hP
    have hD : va_D A [(q, .inl (cJ, 480, .inr (.inl (fih n (up2 Hd j v (Hd j v ||| more)) g))))] := hD
    exact ke_i hx hb hr (by first | rfl | decide | exact bz_nar _) () (by first | (simp [adB, bz, c_18]; done) | (simp [adB, bz, if_neg c_18]; done) | rfl | (simp [adB, bz, c_18]; omega)) hP hD hS (Nat.le_of_ble_eq_true rfl) (Nat.le_of_ble_eq_true rfl) hlocks dX4_addTo_26
