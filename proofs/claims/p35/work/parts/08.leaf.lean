theorem q_92 : .fieldLink RX3 9 "Ironwood$Told" "kinds" "[I" ∈ BW := mB 92 (by decide +kernel) rfl
theorem q_101 : .fieldLink RX3 15 "Ironwood$Told" "codes" "[I" ∈ BW := mB 101 (by decide +kernel) rfl
theorem q_115 : .fieldLink RX3 54 "Ironwood$Told" "statementCount" "I" ∈ BW := mB 115 (by decide +kernel) rfl
theorem q_453 : .constantLong RX3 61 7 ∈ BW := mB 453 (by decide +kernel) rfl
set_option maxHeartbeats 4000000 in
set_option maxRecDepth 100000 in
theorem k_isIn (l : Launch) (D : va_G) (cI cJ cZ cR : ClassId) (x : Int64) (v : Int32) (sz : Nat)  : Met l yX5_isIn (wx (.code yX5_isIn cX5_isIn 3 (some .boolean))) ({ frames := 0, cells := 0, slots := 0, locals := 0 }) (va_Pc [.long x, .int v] (Pw D vwCl [(cI, .int), (cJ, .long), (cZ, .boolean), (cR, .array .int)] [] sz)) (va_Qi (fun (r : Int32) (u : Unit) => r = bz (bI x v)) (Bw D vwCl (fun (u : Unit) => []) (va_A [] sz)) (va_A [] sz)) 0 0 (va_A [] sz) := by
  refine Met.ofW (cc := cX5_isIn) (maxL := 3) (ret := (some .boolean)) (by decide) rfl ?_
  intro p e s m args below meth c s₁ B hml hv9
  obtain ⟨rfl, hsz, hP, hK, hD0, hG⟩ := hv9
  have hx := B.exec
  have hb := B.bytes
  have hr := B.returns
  have hts := atoms_spec (ws := wx (.code yX5_isIn cX5_isIn 3 (some .boolean))) B.pre
  have hown : s.vm.findClass RX5 = some m.cls := findClass_of_methodNamed B.named
  have hlocks := B.notSynchronized
  subst hsz
  have hD := hD0.self (sz := s.heap.size)
  generalize hAe : va_A [] s.heap.size = A at hD hG ⊢
  have hA : ∀ q : Nat, s.heap.size ≤ q → A q := fun q h => by rw [← hAe]; exact Or.inr h
  have hS : va_S A s.heap s.heap [] := va_S.rf
  have hP : va_P D vwCl [] s.heap := hP
  have hl := lv_entry ([.long x, .int v]) (n := 3) (Nat.le_of_ble_eq_true rfl)
  rw [lg_entry_eq]
  generalize (lg_sl ([.long x, .int v]) ++ List.replicate (3 - (lg_sl ([.long x, .int v])).length) Slot.unset).toArray = ls at hl ⊢
  have hl : lv_has ls 3 [(0, .long x), (2, .int v)] := hl
  refine lv_lload_n hx hb dX5_isIn_0 rfl (lv_at hl 0 rfl) ?_
  refine lv_iload_n hx hb dX5_isIn_1 rfl (lv_at hl 1 rfl) ?_
  refine lv_lshr (v := x >>> (v.toInt64 &&& 63)) hx hb dX5_isIn_2 rfl ?_
  refine lv_lconst (v := 1) hx hb dX5_isIn_3 (by decide) ?_
  refine lv_land hx hb dX5_isIn_4 ?_
  refine lv_lconst (v := 0) hx hb dX5_isIn_5 (by decide) ?_
  refine W.lcmp hx hb dX5_isIn_6 ?_
  refine tI (v := lg_cmp ((x >>> (v.toInt64 &&& 63)) &&& 1) 0) rfl ?_
  refine lv_if_eq (tgt := 14) hx hb dX5_isIn_7 (by decide) (fun c_7 => ?_) (fun c_7 => ?_)
  · skip
    have c_7 : ((x >>> (v.toInt64 &&& 63)) &&& 1) = 0 := (lg_cmp_eq _ _).mp c_7
    refine lv_iconst (v := 0) hx hb dX5_isIn_14 (by decide) ?_
    exact ke_i hx hb hr (by first | rfl | decide | exact bz_nar _) () (by first | (simp [bI, bz, c_7]; done) | (simp [bI, bz, if_pos c_7]; done) | rfl | (simp [bI, bz, c_7]; omega)) hP hD hS (Nat.le_of_ble_eq_true rfl) (Nat.le_of_ble_eq_true rfl) hlocks dX5_isIn_15
  · skip
    have c_7 : ¬ ((x >>> (v.toInt64 &&& 63)) &&& 1) = 0 := fun h9 => c_7 ((lg_cmp_eq _ _).mpr h9)
    refine lv_iconst (v := 1) hx hb dX5_isIn_10 (by decide) ?_
    refine lv_goto (tgt := 15) hx hb dX5_isIn_11 (by decide) ?_
    exact ke_i hx hb hr (by first | rfl | decide | exact bz_nar _) () (by first | (simp [bI, bz, c_7]; done) | (simp [bI, bz, if_neg c_7]; done) | rfl | (simp [bI, bz, c_7]; omega)) hP hD hS (Nat.le_of_ble_eq_true rfl) (Nat.le_of_ble_eq_true rfl) hlocks dX5_isIn_15

set_option maxHeartbeats 4000000 in
set_option maxRecDepth 100000 in
theorem k_isLoan (l : Launch) (D : va_G) (cI cJ cZ cR : ClassId) (ad : Nat → Nat) (vc : Int32) (sc : Int32) (po : Int64) (oc : Int64) (T : Nat → Nat → Int32) (v : Nat) (sz : Nat) (hv : v < 12) : Met l yX3_isLoan (wx (.code yX3_isLoan cX3_isLoan 2 (some .boolean))) ({ frames := 0, cells := 0, slots := 0, locals := 0 }) (va_Pc [.ref (ad 1), .int (nI v)] (Pw D vwCl [(cI, .int), (cJ, .long), (cZ, .boolean), (cR, .array .int)] [(ad 1, .inr (3, [.ref (ad 10), .int vc, .long po, .long oc, .ref (ad 11), .ref (ad 12), .ref (ad 13), .ref (ad 14), .ref (ad 15), .int sc, .ref (ad 16), .ref (ad 17), .ref (ad 18)])), (ad 10, .inl (cI, 12, .inl (T 0)))] sz)) (va_Qi (fun (r : Int32) (u : Unit) => r = bz (iL T v)) (Bw D vwCl (fun (u : Unit) => [(ad 1, .inr (3, [.ref (ad 10), .int vc, .long po, .long oc, .ref (ad 11), .ref (ad 12), .ref (ad 13), .ref (ad 14), .ref (ad 15), .int sc, .ref (ad 16), .ref (ad 17), .ref (ad 18)])), (ad 10, .inl (cI, 12, .inl (T 0)))]) (va_A [(ad 1, .inr (3, [.ref (ad 10), .int vc, .long po, .long oc, .ref (ad 11), .ref (ad 12), .ref (ad 13), .ref (ad 14), .ref (ad 15), .int sc, .ref (ad 16), .ref (ad 17), .ref (ad 18)])), (ad 10, .inl (cI, 12, .inl (T 0)))] sz)) (va_A [(ad 1, .inr (3, [.ref (ad 10), .int vc, .long po, .long oc, .ref (ad 11), .ref (ad 12), .ref (ad 13), .ref (ad 14), .ref (ad 15), .int sc, .ref (ad 16), .ref (ad 17), .ref (ad 18)])), (ad 10, .inl (cI, 12, .inl (T 0)))] sz)) 0 0 (va_A [(ad 1, .inr (3, [.ref (ad 10), .int vc, .long po, .long oc, .ref (ad 11), .ref (ad 12), .ref (ad 13), .ref (ad 14), .ref (ad 15), .int sc, .ref (ad 16), .ref (ad 17), .ref (ad 18)])), (ad 10, .inl (cI, 12, .inl (T 0)))] sz) := by
  refine Met.ofW (cc := cX3_isLoan) (maxL := 2) (ret := (some .boolean)) (by decide) rfl ?_
  intro p e s m args below meth c s₁ B hml hv9
  obtain ⟨rfl, hsz, hP, hK, hD0, hG⟩ := hv9
  have hx := B.exec
  have hb := B.bytes
  have hr := B.returns
  have hts := atoms_spec (ws := wx (.code yX3_isLoan cX3_isLoan 2 (some .boolean))) B.pre
  have hown : s.vm.findClass RX3 = some m.cls := findClass_of_methodNamed B.named
  have hlocks := B.notSynchronized
  subst hsz
  have hD := hD0.self (sz := s.heap.size)
  generalize hAe : va_A [(ad 1, .inr (3, [.ref (ad 10), .int vc, .long po, .long oc, .ref (ad 11), .ref (ad 12), .ref (ad 13), .ref (ad 14), .ref (ad 15), .int sc, .ref (ad 16), .ref (ad 17), .ref (ad 18)])), (ad 10, .inl (cI, 12, .inl (T 0)))] s.heap.size = A at hD hG ⊢
  have hA : ∀ q : Nat, s.heap.size ≤ q → A q := fun q h => by rw [← hAe]; exact Or.inr h
  have hS : va_S A s.heap s.heap [] := va_S.rf
  have hP : va_P D vwCl [(ad 1, .inr (3, [.ref (ad 10), .int vc, .long po, .long oc, .ref (ad 11), .ref (ad 12), .ref (ad 13), .ref (ad 14), .ref (ad 15), .int sc, .ref (ad 16), .ref (ad 17), .ref (ad 18)])), (ad 10, .inl (cI, 12, .inl (T 0)))] s.heap := hP
  have hl := lv_entry ([.ref (ad 1), .int (nI v)]) (n := 2) (Nat.le_of_ble_eq_true rfl)
  rw [lg_entry_eq]
  generalize (lg_sl ([.ref (ad 1), .int (nI v)]) ++ List.replicate (2 - (lg_sl ([.ref (ad 1), .int (nI v)])).length) Slot.unset).toArray = ls at hl ⊢
  have hl : lv_has ls 2 [(0, .ref (ad 1)), (1, .int (nI v))] := hl
  refine lv_aload_n hx hb dX3_isLoan_0 rfl (lv_at hl 0 rfl) ?_
  refine va_get (D := D) (ci := 3) (v := .ref (ad 10)) (C := RX3) (T := TX3) (N := 13) (ref := "Ironwood$Told") hx hb hts in_RX3 hown hK hP 0 rfl rfl 0 (by decide) (hts _ (mc q_92)) (fun _ h9 => h9) rfl dX3_isLoan_1 ?_
  refine lv_iload_n hx hb dX3_isLoan_4 rfl (lv_at hl 1 rfl) ?_
  refine va_iald hx hb hK hP 1 0 rfl rfl (vp_in_nI (n := v) (by omega) (by omega)) dX3_isLoan_5 ?_
  refine tI (v := T 0 v) (congrArg (T 0) (nI_clamp (n := v) (by omega))) ?_
  refine lv_iconst (v := 2) hx hb dX3_isLoan_6 (by decide) ?_
  refine lv_icmp_eq (tgt := 20) hx hb dX3_isLoan_7 (by decide) (fun c_7 => ?_) (fun c_7 => ?_)
  · skip
    refine lv_iconst (v := 1) hx hb dX3_isLoan_20 (by decide) ?_
    refine lv_goto (tgt := 25) hx hb dX3_isLoan_21 (by decide) ?_
    exact ke_i hx hb hr (by first | rfl | decide | exact bz_nar _) () (by first | (simp [iL, bz, c_7]; done) | (simp [iL, bz, if_pos c_7]; done) | rfl | (simp [iL, bz, c_7]; omega)) hP hD hS (Nat.le_of_ble_eq_true rfl) (Nat.le_of_ble_eq_true rfl) hlocks dX3_isLoan_25
  · skip
    refine lv_aload_n hx hb dX3_isLoan_10 rfl (lv_at hl 0 rfl) ?_
    refine va_get (D := D) (ci := 3) (v := .ref (ad 10)) (C := RX3) (T := TX3) (N := 13) (ref := "Ironwood$Told") hx hb hts in_RX3 hown hK hP 0 rfl rfl 0 (by decide) (hts _ (mc q_92)) (fun _ h9 => h9) rfl dX3_isLoan_11 ?_
    refine lv_iload_n hx hb dX3_isLoan_14 rfl (lv_at hl 1 rfl) ?_
    refine va_iald hx hb hK hP 1 0 rfl rfl (vp_in_nI (n := v) (by omega) (by omega)) dX3_isLoan_15 ?_
    refine tI (v := T 0 v) (congrArg (T 0) (nI_clamp (n := v) (by omega))) ?_
    refine lv_iconst (v := 3) hx hb dX3_isLoan_16 (by decide) ?_
    refine lv_icmp_ne (tgt := 24) hx hb dX3_isLoan_17 (by decide) (fun c_17 => ?_) (fun c_17 => ?_)
    · skip
      refine lv_iconst (v := 0) hx hb dX3_isLoan_24 (by decide) ?_
      exact ke_i hx hb hr (by first | rfl | decide | exact bz_nar _) () (by first | (simp [iL, bz, c_7, c_17]; done) | (simp [iL, bz, if_neg c_7, if_neg c_17]; done) | rfl | (simp [iL, bz, c_7, c_17]; omega)) hP hD hS (Nat.le_of_ble_eq_true rfl) (Nat.le_of_ble_eq_true rfl) hlocks dX3_isLoan_25
    · skip
      refine lv_iconst (v := 1) hx hb dX3_isLoan_20 (by decide) ?_
      refine lv_goto (tgt := 25) hx hb dX3_isLoan_21 (by decide) ?_
      exact ke_i hx hb hr (by first | rfl | decide | exact bz_nar _) () (by first | (simp [iL, bz, c_7, c_17]; done) | (simp [iL, bz, if_neg c_7, if_pos c_17]; done) | rfl | (simp [iL, bz, c_7, c_17]; omega)) hP hD hS (Nat.le_of_ble_eq_true rfl) (Nat.le_of_ble_eq_true rfl) hlocks dX3_isLoan_25

set_option maxHeartbeats 4000000 in
set_option maxRecDepth 100000 in
theorem k_isField (l : Launch) (D : va_G) (cI cJ cZ cR : ClassId) (ad : Nat → Nat) (vc : Int32) (sc : Int32) (po : Int64) (oc : Int64) (T : Nat → Nat → Int32) (v : Nat) (q : Int32) (sz : Nat) (hv : v < 12) : Met l yX3_isField (wx (.code yX3_isField cX3_isField 3 (some .boolean))) ({ frames := 0, cells := 0, slots := 0, locals := 0 }) (va_Pc [.ref (ad 1), .int (nI v), .int q] (Pw D vwCl [(cI, .int), (cJ, .long), (cZ, .boolean), (cR, .array .int)] [(ad 1, .inr (3, [.ref (ad 10), .int vc, .long po, .long oc, .ref (ad 11), .ref (ad 12), .ref (ad 13), .ref (ad 14), .ref (ad 15), .int sc, .ref (ad 16), .ref (ad 17), .ref (ad 18)])), (ad 10, .inl (cI, 12, .inl (T 0)))] sz)) (va_Qi (fun (r : Int32) (u : Unit) => r = bz (iFd T v q)) (Bw D vwCl (fun (u : Unit) => [(ad 1, .inr (3, [.ref (ad 10), .int vc, .long po, .long oc, .ref (ad 11), .ref (ad 12), .ref (ad 13), .ref (ad 14), .ref (ad 15), .int sc, .ref (ad 16), .ref (ad 17), .ref (ad 18)])), (ad 10, .inl (cI, 12, .inl (T 0)))]) (va_A [(ad 1, .inr (3, [.ref (ad 10), .int vc, .long po, .long oc, .ref (ad 11), .ref (ad 12), .ref (ad 13), .ref (ad 14), .ref (ad 15), .int sc, .ref (ad 16), .ref (ad 17), .ref (ad 18)])), (ad 10, .inl (cI, 12, .inl (T 0)))] sz)) (va_A [(ad 1, .inr (3, [.ref (ad 10), .int vc, .long po, .long oc, .ref (ad 11), .ref (ad 12), .ref (ad 13), .ref (ad 14), .ref (ad 15), .int sc, .ref (ad 16), .ref (ad 17), .ref (ad 18)])), (ad 10, .inl (cI, 12, .inl (T 0)))] sz)) 0 0 (va_A [(ad 1, .inr (3, [.ref (ad 10), .int vc, .long po, .long oc, .ref (ad 11), .ref (ad 12), .ref (ad 13), .ref (ad 14), .ref (ad 15), .int sc, .ref (ad 16), .ref (ad 17), .ref (ad 18)])), (ad 10, .inl (cI, 12, .inl (T 0)))] sz) := by
  refine Met.ofW (cc := cX3_isField) (maxL := 3) (ret := (some .boolean)) (by decide) rfl ?_
  intro p e s m args below meth c s₁ B hml hv9
  obtain ⟨rfl, hsz, hP, hK, hD0, hG⟩ := hv9
  have hx := B.exec
  have hb := B.bytes
  have hr := B.returns
  have hts := atoms_spec (ws := wx (.code yX3_isField cX3_isField 3 (some .boolean))) B.pre
  have hown : s.vm.findClass RX3 = some m.cls := findClass_of_methodNamed B.named
  have hlocks := B.notSynchronized
  subst hsz
  have hD := hD0.self (sz := s.heap.size)
  generalize hAe : va_A [(ad 1, .inr (3, [.ref (ad 10), .int vc, .long po, .long oc, .ref (ad 11), .ref (ad 12), .ref (ad 13), .ref (ad 14), .ref (ad 15), .int sc, .ref (ad 16), .ref (ad 17), .ref (ad 18)])), (ad 10, .inl (cI, 12, .inl (T 0)))] s.heap.size = A at hD hG ⊢
  have hA : ∀ q : Nat, s.heap.size ≤ q → A q := fun q h => by rw [← hAe]; exact Or.inr h
  have hS : va_S A s.heap s.heap [] := va_S.rf
  have hP : va_P D vwCl [(ad 1, .inr (3, [.ref (ad 10), .int vc, .long po, .long oc, .ref (ad 11), .ref (ad 12), .ref (ad 13), .ref (ad 14), .ref (ad 15), .int sc, .ref (ad 16), .ref (ad 17), .ref (ad 18)])), (ad 10, .inl (cI, 12, .inl (T 0)))] s.heap := hP
  have hl := lv_entry ([.ref (ad 1), .int (nI v), .int q]) (n := 3) (Nat.le_of_ble_eq_true rfl)
  rw [lg_entry_eq]
  generalize (lg_sl ([.ref (ad 1), .int (nI v), .int q]) ++ List.replicate (3 - (lg_sl ([.ref (ad 1), .int (nI v), .int q])).length) Slot.unset).toArray = ls at hl ⊢
  have hl : lv_has ls 3 [(0, .ref (ad 1)), (1, .int (nI v)), (2, .int q)] := hl
  refine lv_aload_n hx hb dX3_isField_0 rfl (lv_at hl 0 rfl) ?_
  refine va_get (D := D) (ci := 3) (v := .ref (ad 10)) (C := RX3) (T := TX3) (N := 13) (ref := "Ironwood$Told") hx hb hts in_RX3 hown hK hP 0 rfl rfl 0 (by decide) (hts _ (mc q_92)) (fun _ h9 => h9) rfl dX3_isField_1 ?_
  refine lv_iload_n hx hb dX3_isField_4 rfl (lv_at hl 1 rfl) ?_
  refine va_iald hx hb hK hP 1 0 rfl rfl (vp_in_nI (n := v) (by omega) (by omega)) dX3_isField_5 ?_
  refine tI (v := T 0 v) (congrArg (T 0) (nI_clamp (n := v) (by omega))) ?_
  refine lv_iconst (v := 1) hx hb dX3_isField_6 (by decide) ?_
  refine lv_icmp_ne (tgt := 23) hx hb dX3_isField_7 (by decide) (fun c_7 => ?_) (fun c_7 => ?_)
  · skip
    refine lv_iconst (v := 0) hx hb dX3_isField_23 (by decide) ?_
    exact ke_i hx hb hr (by first | rfl | decide | exact bz_nar _) () (by first | (simp [iFd, bz, c_7]; done) | (simp [iFd, bz, if_neg c_7]; done) | rfl | (simp [iFd, bz, c_7]; omega)) hP hD hS (Nat.le_of_ble_eq_true rfl) (Nat.le_of_ble_eq_true rfl) hlocks dX3_isField_24
  · skip
    refine lv_iload_n hx hb dX3_isField_10 rfl (lv_at hl 2 rfl) ?_
    refine lv_if_lt (tgt := 23) hx hb dX3_isField_11 (by decide) (fun c_11 => ?_) (fun c_11 => ?_)
    · skip
      refine lv_iconst (v := 0) hx hb dX3_isField_23 (by decide) ?_
      exact ke_i hx hb hr (by first | rfl | decide | exact bz_nar _) () (by first | (simp [iFd, bz, c_7, c_11, (Int32.not_le.mpr c_11)]; done) | (simp [iFd, bz, if_pos c_7, if_pos c_11, if_neg (Int32.not_le.mpr c_11)]; done) | rfl | (simp [iFd, bz, c_7, c_11, (Int32.not_le.mpr c_11)]; omega)) hP hD hS (Nat.le_of_ble_eq_true rfl) (Nat.le_of_ble_eq_true rfl) hlocks dX3_isField_24
    · skip
      refine lv_iload_n hx hb dX3_isField_14 rfl (lv_at hl 2 rfl) ?_
      refine lv_iconst (v := 3) hx hb dX3_isField_15 (by decide) ?_
      refine lv_icmp_ge (tgt := 23) hx hb dX3_isField_16 (by decide) (fun c_16 => ?_) (fun c_16 => ?_)
      · skip
        refine lv_iconst (v := 0) hx hb dX3_isField_23 (by decide) ?_
        exact ke_i hx hb hr (by first | rfl | decide | exact bz_nar _) () (by first | (simp [iFd, bz, c_7, c_11, (Int32.not_lt.mp c_11), c_16, (Int32.not_lt.mpr c_16)]; done) | (simp [iFd, bz, if_pos c_7, if_neg c_11, if_pos (Int32.not_lt.mp c_11), if_pos c_16, if_neg (Int32.not_lt.mpr c_16)]; done) | rfl | (simp [iFd, bz, c_7, c_11, (Int32.not_lt.mp c_11), c_16, (Int32.not_lt.mpr c_16)]; omega)) hP hD hS (Nat.le_of_ble_eq_true rfl) (Nat.le_of_ble_eq_true rfl) hlocks dX3_isField_24
      · skip
        refine lv_iconst (v := 1) hx hb dX3_isField_19 (by decide) ?_
        refine lv_goto (tgt := 24) hx hb dX3_isField_20 (by decide) ?_
        exact ke_i hx hb hr (by first | rfl | decide | exact bz_nar _) () (by first | (simp [iFd, bz, c_7, c_11, (Int32.not_lt.mp c_11), c_16, (Int32.not_le.mp c_16)]; done) | (simp [iFd, bz, if_pos c_7, if_neg c_11, if_pos (Int32.not_lt.mp c_11), if_neg c_16, if_pos (Int32.not_le.mp c_16)]; done) | rfl | (simp [iFd, bz, c_7, c_11, (Int32.not_lt.mp c_11), c_16, (Int32.not_le.mp c_16)]; omega)) hP hD hS (Nat.le_of_ble_eq_true rfl) (Nat.le_of_ble_eq_true rfl) hlocks dX3_isField_24

set_option maxHeartbeats 4000000 in
set_option maxRecDepth 100000 in
theorem k_isBranch (l : Launch) (D : va_G) (cI cJ cZ cR : ClassId) (ad : Nat → Nat) (vc : Int32) (sc : Int32) (po : Int64) (oc : Int64) (T : Nat → Nat → Int32) (j : Nat) (sz : Nat) (hj : j < 40) : Met l yX3_isBranch (wx (.code yX3_isBranch cX3_isBranch 2 (some .boolean))) ({ frames := 0, cells := 0, slots := 0, locals := 0 }) (va_Pc [.ref (ad 1), .int (nI j)] (Pw D vwCl [(cI, .int), (cJ, .long), (cZ, .boolean), (cR, .array .int)] [(ad 1, .inr (3, [.ref (ad 10), .int vc, .long po, .long oc, .ref (ad 11), .ref (ad 12), .ref (ad 13), .ref (ad 14), .ref (ad 15), .int sc, .ref (ad 16), .ref (ad 17), .ref (ad 18)])), (ad 11, .inl (cI, 40, .inl (T 1)))] sz)) (va_Qi (fun (r : Int32) (u : Unit) => r = bz (iBr T j)) (Bw D vwCl (fun (u : Unit) => [(ad 1, .inr (3, [.ref (ad 10), .int vc, .long po, .long oc, .ref (ad 11), .ref (ad 12), .ref (ad 13), .ref (ad 14), .ref (ad 15), .int sc, .ref (ad 16), .ref (ad 17), .ref (ad 18)])), (ad 11, .inl (cI, 40, .inl (T 1)))]) (va_A [(ad 1, .inr (3, [.ref (ad 10), .int vc, .long po, .long oc, .ref (ad 11), .ref (ad 12), .ref (ad 13), .ref (ad 14), .ref (ad 15), .int sc, .ref (ad 16), .ref (ad 17), .ref (ad 18)])), (ad 11, .inl (cI, 40, .inl (T 1)))] sz)) (va_A [(ad 1, .inr (3, [.ref (ad 10), .int vc, .long po, .long oc, .ref (ad 11), .ref (ad 12), .ref (ad 13), .ref (ad 14), .ref (ad 15), .int sc, .ref (ad 16), .ref (ad 17), .ref (ad 18)])), (ad 11, .inl (cI, 40, .inl (T 1)))] sz)) 0 0 (va_A [(ad 1, .inr (3, [.ref (ad 10), .int vc, .long po, .long oc, .ref (ad 11), .ref (ad 12), .ref (ad 13), .ref (ad 14), .ref (ad 15), .int sc, .ref (ad 16), .ref (ad 17), .ref (ad 18)])), (ad 11, .inl (cI, 40, .inl (T 1)))] sz) := by
  refine Met.ofW (cc := cX3_isBranch) (maxL := 2) (ret := (some .boolean)) (by decide) rfl ?_
  intro p e s m args below meth c s₁ B hml hv9
  obtain ⟨rfl, hsz, hP, hK, hD0, hG⟩ := hv9
  have hx := B.exec
  have hb := B.bytes
  have hr := B.returns
  have hts := atoms_spec (ws := wx (.code yX3_isBranch cX3_isBranch 2 (some .boolean))) B.pre
  have hown : s.vm.findClass RX3 = some m.cls := findClass_of_methodNamed B.named
  have hlocks := B.notSynchronized
  subst hsz
  have hD := hD0.self (sz := s.heap.size)
  generalize hAe : va_A [(ad 1, .inr (3, [.ref (ad 10), .int vc, .long po, .long oc, .ref (ad 11), .ref (ad 12), .ref (ad 13), .ref (ad 14), .ref (ad 15), .int sc, .ref (ad 16), .ref (ad 17), .ref (ad 18)])), (ad 11, .inl (cI, 40, .inl (T 1)))] s.heap.size = A at hD hG ⊢
  have hA : ∀ q : Nat, s.heap.size ≤ q → A q := fun q h => by rw [← hAe]; exact Or.inr h
  have hS : va_S A s.heap s.heap [] := va_S.rf
  have hP : va_P D vwCl [(ad 1, .inr (3, [.ref (ad 10), .int vc, .long po, .long oc, .ref (ad 11), .ref (ad 12), .ref (ad 13), .ref (ad 14), .ref (ad 15), .int sc, .ref (ad 16), .ref (ad 17), .ref (ad 18)])), (ad 11, .inl (cI, 40, .inl (T 1)))] s.heap := hP
  have hl := lv_entry ([.ref (ad 1), .int (nI j)]) (n := 2) (Nat.le_of_ble_eq_true rfl)
  rw [lg_entry_eq]
  generalize (lg_sl ([.ref (ad 1), .int (nI j)]) ++ List.replicate (2 - (lg_sl ([.ref (ad 1), .int (nI j)])).length) Slot.unset).toArray = ls at hl ⊢
  have hl : lv_has ls 2 [(0, .ref (ad 1)), (1, .int (nI j))] := hl
  refine lv_aload_n hx hb dX3_isBranch_0 rfl (lv_at hl 0 rfl) ?_
  refine va_get (D := D) (ci := 3) (v := .ref (ad 11)) (C := RX3) (T := TX3) (N := 13) (ref := "Ironwood$Told") hx hb hts in_RX3 hown hK hP 0 rfl rfl 4 (by decide) (hts _ (mc q_101)) (fun _ h9 => h9) rfl dX3_isBranch_1 ?_
  refine lv_iload_n hx hb dX3_isBranch_4 rfl (lv_at hl 1 rfl) ?_
  refine va_iald hx hb hK hP 1 0 rfl rfl (vp_in_nI (n := j) (by omega) (by omega)) dX3_isBranch_5 ?_
  refine tI (v := T 1 j) (congrArg (T 1) (nI_clamp (n := j) (by omega))) ?_
  refine lv_bipush (v := 7) hx hb dX3_isBranch_6 (by decide) ?_
  refine lv_icmp_eq (tgt := 22) hx hb dX3_isBranch_8 (by decide) (fun c_8 => ?_) (fun c_8 => ?_)
  · skip
    refine lv_iconst (v := 1) hx hb dX3_isBranch_22 (by decide) ?_
    refine lv_goto (tgt := 27) hx hb dX3_isBranch_23 (by decide) ?_
    exact ke_i hx hb hr (by first | rfl | decide | exact bz_nar _) () (by first | (simp [iBr, bz, c_8]; done) | (simp [iBr, bz, if_pos c_8]; done) | rfl | (simp [iBr, bz, c_8]; omega)) hP hD hS (Nat.le_of_ble_eq_true rfl) (Nat.le_of_ble_eq_true rfl) hlocks dX3_isBranch_27
  · skip
    refine lv_aload_n hx hb dX3_isBranch_11 rfl (lv_at hl 0 rfl) ?_
    refine va_get (D := D) (ci := 3) (v := .ref (ad 11)) (C := RX3) (T := TX3) (N := 13) (ref := "Ironwood$Told") hx hb hts in_RX3 hown hK hP 0 rfl rfl 4 (by decide) (hts _ (mc q_101)) (fun _ h9 => h9) rfl dX3_isBranch_12 ?_
    refine lv_iload_n hx hb dX3_isBranch_15 rfl (lv_at hl 1 rfl) ?_
    refine va_iald hx hb hK hP 1 0 rfl rfl (vp_in_nI (n := j) (by omega) (by omega)) dX3_isBranch_16 ?_
    refine tI (v := T 1 j) (congrArg (T 1) (nI_clamp (n := j) (by omega))) ?_
    refine lv_bipush (v := 8) hx hb dX3_isBranch_17 (by decide) ?_
    refine lv_icmp_ne (tgt := 26) hx hb dX3_isBranch_19 (by decide) (fun c_19 => ?_) (fun c_19 => ?_)
    · skip
      refine lv_iconst (v := 0) hx hb dX3_isBranch_26 (by decide) ?_
      exact ke_i hx hb hr (by first | rfl | decide | exact bz_nar _) () (by first | (simp [iBr, bz, c_8, c_19]; done) | (simp [iBr, bz, if_neg c_8, if_neg c_19]; done) | rfl | (simp [iBr, bz, c_8, c_19]; omega)) hP hD hS (Nat.le_of_ble_eq_true rfl) (Nat.le_of_ble_eq_true rfl) hlocks dX3_isBranch_27
    · skip
      refine lv_iconst (v := 1) hx hb dX3_isBranch_22 (by decide) ?_
      refine lv_goto (tgt := 27) hx hb dX3_isBranch_23 (by decide) ?_
      exact ke_i hx hb hr (by first | rfl | decide | exact bz_nar _) () (by first | (simp [iBr, bz, c_8, c_19]; done) | (simp [iBr, bz, if_neg c_8, if_pos c_19]; done) | rfl | (simp [iBr, bz, c_8, c_19]; omega)) hP hD hS (Nat.le_of_ble_eq_true rfl) (Nat.le_of_ble_eq_true rfl) hlocks dX3_isBranch_27

set_option maxHeartbeats 4000000 in
set_option maxRecDepth 100000 in
theorem k_isMadeLoan (l : Launch) (D : va_G) (cI cJ cZ cR : ClassId) (ad : Nat → Nat) (vc : Int32) (po : Int64) (oc : Int64) (n : Nat) (T : Nat → Nat → Int32) (j : Nat) (sz : Nat) (hn : n ≤ 40) (hj : j < 1000) : Met l yX3_isMadeLoan (wx (.code yX3_isMadeLoan cX3_isMadeLoan 2 (some .boolean))) ({ frames := 0, cells := 0, slots := 0, locals := 0 }) (va_Pc [.ref (ad 1), .int (nI j)] (Pw D vwCl [(cI, .int), (cJ, .long), (cZ, .boolean), (cR, .array .int)] [(ad 1, .inr (3, [.ref (ad 10), .int vc, .long po, .long oc, .ref (ad 11), .ref (ad 12), .ref (ad 13), .ref (ad 14), .ref (ad 15), .int (nI n), .ref (ad 16), .ref (ad 17), .ref (ad 18)])), (ad 11, .inl (cI, 40, .inl (T 1)))] sz)) (va_Qi (fun (r : Int32) (u : Unit) => r = bz (iML T n j)) (Bw D vwCl (fun (u : Unit) => [(ad 1, .inr (3, [.ref (ad 10), .int vc, .long po, .long oc, .ref (ad 11), .ref (ad 12), .ref (ad 13), .ref (ad 14), .ref (ad 15), .int (nI n), .ref (ad 16), .ref (ad 17), .ref (ad 18)])), (ad 11, .inl (cI, 40, .inl (T 1)))]) (va_A [(ad 1, .inr (3, [.ref (ad 10), .int vc, .long po, .long oc, .ref (ad 11), .ref (ad 12), .ref (ad 13), .ref (ad 14), .ref (ad 15), .int (nI n), .ref (ad 16), .ref (ad 17), .ref (ad 18)])), (ad 11, .inl (cI, 40, .inl (T 1)))] sz)) (va_A [(ad 1, .inr (3, [.ref (ad 10), .int vc, .long po, .long oc, .ref (ad 11), .ref (ad 12), .ref (ad 13), .ref (ad 14), .ref (ad 15), .int (nI n), .ref (ad 16), .ref (ad 17), .ref (ad 18)])), (ad 11, .inl (cI, 40, .inl (T 1)))] sz)) 0 0 (va_A [(ad 1, .inr (3, [.ref (ad 10), .int vc, .long po, .long oc, .ref (ad 11), .ref (ad 12), .ref (ad 13), .ref (ad 14), .ref (ad 15), .int (nI n), .ref (ad 16), .ref (ad 17), .ref (ad 18)])), (ad 11, .inl (cI, 40, .inl (T 1)))] sz) := by
  refine Met.ofW (cc := cX3_isMadeLoan) (maxL := 2) (ret := (some .boolean)) (by decide) rfl ?_
  intro p e s m args below meth c s₁ B hml hv9
  obtain ⟨rfl, hsz, hP, hK, hD0, hG⟩ := hv9
  have hx := B.exec
  have hb := B.bytes
  have hr := B.returns
  have hts := atoms_spec (ws := wx (.code yX3_isMadeLoan cX3_isMadeLoan 2 (some .boolean))) B.pre
  have hown : s.vm.findClass RX3 = some m.cls := findClass_of_methodNamed B.named
  have hlocks := B.notSynchronized
  subst hsz
  have hD := hD0.self (sz := s.heap.size)
  generalize hAe : va_A [(ad 1, .inr (3, [.ref (ad 10), .int vc, .long po, .long oc, .ref (ad 11), .ref (ad 12), .ref (ad 13), .ref (ad 14), .ref (ad 15), .int (nI n), .ref (ad 16), .ref (ad 17), .ref (ad 18)])), (ad 11, .inl (cI, 40, .inl (T 1)))] s.heap.size = A at hD hG ⊢
  have hA : ∀ q : Nat, s.heap.size ≤ q → A q := fun q h => by rw [← hAe]; exact Or.inr h
  have hS : va_S A s.heap s.heap [] := va_S.rf
  have hP : va_P D vwCl [(ad 1, .inr (3, [.ref (ad 10), .int vc, .long po, .long oc, .ref (ad 11), .ref (ad 12), .ref (ad 13), .ref (ad 14), .ref (ad 15), .int (nI n), .ref (ad 16), .ref (ad 17), .ref (ad 18)])), (ad 11, .inl (cI, 40, .inl (T 1)))] s.heap := hP
  have hl := lv_entry ([.ref (ad 1), .int (nI j)]) (n := 2) (Nat.le_of_ble_eq_true rfl)
  rw [lg_entry_eq]
  generalize (lg_sl ([.ref (ad 1), .int (nI j)]) ++ List.replicate (2 - (lg_sl ([.ref (ad 1), .int (nI j)])).length) Slot.unset).toArray = ls at hl ⊢
  have hl : lv_has ls 2 [(0, .ref (ad 1)), (1, .int (nI j))] := hl
  refine lv_iload_n hx hb dX3_isMadeLoan_0 rfl (lv_at hl 1 rfl) ?_
  refine lv_if_lt (tgt := 36) hx hb dX3_isMadeLoan_1 (by decide) (fun c_1 => by
      have c_1 : j < 0 := (nI_ltI (a := j) (b := 0) (by omega) (by omega)).mp c_1
      exact absurd c_1 (Nat.not_lt_zero _)) (fun c_1 => ?_)
  have c_1 : 0 ≤ j := Nat.le_of_not_lt (fun h9 => c_1 ((nI_ltI (a := j) (b := 0) (by omega) (by omega)).mpr h9))
  refine lv_iload_n hx hb dX3_isMadeLoan_4 rfl (lv_at hl 1 rfl) ?_
  refine lv_aload_n hx hb dX3_isMadeLoan_5 rfl (lv_at hl 0 rfl) ?_
  refine va_get (D := D) (ci := 3) (v := .int (nI n)) (C := RX3) (T := TX3) (N := 13) (ref := "Ironwood$Told") hx hb hts in_RX3 hown hK hP 0 rfl rfl 9 (by decide) (hts _ (mc q_115)) (fun _ h9 => h9) rfl dX3_isMadeLoan_6 ?_
  refine lv_icmp_ge (tgt := 36) hx hb dX3_isMadeLoan_9 (by decide) (fun c_9 => ?_) (fun c_9 => ?_)
  · skip
    have c_9 : n ≤ j := (nI_leI (a := n) (b := j) (by omega) (by omega)).mp c_9
    refine lv_iconst (v := 0) hx hb dX3_isMadeLoan_36 (by decide) ?_
    exact ke_i hx hb hr (by first | rfl | decide | exact bz_nar _) () (by first | (simp [iML, bz, c_1, (Nat.not_lt.mpr c_1), c_9, (Nat.not_lt.mpr c_9)]; done) | (simp [iML, bz, if_pos c_1, if_neg (Nat.not_lt.mpr c_1), if_pos c_9, if_neg (Nat.not_lt.mpr c_9)]; done) | rfl | (simp [iML, bz, c_1, (Nat.not_lt.mpr c_1), c_9, (Nat.not_lt.mpr c_9)]; omega)) hP hD hS (Nat.le_of_ble_eq_true rfl) (Nat.le_of_ble_eq_true rfl) hlocks dX3_isMadeLoan_37
  · skip
    have c_9 : j < n := Nat.lt_of_not_le (fun h9 => c_9 ((nI_leI (a := n) (b := j) (by omega) (by omega)).mpr h9))
    refine lv_aload_n hx hb dX3_isMadeLoan_12 rfl (lv_at hl 0 rfl) ?_
    refine va_get (D := D) (ci := 3) (v := .ref (ad 11)) (C := RX3) (T := TX3) (N := 13) (ref := "Ironwood$Told") hx hb hts in_RX3 hown hK hP 0 rfl rfl 4 (by decide) (hts _ (mc q_101)) (fun _ h9 => h9) rfl dX3_isMadeLoan_13 ?_
    refine lv_iload_n hx hb dX3_isMadeLoan_16 rfl (lv_at hl 1 rfl) ?_
    refine va_iald hx hb hK hP 1 0 rfl rfl (vp_in_nI (n := j) (by omega) (by omega)) dX3_isMadeLoan_17 ?_
    refine tI (v := T 1 j) (congrArg (T 1) (nI_clamp (n := j) (by omega))) ?_
    refine lv_iconst (v := 2) hx hb dX3_isMadeLoan_18 (by decide) ?_
    refine lv_icmp_eq (tgt := 32) hx hb dX3_isMadeLoan_19 (by decide) (fun c_19 => ?_) (fun c_19 => ?_)
    · skip
      refine lv_iconst (v := 1) hx hb dX3_isMadeLoan_32 (by decide) ?_
      refine lv_goto (tgt := 37) hx hb dX3_isMadeLoan_33 (by decide) ?_
      exact ke_i hx hb hr (by first | rfl | decide | exact bz_nar _) () (by first | (simp [iML, bz, c_1, (Nat.not_lt.mpr c_1), c_9, (Nat.not_le.mpr c_9), c_19]; done) | (simp [iML, bz, if_pos c_1, if_neg (Nat.not_lt.mpr c_1), if_pos c_9, if_neg (Nat.not_le.mpr c_9), if_pos c_19]; done) | rfl | (simp [iML, bz, c_1, (Nat.not_lt.mpr c_1), c_9, (Nat.not_le.mpr c_9), c_19]; omega)) hP hD hS (Nat.le_of_ble_eq_true rfl) (Nat.le_of_ble_eq_true rfl) hlocks dX3_isMadeLoan_37
    · skip
      refine lv_aload_n hx hb dX3_isMadeLoan_22 rfl (lv_at hl 0 rfl) ?_
      refine va_get (D := D) (ci := 3) (v := .ref (ad 11)) (C := RX3) (T := TX3) (N := 13) (ref := "Ironwood$Told") hx hb hts in_RX3 hown hK hP 0 rfl rfl 4 (by decide) (hts _ (mc q_101)) (fun _ h9 => h9) rfl dX3_isMadeLoan_23 ?_
      refine lv_iload_n hx hb dX3_isMadeLoan_26 rfl (lv_at hl 1 rfl) ?_
      refine va_iald hx hb hK hP 1 0 rfl rfl (vp_in_nI (n := j) (by omega) (by omega)) dX3_isMadeLoan_27 ?_
      refine tI (v := T 1 j) (congrArg (T 1) (nI_clamp (n := j) (by omega))) ?_
      refine lv_iconst (v := 3) hx hb dX3_isMadeLoan_28 (by decide) ?_
      refine lv_icmp_ne (tgt := 36) hx hb dX3_isMadeLoan_29 (by decide) (fun c_29 => ?_) (fun c_29 => ?_)
      · skip
        refine lv_iconst (v := 0) hx hb dX3_isMadeLoan_36 (by decide) ?_
        exact ke_i hx hb hr (by first | rfl | decide | exact bz_nar _) () (by first | (simp [iML, bz, c_1, (Nat.not_lt.mpr c_1), c_9, (Nat.not_le.mpr c_9), c_19, c_29]; done) | (simp [iML, bz, if_pos c_1, if_neg (Nat.not_lt.mpr c_1), if_pos c_9, if_neg (Nat.not_le.mpr c_9), if_neg c_19, if_neg c_29]; done) | rfl | (simp [iML, bz, c_1, (Nat.not_lt.mpr c_1), c_9, (Nat.not_le.mpr c_9), c_19, c_29]; omega)) hP hD hS (Nat.le_of_ble_eq_true rfl) (Nat.le_of_ble_eq_true rfl) hlocks dX3_isMadeLoan_37
      · skip
        refine lv_iconst (v := 1) hx hb dX3_isMadeLoan_32 (by decide) ?_
        refine lv_goto (tgt := 37) hx hb dX3_isMadeLoan_33 (by decide) ?_
        exact ke_i hx hb hr (by first | rfl | decide | exact bz_nar _) () (by first | (simp [iML, bz, c_1, (Nat.not_lt.mpr c_1), c_9, (Nat.not_le.mpr c_9), c_19, c_29]; done) | (simp [iML, bz, if_pos c_1, if_neg (Nat.not_lt.mpr c_1), if_pos c_9, if_neg (Nat.not_le.mpr c_9), if_neg c_19, if_pos c_29]; done) | rfl | (simp [iML, bz, c_1, (Nat.not_lt.mpr c_1), c_9, (Nat.not_le.mpr c_9), c_19, c_29]; omega)) hP hD hS (Nat.le_of_ble_eq_true rfl) (Nat.le_of_ble_eq_true rfl) hlocks dX3_isMadeLoan_37

set_option maxHeartbeats 4000000 in
set_option maxRecDepth 100000 in
theorem k_takingOf (l : Launch) (D : va_G) (cI cJ cZ cR : ClassId) (ad : Nat → Nat) (vc : Int32) (sc : Int32) (po : Int64) (oc : Int64) (T : Nat → Nat → Int32) (v : Nat) (sz : Nat) (hv : v < 12) : Met l yX3_takingOf (wx (.code yX3_takingOf cX3_takingOf 2 (some .int))) ({ frames := 0, cells := 0, slots := 0, locals := 0 }) (va_Pc [.ref (ad 1), .int (nI v)] (Pw D vwCl [(cI, .int), (cJ, .long), (cZ, .boolean), (cR, .array .int)] [(ad 1, .inr (3, [.ref (ad 10), .int vc, .long po, .long oc, .ref (ad 11), .ref (ad 12), .ref (ad 13), .ref (ad 14), .ref (ad 15), .int sc, .ref (ad 16), .ref (ad 17), .ref (ad 18)])), (ad 10, .inl (cI, 12, .inl (T 0)))] sz)) (va_Qi (fun (r : Int32) (u : Unit) => r = tkO T v) (Bw D vwCl (fun (u : Unit) => [(ad 1, .inr (3, [.ref (ad 10), .int vc, .long po, .long oc, .ref (ad 11), .ref (ad 12), .ref (ad 13), .ref (ad 14), .ref (ad 15), .int sc, .ref (ad 16), .ref (ad 17), .ref (ad 18)])), (ad 10, .inl (cI, 12, .inl (T 0)))]) (va_A [(ad 1, .inr (3, [.ref (ad 10), .int vc, .long po, .long oc, .ref (ad 11), .ref (ad 12), .ref (ad 13), .ref (ad 14), .ref (ad 15), .int sc, .ref (ad 16), .ref (ad 17), .ref (ad 18)])), (ad 10, .inl (cI, 12, .inl (T 0)))] sz)) (va_A [(ad 1, .inr (3, [.ref (ad 10), .int vc, .long po, .long oc, .ref (ad 11), .ref (ad 12), .ref (ad 13), .ref (ad 14), .ref (ad 15), .int sc, .ref (ad 16), .ref (ad 17), .ref (ad 18)])), (ad 10, .inl (cI, 12, .inl (T 0)))] sz)) 0 0 (va_A [(ad 1, .inr (3, [.ref (ad 10), .int vc, .long po, .long oc, .ref (ad 11), .ref (ad 12), .ref (ad 13), .ref (ad 14), .ref (ad 15), .int sc, .ref (ad 16), .ref (ad 17), .ref (ad 18)])), (ad 10, .inl (cI, 12, .inl (T 0)))] sz) := by
  refine Met.ofW (cc := cX3_takingOf) (maxL := 2) (ret := (some .int)) (by decide) rfl ?_
  intro p e s m args below meth c s₁ B hml hv9
  obtain ⟨rfl, hsz, hP, hK, hD0, hG⟩ := hv9
  have hx := B.exec
  have hb := B.bytes
  have hr := B.returns
  have hts := atoms_spec (ws := wx (.code yX3_takingOf cX3_takingOf 2 (some .int))) B.pre
  have hown : s.vm.findClass RX3 = some m.cls := findClass_of_methodNamed B.named
  have hlocks := B.notSynchronized
  subst hsz
  have hD := hD0.self (sz := s.heap.size)
  generalize hAe : va_A [(ad 1, .inr (3, [.ref (ad 10), .int vc, .long po, .long oc, .ref (ad 11), .ref (ad 12), .ref (ad 13), .ref (ad 14), .ref (ad 15), .int sc, .ref (ad 16), .ref (ad 17), .ref (ad 18)])), (ad 10, .inl (cI, 12, .inl (T 0)))] s.heap.size = A at hD hG ⊢
  have hA : ∀ q : Nat, s.heap.size ≤ q → A q := fun q h => by rw [← hAe]; exact Or.inr h
  have hS : va_S A s.heap s.heap [] := va_S.rf
  have hP : va_P D vwCl [(ad 1, .inr (3, [.ref (ad 10), .int vc, .long po, .long oc, .ref (ad 11), .ref (ad 12), .ref (ad 13), .ref (ad 14), .ref (ad 15), .int sc, .ref (ad 16), .ref (ad 17), .ref (ad 18)])), (ad 10, .inl (cI, 12, .inl (T 0)))] s.heap := hP
  have hl := lv_entry ([.ref (ad 1), .int (nI v)]) (n := 2) (Nat.le_of_ble_eq_true rfl)
  rw [lg_entry_eq]
  generalize (lg_sl ([.ref (ad 1), .int (nI v)]) ++ List.replicate (2 - (lg_sl ([.ref (ad 1), .int (nI v)])).length) Slot.unset).toArray = ls at hl ⊢
  have hl : lv_has ls 2 [(0, .ref (ad 1)), (1, .int (nI v))] := hl
  refine lv_aload_n hx hb dX3_takingOf_0 rfl (lv_at hl 0 rfl) ?_
  refine va_get (D := D) (ci := 3) (v := .ref (ad 10)) (C := RX3) (T := TX3) (N := 13) (ref := "Ironwood$Told") hx hb hts in_RX3 hown hK hP 0 rfl rfl 0 (by decide) (hts _ (mc q_92)) (fun _ h9 => h9) rfl dX3_takingOf_1 ?_
  refine lv_iload_n hx hb dX3_takingOf_4 rfl (lv_at hl 1 rfl) ?_
  refine va_iald hx hb hK hP 1 0 rfl rfl (vp_in_nI (n := v) (by omega) (by omega)) dX3_takingOf_5 ?_
  refine tI (v := T 0 v) (congrArg (T 0) (nI_clamp (n := v) (by omega))) ?_
  refine lv_iconst (v := 1) hx hb dX3_takingOf_6 (by decide) ?_
  refine lv_icmp_eq (tgt := 20) hx hb dX3_takingOf_7 (by decide) (fun c_7 => ?_) (fun c_7 => ?_)
  · skip
    refine lv_iconst (v := 2) hx hb dX3_takingOf_20 (by decide) ?_
    refine lv_goto (tgt := 25) hx hb dX3_takingOf_21 (by decide) ?_
    exact ke_i hx hb hr (by first | rfl | decide | exact bz_nar _) () (by first | (simp [tkO, c_7]; done) | (simp [tkO, if_pos c_7]; done) | rfl | (simp [tkO, c_7]; omega)) hP hD hS (Nat.le_of_ble_eq_true rfl) (Nat.le_of_ble_eq_true rfl) hlocks dX3_takingOf_25
  · skip
    refine lv_aload_n hx hb dX3_takingOf_10 rfl (lv_at hl 0 rfl) ?_
    refine va_get (D := D) (ci := 3) (v := .ref (ad 10)) (C := RX3) (T := TX3) (N := 13) (ref := "Ironwood$Told") hx hb hts in_RX3 hown hK hP 0 rfl rfl 0 (by decide) (hts _ (mc q_92)) (fun _ h9 => h9) rfl dX3_takingOf_11 ?_
    refine lv_iload_n hx hb dX3_takingOf_14 rfl (lv_at hl 1 rfl) ?_
    refine va_iald hx hb hK hP 1 0 rfl rfl (vp_in_nI (n := v) (by omega) (by omega)) dX3_takingOf_15 ?_
    refine tI (v := T 0 v) (congrArg (T 0) (nI_clamp (n := v) (by omega))) ?_
    refine lv_iconst (v := 3) hx hb dX3_takingOf_16 (by decide) ?_
    refine lv_icmp_ne (tgt := 24) hx hb dX3_takingOf_17 (by decide) (fun c_17 => ?_) (fun c_17 => ?_)
    · skip
      refine lv_iconst (v := 0) hx hb dX3_takingOf_24 (by decide) ?_
      exact ke_i hx hb hr (by first | rfl | decide | exact bz_nar _) () (by first | (simp [tkO, c_7, c_17]; done) | (simp [tkO, if_neg c_7, if_neg c_17]; done) | rfl | (simp [tkO, c_7, c_17]; omega)) hP hD hS (Nat.le_of_ble_eq_true rfl) (Nat.le_of_ble_eq_true rfl) hlocks dX3_takingOf_25
    · skip
      refine lv_iconst (v := 2) hx hb dX3_takingOf_20 (by decide) ?_
      refine lv_goto (tgt := 25) hx hb dX3_takingOf_21 (by decide) ?_
      exact ke_i hx hb hr (by first | rfl | decide | exact bz_nar _) () (by first | (simp [tkO, c_7, c_17]; done) | (simp [tkO, if_neg c_7, if_pos c_17]; done) | rfl | (simp [tkO, c_7, c_17]; omega)) hP hD hS (Nat.le_of_ble_eq_true rfl) (Nat.le_of_ble_eq_true rfl) hlocks dX3_takingOf_25

set_option maxHeartbeats 4000000 in
set_option maxRecDepth 100000 in
theorem k_lendingTo (l : Launch) (D : va_G) (cI cJ cZ cR : ClassId) (ad : Nat → Nat) (vc : Int32) (sc : Int32) (po : Int64) (oc : Int64) (T : Nat → Nat → Int32) (v : Nat) (sz : Nat) (hv : v < 12) : Met l yX3_lendingTo (wx (.code yX3_lendingTo cX3_lendingTo 2 (some .int))) ({ frames := 0, cells := 0, slots := 0, locals := 0 }) (va_Pc [.ref (ad 1), .int (nI v)] (Pw D vwCl [(cI, .int), (cJ, .long), (cZ, .boolean), (cR, .array .int)] [(ad 1, .inr (3, [.ref (ad 10), .int vc, .long po, .long oc, .ref (ad 11), .ref (ad 12), .ref (ad 13), .ref (ad 14), .ref (ad 15), .int sc, .ref (ad 16), .ref (ad 17), .ref (ad 18)])), (ad 10, .inl (cI, 12, .inl (T 0)))] sz)) (va_Qi (fun (r : Int32) (u : Unit) => r = ldT T v) (Bw D vwCl (fun (u : Unit) => [(ad 1, .inr (3, [.ref (ad 10), .int vc, .long po, .long oc, .ref (ad 11), .ref (ad 12), .ref (ad 13), .ref (ad 14), .ref (ad 15), .int sc, .ref (ad 16), .ref (ad 17), .ref (ad 18)])), (ad 10, .inl (cI, 12, .inl (T 0)))]) (va_A [(ad 1, .inr (3, [.ref (ad 10), .int vc, .long po, .long oc, .ref (ad 11), .ref (ad 12), .ref (ad 13), .ref (ad 14), .ref (ad 15), .int sc, .ref (ad 16), .ref (ad 17), .ref (ad 18)])), (ad 10, .inl (cI, 12, .inl (T 0)))] sz)) (va_A [(ad 1, .inr (3, [.ref (ad 10), .int vc, .long po, .long oc, .ref (ad 11), .ref (ad 12), .ref (ad 13), .ref (ad 14), .ref (ad 15), .int sc, .ref (ad 16), .ref (ad 17), .ref (ad 18)])), (ad 10, .inl (cI, 12, .inl (T 0)))] sz)) 0 0 (va_A [(ad 1, .inr (3, [.ref (ad 10), .int vc, .long po, .long oc, .ref (ad 11), .ref (ad 12), .ref (ad 13), .ref (ad 14), .ref (ad 15), .int sc, .ref (ad 16), .ref (ad 17), .ref (ad 18)])), (ad 10, .inl (cI, 12, .inl (T 0)))] sz) := by
  refine Met.ofW (cc := cX3_lendingTo) (maxL := 2) (ret := (some .int)) (by decide) rfl ?_
  intro p e s m args below meth c s₁ B hml hv9
  obtain ⟨rfl, hsz, hP, hK, hD0, hG⟩ := hv9
  have hx := B.exec
  have hb := B.bytes
  have hr := B.returns
  have hts := atoms_spec (ws := wx (.code yX3_lendingTo cX3_lendingTo 2 (some .int))) B.pre
  have hown : s.vm.findClass RX3 = some m.cls := findClass_of_methodNamed B.named
  have hlocks := B.notSynchronized
  subst hsz
  have hD := hD0.self (sz := s.heap.size)
  generalize hAe : va_A [(ad 1, .inr (3, [.ref (ad 10), .int vc, .long po, .long oc, .ref (ad 11), .ref (ad 12), .ref (ad 13), .ref (ad 14), .ref (ad 15), .int sc, .ref (ad 16), .ref (ad 17), .ref (ad 18)])), (ad 10, .inl (cI, 12, .inl (T 0)))] s.heap.size = A at hD hG ⊢
  have hA : ∀ q : Nat, s.heap.size ≤ q → A q := fun q h => by rw [← hAe]; exact Or.inr h
  have hS : va_S A s.heap s.heap [] := va_S.rf
  have hP : va_P D vwCl [(ad 1, .inr (3, [.ref (ad 10), .int vc, .long po, .long oc, .ref (ad 11), .ref (ad 12), .ref (ad 13), .ref (ad 14), .ref (ad 15), .int sc, .ref (ad 16), .ref (ad 17), .ref (ad 18)])), (ad 10, .inl (cI, 12, .inl (T 0)))] s.heap := hP
  have hl := lv_entry ([.ref (ad 1), .int (nI v)]) (n := 2) (Nat.le_of_ble_eq_true rfl)
  rw [lg_entry_eq]
  generalize (lg_sl ([.ref (ad 1), .int (nI v)]) ++ List.replicate (2 - (lg_sl ([.ref (ad 1), .int (nI v)])).length) Slot.unset).toArray = ls at hl ⊢
  have hl : lv_has ls 2 [(0, .ref (ad 1)), (1, .int (nI v))] := hl
  refine lv_aload_n hx hb dX3_lendingTo_0 rfl (lv_at hl 0 rfl) ?_
  refine va_get (D := D) (ci := 3) (v := .ref (ad 10)) (C := RX3) (T := TX3) (N := 13) (ref := "Ironwood$Told") hx hb hts in_RX3 hown hK hP 0 rfl rfl 0 (by decide) (hts _ (mc q_92)) (fun _ h9 => h9) rfl dX3_lendingTo_1 ?_
  refine lv_iload_n hx hb dX3_lendingTo_4 rfl (lv_at hl 1 rfl) ?_
  refine va_iald hx hb hK hP 1 0 rfl rfl (vp_in_nI (n := v) (by omega) (by omega)) dX3_lendingTo_5 ?_
  refine tI (v := T 0 v) (congrArg (T 0) (nI_clamp (n := v) (by omega))) ?_
  refine lv_iconst (v := 2) hx hb dX3_lendingTo_6 (by decide) ?_
  refine lv_icmp_ne (tgt := 14) hx hb dX3_lendingTo_7 (by decide) (fun c_7 => ?_) (fun c_7 => ?_)
  · skip
    refine lv_iconst (v := 4) hx hb dX3_lendingTo_14 (by decide) ?_
    exact ke_i hx hb hr (by first | rfl | decide | exact bz_nar _) () (by first | (simp [ldT, c_7]; done) | (simp [ldT, if_neg c_7]; done) | rfl | (simp [ldT, c_7]; omega)) hP hD hS (Nat.le_of_ble_eq_true rfl) (Nat.le_of_ble_eq_true rfl) hlocks dX3_lendingTo_15
  · skip
    refine lv_iconst (v := 0) hx hb dX3_lendingTo_10 (by decide) ?_
    refine lv_goto (tgt := 15) hx hb dX3_lendingTo_11 (by decide) ?_
    exact ke_i hx hb hr (by first | rfl | decide | exact bz_nar _) () (by first | (simp [ldT, c_7]; done) | (simp [ldT, if_pos c_7]; done) | rfl | (simp [ldT, c_7]; omega)) hP hD hS (Nat.le_of_ble_eq_true rfl) (Nat.le_of_ble_eq_true rfl) hlocks dX3_lendingTo_15

set_option maxHeartbeats 4000000 in
set_option maxRecDepth 100000 in
theorem k_cellsOf (l : Launch) (D : va_G) (cI cJ cZ cR : ClassId) (ad : Nat → Nat) (vc : Int32) (sc : Int32) (po : Int64) (oc : Int64) (T : Nat → Nat → Int32) (v : Nat) (q : Int32) (sz : Nat) (hv : v < 12) : Met l yX3_cellsOf (wx (.code yX3_cellsOf cX3_cellsOf 4 (some .long))) ({ frames := 0, cells := 0, slots := 0, locals := 0 }) (va_Pc [.ref (ad 1), .int (nI v), .int q] (Pw D vwCl [(cI, .int), (cJ, .long), (cZ, .boolean), (cR, .array .int)] [(ad 1, .inr (3, [.ref (ad 10), .int vc, .long po, .long oc, .ref (ad 11), .ref (ad 12), .ref (ad 13), .ref (ad 14), .ref (ad 15), .int sc, .ref (ad 16), .ref (ad 17), .ref (ad 18)])), (ad 10, .inl (cI, 12, .inl (T 0)))] sz)) (va_Ql (fun (r : Int64) (u : Unit) => r = cO T v q) (Bw D vwCl (fun (u : Unit) => [(ad 1, .inr (3, [.ref (ad 10), .int vc, .long po, .long oc, .ref (ad 11), .ref (ad 12), .ref (ad 13), .ref (ad 14), .ref (ad 15), .int sc, .ref (ad 16), .ref (ad 17), .ref (ad 18)])), (ad 10, .inl (cI, 12, .inl (T 0)))]) (va_A [(ad 1, .inr (3, [.ref (ad 10), .int vc, .long po, .long oc, .ref (ad 11), .ref (ad 12), .ref (ad 13), .ref (ad 14), .ref (ad 15), .int sc, .ref (ad 16), .ref (ad 17), .ref (ad 18)])), (ad 10, .inl (cI, 12, .inl (T 0)))] sz)) (va_A [(ad 1, .inr (3, [.ref (ad 10), .int vc, .long po, .long oc, .ref (ad 11), .ref (ad 12), .ref (ad 13), .ref (ad 14), .ref (ad 15), .int sc, .ref (ad 16), .ref (ad 17), .ref (ad 18)])), (ad 10, .inl (cI, 12, .inl (T 0)))] sz)) 0 0 (va_A [(ad 1, .inr (3, [.ref (ad 10), .int vc, .long po, .long oc, .ref (ad 11), .ref (ad 12), .ref (ad 13), .ref (ad 14), .ref (ad 15), .int sc, .ref (ad 16), .ref (ad 17), .ref (ad 18)])), (ad 10, .inl (cI, 12, .inl (T 0)))] sz) := by
  refine Met.ofW (cc := cX3_cellsOf) (maxL := 4) (ret := (some .long)) (by decide) rfl ?_
  intro p e s m args below meth c s₁ B hml hv9
  obtain ⟨rfl, hsz, hP, hK, hD0, hG⟩ := hv9
  have hx := B.exec
  have hb := B.bytes
  have hr := B.returns
  have hts := atoms_spec (ws := wx (.code yX3_cellsOf cX3_cellsOf 4 (some .long))) B.pre
  have hown : s.vm.findClass RX3 = some m.cls := findClass_of_methodNamed B.named
  have hlocks := B.notSynchronized
  subst hsz
  have hD := hD0.self (sz := s.heap.size)
  generalize hAe : va_A [(ad 1, .inr (3, [.ref (ad 10), .int vc, .long po, .long oc, .ref (ad 11), .ref (ad 12), .ref (ad 13), .ref (ad 14), .ref (ad 15), .int sc, .ref (ad 16), .ref (ad 17), .ref (ad 18)])), (ad 10, .inl (cI, 12, .inl (T 0)))] s.heap.size = A at hD hG ⊢
  have hA : ∀ q : Nat, s.heap.size ≤ q → A q := fun q h => by rw [← hAe]; exact Or.inr h
  have hS : va_S A s.heap s.heap [] := va_S.rf
  have hP : va_P D vwCl [(ad 1, .inr (3, [.ref (ad 10), .int vc, .long po, .long oc, .ref (ad 11), .ref (ad 12), .ref (ad 13), .ref (ad 14), .ref (ad 15), .int sc, .ref (ad 16), .ref (ad 17), .ref (ad 18)])), (ad 10, .inl (cI, 12, .inl (T 0)))] s.heap := hP
  have hl := lv_entry ([.ref (ad 1), .int (nI v), .int q]) (n := 4) (Nat.le_of_ble_eq_true rfl)
  rw [lg_entry_eq]
  generalize (lg_sl ([.ref (ad 1), .int (nI v), .int q]) ++ List.replicate (4 - (lg_sl ([.ref (ad 1), .int (nI v), .int q])).length) Slot.unset).toArray = ls at hl ⊢
  have hl : lv_has ls 4 [(0, .ref (ad 1)), (1, .int (nI v)), (2, .int q)] := hl
  refine lv_iconst (v := 3) hx hb dX3_cellsOf_0 (by decide) ?_
  refine lv_iload_n hx hb dX3_cellsOf_1 rfl (lv_at hl 1 rfl) ?_
  refine lv_imul hx hb dX3_cellsOf_2 ?_
  refine tI (v := nI (3 * v)) (pk_mul 3 v) ?_
  refine lv_istore_n (lv' := [(3, .int (nI (3 * v))), (0, .ref (ad 1)), (1, .int (nI v)), (2, .int q)]) hx hb dX3_cellsOf_3 rfl hl (by decide) rfl (fun ls hl => ?_)
  refine lv_aload_n hx hb dX3_cellsOf_4 rfl (lv_at hl 1 rfl) ?_
  refine va_get (D := D) (ci := 3) (v := .ref (ad 10)) (C := RX3) (T := TX3) (N := 13) (ref := "Ironwood$Told") hx hb hts in_RX3 hown hK hP 0 rfl rfl 0 (by decide) (hts _ (mc q_92)) (fun _ h9 => h9) rfl dX3_cellsOf_5 ?_
  refine lv_iload_n hx hb dX3_cellsOf_8 rfl (lv_at hl 2 rfl) ?_
  refine va_iald hx hb hK hP 1 0 rfl rfl (vp_in_nI (n := v) (by omega) (by omega)) dX3_cellsOf_9 ?_
  refine tI (v := T 0 v) (congrArg (T 0) (nI_clamp (n := v) (by omega))) ?_
  refine lv_iconst (v := 1) hx hb dX3_cellsOf_10 (by decide) ?_
  refine lv_icmp_eq (tgt := 18) hx hb dX3_cellsOf_11 (by decide) (fun c_11 => ?_) (fun c_11 => ?_)
  · skip
    refine lv_iload_n hx hb dX3_cellsOf_18 rfl (lv_at hl 3 rfl) ?_
    refine lv_iconst (v := (-1)) hx hb dX3_cellsOf_19 (by decide) ?_
    refine lv_icmp_ne (tgt := 31) hx hb dX3_cellsOf_20 (by decide) (fun c_20 => ?_) (fun c_20 => ?_)
    · skip
      refine lv_lconst (v := 1) hx hb dX3_cellsOf_31 (by decide) ?_
      refine lv_iload_n hx hb dX3_cellsOf_32 rfl (lv_at hl 0 rfl) ?_
      refine lv_iload_n hx hb dX3_cellsOf_33 rfl (lv_at hl 3 rfl) ?_
      refine lv_iadd hx hb dX3_cellsOf_34 ?_
      refine lv_lshl (v := 1 <<< (((nI (3 * v)) + q).toInt64 &&& 63)) hx hb dX3_cellsOf_35 rfl ?_
      exact ke_l hx hb hr () (by first | (simp [cO, c_11, c_20]; done) | (simp [cO, if_pos c_11, if_neg c_20]; done) | rfl | (simp [cO, c_11, c_20]; omega)) hP hD hS (Nat.le_of_ble_eq_true rfl) (Nat.le_of_ble_eq_true rfl) hlocks dX3_cellsOf_36
    · skip
      refine lv_ldc2 (v := 7) hx hb hown (hts _ (mc q_453)) dX3_cellsOf_23 ?_
      refine lv_iload_n hx hb dX3_cellsOf_26 rfl (lv_at hl 0 rfl) ?_
      refine lv_lshl (v := 7 <<< ((nI (3 * v)).toInt64 &&& 63)) hx hb dX3_cellsOf_27 rfl ?_
      refine lv_goto (tgt := 36) hx hb dX3_cellsOf_28 (by decide) ?_
      exact ke_l hx hb hr () (by first | (simp [cO, c_11, c_20]; done) | (simp [cO, if_pos c_11, if_pos c_20]; done) | rfl | (simp [cO, c_11, c_20]; omega)) hP hD hS (Nat.le_of_ble_eq_true rfl) (Nat.le_of_ble_eq_true rfl) hlocks dX3_cellsOf_36
  · skip
    refine lv_lconst (v := 1) hx hb dX3_cellsOf_14 (by decide) ?_
    refine lv_iload_n hx hb dX3_cellsOf_15 rfl (lv_at hl 0 rfl) ?_
    refine lv_lshl (v := 1 <<< ((nI (3 * v)).toInt64 &&& 63)) hx hb dX3_cellsOf_16 rfl ?_
    exact ke_l hx hb hr () (by first | (simp [cO, c_11]; done) | (simp [cO, if_neg c_11]; done) | rfl | (simp [cO, c_11]; omega)) hP hD hS (Nat.le_of_ble_eq_true rfl) (Nat.le_of_ble_eq_true rfl) hlocks dX3_cellsOf_17

set_option maxHeartbeats 4000000 in
set_option maxRecDepth 100000 in
theorem k_isUse (l : Launch) (D : va_G) (cI cJ cZ cR : ClassId) (ad : Nat → Nat) (a : Int32) (q : Int32) (sz : Nat)  : Met l yX3_isUse (wx (.code yX3_isUse cX3_isUse 3 (some .boolean))) ({ frames := 0, cells := 0, slots := 0, locals := 0 }) (va_Pc [.ref (ad 1), .int a, .int q] (Pw D vwCl [(cI, .int), (cJ, .long), (cZ, .boolean), (cR, .array .int)] [] sz)) (va_Qi (fun (r : Int32) (u : Unit) => r = bz (iU a q)) (Bw D vwCl (fun (u : Unit) => []) (va_A [] sz)) (va_A [] sz)) 0 0 (va_A [] sz) := by
  refine Met.ofW (cc := cX3_isUse) (maxL := 3) (ret := (some .boolean)) (by decide) rfl ?_
  intro p e s m args below meth c s₁ B hml hv9
  obtain ⟨rfl, hsz, hP, hK, hD0, hG⟩ := hv9
  have hx := B.exec
  have hb := B.bytes
  have hr := B.returns
  have hts := atoms_spec (ws := wx (.code yX3_isUse cX3_isUse 3 (some .boolean))) B.pre
  have hown : s.vm.findClass RX3 = some m.cls := findClass_of_methodNamed B.named
  have hlocks := B.notSynchronized
  subst hsz
  have hD := hD0.self (sz := s.heap.size)
  generalize hAe : va_A [] s.heap.size = A at hD hG ⊢
  have hA : ∀ q : Nat, s.heap.size ≤ q → A q := fun q h => by rw [← hAe]; exact Or.inr h
  have hS : va_S A s.heap s.heap [] := va_S.rf
  have hP : va_P D vwCl [] s.heap := hP
  have hl := lv_entry ([.ref (ad 1), .int a, .int q]) (n := 3) (Nat.le_of_ble_eq_true rfl)
  rw [lg_entry_eq]
  generalize (lg_sl ([.ref (ad 1), .int a, .int q]) ++ List.replicate (3 - (lg_sl ([.ref (ad 1), .int a, .int q])).length) Slot.unset).toArray = ls at hl ⊢
  have hl : lv_has ls 3 [(0, .ref (ad 1)), (1, .int a), (2, .int q)] := hl
  refine lv_iload_n hx hb dX3_isUse_0 rfl (lv_at hl 1 rfl) ?_
  refine lv_if_eq (tgt := 24) hx hb dX3_isUse_1 (by decide) (fun c_1 => ?_) (fun c_1 => ?_)
  · skip
    refine lv_iconst (v := 1) hx hb dX3_isUse_24 (by decide) ?_
    refine lv_goto (tgt := 29) hx hb dX3_isUse_25 (by decide) ?_
    exact ke_i hx hb hr (by first | rfl | decide | exact bz_nar _) () (by first | (simp [iU, bz, c_1]; done) | (simp [iU, bz, if_pos c_1]; done) | rfl | (simp [iU, bz, c_1]; omega)) hP hD hS (Nat.le_of_ble_eq_true rfl) (Nat.le_of_ble_eq_true rfl) hlocks dX3_isUse_29
  · skip
    refine lv_iload_n hx hb dX3_isUse_4 rfl (lv_at hl 1 rfl) ?_
    refine lv_iconst (v := 2) hx hb dX3_isUse_5 (by decide) ?_
    refine lv_icmp_eq (tgt := 24) hx hb dX3_isUse_6 (by decide) (fun c_6 => ?_) (fun c_6 => ?_)
    · skip
      refine lv_iconst (v := 1) hx hb dX3_isUse_24 (by decide) ?_
      refine lv_goto (tgt := 29) hx hb dX3_isUse_25 (by decide) ?_
      exact ke_i hx hb hr (by first | rfl | decide | exact bz_nar _) () (by first | (simp [iU, bz, c_1, c_6]; done) | (simp [iU, bz, if_neg c_1, if_pos c_6]; done) | rfl | (simp [iU, bz, c_1, c_6]; omega)) hP hD hS (Nat.le_of_ble_eq_true rfl) (Nat.le_of_ble_eq_true rfl) hlocks dX3_isUse_29
    · skip
      refine lv_iload_n hx hb dX3_isUse_9 rfl (lv_at hl 1 rfl) ?_
      refine lv_iconst (v := 4) hx hb dX3_isUse_10 (by decide) ?_
      refine lv_icmp_eq (tgt := 24) hx hb dX3_isUse_11 (by decide) (fun c_11 => ?_) (fun c_11 => ?_)
      · skip
        refine lv_iconst (v := 1) hx hb dX3_isUse_24 (by decide) ?_
        refine lv_goto (tgt := 29) hx hb dX3_isUse_25 (by decide) ?_
        exact ke_i hx hb hr (by first | rfl | decide | exact bz_nar _) () (by first | (simp [iU, bz, c_1, c_6, c_11]; done) | (simp [iU, bz, if_neg c_1, if_neg c_6, if_pos c_11]; done) | rfl | (simp [iU, bz, c_1, c_6, c_11]; omega)) hP hD hS (Nat.le_of_ble_eq_true rfl) (Nat.le_of_ble_eq_true rfl) hlocks dX3_isUse_29
      · skip
        refine lv_iload_n hx hb dX3_isUse_14 rfl (lv_at hl 1 rfl) ?_
        refine lv_iconst (v := 1) hx hb dX3_isUse_15 (by decide) ?_
        refine lv_icmp_ne (tgt := 28) hx hb dX3_isUse_16 (by decide) (fun c_16 => ?_) (fun c_16 => ?_)
        · skip
          refine lv_iconst (v := 0) hx hb dX3_isUse_28 (by decide) ?_
          exact ke_i hx hb hr (by first | rfl | decide | exact bz_nar _) () (by first | (simp [iU, bz, c_1, c_6, c_11, c_16]; done) | (simp [iU, bz, if_neg c_1, if_neg c_6, if_neg c_11, if_neg c_16]; done) | rfl | (simp [iU, bz, c_1, c_6, c_11, c_16]; omega)) hP hD hS (Nat.le_of_ble_eq_true rfl) (Nat.le_of_ble_eq_true rfl) hlocks dX3_isUse_29
        · skip
          refine lv_iload_n hx hb dX3_isUse_19 rfl (lv_at hl 2 rfl) ?_
          refine lv_iconst (v := 3) hx hb dX3_isUse_20 (by decide) ?_
          refine lv_icmp_ne (tgt := 28) hx hb dX3_isUse_21 (by decide) (fun c_21 => ?_) (fun c_21 => ?_)
          · skip
            refine lv_iconst (v := 0) hx hb dX3_isUse_28 (by decide) ?_
            exact ke_i hx hb hr (by first | rfl | decide | exact bz_nar _) () (by first | (simp [iU, bz, c_1, c_6, c_11, c_16, c_21]; done) | (simp [iU, bz, if_neg c_1, if_neg c_6, if_neg c_11, if_pos c_16, if_neg c_21]; done) | rfl | (simp [iU, bz, c_1, c_6, c_11, c_16, c_21]; omega)) hP hD hS (Nat.le_of_ble_eq_true rfl) (Nat.le_of_ble_eq_true rfl) hlocks dX3_isUse_29
          · skip
            refine lv_iconst (v := 1) hx hb dX3_isUse_24 (by decide) ?_
            refine lv_goto (tgt := 29) hx hb dX3_isUse_25 (by decide) ?_
            exact ke_i hx hb hr (by first | rfl | decide | exact bz_nar _) () (by first | (simp [iU, bz, c_1, c_6, c_11, c_16, c_21]; done) | (simp [iU, bz, if_neg c_1, if_neg c_6, if_neg c_11, if_pos c_16, if_pos c_21]; done) | rfl | (simp [iU, bz, c_1, c_6, c_11, c_16, c_21]; omega)) hP hD hS (Nat.le_of_ble_eq_true rfl) (Nat.le_of_ble_eq_true rfl) hlocks dX3_isUse_29
