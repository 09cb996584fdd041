theorem q_24 : .selects RX4 yX4_await yX4_await ∈ BW := mB 24 (by decide +kernel) rfl
theorem q_25 : .selects RX4 yX4_awaitedAt yX4_awaitedAt ∈ BW := mB 25 (by decide +kernel) rfl
theorem q_226 : .fieldLink RX4 24 "Ironwood$Ways" "awaiting" "[I" ∈ BW := mB 226 (by decide +kernel) rfl
theorem q_503 : .methodLink RX4 119 yX4_await ∈ BW := mB 503 (by decide +kernel) rfl
theorem q_505 : .instanceMethod yX4_await ∈ BW := mB 505 (by decide +kernel) rfl
theorem q_506 : .code yX4_await cX4_await 5 (some .boolean) ∈ BW := mB 506 (by decide +kernel) rfl
theorem q_507 : .methodLink RX4 123 yX4_awaitedAt ∈ BW := mB 507 (by decide +kernel) rfl
theorem q_509 : .instanceMethod yX4_awaitedAt ∈ BW := mB 509 (by decide +kernel) rfl
theorem q_510 : .code yX4_awaitedAt cX4_awaitedAt 2 (some .int) ∈ BW := mB 510 (by decide +kernel) rfl
set_option maxHeartbeats 4000000 in
set_option maxRecDepth 100000 in
theorem k_awaitedAt (l : Launch) (D : va_G) (cI cJ cZ cR : ClassId) (n : Nat) (aw : Nat → Int32) (ya : Nat → Int32) (cd : Nat → Nat) (rr : Int64) (tt : Int32) (sz : Nat) (hn : n ≤ 40) (htt : okS n tt) : Met l yX4_awaitedAt (wx (.code yX4_awaitedAt cX4_awaitedAt 2 (some .int))) ({ frames := 0, cells := 0, slots := 0, locals := 0 }) (va_Pc [.ref (cd 2), .int tt] (Pw D vwCl [(cI, .int), (cJ, .long), (cZ, .boolean), (cR, .array .int)] [(cd 2, .inr (4, [.long rr, .ref (cd 20), .ref (cd 21), .ref (cd 22), .ref (cd 23), .ref (cd 24), .ref (cd 25), .ref (cd 26), .ref (cd 27)])), (cd 24, .inl (cI, 40, .inl (fil n aw ya)))] sz)) (va_Qi (fun (r : Int32) (u : Unit) => r = awA n aw tt) (Bw D vwCl (fun (u : Unit) => [(cd 2, .inr (4, [.long rr, .ref (cd 20), .ref (cd 21), .ref (cd 22), .ref (cd 23), .ref (cd 24), .ref (cd 25), .ref (cd 26), .ref (cd 27)])), (cd 24, .inl (cI, 40, .inl (fil n aw ya)))]) (va_A [(cd 2, .inr (4, [.long rr, .ref (cd 20), .ref (cd 21), .ref (cd 22), .ref (cd 23), .ref (cd 24), .ref (cd 25), .ref (cd 26), .ref (cd 27)])), (cd 24, .inl (cI, 40, .inl (fil n aw ya)))] sz)) (va_A [(cd 2, .inr (4, [.long rr, .ref (cd 20), .ref (cd 21), .ref (cd 22), .ref (cd 23), .ref (cd 24), .ref (cd 25), .ref (cd 26), .ref (cd 27)])), (cd 24, .inl (cI, 40, .inl (fil n aw ya)))] sz)) 0 0 (va_A [(cd 2, .inr (4, [.long rr, .ref (cd 20), .ref (cd 21), .ref (cd 22), .ref (cd 23), .ref (cd 24), .ref (cd 25), .ref (cd 26), .ref (cd 27)])), (cd 24, .inl (cI, 40, .inl (fil n aw ya)))] sz) := by
  refine Met.ofW (cc := cX4_awaitedAt) (maxL := 2) (ret := (some .int)) (by decide) rfl ?_
  intro p e s m args below meth c s₁ B hml hv9
  obtain ⟨rfl, hsz, hP, hK, hD0, hG⟩ := hv9
  have hx := B.exec
  have hb := B.bytes
  have hr := B.returns
  have hts := atoms_spec (ws := wx (.code yX4_awaitedAt cX4_awaitedAt 2 (some .int))) B.pre
  have hown : s.vm.findClass RX4 = some m.cls := findClass_of_methodNamed B.named
  have hlocks := B.notSynchronized
  subst hsz
  have hD := hD0.self (sz := s.heap.size)
  generalize hAe : va_A [(cd 2, .inr (4, [.long rr, .ref (cd 20), .ref (cd 21), .ref (cd 22), .ref (cd 23), .ref (cd 24), .ref (cd 25), .ref (cd 26), .ref (cd 27)])), (cd 24, .inl (cI, 40, .inl (fil n aw ya)))] s.heap.size = A at hD hG ⊢
  have hA : ∀ q : Nat, s.heap.size ≤ q → A q := fun q h => by rw [← hAe]; exact Or.inr h
  have hS : va_S A s.heap s.heap [] := va_S.rf
  have hP : va_P D vwCl [(cd 2, .inr (4, [.long rr, .ref (cd 20), .ref (cd 21), .ref (cd 22), .ref (cd 23), .ref (cd 24), .ref (cd 25), .ref (cd 26), .ref (cd 27)])), (cd 24, .inl (cI, 40, .inl (fil n aw ya)))] s.heap := hP
  have hl := lv_entry ([.ref (cd 2), .int tt]) (n := 2) (Nat.le_of_ble_eq_true rfl)
  rw [lg_entry_eq]
  generalize (lg_sl ([.ref (cd 2), .int tt]) ++ List.replicate (2 - (lg_sl ([.ref (cd 2), .int tt])).length) Slot.unset).toArray = ls at hl ⊢
  have hl : lv_has ls 2 [(0, .ref (cd 2)), (1, .int tt)] := hl
  refine lv_iload_n hx hb dX4_awaitedAt_0 rfl (lv_at hl 1 rfl) ?_
  refine lv_iconst (v := (-1)) hx hb dX4_awaitedAt_1 (by decide) ?_
  refine lv_icmp_ne (tgt := 9) hx hb dX4_awaitedAt_2 (by decide) (fun c_2 => ?_) (fun c_2 => ?_)
  · skip
    have htt2 := htt.resolve_left c_2
    have htt3 := htt2.2
    rw [htt2.1] at hl
    have hP : va_P D vwCl [(cd 2, .inr (4, [.long rr, .ref (cd 20), .ref (cd 21), .ref (cd 22), .ref (cd 23), .ref (cd 24), .ref (cd 25), .ref (cd 26), .ref (cd 27)])), (cd 24, .inl (cI, 40, .inl (fil n aw ya)))] _ := hP
    have hD : va_D A [(cd 2, .inr (4, [.long rr, .ref (cd 20), .ref (cd 21), .ref (cd 22), .ref (cd 23), .ref (cd 24), .ref (cd 25), .ref (cd 26), .ref (cd 27)])), (cd 24, .inl (cI, 40, .inl (fil n aw ya)))] := hD
    have hl : lv_has ls 2 [(0, .ref (cd 2)), (1, .int (nI (nn tt)))] := hl
    refine lv_aload_n hx hb dX4_awaitedAt_9 rfl (lv_at hl 0 rfl) ?_
    refine va_get (D := D) (ci := 4) (v := .ref (cd 24)) (C := RX4) (T := TX4) (N := 9) (ref := "Ironwood$Ways") hx hb hts in_RX4 hown hK hP 0 rfl rfl 5 (by decide) (hts _ (mc q_226)) (fun _ h9 => h9) rfl dX4_awaitedAt_10 ?_
    refine lv_iload_n hx hb dX4_awaitedAt_13 rfl (lv_at hl 1 rfl) ?_
    refine va_iald hx hb hK hP 1 0 rfl rfl (vp_in_nI (n := nn tt) (by omega) (by omega)) dX4_awaitedAt_14 ?_
    refine tI (v := aw (nn tt)) ((congrArg (fil n aw ya) (nI_clamp (n := nn tt) (by omega))).trans (fil_lt (by omega))) ?_
    exact ke_i hx hb hr (by first | rfl | decide | exact bz_nar _) () (by first | (simp [awA, c_2]; done) | (simp [awA, if_neg c_2]; done) | rfl | (simp [awA, c_2]; omega)) hP hD hS (Nat.le_of_ble_eq_true rfl) (Nat.le_of_ble_eq_true rfl) hlocks dX4_awaitedAt_15
  · skip
    refine lv_iconst (v := 0) hx hb dX4_awaitedAt_5 (by decide) ?_
    refine lv_goto (tgt := 15) hx hb dX4_awaitedAt_6 (by decide) ?_
    exact ke_i hx hb hr (by first | rfl | decide | exact bz_nar _) () (by first | (simp [awA, c_2]; done) | (simp [awA, if_pos c_2]; done) | rfl | (simp [awA, c_2]; omega)) hP hD hS (Nat.le_of_ble_eq_true rfl) (Nat.le_of_ble_eq_true rfl) hlocks dX4_awaitedAt_15

set_option maxHeartbeats 4000000 in
set_option maxRecDepth 100000 in
theorem k_await (l : Launch) (D : va_G) (cI cJ cZ cR : ClassId) (n : Nat) (aw : Nat → Int32) (ya : Nat → Int32) (Si : Nat → Nat → Int32) (ze0 : Nat → Int32) (ze1 : Nat → Int32) (ze2 : Nat → Int32) (ze3 : Nat → Int32) (cd : Nat → Nat) (sk : Int32) (cp : Int32) (rr : Int64) (j : Nat) (sz : Nat) (hn : n ≤ 40) (hj : j < n) (hSi : ∀ i, i < n → okS n (Si 0 i) ∧ okS n (Si 1 i)) : Met l yX4_await (wx (.code yX4_await cX4_await 5 (some .boolean))) ({ frames := 1, cells := 0, slots := 0, locals := 21 }) (va_Pc [.ref (cd 2), .ref (cd 1), .int (nI j)] (Pw D vwCl [(cI, .int), (cJ, .long), (cZ, .boolean), (cR, .array .int)] [(cd 1, .inr (2, [.ref (cd 10), .ref (cd 11), .ref (cd 12), .ref (cd 13), .ref (cd 14), .ref (cd 15), .ref (cd 16), .ref (cd 17), .int (nI n), .int sk, .int cp])), (cd 10, .inl (cI, 40, .inl (fil n (Si 0) ze0))), (cd 11, .inl (cI, 40, .inl (fil n (Si 1) ze1))), (cd 12, .inl (cI, 40, .inl (fil n (Si 2) ze2))), (cd 13, .inl (cI, 40, .inl (fil n (Si 3) ze3))), (cd 2, .inr (4, [.long rr, .ref (cd 20), .ref (cd 21), .ref (cd 22), .ref (cd 23), .ref (cd 24), .ref (cd 25), .ref (cd 26), .ref (cd 27)])), (cd 24, .inl (cI, 40, .inl (fil n aw ya)))] sz)) (va_Qi (fun (r : Int32) (u : Unit) => r = bz (decide (¬ awN n Si j aw = aw j))) (Bw D vwCl (fun (u : Unit) => [(cd 1, .inr (2, [.ref (cd 10), .ref (cd 11), .ref (cd 12), .ref (cd 13), .ref (cd 14), .ref (cd 15), .ref (cd 16), .ref (cd 17), .int (nI n), .int sk, .int cp])), (cd 10, .inl (cI, 40, .inl (fil n (Si 0) ze0))), (cd 11, .inl (cI, 40, .inl (fil n (Si 1) ze1))), (cd 12, .inl (cI, 40, .inl (fil n (Si 2) ze2))), (cd 13, .inl (cI, 40, .inl (fil n (Si 3) ze3))), (cd 2, .inr (4, [.long rr, .ref (cd 20), .ref (cd 21), .ref (cd 22), .ref (cd 23), .ref (cd 24), .ref (cd 25), .ref (cd 26), .ref (cd 27)])), (cd 24, .inl (cI, 40, .inl (fil n (upd aw j (awN n Si j aw)) ya)))]) (va_A [(cd 1, .inr (2, [.ref (cd 10), .ref (cd 11), .ref (cd 12), .ref (cd 13), .ref (cd 14), .ref (cd 15), .ref (cd 16), .ref (cd 17), .int (nI n), .int sk, .int cp])), (cd 10, .inl (cI, 40, .inl (fil n (Si 0) ze0))), (cd 11, .inl (cI, 40, .inl (fil n (Si 1) ze1))), (cd 12, .inl (cI, 40, .inl (fil n (Si 2) ze2))), (cd 13, .inl (cI, 40, .inl (fil n (Si 3) ze3))), (cd 2, .inr (4, [.long rr, .ref (cd 20), .ref (cd 21), .ref (cd 22), .ref (cd 23), .ref (cd 24), .ref (cd 25), .ref (cd 26), .ref (cd 27)])), (cd 24, .inl (cI, 40, .inl (fil n aw ya)))] sz)) (va_A [(cd 1, .inr (2, [.ref (cd 10), .ref (cd 11), .ref (cd 12), .ref (cd 13), .ref (cd 14), .ref (cd 15), .ref (cd 16), .ref (cd 17), .int (nI n), .int sk, .int cp])), (cd 10, .inl (cI, 40, .inl (fil n (Si 0) ze0))), (cd 11, .inl (cI, 40, .inl (fil n (Si 1) ze1))), (cd 12, .inl (cI, 40, .inl (fil n (Si 2) ze2))), (cd 13, .inl (cI, 40, .inl (fil n (Si 3) ze3))), (cd 2, .inr (4, [.long rr, .ref (cd 20), .ref (cd 21), .ref (cd 22), .ref (cd 23), .ref (cd 24), .ref (cd 25), .ref (cd 26), .ref (cd 27)])), (cd 24, .inl (cI, 40, .inl (fil n aw ya)))] sz)) 0 0 (va_A [(cd 1, .inr (2, [.ref (cd 10), .ref (cd 11), .ref (cd 12), .ref (cd 13), .ref (cd 14), .ref (cd 15), .ref (cd 16), .ref (cd 17), .int (nI n), .int sk, .int cp])), (cd 10, .inl (cI, 40, .inl (fil n (Si 0) ze0))), (cd 11, .inl (cI, 40, .inl (fil n (Si 1) ze1))), (cd 12, .inl (cI, 40, .inl (fil n (Si 2) ze2))), (cd 13, .inl (cI, 40, .inl (fil n (Si 3) ze3))), (cd 2, .inr (4, [.long rr, .ref (cd 20), .ref (cd 21), .ref (cd 22), .ref (cd 23), .ref (cd 24), .ref (cd 25), .ref (cd 26), .ref (cd 27)])), (cd 24, .inl (cI, 40, .inl (fil n aw ya)))] sz) := by
  refine Met.ofW (cc := cX4_await) (maxL := 5) (ret := (some .boolean)) (by decide) rfl ?_
  intro p e s m args below meth c s₁ B hml hv9
  obtain ⟨rfl, hsz, hP, hK, hD0, hG⟩ := hv9
  have hx := B.exec
  have hb := B.bytes
  have hr := B.returns
  have hts := atoms_spec (ws := wx (.code yX4_await cX4_await 5 (some .boolean))) B.pre
  have hown : s.vm.findClass RX4 = some m.cls := findClass_of_methodNamed B.named
  have hlocks := B.notSynchronized
  subst hsz
  have hD := hD0.self (sz := s.heap.size)
  generalize hAe : va_A [(cd 1, .inr (2, [.ref (cd 10), .ref (cd 11), .ref (cd 12), .ref (cd 13), .ref (cd 14), .ref (cd 15), .ref (cd 16), .ref (cd 17), .int (nI n), .int sk, .int cp])), (cd 10, .inl (cI, 40, .inl (fil n (Si 0) ze0))), (cd 11, .inl (cI, 40, .inl (fil n (Si 1) ze1))), (cd 12, .inl (cI, 40, .inl (fil n (Si 2) ze2))), (cd 13, .inl (cI, 40, .inl (fil n (Si 3) ze3))), (cd 2, .inr (4, [.long rr, .ref (cd 20), .ref (cd 21), .ref (cd 22), .ref (cd 23), .ref (cd 24), .ref (cd 25), .ref (cd 26), .ref (cd 27)])), (cd 24, .inl (cI, 40, .inl (fil n aw ya)))] s.heap.size = A at hD hG ⊢
  have hA : ∀ q : Nat, s.heap.size ≤ q → A q := fun q h => by rw [← hAe]; exact Or.inr h
  have hS : va_S A s.heap s.heap [] := va_S.rf
  have hP : va_P D vwCl [(cd 1, .inr (2, [.ref (cd 10), .ref (cd 11), .ref (cd 12), .ref (cd 13), .ref (cd 14), .ref (cd 15), .ref (cd 16), .ref (cd 17), .int (nI n), .int sk, .int cp])), (cd 10, .inl (cI, 40, .inl (fil n (Si 0) ze0))), (cd 11, .inl (cI, 40, .inl (fil n (Si 1) ze1))), (cd 12, .inl (cI, 40, .inl (fil n (Si 2) ze2))), (cd 13, .inl (cI, 40, .inl (fil n (Si 3) ze3))), (cd 2, .inr (4, [.long rr, .ref (cd 20), .ref (cd 21), .ref (cd 22), .ref (cd 23), .ref (cd 24), .ref (cd 25), .ref (cd 26), .ref (cd 27)])), (cd 24, .inl (cI, 40, .inl (fil n aw ya)))] s.heap := hP
  have hl := lv_entry ([.ref (cd 2), .ref (cd 1), .int (nI j)]) (n := 5) (Nat.le_of_ble_eq_true rfl)
  rw [lg_entry_eq]
  generalize (lg_sl ([.ref (cd 2), .ref (cd 1), .int (nI j)]) ++ List.replicate (5 - (lg_sl ([.ref (cd 2), .ref (cd 1), .int (nI j)])).length) Slot.unset).toArray = ls at hl ⊢
  have hl : lv_has ls 5 [(0, .ref (cd 2)), (1, .ref (cd 1)), (2, .int (nI j))] := hl
  refine lv_aload_n hx hb dX4_await_0 rfl (lv_at hl 0 rfl) ?_
  refine lv_aload_n hx hb dX4_await_1 rfl (lv_at hl 1 rfl) ?_
  refine va_getN (D := D) (ci := 2) (v := .ref (cd 10)) (C := RX2) (T := TX2) (N := 11) (ref := "Ironwood$Steps") (host := "Ironwood") hx hb hts in_RX2 hown hK hP 0 rfl rfl 0 (by decide) (hG.1.get 24 rfl) (fun _ h9 => h9) rfl dX4_await_2 ?_
  refine lv_iload_n hx hb dX4_await_5 rfl (lv_at hl 2 rfl) ?_
  refine va_iald hx hb hK hP 1 0 rfl rfl (vp_in_nI (n := j) (by omega) (by omega)) dX4_await_6 ?_
  refine tI (v := Si 0 j) ((congrArg (fil n (Si 0) ze0) (nI_clamp (n := j) (by omega))).trans (fil_lt (by omega))) ?_
  refine kc_i (wr := [(cd 1, .inr (2, [.ref (cd 10), .ref (cd 11), .ref (cd 12), .ref (cd 13), .ref (cd 14), .ref (cd 15), .ref (cd 16), .ref (cd 17), .int (nI n), .int sk, .int cp])), (cd 10, .inl (cI, 40, .inl (fil n (Si 0) ze0))), (cd 11, .inl (cI, 40, .inl (fil n (Si 1) ze1))), (cd 12, .inl (cI, 40, .inl (fil n (Si 2) ze2))), (cd 13, .inl (cI, 40, .inl (fil n (Si 3) ze3)))]) (va_runV (As := [.int (Si 0 j)]) (rest := []) ⟨hx, hb, hml, hown, hts⟩ (k_awaitedAt l D cI cJ cZ cR n aw ya cd rr (Si 0 j) _ hn ((hSi j hj).1)) (cwV 1 hts (gV q_510 q_507 q_509 q_25 q_68) rfl rfl rfl (by decide +kernel) ⟨Nat.le_of_ble_eq_true rfl, Nat.le_of_ble_eq_true rfl⟩) ⟨Pw.blind, va_recv hK hP (ci := 4) (q0 := 5) rfl rfl, Pw.mk_call hP hK hD hS hA hG [5, 6] rfl (by decide)⟩ rfl rfl hl.1 rfl (lv_room (Nat.le_of_ble_eq_true rfl)) dX4_await_7 ⟨Nat.le_of_ble_eq_true rfl, Nat.le_of_ble_eq_true rfl⟩) hP hD hS hA [5, 6] [0, 1, 2, 3, 4] rfl rfl (by decide) (by decide) (fun r_1 u_2 H locs hw hP hD hS => ?_)
  obtain rfl : r_1 = awA n aw (Si 0 j) := hw
  have hP : va_P D vwCl [(cd 1, .inr (2, [.ref (cd 10), .ref (cd 11), .ref (cd 12), .ref (cd 13), .ref (cd 14), .ref (cd 15), .ref (cd 16), .ref (cd 17), .int (nI n), .int sk, .int cp])), (cd 10, .inl (cI, 40, .inl (fil n (Si 0) ze0))), (cd 11, .inl (cI, 40, .inl (fil n (Si 1) ze1))), (cd 12, .inl (cI, 40, .inl (fil n (Si 2) ze2))), (cd 13, .inl (cI, 40, .inl (fil n (Si 3) ze3))), (cd 2, .inr (4, [.long rr, .ref (cd 20), .ref (cd 21), .ref (cd 22), .ref (cd 23), .ref (cd 24), .ref (cd 25), .ref (cd 26), .ref (cd 27)])), (cd 24, .inl (cI, 40, .inl (fil n aw ya)))] _ := hP
  have hD : va_D A [(cd 1, .inr (2, [.ref (cd 10), .ref (cd 11), .ref (cd 12), .ref (cd 13), .ref (cd 14), .ref (cd 15), .ref (cd 16), .ref (cd 17), .int (nI n), .int sk, .int cp])), (cd 10, .inl (cI, 40, .inl (fil n (Si 0) ze0))), (cd 11, .inl (cI, 40, .inl (fil n (Si 1) ze1))), (cd 12, .inl (cI, 40, .inl (fil n (Si 2) ze2))), (cd 13, .inl (cI, 40, .inl (fil n (Si 3) ze3))), (cd 2, .inr (4, [.long rr, .ref (cd 20), .ref (cd 21), .ref (cd 22), .ref (cd 23), .ref (cd 24), .ref (cd 25), .ref (cd 26), .ref (cd 27)])), (cd 24, .inl (cI, 40, .inl (fil n aw ya)))] := hD
  refine lv_aload_n hx hb dX4_await_10 rfl (lv_at hl 0 rfl) ?_
  refine lv_aload_n hx hb dX4_await_11 rfl (lv_at hl 1 rfl) ?_
  refine va_getN (D := D) (ci := 2) (v := .ref (cd 11)) (C := RX2) (T := TX2) (N := 11) (ref := "Ironwood$Steps") (host := "Ironwood") hx hb hts in_RX2 hown hK hP 0 rfl rfl 1 (by decide) (hG.1.get 25 rfl) (fun _ h9 => h9) rfl dX4_await_12 ?_
  refine lv_iload_n hx hb dX4_await_15 rfl (lv_at hl 2 rfl) ?_
  refine va_iald hx hb hK hP 2 0 rfl rfl (vp_in_nI (n := j) (by omega) (by omega)) dX4_await_16 ?_
  refine tI (v := Si 1 j) ((congrArg (fil n (Si 1) ze1) (nI_clamp (n := j) (by omega))).trans (fil_lt (by omega))) ?_
  refine kc_i (wr := [(cd 1, .inr (2, [.ref (cd 10), .ref (cd 11), .ref (cd 12), .ref (cd 13), .ref (cd 14), .ref (cd 15), .ref (cd 16), .ref (cd 17), .int (nI n), .int sk, .int cp])), (cd 10, .inl (cI, 40, .inl (fil n (Si 0) ze0))), (cd 11, .inl (cI, 40, .inl (fil n (Si 1) ze1))), (cd 12, .inl (cI, 40, .inl (fil n (Si 2) ze2))), (cd 13, .inl (cI, 40, .inl (fil n (Si 3) ze3)))]) (va_runV (As := [.int (Si 1 j)]) (rest := [.int (awA n aw (Si 0 j))]) ⟨hx, hb, hml, hown, hts⟩ (k_awaitedAt l D cI cJ cZ cR n aw ya cd rr (Si 1 j) _ hn ((hSi j hj).2)) (cwV 1 hts (gV q_510 q_507 q_509 q_25 q_68) rfl rfl rfl (by decide +kernel) ⟨Nat.le_of_ble_eq_true rfl, Nat.le_of_ble_eq_true rfl⟩) ⟨Pw.blind, va_recv hK hP (ci := 4) (q0 := 5) rfl rfl, Pw.mk_call hP hK hD hS hA hG [5, 6] rfl (by decide)⟩ rfl rfl hl.1 rfl (lv_room (Nat.le_of_ble_eq_true rfl)) dX4_await_17 ⟨Nat.le_of_ble_eq_true rfl, Nat.le_of_ble_eq_true rfl⟩) hP hD hS hA [5, 6] [0, 1, 2, 3, 4] rfl rfl (by decide) (by decide) (fun r_3 u_4 H locs hw hP hD hS => ?_)
  obtain rfl : r_3 = awA n aw (Si 1 j) := hw
  have hP : va_P D vwCl [(cd 1, .inr (2, [.ref (cd 10), .ref (cd 11), .ref (cd 12), .ref (cd 13), .ref (cd 14), .ref (cd 15), .ref (cd 16), .ref (cd 17), .int (nI n), .int sk, .int cp])), (cd 10, .inl (cI, 40, .inl (fil n (Si 0) ze0))), (cd 11, .inl (cI, 40, .inl (fil n (Si 1) ze1))), (cd 12, .inl (cI, 40, .inl (fil n (Si 2) ze2))), (cd 13, .inl (cI, 40, .inl (fil n (Si 3) ze3))), (cd 2, .inr (4, [.long rr, .ref (cd 20), .ref (cd 21), .ref (cd 22), .ref (cd 23), .ref (cd 24), .ref (cd 25), .ref (cd 26), .ref (cd 27)])), (cd 24, .inl (cI, 40, .inl (fil n aw ya)))] _ := hP
  have hD : va_D A [(cd 1, .inr (2, [.ref (cd 10), .ref (cd 11), .ref (cd 12), .ref (cd 13), .ref (cd 14), .ref (cd 15), .ref (cd 16), .ref (cd 17), .int (nI n), .int sk, .int cp])), (cd 10, .inl (cI, 40, .inl (fil n (Si 0) ze0))), (cd 11, .inl (cI, 40, .inl (fil n (Si 1) ze1))), (cd 12, .inl (cI, 40, .inl (fil n (Si 2) ze2))), (cd 13, .inl (cI, 40, .inl (fil n (Si 3) ze3))), (cd 2, .inr (4, [.long rr, .ref (cd 20), .ref (cd 21), .ref (cd 22), .ref (cd 23), .ref (cd 24), .ref (cd 25), .ref (cd 26), .ref (cd 27)])), (cd 24, .inl (cI, 40, .inl (fil n aw ya)))] := hD
  refine lv_ior hx hb dX4_await_20 ?_
  refine lv_istore_n (lv' := [(3, .int ((awA n aw (Si 0 j)) ||| (awA n aw (Si 1 j)))), (0, .ref (cd 2)), (1, .ref (cd 1)), (2, .int (nI j))]) hx hb dX4_await_21 rfl hl (by decide) rfl (fun ls hl => ?_)
  refine lv_aload_n hx hb dX4_await_22 rfl (lv_at hl 1 rfl) ?_
  refine va_get (D := D) (ci := 4) (v := .ref (cd 24)) (C := RX4) (T := TX4) (N := 9) (ref := "Ironwood$Ways") hx hb hts in_RX4 hown hK hP 5 rfl rfl 5 (by decide) (hts _ (mc q_226)) (fun _ h9 => h9) rfl dX4_await_23 ?_
  refine lv_iload_n hx hb dX4_await_26 rfl (lv_at hl 3 rfl) ?_
  refine va_iald hx hb hK hP 6 0 rfl rfl (vp_in_nI (n := j) (by omega) (by omega)) dX4_await_27 ?_
  refine tI (v := aw j) ((congrArg (fil n aw ya) (nI_clamp (n := j) (by omega))).trans (fil_lt (by omega))) ?_
  refine lv_istore (lv' := [(4, .int (aw j)), (3, .int ((awA n aw (Si 0 j)) ||| (awA n aw (Si 1 j)))), (0, .ref (cd 2)), (1, .ref (cd 1)), (2, .int (nI j))]) hx hb dX4_await_28 hl (by decide) rfl (fun ls hl => ?_)
  refine lv_aload_n hx hb dX4_await_30 rfl (lv_at hl 2 rfl) ?_
  refine va_get (D := D) (ci := 4) (v := .ref (cd 24)) (C := RX4) (T := TX4) (N := 9) (ref := "Ironwood$Ways") hx hb hts in_RX4 hown hK hP 5 rfl rfl 5 (by decide) (hts _ (mc q_226)) (fun _ h9 => h9) rfl dX4_await_31 ?_
  refine lv_iload_n hx hb dX4_await_34 rfl (lv_at hl 4 rfl) ?_
  refine lv_aload_n hx hb dX4_await_35 rfl (lv_at hl 3 rfl) ?_
  refine va_getN (D := D) (ci := 2) (v := .ref (cd 12)) (C := RX2) (T := TX2) (N := 11) (ref := "Ironwood$Steps") (host := "Ironwood") hx hb hts in_RX2 hown hK hP 0 rfl rfl 2 (by decide) (hG.1.get 26 rfl) (fun _ h9 => h9) rfl dX4_await_36 ?_
  refine lv_iload_n hx hb dX4_await_39 rfl (lv_at hl 4 rfl) ?_
  refine va_iald hx hb hK hP 3 0 rfl rfl (vp_in_nI (n := j) (by omega) (by omega)) dX4_await_40 ?_
  refine tI (v := Si 2 j) ((congrArg (fil n (Si 2) ze2) (nI_clamp (n := j) (by omega))).trans (fil_lt (by omega))) ?_
  refine lv_iload_n hx hb dX4_await_41 rfl (lv_at hl 1 rfl) ?_
  refine lv_aload_n hx hb dX4_await_42 rfl (lv_at hl 3 rfl) ?_
  refine va_getN (D := D) (ci := 2) (v := .ref (cd 13)) (C := RX2) (T := TX2) (N := 11) (ref := "Ironwood$Steps") (host := "Ironwood") hx hb hts in_RX2 hown hK hP 0 rfl rfl 3 (by decide) (hG.1.get 27 rfl) (fun _ h9 => h9) rfl dX4_await_43 ?_
  refine lv_iload_n hx hb dX4_await_46 rfl (lv_at hl 4 rfl) ?_
  refine va_iald hx hb hK hP 4 0 rfl rfl (vp_in_nI (n := j) (by omega) (by omega)) dX4_await_47 ?_
  refine tI (v := Si 3 j) ((congrArg (fil n (Si 3) ze3) (nI_clamp (n := j) (by omega))).trans (fil_lt (by omega))) ?_
  refine lv_iconst (v := (-1)) hx hb dX4_await_48 (by decide) ?_
  refine lv_ixor hx hb dX4_await_49 ?_
  refine lv_iand hx hb dX4_await_50 ?_
  refine lv_ior hx hb dX4_await_51 ?_
  refine tI (v := awN n Si j aw) rfl ?_
  refine va_iast hx hb hK hP hD hS 6 0 rfl rfl (vp_in_nI (n := j) (by omega) (by omega)) dX4_await_52 (fun H locs hP hD hS => ?_)
  rw [nI_clamp (n := j) (by omega)] at hP hD
  rw [fil_upd (n := n) (j := j) (by omega)] at hP hD
  have hP : va_P D vwCl [(cd 1, .inr (2, [.ref (cd 10), .ref (cd 11), .ref (cd 12), .ref (cd 13), .ref (cd 14), .ref (cd 15), .ref (cd 16), .ref (cd 17), .int (nI n), .int sk, .int cp])), (cd 10, .inl (cI, 40, .inl (fil n (Si 0) ze0))), (cd 11, .inl (cI, 40, .inl (fil n (Si 1) ze1))), (cd 12, .inl (cI, 40, .inl (fil n (Si 2) ze2))), (cd 13, .inl (cI, 40, .inl (fil n (Si 3) ze3))), (cd 2, .inr (4, [.long rr, .ref (cd 20), .ref (cd 21), .ref (cd 22), .ref (cd 23), .ref (cd 24), .ref (cd 25), .ref (cd 26), .ref (cd 27)])), (cd 24, .inl (cI, 40, .inl (fil n (upd aw j (awN n Si j aw)) ya)))] _ := hP
  have hD : va_D A [(cd 1, .inr (2, [.ref (cd 10), .ref (cd 11), .ref (cd 12), .ref (cd 13), .ref (cd 14), .ref (cd 15), .ref (cd 16), .ref (cd 17), .int (nI n), .int sk, .int cp])), (cd 10, .inl (cI, 40, .inl (fil n (Si 0) ze0))), (cd 11, .inl (cI, 40, .inl (fil n (Si 1) ze1))), (cd 12, .inl (cI, 40, .inl (fil n (Si 2) ze2))), (cd 13, .inl (cI, 40, .inl (fil n (Si 3) ze3))), (cd 2, .inr (4, [.long rr, .ref (cd 20), .ref (cd 21), .ref (cd 22), .ref (cd 23), .ref (cd 24), .ref (cd 25), .ref (cd 26), .ref (cd 27)])), (cd 24, .inl (cI, 40, .inl (fil n (upd aw j (awN n Si j aw)) ya)))] := hD
  refine lv_aload_n hx hb dX4_await_53 rfl (lv_at hl 2 rfl) ?_
  refine va_get (D := D) (ci := 4) (v := .ref (cd 24)) (C := RX4) (T := TX4) (N := 9) (ref := "Ironwood$Ways") hx hb hts in_RX4 hown hK hP 5 rfl rfl 5 (by decide) (hts _ (mc q_226)) (fun _ h9 => h9) rfl dX4_await_54 ?_
  refine lv_iload_n hx hb dX4_await_57 rfl (lv_at hl 4 rfl) ?_
  refine va_iald hx hb hK hP 6 0 rfl rfl (vp_in_nI (n := j) (by omega) (by omega)) dX4_await_58 ?_
  refine tI (v := awN n Si j aw) (((congrArg (fil n (upd aw j (awN n Si j aw)) ya) (nI_clamp (n := j) (by omega))).trans (fil_lt (by omega))).trans (upd_same _ _ _)) ?_
  refine lv_iload hx hb dX4_await_59 (lv_at hl 0 rfl) ?_
  refine lv_icmp_eq (tgt := 68) hx hb dX4_await_61 (by decide) (fun c_61 => ?_) (fun c_61 => ?_)
  · skip
    refine lv_iconst (v := 0) hx hb dX4_await_68 (by decide) ?_
    exact ke_i hx hb hr (by first | rfl | decide | exact bz_nar _) () (by first | (simp [bz, c_61]; done) | (simp [bz, if_pos c_61]; done) | rfl | (simp [bz, c_61]; omega)) hP hD hS (Nat.le_of_ble_eq_true rfl) (Nat.le_of_ble_eq_true rfl) hlocks dX4_await_69
  · skip
    refine lv_iconst (v := 1) hx hb dX4_await_64 (by decide) ?_
    refine lv_goto (tgt := 69) hx hb dX4_await_65 (by decide) ?_
    exact ke_i hx hb hr (by first | rfl | decide | exact bz_nar _) () (by first | (simp [bz, c_61]; done) | (simp [bz, if_neg c_61]; done) | rfl | (simp [bz, c_61]; omega)) hP hD hS (Nat.le_of_ble_eq_true rfl) (Nat.le_of_ble_eq_true rfl) hlocks dX4_await_69

set_option maxHeartbeats 4000000 in
set_option maxRecDepth 100000 in
theorem k_findAwaited (l : Launch) (D : va_G) (cI cJ cZ cR : ClassId) (n : Nat) (aw : Nat → Int32) (ya : Nat → Int32) (Si : Nat → Nat → Int32) (ze0 : Nat → Int32) (ze1 : Nat → Int32) (ze2 : Nat → Int32) (ze3 : Nat → Int32) (cd : Nat → Nat) (sk : Int32) (cp : Int32) (rr : Int64) (sz : Nat) (hn : n ≤ 40) (hn1 : 1 ≤ n) (hSi : ∀ i, i < n → okS n (Si 0 i) ∧ okS n (Si 1 i)) : Met l yX4_findAwaited (wx (.code yX4_findAwaited cX4_findAwaited 5 none)) ({ frames := 2, cells := 0, slots := 0, locals := 45 }) (va_Pc [.ref (cd 2), .ref (cd 1)] (Pw D vwCl [(cI, .int), (cJ, .long), (cZ, .boolean), (cR, .array .int)] [(cd 1, .inr (2, [.ref (cd 10), .ref (cd 11), .ref (cd 12), .ref (cd 13), .ref (cd 14), .ref (cd 15), .ref (cd 16), .ref (cd 17), .int (nI n), .int sk, .int cp])), (cd 10, .inl (cI, 40, .inl (fil n (Si 0) ze0))), (cd 11, .inl (cI, 40, .inl (fil n (Si 1) ze1))), (cd 12, .inl (cI, 40, .inl (fil n (Si 2) ze2))), (cd 13, .inl (cI, 40, .inl (fil n (Si 3) ze3))), (cd 2, .inr (4, [.long rr, .ref (cd 20), .ref (cd 21), .ref (cd 22), .ref (cd 23), .ref (cd 24), .ref (cd 25), .ref (cd 26), .ref (cd 27)])), (cd 24, .inl (cI, 40, .inl (fil n aw ya)))] sz)) (va_Qv (fun (u : Unit) => True) (Bw D vwCl (fun (u : Unit) => [(cd 1, .inr (2, [.ref (cd 10), .ref (cd 11), .ref (cd 12), .ref (cd 13), .ref (cd 14), .ref (cd 15), .ref (cd 16), .ref (cd 17), .int (nI n), .int sk, .int cp])), (cd 10, .inl (cI, 40, .inl (fil n (Si 0) ze0))), (cd 11, .inl (cI, 40, .inl (fil n (Si 1) ze1))), (cd 12, .inl (cI, 40, .inl (fil n (Si 2) ze2))), (cd 13, .inl (cI, 40, .inl (fil n (Si 3) ze3))), (cd 2, .inr (4, [.long rr, .ref (cd 20), .ref (cd 21), .ref (cd 22), .ref (cd 23), .ref (cd 24), .ref (cd 25), .ref (cd 26), .ref (cd 27)])), (cd 24, .inl (cI, 40, .inl (fil n (awF n Si rr aw) ya)))]) (va_A [(cd 1, .inr (2, [.ref (cd 10), .ref (cd 11), .ref (cd 12), .ref (cd 13), .ref (cd 14), .ref (cd 15), .ref (cd 16), .ref (cd 17), .int (nI n), .int sk, .int cp])), (cd 10, .inl (cI, 40, .inl (fil n (Si 0) ze0))), (cd 11, .inl (cI, 40, .inl (fil n (Si 1) ze1))), (cd 12, .inl (cI, 40, .inl (fil n (Si 2) ze2))), (cd 13, .inl (cI, 40, .inl (fil n (Si 3) ze3))), (cd 2, .inr (4, [.long rr, .ref (cd 20), .ref (cd 21), .ref (cd 22), .ref (cd 23), .ref (cd 24), .ref (cd 25), .ref (cd 26), .ref (cd 27)])), (cd 24, .inl (cI, 40, .inl (fil n aw ya)))] sz)) (va_A [(cd 1, .inr (2, [.ref (cd 10), .ref (cd 11), .ref (cd 12), .ref (cd 13), .ref (cd 14), .ref (cd 15), .ref (cd 16), .ref (cd 17), .int (nI n), .int sk, .int cp])), (cd 10, .inl (cI, 40, .inl (fil n (Si 0) ze0))), (cd 11, .inl (cI, 40, .inl (fil n (Si 1) ze1))), (cd 12, .inl (cI, 40, .inl (fil n (Si 2) ze2))), (cd 13, .inl (cI, 40, .inl (fil n (Si 3) ze3))), (cd 2, .inr (4, [.long rr, .ref (cd 20), .ref (cd 21), .ref (cd 22), .ref (cd 23), .ref (cd 24), .ref (cd 25), .ref (cd 26), .ref (cd 27)])), (cd 24, .inl (cI, 40, .inl (fil n aw ya)))] sz)) 0 0 (va_A [(cd 1, .inr (2, [.ref (cd 10), .ref (cd 11), .ref (cd 12), .ref (cd 13), .ref (cd 14), .ref (cd 15), .ref (cd 16), .ref (cd 17), .int (nI n), .int sk, .int cp])), (cd 10, .inl (cI, 40, .inl (fil n (Si 0) ze0))), (cd 11, .inl (cI, 40, .inl (fil n (Si 1) ze1))), (cd 12, .inl (cI, 40, .inl (fil n (Si 2) ze2))), (cd 13, .inl (cI, 40, .inl (fil n (Si 3) ze3))), (cd 2, .inr (4, [.long rr, .ref (cd 20), .ref (cd 21), .ref (cd 22), .ref (cd 23), .ref (cd 24), .ref (cd 25), .ref (cd 26), .ref (cd 27)])), (cd 24, .inl (cI, 40, .inl (fil n aw ya)))] sz) := by
  refine Met.ofW (cc := cX4_findAwaited) (maxL := 5) (ret := none) (by decide) rfl ?_
  intro p e s m args below meth c s₁ B hml hv9
  obtain ⟨rfl, hsz, hP, hK, hD0, hG⟩ := hv9
  have hx := B.exec
  have hb := B.bytes
  have hr := B.returns
  have hts := atoms_spec (ws := wx (.code yX4_findAwaited cX4_findAwaited 5 none)) B.pre
  have hown : s.vm.findClass RX4 = some m.cls := findClass_of_methodNamed B.named
  have hlocks := B.notSynchronized
  subst hsz
  have hD := hD0.self (sz := s.heap.size)
  generalize hAe : va_A [(cd 1, .inr (2, [.ref (cd 10), .ref (cd 11), .ref (cd 12), .ref (cd 13), .ref (cd 14), .ref (cd 15), .ref (cd 16), .ref (cd 17), .int (nI n), .int sk, .int cp])), (cd 10, .inl (cI, 40, .inl (fil n (Si 0) ze0))), (cd 11, .inl (cI, 40, .inl (fil n (Si 1) ze1))), (cd 12, .inl (cI, 40, .inl (fil n (Si 2) ze2))), (cd 13, .inl (cI, 40, .inl (fil n (Si 3) ze3))), (cd 2, .inr (4, [.long rr, .ref (cd 20), .ref (cd 21), .ref (cd 22), .ref (cd 23), .ref (cd 24), .ref (cd 25), .ref (cd 26), .ref (cd 27)])), (cd 24, .inl (cI, 40, .inl (fil n aw ya)))] s.heap.size = A at hD hG ⊢
  have hA : ∀ q : Nat, s.heap.size ≤ q → A q := fun q h => by rw [← hAe]; exact Or.inr h
  have hS : va_S A s.heap s.heap [] := va_S.rf
  have hP : va_P D vwCl [(cd 1, .inr (2, [.ref (cd 10), .ref (cd 11), .ref (cd 12), .ref (cd 13), .ref (cd 14), .ref (cd 15), .ref (cd 16), .ref (cd 17), .int (nI n), .int sk, .int cp])), (cd 10, .inl (cI, 40, .inl (fil n (Si 0) ze0))), (cd 11, .inl (cI, 40, .inl (fil n (Si 1) ze1))), (cd 12, .inl (cI, 40, .inl (fil n (Si 2) ze2))), (cd 13, .inl (cI, 40, .inl (fil n (Si 3) ze3))), (cd 2, .inr (4, [.long rr, .ref (cd 20), .ref (cd 21), .ref (cd 22), .ref (cd 23), .ref (cd 24), .ref (cd 25), .ref (cd 26), .ref (cd 27)])), (cd 24, .inl (cI, 40, .inl (fil n aw ya)))] s.heap := hP
  have hl := lv_entry ([.ref (cd 2), .ref (cd 1)]) (n := 5) (Nat.le_of_ble_eq_true rfl)
  rw [lg_entry_eq]
  generalize (lg_sl ([.ref (cd 2), .ref (cd 1)]) ++ List.replicate (5 - (lg_sl ([.ref (cd 2), .ref (cd 1)])).length) Slot.unset).toArray = ls at hl ⊢
  have hl : lv_has ls 5 [(0, .ref (cd 2)), (1, .ref (cd 1))] := hl
  refine lv_iconst (v := 1) hx hb dX4_findAwaited_0 (by decide) ?_
  refine lv_istore_n (lv' := [(2, .int 1), (0, .ref (cd 2)), (1, .ref (cd 1))]) hx hb dX4_findAwaited_1 rfl hl (by decide) rfl (fun ls hl => ?_)
  refine lv_iconst (v := 0) hx hb dX4_findAwaited_2 (by decide) ?_
  refine lv_istore_n (lv' := [(3, .int 0), (2, .int 1), (0, .ref (cd 2)), (1, .ref (cd 1))]) hx hb dX4_findAwaited_3 rfl hl (by decide) rfl (fun ls hl => ?_)
  refine W_loop (σ := (Nat) × (Bool) × (Nat → Int32)) (fun ⟨r, b, aw1⟩ => 1000000 - r) (fun ⟨r, b, aw1⟩ ls H locs => (r ≤ 1000000) ∧ (awF n Si rr aw = fxr (awR n Si rr) (1000000 - r) aw1 b) ∧ lv_has ls 5 [(3, .int (nI r)), (2, .int (bz b)), (0, .ref (cd 2)), (1, .ref (cd 1))] ∧ va_P D vwCl [(cd 1, .inr (2, [.ref (cd 10), .ref (cd 11), .ref (cd 12), .ref (cd 13), .ref (cd 14), .ref (cd 15), .ref (cd 16), .ref (cd 17), .int (nI n), .int sk, .int cp])), (cd 10, .inl (cI, 40, .inl (fil n (Si 0) ze0))), (cd 11, .inl (cI, 40, .inl (fil n (Si 1) ze1))), (cd 12, .inl (cI, 40, .inl (fil n (Si 2) ze2))), (cd 13, .inl (cI, 40, .inl (fil n (Si 3) ze3))), (cd 2, .inr (4, [.long rr, .ref (cd 20), .ref (cd 21), .ref (cd 22), .ref (cd 23), .ref (cd 24), .ref (cd 25), .ref (cd 26), .ref (cd 27)])), (cd 24, .inl (cI, 40, .inl (fil n aw1 ya)))] H ∧ va_D A [(cd 1, .inr (2, [.ref (cd 10), .ref (cd 11), .ref (cd 12), .ref (cd 13), .ref (cd 14), .ref (cd 15), .ref (cd 16), .ref (cd 17), .int (nI n), .int sk, .int cp])), (cd 10, .inl (cI, 40, .inl (fil n (Si 0) ze0))), (cd 11, .inl (cI, 40, .inl (fil n (Si 1) ze1))), (cd 12, .inl (cI, 40, .inl (fil n (Si 2) ze2))), (cd 13, .inl (cI, 40, .inl (fil n (Si 3) ze3))), (cd 2, .inr (4, [.long rr, .ref (cd 20), .ref (cd 21), .ref (cd 22), .ref (cd 23), .ref (cd 24), .ref (cd 25), .ref (cd 26), .ref (cd 27)])), (cd 24, .inl (cI, 40, .inl (fil n aw1 ya)))] ∧ va_S A s.heap H locs) ?_ (0, true, aw) _ _ _ ⟨Nat.zero_le _, rfl, lv_sub hl (l' := [(3, .int 0), (2, .int 1), (0, .ref (cd 2)), (1, .ref (cd 1))]) [0, 1, 2, 3] rfl, hP, hD, hS⟩
  rintro ⟨r, b, aw1⟩ ls H locs ⟨hr9, hf, hl, hP, hD, hS⟩ ih
  have hr9 : r ≤ 1000000 := hr9
  have hf : awF n Si rr aw = fxr (awR n Si rr) (1000000 - r) aw1 b := hf
  have hl : lv_has ls 5 [(3, .int (nI r)), (2, .int (bz b)), (0, .ref (cd 2)), (1, .ref (cd 1))] := hl
  have hP : va_P D vwCl [(cd 1, .inr (2, [.ref (cd 10), .ref (cd 11), .ref (cd 12), .ref (cd 13), .ref (cd 14), .ref (cd 15), .ref (cd 16), .ref (cd 17), .int (nI n), .int sk, .int cp])), (cd 10, .inl (cI, 40, .inl (fil n (Si 0) ze0))), (cd 11, .inl (cI, 40, .inl (fil n (Si 1) ze1))), (cd 12, .inl (cI, 40, .inl (fil n (Si 2) ze2))), (cd 13, .inl (cI, 40, .inl (fil n (Si 3) ze3))), (cd 2, .inr (4, [.long rr, .ref (cd 20), .ref (cd 21), .ref (cd 22), .ref (cd 23), .ref (cd 24), .ref (cd 25), .ref (cd 26), .ref (cd 27)])), (cd 24, .inl (cI, 40, .inl (fil n aw1 ya)))] _ := hP
  have hD : va_D A [(cd 1, .inr (2, [.ref (cd 10), .ref (cd 11), .ref (cd 12), .ref (cd 13), .ref (cd 14), .ref (cd 15), .ref (cd 16), .ref (cd 17), .int (nI n), .int sk, .int cp])), (cd 10, .inl (cI, 40, .inl (fil n (Si 0) ze0))), (cd 11, .inl (cI, 40, .inl (fil n (Si 1) ze1))), (cd 12, .inl (cI, 40, .inl (fil n (Si 2) ze2))), (cd 13, .inl (cI, 40, .inl (fil n (Si 3) ze3))), (cd 2, .inr (4, [.long rr, .ref (cd 20), .ref (cd 21), .ref (cd 22), .ref (cd 23), .ref (cd 24), .ref (cd 25), .ref (cd 26), .ref (cd 27)])), (cd 24, .inl (cI, 40, .inl (fil n aw1 ya)))] := hD
  have ih_4 := ih
  refine lv_iload_n hx hb dX4_findAwaited_4 rfl (lv_at hl 0 rfl) ?_
  refine lv_ldc (v := 1000000) hx hb hown (hts _ (mc q_463)) dX4_findAwaited_5 ?_
  refine lv_icmp_ge (tgt := 62) hx hb dX4_findAwaited_7 (by decide) (fun c_7 => ?_) (fun c_7 => ?_)
  · skip
    have c_7 : 1000000 ≤ r := (nI_leI (a := 1000000) (b := r) (by omega) (by omega)).mp c_7
    have hfe := hf.trans (fxr_end (Or.inl (by omega)))
    rw [show (fil n aw1 ya : Nat → Int32) = fil n (awF n Si rr aw) ya from by first | (rw [hfe]; first | done | rfl) | (simp [awB, upd_upd, vpl_upd, upd_id, vpl_id, c_7, (Nat.not_lt.mpr c_7), hfe]; done) | (simp [awB, upd_upd, vpl_upd, upd_id, vpl_id, if_pos c_7, if_neg (Nat.not_lt.mpr c_7), hfe]; done) | rfl | (simp [awB, upd_upd, vpl_upd, upd_id, vpl_id, c_7, (Nat.not_lt.mpr c_7), hfe]; omega)] at hP hD
    have hP : va_P D vwCl [(cd 1, .inr (2, [.ref (cd 10), .ref (cd 11), .ref (cd 12), .ref (cd 13), .ref (cd 14), .ref (cd 15), .ref (cd 16), .ref (cd 17), .int (nI n), .int sk, .int cp])), (cd 10, .inl (cI, 40, .inl (fil n (Si 0) ze0))), (cd 11, .inl (cI, 40, .inl (fil n (Si 1) ze1))), (cd 12, .inl (cI, 40, .inl (fil n (Si 2) ze2))), (cd 13, .inl (cI, 40, .inl (fil n (Si 3) ze3))), (cd 2, .inr (4, [.long rr, .ref (cd 20), .ref (cd 21), .ref (cd 22), .ref (cd 23), .ref (cd 24), .ref (cd 25), .ref (cd 26), .ref (cd 27)])), (cd 24, .inl (cI, 40, .inl (fil n (awF n Si rr aw) ya)))] _ := hP
    have hD : va_D A [(cd 1, .inr (2, [.ref (cd 10), .ref (cd 11), .ref (cd 12), .ref (cd 13), .ref (cd 14), .ref (cd 15), .ref (cd 16), .ref (cd 17), .int (nI n), .int sk, .int cp])), (cd 10, .inl (cI, 40, .inl (fil n (Si 0) ze0))), (cd 11, .inl (cI, 40, .inl (fil n (Si 1) ze1))), (cd 12, .inl (cI, 40, .inl (fil n (Si 2) ze2))), (cd 13, .inl (cI, 40, .inl (fil n (Si 3) ze3))), (cd 2, .inr (4, [.long rr, .ref (cd 20), .ref (cd 21), .ref (cd 22), .ref (cd 23), .ref (cd 24), .ref (cd 25), .ref (cd 26), .ref (cd 27)])), (cd 24, .inl (cI, 40, .inl (fil n (awF n Si rr aw) ya)))] := hD
    exact ke_v hx hb hr () (trivial) hP hD hS (Nat.le_of_ble_eq_true rfl) (Nat.le_of_ble_eq_true rfl) hlocks dX4_findAwaited_62
  · skip
    have c_7 : r < 1000000 := Nat.lt_of_not_le (fun h9 => c_7 ((nI_leI (a := 1000000) (b := r) (by omega) (by omega)).mpr h9))
    refine lv_iload_n hx hb dX4_findAwaited_10 rfl (lv_at hl 1 rfl) ?_
    refine lv_if_eq (tgt := 62) hx hb dX4_findAwaited_11 (by decide) (fun c_11 => ?_) (fun c_11 => ?_)
    · skip
      have c_11 : b = false := bz_f c_11
      have hfe := hf.trans (fxr_end (Or.inr c_11))
      rw [show (fil n aw1 ya : Nat → Int32) = fil n (awF n Si rr aw) ya from by first | (rw [hfe]; first | done | rfl) | (simp [awB, upd_upd, vpl_upd, upd_id, vpl_id, c_7, (Nat.not_le.mpr c_7), c_11, hfe]; done) | (simp [awB, upd_upd, vpl_upd, upd_id, vpl_id, if_pos c_7, if_neg (Nat.not_le.mpr c_7), if_neg (bnt c_11), hfe]; done) | rfl | (simp [awB, upd_upd, vpl_upd, upd_id, vpl_id, c_7, (Nat.not_le.mpr c_7), c_11, hfe]; omega)] at hP hD
      have hP : va_P D vwCl [(cd 1, .inr (2, [.ref (cd 10), .ref (cd 11), .ref (cd 12), .ref (cd 13), .ref (cd 14), .ref (cd 15), .ref (cd 16), .ref (cd 17), .int (nI n), .int sk, .int cp])), (cd 10, .inl (cI, 40, .inl (fil n (Si 0) ze0))), (cd 11, .inl (cI, 40, .inl (fil n (Si 1) ze1))), (cd 12, .inl (cI, 40, .inl (fil n (Si 2) ze2))), (cd 13, .inl (cI, 40, .inl (fil n (Si 3) ze3))), (cd 2, .inr (4, [.long rr, .ref (cd 20), .ref (cd 21), .ref (cd 22), .ref (cd 23), .ref (cd 24), .ref (cd 25), .ref (cd 26), .ref (cd 27)])), (cd 24, .inl (cI, 40, .inl (fil n (awF n Si rr aw) ya)))] _ := hP
      have hD : va_D A [(cd 1, .inr (2, [.ref (cd 10), .ref (cd 11), .ref (cd 12), .ref (cd 13), .ref (cd 14), .ref (cd 15), .ref (cd 16), .ref (cd 17), .int (nI n), .int sk, .int cp])), (cd 10, .inl (cI, 40, .inl (fil n (Si 0) ze0))), (cd 11, .inl (cI, 40, .inl (fil n (Si 1) ze1))), (cd 12, .inl (cI, 40, .inl (fil n (Si 2) ze2))), (cd 13, .inl (cI, 40, .inl (fil n (Si 3) ze3))), (cd 2, .inr (4, [.long rr, .ref (cd 20), .ref (cd 21), .ref (cd 22), .ref (cd 23), .ref (cd 24), .ref (cd 25), .ref (cd 26), .ref (cd 27)])), (cd 24, .inl (cI, 40, .inl (fil n (awF n Si rr aw) ya)))] := hD
      exact ke_v hx hb hr () (trivial) hP hD hS (Nat.le_of_ble_eq_true rfl) (Nat.le_of_ble_eq_true rfl) hlocks dX4_findAwaited_62
    · skip
      have c_11 : b = true := bz_t c_11
      have hf2 := hf.trans ((congrArg (fun z => fxr (awR n Si rr) (1000000 - r) aw1 z) c_11).trans (fxr_go1 (by omega)))
      refine lv_iconst (v := 0) hx hb dX4_findAwaited_14 (by decide) ?_
      refine lv_istore_n (lv' := [(2, .int 0), (3, .int (nI r)), (0, .ref (cd 2)), (1, .ref (cd 1))]) hx hb dX4_findAwaited_15 rfl hl (by decide) rfl (fun ls hl => ?_)
      refine lv_aload_n hx hb dX4_findAwaited_16 rfl (lv_at hl 3 rfl) ?_
      refine va_getN (D := D) (ci := 2) (v := .int (nI n)) (C := RX2) (T := TX2) (N := 11) (ref := "Ironwood$Steps") (host := "Ironwood") hx hb hts in_RX2 hown hK hP 0 rfl rfl 8 (by decide) (hG.1.get 32 rfl) (fun _ h9 => h9) rfl dX4_findAwaited_17 ?_
      refine lv_iconst (v := 1) hx hb dX4_findAwaited_20 (by decide) ?_
      refine lv_isub hx hb dX4_findAwaited_21 ?_
      refine tI (v := nI (n - 1)) ((pk_sub (a := n) (b := 1) (by omega))) ?_
      refine lv_istore (lv' := [(4, .int (nI (n - 1))), (2, .int 0), (3, .int (nI r)), (0, .ref (cd 2)), (1, .ref (cd 1))]) hx hb dX4_findAwaited_22 hl (by decide) rfl (fun ls hl => ?_)
      rw [show nI (n - 1) = nI (n - 0) - 1 by rw [show n - 0 = n - 1 + 1 by omega, nI_pred]] at hl
      have hP : va_P D vwCl [(cd 1, .inr (2, [.ref (cd 10), .ref (cd 11), .ref (cd 12), .ref (cd 13), .ref (cd 14), .ref (cd 15), .ref (cd 16), .ref (cd 17), .int (nI n), .int sk, .int cp])), (cd 10, .inl (cI, 40, .inl (fil n (Si 0) ze0))), (cd 11, .inl (cI, 40, .inl (fil n (Si 1) ze1))), (cd 12, .inl (cI, 40, .inl (fil n (Si 2) ze2))), (cd 13, .inl (cI, 40, .inl (fil n (Si 3) ze3))), (cd 2, .inr (4, [.long rr, .ref (cd 20), .ref (cd 21), .ref (cd 22), .ref (cd 23), .ref (cd 24), .ref (cd 25), .ref (cd 26), .ref (cd 27)])), (cd 24, .inl (cI, 40, .inl (fil n aw1 ya)))] _ := hP
      have hD : va_D A [(cd 1, .inr (2, [.ref (cd 10), .ref (cd 11), .ref (cd 12), .ref (cd 13), .ref (cd 14), .ref (cd 15), .ref (cd 16), .ref (cd 17), .int (nI n), .int sk, .int cp])), (cd 10, .inl (cI, 40, .inl (fil n (Si 0) ze0))), (cd 11, .inl (cI, 40, .inl (fil n (Si 1) ze1))), (cd 12, .inl (cI, 40, .inl (fil n (Si 2) ze2))), (cd 13, .inl (cI, 40, .inl (fil n (Si 3) ze3))), (cd 2, .inr (4, [.long rr, .ref (cd 20), .ref (cd 21), .ref (cd 22), .ref (cd 23), .ref (cd 24), .ref (cd 25), .ref (cd 26), .ref (cd 27)])), (cd 24, .inl (cI, 40, .inl (fil n aw1 ya)))] := hD
      have hl : lv_has ls 5 [(4, .int (nI (n - 0) - 1)), (2, .int 0), (3, .int (nI r)), (0, .ref (cd 2)), (1, .ref (cd 1))] := hl
      refine W_loop (σ := (Nat) × (Bool) × (Nat → Int32)) (fun ⟨k, c1, aw2⟩ => n - k) (fun ⟨k, c1, aw2⟩ ls H locs => (k ≤ n) ∧ (awR n Si rr aw1 = itF (awB n Si rr) n k (aw2, c1)) ∧ lv_has ls 5 [(4, .int (nI (n - k) - 1)), (2, .int (bz c1)), (3, .int (nI r)), (0, .ref (cd 2)), (1, .ref (cd 1))] ∧ va_P D vwCl [(cd 1, .inr (2, [.ref (cd 10), .ref (cd 11), .ref (cd 12), .ref (cd 13), .ref (cd 14), .ref (cd 15), .ref (cd 16), .ref (cd 17), .int (nI n), .int sk, .int cp])), (cd 10, .inl (cI, 40, .inl (fil n (Si 0) ze0))), (cd 11, .inl (cI, 40, .inl (fil n (Si 1) ze1))), (cd 12, .inl (cI, 40, .inl (fil n (Si 2) ze2))), (cd 13, .inl (cI, 40, .inl (fil n (Si 3) ze3))), (cd 2, .inr (4, [.long rr, .ref (cd 20), .ref (cd 21), .ref (cd 22), .ref (cd 23), .ref (cd 24), .ref (cd 25), .ref (cd 26), .ref (cd 27)])), (cd 24, .inl (cI, 40, .inl (fil n aw2 ya)))] H ∧ va_D A [(cd 1, .inr (2, [.ref (cd 10), .ref (cd 11), .ref (cd 12), .ref (cd 13), .ref (cd 14), .ref (cd 15), .ref (cd 16), .ref (cd 17), .int (nI n), .int sk, .int cp])), (cd 10, .inl (cI, 40, .inl (fil n (Si 0) ze0))), (cd 11, .inl (cI, 40, .inl (fil n (Si 1) ze1))), (cd 12, .inl (cI, 40, .inl (fil n (Si 2) ze2))), (cd 13, .inl (cI, 40, .inl (fil n (Si 3) ze3))), (cd 2, .inr (4, [.long rr, .ref (cd 20), .ref (cd 21), .ref (cd 22), .ref (cd 23), .ref (cd 24), .ref (cd 25), .ref (cd 26), .ref (cd 27)])), (cd 24, .inl (cI, 40, .inl (fil n aw2 ya)))] ∧ va_S A s.heap H locs) ?_ (0, false, aw1) _ _ _ ⟨Nat.zero_le _, rfl, lv_sub hl (l' := [(4, .int (nI (n - 0) - 1)), (2, .int 0), (3, .int (nI r)), (0, .ref (cd 2)), (1, .ref (cd 1))]) [0, 1, 2, 3, 4] rfl, hP, hD, hS⟩
      rintro ⟨k, c1, aw2⟩ ls H locs ⟨hk, hfj, hl, hP, hD, hS⟩ ih
      have hk : k ≤ n := hk
      have hfj : awR n Si rr aw1 = itF (awB n Si rr) n k (aw2, c1) := hfj
      have hl : lv_has ls 5 [(4, .int (nI (n - k) - 1)), (2, .int (bz c1)), (3, .int (nI r)), (0, .ref (cd 2)), (1, .ref (cd 1))] := hl
      have hP : va_P D vwCl [(cd 1, .inr (2, [.ref (cd 10), .ref (cd 11), .ref (cd 12), .ref (cd 13), .ref (cd 14), .ref (cd 15), .ref (cd 16), .ref (cd 17), .int (nI n), .int sk, .int cp])), (cd 10, .inl (cI, 40, .inl (fil n (Si 0) ze0))), (cd 11, .inl (cI, 40, .inl (fil n (Si 1) ze1))), (cd 12, .inl (cI, 40, .inl (fil n (Si 2) ze2))), (cd 13, .inl (cI, 40, .inl (fil n (Si 3) ze3))), (cd 2, .inr (4, [.long rr, .ref (cd 20), .ref (cd 21), .ref (cd 22), .ref (cd 23), .ref (cd 24), .ref (cd 25), .ref (cd 26), .ref (cd 27)])), (cd 24, .inl (cI, 40, .inl (fil n aw2 ya)))] _ := hP
      have hD : va_D A [(cd 1, .inr (2, [.ref (cd 10), .ref (cd 11), .ref (cd 12), .ref (cd 13), .ref (cd 14), .ref (cd 15), .ref (cd 16), .ref (cd 17), .int (nI n), .int sk, .int cp])), (cd 10, .inl (cI, 40, .inl (fil n (Si 0) ze0))), (cd 11, .inl (cI, 40, .inl (fil n (Si 1) ze1))), (cd 12, .inl (cI, 40, .inl (fil n (Si 2) ze2))), (cd 13, .inl (cI, 40, .inl (fil n (Si 3) ze3))), (cd 2, .inr (4, [.long rr, .ref (cd 20), .ref (cd 21), .ref (cd 22), .ref (cd 23), .ref (cd 24), .ref (cd 25), .ref (cd 26), .ref (cd 27)])), (cd 24, .inl (cI, 40, .inl (fil n aw2 ya)))] := hD
      have ih_24 := ih
      refine lv_iload hx hb dX4_findAwaited_24 (lv_at hl 0 rfl) ?_
      refine lv_if_lt (tgt := 56) hx hb dX4_findAwaited_26 (by decide) (fun c_26 => ?_) (fun c_26 => ?_)
      · skip
        have hkn : k = n := by
          rcases Nat.lt_or_ge k n with h | h
          · exact absurd c_26 (by rw [show n - k = n - (k + 1) + 1 by omega, nI_pred]; exact nI_pos (by omega))
          · omega
        have hfi := hfj.trans (itF_ge (by omega))
        refine lv_iinc (v := nI (r + 1)) (lv' := [(3, .int (nI (r + 1))), (4, .int (nI (n - k) - 1)), (2, .int (bz c1)), (0, .ref (cd 2)), (1, .ref (cd 1))]) hx hb dX4_findAwaited_56 hl (k := 2) rfl (nI_add r 1) (by decide) rfl (fun ls hl => ?_)
        refine lv_goto (tgt := 4) hx hb dX4_findAwaited_59 (by decide) ?_
        exact ih_4 (r + 1, c1, aw2) _ _ _ (by show 1000000 - (r + 1) < 1000000 - r; omega) ⟨by show _ ≤ _; omega, hf2.trans (by rw [show 1000000 - (r + 1) = 1000000 - r - 1 by omega]; rw [hfi]), lv_sub hl [0, 2, 3, 4] rfl, hP, hD, hS⟩
      · skip
        have hkn : k < n := by
          rcases Nat.lt_or_ge k n with h | h
          · exact h
          · exact absurd c_26 (by rw [show n - k = 0 by omega]; decide)
        have hmk : nI (n - k) - 1 = nI (n - (k + 1)) := by rw [show n - k = n - (k + 1) + 1 by omega]; exact nI_pred _
        rw [hmk] at hl
        have hP : va_P D vwCl [(cd 1, .inr (2, [.ref (cd 10), .ref (cd 11), .ref (cd 12), .ref (cd 13), .ref (cd 14), .ref (cd 15), .ref (cd 16), .ref (cd 17), .int (nI n), .int sk, .int cp])), (cd 10, .inl (cI, 40, .inl (fil n (Si 0) ze0))), (cd 11, .inl (cI, 40, .inl (fil n (Si 1) ze1))), (cd 12, .inl (cI, 40, .inl (fil n (Si 2) ze2))), (cd 13, .inl (cI, 40, .inl (fil n (Si 3) ze3))), (cd 2, .inr (4, [.long rr, .ref (cd 20), .ref (cd 21), .ref (cd 22), .ref (cd 23), .ref (cd 24), .ref (cd 25), .ref (cd 26), .ref (cd 27)])), (cd 24, .inl (cI, 40, .inl (fil n aw2 ya)))] _ := hP
        have hD : va_D A [(cd 1, .inr (2, [.ref (cd 10), .ref (cd 11), .ref (cd 12), .ref (cd 13), .ref (cd 14), .ref (cd 15), .ref (cd 16), .ref (cd 17), .int (nI n), .int sk, .int cp])), (cd 10, .inl (cI, 40, .inl (fil n (Si 0) ze0))), (cd 11, .inl (cI, 40, .inl (fil n (Si 1) ze1))), (cd 12, .inl (cI, 40, .inl (fil n (Si 2) ze2))), (cd 13, .inl (cI, 40, .inl (fil n (Si 3) ze3))), (cd 2, .inr (4, [.long rr, .ref (cd 20), .ref (cd 21), .ref (cd 22), .ref (cd 23), .ref (cd 24), .ref (cd 25), .ref (cd 26), .ref (cd 27)])), (cd 24, .inl (cI, 40, .inl (fil n aw2 ya)))] := hD
        have hl : lv_has ls 5 [(4, .int (nI (n - (k + 1)))), (2, .int (bz c1)), (3, .int (nI r)), (0, .ref (cd 2)), (1, .ref (cd 1))] := hl
        refine lv_aload_n hx hb dX4_findAwaited_29 rfl (lv_at hl 3 rfl) ?_
        refine lv_iload hx hb dX4_findAwaited_30 (lv_at hl 0 rfl) ?_
        refine kc_i (wr := [(cd 1, .inr (2, [.ref (cd 10), .ref (cd 11), .ref (cd 12), .ref (cd 13), .ref (cd 14), .ref (cd 15), .ref (cd 16), .ref (cd 17), .int (nI n), .int sk, .int cp])), (cd 10, .inl (cI, 40, .inl (fil n (Si 0) ze0))), (cd 11, .inl (cI, 40, .inl (fil n (Si 1) ze1))), (cd 12, .inl (cI, 40, .inl (fil n (Si 2) ze2))), (cd 13, .inl (cI, 40, .inl (fil n (Si 3) ze3))), (cd 24, .inl (cI, 40, .inl (fil n aw2 ya)))]) (va_runV (As := [.int (nI (n - (k + 1)))]) (rest := []) ⟨hx, hb, hml, hown, hts⟩ (k_comesTo l D cI cJ cZ cR cd rr (n - (k + 1)) _) (cwV 1 hts (gV q_467 q_464 q_466 q_16 q_68) rfl rfl rfl (by decide +kernel) ⟨Nat.le_of_ble_eq_true rfl, Nat.le_of_ble_eq_true rfl⟩) ⟨Pw.blind, va_recv hK hP (ci := 4) (q0 := 5) rfl rfl, Pw.mk_call hP hK hD hS hA hG [5] rfl (by decide)⟩ rfl rfl hl.1 rfl (lv_room (Nat.le_of_ble_eq_true rfl)) dX4_findAwaited_32 ⟨Nat.le_of_ble_eq_true rfl, Nat.le_of_ble_eq_true rfl⟩) hP hD hS hA [5] [0, 1, 2, 3, 4, 6] rfl rfl (by decide) (by decide) (fun r_3 u_4 H locs hw hP hD hS => ?_)
        obtain rfl : r_3 = bz (bI rr (nI (n - (k + 1)))) := hw
        have hP : va_P D vwCl [(cd 1, .inr (2, [.ref (cd 10), .ref (cd 11), .ref (cd 12), .ref (cd 13), .ref (cd 14), .ref (cd 15), .ref (cd 16), .ref (cd 17), .int (nI n), .int sk, .int cp])), (cd 10, .inl (cI, 40, .inl (fil n (Si 0) ze0))), (cd 11, .inl (cI, 40, .inl (fil n (Si 1) ze1))), (cd 12, .inl (cI, 40, .inl (fil n (Si 2) ze2))), (cd 13, .inl (cI, 40, .inl (fil n (Si 3) ze3))), (cd 24, .inl (cI, 40, .inl (fil n aw2 ya))), (cd 2, .inr (4, [.long rr, .ref (cd 20), .ref (cd 21), .ref (cd 22), .ref (cd 23), .ref (cd 24), .ref (cd 25), .ref (cd 26), .ref (cd 27)]))] _ := hP
        have hD : va_D A [(cd 1, .inr (2, [.ref (cd 10), .ref (cd 11), .ref (cd 12), .ref (cd 13), .ref (cd 14), .ref (cd 15), .ref (cd 16), .ref (cd 17), .int (nI n), .int sk, .int cp])), (cd 10, .inl (cI, 40, .inl (fil n (Si 0) ze0))), (cd 11, .inl (cI, 40, .inl (fil n (Si 1) ze1))), (cd 12, .inl (cI, 40, .inl (fil n (Si 2) ze2))), (cd 13, .inl (cI, 40, .inl (fil n (Si 3) ze3))), (cd 24, .inl (cI, 40, .inl (fil n aw2 ya))), (cd 2, .inr (4, [.long rr, .ref (cd 20), .ref (cd 21), .ref (cd 22), .ref (cd 23), .ref (cd 24), .ref (cd 25), .ref (cd 26), .ref (cd 27)]))] := hD
        refine lv_if_eq (tgt := 50) hx hb dX4_findAwaited_35 (by decide) (fun c_35 => ?_) (fun c_35 => ?_)
        · skip
          have c_35 : (bI rr (nI (n - (k + 1)))) = false := bz_f c_35
          refine lv_iinc (v := nI (n - (k + 1)) - 1) (lv' := [(4, .int (nI (n - (k + 1)) - 1)), (2, .int (bz c1)), (3, .int (nI r)), (0, .ref (cd 2)), (1, .ref (cd 1))]) hx hb dX4_findAwaited_50 hl (k := 0) rfl (dec1 _) (by decide) rfl (fun ls hl => ?_)
          refine lv_goto (tgt := 24) hx hb dX4_findAwaited_53 (by decide) ?_
          have hP := hP.sub (ws' := [(cd 1, .inr (2, [.ref (cd 10), .ref (cd 11), .ref (cd 12), .ref (cd 13), .ref (cd 14), .ref (cd 15), .ref (cd 16), .ref (cd 17), .int (nI n), .int sk, .int cp])), (cd 10, .inl (cI, 40, .inl (fil n (Si 0) ze0))), (cd 11, .inl (cI, 40, .inl (fil n (Si 1) ze1))), (cd 12, .inl (cI, 40, .inl (fil n (Si 2) ze2))), (cd 13, .inl (cI, 40, .inl (fil n (Si 3) ze3))), (cd 2, .inr (4, [.long rr, .ref (cd 20), .ref (cd 21), .ref (cd 22), .ref (cd 23), .ref (cd 24), .ref (cd 25), .ref (cd 26), .ref (cd 27)])), (cd 24, .inl (cI, 40, .inl (fil n aw2 ya)))]) [0, 1, 2, 3, 4, 6, 5] rfl
          have hD := hD.sub (ws' := [(cd 1, .inr (2, [.ref (cd 10), .ref (cd 11), .ref (cd 12), .ref (cd 13), .ref (cd 14), .ref (cd 15), .ref (cd 16), .ref (cd 17), .int (nI n), .int sk, .int cp])), (cd 10, .inl (cI, 40, .inl (fil n (Si 0) ze0))), (cd 11, .inl (cI, 40, .inl (fil n (Si 1) ze1))), (cd 12, .inl (cI, 40, .inl (fil n (Si 2) ze2))), (cd 13, .inl (cI, 40, .inl (fil n (Si 3) ze3))), (cd 2, .inr (4, [.long rr, .ref (cd 20), .ref (cd 21), .ref (cd 22), .ref (cd 23), .ref (cd 24), .ref (cd 25), .ref (cd 26), .ref (cd 27)])), (cd 24, .inl (cI, 40, .inl (fil n aw2 ya)))]) [0, 1, 2, 3, 4, 6, 5] (by decide) rfl
          exact ih_24 (k + 1, c1, aw2) _ _ _ (by show n - (k + 1) < n - k; omega) ⟨by show _ ≤ _; omega, hfj.trans ((itF_lt (by omega)).trans (congrArg _ (by first | (simp [awB, c_7, (Nat.not_le.mpr c_7), c_11, c_26, (Int32.not_lt.mp c_26), c_35]; done) | (simp [awB, if_pos c_7, if_neg (Nat.not_le.mpr c_7), if_pos c_11, if_neg c_26, if_pos (Int32.not_lt.mp c_26), if_neg (bnt c_35)]; done) | rfl | (simp [awB, c_7, (Nat.not_le.mpr c_7), c_11, c_26, (Int32.not_lt.mp c_26), c_35]; omega)))), lv_sub hl [0, 1, 2, 3, 4] rfl, hP, hD, hS⟩
        · skip
          have c_35 : (bI rr (nI (n - (k + 1)))) = true := bz_t c_35
          refine lv_aload_n hx hb dX4_findAwaited_38 rfl (lv_at hl 3 rfl) ?_
          refine lv_aload_n hx hb dX4_findAwaited_39 rfl (lv_at hl 4 rfl) ?_
          refine lv_iload hx hb dX4_findAwaited_40 (lv_at hl 0 rfl) ?_
          refine kc_i (wr := []) (va_runV (As := [.ref (cd 1), .int (nI (n - (k + 1)))]) (rest := []) ⟨hx, hb, hml, hown, hts⟩ (k_await l D cI cJ cZ cR n aw2 ya Si ze0 ze1 ze2 ze3 cd sk cp rr (n - (k + 1)) _ hn (by omega) hSi) (cwV 2 hts (gV q_506 q_503 q_505 q_24 q_68) rfl rfl rfl (by decide +kernel) ⟨Nat.le_of_ble_eq_true rfl, Nat.le_of_ble_eq_true rfl⟩) ⟨Pw.blind, va_recv hK hP (ci := 4) (q0 := 6) rfl rfl, Pw.mk_call hP hK hD hS hA hG [0, 1, 2, 3, 4, 6, 5] rfl (by decide)⟩ rfl rfl hl.1 rfl (lv_room (Nat.le_of_ble_eq_true rfl)) dX4_findAwaited_42 ⟨Nat.le_of_ble_eq_true rfl, Nat.le_of_ble_eq_true rfl⟩) hP hD hS hA [0, 1, 2, 3, 4, 6, 5] [] rfl rfl (by decide) (by decide) (fun r_5 u_6 H locs hw hP hD hS => ?_)
          obtain rfl : r_5 = bz (decide (¬ awN n Si (n - (k + 1)) aw2 = aw2 (n - (k + 1)))) := hw
          have hP : va_P D vwCl [(cd 1, .inr (2, [.ref (cd 10), .ref (cd 11), .ref (cd 12), .ref (cd 13), .ref (cd 14), .ref (cd 15), .ref (cd 16), .ref (cd 17), .int (nI n), .int sk, .int cp])), (cd 10, .inl (cI, 40, .inl (fil n (Si 0) ze0))), (cd 11, .inl (cI, 40, .inl (fil n (Si 1) ze1))), (cd 12, .inl (cI, 40, .inl (fil n (Si 2) ze2))), (cd 13, .inl (cI, 40, .inl (fil n (Si 3) ze3))), (cd 2, .inr (4, [.long rr, .ref (cd 20), .ref (cd 21), .ref (cd 22), .ref (cd 23), .ref (cd 24), .ref (cd 25), .ref (cd 26), .ref (cd 27)])), (cd 24, .inl (cI, 40, .inl (fil n (upd aw2 (n - (k + 1)) (awN n Si (n - (k + 1)) aw2)) ya)))] _ := hP
          have hD : va_D A [(cd 1, .inr (2, [.ref (cd 10), .ref (cd 11), .ref (cd 12), .ref (cd 13), .ref (cd 14), .ref (cd 15), .ref (cd 16), .ref (cd 17), .int (nI n), .int sk, .int cp])), (cd 10, .inl (cI, 40, .inl (fil n (Si 0) ze0))), (cd 11, .inl (cI, 40, .inl (fil n (Si 1) ze1))), (cd 12, .inl (cI, 40, .inl (fil n (Si 2) ze2))), (cd 13, .inl (cI, 40, .inl (fil n (Si 3) ze3))), (cd 2, .inr (4, [.long rr, .ref (cd 20), .ref (cd 21), .ref (cd 22), .ref (cd 23), .ref (cd 24), .ref (cd 25), .ref (cd 26), .ref (cd 27)])), (cd 24, .inl (cI, 40, .inl (fil n (upd aw2 (n - (k + 1)) (awN n Si (n - (k + 1)) aw2)) ya)))] := hD
          refine lv_if_eq (tgt := 50) hx hb dX4_findAwaited_45 (by decide) (fun c_45 => ?_) (fun c_45 => ?_)
          · skip
            have c_45 : (decide (¬ awN n Si (n - (k + 1)) aw2 = aw2 (n - (k + 1)))) = false := bz_f c_45
            have c_45 : awN n Si (n - (k + 1)) aw2 = aw2 (n - (k + 1)) := by simpa using c_45
            refine lv_iinc (v := nI (n - (k + 1)) - 1) (lv' := [(4, .int (nI (n - (k + 1)) - 1)), (2, .int (bz c1)), (3, .int (nI r)), (0, .ref (cd 2)), (1, .ref (cd 1))]) hx hb dX4_findAwaited_50 hl (k := 0) rfl (dec1 _) (by decide) rfl (fun ls hl => ?_)
            refine lv_goto (tgt := 24) hx hb dX4_findAwaited_53 (by decide) ?_
            exact ih_24 (k + 1, c1, upd aw2 (n - (k + 1)) (awN n Si (n - (k + 1)) aw2)) _ _ _ (by show n - (k + 1) < n - k; omega) ⟨by show _ ≤ _; omega, hfj.trans ((itF_lt (by omega)).trans (congrArg _ (by first | (simp [awB, c_7, (Nat.not_le.mpr c_7), c_11, c_26, (Int32.not_lt.mp c_26), c_35, c_45]; done) | (simp [awB, if_pos c_7, if_neg (Nat.not_le.mpr c_7), if_pos c_11, if_neg c_26, if_pos (Int32.not_lt.mp c_26), if_pos c_35, if_neg (bnt c_45)]; done) | rfl | (simp [awB, c_7, (Nat.not_le.mpr c_7), c_11, c_26, (Int32.not_lt.mp c_26), c_35, c_45]; omega)))), lv_sub hl [0, 1, 2, 3, 4] rfl, hP, hD, hS⟩
          · skip
            have c_45 : (decide (¬ awN n Si (n - (k + 1)) aw2 = aw2 (n - (k + 1)))) = true := bz_t c_45
            have c_45 : ¬ awN n Si (n - (k + 1)) aw2 = aw2 (n - (k + 1)) := by simpa using c_45
            refine lv_iconst (v := 1) hx hb dX4_findAwaited_48 (by decide) ?_
            refine lv_istore_n (lv' := [(2, .int 1), (4, .int (nI (n - (k + 1)))), (3, .int (nI r)), (0, .ref (cd 2)), (1, .ref (cd 1))]) hx hb dX4_findAwaited_49 rfl hl (by decide) rfl (fun ls hl => ?_)
            refine lv_iinc (v := nI (n - (k + 1)) - 1) (lv' := [(4, .int (nI (n - (k + 1)) - 1)), (2, .int 1), (3, .int (nI r)), (0, .ref (cd 2)), (1, .ref (cd 1))]) hx hb dX4_findAwaited_50 hl (k := 1) rfl (dec1 _) (by decide) rfl (fun ls hl => ?_)
            refine lv_goto (tgt := 24) hx hb dX4_findAwaited_53 (by decide) ?_
            exact ih_24 (k + 1, true, upd aw2 (n - (k + 1)) (awN n Si (n - (k + 1)) aw2)) _ _ _ (by show n - (k + 1) < n - k; omega) ⟨by show _ ≤ _; omega, hfj.trans ((itF_lt (by omega)).trans (congrArg _ (by first | (simp [awB, c_7, (Nat.not_le.mpr c_7), c_11, c_26, (Int32.not_lt.mp c_26), c_35, c_45]; done) | (simp [awB, if_pos c_7, if_neg (Nat.not_le.mpr c_7), if_pos c_11, if_neg c_26, if_pos (Int32.not_lt.mp c_26), if_pos c_35, if_pos c_45]; done) | rfl | (simp [awB, c_7, (Nat.not_le.mpr c_7), c_11, c_26, (Int32.not_lt.mp c_26), c_35, c_45]; omega)))), lv_sub hl [0, 1, 2, 3, 4] rfl, hP, hD, hS⟩
