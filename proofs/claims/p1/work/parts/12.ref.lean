theorem k_no (v : Int32) : ¬ (0 ≤ v ∧ v ≤ -1) := fun h => absurd (Int32.le_trans h.1 h.2) (by decide)

set_option maxHeartbeats 4000000 in
set_option maxRecDepth 100000 in
theorem k_Variable_init (l : Launch) (hfl : l.stackTraces = false) (ae : Nat) (D : va_G) (cI cJ cS cO : ClassId) (el : Nat) (k : Int32) (fl : Int32) (sz : Nat) (hfb : fl = 0 ∨ fl = 1) : Met l yX10_init (wx (.code yX10_init cX10_init 3 none)) ({ frames := 1, cells := 0, slots := 0, locals := 12 }) (va_Pc [.ref el, .int k, .int fl] (Pw ae D vwCl [(cI, .int), (cJ, .long), (cS, .object "IronwoodModel$State"), (cO, .object "java/lang/Object")] [(el, .inr (11, [.int 0, .int 0]))] sz)) (va_Qv (fun (u : Unit) => True) (Bw D vwCl (fun (u : Unit) => [(el, .inr (11, [.int k, .int fl]))]) (va_A [(el, .inr (11, [.int 0, .int 0]))] sz)) (va_A [(el, .inr (11, [.int 0, .int 0]))] sz)) 0 0 (va_A [(el, .inr (11, [.int 0, .int 0]))] sz) := by
  refine Met.ofW (cc := cX10_init) (maxL := 3) (ret := none) (by decide) rfl ?_
  intro p e s m args below meth c s₁ B hml hv9
  obtain ⟨rfl, hsz, hP, hK, hD0, hG⟩ := hv9
  have hx := B.exec
  have hb := B.bytes
  have hr := B.returns
  have hts := atoms_spec (ws := wx (.code yX10_init cX10_init 3 none)) B.pre
  have hown : s.vm.findClass RX10 = some m.cls := findClass_of_methodNamed B.named
  have hlocks := B.notSynchronized
  have hin : meth.name = "<init>" := (name_of_methodNamed B.named B.method).1
  subst hsz
  have hD := hD0.self (sz := s.heap.size)
  generalize hAe : va_A [(el, .inr (11, [.int 0, .int 0]))] s.heap.size = A at hD hG ⊢
  have hA : ∀ q : Nat, s.heap.size ≤ q → A q := fun q h => by rw [← hAe]; exact Or.inr h
  have hS : va_S A s.heap s.heap [] := va_S.rf
  have hP : va_P D vwCl [(el, .inr (11, [.int 0, .int 0]))] s.heap := hP
  have hl := lv_entry ([.ref el, .int k, .int fl]) (n := 3) (Nat.le_of_ble_eq_true rfl)
  rw [lg_entry_eq]
  generalize (lg_sl ([.ref el, .int k, .int fl]) ++ List.replicate (3 - (lg_sl ([.ref el, .int k, .int fl])).length) Slot.unset).toArray = ls at hl ⊢
  have hl : lv_has ls 3 [(0, .ref el), (1, .int k), (2, .int fl)] := hl
  refine lv_aload_n hx hb dX10_init_0 rfl (lv_at hl 0 rfl) ?_
  refine W.objInit hx hb hown (hts _ (mc q_1042)) (hts _ (mc q_134)) (hts _ (mc q_135)) rfl (by rw [hml]; exact hl.1) rfl dX10_init_1 (Nat.le_of_ble_eq_true rfl) (Nat.le_of_ble_eq_true rfl) ?_
  refine W.eq (g2 := F0 m 4 ls []) rfl ?_
  refine lv_aload_n hx hb dX10_init_4 rfl (lv_at hl 0 rfl) ?_
  refine lv_iload_n hx hb dX10_init_5 rfl (lv_at hl 1 rfl) ?_
  refine va_putF (D := D) (ci := 11) (v := .int k) (ty := .int) (C := RX10) (T := TX10) (N := 2) (ref := "IronwoodModel$Variable") hx hb hts in_RX10 tyX10 tyX10_ok nmX10 hown hK hP hD hS 0 rfl rfl 0 (by decide) (hts _ (mc q_1043)) (fun _ h9 => h9) rfl hin rfl (by decide +kernel) rfl rfl (Nat.le_of_ble_eq_true rfl) dX10_init_6 (fun H locs hP hD hS => ?_)
  have hP : va_P D vwCl [(el, .inr (11, [.int k, .int 0]))] H := hP
  have hD : va_D A [(el, .inr (11, [.int k, .int 0]))] := hD
  refine lv_aload_n hx hb dX10_init_9 rfl (lv_at hl 0 rfl) ?_
  refine lv_iload_n hx hb dX10_init_10 rfl (lv_at hl 2 rfl) ?_
  refine va_putF (D := D) (ci := 11) (v := .int fl) (ty := .boolean) (C := RX10) (T := TX10) (N := 2) (ref := "IronwoodModel$Variable") hx hb hts in_RX10 tyX10 tyX10_ok nmX10 hown hK hP hD hS 0 rfl rfl 1 (by decide) (hts _ (mc q_1046)) (fun _ h9 => h9) rfl hin rfl (by decide +kernel) (by rcases hfb with rfl | rfl <;> rfl) (by rcases hfb with rfl | rfl <;> rfl) (Nat.le_of_ble_eq_true rfl) dX10_init_11 (fun H locs hP hD hS => ?_)
  have hP : va_P D vwCl [(el, .inr (11, [.int k, .int fl]))] H := hP
  have hD : va_D A [(el, .inr (11, [.int k, .int fl]))] := hD
  have hP := hP.sub (ws' := [(el, .inr (11, [.int k, .int fl]))]) [0] rfl
  have hD := hD.sub (ws' := [(el, .inr (11, [.int k, .int fl]))]) [0] (by decide) rfl
  exact ke_v hx hb hr () (trivial) hP hD hS (Nat.le_of_ble_eq_true rfl) (Nat.le_of_ble_eq_true rfl) hlocks dX10_init_14

set_option maxHeartbeats 4000000 in
set_option maxRecDepth 100000 in
theorem k_Statement_init (l : Launch) (hfl : l.stackTraces = false) (ae : Nat) (D : va_G) (cI cJ cS cO : ClassId) (el : Nat) (a0 : Int32) (a1 : Int32) (a2 : Int32) (a3 : Int32) (a4 : Int32) (a5 : Int32) (sz : Nat)  : Met l yX9_init (wx (.code yX9_init cX9_init 7 none)) ({ frames := 1, cells := 0, slots := 0, locals := 12 }) (va_Pc [.ref el, .int a0, .int a1, .int a2, .int a3, .int a4, .int a5] (Pw ae D vwCl [(cI, .int), (cJ, .long), (cS, .object "IronwoodModel$State"), (cO, .object "java/lang/Object")] [(el, .inr (10, [.int 0, .int 0, .int 0, .int 0, .int 0, .int 0]))] sz)) (va_Qv (fun (u : Unit) => True) (Bw D vwCl (fun (u : Unit) => [(el, .inr (10, [.int a0, .int a1, .int a2, .int a3, .int a4, .int a5]))]) (va_A [(el, .inr (10, [.int 0, .int 0, .int 0, .int 0, .int 0, .int 0]))] sz)) (va_A [(el, .inr (10, [.int 0, .int 0, .int 0, .int 0, .int 0, .int 0]))] sz)) 0 0 (va_A [(el, .inr (10, [.int 0, .int 0, .int 0, .int 0, .int 0, .int 0]))] sz) := by
  refine Met.ofW (cc := cX9_init) (maxL := 7) (ret := none) (by decide) rfl ?_
  intro p e s m args below meth c s₁ B hml hv9
  obtain ⟨rfl, hsz, hP, hK, hD0, hG⟩ := hv9
  have hx := B.exec
  have hb := B.bytes
  have hr := B.returns
  have hts := atoms_spec (ws := wx (.code yX9_init cX9_init 7 none)) B.pre
  have hown : s.vm.findClass RX9 = some m.cls := findClass_of_methodNamed B.named
  have hlocks := B.notSynchronized
  have hin : meth.name = "<init>" := (name_of_methodNamed B.named B.method).1
  subst hsz
  have hD := hD0.self (sz := s.heap.size)
  generalize hAe : va_A [(el, .inr (10, [.int 0, .int 0, .int 0, .int 0, .int 0, .int 0]))] s.heap.size = A at hD hG ⊢
  have hA : ∀ q : Nat, s.heap.size ≤ q → A q := fun q h => by rw [← hAe]; exact Or.inr h
  have hS : va_S A s.heap s.heap [] := va_S.rf
  have hP : va_P D vwCl [(el, .inr (10, [.int 0, .int 0, .int 0, .int 0, .int 0, .int 0]))] s.heap := hP
  have hl := lv_entry ([.ref el, .int a0, .int a1, .int a2, .int a3, .int a4, .int a5]) (n := 7) (Nat.le_of_ble_eq_true rfl)
  rw [lg_entry_eq]
  generalize (lg_sl ([.ref el, .int a0, .int a1, .int a2, .int a3, .int a4, .int a5]) ++ List.replicate (7 - (lg_sl ([.ref el, .int a0, .int a1, .int a2, .int a3, .int a4, .int a5])).length) Slot.unset).toArray = ls at hl ⊢
  have hl : lv_has ls 7 [(0, .ref el), (1, .int a0), (2, .int a1), (3, .int a2), (4, .int a3), (5, .int a4), (6, .int a5)] := hl
  refine lv_aload_n hx hb dX9_init_0 rfl (lv_at hl 0 rfl) ?_
  refine W.objInit hx hb hown (hts _ (mc q_1157)) (hts _ (mc q_134)) (hts _ (mc q_135)) rfl (by rw [hml]; exact hl.1) rfl dX9_init_1 (Nat.le_of_ble_eq_true rfl) (Nat.le_of_ble_eq_true rfl) ?_
  refine W.eq (g2 := F0 m 4 ls []) rfl ?_
  refine lv_aload_n hx hb dX9_init_4 rfl (lv_at hl 0 rfl) ?_
  refine lv_iload_n hx hb dX9_init_5 rfl (lv_at hl 1 rfl) ?_
  refine va_putF (D := D) (ci := 10) (v := .int a0) (ty := .int) (C := RX9) (T := TX9) (N := 6) (ref := "IronwoodModel$Statement") hx hb hts in_RX9 tyX9 tyX9_ok nmX9 hown hK hP hD hS 0 rfl rfl 0 (by decide) (hts _ (mc q_1158)) (fun _ h9 => h9) rfl hin rfl (by decide +kernel) rfl rfl (Nat.le_of_ble_eq_true rfl) dX9_init_6 (fun H locs hP hD hS => ?_)
  have hP : va_P D vwCl [(el, .inr (10, [.int a0, .int 0, .int 0, .int 0, .int 0, .int 0]))] H := hP
  have hD : va_D A [(el, .inr (10, [.int a0, .int 0, .int 0, .int 0, .int 0, .int 0]))] := hD
  refine lv_aload_n hx hb dX9_init_9 rfl (lv_at hl 0 rfl) ?_
  refine lv_iload_n hx hb dX9_init_10 rfl (lv_at hl 2 rfl) ?_
  refine va_putF (D := D) (ci := 10) (v := .int a1) (ty := .int) (C := RX9) (T := TX9) (N := 6) (ref := "IronwoodModel$Statement") hx hb hts in_RX9 tyX9 tyX9_ok nmX9 hown hK hP hD hS 0 rfl rfl 1 (by decide) (hts _ (mc q_1161)) (fun _ h9 => h9) rfl hin rfl (by decide +kernel) rfl rfl (Nat.le_of_ble_eq_true rfl) dX9_init_11 (fun H locs hP hD hS => ?_)
  have hP : va_P D vwCl [(el, .inr (10, [.int a0, .int a1, .int 0, .int 0, .int 0, .int 0]))] H := hP
  have hD : va_D A [(el, .inr (10, [.int a0, .int a1, .int 0, .int 0, .int 0, .int 0]))] := hD
  refine lv_aload_n hx hb dX9_init_14 rfl (lv_at hl 0 rfl) ?_
  refine lv_iload_n hx hb dX9_init_15 rfl (lv_at hl 3 rfl) ?_
  refine va_putF (D := D) (ci := 10) (v := .int a2) (ty := .int) (C := RX9) (T := TX9) (N := 6) (ref := "IronwoodModel$Statement") hx hb hts in_RX9 tyX9 tyX9_ok nmX9 hown hK hP hD hS 0 rfl rfl 2 (by decide) (hts _ (mc q_1163)) (fun _ h9 => h9) rfl hin rfl (by decide +kernel) rfl rfl (Nat.le_of_ble_eq_true rfl) dX9_init_16 (fun H locs hP hD hS => ?_)
  have hP : va_P D vwCl [(el, .inr (10, [.int a0, .int a1, .int a2, .int 0, .int 0, .int 0]))] H := hP
  have hD : va_D A [(el, .inr (10, [.int a0, .int a1, .int a2, .int 0, .int 0, .int 0]))] := hD
  refine lv_aload_n hx hb dX9_init_19 rfl (lv_at hl 0 rfl) ?_
  refine lv_iload hx hb dX9_init_20 (lv_at hl 4 rfl) ?_
  refine va_putF (D := D) (ci := 10) (v := .int a3) (ty := .int) (C := RX9) (T := TX9) (N := 6) (ref := "IronwoodModel$Statement") hx hb hts in_RX9 tyX9 tyX9_ok nmX9 hown hK hP hD hS 0 rfl rfl 3 (by decide) (hts _ (mc q_1165)) (fun _ h9 => h9) rfl hin rfl (by decide +kernel) rfl rfl (Nat.le_of_ble_eq_true rfl) dX9_init_22 (fun H locs hP hD hS => ?_)
  have hP : va_P D vwCl [(el, .inr (10, [.int a0, .int a1, .int a2, .int a3, .int 0, .int 0]))] H := hP
  have hD : va_D A [(el, .inr (10, [.int a0, .int a1, .int a2, .int a3, .int 0, .int 0]))] := hD
  refine lv_aload_n hx hb dX9_init_25 rfl (lv_at hl 0 rfl) ?_
  refine lv_iload hx hb dX9_init_26 (lv_at hl 5 rfl) ?_
  refine va_putF (D := D) (ci := 10) (v := .int a4) (ty := .int) (C := RX9) (T := TX9) (N := 6) (ref := "IronwoodModel$Statement") hx hb hts in_RX9 tyX9 tyX9_ok nmX9 hown hK hP hD hS 0 rfl rfl 4 (by decide) (hts _ (mc q_1167)) (fun _ h9 => h9) rfl hin rfl (by decide +kernel) rfl rfl (Nat.le_of_ble_eq_true rfl) dX9_init_28 (fun H locs hP hD hS => ?_)
  have hP : va_P D vwCl [(el, .inr (10, [.int a0, .int a1, .int a2, .int a3, .int a4, .int 0]))] H := hP
  have hD : va_D A [(el, .inr (10, [.int a0, .int a1, .int a2, .int a3, .int a4, .int 0]))] := hD
  refine lv_aload_n hx hb dX9_init_31 rfl (lv_at hl 0 rfl) ?_
  refine lv_iload hx hb dX9_init_32 (lv_at hl 6 rfl) ?_
  refine va_putF (D := D) (ci := 10) (v := .int a5) (ty := .int) (C := RX9) (T := TX9) (N := 6) (ref := "IronwoodModel$Statement") hx hb hts in_RX9 tyX9 tyX9_ok nmX9 hown hK hP hD hS 0 rfl rfl 5 (by decide) (hts _ (mc q_1169)) (fun _ h9 => h9) rfl hin rfl (by decide +kernel) rfl rfl (Nat.le_of_ble_eq_true rfl) dX9_init_34 (fun H locs hP hD hS => ?_)
  have hP : va_P D vwCl [(el, .inr (10, [.int a0, .int a1, .int a2, .int a3, .int a4, .int a5]))] H := hP
  have hD : va_D A [(el, .inr (10, [.int a0, .int a1, .int a2, .int a3, .int a4, .int a5]))] := hD
  have hP := hP.sub (ws' := [(el, .inr (10, [.int a0, .int a1, .int a2, .int a3, .int a4, .int a5]))]) [0] rfl
  have hD := hD.sub (ws' := [(el, .inr (10, [.int a0, .int a1, .int a2, .int a3, .int a4, .int a5]))]) [0] (by decide) rfl
  exact ke_v hx hb hr () (trivial) hP hD hS (Nat.le_of_ble_eq_true rfl) (Nat.le_of_ble_eq_true rfl) hlocks dX9_init_37

set_option maxHeartbeats 4000000 in
set_option maxRecDepth 100000 in
theorem k_isIn_y (l : Launch) (hfl : l.stackTraces = false) (ae : Nat) (D : va_G) (cI cJ cS cO : ClassId) (v : Int32) (lo : Int32) (up : Int32) (sz : Nat) (hv : lo ≤ v ∧ v ≤ up) : Met l yX11_isIn (wx (.code yX11_isIn cX11_isIn 3 (some .boolean))) ({ frames := 0, cells := 0, slots := 0, locals := 0 }) (va_Pc [.int v, .int lo, .int up] (Pw ae D vwCl [(cI, .int), (cJ, .long), (cS, .object "IronwoodModel$State"), (cO, .object "java/lang/Object")] [] sz)) (va_Qi (fun (r : Int32) (u : Unit) => r = 1) (Bw D vwCl (fun (u : Unit) => []) (va_A [] sz)) (va_A [] sz)) 0 0 (va_A [] sz) := by
  refine Met.ofW (cc := cX11_isIn) (maxL := 3) (ret := (some .boolean)) (by decide) rfl ?_
  intro p e s m args below meth c s₁ B hml hv9
  obtain ⟨rfl, hsz, hP, hK, hD0, hG⟩ := hv9
  have hx := B.exec
  have hb := B.bytes
  have hr := B.returns
  have hts := atoms_spec (ws := wx (.code yX11_isIn cX11_isIn 3 (some .boolean))) B.pre
  have hown : s.vm.findClass RX11 = some m.cls := findClass_of_methodNamed B.named
  have hlocks := B.notSynchronized
  subst hsz
  have hD := hD0.self (sz := s.heap.size)
  generalize hAe : va_A [] s.heap.size = A at hD hG ⊢
  have hA : ∀ q : Nat, s.heap.size ≤ q → A q := fun q h => by rw [← hAe]; exact Or.inr h
  have hS : va_S A s.heap s.heap [] := va_S.rf
  have hP : va_P D vwCl [] s.heap := hP
  have hl := lv_entry ([.int v, .int lo, .int up]) (n := 3) (Nat.le_of_ble_eq_true rfl)
  rw [lg_entry_eq]
  generalize (lg_sl ([.int v, .int lo, .int up]) ++ List.replicate (3 - (lg_sl ([.int v, .int lo, .int up])).length) Slot.unset).toArray = ls at hl ⊢
  have hl : lv_has ls 3 [(0, .int v), (1, .int lo), (2, .int up)] := hl
  refine lv_iload_n hx hb dX11_isIn_0 rfl (lv_at hl 0 rfl) ?_
  refine lv_iload_n hx hb dX11_isIn_1 rfl (lv_at hl 1 rfl) ?_
  refine lv_icmp_lt (tgt := 14) hx hb dX11_isIn_2 (by decide) (fun c_2 => absurd c_2 (Int32.not_lt.mpr hv.1)) (fun c_2 => ?_)
  refine lv_iload_n hx hb dX11_isIn_5 rfl (lv_at hl 0 rfl) ?_
  refine lv_iload_n hx hb dX11_isIn_6 rfl (lv_at hl 2 rfl) ?_
  refine lv_icmp_gt (tgt := 14) hx hb dX11_isIn_7 (by decide) (fun c_7 => absurd c_7 (Int32.not_lt.mpr hv.2)) (fun c_7 => ?_)
  refine lv_iconst (v := 1) hx hb dX11_isIn_10 (by decide) ?_
  refine lv_goto (tgt := 15) hx hb dX11_isIn_11 (by decide) ?_
  have hP := hP.sub (ws' := []) [] rfl
  have hD := hD.sub (ws' := []) [] (by decide) rfl
  exact ke_i hx hb hr (by first | rfl | decide) () (rfl) hP hD hS (Nat.le_of_ble_eq_true rfl) (Nat.le_of_ble_eq_true rfl) hlocks dX11_isIn_15

set_option maxHeartbeats 4000000 in
set_option maxRecDepth 100000 in
theorem k_isIn_n (l : Launch) (hfl : l.stackTraces = false) (ae : Nat) (D : va_G) (cI cJ cS cO : ClassId) (v : Int32) (lo : Int32) (up : Int32) (sz : Nat) (hv : ¬ (lo ≤ v ∧ v ≤ up)) : Met l yX11_isIn (wx (.code yX11_isIn cX11_isIn 3 (some .boolean))) ({ frames := 0, cells := 0, slots := 0, locals := 0 }) (va_Pc [.int v, .int lo, .int up] (Pw ae D vwCl [(cI, .int), (cJ, .long), (cS, .object "IronwoodModel$State"), (cO, .object "java/lang/Object")] [] sz)) (va_Qi (fun (r : Int32) (u : Unit) => r = 0) (Bw D vwCl (fun (u : Unit) => []) (va_A [] sz)) (va_A [] sz)) 0 0 (va_A [] sz) := by
  refine Met.ofW (cc := cX11_isIn) (maxL := 3) (ret := (some .boolean)) (by decide) rfl ?_
  intro p e s m args below meth c s₁ B hml hv9
  obtain ⟨rfl, hsz, hP, hK, hD0, hG⟩ := hv9
  have hx := B.exec
  have hb := B.bytes
  have hr := B.returns
  have hts := atoms_spec (ws := wx (.code yX11_isIn cX11_isIn 3 (some .boolean))) B.pre
  have hown : s.vm.findClass RX11 = some m.cls := findClass_of_methodNamed B.named
  have hlocks := B.notSynchronized
  subst hsz
  have hD := hD0.self (sz := s.heap.size)
  generalize hAe : va_A [] s.heap.size = A at hD hG ⊢
  have hA : ∀ q : Nat, s.heap.size ≤ q → A q := fun q h => by rw [← hAe]; exact Or.inr h
  have hS : va_S A s.heap s.heap [] := va_S.rf
  have hP : va_P D vwCl [] s.heap := hP
  have hl := lv_entry ([.int v, .int lo, .int up]) (n := 3) (Nat.le_of_ble_eq_true rfl)
  rw [lg_entry_eq]
  generalize (lg_sl ([.int v, .int lo, .int up]) ++ List.replicate (3 - (lg_sl ([.int v, .int lo, .int up])).length) Slot.unset).toArray = ls at hl ⊢
  have hl : lv_has ls 3 [(0, .int v), (1, .int lo), (2, .int up)] := hl
  refine lv_iload_n hx hb dX11_isIn_0 rfl (lv_at hl 0 rfl) ?_
  refine lv_iload_n hx hb dX11_isIn_1 rfl (lv_at hl 1 rfl) ?_
  refine lv_icmp_lt (tgt := 14) hx hb dX11_isIn_2 (by decide) (fun c_2 => ?_) (fun c_2 => ?_)
  · skip
    refine lv_iconst (v := 0) hx hb dX11_isIn_14 (by decide) ?_
    have hP := hP.sub (ws' := []) [] rfl
    have hD := hD.sub (ws' := []) [] (by decide) rfl
    exact ke_i hx hb hr (by first | rfl | decide) () (rfl) hP hD hS (Nat.le_of_ble_eq_true rfl) (Nat.le_of_ble_eq_true rfl) hlocks dX11_isIn_15
  · skip
    refine lv_iload_n hx hb dX11_isIn_5 rfl (lv_at hl 0 rfl) ?_
    refine lv_iload_n hx hb dX11_isIn_6 rfl (lv_at hl 2 rfl) ?_
    refine lv_icmp_gt (tgt := 14) hx hb dX11_isIn_7 (by decide) (fun c_7 => ?_) (fun c_7 => hv ⟨Int32.not_lt.mp c_2, Int32.not_lt.mp c_7⟩ |>.elim)
    refine lv_iconst (v := 0) hx hb dX11_isIn_14 (by decide) ?_
    have hP := hP.sub (ws' := []) [] rfl
    have hD := hD.sub (ws' := []) [] (by decide) rfl
    exact ke_i hx hb hr (by first | rfl | decide) () (rfl) hP hD hS (Nat.le_of_ble_eq_true rfl) (Nat.le_of_ble_eq_true rfl) hlocks dX11_isIn_15

set_option maxHeartbeats 4000000 in
set_option maxRecDepth 100000 in
theorem k_refuse_0 (l : Launch) (hfl : l.stackTraces = false) (ae : Nat) (D : va_G) (cI cJ cS cO : ClassId) (mo : Nat) (vl : Nat) (sl : Nat) (w : Int32) (sz : Nat)  : Met l yX11_refuse (wx (.code yX11_refuse cX11_refuse 3 (some .boolean))) ({ frames := 0, cells := 0, slots := 0, locals := 0 }) (va_Pc [.ref mo, .int 0, .int w] (Pw ae D vwCl [(cI, .int), (cJ, .long), (cS, .object "IronwoodModel$State"), (cO, .object "java/lang/Object")] [(mo, .inr (12, [.int 0, .ref vl, .ref sl]))] sz)) (va_Qi (fun (r : Int32) (u : Unit) => r = 0) (Bw D vwCl (fun (u : Unit) => [(mo, .inr (12, [.int 0, .ref vl, .ref sl]))]) (va_A [(mo, .inr (12, [.int 0, .ref vl, .ref sl]))] sz)) (va_A [(mo, .inr (12, [.int 0, .ref vl, .ref sl]))] sz)) 0 0 (va_A [(mo, .inr (12, [.int 0, .ref vl, .ref sl]))] sz) := by
  refine Met.ofW (cc := cX11_refuse) (maxL := 3) (ret := (some .boolean)) (by decide) rfl ?_
  intro p e s m args below meth c s₁ B hml hv9
  obtain ⟨rfl, hsz, hP, hK, hD0, hG⟩ := hv9
  have hx := B.exec
  have hb := B.bytes
  have hr := B.returns
  have hts := atoms_spec (ws := wx (.code yX11_refuse cX11_refuse 3 (some .boolean))) B.pre
  have hown : s.vm.findClass RX11 = some m.cls := findClass_of_methodNamed B.named
  have hlocks := B.notSynchronized
  subst hsz
  have hD := hD0.self (sz := s.heap.size)
  generalize hAe : va_A [(mo, .inr (12, [.int 0, .ref vl, .ref sl]))] s.heap.size = A at hD hG ⊢
  have hA : ∀ q : Nat, s.heap.size ≤ q → A q := fun q h => by rw [← hAe]; exact Or.inr h
  have hS : va_S A s.heap s.heap [] := va_S.rf
  have hP : va_P D vwCl [(mo, .inr (12, [.int 0, .ref vl, .ref sl]))] s.heap := hP
  have hl := lv_entry ([.ref mo, .int 0, .int w]) (n := 3) (Nat.le_of_ble_eq_true rfl)
  rw [lg_entry_eq]
  generalize (lg_sl ([.ref mo, .int 0, .int w]) ++ List.replicate (3 - (lg_sl ([.ref mo, .int 0, .int w])).length) Slot.unset).toArray = ls at hl ⊢
  have hl : lv_has ls 3 [(0, .ref mo), (1, .int 0), (2, .int w)] := hl
  refine lv_iload_n hx hb dX11_refuse_0 rfl (lv_at hl 1 rfl) ?_
  refine lv_if_eq (tgt := 16) hx hb dX11_refuse_1 (by decide) (fun c_1 => ?_) (fun c_1 => absurd (by decide) c_1)
  refine lv_aload_n hx hb dX11_refuse_16 rfl (lv_at hl 0 rfl) ?_
  refine va_get (D := D) (ci := 12) (v := .int 0) (C := RX11) (T := TX11) (N := 3) (ref := "IronwoodModel") hx hb hts in_RX11 hown hK hP 0 rfl rfl 0 (by decide) (hts _ (mc q_1002)) (fun _ h9 => h9) rfl dX11_refuse_17 ?_
  refine lv_if_le (tgt := 27) hx hb dX11_refuse_20 (by decide) (fun c_20 => ?_) (fun c_20 => absurd (by decide) c_20)
  refine lv_iconst (v := 0) hx hb dX11_refuse_27 (by decide) ?_
  have hP := hP.sub (ws' := [(mo, .inr (12, [.int 0, .ref vl, .ref sl]))]) [0] rfl
  have hD := hD.sub (ws' := [(mo, .inr (12, [.int 0, .ref vl, .ref sl]))]) [0] (by decide) rfl
  exact ke_i hx hb hr (by first | rfl | decide) () (rfl) hP hD hS (Nat.le_of_ble_eq_true rfl) (Nat.le_of_ble_eq_true rfl) hlocks dX11_refuse_28

set_option maxHeartbeats 4000000 in
set_option maxRecDepth 100000 in
theorem k_refuse_1 (l : Launch) (hfl : l.stackTraces = false) (ae : Nat) (D : va_G) (cI cJ cS cO : ClassId) (mo : Nat) (vl : Nat) (sl : Nat) (w : Int32) (sz : Nat) (hw0 : 0 < w) : Met l yX11_refuse (wx (.code yX11_refuse cX11_refuse 3 (some .boolean))) ({ frames := 0, cells := 0, slots := 0, locals := 0 }) (va_Pc [.ref mo, .int 1, .int w] (Pw ae D vwCl [(cI, .int), (cJ, .long), (cS, .object "IronwoodModel$State"), (cO, .object "java/lang/Object")] [(mo, .inr (12, [.int 0, .ref vl, .ref sl]))] sz)) (va_Qi (fun (r : Int32) (u : Unit) => r = 1) (Bw D vwCl (fun (u : Unit) => [(mo, .inr (12, [.int w, .ref vl, .ref sl]))]) (va_A [(mo, .inr (12, [.int 0, .ref vl, .ref sl]))] sz)) (va_A [(mo, .inr (12, [.int 0, .ref vl, .ref sl]))] sz)) 0 0 (va_A [(mo, .inr (12, [.int 0, .ref vl, .ref sl]))] sz) := by
  refine Met.ofW (cc := cX11_refuse) (maxL := 3) (ret := (some .boolean)) (by decide) rfl ?_
  intro p e s m args below meth c s₁ B hml hv9
  obtain ⟨rfl, hsz, hP, hK, hD0, hG⟩ := hv9
  have hx := B.exec
  have hb := B.bytes
  have hr := B.returns
  have hts := atoms_spec (ws := wx (.code yX11_refuse cX11_refuse 3 (some .boolean))) B.pre
  have hown : s.vm.findClass RX11 = some m.cls := findClass_of_methodNamed B.named
  have hlocks := B.notSynchronized
  subst hsz
  have hD := hD0.self (sz := s.heap.size)
  generalize hAe : va_A [(mo, .inr (12, [.int 0, .ref vl, .ref sl]))] s.heap.size = A at hD hG ⊢
  have hA : ∀ q : Nat, s.heap.size ≤ q → A q := fun q h => by rw [← hAe]; exact Or.inr h
  have hS : va_S A s.heap s.heap [] := va_S.rf
  have hP : va_P D vwCl [(mo, .inr (12, [.int 0, .ref vl, .ref sl]))] s.heap := hP
  have hl := lv_entry ([.ref mo, .int 1, .int w]) (n := 3) (Nat.le_of_ble_eq_true rfl)
  rw [lg_entry_eq]
  generalize (lg_sl ([.ref mo, .int 1, .int w]) ++ List.replicate (3 - (lg_sl ([.ref mo, .int 1, .int w])).length) Slot.unset).toArray = ls at hl ⊢
  have hl : lv_has ls 3 [(0, .ref mo), (1, .int 1), (2, .int w)] := hl
  refine lv_iload_n hx hb dX11_refuse_0 rfl (lv_at hl 1 rfl) ?_
  refine lv_if_eq (tgt := 16) hx hb dX11_refuse_1 (by decide) (fun c_1 => absurd c_1 (by decide)) (fun c_1 => ?_)
  refine lv_aload_n hx hb dX11_refuse_4 rfl (lv_at hl 0 rfl) ?_
  refine va_get (D := D) (ci := 12) (v := .int 0) (C := RX11) (T := TX11) (N := 3) (ref := "IronwoodModel") hx hb hts in_RX11 hown hK hP 0 rfl rfl 0 (by decide) (hts _ (mc q_1002)) (fun _ h9 => h9) rfl dX11_refuse_5 ?_
  refine lv_if_ne (tgt := 16) hx hb dX11_refuse_8 (by decide) (fun c_8 => absurd (by decide) c_8) (fun c_8 => ?_)
  refine lv_aload_n hx hb dX11_refuse_11 rfl (lv_at hl 0 rfl) ?_
  refine lv_iload_n hx hb dX11_refuse_12 rfl (lv_at hl 2 rfl) ?_
  refine va_put (D := D) (ci := 12) (v := .int w) (ty := .int) (C := RX11) (T := TX11) (N := 3) (ref := "IronwoodModel") hx hb hts in_RX11 tyX11 tyX11_ok nmX11 hown hK hP hD hS 0 rfl rfl 0 (by decide) (hts _ (mc q_1002)) (fun _ h9 => h9) rfl (by decide +kernel) rfl rfl (Nat.le_of_ble_eq_true rfl) dX11_refuse_13 (fun H locs hP hD hS => ?_)
  have hP : va_P D vwCl [(mo, .inr (12, [.int w, .ref vl, .ref sl]))] H := hP
  have hD : va_D A [(mo, .inr (12, [.int w, .ref vl, .ref sl]))] := hD
  refine lv_aload_n hx hb dX11_refuse_16 rfl (lv_at hl 0 rfl) ?_
  refine va_get (D := D) (ci := 12) (v := .int w) (C := RX11) (T := TX11) (N := 3) (ref := "IronwoodModel") hx hb hts in_RX11 hown hK hP 0 rfl rfl 0 (by decide) (hts _ (mc q_1002)) (fun _ h9 => h9) rfl dX11_refuse_17 ?_
  refine lv_if_le (tgt := 27) hx hb dX11_refuse_20 (by decide) (fun c_20 => absurd c_20 (Int32.not_le.mpr hw0)) (fun c_20 => ?_)
  refine lv_iconst (v := 1) hx hb dX11_refuse_23 (by decide) ?_
  refine lv_goto (tgt := 28) hx hb dX11_refuse_24 (by decide) ?_
  have hP := hP.sub (ws' := [(mo, .inr (12, [.int w, .ref vl, .ref sl]))]) [0] rfl
  have hD := hD.sub (ws' := [(mo, .inr (12, [.int w, .ref vl, .ref sl]))]) [0] (by decide) rfl
  exact ke_i hx hb hr (by first | rfl | decide) () (rfl) hP hD hS (Nat.le_of_ble_eq_true rfl) (Nat.le_of_ble_eq_true rfl) hlocks dX11_refuse_28

set_option maxHeartbeats 4000000 in
set_option maxRecDepth 100000 in
theorem k_start_0 (l : Launch) (hfl : l.stackTraces = false) (ae : Nat) (D : va_G) (cI cJ cS cO : ClassId) (mo : Nat) (vl : Nat) (sl : Nat) (tz : Int32) (w : Int32) (sz : Nat)  : Met l yX11_start (wx (.code yX11_start cX11_start 3 (some .boolean))) ({ frames := 1, cells := 0, slots := 0, locals := 22 }) (va_Pc [.ref mo, .int 0, .int w] (Pw ae D vwCl [(cI, .int), (cJ, .long), (cS, .object "IronwoodModel$State"), (cO, .object "java/lang/Object")] [(mo, .inr (12, [.int tz, .ref vl, .ref sl]))] sz)) (va_Qi (fun (r : Int32) (u : Unit) => r = 0) (Bw D vwCl (fun (u : Unit) => [(mo, .inr (12, [.int 0, .ref vl, .ref sl]))]) (va_A [(mo, .inr (12, [.int tz, .ref vl, .ref sl]))] sz)) (va_A [(mo, .inr (12, [.int tz, .ref vl, .ref sl]))] sz)) 0 0 (va_A [(mo, .inr (12, [.int tz, .ref vl, .ref sl]))] sz) := by
  refine Met.ofW (cc := cX11_start) (maxL := 3) (ret := (some .boolean)) (by decide) rfl ?_
  intro p e s m args below meth c s₁ B hml hv9
  obtain ⟨rfl, hsz, hP, hK, hD0, hG⟩ := hv9
  have hx := B.exec
  have hb := B.bytes
  have hr := B.returns
  have hts := atoms_spec (ws := wx (.code yX11_start cX11_start 3 (some .boolean))) B.pre
  have hown : s.vm.findClass RX11 = some m.cls := findClass_of_methodNamed B.named
  have hlocks := B.notSynchronized
  subst hsz
  have hD := hD0.self (sz := s.heap.size)
  generalize hAe : va_A [(mo, .inr (12, [.int tz, .ref vl, .ref sl]))] s.heap.size = A at hD hG ⊢
  have hA : ∀ q : Nat, s.heap.size ≤ q → A q := fun q h => by rw [← hAe]; exact Or.inr h
  have hS : va_S A s.heap s.heap [] := va_S.rf
  have hP : va_P D vwCl [(mo, .inr (12, [.int tz, .ref vl, .ref sl]))] s.heap := hP
  have hl := lv_entry ([.ref mo, .int 0, .int w]) (n := 3) (Nat.le_of_ble_eq_true rfl)
  rw [lg_entry_eq]
  generalize (lg_sl ([.ref mo, .int 0, .int w]) ++ List.replicate (3 - (lg_sl ([.ref mo, .int 0, .int w])).length) Slot.unset).toArray = ls at hl ⊢
  have hl : lv_has ls 3 [(0, .ref mo), (1, .int 0), (2, .int w)] := hl
  refine lv_aload_n hx hb dX11_start_0 rfl (lv_at hl 0 rfl) ?_
  refine lv_iconst (v := 0) hx hb dX11_start_1 (by decide) ?_
  refine va_put (D := D) (ci := 12) (v := .int 0) (ty := .int) (C := RX11) (T := TX11) (N := 3) (ref := "IronwoodModel") hx hb hts in_RX11 tyX11 tyX11_ok nmX11 hown hK hP hD hS 0 rfl rfl 0 (by decide) (hts _ (mc q_1002)) (fun _ h9 => h9) rfl (by decide +kernel) rfl rfl (Nat.le_of_ble_eq_true rfl) dX11_start_2 (fun H locs hP hD hS => ?_)
  have hP : va_P D vwCl [(mo, .inr (12, [.int 0, .ref vl, .ref sl]))] H := hP
  have hD : va_D A [(mo, .inr (12, [.int 0, .ref vl, .ref sl]))] := hD
  refine lv_aload_n hx hb dX11_start_5 rfl (lv_at hl 0 rfl) ?_
  refine lv_iload_n hx hb dX11_start_6 rfl (lv_at hl 1 rfl) ?_
  refine lv_iload_n hx hb dX11_start_7 rfl (lv_at hl 2 rfl) ?_
  refine kc_i (wr := []) (va_runV (As := [.int 0, .int w]) (rest := []) ⟨hx, hb, hml, hown, hts⟩ (k_refuse_0 l hfl ae D cI cJ cS cO mo vl sl w _) (cwV 2 hts (gV q_1032 q_1029 q_1031 q_64 q_104) rfl rfl rfl (by decide +kernel) ⟨Nat.le_of_ble_eq_true rfl, Nat.le_of_ble_eq_true rfl⟩) ⟨Pw.blind, va_recv hK hP (ci := 12) (q0 := 0) rfl rfl, Pw.mk_call hP hK hD hS hA hG [0] rfl (by decide)⟩ rfl rfl hl.1 rfl (lv_room (Nat.le_of_ble_eq_true rfl)) dX11_start_8 ⟨Nat.le_of_ble_eq_true rfl, Nat.le_of_ble_eq_true rfl⟩) hP hD hS hA [0] [] rfl rfl (by decide) (by decide) (fun r_1 u_2 H locs hw hP hD hS => ?_)
  obtain rfl : r_1 = 0 := hw
  have hP : va_P D vwCl [(mo, .inr (12, [.int 0, .ref vl, .ref sl]))] H := hP
  have hD : va_D A [(mo, .inr (12, [.int 0, .ref vl, .ref sl]))] := hD
  have hP := hP.sub (ws' := [(mo, .inr (12, [.int 0, .ref vl, .ref sl]))]) [0] rfl
  have hD := hD.sub (ws' := [(mo, .inr (12, [.int 0, .ref vl, .ref sl]))]) [0] (by decide) rfl
  exact ke_i hx hb hr (by first | rfl | decide) () (rfl) hP hD hS (Nat.le_of_ble_eq_true rfl) (Nat.le_of_ble_eq_true rfl) hlocks dX11_start_11

set_option maxHeartbeats 4000000 in
set_option maxRecDepth 100000 in
theorem k_start_1 (l : Launch) (hfl : l.stackTraces = false) (ae : Nat) (D : va_G) (cI cJ cS cO : ClassId) (mo : Nat) (vl : Nat) (sl : Nat) (tz : Int32) (w : Int32) (sz : Nat) (hw0 : 0 < w) : Met l yX11_start (wx (.code yX11_start cX11_start 3 (some .boolean))) ({ frames := 1, cells := 0, slots := 0, locals := 22 }) (va_Pc [.ref mo, .int 1, .int w] (Pw ae D vwCl [(cI, .int), (cJ, .long), (cS, .object "IronwoodModel$State"), (cO, .object "java/lang/Object")] [(mo, .inr (12, [.int tz, .ref vl, .ref sl]))] sz)) (va_Qi (fun (r : Int32) (u : Unit) => r = 1) (Bw D vwCl (fun (u : Unit) => [(mo, .inr (12, [.int w, .ref vl, .ref sl]))]) (va_A [(mo, .inr (12, [.int tz, .ref vl, .ref sl]))] sz)) (va_A [(mo, .inr (12, [.int tz, .ref vl, .ref sl]))] sz)) 0 0 (va_A [(mo, .inr (12, [.int tz, .ref vl, .ref sl]))] sz) := by
  refine Met.ofW (cc := cX11_start) (maxL := 3) (ret := (some .boolean)) (by decide) rfl ?_
  intro p e s m args below meth c s₁ B hml hv9
  obtain ⟨rfl, hsz, hP, hK, hD0, hG⟩ := hv9
  have hx := B.exec
  have hb := B.bytes
  have hr := B.returns
  have hts := atoms_spec (ws := wx (.code yX11_start cX11_start 3 (some .boolean))) B.pre
  have hown : s.vm.findClass RX11 = some m.cls := findClass_of_methodNamed B.named
  have hlocks := B.notSynchronized
  subst hsz
  have hD := hD0.self (sz := s.heap.size)
  generalize hAe : va_A [(mo, .inr (12, [.int tz, .ref vl, .ref sl]))] s.heap.size = A at hD hG ⊢
  have hA : ∀ q : Nat, s.heap.size ≤ q → A q := fun q h => by rw [← hAe]; exact Or.inr h
  have hS : va_S A s.heap s.heap [] := va_S.rf
  have hP : va_P D vwCl [(mo, .inr (12, [.int tz, .ref vl, .ref sl]))] s.heap := hP
  have hl := lv_entry ([.ref mo, .int 1, .int w]) (n := 3) (Nat.le_of_ble_eq_true rfl)
  rw [lg_entry_eq]
  generalize (lg_sl ([.ref mo, .int 1, .int w]) ++ List.replicate (3 - (lg_sl ([.ref mo, .int 1, .int w])).length) Slot.unset).toArray = ls at hl ⊢
  have hl : lv_has ls 3 [(0, .ref mo), (1, .int 1), (2, .int w)] := hl
  refine lv_aload_n hx hb dX11_start_0 rfl (lv_at hl 0 rfl) ?_
  refine lv_iconst (v := 0) hx hb dX11_start_1 (by decide) ?_
  refine va_put (D := D) (ci := 12) (v := .int 0) (ty := .int) (C := RX11) (T := TX11) (N := 3) (ref := "IronwoodModel") hx hb hts in_RX11 tyX11 tyX11_ok nmX11 hown hK hP hD hS 0 rfl rfl 0 (by decide) (hts _ (mc q_1002)) (fun _ h9 => h9) rfl (by decide +kernel) rfl rfl (Nat.le_of_ble_eq_true rfl) dX11_start_2 (fun H locs hP hD hS => ?_)
  have hP : va_P D vwCl [(mo, .inr (12, [.int 0, .ref vl, .ref sl]))] H := hP
  have hD : va_D A [(mo, .inr (12, [.int 0, .ref vl, .ref sl]))] := hD
  refine lv_aload_n hx hb dX11_start_5 rfl (lv_at hl 0 rfl) ?_
  refine lv_iload_n hx hb dX11_start_6 rfl (lv_at hl 1 rfl) ?_
  refine lv_iload_n hx hb dX11_start_7 rfl (lv_at hl 2 rfl) ?_
  refine kc_i (wr := []) (va_runV (As := [.int 1, .int w]) (rest := []) ⟨hx, hb, hml, hown, hts⟩ (k_refuse_1 l hfl ae D cI cJ cS cO mo vl sl w _ hw0) (cwV 2 hts (gV q_1032 q_1029 q_1031 q_64 q_104) rfl rfl rfl (by decide +kernel) ⟨Nat.le_of_ble_eq_true rfl, Nat.le_of_ble_eq_true rfl⟩) ⟨Pw.blind, va_recv hK hP (ci := 12) (q0 := 0) rfl rfl, Pw.mk_call hP hK hD hS hA hG [0] rfl (by decide)⟩ rfl rfl hl.1 rfl (lv_room (Nat.le_of_ble_eq_true rfl)) dX11_start_8 ⟨Nat.le_of_ble_eq_true rfl, Nat.le_of_ble_eq_true rfl⟩) hP hD hS hA [0] [] rfl rfl (by decide) (by decide) (fun r_1 u_2 H locs hw hP hD hS => ?_)
  obtain rfl : r_1 = 1 := hw
  have hP : va_P D vwCl [(mo, .inr (12, [.int w, .ref vl, .ref sl]))] H := hP
  have hD : va_D A [(mo, .inr (12, [.int w, .ref vl, .ref sl]))] := hD
  have hP := hP.sub (ws' := [(mo, .inr (12, [.int w, .ref vl, .ref sl]))]) [0] rfl
  have hD := hD.sub (ws' := [(mo, .inr (12, [.int w, .ref vl, .ref sl]))]) [0] (by decide) rfl
  exact ke_i hx hb hr (by first | rfl | decide) () (rfl) hP hD hS (Nat.le_of_ble_eq_true rfl) (Nat.le_of_ble_eq_true rfl) hlocks dX11_start_11

set_option maxHeartbeats 4000000 in
set_option maxRecDepth 100000 in
theorem k_plain (l : Launch) (hfl : l.stackTraces = false) (ae : Nat) (D : va_G) (cI cJ cS cO : ClassId) (mo : Nat) (vl : Nat) (sl : Nat) (tz : Int32) (v : Int32) (sz : Nat)  : Met l yX11_plain (wx (.code yX11_plain cX11_plain 2 (some .int))) ({ frames := 0, cells := 0, slots := 0, locals := 0 }) (va_Pc [.ref mo, .int v] (Pw ae D vwCl [(cI, .int), (cJ, .long), (cS, .object "IronwoodModel$State"), (cO, .object "java/lang/Object")] [(mo, .inr (12, [.int tz, .ref vl, .ref sl]))] sz)) (va_Qi (fun (r : Int32) (u : Unit) => r = v) (Bw D vwCl (fun (u : Unit) => [(mo, .inr (12, [.int 0, .ref vl, .ref sl]))]) (va_A [(mo, .inr (12, [.int tz, .ref vl, .ref sl]))] sz)) (va_A [(mo, .inr (12, [.int tz, .ref vl, .ref sl]))] sz)) 0 0 (va_A [(mo, .inr (12, [.int tz, .ref vl, .ref sl]))] sz) := by
  refine Met.ofW (cc := cX11_plain) (maxL := 2) (ret := (some .int)) (by decide) rfl ?_
  intro p e s m args below meth c s₁ B hml hv9
  obtain ⟨rfl, hsz, hP, hK, hD0, hG⟩ := hv9
  have hx := B.exec
  have hb := B.bytes
  have hr := B.returns
  have hts := atoms_spec (ws := wx (.code yX11_plain cX11_plain 2 (some .int))) B.pre
  have hown : s.vm.findClass RX11 = some m.cls := findClass_of_methodNamed B.named
  have hlocks := B.notSynchronized
  subst hsz
  have hD := hD0.self (sz := s.heap.size)
  generalize hAe : va_A [(mo, .inr (12, [.int tz, .ref vl, .ref sl]))] s.heap.size = A at hD hG ⊢
  have hA : ∀ q : Nat, s.heap.size ≤ q → A q := fun q h => by rw [← hAe]; exact Or.inr h
  have hS : va_S A s.heap s.heap [] := va_S.rf
  have hP : va_P D vwCl [(mo, .inr (12, [.int tz, .ref vl, .ref sl]))] s.heap := hP
  have hl := lv_entry ([.ref mo, .int v]) (n := 2) (Nat.le_of_ble_eq_true rfl)
  rw [lg_entry_eq]
  generalize (lg_sl ([.ref mo, .int v]) ++ List.replicate (2 - (lg_sl ([.ref mo, .int v])).length) Slot.unset).toArray = ls at hl ⊢
  have hl : lv_has ls 2 [(0, .ref mo), (1, .int v)] := hl
  refine lv_aload_n hx hb dX11_plain_0 rfl (lv_at hl 0 rfl) ?_
  refine lv_iconst (v := 0) hx hb dX11_plain_1 (by decide) ?_
  refine va_put (D := D) (ci := 12) (v := .int 0) (ty := .int) (C := RX11) (T := TX11) (N := 3) (ref := "IronwoodModel") hx hb hts in_RX11 tyX11 tyX11_ok nmX11 hown hK hP hD hS 0 rfl rfl 0 (by decide) (hts _ (mc q_1002)) (fun _ h9 => h9) rfl (by decide +kernel) rfl rfl (Nat.le_of_ble_eq_true rfl) dX11_plain_2 (fun H locs hP hD hS => ?_)
  have hP : va_P D vwCl [(mo, .inr (12, [.int 0, .ref vl, .ref sl]))] H := hP
  have hD : va_D A [(mo, .inr (12, [.int 0, .ref vl, .ref sl]))] := hD
  refine lv_iload_n hx hb dX11_plain_5 rfl (lv_at hl 1 rfl) ?_
  have hP := hP.sub (ws' := [(mo, .inr (12, [.int 0, .ref vl, .ref sl]))]) [0] rfl
  have hD := hD.sub (ws' := [(mo, .inr (12, [.int 0, .ref vl, .ref sl]))]) [0] (by decide) rfl
  exact ke_i hx hb hr (by first | rfl | decide) () (rfl) hP hD hS (Nat.le_of_ble_eq_true rfl) (Nat.le_of_ble_eq_true rfl) hlocks dX11_plain_6

set_option maxHeartbeats 4000000 in
set_option maxRecDepth 100000 in
theorem k_isNoVariable (l : Launch) (hfl : l.stackTraces = false) (ae : Nat) (D : va_G) (cI cJ cS cO : ClassId) (mo : Nat) (vl : Nat) (sl : Nat) (v : Int32) (sz : Nat)  : Met l yX11_isNoVariable (wx (.code yX11_isNoVariable cX11_isNoVariable 2 (some .boolean))) ({ frames := 1, cells := 0, slots := 0, locals := 22 }) (va_Pc [.ref mo, .int v] (Pw ae D vwCl [(cI, .int), (cJ, .long), (cS, .object "IronwoodModel$State"), (cO, .object "java/lang/Object")] [(mo, .inr (12, [.int 0, .ref vl, .ref sl])), (vl, .inr (0, [.int 0, .ref ae, .int 0]))] sz)) (va_Qi (fun (r : Int32) (u : Unit) => r = 1) (Bw D vwCl (fun (u : Unit) => [(mo, .inr (12, [.int 0, .ref vl, .ref sl])), (vl, .inr (0, [.int 0, .ref ae, .int 0]))]) (va_A [(mo, .inr (12, [.int 0, .ref vl, .ref sl])), (vl, .inr (0, [.int 0, .ref ae, .int 0]))] sz)) (va_A [(mo, .inr (12, [.int 0, .ref vl, .ref sl])), (vl, .inr (0, [.int 0, .ref ae, .int 0]))] sz)) 0 0 (va_A [(mo, .inr (12, [.int 0, .ref vl, .ref sl])), (vl, .inr (0, [.int 0, .ref ae, .int 0]))] sz) := by
  refine Met.ofW (cc := cX11_isNoVariable) (maxL := 2) (ret := (some .boolean)) (by decide) rfl ?_
  intro p e s m args below meth c s₁ B hml hv9
  obtain ⟨rfl, hsz, hP, hK, hD0, hG⟩ := hv9
  have hx := B.exec
  have hb := B.bytes
  have hr := B.returns
  have hts := atoms_spec (ws := wx (.code yX11_isNoVariable cX11_isNoVariable 2 (some .boolean))) B.pre
  have hown : s.vm.findClass RX11 = some m.cls := findClass_of_methodNamed B.named
  have hlocks := B.notSynchronized
  subst hsz
  have hD := hD0.self (sz := s.heap.size)
  generalize hAe : va_A [(mo, .inr (12, [.int 0, .ref vl, .ref sl])), (vl, .inr (0, [.int 0, .ref ae, .int 0]))] s.heap.size = A at hD hG ⊢
  have hA : ∀ q : Nat, s.heap.size ≤ q → A q := fun q h => by rw [← hAe]; exact Or.inr h
  have hS : va_S A s.heap s.heap [] := va_S.rf
  have hP : va_P D vwCl [(mo, .inr (12, [.int 0, .ref vl, .ref sl])), (vl, .inr (0, [.int 0, .ref ae, .int 0]))] s.heap := hP
  have hl := lv_entry ([.ref mo, .int v]) (n := 2) (Nat.le_of_ble_eq_true rfl)
  rw [lg_entry_eq]
  generalize (lg_sl ([.ref mo, .int v]) ++ List.replicate (2 - (lg_sl ([.ref mo, .int v])).length) Slot.unset).toArray = ls at hl ⊢
  have hl : lv_has ls 2 [(0, .ref mo), (1, .int v)] := hl
  refine lv_iload_n hx hb dX11_isNoVariable_0 rfl (lv_at hl 1 rfl) ?_
  refine lv_iconst (v := 0) hx hb dX11_isNoVariable_1 (by decide) ?_
  refine lv_aload_n hx hb dX11_isNoVariable_2 rfl (lv_at hl 0 rfl) ?_
  refine va_get (D := D) (ci := 12) (v := .ref vl) (C := RX11) (T := TX11) (N := 3) (ref := "IronwoodModel") hx hb hts in_RX11 hown hK hP 0 rfl rfl 1 (by decide) (hts _ (mc q_1003)) (fun _ h9 => h9) rfl dX11_isNoVariable_3 ?_
  refine kc_i (wr := [(mo, .inr (12, [.int 0, .ref vl, .ref sl]))]) (va_runV (As := []) (rest := [.int 0, .int v]) ⟨hx, hb, hml, hown, hts⟩ (k_al_size l hfl ae D cI cJ cS cO vl 0 ae 0 _) (cwV 0 hts (gV q_1036 q_1033 q_1034 q_1035 q_107) rfl rfl rfl (by decide +kernel) ⟨Nat.le_of_ble_eq_true rfl, Nat.le_of_ble_eq_true rfl⟩) ⟨Pw.blind, va_recv hK hP (ci := 0) (q0 := 1) rfl rfl, Pw.mk_call hP hK hD hS hA hG [1] rfl (by decide)⟩ rfl rfl hl.1 rfl (lv_room (Nat.le_of_ble_eq_true rfl)) dX11_isNoVariable_6 ⟨Nat.le_of_ble_eq_true rfl, Nat.le_of_ble_eq_true rfl⟩) hP hD hS hA [1] [0] rfl rfl (by decide) (by decide) (fun r_1 u_2 H locs hw hP hD hS => ?_)
  obtain rfl : r_1 = 0 := hw
  have hP : va_P D vwCl [(mo, .inr (12, [.int 0, .ref vl, .ref sl])), (vl, .inr (0, [.int 0, .ref ae, .int 0]))] H := hP
  have hD : va_D A [(mo, .inr (12, [.int 0, .ref vl, .ref sl])), (vl, .inr (0, [.int 0, .ref ae, .int 0]))] := hD
  refine lv_iconst (v := 1) hx hb dX11_isNoVariable_9 (by decide) ?_
  refine lv_isub hx hb dX11_isNoVariable_10 ?_
  refine lv_topi (fun x_3 ex_3 => ?_)
  obtain rfl : x_3 = (-1) := ex_3.trans (by decide)
  refine kc_i (wr := [(mo, .inr (12, [.int 0, .ref vl, .ref sl])), (vl, .inr (0, [.int 0, .ref ae, .int 0]))]) (va_runS (As := [.int v, .int 0, .int (-1)]) (rest := []) ⟨hx, hb, hml, hown, hts⟩ (k_isIn_n l hfl ae D cI cJ cS cO v 0 (-1) _ (k_no v)) (cwS 3 hts (gS q_1024 q_1022 q_1023 q_104) rfl rfl rfl (by decide +kernel) ⟨Nat.le_of_ble_eq_true rfl, Nat.le_of_ble_eq_true rfl⟩) ⟨Pw.blind, Pw.mk_call hP hK hD hS hA hG [] rfl (by decide)⟩ rfl rfl hl.1 rfl (lv_room (Nat.le_of_ble_eq_true rfl)) dX11_isNoVariable_11 ⟨Nat.le_of_ble_eq_true rfl, Nat.le_of_ble_eq_true rfl⟩) hP hD hS hA [] [0, 1] rfl rfl (by decide) (by decide) (fun r_4 u_5 H locs hw hP hD hS => ?_)
  obtain rfl : r_4 = 0 := hw
  have hP : va_P D vwCl [(mo, .inr (12, [.int 0, .ref vl, .ref sl])), (vl, .inr (0, [.int 0, .ref ae, .int 0]))] H := hP
  have hD : va_D A [(mo, .inr (12, [.int 0, .ref vl, .ref sl])), (vl, .inr (0, [.int 0, .ref ae, .int 0]))] := hD
  refine lv_if_ne (tgt := 21) hx hb dX11_isNoVariable_14 (by decide) (fun c_14 => absurd (by decide) c_14) (fun c_14 => ?_)
  refine lv_iconst (v := 1) hx hb dX11_isNoVariable_17 (by decide) ?_
  refine lv_goto (tgt := 22) hx hb dX11_isNoVariable_18 (by decide) ?_
  have hP := hP.sub (ws' := [(mo, .inr (12, [.int 0, .ref vl, .ref sl])), (vl, .inr (0, [.int 0, .ref ae, .int 0]))]) [0, 1] rfl
  have hD := hD.sub (ws' := [(mo, .inr (12, [.int 0, .ref vl, .ref sl])), (vl, .inr (0, [.int 0, .ref ae, .int 0]))]) [0, 1] (by decide) rfl
  exact ke_i hx hb hr (by first | rfl | decide) () (rfl) hP hD hS (Nat.le_of_ble_eq_true rfl) (Nat.le_of_ble_eq_true rfl) hlocks dX11_isNoVariable_22

set_option maxHeartbeats 4000000 in
set_option maxRecDepth 100000 in
theorem k_isNoStatement (l : Launch) (hfl : l.stackTraces = false) (ae : Nat) (D : va_G) (cI cJ cS cO : ClassId) (mo : Nat) (vl : Nat) (sl : Nat) (v : Int32) (sz : Nat)  : Met l yX11_isNoStatement (wx (.code yX11_isNoStatement cX11_isNoStatement 2 (some .boolean))) ({ frames := 2, cells := 0, slots := 0, locals := 44 }) (va_Pc [.ref mo, .int v] (Pw ae D vwCl [(cI, .int), (cJ, .long), (cS, .object "IronwoodModel$State"), (cO, .object "java/lang/Object")] [(mo, .inr (12, [.int 0, .ref vl, .ref sl])), (sl, .inr (0, [.int 0, .ref ae, .int 0]))] sz)) (va_Qi (fun (r : Int32) (u : Unit) => r = 1) (Bw D vwCl (fun (u : Unit) => [(mo, .inr (12, [.int 1, .ref vl, .ref sl])), (sl, .inr (0, [.int 0, .ref ae, .int 0]))]) (va_A [(mo, .inr (12, [.int 0, .ref vl, .ref sl])), (sl, .inr (0, [.int 0, .ref ae, .int 0]))] sz)) (va_A [(mo, .inr (12, [.int 0, .ref vl, .ref sl])), (sl, .inr (0, [.int 0, .ref ae, .int 0]))] sz)) 0 0 (va_A [(mo, .inr (12, [.int 0, .ref vl, .ref sl])), (sl, .inr (0, [.int 0, .ref ae, .int 0]))] sz) := by
  refine Met.ofW (cc := cX11_isNoStatement) (maxL := 2) (ret := (some .boolean)) (by decide) rfl ?_
  intro p e s m args below meth c s₁ B hml hv9
  obtain ⟨rfl, hsz, hP, hK, hD0, hG⟩ := hv9
  have hx := B.exec
  have hb := B.bytes
  have hr := B.returns
  have hts := atoms_spec (ws := wx (.code yX11_isNoStatement cX11_isNoStatement 2 (some .boolean))) B.pre
  have hown : s.vm.findClass RX11 = some m.cls := findClass_of_methodNamed B.named
  have hlocks := B.notSynchronized
  subst hsz
  have hD := hD0.self (sz := s.heap.size)
  generalize hAe : va_A [(mo, .inr (12, [.int 0, .ref vl, .ref sl])), (sl, .inr (0, [.int 0, .ref ae, .int 0]))] s.heap.size = A at hD hG ⊢
  have hA : ∀ q : Nat, s.heap.size ≤ q → A q := fun q h => by rw [← hAe]; exact Or.inr h
  have hS : va_S A s.heap s.heap [] := va_S.rf
  have hP : va_P D vwCl [(mo, .inr (12, [.int 0, .ref vl, .ref sl])), (sl, .inr (0, [.int 0, .ref ae, .int 0]))] s.heap := hP
  have hl := lv_entry ([.ref mo, .int v]) (n := 2) (Nat.le_of_ble_eq_true rfl)
  rw [lg_entry_eq]
  generalize (lg_sl ([.ref mo, .int v]) ++ List.replicate (2 - (lg_sl ([.ref mo, .int v])).length) Slot.unset).toArray = ls at hl ⊢
  have hl : lv_has ls 2 [(0, .ref mo), (1, .int v)] := hl
  refine lv_aload_n hx hb dX11_isNoStatement_0 rfl (lv_at hl 0 rfl) ?_
  refine lv_iload_n hx hb dX11_isNoStatement_1 rfl (lv_at hl 1 rfl) ?_
  refine lv_iconst (v := 0) hx hb dX11_isNoStatement_2 (by decide) ?_
  refine lv_aload_n hx hb dX11_isNoStatement_3 rfl (lv_at hl 0 rfl) ?_
  refine va_get (D := D) (ci := 12) (v := .ref sl) (C := RX11) (T := TX11) (N := 3) (ref := "IronwoodModel") hx hb hts in_RX11 hown hK hP 0 rfl rfl 2 (by decide) (hts _ (mc q_1005)) (fun _ h9 => h9) rfl dX11_isNoStatement_4 ?_
  refine kc_i (wr := [(mo, .inr (12, [.int 0, .ref vl, .ref sl]))]) (va_runV (As := []) (rest := [.int 0, .int v, .ref mo]) ⟨hx, hb, hml, hown, hts⟩ (k_al_size l hfl ae D cI cJ cS cO sl 0 ae 0 _) (cwV 0 hts (gV q_1036 q_1033 q_1034 q_1035 q_107) rfl rfl rfl (by decide +kernel) ⟨Nat.le_of_ble_eq_true rfl, Nat.le_of_ble_eq_true rfl⟩) ⟨Pw.blind, va_recv hK hP (ci := 0) (q0 := 1) rfl rfl, Pw.mk_call hP hK hD hS hA hG [1] rfl (by decide)⟩ rfl rfl hl.1 rfl (lv_room (Nat.le_of_ble_eq_true rfl)) dX11_isNoStatement_7 ⟨Nat.le_of_ble_eq_true rfl, Nat.le_of_ble_eq_true rfl⟩) hP hD hS hA [1] [0] rfl rfl (by decide) (by decide) (fun r_1 u_2 H locs hw hP hD hS => ?_)
  obtain rfl : r_1 = 0 := hw
  have hP : va_P D vwCl [(mo, .inr (12, [.int 0, .ref vl, .ref sl])), (sl, .inr (0, [.int 0, .ref ae, .int 0]))] H := hP
  have hD : va_D A [(mo, .inr (12, [.int 0, .ref vl, .ref sl])), (sl, .inr (0, [.int 0, .ref ae, .int 0]))] := hD
  refine lv_iconst (v := 1) hx hb dX11_isNoStatement_10 (by decide) ?_
  refine lv_isub hx hb dX11_isNoStatement_11 ?_
  refine lv_topi (fun x_3 ex_3 => ?_)
  obtain rfl : x_3 = (-1) := ex_3.trans (by decide)
  refine kc_i (wr := [(mo, .inr (12, [.int 0, .ref vl, .ref sl])), (sl, .inr (0, [.int 0, .ref ae, .int 0]))]) (va_runS (As := [.int v, .int 0, .int (-1)]) (rest := [.ref mo]) ⟨hx, hb, hml, hown, hts⟩ (k_isIn_n l hfl ae D cI cJ cS cO v 0 (-1) _ (k_no v)) (cwS 3 hts (gS q_1024 q_1022 q_1023 q_104) rfl rfl rfl (by decide +kernel) ⟨Nat.le_of_ble_eq_true rfl, Nat.le_of_ble_eq_true rfl⟩) ⟨Pw.blind, Pw.mk_call hP hK hD hS hA hG [] rfl (by decide)⟩ rfl rfl hl.1 rfl (lv_room (Nat.le_of_ble_eq_true rfl)) dX11_isNoStatement_12 ⟨Nat.le_of_ble_eq_true rfl, Nat.le_of_ble_eq_true rfl⟩) hP hD hS hA [] [0, 1] rfl rfl (by decide) (by decide) (fun r_4 u_5 H locs hw hP hD hS => ?_)
  obtain rfl : r_4 = 0 := hw
  have hP : va_P D vwCl [(mo, .inr (12, [.int 0, .ref vl, .ref sl])), (sl, .inr (0, [.int 0, .ref ae, .int 0]))] H := hP
  have hD : va_D A [(mo, .inr (12, [.int 0, .ref vl, .ref sl])), (sl, .inr (0, [.int 0, .ref ae, .int 0]))] := hD
  refine lv_if_ne (tgt := 22) hx hb dX11_isNoStatement_15 (by decide) (fun c_15 => absurd (by decide) c_15) (fun c_15 => ?_)
  refine lv_iconst (v := 1) hx hb dX11_isNoStatement_18 (by decide) ?_
  refine lv_goto (tgt := 23) hx hb dX11_isNoStatement_19 (by decide) ?_
  refine lv_iconst (v := 1) hx hb dX11_isNoStatement_23 (by decide) ?_
  refine kc_i (wr := [(sl, .inr (0, [.int 0, .ref ae, .int 0]))]) (va_runV (As := [.int 1, .int 1]) (rest := []) ⟨hx, hb, hml, hown, hts⟩ (k_start_1 l hfl ae D cI cJ cS cO mo vl sl 0 1 _ (by decide)) (cwV 2 hts (gV q_1028 q_1025 q_1027 q_63 q_104) rfl rfl rfl (by decide +kernel) ⟨Nat.le_of_ble_eq_true rfl, Nat.le_of_ble_eq_true rfl⟩) ⟨Pw.blind, va_recv hK hP (ci := 12) (q0 := 0) rfl rfl, Pw.mk_call hP hK hD hS hA hG [0] rfl (by decide)⟩ rfl rfl hl.1 rfl (lv_room (Nat.le_of_ble_eq_true rfl)) dX11_isNoStatement_24 ⟨Nat.le_of_ble_eq_true rfl, Nat.le_of_ble_eq_true rfl⟩) hP hD hS hA [0] [1] rfl rfl (by decide) (by decide) (fun r_6 u_7 H locs hw hP hD hS => ?_)
  obtain rfl : r_6 = 1 := hw
  have hP : va_P D vwCl [(sl, .inr (0, [.int 0, .ref ae, .int 0])), (mo, .inr (12, [.int 1, .ref vl, .ref sl]))] H := hP
  have hD : va_D A [(sl, .inr (0, [.int 0, .ref ae, .int 0])), (mo, .inr (12, [.int 1, .ref vl, .ref sl]))] := hD
  have hP := hP.sub (ws' := [(mo, .inr (12, [.int 1, .ref vl, .ref sl])), (sl, .inr (0, [.int 0, .ref ae, .int 0]))]) [1, 0] rfl
  have hD := hD.sub (ws' := [(mo, .inr (12, [.int 1, .ref vl, .ref sl])), (sl, .inr (0, [.int 0, .ref ae, .int 0]))]) [1, 0] (by decide) rfl
  exact ke_i hx hb hr (by first | rfl | decide) () (rfl) hP hD hS (Nat.le_of_ble_eq_true rfl) (Nat.le_of_ble_eq_true rfl) hlocks dX11_isNoStatement_27

set_option maxHeartbeats 4000000 in
set_option maxRecDepth 100000 in
theorem m_write_x (l : Launch) (hfl : l.stackTraces = false) (ae : Nat) (D : va_G) (cI cJ cS cO : ClassId) (mo : Nat) (vl : Nat) (sl : Nat) (v0 : Int32) (v1 : Int32) (sz : Nat)  : Met l yX11_write (wx (.code yX11_write cX11_write 4 (some .int))) ({ frames := 2, cells := 0, slots := 0, locals := 44 }) (va_Pc [.ref mo, .int v0, .int v1] (Pw ae D vwCl [(cI, .int), (cJ, .long), (cS, .object "IronwoodModel$State"), (cO, .object "java/lang/Object")] [(mo, .inr (12, [.int 0, .ref vl, .ref sl])), (vl, .inr (0, [.int 0, .ref ae, .int 0]))] sz)) (va_Qi (fun (r : Int32) (u : Unit) => r = 0) (Bw D vwCl (fun (u : Unit) => [(mo, .inr (12, [.int 1, .ref vl, .ref sl])), (vl, .inr (0, [.int 0, .ref ae, .int 0]))]) (va_A [(mo, .inr (12, [.int 0, .ref vl, .ref sl])), (vl, .inr (0, [.int 0, .ref ae, .int 0]))] sz)) (va_A [(mo, .inr (12, [.int 0, .ref vl, .ref sl])), (vl, .inr (0, [.int 0, .ref ae, .int 0]))] sz)) 0 0 (va_A [(mo, .inr (12, [.int 0, .ref vl, .ref sl])), (vl, .inr (0, [.int 0, .ref ae, .int 0]))] sz) := by
  refine Met.ofW (cc := cX11_write) (maxL := 4) (ret := (some .int)) (by decide) rfl ?_
  intro p e s m args below meth c s₁ B hml hv9
  obtain ⟨rfl, hsz, hP, hK, hD0, hG⟩ := hv9
  have hx := B.exec
  have hb := B.bytes
  have hr := B.returns
  have hts := atoms_spec (ws := wx (.code yX11_write cX11_write 4 (some .int))) B.pre
  have hown : s.vm.findClass RX11 = some m.cls := findClass_of_methodNamed B.named
  have hlocks := B.notSynchronized
  subst hsz
  have hD := hD0.self (sz := s.heap.size)
  generalize hAe : va_A [(mo, .inr (12, [.int 0, .ref vl, .ref sl])), (vl, .inr (0, [.int 0, .ref ae, .int 0]))] s.heap.size = A at hD hG ⊢
  have hA : ∀ q : Nat, s.heap.size ≤ q → A q := fun q h => by rw [← hAe]; exact Or.inr h
  have hS : va_S A s.heap s.heap [] := va_S.rf
  have hP : va_P D vwCl [(mo, .inr (12, [.int 0, .ref vl, .ref sl])), (vl, .inr (0, [.int 0, .ref ae, .int 0]))] s.heap := hP
  have hl := lv_entry ([.ref mo, .int v0, .int v1]) (n := 4) (Nat.le_of_ble_eq_true rfl)
  rw [lg_entry_eq]
  generalize (lg_sl ([.ref mo, .int v0, .int v1]) ++ List.replicate (4 - (lg_sl ([.ref mo, .int v0, .int v1])).length) Slot.unset).toArray = ls at hl ⊢
  have hl : lv_has ls 4 [(0, .ref mo), (1, .int v0), (2, .int v1)] := hl
  refine lv_aload_n hx hb dX11_write_0 rfl (lv_at hl 0 rfl) ?_
  refine lv_aload_n hx hb dX11_write_1 rfl (lv_at hl 0 rfl) ?_
  refine lv_iload_n hx hb dX11_write_2 rfl (lv_at hl 1 rfl) ?_
  refine kc_i (wr := []) (va_runV (As := [.int v0]) (rest := [.ref mo]) ⟨hx, hb, hml, hown, hts⟩ (k_isNoVariable l hfl ae D cI cJ cS cO mo vl sl v0 _) (cwV 1 hts (gV q_1121 q_1118 q_1120 q_68 q_104) rfl rfl rfl (by decide +kernel) ⟨Nat.le_of_ble_eq_true rfl, Nat.le_of_ble_eq_true rfl⟩) ⟨Pw.blind, va_recv hK hP (ci := 12) (q0 := 0) rfl rfl, Pw.mk_call hP hK hD hS hA hG [0, 1] rfl (by decide)⟩ rfl rfl hl.1 rfl (lv_room (Nat.le_of_ble_eq_true rfl)) dX11_write_3 ⟨Nat.le_of_ble_eq_true rfl, Nat.le_of_ble_eq_true rfl⟩) hP hD hS hA [0, 1] [] rfl rfl (by decide) (by decide) (fun r_1 u_2 H locs hw hP hD hS => ?_)
  obtain rfl : r_1 = 1 := hw
  have hP : va_P D vwCl [(mo, .inr (12, [.int 0, .ref vl, .ref sl])), (vl, .inr (0, [.int 0, .ref ae, .int 0]))] H := hP
  have hD : va_D A [(mo, .inr (12, [.int 0, .ref vl, .ref sl])), (vl, .inr (0, [.int 0, .ref ae, .int 0]))] := hD
  refine lv_iconst (v := 1) hx hb dX11_write_6 (by decide) ?_
  refine kc_i (wr := [(vl, .inr (0, [.int 0, .ref ae, .int 0]))]) (va_runV (As := [.int 1, .int 1]) (rest := []) ⟨hx, hb, hml, hown, hts⟩ (k_start_1 l hfl ae D cI cJ cS cO mo vl sl 0 1 _ (by decide)) (cwV 2 hts (gV q_1028 q_1025 q_1027 q_63 q_104) rfl rfl rfl (by decide +kernel) ⟨Nat.le_of_ble_eq_true rfl, Nat.le_of_ble_eq_true rfl⟩) ⟨Pw.blind, va_recv hK hP (ci := 12) (q0 := 0) rfl rfl, Pw.mk_call hP hK hD hS hA hG [0] rfl (by decide)⟩ rfl rfl hl.1 rfl (lv_room (Nat.le_of_ble_eq_true rfl)) dX11_write_7 ⟨Nat.le_of_ble_eq_true rfl, Nat.le_of_ble_eq_true rfl⟩) hP hD hS hA [0] [1] rfl rfl (by decide) (by decide) (fun r_3 u_4 H locs hw hP hD hS => ?_)
  obtain rfl : r_3 = 1 := hw
  have hP : va_P D vwCl [(vl, .inr (0, [.int 0, .ref ae, .int 0])), (mo, .inr (12, [.int 1, .ref vl, .ref sl]))] H := hP
  have hD : va_D A [(vl, .inr (0, [.int 0, .ref ae, .int 0])), (mo, .inr (12, [.int 1, .ref vl, .ref sl]))] := hD
  refine lv_if_eq (tgt := 15) hx hb dX11_write_10 (by decide) (fun c_10 => absurd c_10 (by decide)) (fun c_10 => ?_)
  refine lv_iconst (v := 0) hx hb dX11_write_13 (by decide) ?_
  have hP := hP.sub (ws' := [(mo, .inr (12, [.int 1, .ref vl, .ref sl])), (vl, .inr (0, [.int 0, .ref ae, .int 0]))]) [1, 0] rfl
  have hD := hD.sub (ws' := [(mo, .inr (12, [.int 1, .ref vl, .ref sl])), (vl, .inr (0, [.int 0, .ref ae, .int 0]))]) [1, 0] (by decide) rfl
  exact ke_i hx hb hr (by first | rfl | decide) () (rfl) hP hD hS (Nat.le_of_ble_eq_true rfl) (Nat.le_of_ble_eq_true rfl) hlocks dX11_write_14

set_option maxHeartbeats 4000000 in
set_option maxRecDepth 100000 in
theorem m_move_x (l : Launch) (hfl : l.stackTraces = false) (ae : Nat) (D : va_G) (cI cJ cS cO : ClassId) (mo : Nat) (vl : Nat) (sl : Nat) (v0 : Int32) (v1 : Int32) (v2 : Int32) (sz : Nat)  : Met l yX11_move (wx (.code yX11_move cX11_move 5 (some .int))) ({ frames := 2, cells := 0, slots := 0, locals := 44 }) (va_Pc [.ref mo, .int v0, .int v1, .int v2] (Pw ae D vwCl [(cI, .int), (cJ, .long), (cS, .object "IronwoodModel$State"), (cO, .object "java/lang/Object")] [(mo, .inr (12, [.int 0, .ref vl, .ref sl])), (vl, .inr (0, [.int 0, .ref ae, .int 0]))] sz)) (va_Qi (fun (r : Int32) (u : Unit) => r = 0) (Bw D vwCl (fun (u : Unit) => [(mo, .inr (12, [.int 1, .ref vl, .ref sl])), (vl, .inr (0, [.int 0, .ref ae, .int 0]))]) (va_A [(mo, .inr (12, [.int 0, .ref vl, .ref sl])), (vl, .inr (0, [.int 0, .ref ae, .int 0]))] sz)) (va_A [(mo, .inr (12, [.int 0, .ref vl, .ref sl])), (vl, .inr (0, [.int 0, .ref ae, .int 0]))] sz)) 0 0 (va_A [(mo, .inr (12, [.int 0, .ref vl, .ref sl])), (vl, .inr (0, [.int 0, .ref ae, .int 0]))] sz) := by
  refine Met.ofW (cc := cX11_move) (maxL := 5) (ret := (some .int)) (by decide) rfl ?_
  intro p e s m args below meth c s₁ B hml hv9
  obtain ⟨rfl, hsz, hP, hK, hD0, hG⟩ := hv9
  have hx := B.exec
  have hb := B.bytes
  have hr := B.returns
  have hts := atoms_spec (ws := wx (.code yX11_move cX11_move 5 (some .int))) B.pre
  have hown : s.vm.findClass RX11 = some m.cls := findClass_of_methodNamed B.named
  have hlocks := B.notSynchronized
  subst hsz
  have hD := hD0.self (sz := s.heap.size)
  generalize hAe : va_A [(mo, .inr (12, [.int 0, .ref vl, .ref sl])), (vl, .inr (0, [.int 0, .ref ae, .int 0]))] s.heap.size = A at hD hG ⊢
  have hA : ∀ q : Nat, s.heap.size ≤ q → A q := fun q h => by rw [← hAe]; exact Or.inr h
  have hS : va_S A s.heap s.heap [] := va_S.rf
  have hP : va_P D vwCl [(mo, .inr (12, [.int 0, .ref vl, .ref sl])), (vl, .inr (0, [.int 0, .ref ae, .int 0]))] s.heap := hP
  have hl := lv_entry ([.ref mo, .int v0, .int v1, .int v2]) (n := 5) (Nat.le_of_ble_eq_true rfl)
  rw [lg_entry_eq]
  generalize (lg_sl ([.ref mo, .int v0, .int v1, .int v2]) ++ List.replicate (5 - (lg_sl ([.ref mo, .int v0, .int v1, .int v2])).length) Slot.unset).toArray = ls at hl ⊢
  have hl : lv_has ls 5 [(0, .ref mo), (1, .int v0), (2, .int v1), (3, .int v2)] := hl
  refine lv_aload_n hx hb dX11_move_0 rfl (lv_at hl 0 rfl) ?_
  refine lv_aload_n hx hb dX11_move_1 rfl (lv_at hl 0 rfl) ?_
  refine lv_iload_n hx hb dX11_move_2 rfl (lv_at hl 1 rfl) ?_
  refine kc_i (wr := []) (va_runV (As := [.int v0]) (rest := [.ref mo]) ⟨hx, hb, hml, hown, hts⟩ (k_isNoVariable l hfl ae D cI cJ cS cO mo vl sl v0 _) (cwV 1 hts (gV q_1121 q_1118 q_1120 q_68 q_104) rfl rfl rfl (by decide +kernel) ⟨Nat.le_of_ble_eq_true rfl, Nat.le_of_ble_eq_true rfl⟩) ⟨Pw.blind, va_recv hK hP (ci := 12) (q0 := 0) rfl rfl, Pw.mk_call hP hK hD hS hA hG [0, 1] rfl (by decide)⟩ rfl rfl hl.1 rfl (lv_room (Nat.le_of_ble_eq_true rfl)) dX11_move_3 ⟨Nat.le_of_ble_eq_true rfl, Nat.le_of_ble_eq_true rfl⟩) hP hD hS hA [0, 1] [] rfl rfl (by decide) (by decide) (fun r_1 u_2 H locs hw hP hD hS => ?_)
  obtain rfl : r_1 = 1 := hw
  have hP : va_P D vwCl [(mo, .inr (12, [.int 0, .ref vl, .ref sl])), (vl, .inr (0, [.int 0, .ref ae, .int 0]))] H := hP
  have hD : va_D A [(mo, .inr (12, [.int 0, .ref vl, .ref sl])), (vl, .inr (0, [.int 0, .ref ae, .int 0]))] := hD
  refine lv_if_ne (tgt := 17) hx hb dX11_move_6 (by decide) (fun c_6 => ?_) (fun c_6 => absurd c_6 (by decide))
  refine lv_iconst (v := 1) hx hb dX11_move_17 (by decide) ?_
  refine lv_goto (tgt := 22) hx hb dX11_move_18 (by decide) ?_
  refine lv_iconst (v := 1) hx hb dX11_move_22 (by decide) ?_
  refine kc_i (wr := [(vl, .inr (0, [.int 0, .ref ae, .int 0]))]) (va_runV (As := [.int 1, .int 1]) (rest := []) ⟨hx, hb, hml, hown, hts⟩ (k_start_1 l hfl ae D cI cJ cS cO mo vl sl 0 1 _ (by decide)) (cwV 2 hts (gV q_1028 q_1025 q_1027 q_63 q_104) rfl rfl rfl (by decide +kernel) ⟨Nat.le_of_ble_eq_true rfl, Nat.le_of_ble_eq_true rfl⟩) ⟨Pw.blind, va_recv hK hP (ci := 12) (q0 := 0) rfl rfl, Pw.mk_call hP hK hD hS hA hG [0] rfl (by decide)⟩ rfl rfl hl.1 rfl (lv_room (Nat.le_of_ble_eq_true rfl)) dX11_move_23 ⟨Nat.le_of_ble_eq_true rfl, Nat.le_of_ble_eq_true rfl⟩) hP hD hS hA [0] [1] rfl rfl (by decide) (by decide) (fun r_3 u_4 H locs hw hP hD hS => ?_)
  obtain rfl : r_3 = 1 := hw
  have hP : va_P D vwCl [(vl, .inr (0, [.int 0, .ref ae, .int 0])), (mo, .inr (12, [.int 1, .ref vl, .ref sl]))] H := hP
  have hD : va_D A [(vl, .inr (0, [.int 0, .ref ae, .int 0])), (mo, .inr (12, [.int 1, .ref vl, .ref sl]))] := hD
  refine lv_if_eq (tgt := 31) hx hb dX11_move_26 (by decide) (fun c_26 => absurd c_26 (by decide)) (fun c_26 => ?_)
  refine lv_iconst (v := 0) hx hb dX11_move_29 (by decide) ?_
  have hP := hP.sub (ws' := [(mo, .inr (12, [.int 1, .ref vl, .ref sl])), (vl, .inr (0, [.int 0, .ref ae, .int 0]))]) [1, 0] rfl
  have hD := hD.sub (ws' := [(mo, .inr (12, [.int 1, .ref vl, .ref sl])), (vl, .inr (0, [.int 0, .ref ae, .int 0]))]) [1, 0] (by decide) rfl
  exact ke_i hx hb hr (by first | rfl | decide) () (rfl) hP hD hS (Nat.le_of_ble_eq_true rfl) (Nat.le_of_ble_eq_true rfl) hlocks dX11_move_30

set_option maxHeartbeats 4000000 in
set_option maxRecDepth 100000 in
theorem m_lend_x (l : Launch) (hfl : l.stackTraces = false) (ae : Nat) (D : va_G) (cI cJ cS cO : ClassId) (mo : Nat) (vl : Nat) (sl : Nat) (v0 : Int32) (v1 : Int32) (v2 : Int32) (sz : Nat)  : Met l yX11_lend (wx (.code yX11_lend cX11_lend 5 (some .int))) ({ frames := 2, cells := 0, slots := 0, locals := 44 }) (va_Pc [.ref mo, .int v0, .int v1, .int v2] (Pw ae D vwCl [(cI, .int), (cJ, .long), (cS, .object "IronwoodModel$State"), (cO, .object "java/lang/Object")] [(mo, .inr (12, [.int 0, .ref vl, .ref sl])), (vl, .inr (0, [.int 0, .ref ae, .int 0]))] sz)) (va_Qi (fun (r : Int32) (u : Unit) => r = 0) (Bw D vwCl (fun (u : Unit) => [(mo, .inr (12, [.int 1, .ref vl, .ref sl])), (vl, .inr (0, [.int 0, .ref ae, .int 0]))]) (va_A [(mo, .inr (12, [.int 0, .ref vl, .ref sl])), (vl, .inr (0, [.int 0, .ref ae, .int 0]))] sz)) (va_A [(mo, .inr (12, [.int 0, .ref vl, .ref sl])), (vl, .inr (0, [.int 0, .ref ae, .int 0]))] sz)) 0 0 (va_A [(mo, .inr (12, [.int 0, .ref vl, .ref sl])), (vl, .inr (0, [.int 0, .ref ae, .int 0]))] sz) := by
  refine Met.ofW (cc := cX11_lend) (maxL := 5) (ret := (some .int)) (by decide) rfl ?_
  intro p e s m args below meth c s₁ B hml hv9
  obtain ⟨rfl, hsz, hP, hK, hD0, hG⟩ := hv9
  have hx := B.exec
  have hb := B.bytes
  have hr := B.returns
  have hts := atoms_spec (ws := wx (.code yX11_lend cX11_lend 5 (some .int))) B.pre
  have hown : s.vm.findClass RX11 = some m.cls := findClass_of_methodNamed B.named
  have hlocks := B.notSynchronized
  subst hsz
  have hD := hD0.self (sz := s.heap.size)
  generalize hAe : va_A [(mo, .inr (12, [.int 0, .ref vl, .ref sl])), (vl, .inr (0, [.int 0, .ref ae, .int 0]))] s.heap.size = A at hD hG ⊢
  have hA : ∀ q : Nat, s.heap.size ≤ q → A q := fun q h => by rw [← hAe]; exact Or.inr h
  have hS : va_S A s.heap s.heap [] := va_S.rf
  have hP : va_P D vwCl [(mo, .inr (12, [.int 0, .ref vl, .ref sl])), (vl, .inr (0, [.int 0, .ref ae, .int 0]))] s.heap := hP
  have hl := lv_entry ([.ref mo, .int v0, .int v1, .int v2]) (n := 5) (Nat.le_of_ble_eq_true rfl)
  rw [lg_entry_eq]
  generalize (lg_sl ([.ref mo, .int v0, .int v1, .int v2]) ++ List.replicate (5 - (lg_sl ([.ref mo, .int v0, .int v1, .int v2])).length) Slot.unset).toArray = ls at hl ⊢
  have hl : lv_has ls 5 [(0, .ref mo), (1, .int v0), (2, .int v1), (3, .int v2)] := hl
  refine lv_aload_n hx hb dX11_lend_0 rfl (lv_at hl 0 rfl) ?_
  refine lv_aload_n hx hb dX11_lend_1 rfl (lv_at hl 0 rfl) ?_
  refine lv_iload_n hx hb dX11_lend_2 rfl (lv_at hl 1 rfl) ?_
  refine kc_i (wr := []) (va_runV (As := [.int v0]) (rest := [.ref mo]) ⟨hx, hb, hml, hown, hts⟩ (k_isNoVariable l hfl ae D cI cJ cS cO mo vl sl v0 _) (cwV 1 hts (gV q_1121 q_1118 q_1120 q_68 q_104) rfl rfl rfl (by decide +kernel) ⟨Nat.le_of_ble_eq_true rfl, Nat.le_of_ble_eq_true rfl⟩) ⟨Pw.blind, va_recv hK hP (ci := 12) (q0 := 0) rfl rfl, Pw.mk_call hP hK hD hS hA hG [0, 1] rfl (by decide)⟩ rfl rfl hl.1 rfl (lv_room (Nat.le_of_ble_eq_true rfl)) dX11_lend_3 ⟨Nat.le_of_ble_eq_true rfl, Nat.le_of_ble_eq_true rfl⟩) hP hD hS hA [0, 1] [] rfl rfl (by decide) (by decide) (fun r_1 u_2 H locs hw hP hD hS => ?_)
  obtain rfl : r_1 = 1 := hw
  have hP : va_P D vwCl [(mo, .inr (12, [.int 0, .ref vl, .ref sl])), (vl, .inr (0, [.int 0, .ref ae, .int 0]))] H := hP
  have hD : va_D A [(mo, .inr (12, [.int 0, .ref vl, .ref sl])), (vl, .inr (0, [.int 0, .ref ae, .int 0]))] := hD
  refine lv_if_ne (tgt := 17) hx hb dX11_lend_6 (by decide) (fun c_6 => ?_) (fun c_6 => absurd c_6 (by decide))
  refine lv_iconst (v := 1) hx hb dX11_lend_17 (by decide) ?_
  refine lv_goto (tgt := 22) hx hb dX11_lend_18 (by decide) ?_
  refine lv_iconst (v := 1) hx hb dX11_lend_22 (by decide) ?_
  refine kc_i (wr := [(vl, .inr (0, [.int 0, .ref ae, .int 0]))]) (va_runV (As := [.int 1, .int 1]) (rest := []) ⟨hx, hb, hml, hown, hts⟩ (k_start_1 l hfl ae D cI cJ cS cO mo vl sl 0 1 _ (by decide)) (cwV 2 hts (gV q_1028 q_1025 q_1027 q_63 q_104) rfl rfl rfl (by decide +kernel) ⟨Nat.le_of_ble_eq_true rfl, Nat.le_of_ble_eq_true rfl⟩) ⟨Pw.blind, va_recv hK hP (ci := 12) (q0 := 0) rfl rfl, Pw.mk_call hP hK hD hS hA hG [0] rfl (by decide)⟩ rfl rfl hl.1 rfl (lv_room (Nat.le_of_ble_eq_true rfl)) dX11_lend_23 ⟨Nat.le_of_ble_eq_true rfl, Nat.le_of_ble_eq_true rfl⟩) hP hD hS hA [0] [1] rfl rfl (by decide) (by decide) (fun r_3 u_4 H locs hw hP hD hS => ?_)
  obtain rfl : r_3 = 1 := hw
  have hP : va_P D vwCl [(vl, .inr (0, [.int 0, .ref ae, .int 0])), (mo, .inr (12, [.int 1, .ref vl, .ref sl]))] H := hP
  have hD : va_D A [(vl, .inr (0, [.int 0, .ref ae, .int 0])), (mo, .inr (12, [.int 1, .ref vl, .ref sl]))] := hD
  refine lv_if_eq (tgt := 31) hx hb dX11_lend_26 (by decide) (fun c_26 => absurd c_26 (by decide)) (fun c_26 => ?_)
  refine lv_iconst (v := 0) hx hb dX11_lend_29 (by decide) ?_
  have hP := hP.sub (ws' := [(mo, .inr (12, [.int 1, .ref vl, .ref sl])), (vl, .inr (0, [.int 0, .ref ae, .int 0]))]) [1, 0] rfl
  have hD := hD.sub (ws' := [(mo, .inr (12, [.int 1, .ref vl, .ref sl])), (vl, .inr (0, [.int 0, .ref ae, .int 0]))]) [1, 0] (by decide) rfl
  exact ke_i hx hb hr (by first | rfl | decide) () (rfl) hP hD hS (Nat.le_of_ble_eq_true rfl) (Nat.le_of_ble_eq_true rfl) hlocks dX11_lend_30

set_option maxHeartbeats 4000000 in
set_option maxRecDepth 100000 in
theorem m_relend_x (l : Launch) (hfl : l.stackTraces = false) (ae : Nat) (D : va_G) (cI cJ cS cO : ClassId) (mo : Nat) (vl : Nat) (sl : Nat) (v0 : Int32) (v1 : Int32) (sz : Nat)  : Met l yX11_relend (wx (.code yX11_relend cX11_relend 4 (some .int))) ({ frames := 2, cells := 0, slots := 0, locals := 44 }) (va_Pc [.ref mo, .int v0, .int v1] (Pw ae D vwCl [(cI, .int), (cJ, .long), (cS, .object "IronwoodModel$State"), (cO, .object "java/lang/Object")] [(mo, .inr (12, [.int 0, .ref vl, .ref sl])), (vl, .inr (0, [.int 0, .ref ae, .int 0]))] sz)) (va_Qi (fun (r : Int32) (u : Unit) => r = 0) (Bw D vwCl (fun (u : Unit) => [(mo, .inr (12, [.int 1, .ref vl, .ref sl])), (vl, .inr (0, [.int 0, .ref ae, .int 0]))]) (va_A [(mo, .inr (12, [.int 0, .ref vl, .ref sl])), (vl, .inr (0, [.int 0, .ref ae, .int 0]))] sz)) (va_A [(mo, .inr (12, [.int 0, .ref vl, .ref sl])), (vl, .inr (0, [.int 0, .ref ae, .int 0]))] sz)) 0 0 (va_A [(mo, .inr (12, [.int 0, .ref vl, .ref sl])), (vl, .inr (0, [.int 0, .ref ae, .int 0]))] sz) := by
  refine Met.ofW (cc := cX11_relend) (maxL := 4) (ret := (some .int)) (by decide) rfl ?_
  intro p e s m args below meth c s₁ B hml hv9
  obtain ⟨rfl, hsz, hP, hK, hD0, hG⟩ := hv9
  have hx := B.exec
  have hb := B.bytes
  have hr := B.returns
  have hts := atoms_spec (ws := wx (.code yX11_relend cX11_relend 4 (some .int))) B.pre
  have hown : s.vm.findClass RX11 = some m.cls := findClass_of_methodNamed B.named
  have hlocks := B.notSynchronized
  subst hsz
  have hD := hD0.self (sz := s.heap.size)
  generalize hAe : va_A [(mo, .inr (12, [.int 0, .ref vl, .ref sl])), (vl, .inr (0, [.int 0, .ref ae, .int 0]))] s.heap.size = A at hD hG ⊢
  have hA : ∀ q : Nat, s.heap.size ≤ q → A q := fun q h => by rw [← hAe]; exact Or.inr h
  have hS : va_S A s.heap s.heap [] := va_S.rf
  have hP : va_P D vwCl [(mo, .inr (12, [.int 0, .ref vl, .ref sl])), (vl, .inr (0, [.int 0, .ref ae, .int 0]))] s.heap := hP
  have hl := lv_entry ([.ref mo, .int v0, .int v1]) (n := 4) (Nat.le_of_ble_eq_true rfl)
  rw [lg_entry_eq]
  generalize (lg_sl ([.ref mo, .int v0, .int v1]) ++ List.replicate (4 - (lg_sl ([.ref mo, .int v0, .int v1])).length) Slot.unset).toArray = ls at hl ⊢
  have hl : lv_has ls 4 [(0, .ref mo), (1, .int v0), (2, .int v1)] := hl
  refine lv_aload_n hx hb dX11_relend_0 rfl (lv_at hl 0 rfl) ?_
  refine lv_aload_n hx hb dX11_relend_1 rfl (lv_at hl 0 rfl) ?_
  refine lv_iload_n hx hb dX11_relend_2 rfl (lv_at hl 1 rfl) ?_
  refine kc_i (wr := []) (va_runV (As := [.int v0]) (rest := [.ref mo]) ⟨hx, hb, hml, hown, hts⟩ (k_isNoVariable l hfl ae D cI cJ cS cO mo vl sl v0 _) (cwV 1 hts (gV q_1121 q_1118 q_1120 q_68 q_104) rfl rfl rfl (by decide +kernel) ⟨Nat.le_of_ble_eq_true rfl, Nat.le_of_ble_eq_true rfl⟩) ⟨Pw.blind, va_recv hK hP (ci := 12) (q0 := 0) rfl rfl, Pw.mk_call hP hK hD hS hA hG [0, 1] rfl (by decide)⟩ rfl rfl hl.1 rfl (lv_room (Nat.le_of_ble_eq_true rfl)) dX11_relend_3 ⟨Nat.le_of_ble_eq_true rfl, Nat.le_of_ble_eq_true rfl⟩) hP hD hS hA [0, 1] [] rfl rfl (by decide) (by decide) (fun r_1 u_2 H locs hw hP hD hS => ?_)
  obtain rfl : r_1 = 1 := hw
  have hP : va_P D vwCl [(mo, .inr (12, [.int 0, .ref vl, .ref sl])), (vl, .inr (0, [.int 0, .ref ae, .int 0]))] H := hP
  have hD : va_D A [(mo, .inr (12, [.int 0, .ref vl, .ref sl])), (vl, .inr (0, [.int 0, .ref ae, .int 0]))] := hD
  refine lv_if_ne (tgt := 17) hx hb dX11_relend_6 (by decide) (fun c_6 => ?_) (fun c_6 => absurd c_6 (by decide))
  refine lv_iconst (v := 1) hx hb dX11_relend_17 (by decide) ?_
  refine lv_goto (tgt := 22) hx hb dX11_relend_18 (by decide) ?_
  refine lv_iconst (v := 1) hx hb dX11_relend_22 (by decide) ?_
  refine kc_i (wr := [(vl, .inr (0, [.int 0, .ref ae, .int 0]))]) (va_runV (As := [.int 1, .int 1]) (rest := []) ⟨hx, hb, hml, hown, hts⟩ (k_start_1 l hfl ae D cI cJ cS cO mo vl sl 0 1 _ (by decide)) (cwV 2 hts (gV q_1028 q_1025 q_1027 q_63 q_104) rfl rfl rfl (by decide +kernel) ⟨Nat.le_of_ble_eq_true rfl, Nat.le_of_ble_eq_true rfl⟩) ⟨Pw.blind, va_recv hK hP (ci := 12) (q0 := 0) rfl rfl, Pw.mk_call hP hK hD hS hA hG [0] rfl (by decide)⟩ rfl rfl hl.1 rfl (lv_room (Nat.le_of_ble_eq_true rfl)) dX11_relend_23 ⟨Nat.le_of_ble_eq_true rfl, Nat.le_of_ble_eq_true rfl⟩) hP hD hS hA [0] [1] rfl rfl (by decide) (by decide) (fun r_3 u_4 H locs hw hP hD hS => ?_)
  obtain rfl : r_3 = 1 := hw
  have hP : va_P D vwCl [(vl, .inr (0, [.int 0, .ref ae, .int 0])), (mo, .inr (12, [.int 1, .ref vl, .ref sl]))] H := hP
  have hD : va_D A [(vl, .inr (0, [.int 0, .ref ae, .int 0])), (mo, .inr (12, [.int 1, .ref vl, .ref sl]))] := hD
  refine lv_if_eq (tgt := 31) hx hb dX11_relend_26 (by decide) (fun c_26 => absurd c_26 (by decide)) (fun c_26 => ?_)
  refine lv_iconst (v := 0) hx hb dX11_relend_29 (by decide) ?_
  have hP := hP.sub (ws' := [(mo, .inr (12, [.int 1, .ref vl, .ref sl])), (vl, .inr (0, [.int 0, .ref ae, .int 0]))]) [1, 0] rfl
  have hD := hD.sub (ws' := [(mo, .inr (12, [.int 1, .ref vl, .ref sl])), (vl, .inr (0, [.int 0, .ref ae, .int 0]))]) [1, 0] (by decide) rfl
  exact ke_i hx hb hr (by first | rfl | decide) () (rfl) hP hD hS (Nat.le_of_ble_eq_true rfl) (Nat.le_of_ble_eq_true rfl) hlocks dX11_relend_30

set_option maxHeartbeats 4000000 in
set_option maxRecDepth 100000 in
theorem m_read_x (l : Launch) (hfl : l.stackTraces = false) (ae : Nat) (D : va_G) (cI cJ cS cO : ClassId) (mo : Nat) (vl : Nat) (sl : Nat) (v0 : Int32) (v1 : Int32) (sz : Nat)  : Met l yX11_read (wx (.code yX11_read cX11_read 4 (some .int))) ({ frames := 2, cells := 0, slots := 0, locals := 44 }) (va_Pc [.ref mo, .int v0, .int v1] (Pw ae D vwCl [(cI, .int), (cJ, .long), (cS, .object "IronwoodModel$State"), (cO, .object "java/lang/Object")] [(mo, .inr (12, [.int 0, .ref vl, .ref sl])), (vl, .inr (0, [.int 0, .ref ae, .int 0]))] sz)) (va_Qi (fun (r : Int32) (u : Unit) => r = 0) (Bw D vwCl (fun (u : Unit) => [(mo, .inr (12, [.int 1, .ref vl, .ref sl])), (vl, .inr (0, [.int 0, .ref ae, .int 0]))]) (va_A [(mo, .inr (12, [.int 0, .ref vl, .ref sl])), (vl, .inr (0, [.int 0, .ref ae, .int 0]))] sz)) (va_A [(mo, .inr (12, [.int 0, .ref vl, .ref sl])), (vl, .inr (0, [.int 0, .ref ae, .int 0]))] sz)) 0 0 (va_A [(mo, .inr (12, [.int 0, .ref vl, .ref sl])), (vl, .inr (0, [.int 0, .ref ae, .int 0]))] sz) := by
  refine Met.ofW (cc := cX11_read) (maxL := 4) (ret := (some .int)) (by decide) rfl ?_
  intro p e s m args below meth c s₁ B hml hv9
  obtain ⟨rfl, hsz, hP, hK, hD0, hG⟩ := hv9
  have hx := B.exec
  have hb := B.bytes
  have hr := B.returns
  have hts := atoms_spec (ws := wx (.code yX11_read cX11_read 4 (some .int))) B.pre
  have hown : s.vm.findClass RX11 = some m.cls := findClass_of_methodNamed B.named
  have hlocks := B.notSynchronized
  subst hsz
  have hD := hD0.self (sz := s.heap.size)
  generalize hAe : va_A [(mo, .inr (12, [.int 0, .ref vl, .ref sl])), (vl, .inr (0, [.int 0, .ref ae, .int 0]))] s.heap.size = A at hD hG ⊢
  have hA : ∀ q : Nat, s.heap.size ≤ q → A q := fun q h => by rw [← hAe]; exact Or.inr h
  have hS : va_S A s.heap s.heap [] := va_S.rf
  have hP : va_P D vwCl [(mo, .inr (12, [.int 0, .ref vl, .ref sl])), (vl, .inr (0, [.int 0, .ref ae, .int 0]))] s.heap := hP
  have hl := lv_entry ([.ref mo, .int v0, .int v1]) (n := 4) (Nat.le_of_ble_eq_true rfl)
  rw [lg_entry_eq]
  generalize (lg_sl ([.ref mo, .int v0, .int v1]) ++ List.replicate (4 - (lg_sl ([.ref mo, .int v0, .int v1])).length) Slot.unset).toArray = ls at hl ⊢
  have hl : lv_has ls 4 [(0, .ref mo), (1, .int v0), (2, .int v1)] := hl
  refine lv_aload_n hx hb dX11_read_0 rfl (lv_at hl 0 rfl) ?_
  refine lv_aload_n hx hb dX11_read_1 rfl (lv_at hl 0 rfl) ?_
  refine lv_iload_n hx hb dX11_read_2 rfl (lv_at hl 1 rfl) ?_
  refine kc_i (wr := []) (va_runV (As := [.int v0]) (rest := [.ref mo]) ⟨hx, hb, hml, hown, hts⟩ (k_isNoVariable l hfl ae D cI cJ cS cO mo vl sl v0 _) (cwV 1 hts (gV q_1121 q_1118 q_1120 q_68 q_104) rfl rfl rfl (by decide +kernel) ⟨Nat.le_of_ble_eq_true rfl, Nat.le_of_ble_eq_true rfl⟩) ⟨Pw.blind, va_recv hK hP (ci := 12) (q0 := 0) rfl rfl, Pw.mk_call hP hK hD hS hA hG [0, 1] rfl (by decide)⟩ rfl rfl hl.1 rfl (lv_room (Nat.le_of_ble_eq_true rfl)) dX11_read_3 ⟨Nat.le_of_ble_eq_true rfl, Nat.le_of_ble_eq_true rfl⟩) hP hD hS hA [0, 1] [] rfl rfl (by decide) (by decide) (fun r_1 u_2 H locs hw hP hD hS => ?_)
  obtain rfl : r_1 = 1 := hw
  have hP : va_P D vwCl [(mo, .inr (12, [.int 0, .ref vl, .ref sl])), (vl, .inr (0, [.int 0, .ref ae, .int 0]))] H := hP
  have hD : va_D A [(mo, .inr (12, [.int 0, .ref vl, .ref sl])), (vl, .inr (0, [.int 0, .ref ae, .int 0]))] := hD
  refine lv_iconst (v := 1) hx hb dX11_read_6 (by decide) ?_
  refine kc_i (wr := [(vl, .inr (0, [.int 0, .ref ae, .int 0]))]) (va_runV (As := [.int 1, .int 1]) (rest := []) ⟨hx, hb, hml, hown, hts⟩ (k_start_1 l hfl ae D cI cJ cS cO mo vl sl 0 1 _ (by decide)) (cwV 2 hts (gV q_1028 q_1025 q_1027 q_63 q_104) rfl rfl rfl (by decide +kernel) ⟨Nat.le_of_ble_eq_true rfl, Nat.le_of_ble_eq_true rfl⟩) ⟨Pw.blind, va_recv hK hP (ci := 12) (q0 := 0) rfl rfl, Pw.mk_call hP hK hD hS hA hG [0] rfl (by decide)⟩ rfl rfl hl.1 rfl (lv_room (Nat.le_of_ble_eq_true rfl)) dX11_read_7 ⟨Nat.le_of_ble_eq_true rfl, Nat.le_of_ble_eq_true rfl⟩) hP hD hS hA [0] [1] rfl rfl (by decide) (by decide) (fun r_3 u_4 H locs hw hP hD hS => ?_)
  obtain rfl : r_3 = 1 := hw
  have hP : va_P D vwCl [(vl, .inr (0, [.int 0, .ref ae, .int 0])), (mo, .inr (12, [.int 1, .ref vl, .ref sl]))] H := hP
  have hD : va_D A [(vl, .inr (0, [.int 0, .ref ae, .int 0])), (mo, .inr (12, [.int 1, .ref vl, .ref sl]))] := hD
  refine lv_if_eq (tgt := 15) hx hb dX11_read_10 (by decide) (fun c_10 => absurd c_10 (by decide)) (fun c_10 => ?_)
  refine lv_iconst (v := 0) hx hb dX11_read_13 (by decide) ?_
  have hP := hP.sub (ws' := [(mo, .inr (12, [.int 1, .ref vl, .ref sl])), (vl, .inr (0, [.int 0, .ref ae, .int 0]))]) [1, 0] rfl
  have hD := hD.sub (ws' := [(mo, .inr (12, [.int 1, .ref vl, .ref sl])), (vl, .inr (0, [.int 0, .ref ae, .int 0]))]) [1, 0] (by decide) rfl
  exact ke_i hx hb hr (by first | rfl | decide) () (rfl) hP hD hS (Nat.le_of_ble_eq_true rfl) (Nat.le_of_ble_eq_true rfl) hlocks dX11_read_14

set_option maxHeartbeats 4000000 in
set_option maxRecDepth 100000 in
theorem m_drop_x (l : Launch) (hfl : l.stackTraces = false) (ae : Nat) (D : va_G) (cI cJ cS cO : ClassId) (mo : Nat) (vl : Nat) (sl : Nat) (v0 : Int32) (sz : Nat)  : Met l yX11_drop (wx (.code yX11_drop cX11_drop 2 (some .int))) ({ frames := 2, cells := 0, slots := 0, locals := 44 }) (va_Pc [.ref mo, .int v0] (Pw ae D vwCl [(cI, .int), (cJ, .long), (cS, .object "IronwoodModel$State"), (cO, .object "java/lang/Object")] [(mo, .inr (12, [.int 0, .ref vl, .ref sl])), (vl, .inr (0, [.int 0, .ref ae, .int 0]))] sz)) (va_Qi (fun (r : Int32) (u : Unit) => r = 0) (Bw D vwCl (fun (u : Unit) => [(mo, .inr (12, [.int 1, .ref vl, .ref sl])), (vl, .inr (0, [.int 0, .ref ae, .int 0]))]) (va_A [(mo, .inr (12, [.int 0, .ref vl, .ref sl])), (vl, .inr (0, [.int 0, .ref ae, .int 0]))] sz)) (va_A [(mo, .inr (12, [.int 0, .ref vl, .ref sl])), (vl, .inr (0, [.int 0, .ref ae, .int 0]))] sz)) 0 0 (va_A [(mo, .inr (12, [.int 0, .ref vl, .ref sl])), (vl, .inr (0, [.int 0, .ref ae, .int 0]))] sz) := by
  refine Met.ofW (cc := cX11_drop) (maxL := 2) (ret := (some .int)) (by decide) rfl ?_
  intro p e s m args below meth c s₁ B hml hv9
  obtain ⟨rfl, hsz, hP, hK, hD0, hG⟩ := hv9
  have hx := B.exec
  have hb := B.bytes
  have hr := B.returns
  have hts := atoms_spec (ws := wx (.code yX11_drop cX11_drop 2 (some .int))) B.pre
  have hown : s.vm.findClass RX11 = some m.cls := findClass_of_methodNamed B.named
  have hlocks := B.notSynchronized
  subst hsz
  have hD := hD0.self (sz := s.heap.size)
  generalize hAe : va_A [(mo, .inr (12, [.int 0, .ref vl, .ref sl])), (vl, .inr (0, [.int 0, .ref ae, .int 0]))] s.heap.size = A at hD hG ⊢
  have hA : ∀ q : Nat, s.heap.size ≤ q → A q := fun q h => by rw [← hAe]; exact Or.inr h
  have hS : va_S A s.heap s.heap [] := va_S.rf
  have hP : va_P D vwCl [(mo, .inr (12, [.int 0, .ref vl, .ref sl])), (vl, .inr (0, [.int 0, .ref ae, .int 0]))] s.heap := hP
  have hl := lv_entry ([.ref mo, .int v0]) (n := 2) (Nat.le_of_ble_eq_true rfl)
  rw [lg_entry_eq]
  generalize (lg_sl ([.ref mo, .int v0]) ++ List.replicate (2 - (lg_sl ([.ref mo, .int v0])).length) Slot.unset).toArray = ls at hl ⊢
  have hl : lv_has ls 2 [(0, .ref mo), (1, .int v0)] := hl
  refine lv_aload_n hx hb dX11_drop_0 rfl (lv_at hl 0 rfl) ?_
  refine lv_aload_n hx hb dX11_drop_1 rfl (lv_at hl 0 rfl) ?_
  refine lv_iload_n hx hb dX11_drop_2 rfl (lv_at hl 1 rfl) ?_
  refine kc_i (wr := []) (va_runV (As := [.int v0]) (rest := [.ref mo]) ⟨hx, hb, hml, hown, hts⟩ (k_isNoVariable l hfl ae D cI cJ cS cO mo vl sl v0 _) (cwV 1 hts (gV q_1121 q_1118 q_1120 q_68 q_104) rfl rfl rfl (by decide +kernel) ⟨Nat.le_of_ble_eq_true rfl, Nat.le_of_ble_eq_true rfl⟩) ⟨Pw.blind, va_recv hK hP (ci := 12) (q0 := 0) rfl rfl, Pw.mk_call hP hK hD hS hA hG [0, 1] rfl (by decide)⟩ rfl rfl hl.1 rfl (lv_room (Nat.le_of_ble_eq_true rfl)) dX11_drop_3 ⟨Nat.le_of_ble_eq_true rfl, Nat.le_of_ble_eq_true rfl⟩) hP hD hS hA [0, 1] [] rfl rfl (by decide) (by decide) (fun r_1 u_2 H locs hw hP hD hS => ?_)
  obtain rfl : r_1 = 1 := hw
  have hP : va_P D vwCl [(mo, .inr (12, [.int 0, .ref vl, .ref sl])), (vl, .inr (0, [.int 0, .ref ae, .int 0]))] H := hP
  have hD : va_D A [(mo, .inr (12, [.int 0, .ref vl, .ref sl])), (vl, .inr (0, [.int 0, .ref ae, .int 0]))] := hD
  refine lv_iconst (v := 1) hx hb dX11_drop_6 (by decide) ?_
  refine kc_i (wr := [(vl, .inr (0, [.int 0, .ref ae, .int 0]))]) (va_runV (As := [.int 1, .int 1]) (rest := []) ⟨hx, hb, hml, hown, hts⟩ (k_start_1 l hfl ae D cI cJ cS cO mo vl sl 0 1 _ (by decide)) (cwV 2 hts (gV q_1028 q_1025 q_1027 q_63 q_104) rfl rfl rfl (by decide +kernel) ⟨Nat.le_of_ble_eq_true rfl, Nat.le_of_ble_eq_true rfl⟩) ⟨Pw.blind, va_recv hK hP (ci := 12) (q0 := 0) rfl rfl, Pw.mk_call hP hK hD hS hA hG [0] rfl (by decide)⟩ rfl rfl hl.1 rfl (lv_room (Nat.le_of_ble_eq_true rfl)) dX11_drop_7 ⟨Nat.le_of_ble_eq_true rfl, Nat.le_of_ble_eq_true rfl⟩) hP hD hS hA [0] [1] rfl rfl (by decide) (by decide) (fun r_3 u_4 H locs hw hP hD hS => ?_)
  obtain rfl : r_3 = 1 := hw
  have hP : va_P D vwCl [(vl, .inr (0, [.int 0, .ref ae, .int 0])), (mo, .inr (12, [.int 1, .ref vl, .ref sl]))] H := hP
  have hD : va_D A [(vl, .inr (0, [.int 0, .ref ae, .int 0])), (mo, .inr (12, [.int 1, .ref vl, .ref sl]))] := hD
  refine lv_if_eq (tgt := 17) hx hb dX11_drop_10 (by decide) (fun c_10 => absurd c_10 (by decide)) (fun c_10 => ?_)
  refine lv_iconst (v := 0) hx hb dX11_drop_13 (by decide) ?_
  refine lv_goto (tgt := 28) hx hb dX11_drop_14 (by decide) ?_
  have hP := hP.sub (ws' := [(mo, .inr (12, [.int 1, .ref vl, .ref sl])), (vl, .inr (0, [.int 0, .ref ae, .int 0]))]) [1, 0] rfl
  have hD := hD.sub (ws' := [(mo, .inr (12, [.int 1, .ref vl, .ref sl])), (vl, .inr (0, [.int 0, .ref ae, .int 0]))]) [1, 0] (by decide) rfl
  exact ke_i hx hb hr (by first | rfl | decide) () (rfl) hP hD hS (Nat.le_of_ble_eq_true rfl) (Nat.le_of_ble_eq_true rfl) hlocks dX11_drop_28

set_option maxHeartbeats 4000000 in
set_option maxRecDepth 100000 in
theorem m_call_x (l : Launch) (hfl : l.stackTraces = false) (ae : Nat) (D : va_G) (cI cJ cS cO : ClassId) (mo : Nat) (vl : Nat) (sl : Nat) (v0 : Int32) (v1 : Int32) (v2 : Int32) (v3 : Int32) (sz : Nat)  : Met l yX11_call (wx (.code yX11_call cX11_call 5 (some .int))) ({ frames := 2, cells := 0, slots := 0, locals := 44 }) (va_Pc [.ref mo, .int v0, .int v1, .int v2, .int v3] (Pw ae D vwCl [(cI, .int), (cJ, .long), (cS, .object "IronwoodModel$State"), (cO, .object "java/lang/Object")] [(mo, .inr (12, [.int 0, .ref vl, .ref sl])), (vl, .inr (0, [.int 0, .ref ae, .int 0]))] sz)) (va_Qi (fun (r : Int32) (u : Unit) => r = 0) (Bw D vwCl (fun (u : Unit) => [(mo, .inr (12, [.int 1, .ref vl, .ref sl])), (vl, .inr (0, [.int 0, .ref ae, .int 0]))]) (va_A [(mo, .inr (12, [.int 0, .ref vl, .ref sl])), (vl, .inr (0, [.int 0, .ref ae, .int 0]))] sz)) (va_A [(mo, .inr (12, [.int 0, .ref vl, .ref sl])), (vl, .inr (0, [.int 0, .ref ae, .int 0]))] sz)) 0 0 (va_A [(mo, .inr (12, [.int 0, .ref vl, .ref sl])), (vl, .inr (0, [.int 0, .ref ae, .int 0]))] sz) := by
  refine Met.ofW (cc := cX11_call) (maxL := 5) (ret := (some .int)) (by decide) rfl ?_
  intro p e s m args below meth c s₁ B hml hv9
  obtain ⟨rfl, hsz, hP, hK, hD0, hG⟩ := hv9
  have hx := B.exec
  have hb := B.bytes
  have hr := B.returns
  have hts := atoms_spec (ws := wx (.code yX11_call cX11_call 5 (some .int))) B.pre
  have hown : s.vm.findClass RX11 = some m.cls := findClass_of_methodNamed B.named
  have hlocks := B.notSynchronized
  subst hsz
  have hD := hD0.self (sz := s.heap.size)
  generalize hAe : va_A [(mo, .inr (12, [.int 0, .ref vl, .ref sl])), (vl, .inr (0, [.int 0, .ref ae, .int 0]))] s.heap.size = A at hD hG ⊢
  have hA : ∀ q : Nat, s.heap.size ≤ q → A q := fun q h => by rw [← hAe]; exact Or.inr h
  have hS : va_S A s.heap s.heap [] := va_S.rf
  have hP : va_P D vwCl [(mo, .inr (12, [.int 0, .ref vl, .ref sl])), (vl, .inr (0, [.int 0, .ref ae, .int 0]))] s.heap := hP
  have hl := lv_entry ([.ref mo, .int v0, .int v1, .int v2, .int v3]) (n := 5) (Nat.le_of_ble_eq_true rfl)
  rw [lg_entry_eq]
  generalize (lg_sl ([.ref mo, .int v0, .int v1, .int v2, .int v3]) ++ List.replicate (5 - (lg_sl ([.ref mo, .int v0, .int v1, .int v2, .int v3])).length) Slot.unset).toArray = ls at hl ⊢
  have hl : lv_has ls 5 [(0, .ref mo), (1, .int v0), (2, .int v1), (3, .int v2), (4, .int v3)] := hl
  refine lv_aload_n hx hb dX11_call_0 rfl (lv_at hl 0 rfl) ?_
  refine lv_aload_n hx hb dX11_call_1 rfl (lv_at hl 0 rfl) ?_
  refine lv_iload_n hx hb dX11_call_2 rfl (lv_at hl 1 rfl) ?_
  refine kc_i (wr := []) (va_runV (As := [.int v0]) (rest := [.ref mo]) ⟨hx, hb, hml, hown, hts⟩ (k_isNoVariable l hfl ae D cI cJ cS cO mo vl sl v0 _) (cwV 1 hts (gV q_1121 q_1118 q_1120 q_68 q_104) rfl rfl rfl (by decide +kernel) ⟨Nat.le_of_ble_eq_true rfl, Nat.le_of_ble_eq_true rfl⟩) ⟨Pw.blind, va_recv hK hP (ci := 12) (q0 := 0) rfl rfl, Pw.mk_call hP hK hD hS hA hG [0, 1] rfl (by decide)⟩ rfl rfl hl.1 rfl (lv_room (Nat.le_of_ble_eq_true rfl)) dX11_call_3 ⟨Nat.le_of_ble_eq_true rfl, Nat.le_of_ble_eq_true rfl⟩) hP hD hS hA [0, 1] [] rfl rfl (by decide) (by decide) (fun r_1 u_2 H locs hw hP hD hS => ?_)
  obtain rfl : r_1 = 1 := hw
  have hP : va_P D vwCl [(mo, .inr (12, [.int 0, .ref vl, .ref sl])), (vl, .inr (0, [.int 0, .ref ae, .int 0]))] H := hP
  have hD : va_D A [(mo, .inr (12, [.int 0, .ref vl, .ref sl])), (vl, .inr (0, [.int 0, .ref ae, .int 0]))] := hD
  refine lv_if_ne (tgt := 35) hx hb dX11_call_6 (by decide) (fun c_6 => ?_) (fun c_6 => absurd c_6 (by decide))
  refine lv_iconst (v := 1) hx hb dX11_call_35 (by decide) ?_
  refine lv_goto (tgt := 40) hx hb dX11_call_36 (by decide) ?_
  refine lv_iconst (v := 1) hx hb dX11_call_40 (by decide) ?_
  refine kc_i (wr := [(vl, .inr (0, [.int 0, .ref ae, .int 0]))]) (va_runV (As := [.int 1, .int 1]) (rest := []) ⟨hx, hb, hml, hown, hts⟩ (k_start_1 l hfl ae D cI cJ cS cO mo vl sl 0 1 _ (by decide)) (cwV 2 hts (gV q_1028 q_1025 q_1027 q_63 q_104) rfl rfl rfl (by decide +kernel) ⟨Nat.le_of_ble_eq_true rfl, Nat.le_of_ble_eq_true rfl⟩) ⟨Pw.blind, va_recv hK hP (ci := 12) (q0 := 0) rfl rfl, Pw.mk_call hP hK hD hS hA hG [0] rfl (by decide)⟩ rfl rfl hl.1 rfl (lv_room (Nat.le_of_ble_eq_true rfl)) dX11_call_41 ⟨Nat.le_of_ble_eq_true rfl, Nat.le_of_ble_eq_true rfl⟩) hP hD hS hA [0] [1] rfl rfl (by decide) (by decide) (fun r_3 u_4 H locs hw hP hD hS => ?_)
  obtain rfl : r_3 = 1 := hw
  have hP : va_P D vwCl [(vl, .inr (0, [.int 0, .ref ae, .int 0])), (mo, .inr (12, [.int 1, .ref vl, .ref sl]))] H := hP
  have hD : va_D A [(vl, .inr (0, [.int 0, .ref ae, .int 0])), (mo, .inr (12, [.int 1, .ref vl, .ref sl]))] := hD
  refine lv_if_eq (tgt := 49) hx hb dX11_call_44 (by decide) (fun c_44 => absurd c_44 (by decide)) (fun c_44 => ?_)
  refine lv_iconst (v := 0) hx hb dX11_call_47 (by decide) ?_
  have hP := hP.sub (ws' := [(mo, .inr (12, [.int 1, .ref vl, .ref sl])), (vl, .inr (0, [.int 0, .ref ae, .int 0]))]) [1, 0] rfl
  have hD := hD.sub (ws' := [(mo, .inr (12, [.int 1, .ref vl, .ref sl])), (vl, .inr (0, [.int 0, .ref ae, .int 0]))]) [1, 0] (by decide) rfl
  exact ke_i hx hb hr (by first | rfl | decide) () (rfl) hP hD hS (Nat.le_of_ble_eq_true rfl) (Nat.le_of_ble_eq_true rfl) hlocks dX11_call_48

set_option maxHeartbeats 4000000 in
set_option maxRecDepth 100000 in
theorem m_setTarget_x (l : Launch) (hfl : l.stackTraces = false) (ae : Nat) (D : va_G) (cI cJ cS cO : ClassId) (mo : Nat) (vl : Nat) (sl : Nat) (v0 : Int32) (v1 : Int32) (sz : Nat)  : Met l yX11_setTarget (wx (.code yX11_setTarget cX11_setTarget 4 (some .int))) ({ frames := 3, cells := 0, slots := 0, locals := 65 }) (va_Pc [.ref mo, .int v0, .int v1] (Pw ae D vwCl [(cI, .int), (cJ, .long), (cS, .object "IronwoodModel$State"), (cO, .object "java/lang/Object")] [(mo, .inr (12, [.int 0, .ref vl, .ref sl])), (sl, .inr (0, [.int 0, .ref ae, .int 0]))] sz)) (va_Qi (fun (r : Int32) (u : Unit) => r = 0) (Bw D vwCl (fun (u : Unit) => [(mo, .inr (12, [.int 1, .ref vl, .ref sl])), (sl, .inr (0, [.int 0, .ref ae, .int 0]))]) (va_A [(mo, .inr (12, [.int 0, .ref vl, .ref sl])), (sl, .inr (0, [.int 0, .ref ae, .int 0]))] sz)) (va_A [(mo, .inr (12, [.int 0, .ref vl, .ref sl])), (sl, .inr (0, [.int 0, .ref ae, .int 0]))] sz)) 0 0 (va_A [(mo, .inr (12, [.int 0, .ref vl, .ref sl])), (sl, .inr (0, [.int 0, .ref ae, .int 0]))] sz) := by
  refine Met.ofW (cc := cX11_setTarget) (maxL := 4) (ret := (some .int)) (by decide) rfl ?_
  intro p e s m args below meth c s₁ B hml hv9
  obtain ⟨rfl, hsz, hP, hK, hD0, hG⟩ := hv9
  have hx := B.exec
  have hb := B.bytes
  have hr := B.returns
  have hts := atoms_spec (ws := wx (.code yX11_setTarget cX11_setTarget 4 (some .int))) B.pre
  have hown : s.vm.findClass RX11 = some m.cls := findClass_of_methodNamed B.named
  have hlocks := B.notSynchronized
  subst hsz
  have hD := hD0.self (sz := s.heap.size)
  generalize hAe : va_A [(mo, .inr (12, [.int 0, .ref vl, .ref sl])), (sl, .inr (0, [.int 0, .ref ae, .int 0]))] s.heap.size = A at hD hG ⊢
  have hA : ∀ q : Nat, s.heap.size ≤ q → A q := fun q h => by rw [← hAe]; exact Or.inr h
  have hS : va_S A s.heap s.heap [] := va_S.rf
  have hP : va_P D vwCl [(mo, .inr (12, [.int 0, .ref vl, .ref sl])), (sl, .inr (0, [.int 0, .ref ae, .int 0]))] s.heap := hP
  have hl := lv_entry ([.ref mo, .int v0, .int v1]) (n := 4) (Nat.le_of_ble_eq_true rfl)
  rw [lg_entry_eq]
  generalize (lg_sl ([.ref mo, .int v0, .int v1]) ++ List.replicate (4 - (lg_sl ([.ref mo, .int v0, .int v1])).length) Slot.unset).toArray = ls at hl ⊢
  have hl : lv_has ls 4 [(0, .ref mo), (1, .int v0), (2, .int v1)] := hl
  refine lv_aload_n hx hb dX11_setTarget_0 rfl (lv_at hl 0 rfl) ?_
  refine lv_iload_n hx hb dX11_setTarget_1 rfl (lv_at hl 1 rfl) ?_
  refine kc_i (wr := []) (va_runV (As := [.int v0]) (rest := []) ⟨hx, hb, hml, hown, hts⟩ (k_isNoStatement l hfl ae D cI cJ cS cO mo vl sl v0 _) (cwV 1 hts (gV q_1224 q_1221 q_1223 q_72 q_104) rfl rfl rfl (by decide +kernel) ⟨Nat.le_of_ble_eq_true rfl, Nat.le_of_ble_eq_true rfl⟩) ⟨Pw.blind, va_recv hK hP (ci := 12) (q0 := 0) rfl rfl, Pw.mk_call hP hK hD hS hA hG [0, 1] rfl (by decide)⟩ rfl rfl hl.1 rfl (lv_room (Nat.le_of_ble_eq_true rfl)) dX11_setTarget_2 ⟨Nat.le_of_ble_eq_true rfl, Nat.le_of_ble_eq_true rfl⟩) hP hD hS hA [0, 1] [] rfl rfl (by decide) (by decide) (fun r_1 u_2 H locs hw hP hD hS => ?_)
  obtain rfl : r_1 = 1 := hw
  have hP : va_P D vwCl [(mo, .inr (12, [.int 1, .ref vl, .ref sl])), (sl, .inr (0, [.int 0, .ref ae, .int 0]))] H := hP
  have hD : va_D A [(mo, .inr (12, [.int 1, .ref vl, .ref sl])), (sl, .inr (0, [.int 0, .ref ae, .int 0]))] := hD
  refine lv_if_eq (tgt := 10) hx hb dX11_setTarget_5 (by decide) (fun c_5 => absurd c_5 (by decide)) (fun c_5 => ?_)
  refine lv_iconst (v := 0) hx hb dX11_setTarget_8 (by decide) ?_
  have hP := hP.sub (ws' := [(mo, .inr (12, [.int 1, .ref vl, .ref sl])), (sl, .inr (0, [.int 0, .ref ae, .int 0]))]) [0, 1] rfl
  have hD := hD.sub (ws' := [(mo, .inr (12, [.int 1, .ref vl, .ref sl])), (sl, .inr (0, [.int 0, .ref ae, .int 0]))]) [0, 1] (by decide) rfl
  exact ke_i hx hb hr (by first | rfl | decide) () (rfl) hP hD hS (Nat.le_of_ble_eq_true rfl) (Nat.le_of_ble_eq_true rfl) hlocks dX11_setTarget_9

set_option maxHeartbeats 4000000 in
set_option maxRecDepth 100000 in
theorem m_codeOf_x (l : Launch) (hfl : l.stackTraces = false) (ae : Nat) (D : va_G) (cI cJ cS cO : ClassId) (mo : Nat) (vl : Nat) (sl : Nat) (v0 : Int32) (sz : Nat)  : Met l yX11_codeOf (wx (.code yX11_codeOf cX11_codeOf 2 (some .int))) ({ frames := 3, cells := 0, slots := 0, locals := 65 }) (va_Pc [.ref mo, .int v0] (Pw ae D vwCl [(cI, .int), (cJ, .long), (cS, .object "IronwoodModel$State"), (cO, .object "java/lang/Object")] [(mo, .inr (12, [.int 0, .ref vl, .ref sl])), (sl, .inr (0, [.int 0, .ref ae, .int 0]))] sz)) (va_Qi (fun (r : Int32) (u : Unit) => r = 0) (Bw D vwCl (fun (u : Unit) => [(mo, .inr (12, [.int 1, .ref vl, .ref sl])), (sl, .inr (0, [.int 0, .ref ae, .int 0]))]) (va_A [(mo, .inr (12, [.int 0, .ref vl, .ref sl])), (sl, .inr (0, [.int 0, .ref ae, .int 0]))] sz)) (va_A [(mo, .inr (12, [.int 0, .ref vl, .ref sl])), (sl, .inr (0, [.int 0, .ref ae, .int 0]))] sz)) 0 0 (va_A [(mo, .inr (12, [.int 0, .ref vl, .ref sl])), (sl, .inr (0, [.int 0, .ref ae, .int 0]))] sz) := by
  refine Met.ofW (cc := cX11_codeOf) (maxL := 2) (ret := (some .int)) (by decide) rfl ?_
  intro p e s m args below meth c s₁ B hml hv9
  obtain ⟨rfl, hsz, hP, hK, hD0, hG⟩ := hv9
  have hx := B.exec
  have hb := B.bytes
  have hr := B.returns
  have hts := atoms_spec (ws := wx (.code yX11_codeOf cX11_codeOf 2 (some .int))) B.pre
  have hown : s.vm.findClass RX11 = some m.cls := findClass_of_methodNamed B.named
  have hlocks := B.notSynchronized
  subst hsz
  have hD := hD0.self (sz := s.heap.size)
  generalize hAe : va_A [(mo, .inr (12, [.int 0, .ref vl, .ref sl])), (sl, .inr (0, [.int 0, .ref ae, .int 0]))] s.heap.size = A at hD hG ⊢
  have hA : ∀ q : Nat, s.heap.size ≤ q → A q := fun q h => by rw [← hAe]; exact Or.inr h
  have hS : va_S A s.heap s.heap [] := va_S.rf
  have hP : va_P D vwCl [(mo, .inr (12, [.int 0, .ref vl, .ref sl])), (sl, .inr (0, [.int 0, .ref ae, .int 0]))] s.heap := hP
  have hl := lv_entry ([.ref mo, .int v0]) (n := 2) (Nat.le_of_ble_eq_true rfl)
  rw [lg_entry_eq]
  generalize (lg_sl ([.ref mo, .int v0]) ++ List.replicate (2 - (lg_sl ([.ref mo, .int v0])).length) Slot.unset).toArray = ls at hl ⊢
  have hl : lv_has ls 2 [(0, .ref mo), (1, .int v0)] := hl
  refine lv_aload_n hx hb dX11_codeOf_0 rfl (lv_at hl 0 rfl) ?_
  refine lv_iload_n hx hb dX11_codeOf_1 rfl (lv_at hl 1 rfl) ?_
  refine kc_i (wr := []) (va_runV (As := [.int v0]) (rest := []) ⟨hx, hb, hml, hown, hts⟩ (k_isNoStatement l hfl ae D cI cJ cS cO mo vl sl v0 _) (cwV 1 hts (gV q_1224 q_1221 q_1223 q_72 q_104) rfl rfl rfl (by decide +kernel) ⟨Nat.le_of_ble_eq_true rfl, Nat.le_of_ble_eq_true rfl⟩) ⟨Pw.blind, va_recv hK hP (ci := 12) (q0 := 0) rfl rfl, Pw.mk_call hP hK hD hS hA hG [0, 1] rfl (by decide)⟩ rfl rfl hl.1 rfl (lv_room (Nat.le_of_ble_eq_true rfl)) dX11_codeOf_2 ⟨Nat.le_of_ble_eq_true rfl, Nat.le_of_ble_eq_true rfl⟩) hP hD hS hA [0, 1] [] rfl rfl (by decide) (by decide) (fun r_1 u_2 H locs hw hP hD hS => ?_)
  obtain rfl : r_1 = 1 := hw
  have hP : va_P D vwCl [(mo, .inr (12, [.int 1, .ref vl, .ref sl])), (sl, .inr (0, [.int 0, .ref ae, .int 0]))] H := hP
  have hD : va_D A [(mo, .inr (12, [.int 1, .ref vl, .ref sl])), (sl, .inr (0, [.int 0, .ref ae, .int 0]))] := hD
  refine lv_if_eq (tgt := 12) hx hb dX11_codeOf_5 (by decide) (fun c_5 => absurd c_5 (by decide)) (fun c_5 => ?_)
  refine lv_iconst (v := 0) hx hb dX11_codeOf_8 (by decide) ?_
  refine lv_goto (tgt := 26) hx hb dX11_codeOf_9 (by decide) ?_
  have hP := hP.sub (ws' := [(mo, .inr (12, [.int 1, .ref vl, .ref sl])), (sl, .inr (0, [.int 0, .ref ae, .int 0]))]) [0, 1] rfl
  have hD := hD.sub (ws' := [(mo, .inr (12, [.int 1, .ref vl, .ref sl])), (sl, .inr (0, [.int 0, .ref ae, .int 0]))]) [0, 1] (by decide) rfl
  exact ke_i hx hb hr (by first | rfl | decide) () (rfl) hP hD hS (Nat.le_of_ble_eq_true rfl) (Nat.le_of_ble_eq_true rfl) hlocks dX11_codeOf_26

set_option maxHeartbeats 4000000 in
set_option maxRecDepth 100000 in
theorem m_isReached_x (l : Launch) (hfl : l.stackTraces = false) (ae : Nat) (D : va_G) (cI cJ cS cO : ClassId) (mo : Nat) (vl : Nat) (sl : Nat) (v0 : Int32) (sz : Nat)  : Met l yX11_isReached (wx (.code yX11_isReached cX11_isReached 2 (some .boolean))) ({ frames := 3, cells := 0, slots := 0, locals := 65 }) (va_Pc [.ref mo, .int v0] (Pw ae D vwCl [(cI, .int), (cJ, .long), (cS, .object "IronwoodModel$State"), (cO, .object "java/lang/Object")] [(mo, .inr (12, [.int 0, .ref vl, .ref sl])), (sl, .inr (0, [.int 0, .ref ae, .int 0]))] sz)) (va_Qi (fun (r : Int32) (u : Unit) => r = 0) (Bw D vwCl (fun (u : Unit) => [(mo, .inr (12, [.int 1, .ref vl, .ref sl])), (sl, .inr (0, [.int 0, .ref ae, .int 0]))]) (va_A [(mo, .inr (12, [.int 0, .ref vl, .ref sl])), (sl, .inr (0, [.int 0, .ref ae, .int 0]))] sz)) (va_A [(mo, .inr (12, [.int 0, .ref vl, .ref sl])), (sl, .inr (0, [.int 0, .ref ae, .int 0]))] sz)) 0 0 (va_A [(mo, .inr (12, [.int 0, .ref vl, .ref sl])), (sl, .inr (0, [.int 0, .ref ae, .int 0]))] sz) := by
  refine Met.ofW (cc := cX11_isReached) (maxL := 2) (ret := (some .boolean)) (by decide) rfl ?_
  intro p e s m args below meth c s₁ B hml hv9
  obtain ⟨rfl, hsz, hP, hK, hD0, hG⟩ := hv9
  have hx := B.exec
  have hb := B.bytes
  have hr := B.returns
  have hts := atoms_spec (ws := wx (.code yX11_isReached cX11_isReached 2 (some .boolean))) B.pre
  have hown : s.vm.findClass RX11 = some m.cls := findClass_of_methodNamed B.named
  have hlocks := B.notSynchronized
  subst hsz
  have hD := hD0.self (sz := s.heap.size)
  generalize hAe : va_A [(mo, .inr (12, [.int 0, .ref vl, .ref sl])), (sl, .inr (0, [.int 0, .ref ae, .int 0]))] s.heap.size = A at hD hG ⊢
  have hA : ∀ q : Nat, s.heap.size ≤ q → A q := fun q h => by rw [← hAe]; exact Or.inr h
  have hS : va_S A s.heap s.heap [] := va_S.rf
  have hP : va_P D vwCl [(mo, .inr (12, [.int 0, .ref vl, .ref sl])), (sl, .inr (0, [.int 0, .ref ae, .int 0]))] s.heap := hP
  have hl := lv_entry ([.ref mo, .int v0]) (n := 2) (Nat.le_of_ble_eq_true rfl)
  rw [lg_entry_eq]
  generalize (lg_sl ([.ref mo, .int v0]) ++ List.replicate (2 - (lg_sl ([.ref mo, .int v0])).length) Slot.unset).toArray = ls at hl ⊢
  have hl : lv_has ls 2 [(0, .ref mo), (1, .int v0)] := hl
  refine lv_aload_n hx hb dX11_isReached_0 rfl (lv_at hl 0 rfl) ?_
  refine lv_iload_n hx hb dX11_isReached_1 rfl (lv_at hl 1 rfl) ?_
  refine kc_i (wr := []) (va_runV (As := [.int v0]) (rest := []) ⟨hx, hb, hml, hown, hts⟩ (k_isNoStatement l hfl ae D cI cJ cS cO mo vl sl v0 _) (cwV 1 hts (gV q_1224 q_1221 q_1223 q_72 q_104) rfl rfl rfl (by decide +kernel) ⟨Nat.le_of_ble_eq_true rfl, Nat.le_of_ble_eq_true rfl⟩) ⟨Pw.blind, va_recv hK hP (ci := 12) (q0 := 0) rfl rfl, Pw.mk_call hP hK hD hS hA hG [0, 1] rfl (by decide)⟩ rfl rfl hl.1 rfl (lv_room (Nat.le_of_ble_eq_true rfl)) dX11_isReached_2 ⟨Nat.le_of_ble_eq_true rfl, Nat.le_of_ble_eq_true rfl⟩) hP hD hS hA [0, 1] [] rfl rfl (by decide) (by decide) (fun r_1 u_2 H locs hw hP hD hS => ?_)
  obtain rfl : r_1 = 1 := hw
  have hP : va_P D vwCl [(mo, .inr (12, [.int 1, .ref vl, .ref sl])), (sl, .inr (0, [.int 0, .ref ae, .int 0]))] H := hP
  have hD : va_D A [(mo, .inr (12, [.int 1, .ref vl, .ref sl])), (sl, .inr (0, [.int 0, .ref ae, .int 0]))] := hD
  refine lv_if_ne (tgt := 24) hx hb dX11_isReached_5 (by decide) (fun c_5 => ?_) (fun c_5 => absurd c_5 (by decide))
  refine lv_iconst (v := 0) hx hb dX11_isReached_24 (by decide) ?_
  have hP := hP.sub (ws' := [(mo, .inr (12, [.int 1, .ref vl, .ref sl])), (sl, .inr (0, [.int 0, .ref ae, .int 0]))]) [0, 1] rfl
  have hD := hD.sub (ws' := [(mo, .inr (12, [.int 1, .ref vl, .ref sl])), (sl, .inr (0, [.int 0, .ref ae, .int 0]))]) [0, 1] (by decide) rfl
  exact ke_i hx hb hr (by first | rfl | decide) () (rfl) hP hD hS (Nat.le_of_ble_eq_true rfl) (Nat.le_of_ble_eq_true rfl) hlocks dX11_isReached_25

set_option maxHeartbeats 4000000 in
set_option maxRecDepth 100000 in
theorem m_canBe_x (l : Launch) (hfl : l.stackTraces = false) (ae : Nat) (D : va_G) (cI cJ cS cO : ClassId) (mo : Nat) (vl : Nat) (sl : Nat) (v0 : Int32) (v1 : Int32) (v2 : Int32) (sz : Nat)  : Met l yX11_canBe (wx (.code yX11_canBe cX11_canBe 4 (some .int))) ({ frames := 3, cells := 0, slots := 0, locals := 65 }) (va_Pc [.ref mo, .int v0, .int v1, .int v2] (Pw ae D vwCl [(cI, .int), (cJ, .long), (cS, .object "IronwoodModel$State"), (cO, .object "java/lang/Object")] [(mo, .inr (12, [.int 0, .ref vl, .ref sl])), (sl, .inr (0, [.int 0, .ref ae, .int 0]))] sz)) (va_Qi (fun (r : Int32) (u : Unit) => r = 0) (Bw D vwCl (fun (u : Unit) => [(mo, .inr (12, [.int 1, .ref vl, .ref sl])), (sl, .inr (0, [.int 0, .ref ae, .int 0]))]) (va_A [(mo, .inr (12, [.int 0, .ref vl, .ref sl])), (sl, .inr (0, [.int 0, .ref ae, .int 0]))] sz)) (va_A [(mo, .inr (12, [.int 0, .ref vl, .ref sl])), (sl, .inr (0, [.int 0, .ref ae, .int 0]))] sz)) 0 0 (va_A [(mo, .inr (12, [.int 0, .ref vl, .ref sl])), (sl, .inr (0, [.int 0, .ref ae, .int 0]))] sz) := by
  refine Met.ofW (cc := cX11_canBe) (maxL := 4) (ret := (some .int)) (by decide) rfl ?_
  intro p e s m args below meth c s₁ B hml hv9
  obtain ⟨rfl, hsz, hP, hK, hD0, hG⟩ := hv9
  have hx := B.exec
  have hb := B.bytes
  have hr := B.returns
  have hts := atoms_spec (ws := wx (.code yX11_canBe cX11_canBe 4 (some .int))) B.pre
  have hown : s.vm.findClass RX11 = some m.cls := findClass_of_methodNamed B.named
  have hlocks := B.notSynchronized
  subst hsz
  have hD := hD0.self (sz := s.heap.size)
  generalize hAe : va_A [(mo, .inr (12, [.int 0, .ref vl, .ref sl])), (sl, .inr (0, [.int 0, .ref ae, .int 0]))] s.heap.size = A at hD hG ⊢
  have hA : ∀ q : Nat, s.heap.size ≤ q → A q := fun q h => by rw [← hAe]; exact Or.inr h
  have hS : va_S A s.heap s.heap [] := va_S.rf
  have hP : va_P D vwCl [(mo, .inr (12, [.int 0, .ref vl, .ref sl])), (sl, .inr (0, [.int 0, .ref ae, .int 0]))] s.heap := hP
  have hl := lv_entry ([.ref mo, .int v0, .int v1, .int v2]) (n := 4) (Nat.le_of_ble_eq_true rfl)
  rw [lg_entry_eq]
  generalize (lg_sl ([.ref mo, .int v0, .int v1, .int v2]) ++ List.replicate (4 - (lg_sl ([.ref mo, .int v0, .int v1, .int v2])).length) Slot.unset).toArray = ls at hl ⊢
  have hl : lv_has ls 4 [(0, .ref mo), (1, .int v0), (2, .int v1), (3, .int v2)] := hl
  refine lv_aload_n hx hb dX11_canBe_0 rfl (lv_at hl 0 rfl) ?_
  refine lv_iload_n hx hb dX11_canBe_1 rfl (lv_at hl 1 rfl) ?_
  refine kc_i (wr := []) (va_runV (As := [.int v0]) (rest := []) ⟨hx, hb, hml, hown, hts⟩ (k_isNoStatement l hfl ae D cI cJ cS cO mo vl sl v0 _) (cwV 1 hts (gV q_1224 q_1221 q_1223 q_72 q_104) rfl rfl rfl (by decide +kernel) ⟨Nat.le_of_ble_eq_true rfl, Nat.le_of_ble_eq_true rfl⟩) ⟨Pw.blind, va_recv hK hP (ci := 12) (q0 := 0) rfl rfl, Pw.mk_call hP hK hD hS hA hG [0, 1] rfl (by decide)⟩ rfl rfl hl.1 rfl (lv_room (Nat.le_of_ble_eq_true rfl)) dX11_canBe_2 ⟨Nat.le_of_ble_eq_true rfl, Nat.le_of_ble_eq_true rfl⟩) hP hD hS hA [0, 1] [] rfl rfl (by decide) (by decide) (fun r_1 u_2 H locs hw hP hD hS => ?_)
  obtain rfl : r_1 = 1 := hw
  have hP : va_P D vwCl [(mo, .inr (12, [.int 1, .ref vl, .ref sl])), (sl, .inr (0, [.int 0, .ref ae, .int 0]))] H := hP
  have hD : va_D A [(mo, .inr (12, [.int 1, .ref vl, .ref sl])), (sl, .inr (0, [.int 0, .ref ae, .int 0]))] := hD
  refine lv_if_ne (tgt := 48) hx hb dX11_canBe_5 (by decide) (fun c_5 => ?_) (fun c_5 => absurd c_5 (by decide))
  refine lv_iconst (v := 0) hx hb dX11_canBe_48 (by decide) ?_
  have hP := hP.sub (ws' := [(mo, .inr (12, [.int 1, .ref vl, .ref sl])), (sl, .inr (0, [.int 0, .ref ae, .int 0]))]) [0, 1] rfl
  have hD := hD.sub (ws' := [(mo, .inr (12, [.int 1, .ref vl, .ref sl])), (sl, .inr (0, [.int 0, .ref ae, .int 0]))]) [0, 1] (by decide) rfl
  exact ke_i hx hb hr (by first | rfl | decide) () (rfl) hP hD hS (Nat.le_of_ble_eq_true rfl) (Nat.le_of_ble_eq_true rfl) hlocks dX11_canBe_49

set_option maxHeartbeats 4000000 in
set_option maxRecDepth 100000 in
theorem m_holds_x (l : Launch) (hfl : l.stackTraces = false) (ae : Nat) (D : va_G) (cI cJ cS cO : ClassId) (mo : Nat) (vl : Nat) (sl : Nat) (v0 : Int32) (v1 : Int32) (sz : Nat)  : Met l yX11_holds (wx (.code yX11_holds cX11_holds 3 (some .int))) ({ frames := 3, cells := 0, slots := 0, locals := 65 }) (va_Pc [.ref mo, .int v0, .int v1] (Pw ae D vwCl [(cI, .int), (cJ, .long), (cS, .object "IronwoodModel$State"), (cO, .object "java/lang/Object")] [(mo, .inr (12, [.int 0, .ref vl, .ref sl])), (sl, .inr (0, [.int 0, .ref ae, .int 0]))] sz)) (va_Qi (fun (r : Int32) (u : Unit) => r = 0) (Bw D vwCl (fun (u : Unit) => [(mo, .inr (12, [.int 1, .ref vl, .ref sl])), (sl, .inr (0, [.int 0, .ref ae, .int 0]))]) (va_A [(mo, .inr (12, [.int 0, .ref vl, .ref sl])), (sl, .inr (0, [.int 0, .ref ae, .int 0]))] sz)) (va_A [(mo, .inr (12, [.int 0, .ref vl, .ref sl])), (sl, .inr (0, [.int 0, .ref ae, .int 0]))] sz)) 0 0 (va_A [(mo, .inr (12, [.int 0, .ref vl, .ref sl])), (sl, .inr (0, [.int 0, .ref ae, .int 0]))] sz) := by
  refine Met.ofW (cc := cX11_holds) (maxL := 3) (ret := (some .int)) (by decide) rfl ?_
  intro p e s m args below meth c s₁ B hml hv9
  obtain ⟨rfl, hsz, hP, hK, hD0, hG⟩ := hv9
  have hx := B.exec
  have hb := B.bytes
  have hr := B.returns
  have hts := atoms_spec (ws := wx (.code yX11_holds cX11_holds 3 (some .int))) B.pre
  have hown : s.vm.findClass RX11 = some m.cls := findClass_of_methodNamed B.named
  have hlocks := B.notSynchronized
  subst hsz
  have hD := hD0.self (sz := s.heap.size)
  generalize hAe : va_A [(mo, .inr (12, [.int 0, .ref vl, .ref sl])), (sl, .inr (0, [.int 0, .ref ae, .int 0]))] s.heap.size = A at hD hG ⊢
  have hA : ∀ q : Nat, s.heap.size ≤ q → A q := fun q h => by rw [← hAe]; exact Or.inr h
  have hS : va_S A s.heap s.heap [] := va_S.rf
  have hP : va_P D vwCl [(mo, .inr (12, [.int 0, .ref vl, .ref sl])), (sl, .inr (0, [.int 0, .ref ae, .int 0]))] s.heap := hP
  have hl := lv_entry ([.ref mo, .int v0, .int v1]) (n := 3) (Nat.le_of_ble_eq_true rfl)
  rw [lg_entry_eq]
  generalize (lg_sl ([.ref mo, .int v0, .int v1]) ++ List.replicate (3 - (lg_sl ([.ref mo, .int v0, .int v1])).length) Slot.unset).toArray = ls at hl ⊢
  have hl : lv_has ls 3 [(0, .ref mo), (1, .int v0), (2, .int v1)] := hl
  refine lv_aload_n hx hb dX11_holds_0 rfl (lv_at hl 0 rfl) ?_
  refine lv_iload_n hx hb dX11_holds_1 rfl (lv_at hl 1 rfl) ?_
  refine kc_i (wr := []) (va_runV (As := [.int v0]) (rest := []) ⟨hx, hb, hml, hown, hts⟩ (k_isNoStatement l hfl ae D cI cJ cS cO mo vl sl v0 _) (cwV 1 hts (gV q_1224 q_1221 q_1223 q_72 q_104) rfl rfl rfl (by decide +kernel) ⟨Nat.le_of_ble_eq_true rfl, Nat.le_of_ble_eq_true rfl⟩) ⟨Pw.blind, va_recv hK hP (ci := 12) (q0 := 0) rfl rfl, Pw.mk_call hP hK hD hS hA hG [0, 1] rfl (by decide)⟩ rfl rfl hl.1 rfl (lv_room (Nat.le_of_ble_eq_true rfl)) dX11_holds_2 ⟨Nat.le_of_ble_eq_true rfl, Nat.le_of_ble_eq_true rfl⟩) hP hD hS hA [0, 1] [] rfl rfl (by decide) (by decide) (fun r_1 u_2 H locs hw hP hD hS => ?_)
  obtain rfl : r_1 = 1 := hw
  have hP : va_P D vwCl [(mo, .inr (12, [.int 1, .ref vl, .ref sl])), (sl, .inr (0, [.int 0, .ref ae, .int 0]))] H := hP
  have hD : va_D A [(mo, .inr (12, [.int 1, .ref vl, .ref sl])), (sl, .inr (0, [.int 0, .ref ae, .int 0]))] := hD
  refine lv_if_ne (tgt := 21) hx hb dX11_holds_5 (by decide) (fun c_5 => ?_) (fun c_5 => absurd c_5 (by decide))
  refine lv_iconst (v := 0) hx hb dX11_holds_21 (by decide) ?_
  refine lv_goto (tgt := 35) hx hb dX11_holds_22 (by decide) ?_
  have hP := hP.sub (ws' := [(mo, .inr (12, [.int 1, .ref vl, .ref sl])), (sl, .inr (0, [.int 0, .ref ae, .int 0]))]) [0, 1] rfl
  have hD := hD.sub (ws' := [(mo, .inr (12, [.int 1, .ref vl, .ref sl])), (sl, .inr (0, [.int 0, .ref ae, .int 0]))]) [0, 1] (by decide) rfl
  exact ke_i hx hb hr (by first | rfl | decide) () (rfl) hP hD hS (Nat.le_of_ble_eq_true rfl) (Nat.le_of_ble_eq_true rfl) hlocks dX11_holds_35

set_option maxHeartbeats 4000000 in
set_option maxRecDepth 100000 in
theorem m_canHold_x (l : Launch) (hfl : l.stackTraces = false) (ae : Nat) (D : va_G) (cI cJ cS cO : ClassId) (mo : Nat) (vl : Nat) (sl : Nat) (v0 : Int32) (v1 : Int32) (v2 : Int32) (sz : Nat)  : Met l yX11_canHold (wx (.code yX11_canHold cX11_canHold 5 (some .boolean))) ({ frames := 3, cells := 0, slots := 0, locals := 65 }) (va_Pc [.ref mo, .int v0, .int v1, .int v2] (Pw ae D vwCl [(cI, .int), (cJ, .long), (cS, .object "IronwoodModel$State"), (cO, .object "java/lang/Object")] [(mo, .inr (12, [.int 0, .ref vl, .ref sl])), (sl, .inr (0, [.int 0, .ref ae, .int 0]))] sz)) (va_Qi (fun (r : Int32) (u : Unit) => r = 0) (Bw D vwCl (fun (u : Unit) => [(mo, .inr (12, [.int 1, .ref vl, .ref sl])), (sl, .inr (0, [.int 0, .ref ae, .int 0]))]) (va_A [(mo, .inr (12, [.int 0, .ref vl, .ref sl])), (sl, .inr (0, [.int 0, .ref ae, .int 0]))] sz)) (va_A [(mo, .inr (12, [.int 0, .ref vl, .ref sl])), (sl, .inr (0, [.int 0, .ref ae, .int 0]))] sz)) 0 0 (va_A [(mo, .inr (12, [.int 0, .ref vl, .ref sl])), (sl, .inr (0, [.int 0, .ref ae, .int 0]))] sz) := by
  refine Met.ofW (cc := cX11_canHold) (maxL := 5) (ret := (some .boolean)) (by decide) rfl ?_
  intro p e s m args below meth c s₁ B hml hv9
  obtain ⟨rfl, hsz, hP, hK, hD0, hG⟩ := hv9
  have hx := B.exec
  have hb := B.bytes
  have hr := B.returns
  have hts := atoms_spec (ws := wx (.code yX11_canHold cX11_canHold 5 (some .boolean))) B.pre
  have hown : s.vm.findClass RX11 = some m.cls := findClass_of_methodNamed B.named
  have hlocks := B.notSynchronized
  subst hsz
  have hD := hD0.self (sz := s.heap.size)
  generalize hAe : va_A [(mo, .inr (12, [.int 0, .ref vl, .ref sl])), (sl, .inr (0, [.int 0, .ref ae, .int 0]))] s.heap.size = A at hD hG ⊢
  have hA : ∀ q : Nat, s.heap.size ≤ q → A q := fun q h => by rw [← hAe]; exact Or.inr h
  have hS : va_S A s.heap s.heap [] := va_S.rf
  have hP : va_P D vwCl [(mo, .inr (12, [.int 0, .ref vl, .ref sl])), (sl, .inr (0, [.int 0, .ref ae, .int 0]))] s.heap := hP
  have hl := lv_entry ([.ref mo, .int v0, .int v1, .int v2]) (n := 5) (Nat.le_of_ble_eq_true rfl)
  rw [lg_entry_eq]
  generalize (lg_sl ([.ref mo, .int v0, .int v1, .int v2]) ++ List.replicate (5 - (lg_sl ([.ref mo, .int v0, .int v1, .int v2])).length) Slot.unset).toArray = ls at hl ⊢
  have hl : lv_has ls 5 [(0, .ref mo), (1, .int v0), (2, .int v1), (3, .int v2)] := hl
  refine lv_aload_n hx hb dX11_canHold_0 rfl (lv_at hl 0 rfl) ?_
  refine lv_iload_n hx hb dX11_canHold_1 rfl (lv_at hl 1 rfl) ?_
  refine kc_i (wr := []) (va_runV (As := [.int v0]) (rest := []) ⟨hx, hb, hml, hown, hts⟩ (k_isNoStatement l hfl ae D cI cJ cS cO mo vl sl v0 _) (cwV 1 hts (gV q_1224 q_1221 q_1223 q_72 q_104) rfl rfl rfl (by decide +kernel) ⟨Nat.le_of_ble_eq_true rfl, Nat.le_of_ble_eq_true rfl⟩) ⟨Pw.blind, va_recv hK hP (ci := 12) (q0 := 0) rfl rfl, Pw.mk_call hP hK hD hS hA hG [0, 1] rfl (by decide)⟩ rfl rfl hl.1 rfl (lv_room (Nat.le_of_ble_eq_true rfl)) dX11_canHold_2 ⟨Nat.le_of_ble_eq_true rfl, Nat.le_of_ble_eq_true rfl⟩) hP hD hS hA [0, 1] [] rfl rfl (by decide) (by decide) (fun r_1 u_2 H locs hw hP hD hS => ?_)
  obtain rfl : r_1 = 1 := hw
  have hP : va_P D vwCl [(mo, .inr (12, [.int 1, .ref vl, .ref sl])), (sl, .inr (0, [.int 0, .ref ae, .int 0]))] H := hP
  have hD : va_D A [(mo, .inr (12, [.int 1, .ref vl, .ref sl])), (sl, .inr (0, [.int 0, .ref ae, .int 0]))] := hD
  refine lv_if_ne (tgt := 21) hx hb dX11_canHold_5 (by decide) (fun c_5 => ?_) (fun c_5 => absurd c_5 (by decide))
  refine lv_iconst (v := 0) hx hb dX11_canHold_21 (by decide) ?_
  have hP := hP.sub (ws' := [(mo, .inr (12, [.int 1, .ref vl, .ref sl])), (sl, .inr (0, [.int 0, .ref ae, .int 0]))]) [0, 1] rfl
  have hD := hD.sub (ws' := [(mo, .inr (12, [.int 1, .ref vl, .ref sl])), (sl, .inr (0, [.int 0, .ref ae, .int 0]))]) [0, 1] (by decide) rfl
  exact ke_i hx hb hr (by first | rfl | decide) () (rfl) hP hD hS (Nat.le_of_ble_eq_true rfl) (Nat.le_of_ble_eq_true rfl) hlocks dX11_canHold_22

set_option maxHeartbeats 4000000 in
set_option maxRecDepth 100000 in
theorem m_awaited_x (l : Launch) (hfl : l.stackTraces = false) (ae : Nat) (D : va_G) (cI cJ cS cO : ClassId) (mo : Nat) (vl : Nat) (sl : Nat) (v0 : Int32) (sz : Nat)  : Met l yX11_awaited (wx (.code yX11_awaited cX11_awaited 2 (some .int))) ({ frames := 3, cells := 0, slots := 0, locals := 65 }) (va_Pc [.ref mo, .int v0] (Pw ae D vwCl [(cI, .int), (cJ, .long), (cS, .object "IronwoodModel$State"), (cO, .object "java/lang/Object")] [(mo, .inr (12, [.int 0, .ref vl, .ref sl])), (sl, .inr (0, [.int 0, .ref ae, .int 0]))] sz)) (va_Qi (fun (r : Int32) (u : Unit) => r = 0) (Bw D vwCl (fun (u : Unit) => [(mo, .inr (12, [.int 1, .ref vl, .ref sl])), (sl, .inr (0, [.int 0, .ref ae, .int 0]))]) (va_A [(mo, .inr (12, [.int 0, .ref vl, .ref sl])), (sl, .inr (0, [.int 0, .ref ae, .int 0]))] sz)) (va_A [(mo, .inr (12, [.int 0, .ref vl, .ref sl])), (sl, .inr (0, [.int 0, .ref ae, .int 0]))] sz)) 0 0 (va_A [(mo, .inr (12, [.int 0, .ref vl, .ref sl])), (sl, .inr (0, [.int 0, .ref ae, .int 0]))] sz) := by
  refine Met.ofW (cc := cX11_awaited) (maxL := 2) (ret := (some .int)) (by decide) rfl ?_
  intro p e s m args below meth c s₁ B hml hv9
  obtain ⟨rfl, hsz, hP, hK, hD0, hG⟩ := hv9
  have hx := B.exec
  have hb := B.bytes
  have hr := B.returns
  have hts := atoms_spec (ws := wx (.code yX11_awaited cX11_awaited 2 (some .int))) B.pre
  have hown : s.vm.findClass RX11 = some m.cls := findClass_of_methodNamed B.named
  have hlocks := B.notSynchronized
  subst hsz
  have hD := hD0.self (sz := s.heap.size)
  generalize hAe : va_A [(mo, .inr (12, [.int 0, .ref vl, .ref sl])), (sl, .inr (0, [.int 0, .ref ae, .int 0]))] s.heap.size = A at hD hG ⊢
  have hA : ∀ q : Nat, s.heap.size ≤ q → A q := fun q h => by rw [← hAe]; exact Or.inr h
  have hS : va_S A s.heap s.heap [] := va_S.rf
  have hP : va_P D vwCl [(mo, .inr (12, [.int 0, .ref vl, .ref sl])), (sl, .inr (0, [.int 0, .ref ae, .int 0]))] s.heap := hP
  have hl := lv_entry ([.ref mo, .int v0]) (n := 2) (Nat.le_of_ble_eq_true rfl)
  rw [lg_entry_eq]
  generalize (lg_sl ([.ref mo, .int v0]) ++ List.replicate (2 - (lg_sl ([.ref mo, .int v0])).length) Slot.unset).toArray = ls at hl ⊢
  have hl : lv_has ls 2 [(0, .ref mo), (1, .int v0)] := hl
  refine lv_aload_n hx hb dX11_awaited_0 rfl (lv_at hl 0 rfl) ?_
  refine lv_iload_n hx hb dX11_awaited_1 rfl (lv_at hl 1 rfl) ?_
  refine kc_i (wr := []) (va_runV (As := [.int v0]) (rest := []) ⟨hx, hb, hml, hown, hts⟩ (k_isNoStatement l hfl ae D cI cJ cS cO mo vl sl v0 _) (cwV 1 hts (gV q_1224 q_1221 q_1223 q_72 q_104) rfl rfl rfl (by decide +kernel) ⟨Nat.le_of_ble_eq_true rfl, Nat.le_of_ble_eq_true rfl⟩) ⟨Pw.blind, va_recv hK hP (ci := 12) (q0 := 0) rfl rfl, Pw.mk_call hP hK hD hS hA hG [0, 1] rfl (by decide)⟩ rfl rfl hl.1 rfl (lv_room (Nat.le_of_ble_eq_true rfl)) dX11_awaited_2 ⟨Nat.le_of_ble_eq_true rfl, Nat.le_of_ble_eq_true rfl⟩) hP hD hS hA [0, 1] [] rfl rfl (by decide) (by decide) (fun r_1 u_2 H locs hw hP hD hS => ?_)
  obtain rfl : r_1 = 1 := hw
  have hP : va_P D vwCl [(mo, .inr (12, [.int 1, .ref vl, .ref sl])), (sl, .inr (0, [.int 0, .ref ae, .int 0]))] H := hP
  have hD : va_D A [(mo, .inr (12, [.int 1, .ref vl, .ref sl])), (sl, .inr (0, [.int 0, .ref ae, .int 0]))] := hD
  refine lv_if_eq (tgt := 12) hx hb dX11_awaited_5 (by decide) (fun c_5 => absurd c_5 (by decide)) (fun c_5 => ?_)
  refine lv_iconst (v := 0) hx hb dX11_awaited_8 (by decide) ?_
  refine lv_goto (tgt := 21) hx hb dX11_awaited_9 (by decide) ?_
  have hP := hP.sub (ws' := [(mo, .inr (12, [.int 1, .ref vl, .ref sl])), (sl, .inr (0, [.int 0, .ref ae, .int 0]))]) [0, 1] rfl
  have hD := hD.sub (ws' := [(mo, .inr (12, [.int 1, .ref vl, .ref sl])), (sl, .inr (0, [.int 0, .ref ae, .int 0]))]) [0, 1] (by decide) rfl
  exact ke_i hx hb hr (by first | rfl | decide) () (rfl) hP hD hS (Nat.le_of_ble_eq_true rfl) (Nat.le_of_ble_eq_true rfl) hlocks dX11_awaited_21

set_option maxHeartbeats 4000000 in
set_option maxRecDepth 100000 in
theorem m_isLive_x (l : Launch) (hfl : l.stackTraces = false) (ae : Nat) (D : va_G) (cI cJ cS cO : ClassId) (mo : Nat) (vl : Nat) (sl : Nat) (v0 : Int32) (v1 : Int32) (sz : Nat)  : Met l yX11_isLive (wx (.code yX11_isLive cX11_isLive 3 (some .boolean))) ({ frames := 3, cells := 0, slots := 0, locals := 65 }) (va_Pc [.ref mo, .int v0, .int v1] (Pw ae D vwCl [(cI, .int), (cJ, .long), (cS, .object "IronwoodModel$State"), (cO, .object "java/lang/Object")] [(mo, .inr (12, [.int 0, .ref vl, .ref sl])), (sl, .inr (0, [.int 0, .ref ae, .int 0]))] sz)) (va_Qi (fun (r : Int32) (u : Unit) => r = 0) (Bw D vwCl (fun (u : Unit) => [(mo, .inr (12, [.int 1, .ref vl, .ref sl])), (sl, .inr (0, [.int 0, .ref ae, .int 0]))]) (va_A [(mo, .inr (12, [.int 0, .ref vl, .ref sl])), (sl, .inr (0, [.int 0, .ref ae, .int 0]))] sz)) (va_A [(mo, .inr (12, [.int 0, .ref vl, .ref sl])), (sl, .inr (0, [.int 0, .ref ae, .int 0]))] sz)) 0 0 (va_A [(mo, .inr (12, [.int 0, .ref vl, .ref sl])), (sl, .inr (0, [.int 0, .ref ae, .int 0]))] sz) := by
  refine Met.ofW (cc := cX11_isLive) (maxL := 3) (ret := (some .boolean)) (by decide) rfl ?_
  intro p e s m args below meth c s₁ B hml hv9
  obtain ⟨rfl, hsz, hP, hK, hD0, hG⟩ := hv9
  have hx := B.exec
  have hb := B.bytes
  have hr := B.returns
  have hts := atoms_spec (ws := wx (.code yX11_isLive cX11_isLive 3 (some .boolean))) B.pre
  have hown : s.vm.findClass RX11 = some m.cls := findClass_of_methodNamed B.named
  have hlocks := B.notSynchronized
  subst hsz
  have hD := hD0.self (sz := s.heap.size)
  generalize hAe : va_A [(mo, .inr (12, [.int 0, .ref vl, .ref sl])), (sl, .inr (0, [.int 0, .ref ae, .int 0]))] s.heap.size = A at hD hG ⊢
  have hA : ∀ q : Nat, s.heap.size ≤ q → A q := fun q h => by rw [← hAe]; exact Or.inr h
  have hS : va_S A s.heap s.heap [] := va_S.rf
  have hP : va_P D vwCl [(mo, .inr (12, [.int 0, .ref vl, .ref sl])), (sl, .inr (0, [.int 0, .ref ae, .int 0]))] s.heap := hP
  have hl := lv_entry ([.ref mo, .int v0, .int v1]) (n := 3) (Nat.le_of_ble_eq_true rfl)
  rw [lg_entry_eq]
  generalize (lg_sl ([.ref mo, .int v0, .int v1]) ++ List.replicate (3 - (lg_sl ([.ref mo, .int v0, .int v1])).length) Slot.unset).toArray = ls at hl ⊢
  have hl : lv_has ls 3 [(0, .ref mo), (1, .int v0), (2, .int v1)] := hl
  refine lv_aload_n hx hb dX11_isLive_0 rfl (lv_at hl 0 rfl) ?_
  refine lv_iload_n hx hb dX11_isLive_1 rfl (lv_at hl 2 rfl) ?_
  refine kc_i (wr := []) (va_runV (As := [.int v1]) (rest := []) ⟨hx, hb, hml, hown, hts⟩ (k_isNoStatement l hfl ae D cI cJ cS cO mo vl sl v1 _) (cwV 1 hts (gV q_1224 q_1221 q_1223 q_72 q_104) rfl rfl rfl (by decide +kernel) ⟨Nat.le_of_ble_eq_true rfl, Nat.le_of_ble_eq_true rfl⟩) ⟨Pw.blind, va_recv hK hP (ci := 12) (q0 := 0) rfl rfl, Pw.mk_call hP hK hD hS hA hG [0, 1] rfl (by decide)⟩ rfl rfl hl.1 rfl (lv_room (Nat.le_of_ble_eq_true rfl)) dX11_isLive_2 ⟨Nat.le_of_ble_eq_true rfl, Nat.le_of_ble_eq_true rfl⟩) hP hD hS hA [0, 1] [] rfl rfl (by decide) (by decide) (fun r_1 u_2 H locs hw hP hD hS => ?_)
  obtain rfl : r_1 = 1 := hw
  have hP : va_P D vwCl [(mo, .inr (12, [.int 1, .ref vl, .ref sl])), (sl, .inr (0, [.int 0, .ref ae, .int 0]))] H := hP
  have hD : va_D A [(mo, .inr (12, [.int 1, .ref vl, .ref sl])), (sl, .inr (0, [.int 0, .ref ae, .int 0]))] := hD
  refine lv_if_ne (tgt := 24) hx hb dX11_isLive_5 (by decide) (fun c_5 => ?_) (fun c_5 => absurd c_5 (by decide))
  refine lv_iconst (v := 0) hx hb dX11_isLive_24 (by decide) ?_
  have hP := hP.sub (ws' := [(mo, .inr (12, [.int 1, .ref vl, .ref sl])), (sl, .inr (0, [.int 0, .ref ae, .int 0]))]) [0, 1] rfl
  have hD := hD.sub (ws' := [(mo, .inr (12, [.int 1, .ref vl, .ref sl])), (sl, .inr (0, [.int 0, .ref ae, .int 0]))]) [0, 1] (by decide) rfl
  exact ke_i hx hb hr (by first | rfl | decide) () (rfl) hP hD hS (Nat.le_of_ble_eq_true rfl) (Nat.le_of_ble_eq_true rfl) hlocks dX11_isLive_25

set_option maxHeartbeats 4000000 in
set_option maxRecDepth 100000 in
theorem m_faultsAt_x (l : Launch) (hfl : l.stackTraces = false) (ae : Nat) (D : va_G) (cI cJ cS cO : ClassId) (mo : Nat) (vl : Nat) (sl : Nat) (v0 : Int32) (sz : Nat)  : Met l yX11_faultsAt (wx (.code yX11_faultsAt cX11_faultsAt 2 (some .int))) ({ frames := 3, cells := 0, slots := 0, locals := 65 }) (va_Pc [.ref mo, .int v0] (Pw ae D vwCl [(cI, .int), (cJ, .long), (cS, .object "IronwoodModel$State"), (cO, .object "java/lang/Object")] [(mo, .inr (12, [.int 0, .ref vl, .ref sl])), (sl, .inr (0, [.int 0, .ref ae, .int 0]))] sz)) (va_Qi (fun (r : Int32) (u : Unit) => r = 0) (Bw D vwCl (fun (u : Unit) => [(mo, .inr (12, [.int 1, .ref vl, .ref sl])), (sl, .inr (0, [.int 0, .ref ae, .int 0]))]) (va_A [(mo, .inr (12, [.int 0, .ref vl, .ref sl])), (sl, .inr (0, [.int 0, .ref ae, .int 0]))] sz)) (va_A [(mo, .inr (12, [.int 0, .ref vl, .ref sl])), (sl, .inr (0, [.int 0, .ref ae, .int 0]))] sz)) 0 0 (va_A [(mo, .inr (12, [.int 0, .ref vl, .ref sl])), (sl, .inr (0, [.int 0, .ref ae, .int 0]))] sz) := by
  refine Met.ofW (cc := cX11_faultsAt) (maxL := 2) (ret := (some .int)) (by decide) rfl ?_
  intro p e s m args below meth c s₁ B hml hv9
  obtain ⟨rfl, hsz, hP, hK, hD0, hG⟩ := hv9
  have hx := B.exec
  have hb := B.bytes
  have hr := B.returns
  have hts := atoms_spec (ws := wx (.code yX11_faultsAt cX11_faultsAt 2 (some .int))) B.pre
  have hown : s.vm.findClass RX11 = some m.cls := findClass_of_methodNamed B.named
  have hlocks := B.notSynchronized
  subst hsz
  have hD := hD0.self (sz := s.heap.size)
  generalize hAe : va_A [(mo, .inr (12, [.int 0, .ref vl, .ref sl])), (sl, .inr (0, [.int 0, .ref ae, .int 0]))] s.heap.size = A at hD hG ⊢
  have hA : ∀ q : Nat, s.heap.size ≤ q → A q := fun q h => by rw [← hAe]; exact Or.inr h
  have hS : va_S A s.heap s.heap [] := va_S.rf
  have hP : va_P D vwCl [(mo, .inr (12, [.int 0, .ref vl, .ref sl])), (sl, .inr (0, [.int 0, .ref ae, .int 0]))] s.heap := hP
  have hl := lv_entry ([.ref mo, .int v0]) (n := 2) (Nat.le_of_ble_eq_true rfl)
  rw [lg_entry_eq]
  generalize (lg_sl ([.ref mo, .int v0]) ++ List.replicate (2 - (lg_sl ([.ref mo, .int v0])).length) Slot.unset).toArray = ls at hl ⊢
  have hl : lv_has ls 2 [(0, .ref mo), (1, .int v0)] := hl
  refine lv_aload_n hx hb dX11_faultsAt_0 rfl (lv_at hl 0 rfl) ?_
  refine lv_iload_n hx hb dX11_faultsAt_1 rfl (lv_at hl 1 rfl) ?_
  refine kc_i (wr := []) (va_runV (As := [.int v0]) (rest := []) ⟨hx, hb, hml, hown, hts⟩ (k_isNoStatement l hfl ae D cI cJ cS cO mo vl sl v0 _) (cwV 1 hts (gV q_1224 q_1221 q_1223 q_72 q_104) rfl rfl rfl (by decide +kernel) ⟨Nat.le_of_ble_eq_true rfl, Nat.le_of_ble_eq_true rfl⟩) ⟨Pw.blind, va_recv hK hP (ci := 12) (q0 := 0) rfl rfl, Pw.mk_call hP hK hD hS hA hG [0, 1] rfl (by decide)⟩ rfl rfl hl.1 rfl (lv_room (Nat.le_of_ble_eq_true rfl)) dX11_faultsAt_2 ⟨Nat.le_of_ble_eq_true rfl, Nat.le_of_ble_eq_true rfl⟩) hP hD hS hA [0, 1] [] rfl rfl (by decide) (by decide) (fun r_1 u_2 H locs hw hP hD hS => ?_)
  obtain rfl : r_1 = 1 := hw
  have hP : va_P D vwCl [(mo, .inr (12, [.int 1, .ref vl, .ref sl])), (sl, .inr (0, [.int 0, .ref ae, .int 0]))] H := hP
  have hD : va_D A [(mo, .inr (12, [.int 1, .ref vl, .ref sl])), (sl, .inr (0, [.int 0, .ref ae, .int 0]))] := hD
  refine lv_if_eq (tgt := 12) hx hb dX11_faultsAt_5 (by decide) (fun c_5 => absurd c_5 (by decide)) (fun c_5 => ?_)
  refine lv_iconst (v := 0) hx hb dX11_faultsAt_8 (by decide) ?_
  refine lv_goto (tgt := 24) hx hb dX11_faultsAt_9 (by decide) ?_
  have hP := hP.sub (ws' := [(mo, .inr (12, [.int 1, .ref vl, .ref sl])), (sl, .inr (0, [.int 0, .ref ae, .int 0]))]) [0, 1] rfl
  have hD := hD.sub (ws' := [(mo, .inr (12, [.int 1, .ref vl, .ref sl])), (sl, .inr (0, [.int 0, .ref ae, .int 0]))]) [0, 1] (by decide) rfl
  exact ke_i hx hb hr (by first | rfl | decide) () (rfl) hP hD hS (Nat.le_of_ble_eq_true rfl) (Nat.le_of_ble_eq_true rfl) hlocks dX11_faultsAt_24

set_option maxHeartbeats 4000000 in
set_option maxRecDepth 100000 in
theorem m_without_x (l : Launch) (hfl : l.stackTraces = false) (ae : Nat) (D : va_G) (cI cJ cS cO : ClassId) (mo : Nat) (vl : Nat) (sl : Nat) (v0 : Int32) (sz : Nat)  : Met l yX11_without (wx (.code yX11_without cX11_without 2 (some .int))) ({ frames := 3, cells := 0, slots := 0, locals := 65 }) (va_Pc [.ref mo, .int v0] (Pw ae D vwCl [(cI, .int), (cJ, .long), (cS, .object "IronwoodModel$State"), (cO, .object "java/lang/Object")] [(mo, .inr (12, [.int 0, .ref vl, .ref sl])), (sl, .inr (0, [.int 0, .ref ae, .int 0]))] sz)) (va_Qi (fun (r : Int32) (u : Unit) => r = 0) (Bw D vwCl (fun (u : Unit) => [(mo, .inr (12, [.int 1, .ref vl, .ref sl])), (sl, .inr (0, [.int 0, .ref ae, .int 0]))]) (va_A [(mo, .inr (12, [.int 0, .ref vl, .ref sl])), (sl, .inr (0, [.int 0, .ref ae, .int 0]))] sz)) (va_A [(mo, .inr (12, [.int 0, .ref vl, .ref sl])), (sl, .inr (0, [.int 0, .ref ae, .int 0]))] sz)) 0 0 (va_A [(mo, .inr (12, [.int 0, .ref vl, .ref sl])), (sl, .inr (0, [.int 0, .ref ae, .int 0]))] sz) := by
  refine Met.ofW (cc := cX11_without) (maxL := 2) (ret := (some .int)) (by decide) rfl ?_
  intro p e s m args below meth c s₁ B hml hv9
  obtain ⟨rfl, hsz, hP, hK, hD0, hG⟩ := hv9
  have hx := B.exec
  have hb := B.bytes
  have hr := B.returns
  have hts := atoms_spec (ws := wx (.code yX11_without cX11_without 2 (some .int))) B.pre
  have hown : s.vm.findClass RX11 = some m.cls := findClass_of_methodNamed B.named
  have hlocks := B.notSynchronized
  subst hsz
  have hD := hD0.self (sz := s.heap.size)
  generalize hAe : va_A [(mo, .inr (12, [.int 0, .ref vl, .ref sl])), (sl, .inr (0, [.int 0, .ref ae, .int 0]))] s.heap.size = A at hD hG ⊢
  have hA : ∀ q : Nat, s.heap.size ≤ q → A q := fun q h => by rw [← hAe]; exact Or.inr h
  have hS : va_S A s.heap s.heap [] := va_S.rf
  have hP : va_P D vwCl [(mo, .inr (12, [.int 0, .ref vl, .ref sl])), (sl, .inr (0, [.int 0, .ref ae, .int 0]))] s.heap := hP
  have hl := lv_entry ([.ref mo, .int v0]) (n := 2) (Nat.le_of_ble_eq_true rfl)
  rw [lg_entry_eq]
  generalize (lg_sl ([.ref mo, .int v0]) ++ List.replicate (2 - (lg_sl ([.ref mo, .int v0])).length) Slot.unset).toArray = ls at hl ⊢
  have hl : lv_has ls 2 [(0, .ref mo), (1, .int v0)] := hl
  refine lv_aload_n hx hb dX11_without_0 rfl (lv_at hl 0 rfl) ?_
  refine lv_iload_n hx hb dX11_without_1 rfl (lv_at hl 1 rfl) ?_
  refine kc_i (wr := []) (va_runV (As := [.int v0]) (rest := []) ⟨hx, hb, hml, hown, hts⟩ (k_isNoStatement l hfl ae D cI cJ cS cO mo vl sl v0 _) (cwV 1 hts (gV q_1224 q_1221 q_1223 q_72 q_104) rfl rfl rfl (by decide +kernel) ⟨Nat.le_of_ble_eq_true rfl, Nat.le_of_ble_eq_true rfl⟩) ⟨Pw.blind, va_recv hK hP (ci := 12) (q0 := 0) rfl rfl, Pw.mk_call hP hK hD hS hA hG [0, 1] rfl (by decide)⟩ rfl rfl hl.1 rfl (lv_room (Nat.le_of_ble_eq_true rfl)) dX11_without_2 ⟨Nat.le_of_ble_eq_true rfl, Nat.le_of_ble_eq_true rfl⟩) hP hD hS hA [0, 1] [] rfl rfl (by decide) (by decide) (fun r_1 u_2 H locs hw hP hD hS => ?_)
  obtain rfl : r_1 = 1 := hw
  have hP : va_P D vwCl [(mo, .inr (12, [.int 1, .ref vl, .ref sl])), (sl, .inr (0, [.int 0, .ref ae, .int 0]))] H := hP
  have hD : va_D A [(mo, .inr (12, [.int 1, .ref vl, .ref sl])), (sl, .inr (0, [.int 0, .ref ae, .int 0]))] := hD
  refine lv_if_eq (tgt := 12) hx hb dX11_without_5 (by decide) (fun c_5 => absurd c_5 (by decide)) (fun c_5 => ?_)
  refine lv_iconst (v := 0) hx hb dX11_without_8 (by decide) ?_
  refine lv_goto (tgt := 17) hx hb dX11_without_9 (by decide) ?_
  have hP := hP.sub (ws' := [(mo, .inr (12, [.int 1, .ref vl, .ref sl])), (sl, .inr (0, [.int 0, .ref ae, .int 0]))]) [0, 1] rfl
  have hD := hD.sub (ws' := [(mo, .inr (12, [.int 1, .ref vl, .ref sl])), (sl, .inr (0, [.int 0, .ref ae, .int 0]))]) [0, 1] (by decide) rfl
  exact ke_i hx hb hr (by first | rfl | decide) () (rfl) hP hD hS (Nat.le_of_ble_eq_true rfl) (Nat.le_of_ble_eq_true rfl) hlocks dX11_without_17

set_option maxHeartbeats 4000000 in
set_option maxRecDepth 100000 in
theorem m_copied_x (l : Launch) (hfl : l.stackTraces = false) (ae : Nat) (D : va_G) (cI cJ cS cO : ClassId) (mo : Nat) (vl : Nat) (sl : Nat) (v0 : Int32) (sz : Nat)  : Met l yX11_copied (wx (.code yX11_copied cX11_copied 2 (some .int))) ({ frames := 3, cells := 0, slots := 0, locals := 65 }) (va_Pc [.ref mo, .int v0] (Pw ae D vwCl [(cI, .int), (cJ, .long), (cS, .object "IronwoodModel$State"), (cO, .object "java/lang/Object")] [(mo, .inr (12, [.int 0, .ref vl, .ref sl])), (sl, .inr (0, [.int 0, .ref ae, .int 0]))] sz)) (va_Qi (fun (r : Int32) (u : Unit) => r = 0) (Bw D vwCl (fun (u : Unit) => [(mo, .inr (12, [.int 1, .ref vl, .ref sl])), (sl, .inr (0, [.int 0, .ref ae, .int 0]))]) (va_A [(mo, .inr (12, [.int 0, .ref vl, .ref sl])), (sl, .inr (0, [.int 0, .ref ae, .int 0]))] sz)) (va_A [(mo, .inr (12, [.int 0, .ref vl, .ref sl])), (sl, .inr (0, [.int 0, .ref ae, .int 0]))] sz)) 0 0 (va_A [(mo, .inr (12, [.int 0, .ref vl, .ref sl])), (sl, .inr (0, [.int 0, .ref ae, .int 0]))] sz) := by
  refine Met.ofW (cc := cX11_copied) (maxL := 2) (ret := (some .int)) (by decide) rfl ?_
  intro p e s m args below meth c s₁ B hml hv9
  obtain ⟨rfl, hsz, hP, hK, hD0, hG⟩ := hv9
  have hx := B.exec
  have hb := B.bytes
  have hr := B.returns
  have hts := atoms_spec (ws := wx (.code yX11_copied cX11_copied 2 (some .int))) B.pre
  have hown : s.vm.findClass RX11 = some m.cls := findClass_of_methodNamed B.named
  have hlocks := B.notSynchronized
  subst hsz
  have hD := hD0.self (sz := s.heap.size)
  generalize hAe : va_A [(mo, .inr (12, [.int 0, .ref vl, .ref sl])), (sl, .inr (0, [.int 0, .ref ae, .int 0]))] s.heap.size = A at hD hG ⊢
  have hA : ∀ q : Nat, s.heap.size ≤ q → A q := fun q h => by rw [← hAe]; exact Or.inr h
  have hS : va_S A s.heap s.heap [] := va_S.rf
  have hP : va_P D vwCl [(mo, .inr (12, [.int 0, .ref vl, .ref sl])), (sl, .inr (0, [.int 0, .ref ae, .int 0]))] s.heap := hP
  have hl := lv_entry ([.ref mo, .int v0]) (n := 2) (Nat.le_of_ble_eq_true rfl)
  rw [lg_entry_eq]
  generalize (lg_sl ([.ref mo, .int v0]) ++ List.replicate (2 - (lg_sl ([.ref mo, .int v0])).length) Slot.unset).toArray = ls at hl ⊢
  have hl : lv_has ls 2 [(0, .ref mo), (1, .int v0)] := hl
  refine lv_aload_n hx hb dX11_copied_0 rfl (lv_at hl 0 rfl) ?_
  refine lv_iload_n hx hb dX11_copied_1 rfl (lv_at hl 1 rfl) ?_
  refine kc_i (wr := []) (va_runV (As := [.int v0]) (rest := []) ⟨hx, hb, hml, hown, hts⟩ (k_isNoStatement l hfl ae D cI cJ cS cO mo vl sl v0 _) (cwV 1 hts (gV q_1224 q_1221 q_1223 q_72 q_104) rfl rfl rfl (by decide +kernel) ⟨Nat.le_of_ble_eq_true rfl, Nat.le_of_ble_eq_true rfl⟩) ⟨Pw.blind, va_recv hK hP (ci := 12) (q0 := 0) rfl rfl, Pw.mk_call hP hK hD hS hA hG [0, 1] rfl (by decide)⟩ rfl rfl hl.1 rfl (lv_room (Nat.le_of_ble_eq_true rfl)) dX11_copied_2 ⟨Nat.le_of_ble_eq_true rfl, Nat.le_of_ble_eq_true rfl⟩) hP hD hS hA [0, 1] [] rfl rfl (by decide) (by decide) (fun r_1 u_2 H locs hw hP hD hS => ?_)
  obtain rfl : r_1 = 1 := hw
  have hP : va_P D vwCl [(mo, .inr (12, [.int 1, .ref vl, .ref sl])), (sl, .inr (0, [.int 0, .ref ae, .int 0]))] H := hP
  have hD : va_D A [(mo, .inr (12, [.int 1, .ref vl, .ref sl])), (sl, .inr (0, [.int 0, .ref ae, .int 0]))] := hD
  refine lv_if_eq (tgt := 12) hx hb dX11_copied_5 (by decide) (fun c_5 => absurd c_5 (by decide)) (fun c_5 => ?_)
  refine lv_iconst (v := 0) hx hb dX11_copied_8 (by decide) ?_
  refine lv_goto (tgt := 28) hx hb dX11_copied_9 (by decide) ?_
  have hP := hP.sub (ws' := [(mo, .inr (12, [.int 1, .ref vl, .ref sl])), (sl, .inr (0, [.int 0, .ref ae, .int 0]))]) [0, 1] rfl
  have hD := hD.sub (ws' := [(mo, .inr (12, [.int 1, .ref vl, .ref sl])), (sl, .inr (0, [.int 0, .ref ae, .int 0]))]) [0, 1] (by decide) rfl
  exact ke_i hx hb hr (by first | rfl | decide) () (rfl) hP hD hS (Nat.le_of_ble_eq_true rfl) (Nat.le_of_ble_eq_true rfl) hlocks dX11_copied_28

set_option maxHeartbeats 4000000 in
set_option maxRecDepth 100000 in
theorem m_undo_x (l : Launch) (hfl : l.stackTraces = false) (ae : Nat) (D : va_G) (cI cJ cS cO : ClassId) (mo : Nat) (vl : Nat) (sl : Nat) (sz : Nat)  : Met l yX11_undo (wx (.code yX11_undo cX11_undo 1 (some .int))) ({ frames := 2, cells := 0, slots := 0, locals := 44 }) (va_Pc [.ref mo] (Pw ae D vwCl [(cI, .int), (cJ, .long), (cS, .object "IronwoodModel$State"), (cO, .object "java/lang/Object")] [(mo, .inr (12, [.int 0, .ref vl, .ref sl])), (sl, .inr (0, [.int 0, .ref ae, .int 0]))] sz)) (va_Qi (fun (r : Int32) (u : Unit) => r = 0) (Bw D vwCl (fun (u : Unit) => [(mo, .inr (12, [.int 1, .ref vl, .ref sl])), (sl, .inr (0, [.int 0, .ref ae, .int 0]))]) (va_A [(mo, .inr (12, [.int 0, .ref vl, .ref sl])), (sl, .inr (0, [.int 0, .ref ae, .int 0]))] sz)) (va_A [(mo, .inr (12, [.int 0, .ref vl, .ref sl])), (sl, .inr (0, [.int 0, .ref ae, .int 0]))] sz)) 0 0 (va_A [(mo, .inr (12, [.int 0, .ref vl, .ref sl])), (sl, .inr (0, [.int 0, .ref ae, .int 0]))] sz) := by
  refine Met.ofW (cc := cX11_undo) (maxL := 1) (ret := (some .int)) (by decide) rfl ?_
  intro p e s m args below meth c s₁ B hml hv9
  obtain ⟨rfl, hsz, hP, hK, hD0, hG⟩ := hv9
  have hx := B.exec
  have hb := B.bytes
  have hr := B.returns
  have hts := atoms_spec (ws := wx (.code yX11_undo cX11_undo 1 (some .int))) B.pre
  have hown : s.vm.findClass RX11 = some m.cls := findClass_of_methodNamed B.named
  have hlocks := B.notSynchronized
  subst hsz
  have hD := hD0.self (sz := s.heap.size)
  generalize hAe : va_A [(mo, .inr (12, [.int 0, .ref vl, .ref sl])), (sl, .inr (0, [.int 0, .ref ae, .int 0]))] s.heap.size = A at hD hG ⊢
  have hA : ∀ q : Nat, s.heap.size ≤ q → A q := fun q h => by rw [← hAe]; exact Or.inr h
  have hS : va_S A s.heap s.heap [] := va_S.rf
  have hP : va_P D vwCl [(mo, .inr (12, [.int 0, .ref vl, .ref sl])), (sl, .inr (0, [.int 0, .ref ae, .int 0]))] s.heap := hP
  have hl := lv_entry ([.ref mo]) (n := 1) (Nat.le_of_ble_eq_true rfl)
  rw [lg_entry_eq]
  generalize (lg_sl ([.ref mo]) ++ List.replicate (1 - (lg_sl ([.ref mo])).length) Slot.unset).toArray = ls at hl ⊢
  have hl : lv_has ls 1 [(0, .ref mo)] := hl
  refine lv_aload_n hx hb dX11_undo_0 rfl (lv_at hl 0 rfl) ?_
  refine lv_aload_n hx hb dX11_undo_1 rfl (lv_at hl 0 rfl) ?_
  refine va_get (D := D) (ci := 12) (v := .ref sl) (C := RX11) (T := TX11) (N := 3) (ref := "IronwoodModel") hx hb hts in_RX11 hown hK hP 0 rfl rfl 2 (by decide) (hts _ (mc q_1005)) (fun _ h9 => h9) rfl dX11_undo_2 ?_
  refine kc_i (wr := [(mo, .inr (12, [.int 0, .ref vl, .ref sl]))]) (va_runV (As := []) (rest := [.ref mo]) ⟨hx, hb, hml, hown, hts⟩ (k_al_isEmpty_0 l hfl ae D cI cJ cS cO sl 0 ae _) (cwV 0 hts (gV q_1236 q_1233 q_1234 q_1235 q_107) rfl rfl rfl (by decide +kernel) ⟨Nat.le_of_ble_eq_true rfl, Nat.le_of_ble_eq_true rfl⟩) ⟨Pw.blind, va_recv hK hP (ci := 0) (q0 := 1) rfl rfl, Pw.mk_call hP hK hD hS hA hG [1] rfl (by decide)⟩ rfl rfl hl.1 rfl (lv_room (Nat.le_of_ble_eq_true rfl)) dX11_undo_5 ⟨Nat.le_of_ble_eq_true rfl, Nat.le_of_ble_eq_true rfl⟩) hP hD hS hA [1] [0] rfl rfl (by decide) (by decide) (fun r_1 u_2 H locs hw hP hD hS => ?_)
  obtain rfl : r_1 = 1 := hw
  have hP : va_P D vwCl [(mo, .inr (12, [.int 0, .ref vl, .ref sl])), (sl, .inr (0, [.int 0, .ref ae, .int 0]))] H := hP
  have hD : va_D A [(mo, .inr (12, [.int 0, .ref vl, .ref sl])), (sl, .inr (0, [.int 0, .ref ae, .int 0]))] := hD
  refine lv_iconst (v := 1) hx hb dX11_undo_8 (by decide) ?_
  refine kc_i (wr := [(sl, .inr (0, [.int 0, .ref ae, .int 0]))]) (va_runV (As := [.int 1, .int 1]) (rest := []) ⟨hx, hb, hml, hown, hts⟩ (k_start_1 l hfl ae D cI cJ cS cO mo vl sl 0 1 _ (by decide)) (cwV 2 hts (gV q_1028 q_1025 q_1027 q_63 q_104) rfl rfl rfl (by decide +kernel) ⟨Nat.le_of_ble_eq_true rfl, Nat.le_of_ble_eq_true rfl⟩) ⟨Pw.blind, va_recv hK hP (ci := 12) (q0 := 0) rfl rfl, Pw.mk_call hP hK hD hS hA hG [0] rfl (by decide)⟩ rfl rfl hl.1 rfl (lv_room (Nat.le_of_ble_eq_true rfl)) dX11_undo_9 ⟨Nat.le_of_ble_eq_true rfl, Nat.le_of_ble_eq_true rfl⟩) hP hD hS hA [0] [1] rfl rfl (by decide) (by decide) (fun r_3 u_4 H locs hw hP hD hS => ?_)
  obtain rfl : r_3 = 1 := hw
  have hP : va_P D vwCl [(sl, .inr (0, [.int 0, .ref ae, .int 0])), (mo, .inr (12, [.int 1, .ref vl, .ref sl]))] H := hP
  have hD : va_D A [(sl, .inr (0, [.int 0, .ref ae, .int 0])), (mo, .inr (12, [.int 1, .ref vl, .ref sl]))] := hD
  refine lv_if_eq (tgt := 17) hx hb dX11_undo_12 (by decide) (fun c_12 => absurd c_12 (by decide)) (fun c_12 => ?_)
  refine lv_iconst (v := 0) hx hb dX11_undo_15 (by decide) ?_
  have hP := hP.sub (ws' := [(mo, .inr (12, [.int 1, .ref vl, .ref sl])), (sl, .inr (0, [.int 0, .ref ae, .int 0]))]) [1, 0] rfl
  have hD := hD.sub (ws' := [(mo, .inr (12, [.int 1, .ref vl, .ref sl])), (sl, .inr (0, [.int 0, .ref ae, .int 0]))]) [1, 0] (by decide) rfl
  exact ke_i hx hb hr (by first | rfl | decide) () (rfl) hP hD hS (Nat.le_of_ble_eq_true rfl) (Nat.le_of_ble_eq_true rfl) hlocks dX11_undo_16

set_option maxHeartbeats 4000000 in
set_option maxRecDepth 100000 in
theorem m_thrown (l : Launch) (hfl : l.stackTraces = false) (ae : Nat) (D : va_G) (cI cJ cS cO : ClassId) (mo : Nat) (vl : Nat) (sl : Nat) (tz : Int32) (sz : Nat)  : Met l yX11_thrown (wx (.code yX11_thrown cX11_thrown 1 (some .int))) ({ frames := 0, cells := 0, slots := 0, locals := 0 }) (va_Pc [.ref mo] (Pw ae D vwCl [(cI, .int), (cJ, .long), (cS, .object "IronwoodModel$State"), (cO, .object "java/lang/Object")] [(mo, .inr (12, [.int tz, .ref vl, .ref sl]))] sz)) (va_Qi (fun (r : Int32) (u : Unit) => r = tz) (Bw D vwCl (fun (u : Unit) => [(mo, .inr (12, [.int tz, .ref vl, .ref sl]))]) (va_A [(mo, .inr (12, [.int tz, .ref vl, .ref sl]))] sz)) (va_A [(mo, .inr (12, [.int tz, .ref vl, .ref sl]))] sz)) 0 0 (va_A [(mo, .inr (12, [.int tz, .ref vl, .ref sl]))] sz) := by
  refine Met.ofW (cc := cX11_thrown) (maxL := 1) (ret := (some .int)) (by decide) rfl ?_
  intro p e s m args below meth c s₁ B hml hv9
  obtain ⟨rfl, hsz, hP, hK, hD0, hG⟩ := hv9
  have hx := B.exec
  have hb := B.bytes
  have hr := B.returns
  have hts := atoms_spec (ws := wx (.code yX11_thrown cX11_thrown 1 (some .int))) B.pre
  have hown : s.vm.findClass RX11 = some m.cls := findClass_of_methodNamed B.named
  have hlocks := B.notSynchronized
  subst hsz
  have hD := hD0.self (sz := s.heap.size)
  generalize hAe : va_A [(mo, .inr (12, [.int tz, .ref vl, .ref sl]))] s.heap.size = A at hD hG ⊢
  have hA : ∀ q : Nat, s.heap.size ≤ q → A q := fun q h => by rw [← hAe]; exact Or.inr h
  have hS : va_S A s.heap s.heap [] := va_S.rf
  have hP : va_P D vwCl [(mo, .inr (12, [.int tz, .ref vl, .ref sl]))] s.heap := hP
  have hl := lv_entry ([.ref mo]) (n := 1) (Nat.le_of_ble_eq_true rfl)
  rw [lg_entry_eq]
  generalize (lg_sl ([.ref mo]) ++ List.replicate (1 - (lg_sl ([.ref mo])).length) Slot.unset).toArray = ls at hl ⊢
  have hl : lv_has ls 1 [(0, .ref mo)] := hl
  refine lv_aload_n hx hb dX11_thrown_0 rfl (lv_at hl 0 rfl) ?_
  refine va_get (D := D) (ci := 12) (v := .int tz) (C := RX11) (T := TX11) (N := 3) (ref := "IronwoodModel") hx hb hts in_RX11 hown hK hP 0 rfl rfl 0 (by decide) (hts _ (mc q_1002)) (fun _ h9 => h9) rfl dX11_thrown_1 ?_
  have hP := hP.sub (ws' := [(mo, .inr (12, [.int tz, .ref vl, .ref sl]))]) [0] rfl
  have hD := hD.sub (ws' := [(mo, .inr (12, [.int tz, .ref vl, .ref sl]))]) [0] (by decide) rfl
  exact ke_i hx hb hr (by first | rfl | decide) () (rfl) hP hD hS (Nat.le_of_ble_eq_true rfl) (Nat.le_of_ble_eq_true rfl) hlocks dX11_thrown_4

set_option maxHeartbeats 4000000 in
set_option maxRecDepth 100000 in
theorem m_variables (l : Launch) (hfl : l.stackTraces = false) (ae : Nat) (D : va_G) (cI cJ cS cO : ClassId) (mo : Nat) (vl : Nat) (sl : Nat) (sz : Nat)  : Met l yX11_variables (wx (.code yX11_variables cX11_variables 1 (some .int))) ({ frames := 1, cells := 0, slots := 0, locals := 21 }) (va_Pc [.ref mo] (Pw ae D vwCl [(cI, .int), (cJ, .long), (cS, .object "IronwoodModel$State"), (cO, .object "java/lang/Object")] [(mo, .inr (12, [.int 0, .ref vl, .ref sl])), (vl, .inr (0, [.int 0, .ref ae, .int 0]))] sz)) (va_Qi (fun (r : Int32) (u : Unit) => r = 0) (Bw D vwCl (fun (u : Unit) => [(mo, .inr (12, [.int 0, .ref vl, .ref sl])), (vl, .inr (0, [.int 0, .ref ae, .int 0]))]) (va_A [(mo, .inr (12, [.int 0, .ref vl, .ref sl])), (vl, .inr (0, [.int 0, .ref ae, .int 0]))] sz)) (va_A [(mo, .inr (12, [.int 0, .ref vl, .ref sl])), (vl, .inr (0, [.int 0, .ref ae, .int 0]))] sz)) 0 0 (va_A [(mo, .inr (12, [.int 0, .ref vl, .ref sl])), (vl, .inr (0, [.int 0, .ref ae, .int 0]))] sz) := by
  refine Met.ofW (cc := cX11_variables) (maxL := 1) (ret := (some .int)) (by decide) rfl ?_
  intro p e s m args below meth c s₁ B hml hv9
  obtain ⟨rfl, hsz, hP, hK, hD0, hG⟩ := hv9
  have hx := B.exec
  have hb := B.bytes
  have hr := B.returns
  have hts := atoms_spec (ws := wx (.code yX11_variables cX11_variables 1 (some .int))) B.pre
  have hown : s.vm.findClass RX11 = some m.cls := findClass_of_methodNamed B.named
  have hlocks := B.notSynchronized
  subst hsz
  have hD := hD0.self (sz := s.heap.size)
  generalize hAe : va_A [(mo, .inr (12, [.int 0, .ref vl, .ref sl])), (vl, .inr (0, [.int 0, .ref ae, .int 0]))] s.heap.size = A at hD hG ⊢
  have hA : ∀ q : Nat, s.heap.size ≤ q → A q := fun q h => by rw [← hAe]; exact Or.inr h
  have hS : va_S A s.heap s.heap [] := va_S.rf
  have hP : va_P D vwCl [(mo, .inr (12, [.int 0, .ref vl, .ref sl])), (vl, .inr (0, [.int 0, .ref ae, .int 0]))] s.heap := hP
  have hl := lv_entry ([.ref mo]) (n := 1) (Nat.le_of_ble_eq_true rfl)
  rw [lg_entry_eq]
  generalize (lg_sl ([.ref mo]) ++ List.replicate (1 - (lg_sl ([.ref mo])).length) Slot.unset).toArray = ls at hl ⊢
  have hl : lv_has ls 1 [(0, .ref mo)] := hl
  refine lv_aload_n hx hb dX11_variables_0 rfl (lv_at hl 0 rfl) ?_
  refine lv_aload_n hx hb dX11_variables_1 rfl (lv_at hl 0 rfl) ?_
  refine va_get (D := D) (ci := 12) (v := .ref vl) (C := RX11) (T := TX11) (N := 3) (ref := "IronwoodModel") hx hb hts in_RX11 hown hK hP 0 rfl rfl 1 (by decide) (hts _ (mc q_1003)) (fun _ h9 => h9) rfl dX11_variables_2 ?_
  refine kc_i (wr := [(mo, .inr (12, [.int 0, .ref vl, .ref sl]))]) (va_runV (As := []) (rest := [.ref mo]) ⟨hx, hb, hml, hown, hts⟩ (k_al_size l hfl ae D cI cJ cS cO vl 0 ae 0 _) (cwV 0 hts (gV q_1036 q_1033 q_1034 q_1035 q_107) rfl rfl rfl (by decide +kernel) ⟨Nat.le_of_ble_eq_true rfl, Nat.le_of_ble_eq_true rfl⟩) ⟨Pw.blind, va_recv hK hP (ci := 0) (q0 := 1) rfl rfl, Pw.mk_call hP hK hD hS hA hG [1] rfl (by decide)⟩ rfl rfl hl.1 rfl (lv_room (Nat.le_of_ble_eq_true rfl)) dX11_variables_5 ⟨Nat.le_of_ble_eq_true rfl, Nat.le_of_ble_eq_true rfl⟩) hP hD hS hA [1] [0] rfl rfl (by decide) (by decide) (fun r_1 u_2 H locs hw hP hD hS => ?_)
  obtain rfl : r_1 = 0 := hw
  have hP : va_P D vwCl [(mo, .inr (12, [.int 0, .ref vl, .ref sl])), (vl, .inr (0, [.int 0, .ref ae, .int 0]))] H := hP
  have hD : va_D A [(mo, .inr (12, [.int 0, .ref vl, .ref sl])), (vl, .inr (0, [.int 0, .ref ae, .int 0]))] := hD
  refine kc_i (wr := [(vl, .inr (0, [.int 0, .ref ae, .int 0]))]) (va_runV (As := [.int 0]) (rest := []) ⟨hx, hb, hml, hown, hts⟩ (k_plain l hfl ae D cI cJ cS cO mo vl sl 0 0 _) (cwV 1 hts (gV q_1253 q_1250 q_1252 q_74 q_104) rfl rfl rfl (by decide +kernel) ⟨Nat.le_of_ble_eq_true rfl, Nat.le_of_ble_eq_true rfl⟩) ⟨Pw.blind, va_recv hK hP (ci := 12) (q0 := 0) rfl rfl, Pw.mk_call hP hK hD hS hA hG [0] rfl (by decide)⟩ rfl rfl hl.1 rfl (lv_room (Nat.le_of_ble_eq_true rfl)) dX11_variables_8 ⟨Nat.le_of_ble_eq_true rfl, Nat.le_of_ble_eq_true rfl⟩) hP hD hS hA [0] [1] rfl rfl (by decide) (by decide) (fun r_3 u_4 H locs hw hP hD hS => ?_)
  obtain rfl : r_3 = 0 := hw
  have hP : va_P D vwCl [(vl, .inr (0, [.int 0, .ref ae, .int 0])), (mo, .inr (12, [.int 0, .ref vl, .ref sl]))] H := hP
  have hD : va_D A [(vl, .inr (0, [.int 0, .ref ae, .int 0])), (mo, .inr (12, [.int 0, .ref vl, .ref sl]))] := hD
  have hP := hP.sub (ws' := [(mo, .inr (12, [.int 0, .ref vl, .ref sl])), (vl, .inr (0, [.int 0, .ref ae, .int 0]))]) [1, 0] rfl
  have hD := hD.sub (ws' := [(mo, .inr (12, [.int 0, .ref vl, .ref sl])), (vl, .inr (0, [.int 0, .ref ae, .int 0]))]) [1, 0] (by decide) rfl
  exact ke_i hx hb hr (by first | rfl | decide) () (rfl) hP hD hS (Nat.le_of_ble_eq_true rfl) (Nat.le_of_ble_eq_true rfl) hlocks dX11_variables_11

set_option maxHeartbeats 4000000 in
set_option maxRecDepth 100000 in
theorem m_statements (l : Launch) (hfl : l.stackTraces = false) (ae : Nat) (D : va_G) (cI cJ cS cO : ClassId) (mo : Nat) (vl : Nat) (sl : Nat) (sz : Nat)  : Met l yX11_statements (wx (.code yX11_statements cX11_statements 1 (some .int))) ({ frames := 1, cells := 0, slots := 0, locals := 21 }) (va_Pc [.ref mo] (Pw ae D vwCl [(cI, .int), (cJ, .long), (cS, .object "IronwoodModel$State"), (cO, .object "java/lang/Object")] [(mo, .inr (12, [.int 0, .ref vl, .ref sl])), (sl, .inr (0, [.int 0, .ref ae, .int 0]))] sz)) (va_Qi (fun (r : Int32) (u : Unit) => r = 0) (Bw D vwCl (fun (u : Unit) => [(mo, .inr (12, [.int 0, .ref vl, .ref sl])), (sl, .inr (0, [.int 0, .ref ae, .int 0]))]) (va_A [(mo, .inr (12, [.int 0, .ref vl, .ref sl])), (sl, .inr (0, [.int 0, .ref ae, .int 0]))] sz)) (va_A [(mo, .inr (12, [.int 0, .ref vl, .ref sl])), (sl, .inr (0, [.int 0, .ref ae, .int 0]))] sz)) 0 0 (va_A [(mo, .inr (12, [.int 0, .ref vl, .ref sl])), (sl, .inr (0, [.int 0, .ref ae, .int 0]))] sz) := by
  refine Met.ofW (cc := cX11_statements) (maxL := 1) (ret := (some .int)) (by decide) rfl ?_
  intro p e s m args below meth c s₁ B hml hv9
  obtain ⟨rfl, hsz, hP, hK, hD0, hG⟩ := hv9
  have hx := B.exec
  have hb := B.bytes
  have hr := B.returns
  have hts := atoms_spec (ws := wx (.code yX11_statements cX11_statements 1 (some .int))) B.pre
  have hown : s.vm.findClass RX11 = some m.cls := findClass_of_methodNamed B.named
  have hlocks := B.notSynchronized
  subst hsz
  have hD := hD0.self (sz := s.heap.size)
  generalize hAe : va_A [(mo, .inr (12, [.int 0, .ref vl, .ref sl])), (sl, .inr (0, [.int 0, .ref ae, .int 0]))] s.heap.size = A at hD hG ⊢
  have hA : ∀ q : Nat, s.heap.size ≤ q → A q := fun q h => by rw [← hAe]; exact Or.inr h
  have hS : va_S A s.heap s.heap [] := va_S.rf
  have hP : va_P D vwCl [(mo, .inr (12, [.int 0, .ref vl, .ref sl])), (sl, .inr (0, [.int 0, .ref ae, .int 0]))] s.heap := hP
  have hl := lv_entry ([.ref mo]) (n := 1) (Nat.le_of_ble_eq_true rfl)
  rw [lg_entry_eq]
  generalize (lg_sl ([.ref mo]) ++ List.replicate (1 - (lg_sl ([.ref mo])).length) Slot.unset).toArray = ls at hl ⊢
  have hl : lv_has ls 1 [(0, .ref mo)] := hl
  refine lv_aload_n hx hb dX11_statements_0 rfl (lv_at hl 0 rfl) ?_
  refine lv_aload_n hx hb dX11_statements_1 rfl (lv_at hl 0 rfl) ?_
  refine va_get (D := D) (ci := 12) (v := .ref sl) (C := RX11) (T := TX11) (N := 3) (ref := "IronwoodModel") hx hb hts in_RX11 hown hK hP 0 rfl rfl 2 (by decide) (hts _ (mc q_1005)) (fun _ h9 => h9) rfl dX11_statements_2 ?_
  refine kc_i (wr := [(mo, .inr (12, [.int 0, .ref vl, .ref sl]))]) (va_runV (As := []) (rest := [.ref mo]) ⟨hx, hb, hml, hown, hts⟩ (k_al_size l hfl ae D cI cJ cS cO sl 0 ae 0 _) (cwV 0 hts (gV q_1036 q_1033 q_1034 q_1035 q_107) rfl rfl rfl (by decide +kernel) ⟨Nat.le_of_ble_eq_true rfl, Nat.le_of_ble_eq_true rfl⟩) ⟨Pw.blind, va_recv hK hP (ci := 0) (q0 := 1) rfl rfl, Pw.mk_call hP hK hD hS hA hG [1] rfl (by decide)⟩ rfl rfl hl.1 rfl (lv_room (Nat.le_of_ble_eq_true rfl)) dX11_statements_5 ⟨Nat.le_of_ble_eq_true rfl, Nat.le_of_ble_eq_true rfl⟩) hP hD hS hA [1] [0] rfl rfl (by decide) (by decide) (fun r_1 u_2 H locs hw hP hD hS => ?_)
  obtain rfl : r_1 = 0 := hw
  have hP : va_P D vwCl [(mo, .inr (12, [.int 0, .ref vl, .ref sl])), (sl, .inr (0, [.int 0, .ref ae, .int 0]))] H := hP
  have hD : va_D A [(mo, .inr (12, [.int 0, .ref vl, .ref sl])), (sl, .inr (0, [.int 0, .ref ae, .int 0]))] := hD
  refine kc_i (wr := [(sl, .inr (0, [.int 0, .ref ae, .int 0]))]) (va_runV (As := [.int 0]) (rest := []) ⟨hx, hb, hml, hown, hts⟩ (k_plain l hfl ae D cI cJ cS cO mo vl sl 0 0 _) (cwV 1 hts (gV q_1253 q_1250 q_1252 q_74 q_104) rfl rfl rfl (by decide +kernel) ⟨Nat.le_of_ble_eq_true rfl, Nat.le_of_ble_eq_true rfl⟩) ⟨Pw.blind, va_recv hK hP (ci := 12) (q0 := 0) rfl rfl, Pw.mk_call hP hK hD hS hA hG [0] rfl (by decide)⟩ rfl rfl hl.1 rfl (lv_room (Nat.le_of_ble_eq_true rfl)) dX11_statements_8 ⟨Nat.le_of_ble_eq_true rfl, Nat.le_of_ble_eq_true rfl⟩) hP hD hS hA [0] [1] rfl rfl (by decide) (by decide) (fun r_3 u_4 H locs hw hP hD hS => ?_)
  obtain rfl : r_3 = 0 := hw
  have hP : va_P D vwCl [(sl, .inr (0, [.int 0, .ref ae, .int 0])), (mo, .inr (12, [.int 0, .ref vl, .ref sl]))] H := hP
  have hD : va_D A [(sl, .inr (0, [.int 0, .ref ae, .int 0])), (mo, .inr (12, [.int 0, .ref vl, .ref sl]))] := hD
  have hP := hP.sub (ws' := [(mo, .inr (12, [.int 0, .ref vl, .ref sl])), (sl, .inr (0, [.int 0, .ref ae, .int 0]))]) [1, 0] rfl
  have hD := hD.sub (ws' := [(mo, .inr (12, [.int 0, .ref vl, .ref sl])), (sl, .inr (0, [.int 0, .ref ae, .int 0]))]) [1, 0] (by decide) rfl
  exact ke_i hx hb hr (by first | rfl | decide) () (rfl) hP hD hS (Nat.le_of_ble_eq_true rfl) (Nat.le_of_ble_eq_true rfl) hlocks dX11_statements_11

set_option maxHeartbeats 4000000 in
set_option maxRecDepth 100000 in
theorem m_Look_init (l : Launch) (hfl : l.stackTraces = false) (ae : Nat) (D : va_G) (cI cJ cS cO : ClassId) (mo : Nat) (vl : Nat) (sl : Nat) (k : Nat) (k1 : Int32) (k2 : Int32) (sz : Nat)  : Met l yX7_init (wx (.code yX7_init cX7_init 5 none)) ({ frames := 4, cells := 3, slots := 3, locals := 72 }) (va_Pc [.ref k, .ref mo, .int k1, .int k2] (Pw ae D vwCl [(cI, .int), (cJ, .long), (cS, .object "IronwoodModel$State"), (cO, .object "java/lang/Object")] [(mo, .inr (12, [.int 0, .ref vl, .ref sl])), (sl, .inr (0, [.int 0, .ref ae, .int 0])), (k, .inr (8, [.int 0, .int 0, .null, .null, .null, .null]))] sz)) (va_Qv (fun (u : (Nat) × (Nat) × (Nat)) => True) (Bw D vwCl (fun (u : (Nat) × (Nat) × (Nat)) => [(mo, .inr (12, [.int 0, .ref vl, .ref sl])), (sl, .inr (0, [.int 0, .ref ae, .int 0])), (k, .inr (8, [.int k1, .int k2, .ref u.2.1, .ref u.2.2, .ref u.1, .ref mo])), (u.1, .inr (0, [.int 0, .ref ae, .int 0])), (u.2.1, .inl (cS, 0, .inr (.inr (.inr (.inr (fun _ => none)))))), (u.2.2, .inl (cI, 0, .inl (fun _ => 0)))]) (va_A [(mo, .inr (12, [.int 0, .ref vl, .ref sl])), (sl, .inr (0, [.int 0, .ref ae, .int 0])), (k, .inr (8, [.int 0, .int 0, .null, .null, .null, .null]))] sz)) (va_A [(mo, .inr (12, [.int 0, .ref vl, .ref sl])), (sl, .inr (0, [.int 0, .ref ae, .int 0])), (k, .inr (8, [.int 0, .int 0, .null, .null, .null, .null]))] sz)) 3 3 (va_A [(mo, .inr (12, [.int 0, .ref vl, .ref sl])), (sl, .inr (0, [.int 0, .ref ae, .int 0])), (k, .inr (8, [.int 0, .int 0, .null, .null, .null, .null]))] sz) := by
  refine Met.ofW (cc := cX7_init) (maxL := 5) (ret := none) (by decide) rfl ?_
  intro p e s m args below meth c s₁ B hml hv9
  obtain ⟨rfl, hsz, hP, hK, hD0, hG⟩ := hv9
  have hx := B.exec
  have hb := B.bytes
  have hr := B.returns
  have hts := atoms_spec (ws := wx (.code yX7_init cX7_init 5 none)) B.pre
  have hown : s.vm.findClass RX7 = some m.cls := findClass_of_methodNamed B.named
  have hlocks := B.notSynchronized
  have hin : meth.name = "<init>" := (name_of_methodNamed B.named B.method).1
  subst hsz
  have hD := hD0.self (sz := s.heap.size)
  generalize hAe : va_A [(mo, .inr (12, [.int 0, .ref vl, .ref sl])), (sl, .inr (0, [.int 0, .ref ae, .int 0])), (k, .inr (8, [.int 0, .int 0, .null, .null, .null, .null]))] s.heap.size = A at hD hG ⊢
  have hA : ∀ q : Nat, s.heap.size ≤ q → A q := fun q h => by rw [← hAe]; exact Or.inr h
  have hS : va_S A s.heap s.heap [] := va_S.rf
  have hP : va_P D vwCl [(mo, .inr (12, [.int 0, .ref vl, .ref sl])), (sl, .inr (0, [.int 0, .ref ae, .int 0])), (k, .inr (8, [.int 0, .int 0, .null, .null, .null, .null]))] s.heap := hP
  have hl := lv_entry ([.ref k, .ref mo, .int k1, .int k2]) (n := 5) (Nat.le_of_ble_eq_true rfl)
  rw [lg_entry_eq]
  generalize (lg_sl ([.ref k, .ref mo, .int k1, .int k2]) ++ List.replicate (5 - (lg_sl ([.ref k, .ref mo, .int k1, .int k2])).length) Slot.unset).toArray = ls at hl ⊢
  have hl : lv_has ls 5 [(0, .ref k), (1, .ref mo), (2, .int k1), (3, .int k2)] := hl
  refine lv_aload_n hx hb dX7_init_0 rfl (lv_at hl 0 rfl) ?_
  refine lv_aload_n hx hb dX7_init_1 rfl (lv_at hl 1 rfl) ?_
  refine va_putF (D := D) (ci := 8) (v := .ref mo) (ty := .object "IronwoodModel") (C := RX7) (T := TX7) (N := 6) (ref := "IronwoodModel$Look") hx hb hts in_RX7 tyX7 tyX7_ok nmX7 hown hK hP hD hS 2 rfl rfl 5 (by decide) (hts _ (mc q_1483)) (fun _ h9 => h9) rfl hin rfl (by decide +kernel) rfl rfl (Nat.le_of_ble_eq_true rfl) dX7_init_2 (fun H locs hP hD hS => ?_)
  have hP : va_P D vwCl [(mo, .inr (12, [.int 0, .ref vl, .ref sl])), (sl, .inr (0, [.int 0, .ref ae, .int 0])), (k, .inr (8, [.int 0, .int 0, .null, .null, .null, .ref mo]))] H := hP
  have hD : va_D A [(mo, .inr (12, [.int 0, .ref vl, .ref sl])), (sl, .inr (0, [.int 0, .ref ae, .int 0])), (k, .inr (8, [.int 0, .int 0, .null, .null, .null, .ref mo]))] := hD
  refine lv_aload_n hx hb dX7_init_5 rfl (lv_at hl 0 rfl) ?_
  refine W.objInit hx hb hown (hts _ (mc q_1275)) (hts _ (mc q_134)) (hts _ (mc q_135)) rfl (by rw [hml]; exact hl.1) rfl dX7_init_6 (Nat.le_of_ble_eq_true rfl) (Nat.le_of_ble_eq_true rfl) ?_
  refine W.eq (g2 := F0 m 9 ls []) rfl ?_
  refine lv_aload_n hx hb dX7_init_9 rfl (lv_at hl 0 rfl) ?_
  refine va_new (ci := 0) (fs := [.int 0, .null, .int 0]) (C := RJx4a65c) (T := TJx4a65c) (N := 3) hx hb hts in_RJx4a65c tyJx4a65c tyJx4a65c_ok hown (hts _ (mc q_1276)) (hts _ (mc q_977)) (hts _ (mc q_107)) hK hP hD hS hA rfl (fun j hj => by rcases (show j = 0 ∨ j = 1 ∨ j = 2 by omega) with rfl | rfl | rfl <;> rfl) (Nat.le_of_ble_eq_true rfl) (Nat.le_of_ble_eq_true rfl) dX7_init_10 (fun q_1 H hP hD hS => ?_)
  have hP : va_P D vwCl [(mo, .inr (12, [.int 0, .ref vl, .ref sl])), (sl, .inr (0, [.int 0, .ref ae, .int 0])), (k, .inr (8, [.int 0, .int 0, .null, .null, .null, .ref mo])), (q_1, .inr (0, [.int 0, .null, .int 0]))] H := hP
  have hD : va_D A [(mo, .inr (12, [.int 0, .ref vl, .ref sl])), (sl, .inr (0, [.int 0, .ref ae, .int 0])), (k, .inr (8, [.int 0, .int 0, .null, .null, .null, .ref mo])), (q_1, .inr (0, [.int 0, .null, .int 0]))] := hD
  refine lv_dup hx hb dX7_init_13 rfl ?_
  refine kc_v (wr := [(mo, .inr (12, [.int 0, .ref vl, .ref sl])), (sl, .inr (0, [.int 0, .ref ae, .int 0])), (k, .inr (8, [.int 0, .int 0, .null, .null, .null, .ref mo]))]) (va_runI (As := []) (rest := [.ref q_1, .ref k]) ⟨hx, hb, hml, hown, hts⟩ (k_al_init l hfl ae D cI cJ cS cO q_1 _) (cwI 0 hts (gB q_980) rfl rfl rfl (hts _ (mc q_107)) (hts _ (mc q_1277)) (hts _ (mc q_979)) rfl (by decide +kernel) ⟨Nat.le_of_ble_eq_true rfl, Nat.le_of_ble_eq_true rfl⟩) ⟨Pw.blind, Pw.mk_call hP hK hD hS hA hG [3] rfl (by decide)⟩ rfl rfl hl.1 rfl (lv_room (Nat.le_of_ble_eq_true rfl)) dX7_init_14 ⟨Nat.le_of_ble_eq_true rfl, Nat.le_of_ble_eq_true rfl⟩) hP hD hS hA [3] [0, 1, 2] rfl rfl (by decide) (by decide) (fun u_3 H locs hw hP hD hS => ?_)
  have hP : va_P D vwCl [(mo, .inr (12, [.int 0, .ref vl, .ref sl])), (sl, .inr (0, [.int 0, .ref ae, .int 0])), (k, .inr (8, [.int 0, .int 0, .null, .null, .null, .ref mo])), (q_1, .inr (0, [.int 0, .ref ae, .int 0]))] H := hP
  have hD : va_D A [(mo, .inr (12, [.int 0, .ref vl, .ref sl])), (sl, .inr (0, [.int 0, .ref ae, .int 0])), (k, .inr (8, [.int 0, .int 0, .null, .null, .null, .ref mo])), (q_1, .inr (0, [.int 0, .ref ae, .int 0]))] := hD
  refine va_putF (D := D) (ci := 8) (v := .ref q_1) (ty := .object "java/util/ArrayList") (C := RX7) (T := TX7) (N := 6) (ref := "IronwoodModel$Look") hx hb hts in_RX7 tyX7 tyX7_ok nmX7 hown hK hP hD hS 2 rfl rfl 4 (by decide) (hts _ (mc q_1481)) (fun _ h9 => h9) rfl hin rfl (by decide +kernel) rfl rfl (Nat.le_of_ble_eq_true rfl) dX7_init_17 (fun H locs hP hD hS => ?_)
  have hP : va_P D vwCl [(mo, .inr (12, [.int 0, .ref vl, .ref sl])), (sl, .inr (0, [.int 0, .ref ae, .int 0])), (k, .inr (8, [.int 0, .int 0, .null, .null, .ref q_1, .ref mo])), (q_1, .inr (0, [.int 0, .ref ae, .int 0]))] H := hP
  have hD : va_D A [(mo, .inr (12, [.int 0, .ref vl, .ref sl])), (sl, .inr (0, [.int 0, .ref ae, .int 0])), (k, .inr (8, [.int 0, .int 0, .null, .null, .ref q_1, .ref mo])), (q_1, .inr (0, [.int 0, .ref ae, .int 0]))] := hD
  refine lv_aload_n hx hb dX7_init_20 rfl (lv_at hl 0 rfl) ?_
  refine lv_iload_n hx hb dX7_init_21 rfl (lv_at hl 2 rfl) ?_
  refine va_putF (D := D) (ci := 8) (v := .int k1) (ty := .int) (C := RX7) (T := TX7) (N := 6) (ref := "IronwoodModel$Look") hx hb hts in_RX7 tyX7 tyX7_ok nmX7 hown hK hP hD hS 2 rfl rfl 0 (by decide) (hts _ (mc q_1475)) (fun _ h9 => h9) rfl hin rfl (by decide +kernel) rfl rfl (Nat.le_of_ble_eq_true rfl) dX7_init_22 (fun H locs hP hD hS => ?_)
  have hP : va_P D vwCl [(mo, .inr (12, [.int 0, .ref vl, .ref sl])), (sl, .inr (0, [.int 0, .ref ae, .int 0])), (k, .inr (8, [.int k1, .int 0, .null, .null, .ref q_1, .ref mo])), (q_1, .inr (0, [.int 0, .ref ae, .int 0]))] H := hP
  have hD : va_D A [(mo, .inr (12, [.int 0, .ref vl, .ref sl])), (sl, .inr (0, [.int 0, .ref ae, .int 0])), (k, .inr (8, [.int k1, .int 0, .null, .null, .ref q_1, .ref mo])), (q_1, .inr (0, [.int 0, .ref ae, .int 0]))] := hD
  refine lv_aload_n hx hb dX7_init_25 rfl (lv_at hl 0 rfl) ?_
  refine lv_iload_n hx hb dX7_init_26 rfl (lv_at hl 3 rfl) ?_
  refine va_putF (D := D) (ci := 8) (v := .int k2) (ty := .int) (C := RX7) (T := TX7) (N := 6) (ref := "IronwoodModel$Look") hx hb hts in_RX7 tyX7 tyX7_ok nmX7 hown hK hP hD hS 2 rfl rfl 1 (by decide) (hts _ (mc q_1476)) (fun _ h9 => h9) rfl hin rfl (by decide +kernel) rfl rfl (Nat.le_of_ble_eq_true rfl) dX7_init_27 (fun H locs hP hD hS => ?_)
  have hP : va_P D vwCl [(mo, .inr (12, [.int 0, .ref vl, .ref sl])), (sl, .inr (0, [.int 0, .ref ae, .int 0])), (k, .inr (8, [.int k1, .int k2, .null, .null, .ref q_1, .ref mo])), (q_1, .inr (0, [.int 0, .ref ae, .int 0]))] H := hP
  have hD : va_D A [(mo, .inr (12, [.int 0, .ref vl, .ref sl])), (sl, .inr (0, [.int 0, .ref ae, .int 0])), (k, .inr (8, [.int k1, .int k2, .null, .null, .ref q_1, .ref mo])), (q_1, .inr (0, [.int 0, .ref ae, .int 0]))] := hD
  refine lv_aload_n hx hb dX7_init_30 rfl (lv_at hl 0 rfl) ?_
  refine lv_aload_n hx hb dX7_init_31 rfl (lv_at hl 1 rfl) ?_
  refine va_getN (D := D) (ci := 12) (v := .ref sl) (C := RX11) (T := TX11) (N := 3) (ref := "IronwoodModel") (host := "IronwoodModel") hx hb hts in_RX11 hown hK hP 0 rfl rfl 2 (by decide) (hG.1.get 46 rfl) (fun _ h9 => h9) rfl dX7_init_32 ?_
  refine kc_i (wr := [(mo, .inr (12, [.int 0, .ref vl, .ref sl])), (k, .inr (8, [.int k1, .int k2, .null, .null, .ref q_1, .ref mo])), (q_1, .inr (0, [.int 0, .ref ae, .int 0]))]) (va_runV (As := []) (rest := [.ref k]) ⟨hx, hb, hml, hown, hts⟩ (k_al_size l hfl ae D cI cJ cS cO sl 0 ae 0 _) (cwV 0 hts (gV q_1036 q_1278 q_1034 q_1035 q_107) rfl rfl rfl (by decide +kernel) ⟨Nat.le_of_ble_eq_true rfl, Nat.le_of_ble_eq_true rfl⟩) ⟨Pw.blind, va_recv hK hP (ci := 0) (q0 := 1) rfl rfl, Pw.mk_call hP hK hD hS hA hG [1] rfl (by decide)⟩ rfl rfl hl.1 rfl (lv_room (Nat.le_of_ble_eq_true rfl)) dX7_init_35 ⟨Nat.le_of_ble_eq_true rfl, Nat.le_of_ble_eq_true rfl⟩) hP hD hS hA [1] [0, 2, 3] rfl rfl (by decide) (by decide) (fun r_4 u_5 H locs hw hP hD hS => ?_)
  obtain rfl : r_4 = 0 := hw
  have hP : va_P D vwCl [(mo, .inr (12, [.int 0, .ref vl, .ref sl])), (k, .inr (8, [.int k1, .int k2, .null, .null, .ref q_1, .ref mo])), (q_1, .inr (0, [.int 0, .ref ae, .int 0])), (sl, .inr (0, [.int 0, .ref ae, .int 0]))] H := hP
  have hD : va_D A [(mo, .inr (12, [.int 0, .ref vl, .ref sl])), (k, .inr (8, [.int k1, .int k2, .null, .null, .ref q_1, .ref mo])), (q_1, .inr (0, [.int 0, .ref ae, .int 0])), (sl, .inr (0, [.int 0, .ref ae, .int 0]))] := hD
  refine va_newq (C := "IronwoodModel$State") (N' := 0) hx hb hown (hts _ (mc q_1279)) (hG.2.1.2.2 "IronwoodModel$State" (by decide)) hK hP hD hS hA (by decide) (by decide) (by decide) (Nat.le_of_ble_eq_true rfl) (Nat.le_of_ble_eq_true rfl) dX7_init_38 (fun q_6 cA9 H hK9 hP hD hS => ?_)
  obtain rfl : cS = cA9 := K_same hK9 (i := 2) (j := 4) (ty := .object "IronwoodModel$State") rfl rfl
  have hP : va_P D vwCl [(mo, .inr (12, [.int 0, .ref vl, .ref sl])), (k, .inr (8, [.int k1, .int k2, .null, .null, .ref q_1, .ref mo])), (q_1, .inr (0, [.int 0, .ref ae, .int 0])), (sl, .inr (0, [.int 0, .ref ae, .int 0])), (q_6, .inl (cS, 0, .inr (.inr (.inr (.inr (fun _ => none))))))] H := hP
  have hD : va_D A [(mo, .inr (12, [.int 0, .ref vl, .ref sl])), (k, .inr (8, [.int k1, .int k2, .null, .null, .ref q_1, .ref mo])), (q_1, .inr (0, [.int 0, .ref ae, .int 0])), (sl, .inr (0, [.int 0, .ref ae, .int 0])), (q_6, .inl (cS, 0, .inr (.inr (.inr (.inr (fun _ => none))))))] := hD
  refine va_putF (D := D) (ci := 8) (v := .ref q_6) (ty := .array (.object "IronwoodModel$State")) (C := RX7) (T := TX7) (N := 6) (ref := "IronwoodModel$Look") hx hb hts in_RX7 tyX7 tyX7_ok nmX7 hown hK hP hD hS 1 rfl rfl 2 (by decide) (hts _ (mc q_1477)) (fun _ h9 => h9) rfl hin rfl (by decide +kernel) rfl rfl (Nat.le_of_ble_eq_true rfl) dX7_init_41 (fun H locs hP hD hS => ?_)
  have hP : va_P D vwCl [(mo, .inr (12, [.int 0, .ref vl, .ref sl])), (k, .inr (8, [.int k1, .int k2, .ref q_6, .null, .ref q_1, .ref mo])), (q_1, .inr (0, [.int 0, .ref ae, .int 0])), (sl, .inr (0, [.int 0, .ref ae, .int 0])), (q_6, .inl (cS, 0, .inr (.inr (.inr (.inr (fun _ => none))))))] H := hP
  have hD : va_D A [(mo, .inr (12, [.int 0, .ref vl, .ref sl])), (k, .inr (8, [.int k1, .int k2, .ref q_6, .null, .ref q_1, .ref mo])), (q_1, .inr (0, [.int 0, .ref ae, .int 0])), (sl, .inr (0, [.int 0, .ref ae, .int 0])), (q_6, .inl (cS, 0, .inr (.inr (.inr (.inr (fun _ => none))))))] := hD
  refine lv_aload_n hx hb dX7_init_44 rfl (lv_at hl 0 rfl) ?_
  refine lv_aload_n hx hb dX7_init_45 rfl (lv_at hl 1 rfl) ?_
  refine va_getN (D := D) (ci := 12) (v := .ref sl) (C := RX11) (T := TX11) (N := 3) (ref := "IronwoodModel") (host := "IronwoodModel") hx hb hts in_RX11 hown hK hP 0 rfl rfl 2 (by decide) (hG.1.get 46 rfl) (fun _ h9 => h9) rfl dX7_init_46 ?_
  refine kc_i (wr := [(mo, .inr (12, [.int 0, .ref vl, .ref sl])), (k, .inr (8, [.int k1, .int k2, .ref q_6, .null, .ref q_1, .ref mo])), (q_1, .inr (0, [.int 0, .ref ae, .int 0])), (q_6, .inl (cS, 0, .inr (.inr (.inr (.inr (fun _ => none))))))]) (va_runV (As := []) (rest := [.ref k]) ⟨hx, hb, hml, hown, hts⟩ (k_al_size l hfl ae D cI cJ cS cO sl 0 ae 0 _) (cwV 0 hts (gV q_1036 q_1278 q_1034 q_1035 q_107) rfl rfl rfl (by decide +kernel) ⟨Nat.le_of_ble_eq_true rfl, Nat.le_of_ble_eq_true rfl⟩) ⟨Pw.blind, va_recv hK hP (ci := 0) (q0 := 3) rfl rfl, Pw.mk_call hP hK hD hS hA hG [3] rfl (by decide)⟩ rfl rfl hl.1 rfl (lv_room (Nat.le_of_ble_eq_true rfl)) dX7_init_49 ⟨Nat.le_of_ble_eq_true rfl, Nat.le_of_ble_eq_true rfl⟩) hP hD hS hA [3] [0, 1, 2, 4] rfl rfl (by decide) (by decide) (fun r_7 u_8 H locs hw hP hD hS => ?_)
  obtain rfl : r_7 = 0 := hw
  have hP : va_P D vwCl [(mo, .inr (12, [.int 0, .ref vl, .ref sl])), (k, .inr (8, [.int k1, .int k2, .ref q_6, .null, .ref q_1, .ref mo])), (q_1, .inr (0, [.int 0, .ref ae, .int 0])), (q_6, .inl (cS, 0, .inr (.inr (.inr (.inr (fun _ => none)))))), (sl, .inr (0, [.int 0, .ref ae, .int 0]))] H := hP
  have hD : va_D A [(mo, .inr (12, [.int 0, .ref vl, .ref sl])), (k, .inr (8, [.int k1, .int k2, .ref q_6, .null, .ref q_1, .ref mo])), (q_1, .inr (0, [.int 0, .ref ae, .int 0])), (q_6, .inl (cS, 0, .inr (.inr (.inr (.inr (fun _ => none)))))), (sl, .inr (0, [.int 0, .ref ae, .int 0]))] := hD
  refine va_newa (atype := .int) (ty := .int) (N' := 0) (a0 := (0, .inl (fun _ => 0))) hx hb (hts _ (mc q_206)) rfl hK hP hD hS hA (fun _ => rfl) (by decide) (by decide) (by decide) (Nat.le_of_ble_eq_true rfl) (Nat.le_of_ble_eq_true rfl) dX7_init_52 (fun q_9 cA9 H hK9 hP hD hS => ?_)
  obtain rfl : cI = cA9 := K_same hK9 (i := 0) (j := 4) (ty := .int) rfl rfl
  have hP : va_P D vwCl [(mo, .inr (12, [.int 0, .ref vl, .ref sl])), (k, .inr (8, [.int k1, .int k2, .ref q_6, .null, .ref q_1, .ref mo])), (q_1, .inr (0, [.int 0, .ref ae, .int 0])), (q_6, .inl (cS, 0, .inr (.inr (.inr (.inr (fun _ => none)))))), (sl, .inr (0, [.int 0, .ref ae, .int 0])), (q_9, .inl (cI, 0, .inl (fun _ => 0)))] H := hP
  have hD : va_D A [(mo, .inr (12, [.int 0, .ref vl, .ref sl])), (k, .inr (8, [.int k1, .int k2, .ref q_6, .null, .ref q_1, .ref mo])), (q_1, .inr (0, [.int 0, .ref ae, .int 0])), (q_6, .inl (cS, 0, .inr (.inr (.inr (.inr (fun _ => none)))))), (sl, .inr (0, [.int 0, .ref ae, .int 0])), (q_9, .inl (cI, 0, .inl (fun _ => 0)))] := hD
  refine va_putF (D := D) (ci := 8) (v := .ref q_9) (ty := .array .int) (C := RX7) (T := TX7) (N := 6) (ref := "IronwoodModel$Look") hx hb hts in_RX7 tyX7 tyX7_ok nmX7 hown hK hP hD hS 1 rfl rfl 3 (by decide) (hts _ (mc q_1479)) (fun _ h9 => h9) rfl hin rfl (by decide +kernel) rfl rfl (Nat.le_of_ble_eq_true rfl) dX7_init_54 (fun H locs hP hD hS => ?_)
  have hP : va_P D vwCl [(mo, .inr (12, [.int 0, .ref vl, .ref sl])), (k, .inr (8, [.int k1, .int k2, .ref q_6, .ref q_9, .ref q_1, .ref mo])), (q_1, .inr (0, [.int 0, .ref ae, .int 0])), (q_6, .inl (cS, 0, .inr (.inr (.inr (.inr (fun _ => none)))))), (sl, .inr (0, [.int 0, .ref ae, .int 0])), (q_9, .inl (cI, 0, .inl (fun _ => 0)))] H := hP
  have hD : va_D A [(mo, .inr (12, [.int 0, .ref vl, .ref sl])), (k, .inr (8, [.int k1, .int k2, .ref q_6, .ref q_9, .ref q_1, .ref mo])), (q_1, .inr (0, [.int 0, .ref ae, .int 0])), (q_6, .inl (cS, 0, .inr (.inr (.inr (.inr (fun _ => none)))))), (sl, .inr (0, [.int 0, .ref ae, .int 0])), (q_9, .inl (cI, 0, .inl (fun _ => 0)))] := hD
  refine lv_aload_n hx hb dX7_init_57 rfl (lv_at hl 1 rfl) ?_
  refine va_getN (D := D) (ci := 12) (v := .ref sl) (C := RX11) (T := TX11) (N := 3) (ref := "IronwoodModel") (host := "IronwoodModel") hx hb hts in_RX11 hown hK hP 0 rfl rfl 2 (by decide) (hG.1.get 46 rfl) (fun _ h9 => h9) rfl dX7_init_58 ?_
  refine kc_i (wr := [(mo, .inr (12, [.int 0, .ref vl, .ref sl])), (k, .inr (8, [.int k1, .int k2, .ref q_6, .ref q_9, .ref q_1, .ref mo])), (q_1, .inr (0, [.int 0, .ref ae, .int 0])), (q_6, .inl (cS, 0, .inr (.inr (.inr (.inr (fun _ => none)))))), (q_9, .inl (cI, 0, .inl (fun _ => 0)))]) (va_runV (As := []) (rest := []) ⟨hx, hb, hml, hown, hts⟩ (k_al_isEmpty_0 l hfl ae D cI cJ cS cO sl 0 ae _) (cwV 0 hts (gV q_1236 q_1281 q_1234 q_1235 q_107) rfl rfl rfl (by decide +kernel) ⟨Nat.le_of_ble_eq_true rfl, Nat.le_of_ble_eq_true rfl⟩) ⟨Pw.blind, va_recv hK hP (ci := 0) (q0 := 4) rfl rfl, Pw.mk_call hP hK hD hS hA hG [4] rfl (by decide)⟩ rfl rfl hl.1 rfl (lv_room (Nat.le_of_ble_eq_true rfl)) dX7_init_61 ⟨Nat.le_of_ble_eq_true rfl, Nat.le_of_ble_eq_true rfl⟩) hP hD hS hA [4] [0, 1, 2, 3, 5] rfl rfl (by decide) (by decide) (fun r_10 u_11 H locs hw hP hD hS => ?_)
  obtain rfl : r_10 = 1 := hw
  have hP : va_P D vwCl [(mo, .inr (12, [.int 0, .ref vl, .ref sl])), (k, .inr (8, [.int k1, .int k2, .ref q_6, .ref q_9, .ref q_1, .ref mo])), (q_1, .inr (0, [.int 0, .ref ae, .int 0])), (q_6, .inl (cS, 0, .inr (.inr (.inr (.inr (fun _ => none)))))), (q_9, .inl (cI, 0, .inl (fun _ => 0))), (sl, .inr (0, [.int 0, .ref ae, .int 0]))] H := hP
  have hD : va_D A [(mo, .inr (12, [.int 0, .ref vl, .ref sl])), (k, .inr (8, [.int k1, .int k2, .ref q_6, .ref q_9, .ref q_1, .ref mo])), (q_1, .inr (0, [.int 0, .ref ae, .int 0])), (q_6, .inl (cS, 0, .inr (.inr (.inr (.inr (fun _ => none)))))), (q_9, .inl (cI, 0, .inl (fun _ => 0))), (sl, .inr (0, [.int 0, .ref ae, .int 0]))] := hD
  refine lv_if_eq (tgt := 68) hx hb dX7_init_64 (by decide) (fun c_64 => absurd c_64 (by decide)) (fun c_64 => ?_)
  have hP := hP.sub (ws' := [(mo, .inr (12, [.int 0, .ref vl, .ref sl])), (sl, .inr (0, [.int 0, .ref ae, .int 0])), (k, .inr (8, [.int k1, .int k2, .ref q_6, .ref q_9, .ref q_1, .ref mo])), (q_1, .inr (0, [.int 0, .ref ae, .int 0])), (q_6, .inl (cS, 0, .inr (.inr (.inr (.inr (fun _ => none)))))), (q_9, .inl (cI, 0, .inl (fun _ => 0)))]) [0, 5, 1, 2, 3, 4] rfl
  have hD := hD.sub (ws' := [(mo, .inr (12, [.int 0, .ref vl, .ref sl])), (sl, .inr (0, [.int 0, .ref ae, .int 0])), (k, .inr (8, [.int k1, .int k2, .ref q_6, .ref q_9, .ref q_1, .ref mo])), (q_1, .inr (0, [.int 0, .ref ae, .int 0])), (q_6, .inl (cS, 0, .inr (.inr (.inr (.inr (fun _ => none)))))), (q_9, .inl (cI, 0, .inl (fun _ => 0)))]) [0, 5, 1, 2, 3, 4] (by decide) rfl
  exact ke_v hx hb hr (q_1, q_6, q_9) (trivial) hP hD hS (Nat.le_of_ble_eq_true rfl) (Nat.le_of_ble_eq_true rfl) hlocks dX7_init_67

set_option maxHeartbeats 4000000 in
set_option maxRecDepth 100000 in
theorem m_look (l : Launch) (hfl : l.stackTraces = false) (ae : Nat) (D : va_G) (cI cJ cS cO : ClassId) (mo : Nat) (vl : Nat) (sl : Nat) (sz : Nat)  : Met l yX11_look (wx (.code yX11_look cX11_look 1 (some (.object "IronwoodModel$Look")))) ({ frames := 5, cells := 4, slots := 9, locals := 96 }) (va_Pc [.ref mo] (Pw ae D vwCl [(cI, .int), (cJ, .long), (cS, .object "IronwoodModel$State"), (cO, .object "java/lang/Object")] [(mo, .inr (12, [.int 0, .ref vl, .ref sl])), (sl, .inr (0, [.int 0, .ref ae, .int 0]))] sz)) (va_Qr (fun (u : (Nat) × (Nat) × (Nat) × (Nat)) => True) (fun (u : (Nat) × (Nat) × (Nat) × (Nat)) ra t9 => ra = u.1 ∧ Bw D vwCl (fun (u : (Nat) × (Nat) × (Nat) × (Nat)) => [(mo, .inr (12, [.int 0, .ref vl, .ref sl])), (sl, .inr (0, [.int 0, .ref ae, .int 0])), (u.1, .inr (8, [.int (-1), .int (-1), .ref u.2.2.1, .ref u.2.2.2, .ref u.2.1, .ref mo])), (u.2.1, .inr (0, [.int 0, .ref ae, .int 0])), (u.2.2.1, .inl (cS, 0, .inr (.inr (.inr (.inr (fun _ => none)))))), (u.2.2.2, .inl (cI, 0, .inl (fun _ => 0)))]) (va_A [(mo, .inr (12, [.int 0, .ref vl, .ref sl])), (sl, .inr (0, [.int 0, .ref ae, .int 0]))] sz) u t9) (va_A [(mo, .inr (12, [.int 0, .ref vl, .ref sl])), (sl, .inr (0, [.int 0, .ref ae, .int 0]))] sz)) 4 9 (va_A [(mo, .inr (12, [.int 0, .ref vl, .ref sl])), (sl, .inr (0, [.int 0, .ref ae, .int 0]))] sz) := by
  refine Met.ofW (cc := cX11_look) (maxL := 1) (ret := (some (.object "IronwoodModel$Look"))) (by decide) rfl ?_
  intro p e s m args below meth c s₁ B hml hv9
  obtain ⟨rfl, hsz, hP, hK, hD0, hG⟩ := hv9
  have hx := B.exec
  have hb := B.bytes
  have hr := B.returns
  have hts := atoms_spec (ws := wx (.code yX11_look cX11_look 1 (some (.object "IronwoodModel$Look")))) B.pre
  have hown : s.vm.findClass RX11 = some m.cls := findClass_of_methodNamed B.named
  have hlocks := B.notSynchronized
  subst hsz
  have hD := hD0.self (sz := s.heap.size)
  generalize hAe : va_A [(mo, .inr (12, [.int 0, .ref vl, .ref sl])), (sl, .inr (0, [.int 0, .ref ae, .int 0]))] s.heap.size = A at hD hG ⊢
  have hA : ∀ q : Nat, s.heap.size ≤ q → A q := fun q h => by rw [← hAe]; exact Or.inr h
  have hS : va_S A s.heap s.heap [] := va_S.rf
  have hP : va_P D vwCl [(mo, .inr (12, [.int 0, .ref vl, .ref sl])), (sl, .inr (0, [.int 0, .ref ae, .int 0]))] s.heap := hP
  have hl := lv_entry ([.ref mo]) (n := 1) (Nat.le_of_ble_eq_true rfl)
  rw [lg_entry_eq]
  generalize (lg_sl ([.ref mo]) ++ List.replicate (1 - (lg_sl ([.ref mo])).length) Slot.unset).toArray = ls at hl ⊢
  have hl : lv_has ls 1 [(0, .ref mo)] := hl
  refine va_new (ci := 8) (fs := [.int 0, .int 0, .null, .null, .null, .null]) (C := RX7) (T := TX7) (N := 6) hx hb hts in_RX7 tyX7 tyX7_ok hown (hts _ (mc q_1270)) (hts _ (mc q_1271)) (hts _ (mc q_122)) hK hP hD hS hA rfl (fun j hj => by rcases (show j = 0 ∨ j = 1 ∨ j = 2 ∨ j = 3 ∨ j = 4 ∨ j = 5 by omega) with rfl | rfl | rfl | rfl | rfl | rfl <;> rfl) (Nat.le_of_ble_eq_true rfl) (Nat.le_of_ble_eq_true rfl) dX11_look_0 (fun q_1 H hP hD hS => ?_)
  have hP : va_P D vwCl [(mo, .inr (12, [.int 0, .ref vl, .ref sl])), (sl, .inr (0, [.int 0, .ref ae, .int 0])), (q_1, .inr (8, [.int 0, .int 0, .null, .null, .null, .null]))] H := hP
  have hD : va_D A [(mo, .inr (12, [.int 0, .ref vl, .ref sl])), (sl, .inr (0, [.int 0, .ref ae, .int 0])), (q_1, .inr (8, [.int 0, .int 0, .null, .null, .null, .null]))] := hD
  refine lv_dup hx hb dX11_look_3 rfl ?_
  refine lv_aload_n hx hb dX11_look_4 rfl (lv_at hl 0 rfl) ?_
  refine lv_iconst (v := (-1)) hx hb dX11_look_5 (by decide) ?_
  refine lv_iconst (v := (-1)) hx hb dX11_look_6 (by decide) ?_
  refine kc_v (wr := []) (va_runI (As := [.ref mo, .int (-1), .int (-1)]) (rest := [.ref q_1]) ⟨hx, hb, hml, hown, hts⟩ (m_Look_init l hfl ae D cI cJ cS cO mo vl sl q_1 (-1) (-1) _) (cwI 3 hts (gB q_1274) rfl rfl rfl (hts _ (mc q_122)) (hts _ (mc q_1272)) (hts _ (mc q_1273)) rfl (by decide +kernel) ⟨Nat.le_of_ble_eq_true rfl, Nat.le_of_ble_eq_true rfl⟩) ⟨Pw.blind, Pw.mk_call hP hK hD hS hA hG [0, 1, 2] rfl (by decide)⟩ rfl rfl hl.1 rfl (lv_room (Nat.le_of_ble_eq_true rfl)) dX11_look_7 ⟨Nat.le_of_ble_eq_true rfl, Nat.le_of_ble_eq_true rfl⟩) hP hD hS hA [0, 1, 2] [] rfl rfl (by decide) (by decide) (fun u_3 H locs hw hP hD hS => ?_)
  obtain ⟨fl_4, ah_5, aw_6⟩ := u_3
  have hP : va_P D vwCl [(mo, .inr (12, [.int 0, .ref vl, .ref sl])), (sl, .inr (0, [.int 0, .ref ae, .int 0])), (q_1, .inr (8, [.int (-1), .int (-1), .ref ah_5, .ref aw_6, .ref fl_4, .ref mo])), (fl_4, .inr (0, [.int 0, .ref ae, .int 0])), (ah_5, .inl (cS, 0, .inr (.inr (.inr (.inr (fun _ => none)))))), (aw_6, .inl (cI, 0, .inl (fun _ => 0)))] H := hP
  have hD : va_D A [(mo, .inr (12, [.int 0, .ref vl, .ref sl])), (sl, .inr (0, [.int 0, .ref ae, .int 0])), (q_1, .inr (8, [.int (-1), .int (-1), .ref ah_5, .ref aw_6, .ref fl_4, .ref mo])), (fl_4, .inr (0, [.int 0, .ref ae, .int 0])), (ah_5, .inl (cS, 0, .inr (.inr (.inr (.inr (fun _ => none)))))), (aw_6, .inl (cI, 0, .inl (fun _ => 0)))] := hD
  have hP := hP.sub (ws' := [(mo, .inr (12, [.int 0, .ref vl, .ref sl])), (sl, .inr (0, [.int 0, .ref ae, .int 0])), (q_1, .inr (8, [.int (-1), .int (-1), .ref ah_5, .ref aw_6, .ref fl_4, .ref mo])), (fl_4, .inr (0, [.int 0, .ref ae, .int 0])), (ah_5, .inl (cS, 0, .inr (.inr (.inr (.inr (fun _ => none)))))), (aw_6, .inl (cI, 0, .inl (fun _ => 0)))]) [0, 1, 2, 3, 4, 5] rfl
  have hD := hD.sub (ws' := [(mo, .inr (12, [.int 0, .ref vl, .ref sl])), (sl, .inr (0, [.int 0, .ref ae, .int 0])), (q_1, .inr (8, [.int (-1), .int (-1), .ref ah_5, .ref aw_6, .ref fl_4, .ref mo])), (fl_4, .inr (0, [.int 0, .ref ae, .int 0])), (ah_5, .inl (cS, 0, .inr (.inr (.inr (.inr (fun _ => none)))))), (aw_6, .inl (cI, 0, .inl (fun _ => 0)))]) [0, 1, 2, 3, 4, 5] (by decide) rfl
  exact ke_r hx hb hr (by first | exact Or.inl ⟨_, rfl⟩ | exact Or.inr ⟨_, rfl⟩) (q_1, fl_4, ah_5, aw_6) rfl (trivial) hP hD hS (Nat.le_of_ble_eq_true rfl) (Nat.le_of_ble_eq_true rfl) hlocks dX11_look_10

set_option maxHeartbeats 4000000 in
set_option maxRecDepth 100000 in
theorem m_isLoan (l : Launch) (hfl : l.stackTraces = false) (ae : Nat) (D : va_G) (cI cJ cS cO : ClassId) (mo : Nat) (vl : Nat) (sl : Nat) (k : Nat) (fl : Nat) (ah : Nat) (aw : Nat) (v : Int32) (sz : Nat)  : Met l yX7_isLoan (wx (.code yX7_isLoan cX7_isLoan 2 (some .boolean))) ({ frames := 0, cells := 0, slots := 0, locals := 0 }) (va_Pc [.ref k, .int v] (Pw ae D vwCl [(cI, .int), (cJ, .long), (cS, .object "IronwoodModel$State"), (cO, .object "java/lang/Object")] [(mo, .inr (12, [.int 0, .ref vl, .ref sl])), (sl, .inr (0, [.int 0, .ref ae, .int 0])), (k, .inr (8, [.int (-1), .int (-1), .ref ah, .ref aw, .ref fl, .ref mo])), (fl, .inr (0, [.int 0, .ref ae, .int 0])), (ah, .inl (cS, 0, .inr (.inr (.inr (.inr (fun _ => none)))))), (aw, .inl (cI, 0, .inl (fun _ => 0)))] sz)) (va_Qi (fun (r : Int32) (u : Unit) => r = 0) (Bw D vwCl (fun (u : Unit) => [(mo, .inr (12, [.int 0, .ref vl, .ref sl])), (sl, .inr (0, [.int 0, .ref ae, .int 0])), (k, .inr (8, [.int (-1), .int (-1), .ref ah, .ref aw, .ref fl, .ref mo])), (fl, .inr (0, [.int 0, .ref ae, .int 0])), (ah, .inl (cS, 0, .inr (.inr (.inr (.inr (fun _ => none)))))), (aw, .inl (cI, 0, .inl (fun _ => 0)))]) (va_A [(mo, .inr (12, [.int 0, .ref vl, .ref sl])), (sl, .inr (0, [.int 0, .ref ae, .int 0])), (k, .inr (8, [.int (-1), .int (-1), .ref ah, .ref aw, .ref fl, .ref mo])), (fl, .inr (0, [.int 0, .ref ae, .int 0])), (ah, .inl (cS, 0, .inr (.inr (.inr (.inr (fun _ => none)))))), (aw, .inl (cI, 0, .inl (fun _ => 0)))] sz)) (va_A [(mo, .inr (12, [.int 0, .ref vl, .ref sl])), (sl, .inr (0, [.int 0, .ref ae, .int 0])), (k, .inr (8, [.int (-1), .int (-1), .ref ah, .ref aw, .ref fl, .ref mo])), (fl, .inr (0, [.int 0, .ref ae, .int 0])), (ah, .inl (cS, 0, .inr (.inr (.inr (.inr (fun _ => none)))))), (aw, .inl (cI, 0, .inl (fun _ => 0)))] sz)) 0 0 (va_A [(mo, .inr (12, [.int 0, .ref vl, .ref sl])), (sl, .inr (0, [.int 0, .ref ae, .int 0])), (k, .inr (8, [.int (-1), .int (-1), .ref ah, .ref aw, .ref fl, .ref mo])), (fl, .inr (0, [.int 0, .ref ae, .int 0])), (ah, .inl (cS, 0, .inr (.inr (.inr (.inr (fun _ => none)))))), (aw, .inl (cI, 0, .inl (fun _ => 0)))] sz) := by
  refine Met.ofW (cc := cX7_isLoan) (maxL := 2) (ret := (some .boolean)) (by decide) rfl ?_
  intro p e s m args below meth c s₁ B hml hv9
  obtain ⟨rfl, hsz, hP, hK, hD0, hG⟩ := hv9
  have hx := B.exec
  have hb := B.bytes
  have hr := B.returns
  have hts := atoms_spec (ws := wx (.code yX7_isLoan cX7_isLoan 2 (some .boolean))) B.pre
  have hown : s.vm.findClass RX7 = some m.cls := findClass_of_methodNamed B.named
  have hlocks := B.notSynchronized
  subst hsz
  have hD := hD0.self (sz := s.heap.size)
  generalize hAe : va_A [(mo, .inr (12, [.int 0, .ref vl, .ref sl])), (sl, .inr (0, [.int 0, .ref ae, .int 0])), (k, .inr (8, [.int (-1), .int (-1), .ref ah, .ref aw, .ref fl, .ref mo])), (fl, .inr (0, [.int 0, .ref ae, .int 0])), (ah, .inl (cS, 0, .inr (.inr (.inr (.inr (fun _ => none)))))), (aw, .inl (cI, 0, .inl (fun _ => 0)))] s.heap.size = A at hD hG ⊢
  have hA : ∀ q : Nat, s.heap.size ≤ q → A q := fun q h => by rw [← hAe]; exact Or.inr h
  have hS : va_S A s.heap s.heap [] := va_S.rf
  have hP : va_P D vwCl [(mo, .inr (12, [.int 0, .ref vl, .ref sl])), (sl, .inr (0, [.int 0, .ref ae, .int 0])), (k, .inr (8, [.int (-1), .int (-1), .ref ah, .ref aw, .ref fl, .ref mo])), (fl, .inr (0, [.int 0, .ref ae, .int 0])), (ah, .inl (cS, 0, .inr (.inr (.inr (.inr (fun _ => none)))))), (aw, .inl (cI, 0, .inl (fun _ => 0)))] s.heap := hP
  have hl := lv_entry ([.ref k, .int v]) (n := 2) (Nat.le_of_ble_eq_true rfl)
  rw [lg_entry_eq]
  generalize (lg_sl ([.ref k, .int v]) ++ List.replicate (2 - (lg_sl ([.ref k, .int v])).length) Slot.unset).toArray = ls at hl ⊢
  have hl : lv_has ls 2 [(0, .ref k), (1, .int v)] := hl
  refine lv_iload_n hx hb dX7_isLoan_0 rfl (lv_at hl 1 rfl) ?_
  refine lv_if_lt (tgt := 45) hx hb dX7_isLoan_1 (by decide) (fun c_1 => ?_) (fun c_1 => ?_)
  · skip
    refine lv_iconst (v := 0) hx hb dX7_isLoan_45 (by decide) ?_
    have hP := hP.sub (ws' := [(mo, .inr (12, [.int 0, .ref vl, .ref sl])), (sl, .inr (0, [.int 0, .ref ae, .int 0])), (k, .inr (8, [.int (-1), .int (-1), .ref ah, .ref aw, .ref fl, .ref mo])), (fl, .inr (0, [.int 0, .ref ae, .int 0])), (ah, .inl (cS, 0, .inr (.inr (.inr (.inr (fun _ => none)))))), (aw, .inl (cI, 0, .inl (fun _ => 0)))]) [0, 1, 2, 3, 4, 5] rfl
    have hD := hD.sub (ws' := [(mo, .inr (12, [.int 0, .ref vl, .ref sl])), (sl, .inr (0, [.int 0, .ref ae, .int 0])), (k, .inr (8, [.int (-1), .int (-1), .ref ah, .ref aw, .ref fl, .ref mo])), (fl, .inr (0, [.int 0, .ref ae, .int 0])), (ah, .inl (cS, 0, .inr (.inr (.inr (.inr (fun _ => none)))))), (aw, .inl (cI, 0, .inl (fun _ => 0)))]) [0, 1, 2, 3, 4, 5] (by decide) rfl
    exact ke_i hx hb hr (by first | rfl | decide) () (rfl) hP hD hS (Nat.le_of_ble_eq_true rfl) (Nat.le_of_ble_eq_true rfl) hlocks dX7_isLoan_46
  · skip
    refine lv_iload_n hx hb dX7_isLoan_4 rfl (lv_at hl 1 rfl) ?_
    refine lv_aload_n hx hb dX7_isLoan_5 rfl (lv_at hl 0 rfl) ?_
    refine va_get (D := D) (ci := 8) (v := .ref ah) (C := RX7) (T := TX7) (N := 6) (ref := "IronwoodModel$Look") hx hb hts in_RX7 hown hK hP 2 rfl rfl 2 (by decide) (hts _ (mc q_1477)) (fun _ h9 => h9) rfl dX7_isLoan_6 ?_
    refine va_alen (v := 0) hx hb hK hP 4 2 rfl rfl (show Int32.ofNat 0 = 0 by decide) dX7_isLoan_9 ?_
    refine lv_icmp_ge (tgt := 45) hx hb dX7_isLoan_10 (by decide) (fun c_10 => ?_) (fun c_10 => absurd (Int32.not_lt.mp c_1) c_10)
    refine lv_iconst (v := 0) hx hb dX7_isLoan_45 (by decide) ?_
    have hP := hP.sub (ws' := [(mo, .inr (12, [.int 0, .ref vl, .ref sl])), (sl, .inr (0, [.int 0, .ref ae, .int 0])), (k, .inr (8, [.int (-1), .int (-1), .ref ah, .ref aw, .ref fl, .ref mo])), (fl, .inr (0, [.int 0, .ref ae, .int 0])), (ah, .inl (cS, 0, .inr (.inr (.inr (.inr (fun _ => none)))))), (aw, .inl (cI, 0, .inl (fun _ => 0)))]) [0, 1, 2, 3, 4, 5] rfl
    have hD := hD.sub (ws' := [(mo, .inr (12, [.int 0, .ref vl, .ref sl])), (sl, .inr (0, [.int 0, .ref ae, .int 0])), (k, .inr (8, [.int (-1), .int (-1), .ref ah, .ref aw, .ref fl, .ref mo])), (fl, .inr (0, [.int 0, .ref ae, .int 0])), (ah, .inl (cS, 0, .inr (.inr (.inr (.inr (fun _ => none)))))), (aw, .inl (cI, 0, .inl (fun _ => 0)))]) [0, 1, 2, 3, 4, 5] (by decide) rfl
    exact ke_i hx hb hr (by first | rfl | decide) () (rfl) hP hD hS (Nat.le_of_ble_eq_true rfl) (Nat.le_of_ble_eq_true rfl) hlocks dX7_isLoan_46

set_option maxHeartbeats 4000000 in
set_option maxRecDepth 100000 in
theorem m_loansOf (l : Launch) (hfl : l.stackTraces = false) (ae : Nat) (D : va_G) (cI cJ cS cO : ClassId) (mo : Nat) (vl : Nat) (sl : Nat) (k : Nat) (fl : Nat) (ah : Nat) (aw : Nat) (sz : Nat)  : Met l yX11_loans (wx (.code yX11_loans cX11_loans 4 (some .int))) ({ frames := 1, cells := 0, slots := 0, locals := 20 }) (va_Pc [.ref mo, .ref k] (Pw ae D vwCl [(cI, .int), (cJ, .long), (cS, .object "IronwoodModel$State"), (cO, .object "java/lang/Object")] [(mo, .inr (12, [.int 0, .ref vl, .ref sl])), (sl, .inr (0, [.int 0, .ref ae, .int 0])), (k, .inr (8, [.int (-1), .int (-1), .ref ah, .ref aw, .ref fl, .ref mo])), (fl, .inr (0, [.int 0, .ref ae, .int 0])), (ah, .inl (cS, 0, .inr (.inr (.inr (.inr (fun _ => none)))))), (aw, .inl (cI, 0, .inl (fun _ => 0)))] sz)) (va_Qi (fun (r : Int32) (u : Unit) => r = 0) (Bw D vwCl (fun (u : Unit) => [(mo, .inr (12, [.int 0, .ref vl, .ref sl])), (sl, .inr (0, [.int 0, .ref ae, .int 0])), (k, .inr (8, [.int (-1), .int (-1), .ref ah, .ref aw, .ref fl, .ref mo])), (fl, .inr (0, [.int 0, .ref ae, .int 0])), (ah, .inl (cS, 0, .inr (.inr (.inr (.inr (fun _ => none)))))), (aw, .inl (cI, 0, .inl (fun _ => 0)))]) (va_A [(mo, .inr (12, [.int 0, .ref vl, .ref sl])), (sl, .inr (0, [.int 0, .ref ae, .int 0])), (k, .inr (8, [.int (-1), .int (-1), .ref ah, .ref aw, .ref fl, .ref mo])), (fl, .inr (0, [.int 0, .ref ae, .int 0])), (ah, .inl (cS, 0, .inr (.inr (.inr (.inr (fun _ => none)))))), (aw, .inl (cI, 0, .inl (fun _ => 0)))] sz)) (va_A [(mo, .inr (12, [.int 0, .ref vl, .ref sl])), (sl, .inr (0, [.int 0, .ref ae, .int 0])), (k, .inr (8, [.int (-1), .int (-1), .ref ah, .ref aw, .ref fl, .ref mo])), (fl, .inr (0, [.int 0, .ref ae, .int 0])), (ah, .inl (cS, 0, .inr (.inr (.inr (.inr (fun _ => none)))))), (aw, .inl (cI, 0, .inl (fun _ => 0)))] sz)) 0 0 (va_A [(mo, .inr (12, [.int 0, .ref vl, .ref sl])), (sl, .inr (0, [.int 0, .ref ae, .int 0])), (k, .inr (8, [.int (-1), .int (-1), .ref ah, .ref aw, .ref fl, .ref mo])), (fl, .inr (0, [.int 0, .ref ae, .int 0])), (ah, .inl (cS, 0, .inr (.inr (.inr (.inr (fun _ => none)))))), (aw, .inl (cI, 0, .inl (fun _ => 0)))] sz) := by
  refine Met.ofW (cc := cX11_loans) (maxL := 4) (ret := (some .int)) (by decide) rfl ?_
  intro p e s m args below meth c s₁ B hml hv9
  obtain ⟨rfl, hsz, hP, hK, hD0, hG⟩ := hv9
  have hx := B.exec
  have hb := B.bytes
  have hr := B.returns
  have hts := atoms_spec (ws := wx (.code yX11_loans cX11_loans 4 (some .int))) B.pre
  have hown : s.vm.findClass RX11 = some m.cls := findClass_of_methodNamed B.named
  have hlocks := B.notSynchronized
  subst hsz
  have hD := hD0.self (sz := s.heap.size)
  generalize hAe : va_A [(mo, .inr (12, [.int 0, .ref vl, .ref sl])), (sl, .inr (0, [.int 0, .ref ae, .int 0])), (k, .inr (8, [.int (-1), .int (-1), .ref ah, .ref aw, .ref fl, .ref mo])), (fl, .inr (0, [.int 0, .ref ae, .int 0])), (ah, .inl (cS, 0, .inr (.inr (.inr (.inr (fun _ => none)))))), (aw, .inl (cI, 0, .inl (fun _ => 0)))] s.heap.size = A at hD hG ⊢
  have hA : ∀ q : Nat, s.heap.size ≤ q → A q := fun q h => by rw [← hAe]; exact Or.inr h
  have hS : va_S A s.heap s.heap [] := va_S.rf
  have hP : va_P D vwCl [(mo, .inr (12, [.int 0, .ref vl, .ref sl])), (sl, .inr (0, [.int 0, .ref ae, .int 0])), (k, .inr (8, [.int (-1), .int (-1), .ref ah, .ref aw, .ref fl, .ref mo])), (fl, .inr (0, [.int 0, .ref ae, .int 0])), (ah, .inl (cS, 0, .inr (.inr (.inr (.inr (fun _ => none)))))), (aw, .inl (cI, 0, .inl (fun _ => 0)))] s.heap := hP
  have hl := lv_entry ([.ref mo, .ref k]) (n := 4) (Nat.le_of_ble_eq_true rfl)
  rw [lg_entry_eq]
  generalize (lg_sl ([.ref mo, .ref k]) ++ List.replicate (4 - (lg_sl ([.ref mo, .ref k])).length) Slot.unset).toArray = ls at hl ⊢
  have hl : lv_has ls 4 [(0, .ref mo), (1, .ref k)] := hl
  refine lv_iconst (v := 0) hx hb dX11_loans_0 (by decide) ?_
  refine lv_istore_n (lv' := [(2, .int 0), (0, .ref mo), (1, .ref k)]) hx hb dX11_loans_1 rfl hl (by decide) rfl (fun ls hl => ?_)
  refine lv_iconst (v := 0) hx hb dX11_loans_2 (by decide) ?_
  refine lv_istore_n (lv' := [(3, .int 0), (2, .int 0), (0, .ref mo), (1, .ref k)]) hx hb dX11_loans_3 rfl hl (by decide) rfl (fun ls hl => ?_)
  refine lv_iload_n hx hb dX11_loans_4 rfl (lv_at hl 0 rfl) ?_
  refine lv_aload_n hx hb dX11_loans_5 rfl (lv_at hl 2 rfl) ?_
  refine va_get (D := D) (ci := 12) (v := .ref sl) (C := RX11) (T := TX11) (N := 3) (ref := "IronwoodModel") hx hb hts in_RX11 hown hK hP 0 rfl rfl 2 (by decide) (hts _ (mc q_1005)) (fun _ h9 => h9) rfl dX11_loans_6 ?_
  refine kc_i (wr := [(mo, .inr (12, [.int 0, .ref vl, .ref sl])), (k, .inr (8, [.int (-1), .int (-1), .ref ah, .ref aw, .ref fl, .ref mo])), (fl, .inr (0, [.int 0, .ref ae, .int 0])), (ah, .inl (cS, 0, .inr (.inr (.inr (.inr (fun _ => none)))))), (aw, .inl (cI, 0, .inl (fun _ => 0)))]) (va_runV (As := []) (rest := [.int 0]) ⟨hx, hb, hml, hown, hts⟩ (k_al_size l hfl ae D cI cJ cS cO sl 0 ae 0 _) (cwV 0 hts (gV q_1036 q_1033 q_1034 q_1035 q_107) rfl rfl rfl (by decide +kernel) ⟨Nat.le_of_ble_eq_true rfl, Nat.le_of_ble_eq_true rfl⟩) ⟨Pw.blind, va_recv hK hP (ci := 0) (q0 := 1) rfl rfl, Pw.mk_call hP hK hD hS hA hG [1] rfl (by decide)⟩ rfl rfl hl.1 rfl (lv_room (Nat.le_of_ble_eq_true rfl)) dX11_loans_9 ⟨Nat.le_of_ble_eq_true rfl, Nat.le_of_ble_eq_true rfl⟩) hP hD hS hA [1] [0, 2, 3, 4, 5] rfl rfl (by decide) (by decide) (fun r_1 u_2 H locs hw hP hD hS => ?_)
  obtain rfl : r_1 = 0 := hw
  have hP : va_P D vwCl [(mo, .inr (12, [.int 0, .ref vl, .ref sl])), (k, .inr (8, [.int (-1), .int (-1), .ref ah, .ref aw, .ref fl, .ref mo])), (fl, .inr (0, [.int 0, .ref ae, .int 0])), (ah, .inl (cS, 0, .inr (.inr (.inr (.inr (fun _ => none)))))), (aw, .inl (cI, 0, .inl (fun _ => 0))), (sl, .inr (0, [.int 0, .ref ae, .int 0]))] H := hP
  have hD : va_D A [(mo, .inr (12, [.int 0, .ref vl, .ref sl])), (k, .inr (8, [.int (-1), .int (-1), .ref ah, .ref aw, .ref fl, .ref mo])), (fl, .inr (0, [.int 0, .ref ae, .int 0])), (ah, .inl (cS, 0, .inr (.inr (.inr (.inr (fun _ => none)))))), (aw, .inl (cI, 0, .inl (fun _ => 0))), (sl, .inr (0, [.int 0, .ref ae, .int 0]))] := hD
  refine lv_icmp_ge (tgt := 37) hx hb dX11_loans_12 (by decide) (fun c_12 => ?_) (fun c_12 => absurd (by decide) c_12)
  refine lv_iload_n hx hb dX11_loans_37 rfl (lv_at hl 1 rfl) ?_
  have hP := hP.sub (ws' := [(mo, .inr (12, [.int 0, .ref vl, .ref sl])), (sl, .inr (0, [.int 0, .ref ae, .int 0])), (k, .inr (8, [.int (-1), .int (-1), .ref ah, .ref aw, .ref fl, .ref mo])), (fl, .inr (0, [.int 0, .ref ae, .int 0])), (ah, .inl (cS, 0, .inr (.inr (.inr (.inr (fun _ => none)))))), (aw, .inl (cI, 0, .inl (fun _ => 0)))]) [0, 5, 1, 2, 3, 4] rfl
  have hD := hD.sub (ws' := [(mo, .inr (12, [.int 0, .ref vl, .ref sl])), (sl, .inr (0, [.int 0, .ref ae, .int 0])), (k, .inr (8, [.int (-1), .int (-1), .ref ah, .ref aw, .ref fl, .ref mo])), (fl, .inr (0, [.int 0, .ref ae, .int 0])), (ah, .inl (cS, 0, .inr (.inr (.inr (.inr (fun _ => none)))))), (aw, .inl (cI, 0, .inl (fun _ => 0)))]) [0, 5, 1, 2, 3, 4] (by decide) rfl
  exact ke_i hx hb hr (by first | rfl | decide) () (rfl) hP hD hS (Nat.le_of_ble_eq_true rfl) (Nat.le_of_ble_eq_true rfl) hlocks dX11_loans_38

set_option maxHeartbeats 4000000 in
set_option maxRecDepth 100000 in
theorem m_regionOf (l : Launch) (hfl : l.stackTraces = false) (ae : Nat) (D : va_G) (cI cJ cS cO : ClassId) (mo : Nat) (vl : Nat) (sl : Nat) (k : Nat) (fl : Nat) (ah : Nat) (aw : Nat) (v : Int32) (sz : Nat)  : Met l yX11_region (wx (.code yX11_region cX11_region 5 (some .int))) ({ frames := 1, cells := 0, slots := 0, locals := 21 }) (va_Pc [.ref mo, .ref k, .int v] (Pw ae D vwCl [(cI, .int), (cJ, .long), (cS, .object "IronwoodModel$State"), (cO, .object "java/lang/Object")] [(mo, .inr (12, [.int 0, .ref vl, .ref sl])), (sl, .inr (0, [.int 0, .ref ae, .int 0])), (k, .inr (8, [.int (-1), .int (-1), .ref ah, .ref aw, .ref fl, .ref mo])), (fl, .inr (0, [.int 0, .ref ae, .int 0])), (ah, .inl (cS, 0, .inr (.inr (.inr (.inr (fun _ => none)))))), (aw, .inl (cI, 0, .inl (fun _ => 0)))] sz)) (va_Qi (fun (r : Int32) (u : Unit) => r = (-1)) (Bw D vwCl (fun (u : Unit) => [(mo, .inr (12, [.int 0, .ref vl, .ref sl])), (sl, .inr (0, [.int 0, .ref ae, .int 0])), (k, .inr (8, [.int (-1), .int (-1), .ref ah, .ref aw, .ref fl, .ref mo])), (fl, .inr (0, [.int 0, .ref ae, .int 0])), (ah, .inl (cS, 0, .inr (.inr (.inr (.inr (fun _ => none)))))), (aw, .inl (cI, 0, .inl (fun _ => 0)))]) (va_A [(mo, .inr (12, [.int 0, .ref vl, .ref sl])), (sl, .inr (0, [.int 0, .ref ae, .int 0])), (k, .inr (8, [.int (-1), .int (-1), .ref ah, .ref aw, .ref fl, .ref mo])), (fl, .inr (0, [.int 0, .ref ae, .int 0])), (ah, .inl (cS, 0, .inr (.inr (.inr (.inr (fun _ => none)))))), (aw, .inl (cI, 0, .inl (fun _ => 0)))] sz)) (va_A [(mo, .inr (12, [.int 0, .ref vl, .ref sl])), (sl, .inr (0, [.int 0, .ref ae, .int 0])), (k, .inr (8, [.int (-1), .int (-1), .ref ah, .ref aw, .ref fl, .ref mo])), (fl, .inr (0, [.int 0, .ref ae, .int 0])), (ah, .inl (cS, 0, .inr (.inr (.inr (.inr (fun _ => none)))))), (aw, .inl (cI, 0, .inl (fun _ => 0)))] sz)) 0 0 (va_A [(mo, .inr (12, [.int 0, .ref vl, .ref sl])), (sl, .inr (0, [.int 0, .ref ae, .int 0])), (k, .inr (8, [.int (-1), .int (-1), .ref ah, .ref aw, .ref fl, .ref mo])), (fl, .inr (0, [.int 0, .ref ae, .int 0])), (ah, .inl (cS, 0, .inr (.inr (.inr (.inr (fun _ => none)))))), (aw, .inl (cI, 0, .inl (fun _ => 0)))] sz) := by
  refine Met.ofW (cc := cX11_region) (maxL := 5) (ret := (some .int)) (by decide) rfl ?_
  intro p e s m args below meth c s₁ B hml hv9
  obtain ⟨rfl, hsz, hP, hK, hD0, hG⟩ := hv9
  have hx := B.exec
  have hb := B.bytes
  have hr := B.returns
  have hts := atoms_spec (ws := wx (.code yX11_region cX11_region 5 (some .int))) B.pre
  have hown : s.vm.findClass RX11 = some m.cls := findClass_of_methodNamed B.named
  have hlocks := B.notSynchronized
  subst hsz
  have hD := hD0.self (sz := s.heap.size)
  generalize hAe : va_A [(mo, .inr (12, [.int 0, .ref vl, .ref sl])), (sl, .inr (0, [.int 0, .ref ae, .int 0])), (k, .inr (8, [.int (-1), .int (-1), .ref ah, .ref aw, .ref fl, .ref mo])), (fl, .inr (0, [.int 0, .ref ae, .int 0])), (ah, .inl (cS, 0, .inr (.inr (.inr (.inr (fun _ => none)))))), (aw, .inl (cI, 0, .inl (fun _ => 0)))] s.heap.size = A at hD hG ⊢
  have hA : ∀ q : Nat, s.heap.size ≤ q → A q := fun q h => by rw [← hAe]; exact Or.inr h
  have hS : va_S A s.heap s.heap [] := va_S.rf
  have hP : va_P D vwCl [(mo, .inr (12, [.int 0, .ref vl, .ref sl])), (sl, .inr (0, [.int 0, .ref ae, .int 0])), (k, .inr (8, [.int (-1), .int (-1), .ref ah, .ref aw, .ref fl, .ref mo])), (fl, .inr (0, [.int 0, .ref ae, .int 0])), (ah, .inl (cS, 0, .inr (.inr (.inr (.inr (fun _ => none)))))), (aw, .inl (cI, 0, .inl (fun _ => 0)))] s.heap := hP
  have hl := lv_entry ([.ref mo, .ref k, .int v]) (n := 5) (Nat.le_of_ble_eq_true rfl)
  rw [lg_entry_eq]
  generalize (lg_sl ([.ref mo, .ref k, .int v]) ++ List.replicate (5 - (lg_sl ([.ref mo, .ref k, .int v])).length) Slot.unset).toArray = ls at hl ⊢
  have hl : lv_has ls 5 [(0, .ref mo), (1, .ref k), (2, .int v)] := hl
  refine lv_aload_n hx hb dX11_region_0 rfl (lv_at hl 1 rfl) ?_
  refine lv_iload_n hx hb dX11_region_1 rfl (lv_at hl 2 rfl) ?_
  refine kc_i (wr := []) (va_runV (As := [.int v]) (rest := []) ⟨hx, hb, hml, hown, hts⟩ (m_isLoan l hfl ae D cI cJ cS cO mo vl sl k fl ah aw v _) (cwV 1 hts (gV q_1466 q_1519 q_1464 q_1465 q_122) rfl rfl rfl (by decide +kernel) ⟨Nat.le_of_ble_eq_true rfl, Nat.le_of_ble_eq_true rfl⟩) ⟨Pw.blind, va_recv hK hP (ci := 8) (q0 := 2) rfl rfl, Pw.mk_call hP hK hD hS hA hG [0, 1, 2, 3, 4, 5] rfl (by decide)⟩ rfl rfl hl.1 rfl (lv_room (Nat.le_of_ble_eq_true rfl)) dX11_region_2 ⟨Nat.le_of_ble_eq_true rfl, Nat.le_of_ble_eq_true rfl⟩) hP hD hS hA [0, 1, 2, 3, 4, 5] [] rfl rfl (by decide) (by decide) (fun r_1 u_2 H locs hw hP hD hS => ?_)
  obtain rfl : r_1 = 0 := hw
  have hP : va_P D vwCl [(mo, .inr (12, [.int 0, .ref vl, .ref sl])), (sl, .inr (0, [.int 0, .ref ae, .int 0])), (k, .inr (8, [.int (-1), .int (-1), .ref ah, .ref aw, .ref fl, .ref mo])), (fl, .inr (0, [.int 0, .ref ae, .int 0])), (ah, .inl (cS, 0, .inr (.inr (.inr (.inr (fun _ => none)))))), (aw, .inl (cI, 0, .inl (fun _ => 0)))] H := hP
  have hD : va_D A [(mo, .inr (12, [.int 0, .ref vl, .ref sl])), (sl, .inr (0, [.int 0, .ref ae, .int 0])), (k, .inr (8, [.int (-1), .int (-1), .ref ah, .ref aw, .ref fl, .ref mo])), (fl, .inr (0, [.int 0, .ref ae, .int 0])), (ah, .inl (cS, 0, .inr (.inr (.inr (.inr (fun _ => none)))))), (aw, .inl (cI, 0, .inl (fun _ => 0)))] := hD
  refine lv_if_ne (tgt := 10) hx hb dX11_region_5 (by decide) (fun c_5 => absurd (by decide) c_5) (fun c_5 => ?_)
  refine lv_iconst (v := (-1)) hx hb dX11_region_8 (by decide) ?_
  have hP := hP.sub (ws' := [(mo, .inr (12, [.int 0, .ref vl, .ref sl])), (sl, .inr (0, [.int 0, .ref ae, .int 0])), (k, .inr (8, [.int (-1), .int (-1), .ref ah, .ref aw, .ref fl, .ref mo])), (fl, .inr (0, [.int 0, .ref ae, .int 0])), (ah, .inl (cS, 0, .inr (.inr (.inr (.inr (fun _ => none)))))), (aw, .inl (cI, 0, .inl (fun _ => 0)))]) [0, 1, 2, 3, 4, 5] rfl
  have hD := hD.sub (ws' := [(mo, .inr (12, [.int 0, .ref vl, .ref sl])), (sl, .inr (0, [.int 0, .ref ae, .int 0])), (k, .inr (8, [.int (-1), .int (-1), .ref ah, .ref aw, .ref fl, .ref mo])), (fl, .inr (0, [.int 0, .ref ae, .int 0])), (ah, .inl (cS, 0, .inr (.inr (.inr (.inr (fun _ => none)))))), (aw, .inl (cI, 0, .inl (fun _ => 0)))]) [0, 1, 2, 3, 4, 5] (by decide) rfl
  exact ke_i hx hb hr (by first | rfl | decide) () (rfl) hP hD hS (Nat.le_of_ble_eq_true rfl) (Nat.le_of_ble_eq_true rfl) hlocks dX11_region_9

set_option maxHeartbeats 4000000 in
set_option maxRecDepth 100000 in
theorem m_manyOf (l : Launch) (hfl : l.stackTraces = false) (ae : Nat) (D : va_G) (cI cJ cS cO : ClassId) (fl : Nat) (v : Int32) (w : Int32) (sz : Nat)  : Met l yX11_many_ (wx (.code yX11_many_ cX11_many_ 5 (some .int))) ({ frames := 1, cells := 0, slots := 0, locals := 20 }) (va_Pc [.ref fl, .int v, .int w] (Pw ae D vwCl [(cI, .int), (cJ, .long), (cS, .object "IronwoodModel$State"), (cO, .object "java/lang/Object")] [(fl, .inr (0, [.int 0, .ref ae, .int 0]))] sz)) (va_Qi (fun (r : Int32) (u : Unit) => r = 0) (Bw D vwCl (fun (u : Unit) => [(fl, .inr (0, [.int 0, .ref ae, .int 0]))]) (va_A [(fl, .inr (0, [.int 0, .ref ae, .int 0]))] sz)) (va_A [(fl, .inr (0, [.int 0, .ref ae, .int 0]))] sz)) 0 0 (va_A [(fl, .inr (0, [.int 0, .ref ae, .int 0]))] sz) := by
  refine Met.ofW (cc := cX11_many_) (maxL := 5) (ret := (some .int)) (by decide) rfl ?_
  intro p e s m args below meth c s₁ B hml hv9
  obtain ⟨rfl, hsz, hP, hK, hD0, hG⟩ := hv9
  have hx := B.exec
  have hb := B.bytes
  have hr := B.returns
  have hts := atoms_spec (ws := wx (.code yX11_many_ cX11_many_ 5 (some .int))) B.pre
  have hown : s.vm.findClass RX11 = some m.cls := findClass_of_methodNamed B.named
  have hlocks := B.notSynchronized
  subst hsz
  have hD := hD0.self (sz := s.heap.size)
  generalize hAe : va_A [(fl, .inr (0, [.int 0, .ref ae, .int 0]))] s.heap.size = A at hD hG ⊢
  have hA : ∀ q : Nat, s.heap.size ≤ q → A q := fun q h => by rw [← hAe]; exact Or.inr h
  have hS : va_S A s.heap s.heap [] := va_S.rf
  have hP : va_P D vwCl [(fl, .inr (0, [.int 0, .ref ae, .int 0]))] s.heap := hP
  have hl := lv_entry ([.ref fl, .int v, .int w]) (n := 5) (Nat.le_of_ble_eq_true rfl)
  rw [lg_entry_eq]
  generalize (lg_sl ([.ref fl, .int v, .int w]) ++ List.replicate (5 - (lg_sl ([.ref fl, .int v, .int w])).length) Slot.unset).toArray = ls at hl ⊢
  have hl : lv_has ls 5 [(0, .ref fl), (1, .int v), (2, .int w)] := hl
  refine lv_iconst (v := 0) hx hb dX11_many__0 (by decide) ?_
  refine lv_istore_n (lv' := [(3, .int 0), (0, .ref fl), (1, .int v), (2, .int w)]) hx hb dX11_many__1 rfl hl (by decide) rfl (fun ls hl => ?_)
  refine lv_iconst (v := 0) hx hb dX11_many__2 (by decide) ?_
  refine lv_istore (lv' := [(4, .int 0), (3, .int 0), (0, .ref fl), (1, .int v), (2, .int w)]) hx hb dX11_many__3 hl (by decide) rfl (fun ls hl => ?_)
  refine lv_iload hx hb dX11_many__5 (lv_at hl 0 rfl) ?_
  refine lv_aload_n hx hb dX11_many__7 rfl (lv_at hl 2 rfl) ?_
  refine kc_i (wr := []) (va_runV (As := []) (rest := [.int 0]) ⟨hx, hb, hml, hown, hts⟩ (k_al_size l hfl ae D cI cJ cS cO fl 0 ae 0 _) (cwV 0 hts (gV q_1036 q_1033 q_1034 q_1035 q_107) rfl rfl rfl (by decide +kernel) ⟨Nat.le_of_ble_eq_true rfl, Nat.le_of_ble_eq_true rfl⟩) ⟨Pw.blind, va_recv hK hP (ci := 0) (q0 := 0) rfl rfl, Pw.mk_call hP hK hD hS hA hG [0] rfl (by decide)⟩ rfl rfl hl.1 rfl (lv_room (Nat.le_of_ble_eq_true rfl)) dX11_many__8 ⟨Nat.le_of_ble_eq_true rfl, Nat.le_of_ble_eq_true rfl⟩) hP hD hS hA [0] [] rfl rfl (by decide) (by decide) (fun r_1 u_2 H locs hw hP hD hS => ?_)
  obtain rfl : r_1 = 0 := hw
  have hP : va_P D vwCl [(fl, .inr (0, [.int 0, .ref ae, .int 0]))] H := hP
  have hD : va_D A [(fl, .inr (0, [.int 0, .ref ae, .int 0]))] := hD
  refine lv_icmp_ge (tgt := 43) hx hb dX11_many__11 (by decide) (fun c_11 => ?_) (fun c_11 => absurd (by decide) c_11)
  refine lv_iload_n hx hb dX11_many__43 rfl (lv_at hl 1 rfl) ?_
  have hP := hP.sub (ws' := [(fl, .inr (0, [.int 0, .ref ae, .int 0]))]) [0] rfl
  have hD := hD.sub (ws' := [(fl, .inr (0, [.int 0, .ref ae, .int 0]))]) [0] (by decide) rfl
  exact ke_i hx hb hr (by first | rfl | decide) () (rfl) hP hD hS (Nat.le_of_ble_eq_true rfl) (Nat.le_of_ble_eq_true rfl) hlocks dX11_many__44

set_option maxHeartbeats 4000000 in
set_option maxRecDepth 100000 in
theorem m_loans (l : Launch) (hfl : l.stackTraces = false) (ae : Nat) (D : va_G) (cI cJ cS cO : ClassId) (mo : Nat) (vl : Nat) (sl : Nat) (sz : Nat)  : Met l yX11_loans_ (wx (.code yX11_loans_ cX11_loans_ 1 (some .int))) ({ frames := 6, cells := 4, slots := 9, locals := 116 }) (va_Pc [.ref mo] (Pw ae D vwCl [(cI, .int), (cJ, .long), (cS, .object "IronwoodModel$State"), (cO, .object "java/lang/Object")] [(mo, .inr (12, [.int 0, .ref vl, .ref sl])), (sl, .inr (0, [.int 0, .ref ae, .int 0]))] sz)) (va_Qi (fun (r : Int32) (u : Unit) => r = 0) (Bw D vwCl (fun (u : Unit) => [(mo, .inr (12, [.int 0, .ref vl, .ref sl])), (sl, .inr (0, [.int 0, .ref ae, .int 0]))]) (va_A [(mo, .inr (12, [.int 0, .ref vl, .ref sl])), (sl, .inr (0, [.int 0, .ref ae, .int 0]))] sz)) (va_A [(mo, .inr (12, [.int 0, .ref vl, .ref sl])), (sl, .inr (0, [.int 0, .ref ae, .int 0]))] sz)) 4 9 (va_A [(mo, .inr (12, [.int 0, .ref vl, .ref sl])), (sl, .inr (0, [.int 0, .ref ae, .int 0]))] sz) := by
  refine Met.ofW (cc := cX11_loans_) (maxL := 1) (ret := (some .int)) (by decide) rfl ?_
  intro p e s m args below meth c s₁ B hml hv9
  obtain ⟨rfl, hsz, hP, hK, hD0, hG⟩ := hv9
  have hx := B.exec
  have hb := B.bytes
  have hr := B.returns
  have hts := atoms_spec (ws := wx (.code yX11_loans_ cX11_loans_ 1 (some .int))) B.pre
  have hown : s.vm.findClass RX11 = some m.cls := findClass_of_methodNamed B.named
  have hlocks := B.notSynchronized
  subst hsz
  have hD := hD0.self (sz := s.heap.size)
  generalize hAe : va_A [(mo, .inr (12, [.int 0, .ref vl, .ref sl])), (sl, .inr (0, [.int 0, .ref ae, .int 0]))] s.heap.size = A at hD hG ⊢
  have hA : ∀ q : Nat, s.heap.size ≤ q → A q := fun q h => by rw [← hAe]; exact Or.inr h
  have hS : va_S A s.heap s.heap [] := va_S.rf
  have hP : va_P D vwCl [(mo, .inr (12, [.int 0, .ref vl, .ref sl])), (sl, .inr (0, [.int 0, .ref ae, .int 0]))] s.heap := hP
  have hl := lv_entry ([.ref mo]) (n := 1) (Nat.le_of_ble_eq_true rfl)
  rw [lg_entry_eq]
  generalize (lg_sl ([.ref mo]) ++ List.replicate (1 - (lg_sl ([.ref mo])).length) Slot.unset).toArray = ls at hl ⊢
  have hl : lv_has ls 1 [(0, .ref mo)] := hl
  refine lv_aload_n hx hb dX11_loans__0 rfl (lv_at hl 0 rfl) ?_
  refine lv_aload_n hx hb dX11_loans__1 rfl (lv_at hl 0 rfl) ?_
  refine lv_aload_n hx hb dX11_loans__2 rfl (lv_at hl 0 rfl) ?_
  refine kc_r (wr := []) (va_runV (As := []) (rest := [.ref mo, .ref mo]) ⟨hx, hb, hml, hown, hts⟩ (m_look l hfl ae D cI cJ cS cO mo vl sl _) (cwV 0 hts (gV q_1269 q_1266 q_1268 q_75 q_104) rfl rfl rfl (by decide +kernel) ⟨Nat.le_of_ble_eq_true rfl, Nat.le_of_ble_eq_true rfl⟩) ⟨Pw.blind, va_recv hK hP (ci := 12) (q0 := 0) rfl rfl, Pw.mk_call hP hK hD hS hA hG [0, 1] rfl (by decide)⟩ rfl rfl hl.1 rfl (lv_room (Nat.le_of_ble_eq_true rfl)) dX11_loans__3 ⟨Nat.le_of_ble_eq_true rfl, Nat.le_of_ble_eq_true rfl⟩) hP hD hS hA [0, 1] [] rfl rfl (by decide) (by decide) (fun u_2 H locs hw hP hD hS => ?_)
  obtain ⟨k_3, fl_4, ah_5, aw_6⟩ := u_2
  have hP : va_P D vwCl [(mo, .inr (12, [.int 0, .ref vl, .ref sl])), (sl, .inr (0, [.int 0, .ref ae, .int 0])), (k_3, .inr (8, [.int (-1), .int (-1), .ref ah_5, .ref aw_6, .ref fl_4, .ref mo])), (fl_4, .inr (0, [.int 0, .ref ae, .int 0])), (ah_5, .inl (cS, 0, .inr (.inr (.inr (.inr (fun _ => none)))))), (aw_6, .inl (cI, 0, .inl (fun _ => 0)))] H := hP
  have hD : va_D A [(mo, .inr (12, [.int 0, .ref vl, .ref sl])), (sl, .inr (0, [.int 0, .ref ae, .int 0])), (k_3, .inr (8, [.int (-1), .int (-1), .ref ah_5, .ref aw_6, .ref fl_4, .ref mo])), (fl_4, .inr (0, [.int 0, .ref ae, .int 0])), (ah_5, .inl (cS, 0, .inr (.inr (.inr (.inr (fun _ => none)))))), (aw_6, .inl (cI, 0, .inl (fun _ => 0)))] := hD
  refine kc_i (wr := []) (va_runV (As := [.ref k_3]) (rest := [.ref mo]) ⟨hx, hb, hml, hown, hts⟩ (m_loansOf l hfl ae D cI cJ cS cO mo vl sl k_3 fl_4 ah_5 aw_6 _) (cwV 1 hts (gV q_1532 q_1529 q_1531 q_94 q_104) rfl rfl rfl (by decide +kernel) ⟨Nat.le_of_ble_eq_true rfl, Nat.le_of_ble_eq_true rfl⟩) ⟨Pw.blind, va_recv hK hP (ci := 12) (q0 := 0) rfl rfl, Pw.mk_call hP hK hD hS hA hG [0, 1, 2, 3, 4, 5] rfl (by decide)⟩ rfl rfl hl.1 rfl (lv_room (Nat.le_of_ble_eq_true rfl)) dX11_loans__6 ⟨Nat.le_of_ble_eq_true rfl, Nat.le_of_ble_eq_true rfl⟩) hP hD hS hA [0, 1, 2, 3, 4, 5] [] rfl rfl (by decide) (by decide) (fun r_7 u_8 H locs hw hP hD hS => ?_)
  obtain rfl : r_7 = 0 := hw
  have hP : va_P D vwCl [(mo, .inr (12, [.int 0, .ref vl, .ref sl])), (sl, .inr (0, [.int 0, .ref ae, .int 0])), (k_3, .inr (8, [.int (-1), .int (-1), .ref ah_5, .ref aw_6, .ref fl_4, .ref mo])), (fl_4, .inr (0, [.int 0, .ref ae, .int 0])), (ah_5, .inl (cS, 0, .inr (.inr (.inr (.inr (fun _ => none)))))), (aw_6, .inl (cI, 0, .inl (fun _ => 0)))] H := hP
  have hD : va_D A [(mo, .inr (12, [.int 0, .ref vl, .ref sl])), (sl, .inr (0, [.int 0, .ref ae, .int 0])), (k_3, .inr (8, [.int (-1), .int (-1), .ref ah_5, .ref aw_6, .ref fl_4, .ref mo])), (fl_4, .inr (0, [.int 0, .ref ae, .int 0])), (ah_5, .inl (cS, 0, .inr (.inr (.inr (.inr (fun _ => none)))))), (aw_6, .inl (cI, 0, .inl (fun _ => 0)))] := hD
  refine kc_i (wr := [(sl, .inr (0, [.int 0, .ref ae, .int 0])), (k_3, .inr (8, [.int (-1), .int (-1), .ref ah_5, .ref aw_6, .ref fl_4, .ref mo])), (fl_4, .inr (0, [.int 0, .ref ae, .int 0])), (ah_5, .inl (cS, 0, .inr (.inr (.inr (.inr (fun _ => none)))))), (aw_6, .inl (cI, 0, .inl (fun _ => 0)))]) (va_runV (As := [.int 0]) (rest := []) ⟨hx, hb, hml, hown, hts⟩ (k_plain l hfl ae D cI cJ cS cO mo vl sl 0 0 _) (cwV 1 hts (gV q_1253 q_1250 q_1252 q_74 q_104) rfl rfl rfl (by decide +kernel) ⟨Nat.le_of_ble_eq_true rfl, Nat.le_of_ble_eq_true rfl⟩) ⟨Pw.blind, va_recv hK hP (ci := 12) (q0 := 0) rfl rfl, Pw.mk_call hP hK hD hS hA hG [0] rfl (by decide)⟩ rfl rfl hl.1 rfl (lv_room (Nat.le_of_ble_eq_true rfl)) dX11_loans__9 ⟨Nat.le_of_ble_eq_true rfl, Nat.le_of_ble_eq_true rfl⟩) hP hD hS hA [0] [1, 2, 3, 4, 5] rfl rfl (by decide) (by decide) (fun r_9 u_10 H locs hw hP hD hS => ?_)
  obtain rfl : r_9 = 0 := hw
  have hP : va_P D vwCl [(sl, .inr (0, [.int 0, .ref ae, .int 0])), (k_3, .inr (8, [.int (-1), .int (-1), .ref ah_5, .ref aw_6, .ref fl_4, .ref mo])), (fl_4, .inr (0, [.int 0, .ref ae, .int 0])), (ah_5, .inl (cS, 0, .inr (.inr (.inr (.inr (fun _ => none)))))), (aw_6, .inl (cI, 0, .inl (fun _ => 0))), (mo, .inr (12, [.int 0, .ref vl, .ref sl]))] H := hP
  have hD : va_D A [(sl, .inr (0, [.int 0, .ref ae, .int 0])), (k_3, .inr (8, [.int (-1), .int (-1), .ref ah_5, .ref aw_6, .ref fl_4, .ref mo])), (fl_4, .inr (0, [.int 0, .ref ae, .int 0])), (ah_5, .inl (cS, 0, .inr (.inr (.inr (.inr (fun _ => none)))))), (aw_6, .inl (cI, 0, .inl (fun _ => 0))), (mo, .inr (12, [.int 0, .ref vl, .ref sl]))] := hD
  have hP := hP.sub (ws' := [(mo, .inr (12, [.int 0, .ref vl, .ref sl])), (sl, .inr (0, [.int 0, .ref ae, .int 0]))]) [5, 0] rfl
  have hD := hD.sub (ws' := [(mo, .inr (12, [.int 0, .ref vl, .ref sl])), (sl, .inr (0, [.int 0, .ref ae, .int 0]))]) [5, 0] (by decide) rfl
  exact ke_i hx hb hr (by first | rfl | decide) () (rfl) hP hD hS (Nat.le_of_ble_eq_true rfl) (Nat.le_of_ble_eq_true rfl) hlocks dX11_loans__12

set_option maxHeartbeats 4000000 in
set_option maxRecDepth 100000 in
theorem m_region (l : Launch) (hfl : l.stackTraces = false) (ae : Nat) (D : va_G) (cI cJ cS cO : ClassId) (mo : Nat) (vl : Nat) (sl : Nat) (v : Int32) (sz : Nat)  : Met l yX11_region_ (wx (.code yX11_region_ cX11_region_ 2 (some .int))) ({ frames := 6, cells := 4, slots := 9, locals := 116 }) (va_Pc [.ref mo, .int v] (Pw ae D vwCl [(cI, .int), (cJ, .long), (cS, .object "IronwoodModel$State"), (cO, .object "java/lang/Object")] [(mo, .inr (12, [.int 0, .ref vl, .ref sl])), (sl, .inr (0, [.int 0, .ref ae, .int 0]))] sz)) (va_Qi (fun (r : Int32) (u : Unit) => r = (-1)) (Bw D vwCl (fun (u : Unit) => [(mo, .inr (12, [.int 0, .ref vl, .ref sl])), (sl, .inr (0, [.int 0, .ref ae, .int 0]))]) (va_A [(mo, .inr (12, [.int 0, .ref vl, .ref sl])), (sl, .inr (0, [.int 0, .ref ae, .int 0]))] sz)) (va_A [(mo, .inr (12, [.int 0, .ref vl, .ref sl])), (sl, .inr (0, [.int 0, .ref ae, .int 0]))] sz)) 4 9 (va_A [(mo, .inr (12, [.int 0, .ref vl, .ref sl])), (sl, .inr (0, [.int 0, .ref ae, .int 0]))] sz) := by
  refine Met.ofW (cc := cX11_region_) (maxL := 2) (ret := (some .int)) (by decide) rfl ?_
  intro p e s m args below meth c s₁ B hml hv9
  obtain ⟨rfl, hsz, hP, hK, hD0, hG⟩ := hv9
  have hx := B.exec
  have hb := B.bytes
  have hr := B.returns
  have hts := atoms_spec (ws := wx (.code yX11_region_ cX11_region_ 2 (some .int))) B.pre
  have hown : s.vm.findClass RX11 = some m.cls := findClass_of_methodNamed B.named
  have hlocks := B.notSynchronized
  subst hsz
  have hD := hD0.self (sz := s.heap.size)
  generalize hAe : va_A [(mo, .inr (12, [.int 0, .ref vl, .ref sl])), (sl, .inr (0, [.int 0, .ref ae, .int 0]))] s.heap.size = A at hD hG ⊢
  have hA : ∀ q : Nat, s.heap.size ≤ q → A q := fun q h => by rw [← hAe]; exact Or.inr h
  have hS : va_S A s.heap s.heap [] := va_S.rf
  have hP : va_P D vwCl [(mo, .inr (12, [.int 0, .ref vl, .ref sl])), (sl, .inr (0, [.int 0, .ref ae, .int 0]))] s.heap := hP
  have hl := lv_entry ([.ref mo, .int v]) (n := 2) (Nat.le_of_ble_eq_true rfl)
  rw [lg_entry_eq]
  generalize (lg_sl ([.ref mo, .int v]) ++ List.replicate (2 - (lg_sl ([.ref mo, .int v])).length) Slot.unset).toArray = ls at hl ⊢
  have hl : lv_has ls 2 [(0, .ref mo), (1, .int v)] := hl
  refine lv_aload_n hx hb dX11_region__0 rfl (lv_at hl 0 rfl) ?_
  refine lv_aload_n hx hb dX11_region__1 rfl (lv_at hl 0 rfl) ?_
  refine lv_aload_n hx hb dX11_region__2 rfl (lv_at hl 0 rfl) ?_
  refine kc_r (wr := []) (va_runV (As := []) (rest := [.ref mo, .ref mo]) ⟨hx, hb, hml, hown, hts⟩ (m_look l hfl ae D cI cJ cS cO mo vl sl _) (cwV 0 hts (gV q_1269 q_1266 q_1268 q_75 q_104) rfl rfl rfl (by decide +kernel) ⟨Nat.le_of_ble_eq_true rfl, Nat.le_of_ble_eq_true rfl⟩) ⟨Pw.blind, va_recv hK hP (ci := 12) (q0 := 0) rfl rfl, Pw.mk_call hP hK hD hS hA hG [0, 1] rfl (by decide)⟩ rfl rfl hl.1 rfl (lv_room (Nat.le_of_ble_eq_true rfl)) dX11_region__3 ⟨Nat.le_of_ble_eq_true rfl, Nat.le_of_ble_eq_true rfl⟩) hP hD hS hA [0, 1] [] rfl rfl (by decide) (by decide) (fun u_2 H locs hw hP hD hS => ?_)
  obtain ⟨k_3, fl_4, ah_5, aw_6⟩ := u_2
  have hP : va_P D vwCl [(mo, .inr (12, [.int 0, .ref vl, .ref sl])), (sl, .inr (0, [.int 0, .ref ae, .int 0])), (k_3, .inr (8, [.int (-1), .int (-1), .ref ah_5, .ref aw_6, .ref fl_4, .ref mo])), (fl_4, .inr (0, [.int 0, .ref ae, .int 0])), (ah_5, .inl (cS, 0, .inr (.inr (.inr (.inr (fun _ => none)))))), (aw_6, .inl (cI, 0, .inl (fun _ => 0)))] H := hP
  have hD : va_D A [(mo, .inr (12, [.int 0, .ref vl, .ref sl])), (sl, .inr (0, [.int 0, .ref ae, .int 0])), (k_3, .inr (8, [.int (-1), .int (-1), .ref ah_5, .ref aw_6, .ref fl_4, .ref mo])), (fl_4, .inr (0, [.int 0, .ref ae, .int 0])), (ah_5, .inl (cS, 0, .inr (.inr (.inr (.inr (fun _ => none)))))), (aw_6, .inl (cI, 0, .inl (fun _ => 0)))] := hD
  refine lv_iload_n hx hb dX11_region__6 rfl (lv_at hl 1 rfl) ?_
  refine kc_i (wr := []) (va_runV (As := [.ref k_3, .int v]) (rest := [.ref mo]) ⟨hx, hb, hml, hown, hts⟩ (m_regionOf l hfl ae D cI cJ cS cO mo vl sl k_3 fl_4 ah_5 aw_6 v _) (cwV 2 hts (gV q_1545 q_1542 q_1544 q_95 q_104) rfl rfl rfl (by decide +kernel) ⟨Nat.le_of_ble_eq_true rfl, Nat.le_of_ble_eq_true rfl⟩) ⟨Pw.blind, va_recv hK hP (ci := 12) (q0 := 0) rfl rfl, Pw.mk_call hP hK hD hS hA hG [0, 1, 2, 3, 4, 5] rfl (by decide)⟩ rfl rfl hl.1 rfl (lv_room (Nat.le_of_ble_eq_true rfl)) dX11_region__7 ⟨Nat.le_of_ble_eq_true rfl, Nat.le_of_ble_eq_true rfl⟩) hP hD hS hA [0, 1, 2, 3, 4, 5] [] rfl rfl (by decide) (by decide) (fun r_7 u_8 H locs hw hP hD hS => ?_)
  obtain rfl : r_7 = (-1) := hw
  have hP : va_P D vwCl [(mo, .inr (12, [.int 0, .ref vl, .ref sl])), (sl, .inr (0, [.int 0, .ref ae, .int 0])), (k_3, .inr (8, [.int (-1), .int (-1), .ref ah_5, .ref aw_6, .ref fl_4, .ref mo])), (fl_4, .inr (0, [.int 0, .ref ae, .int 0])), (ah_5, .inl (cS, 0, .inr (.inr (.inr (.inr (fun _ => none)))))), (aw_6, .inl (cI, 0, .inl (fun _ => 0)))] H := hP
  have hD : va_D A [(mo, .inr (12, [.int 0, .ref vl, .ref sl])), (sl, .inr (0, [.int 0, .ref ae, .int 0])), (k_3, .inr (8, [.int (-1), .int (-1), .ref ah_5, .ref aw_6, .ref fl_4, .ref mo])), (fl_4, .inr (0, [.int 0, .ref ae, .int 0])), (ah_5, .inl (cS, 0, .inr (.inr (.inr (.inr (fun _ => none)))))), (aw_6, .inl (cI, 0, .inl (fun _ => 0)))] := hD
  refine kc_i (wr := [(sl, .inr (0, [.int 0, .ref ae, .int 0])), (k_3, .inr (8, [.int (-1), .int (-1), .ref ah_5, .ref aw_6, .ref fl_4, .ref mo])), (fl_4, .inr (0, [.int 0, .ref ae, .int 0])), (ah_5, .inl (cS, 0, .inr (.inr (.inr (.inr (fun _ => none)))))), (aw_6, .inl (cI, 0, .inl (fun _ => 0)))]) (va_runV (As := [.int (-1)]) (rest := []) ⟨hx, hb, hml, hown, hts⟩ (k_plain l hfl ae D cI cJ cS cO mo vl sl 0 (-1) _) (cwV 1 hts (gV q_1253 q_1250 q_1252 q_74 q_104) rfl rfl rfl (by decide +kernel) ⟨Nat.le_of_ble_eq_true rfl, Nat.le_of_ble_eq_true rfl⟩) ⟨Pw.blind, va_recv hK hP (ci := 12) (q0 := 0) rfl rfl, Pw.mk_call hP hK hD hS hA hG [0] rfl (by decide)⟩ rfl rfl hl.1 rfl (lv_room (Nat.le_of_ble_eq_true rfl)) dX11_region__10 ⟨Nat.le_of_ble_eq_true rfl, Nat.le_of_ble_eq_true rfl⟩) hP hD hS hA [0] [1, 2, 3, 4, 5] rfl rfl (by decide) (by decide) (fun r_9 u_10 H locs hw hP hD hS => ?_)
  obtain rfl : r_9 = (-1) := hw
  have hP : va_P D vwCl [(sl, .inr (0, [.int 0, .ref ae, .int 0])), (k_3, .inr (8, [.int (-1), .int (-1), .ref ah_5, .ref aw_6, .ref fl_4, .ref mo])), (fl_4, .inr (0, [.int 0, .ref ae, .int 0])), (ah_5, .inl (cS, 0, .inr (.inr (.inr (.inr (fun _ => none)))))), (aw_6, .inl (cI, 0, .inl (fun _ => 0))), (mo, .inr (12, [.int 0, .ref vl, .ref sl]))] H := hP
  have hD : va_D A [(sl, .inr (0, [.int 0, .ref ae, .int 0])), (k_3, .inr (8, [.int (-1), .int (-1), .ref ah_5, .ref aw_6, .ref fl_4, .ref mo])), (fl_4, .inr (0, [.int 0, .ref ae, .int 0])), (ah_5, .inl (cS, 0, .inr (.inr (.inr (.inr (fun _ => none)))))), (aw_6, .inl (cI, 0, .inl (fun _ => 0))), (mo, .inr (12, [.int 0, .ref vl, .ref sl]))] := hD
  have hP := hP.sub (ws' := [(mo, .inr (12, [.int 0, .ref vl, .ref sl])), (sl, .inr (0, [.int 0, .ref ae, .int 0]))]) [5, 0] rfl
  have hD := hD.sub (ws' := [(mo, .inr (12, [.int 0, .ref vl, .ref sl])), (sl, .inr (0, [.int 0, .ref ae, .int 0]))]) [5, 0] (by decide) rfl
  exact ke_i hx hb hr (by first | rfl | decide) () (rfl) hP hD hS (Nat.le_of_ble_eq_true rfl) (Nat.le_of_ble_eq_true rfl) hlocks dX11_region__13

set_option maxHeartbeats 4000000 in
set_option maxRecDepth 100000 in
theorem m_faults (l : Launch) (hfl : l.stackTraces = false) (ae : Nat) (D : va_G) (cI cJ cS cO : ClassId) (mo : Nat) (vl : Nat) (sl : Nat) (sz : Nat)  : Met l yX11_faults (wx (.code yX11_faults cX11_faults 1 (some .int))) ({ frames := 6, cells := 4, slots := 9, locals := 116 }) (va_Pc [.ref mo] (Pw ae D vwCl [(cI, .int), (cJ, .long), (cS, .object "IronwoodModel$State"), (cO, .object "java/lang/Object")] [(mo, .inr (12, [.int 0, .ref vl, .ref sl])), (sl, .inr (0, [.int 0, .ref ae, .int 0]))] sz)) (va_Qi (fun (r : Int32) (u : Unit) => r = 0) (Bw D vwCl (fun (u : Unit) => [(mo, .inr (12, [.int 0, .ref vl, .ref sl])), (sl, .inr (0, [.int 0, .ref ae, .int 0]))]) (va_A [(mo, .inr (12, [.int 0, .ref vl, .ref sl])), (sl, .inr (0, [.int 0, .ref ae, .int 0]))] sz)) (va_A [(mo, .inr (12, [.int 0, .ref vl, .ref sl])), (sl, .inr (0, [.int 0, .ref ae, .int 0]))] sz)) 4 9 (va_A [(mo, .inr (12, [.int 0, .ref vl, .ref sl])), (sl, .inr (0, [.int 0, .ref ae, .int 0]))] sz) := by
  refine Met.ofW (cc := cX11_faults) (maxL := 1) (ret := (some .int)) (by decide) rfl ?_
  intro p e s m args below meth c s₁ B hml hv9
  obtain ⟨rfl, hsz, hP, hK, hD0, hG⟩ := hv9
  have hx := B.exec
  have hb := B.bytes
  have hr := B.returns
  have hts := atoms_spec (ws := wx (.code yX11_faults cX11_faults 1 (some .int))) B.pre
  have hown : s.vm.findClass RX11 = some m.cls := findClass_of_methodNamed B.named
  have hlocks := B.notSynchronized
  subst hsz
  have hD := hD0.self (sz := s.heap.size)
  generalize hAe : va_A [(mo, .inr (12, [.int 0, .ref vl, .ref sl])), (sl, .inr (0, [.int 0, .ref ae, .int 0]))] s.heap.size = A at hD hG ⊢
  have hA : ∀ q : Nat, s.heap.size ≤ q → A q := fun q h => by rw [← hAe]; exact Or.inr h
  have hS : va_S A s.heap s.heap [] := va_S.rf
  have hP : va_P D vwCl [(mo, .inr (12, [.int 0, .ref vl, .ref sl])), (sl, .inr (0, [.int 0, .ref ae, .int 0]))] s.heap := hP
  have hl := lv_entry ([.ref mo]) (n := 1) (Nat.le_of_ble_eq_true rfl)
  rw [lg_entry_eq]
  generalize (lg_sl ([.ref mo]) ++ List.replicate (1 - (lg_sl ([.ref mo])).length) Slot.unset).toArray = ls at hl ⊢
  have hl : lv_has ls 1 [(0, .ref mo)] := hl
  refine lv_aload_n hx hb dX11_faults_0 rfl (lv_at hl 0 rfl) ?_
  refine lv_aload_n hx hb dX11_faults_1 rfl (lv_at hl 0 rfl) ?_
  refine kc_r (wr := []) (va_runV (As := []) (rest := [.ref mo]) ⟨hx, hb, hml, hown, hts⟩ (m_look l hfl ae D cI cJ cS cO mo vl sl _) (cwV 0 hts (gV q_1269 q_1266 q_1268 q_75 q_104) rfl rfl rfl (by decide +kernel) ⟨Nat.le_of_ble_eq_true rfl, Nat.le_of_ble_eq_true rfl⟩) ⟨Pw.blind, va_recv hK hP (ci := 12) (q0 := 0) rfl rfl, Pw.mk_call hP hK hD hS hA hG [0, 1] rfl (by decide)⟩ rfl rfl hl.1 rfl (lv_room (Nat.le_of_ble_eq_true rfl)) dX11_faults_2 ⟨Nat.le_of_ble_eq_true rfl, Nat.le_of_ble_eq_true rfl⟩) hP hD hS hA [0, 1] [] rfl rfl (by decide) (by decide) (fun u_2 H locs hw hP hD hS => ?_)
  obtain ⟨k_3, fl_4, ah_5, aw_6⟩ := u_2
  have hP : va_P D vwCl [(mo, .inr (12, [.int 0, .ref vl, .ref sl])), (sl, .inr (0, [.int 0, .ref ae, .int 0])), (k_3, .inr (8, [.int (-1), .int (-1), .ref ah_5, .ref aw_6, .ref fl_4, .ref mo])), (fl_4, .inr (0, [.int 0, .ref ae, .int 0])), (ah_5, .inl (cS, 0, .inr (.inr (.inr (.inr (fun _ => none)))))), (aw_6, .inl (cI, 0, .inl (fun _ => 0)))] H := hP
  have hD : va_D A [(mo, .inr (12, [.int 0, .ref vl, .ref sl])), (sl, .inr (0, [.int 0, .ref ae, .int 0])), (k_3, .inr (8, [.int (-1), .int (-1), .ref ah_5, .ref aw_6, .ref fl_4, .ref mo])), (fl_4, .inr (0, [.int 0, .ref ae, .int 0])), (ah_5, .inl (cS, 0, .inr (.inr (.inr (.inr (fun _ => none)))))), (aw_6, .inl (cI, 0, .inl (fun _ => 0)))] := hD
  refine va_get (D := D) (ci := 8) (v := .ref fl_4) (C := RX7) (T := TX7) (N := 6) (ref := "IronwoodModel$Look") hx hb hts in_RX7 hown hK hP 2 rfl rfl 4 (by decide) (hts _ (mc q_1482)) (fun _ h9 => h9) rfl dX11_faults_5 ?_
  refine kc_i (wr := [(mo, .inr (12, [.int 0, .ref vl, .ref sl])), (sl, .inr (0, [.int 0, .ref ae, .int 0])), (k_3, .inr (8, [.int (-1), .int (-1), .ref ah_5, .ref aw_6, .ref fl_4, .ref mo])), (ah_5, .inl (cS, 0, .inr (.inr (.inr (.inr (fun _ => none)))))), (aw_6, .inl (cI, 0, .inl (fun _ => 0)))]) (va_runV (As := []) (rest := [.ref mo]) ⟨hx, hb, hml, hown, hts⟩ (k_al_size l hfl ae D cI cJ cS cO fl_4 0 ae 0 _) (cwV 0 hts (gV q_1036 q_1033 q_1034 q_1035 q_107) rfl rfl rfl (by decide +kernel) ⟨Nat.le_of_ble_eq_true rfl, Nat.le_of_ble_eq_true rfl⟩) ⟨Pw.blind, va_recv hK hP (ci := 0) (q0 := 3) rfl rfl, Pw.mk_call hP hK hD hS hA hG [3] rfl (by decide)⟩ rfl rfl hl.1 rfl (lv_room (Nat.le_of_ble_eq_true rfl)) dX11_faults_8 ⟨Nat.le_of_ble_eq_true rfl, Nat.le_of_ble_eq_true rfl⟩) hP hD hS hA [3] [0, 1, 2, 4, 5] rfl rfl (by decide) (by decide) (fun r_7 u_8 H locs hw hP hD hS => ?_)
  obtain rfl : r_7 = 0 := hw
  have hP : va_P D vwCl [(mo, .inr (12, [.int 0, .ref vl, .ref sl])), (sl, .inr (0, [.int 0, .ref ae, .int 0])), (k_3, .inr (8, [.int (-1), .int (-1), .ref ah_5, .ref aw_6, .ref fl_4, .ref mo])), (ah_5, .inl (cS, 0, .inr (.inr (.inr (.inr (fun _ => none)))))), (aw_6, .inl (cI, 0, .inl (fun _ => 0))), (fl_4, .inr (0, [.int 0, .ref ae, .int 0]))] H := hP
  have hD : va_D A [(mo, .inr (12, [.int 0, .ref vl, .ref sl])), (sl, .inr (0, [.int 0, .ref ae, .int 0])), (k_3, .inr (8, [.int (-1), .int (-1), .ref ah_5, .ref aw_6, .ref fl_4, .ref mo])), (ah_5, .inl (cS, 0, .inr (.inr (.inr (.inr (fun _ => none)))))), (aw_6, .inl (cI, 0, .inl (fun _ => 0))), (fl_4, .inr (0, [.int 0, .ref ae, .int 0]))] := hD
  refine kc_i (wr := [(sl, .inr (0, [.int 0, .ref ae, .int 0])), (k_3, .inr (8, [.int (-1), .int (-1), .ref ah_5, .ref aw_6, .ref fl_4, .ref mo])), (ah_5, .inl (cS, 0, .inr (.inr (.inr (.inr (fun _ => none)))))), (aw_6, .inl (cI, 0, .inl (fun _ => 0))), (fl_4, .inr (0, [.int 0, .ref ae, .int 0]))]) (va_runV (As := [.int 0]) (rest := []) ⟨hx, hb, hml, hown, hts⟩ (k_plain l hfl ae D cI cJ cS cO mo vl sl 0 0 _) (cwV 1 hts (gV q_1253 q_1250 q_1252 q_74 q_104) rfl rfl rfl (by decide +kernel) ⟨Nat.le_of_ble_eq_true rfl, Nat.le_of_ble_eq_true rfl⟩) ⟨Pw.blind, va_recv hK hP (ci := 12) (q0 := 0) rfl rfl, Pw.mk_call hP hK hD hS hA hG [0] rfl (by decide)⟩ rfl rfl hl.1 rfl (lv_room (Nat.le_of_ble_eq_true rfl)) dX11_faults_11 ⟨Nat.le_of_ble_eq_true rfl, Nat.le_of_ble_eq_true rfl⟩) hP hD hS hA [0] [1, 2, 3, 4, 5] rfl rfl (by decide) (by decide) (fun r_9 u_10 H locs hw hP hD hS => ?_)
  obtain rfl : r_9 = 0 := hw
  have hP : va_P D vwCl [(sl, .inr (0, [.int 0, .ref ae, .int 0])), (k_3, .inr (8, [.int (-1), .int (-1), .ref ah_5, .ref aw_6, .ref fl_4, .ref mo])), (ah_5, .inl (cS, 0, .inr (.inr (.inr (.inr (fun _ => none)))))), (aw_6, .inl (cI, 0, .inl (fun _ => 0))), (fl_4, .inr (0, [.int 0, .ref ae, .int 0])), (mo, .inr (12, [.int 0, .ref vl, .ref sl]))] H := hP
  have hD : va_D A [(sl, .inr (0, [.int 0, .ref ae, .int 0])), (k_3, .inr (8, [.int (-1), .int (-1), .ref ah_5, .ref aw_6, .ref fl_4, .ref mo])), (ah_5, .inl (cS, 0, .inr (.inr (.inr (.inr (fun _ => none)))))), (aw_6, .inl (cI, 0, .inl (fun _ => 0))), (fl_4, .inr (0, [.int 0, .ref ae, .int 0])), (mo, .inr (12, [.int 0, .ref vl, .ref sl]))] := hD
  have hP := hP.sub (ws' := [(mo, .inr (12, [.int 0, .ref vl, .ref sl])), (sl, .inr (0, [.int 0, .ref ae, .int 0]))]) [5, 0] rfl
  have hD := hD.sub (ws' := [(mo, .inr (12, [.int 0, .ref vl, .ref sl])), (sl, .inr (0, [.int 0, .ref ae, .int 0]))]) [5, 0] (by decide) rfl
  exact ke_i hx hb hr (by first | rfl | decide) () (rfl) hP hD hS (Nat.le_of_ble_eq_true rfl) (Nat.le_of_ble_eq_true rfl) hlocks dX11_faults_14

set_option maxHeartbeats 4000000 in
set_option maxRecDepth 100000 in
theorem m_ofFault_x (l : Launch) (hfl : l.stackTraces = false) (ae : Nat) (D : va_G) (cI cJ cS cO : ClassId) (mo : Nat) (vl : Nat) (sl : Nat) (v : Int32) (w : Int32) (sz : Nat)  : Met l yX11_ofFault (wx (.code yX11_ofFault cX11_ofFault 4 (some .int))) ({ frames := 6, cells := 4, slots := 9, locals := 116 }) (va_Pc [.ref mo, .int v, .int w] (Pw ae D vwCl [(cI, .int), (cJ, .long), (cS, .object "IronwoodModel$State"), (cO, .object "java/lang/Object")] [(mo, .inr (12, [.int 0, .ref vl, .ref sl])), (sl, .inr (0, [.int 0, .ref ae, .int 0]))] sz)) (va_Qi (fun (r : Int32) (u : Unit) => r = 0) (Bw D vwCl (fun (u : Unit) => [(mo, .inr (12, [.int 1, .ref vl, .ref sl])), (sl, .inr (0, [.int 0, .ref ae, .int 0]))]) (va_A [(mo, .inr (12, [.int 0, .ref vl, .ref sl])), (sl, .inr (0, [.int 0, .ref ae, .int 0]))] sz)) (va_A [(mo, .inr (12, [.int 0, .ref vl, .ref sl])), (sl, .inr (0, [.int 0, .ref ae, .int 0]))] sz)) 4 9 (va_A [(mo, .inr (12, [.int 0, .ref vl, .ref sl])), (sl, .inr (0, [.int 0, .ref ae, .int 0]))] sz) := by
  refine Met.ofW (cc := cX11_ofFault) (maxL := 4) (ret := (some .int)) (by decide) rfl ?_
  intro p e s m args below meth c s₁ B hml hv9
  obtain ⟨rfl, hsz, hP, hK, hD0, hG⟩ := hv9
  have hx := B.exec
  have hb := B.bytes
  have hr := B.returns
  have hts := atoms_spec (ws := wx (.code yX11_ofFault cX11_ofFault 4 (some .int))) B.pre
  have hown : s.vm.findClass RX11 = some m.cls := findClass_of_methodNamed B.named
  have hlocks := B.notSynchronized
  subst hsz
  have hD := hD0.self (sz := s.heap.size)
  generalize hAe : va_A [(mo, .inr (12, [.int 0, .ref vl, .ref sl])), (sl, .inr (0, [.int 0, .ref ae, .int 0]))] s.heap.size = A at hD hG ⊢
  have hA : ∀ q : Nat, s.heap.size ≤ q → A q := fun q h => by rw [← hAe]; exact Or.inr h
  have hS : va_S A s.heap s.heap [] := va_S.rf
  have hP : va_P D vwCl [(mo, .inr (12, [.int 0, .ref vl, .ref sl])), (sl, .inr (0, [.int 0, .ref ae, .int 0]))] s.heap := hP
  have hl := lv_entry ([.ref mo, .int v, .int w]) (n := 4) (Nat.le_of_ble_eq_true rfl)
  rw [lg_entry_eq]
  generalize (lg_sl ([.ref mo, .int v, .int w]) ++ List.replicate (4 - (lg_sl ([.ref mo, .int v, .int w])).length) Slot.unset).toArray = ls at hl ⊢
  have hl : lv_has ls 4 [(0, .ref mo), (1, .int v), (2, .int w)] := hl
  refine lv_aload_n hx hb dX11_ofFault_0 rfl (lv_at hl 0 rfl) ?_
  refine lv_iconst (v := 0) hx hb dX11_ofFault_1 (by decide) ?_
  refine va_put (D := D) (ci := 12) (v := .int 0) (ty := .int) (C := RX11) (T := TX11) (N := 3) (ref := "IronwoodModel") hx hb hts in_RX11 tyX11 tyX11_ok nmX11 hown hK hP hD hS 0 rfl rfl 0 (by decide) (hts _ (mc q_1002)) (fun _ h9 => h9) rfl (by decide +kernel) rfl rfl (Nat.le_of_ble_eq_true rfl) dX11_ofFault_2 (fun H locs hP hD hS => ?_)
  have hP : va_P D vwCl [(mo, .inr (12, [.int 0, .ref vl, .ref sl])), (sl, .inr (0, [.int 0, .ref ae, .int 0]))] H := hP
  have hD : va_D A [(mo, .inr (12, [.int 0, .ref vl, .ref sl])), (sl, .inr (0, [.int 0, .ref ae, .int 0]))] := hD
  refine lv_aload_n hx hb dX11_ofFault_5 rfl (lv_at hl 0 rfl) ?_
  refine kc_r (wr := []) (va_runV (As := []) (rest := []) ⟨hx, hb, hml, hown, hts⟩ (m_look l hfl ae D cI cJ cS cO mo vl sl _) (cwV 0 hts (gV q_1269 q_1266 q_1268 q_75 q_104) rfl rfl rfl (by decide +kernel) ⟨Nat.le_of_ble_eq_true rfl, Nat.le_of_ble_eq_true rfl⟩) ⟨Pw.blind, va_recv hK hP (ci := 12) (q0 := 0) rfl rfl, Pw.mk_call hP hK hD hS hA hG [0, 1] rfl (by decide)⟩ rfl rfl hl.1 rfl (lv_room (Nat.le_of_ble_eq_true rfl)) dX11_ofFault_6 ⟨Nat.le_of_ble_eq_true rfl, Nat.le_of_ble_eq_true rfl⟩) hP hD hS hA [0, 1] [] rfl rfl (by decide) (by decide) (fun u_2 H locs hw hP hD hS => ?_)
  obtain ⟨k_3, fl_4, ah_5, aw_6⟩ := u_2
  have hP : va_P D vwCl [(mo, .inr (12, [.int 0, .ref vl, .ref sl])), (sl, .inr (0, [.int 0, .ref ae, .int 0])), (k_3, .inr (8, [.int (-1), .int (-1), .ref ah_5, .ref aw_6, .ref fl_4, .ref mo])), (fl_4, .inr (0, [.int 0, .ref ae, .int 0])), (ah_5, .inl (cS, 0, .inr (.inr (.inr (.inr (fun _ => none)))))), (aw_6, .inl (cI, 0, .inl (fun _ => 0)))] H := hP
  have hD : va_D A [(mo, .inr (12, [.int 0, .ref vl, .ref sl])), (sl, .inr (0, [.int 0, .ref ae, .int 0])), (k_3, .inr (8, [.int (-1), .int (-1), .ref ah_5, .ref aw_6, .ref fl_4, .ref mo])), (fl_4, .inr (0, [.int 0, .ref ae, .int 0])), (ah_5, .inl (cS, 0, .inr (.inr (.inr (.inr (fun _ => none)))))), (aw_6, .inl (cI, 0, .inl (fun _ => 0)))] := hD
  refine va_get (D := D) (ci := 8) (v := .ref fl_4) (C := RX7) (T := TX7) (N := 6) (ref := "IronwoodModel$Look") hx hb hts in_RX7 hown hK hP 2 rfl rfl 4 (by decide) (hts _ (mc q_1482)) (fun _ h9 => h9) rfl dX11_ofFault_9 ?_
  refine lv_astore_n (lv' := [(3, .ref fl_4), (0, .ref mo), (1, .int v), (2, .int w)]) hx hb dX11_ofFault_12 rfl hl (by decide) rfl (fun ls hl => ?_)
  refine lv_aload_n hx hb dX11_ofFault_13 rfl (lv_at hl 1 rfl) ?_
  refine lv_iload_n hx hb dX11_ofFault_14 rfl (lv_at hl 2 rfl) ?_
  refine lv_iconst (v := 0) hx hb dX11_ofFault_15 (by decide) ?_
  refine lv_aload_n hx hb dX11_ofFault_16 rfl (lv_at hl 0 rfl) ?_
  refine kc_i (wr := [(mo, .inr (12, [.int 0, .ref vl, .ref sl])), (sl, .inr (0, [.int 0, .ref ae, .int 0])), (k_3, .inr (8, [.int (-1), .int (-1), .ref ah_5, .ref aw_6, .ref fl_4, .ref mo])), (ah_5, .inl (cS, 0, .inr (.inr (.inr (.inr (fun _ => none)))))), (aw_6, .inl (cI, 0, .inl (fun _ => 0)))]) (va_runV (As := []) (rest := [.int 0, .int v, .ref mo]) ⟨hx, hb, hml, hown, hts⟩ (k_al_size l hfl ae D cI cJ cS cO fl_4 0 ae 0 _) (cwV 0 hts (gV q_1036 q_1033 q_1034 q_1035 q_107) rfl rfl rfl (by decide +kernel) ⟨Nat.le_of_ble_eq_true rfl, Nat.le_of_ble_eq_true rfl⟩) ⟨Pw.blind, va_recv hK hP (ci := 0) (q0 := 3) rfl rfl, Pw.mk_call hP hK hD hS hA hG [3] rfl (by decide)⟩ rfl rfl hl.1 rfl (lv_room (Nat.le_of_ble_eq_true rfl)) dX11_ofFault_17 ⟨Nat.le_of_ble_eq_true rfl, Nat.le_of_ble_eq_true rfl⟩) hP hD hS hA [3] [0, 1, 2, 4, 5] rfl rfl (by decide) (by decide) (fun r_7 u_8 H locs hw hP hD hS => ?_)
  obtain rfl : r_7 = 0 := hw
  have hP : va_P D vwCl [(mo, .inr (12, [.int 0, .ref vl, .ref sl])), (sl, .inr (0, [.int 0, .ref ae, .int 0])), (k_3, .inr (8, [.int (-1), .int (-1), .ref ah_5, .ref aw_6, .ref fl_4, .ref mo])), (ah_5, .inl (cS, 0, .inr (.inr (.inr (.inr (fun _ => none)))))), (aw_6, .inl (cI, 0, .inl (fun _ => 0))), (fl_4, .inr (0, [.int 0, .ref ae, .int 0]))] H := hP
  have hD : va_D A [(mo, .inr (12, [.int 0, .ref vl, .ref sl])), (sl, .inr (0, [.int 0, .ref ae, .int 0])), (k_3, .inr (8, [.int (-1), .int (-1), .ref ah_5, .ref aw_6, .ref fl_4, .ref mo])), (ah_5, .inl (cS, 0, .inr (.inr (.inr (.inr (fun _ => none)))))), (aw_6, .inl (cI, 0, .inl (fun _ => 0))), (fl_4, .inr (0, [.int 0, .ref ae, .int 0]))] := hD
  refine lv_iconst (v := 1) hx hb dX11_ofFault_20 (by decide) ?_
  refine lv_isub hx hb dX11_ofFault_21 ?_
  refine lv_topi (fun x_9 ex_9 => ?_)
  obtain rfl : x_9 = (-1) := ex_9.trans (by decide)
  refine kc_i (wr := [(mo, .inr (12, [.int 0, .ref vl, .ref sl])), (sl, .inr (0, [.int 0, .ref ae, .int 0])), (k_3, .inr (8, [.int (-1), .int (-1), .ref ah_5, .ref aw_6, .ref fl_4, .ref mo])), (ah_5, .inl (cS, 0, .inr (.inr (.inr (.inr (fun _ => none)))))), (aw_6, .inl (cI, 0, .inl (fun _ => 0))), (fl_4, .inr (0, [.int 0, .ref ae, .int 0]))]) (va_runS (As := [.int v, .int 0, .int (-1)]) (rest := [.ref mo]) ⟨hx, hb, hml, hown, hts⟩ (k_isIn_n l hfl ae D cI cJ cS cO v 0 (-1) _ (k_no v)) (cwS 3 hts (gS q_1024 q_1022 q_1023 q_104) rfl rfl rfl (by decide +kernel) ⟨Nat.le_of_ble_eq_true rfl, Nat.le_of_ble_eq_true rfl⟩) ⟨Pw.blind, Pw.mk_call hP hK hD hS hA hG [] rfl (by decide)⟩ rfl rfl hl.1 rfl (lv_room (Nat.le_of_ble_eq_true rfl)) dX11_ofFault_22 ⟨Nat.le_of_ble_eq_true rfl, Nat.le_of_ble_eq_true rfl⟩) hP hD hS hA [] [0, 1, 2, 3, 4, 5] rfl rfl (by decide) (by decide) (fun r_10 u_11 H locs hw hP hD hS => ?_)
  obtain rfl : r_10 = 0 := hw
  have hP : va_P D vwCl [(mo, .inr (12, [.int 0, .ref vl, .ref sl])), (sl, .inr (0, [.int 0, .ref ae, .int 0])), (k_3, .inr (8, [.int (-1), .int (-1), .ref ah_5, .ref aw_6, .ref fl_4, .ref mo])), (ah_5, .inl (cS, 0, .inr (.inr (.inr (.inr (fun _ => none)))))), (aw_6, .inl (cI, 0, .inl (fun _ => 0))), (fl_4, .inr (0, [.int 0, .ref ae, .int 0]))] H := hP
  have hD : va_D A [(mo, .inr (12, [.int 0, .ref vl, .ref sl])), (sl, .inr (0, [.int 0, .ref ae, .int 0])), (k_3, .inr (8, [.int (-1), .int (-1), .ref ah_5, .ref aw_6, .ref fl_4, .ref mo])), (ah_5, .inl (cS, 0, .inr (.inr (.inr (.inr (fun _ => none)))))), (aw_6, .inl (cI, 0, .inl (fun _ => 0))), (fl_4, .inr (0, [.int 0, .ref ae, .int 0]))] := hD
  refine lv_if_ne (tgt := 32) hx hb dX11_ofFault_25 (by decide) (fun c_25 => absurd (by decide) c_25) (fun c_25 => ?_)
  refine lv_iconst (v := 1) hx hb dX11_ofFault_28 (by decide) ?_
  refine lv_goto (tgt := 33) hx hb dX11_ofFault_29 (by decide) ?_
  refine lv_iconst (v := 1) hx hb dX11_ofFault_33 (by decide) ?_
  refine kc_i (wr := [(sl, .inr (0, [.int 0, .ref ae, .int 0])), (k_3, .inr (8, [.int (-1), .int (-1), .ref ah_5, .ref aw_6, .ref fl_4, .ref mo])), (ah_5, .inl (cS, 0, .inr (.inr (.inr (.inr (fun _ => none)))))), (aw_6, .inl (cI, 0, .inl (fun _ => 0))), (fl_4, .inr (0, [.int 0, .ref ae, .int 0]))]) (va_runV (As := [.int 1, .int 1]) (rest := []) ⟨hx, hb, hml, hown, hts⟩ (k_refuse_1 l hfl ae D cI cJ cS cO mo vl sl 1 _ (by decide)) (cwV 2 hts (gV q_1032 q_1029 q_1031 q_64 q_104) rfl rfl rfl (by decide +kernel) ⟨Nat.le_of_ble_eq_true rfl, Nat.le_of_ble_eq_true rfl⟩) ⟨Pw.blind, va_recv hK hP (ci := 12) (q0 := 0) rfl rfl, Pw.mk_call hP hK hD hS hA hG [0] rfl (by decide)⟩ rfl rfl hl.1 rfl (lv_room (Nat.le_of_ble_eq_true rfl)) dX11_ofFault_34 ⟨Nat.le_of_ble_eq_true rfl, Nat.le_of_ble_eq_true rfl⟩) hP hD hS hA [0] [1, 2, 3, 4, 5] rfl rfl (by decide) (by decide) (fun r_12 u_13 H locs hw hP hD hS => ?_)
  obtain rfl : r_12 = 1 := hw
  have hP : va_P D vwCl [(sl, .inr (0, [.int 0, .ref ae, .int 0])), (k_3, .inr (8, [.int (-1), .int (-1), .ref ah_5, .ref aw_6, .ref fl_4, .ref mo])), (ah_5, .inl (cS, 0, .inr (.inr (.inr (.inr (fun _ => none)))))), (aw_6, .inl (cI, 0, .inl (fun _ => 0))), (fl_4, .inr (0, [.int 0, .ref ae, .int 0])), (mo, .inr (12, [.int 1, .ref vl, .ref sl]))] H := hP
  have hD : va_D A [(sl, .inr (0, [.int 0, .ref ae, .int 0])), (k_3, .inr (8, [.int (-1), .int (-1), .ref ah_5, .ref aw_6, .ref fl_4, .ref mo])), (ah_5, .inl (cS, 0, .inr (.inr (.inr (.inr (fun _ => none)))))), (aw_6, .inl (cI, 0, .inl (fun _ => 0))), (fl_4, .inr (0, [.int 0, .ref ae, .int 0])), (mo, .inr (12, [.int 1, .ref vl, .ref sl]))] := hD
  refine lv_if_ne (tgt := 63) hx hb dX11_ofFault_37 (by decide) (fun c_37 => ?_) (fun c_37 => absurd c_37 (by decide))
  refine lv_iconst (v := 0) hx hb dX11_ofFault_63 (by decide) ?_
  refine lv_goto (tgt := 77) hx hb dX11_ofFault_64 (by decide) ?_
  have hP := hP.sub (ws' := [(mo, .inr (12, [.int 1, .ref vl, .ref sl])), (sl, .inr (0, [.int 0, .ref ae, .int 0]))]) [5, 0] rfl
  have hD := hD.sub (ws' := [(mo, .inr (12, [.int 1, .ref vl, .ref sl])), (sl, .inr (0, [.int 0, .ref ae, .int 0]))]) [5, 0] (by decide) rfl
  exact ke_i hx hb hr (by first | rfl | decide) () (rfl) hP hD hS (Nat.le_of_ble_eq_true rfl) (Nat.le_of_ble_eq_true rfl) hlocks dX11_ofFault_77

set_option maxHeartbeats 4000000 in
set_option maxRecDepth 100000 in
theorem m_faultsOf (l : Launch) (hfl : l.stackTraces = false) (ae : Nat) (D : va_G) (cI cJ cS cO : ClassId) (mo : Nat) (vl : Nat) (sl : Nat) (v : Int32) (sz : Nat) (hv : 1 ≤ v ∧ v ≤ 6) : Met l yX11_faultsOf (wx (.code yX11_faultsOf cX11_faultsOf 2 (some .int))) ({ frames := 6, cells := 4, slots := 9, locals := 116 }) (va_Pc [.ref mo, .int v] (Pw ae D vwCl [(cI, .int), (cJ, .long), (cS, .object "IronwoodModel$State"), (cO, .object "java/lang/Object")] [(mo, .inr (12, [.int 0, .ref vl, .ref sl])), (sl, .inr (0, [.int 0, .ref ae, .int 0]))] sz)) (va_Qi (fun (r : Int32) (u : Unit) => r = 0) (Bw D vwCl (fun (u : Unit) => [(mo, .inr (12, [.int 0, .ref vl, .ref sl])), (sl, .inr (0, [.int 0, .ref ae, .int 0]))]) (va_A [(mo, .inr (12, [.int 0, .ref vl, .ref sl])), (sl, .inr (0, [.int 0, .ref ae, .int 0]))] sz)) (va_A [(mo, .inr (12, [.int 0, .ref vl, .ref sl])), (sl, .inr (0, [.int 0, .ref ae, .int 0]))] sz)) 4 9 (va_A [(mo, .inr (12, [.int 0, .ref vl, .ref sl])), (sl, .inr (0, [.int 0, .ref ae, .int 0]))] sz) := by
  refine Met.ofW (cc := cX11_faultsOf) (maxL := 2) (ret := (some .int)) (by decide) rfl ?_
  intro p e s m args below meth c s₁ B hml hv9
  obtain ⟨rfl, hsz, hP, hK, hD0, hG⟩ := hv9
  have hx := B.exec
  have hb := B.bytes
  have hr := B.returns
  have hts := atoms_spec (ws := wx (.code yX11_faultsOf cX11_faultsOf 2 (some .int))) B.pre
  have hown : s.vm.findClass RX11 = some m.cls := findClass_of_methodNamed B.named
  have hlocks := B.notSynchronized
  subst hsz
  have hD := hD0.self (sz := s.heap.size)
  generalize hAe : va_A [(mo, .inr (12, [.int 0, .ref vl, .ref sl])), (sl, .inr (0, [.int 0, .ref ae, .int 0]))] s.heap.size = A at hD hG ⊢
  have hA : ∀ q : Nat, s.heap.size ≤ q → A q := fun q h => by rw [← hAe]; exact Or.inr h
  have hS : va_S A s.heap s.heap [] := va_S.rf
  have hP : va_P D vwCl [(mo, .inr (12, [.int 0, .ref vl, .ref sl])), (sl, .inr (0, [.int 0, .ref ae, .int 0]))] s.heap := hP
  have hl := lv_entry ([.ref mo, .int v]) (n := 2) (Nat.le_of_ble_eq_true rfl)
  rw [lg_entry_eq]
  generalize (lg_sl ([.ref mo, .int v]) ++ List.replicate (2 - (lg_sl ([.ref mo, .int v])).length) Slot.unset).toArray = ls at hl ⊢
  have hl : lv_has ls 2 [(0, .ref mo), (1, .int v)] := hl
  refine lv_aload_n hx hb dX11_faultsOf_0 rfl (lv_at hl 0 rfl) ?_
  refine lv_iload_n hx hb dX11_faultsOf_1 rfl (lv_at hl 1 rfl) ?_
  refine lv_iconst (v := 1) hx hb dX11_faultsOf_2 (by decide) ?_
  refine lv_bipush (v := 6) hx hb dX11_faultsOf_3 (by decide) ?_
  refine kc_i (wr := [(mo, .inr (12, [.int 0, .ref vl, .ref sl])), (sl, .inr (0, [.int 0, .ref ae, .int 0]))]) (va_runS (As := [.int v, .int 1, .int 6]) (rest := [.ref mo]) ⟨hx, hb, hml, hown, hts⟩ (k_isIn_y l hfl ae D cI cJ cS cO v 1 6 _ hv) (cwS 3 hts (gS q_1024 q_1022 q_1023 q_104) rfl rfl rfl (by decide +kernel) ⟨Nat.le_of_ble_eq_true rfl, Nat.le_of_ble_eq_true rfl⟩) ⟨Pw.blind, Pw.mk_call hP hK hD hS hA hG [] rfl (by decide)⟩ rfl rfl hl.1 rfl (lv_room (Nat.le_of_ble_eq_true rfl)) dX11_faultsOf_5 ⟨Nat.le_of_ble_eq_true rfl, Nat.le_of_ble_eq_true rfl⟩) hP hD hS hA [] [0, 1] rfl rfl (by decide) (by decide) (fun r_1 u_2 H locs hw hP hD hS => ?_)
  obtain rfl : r_1 = 1 := hw
  have hP : va_P D vwCl [(mo, .inr (12, [.int 0, .ref vl, .ref sl])), (sl, .inr (0, [.int 0, .ref ae, .int 0]))] H := hP
  have hD : va_D A [(mo, .inr (12, [.int 0, .ref vl, .ref sl])), (sl, .inr (0, [.int 0, .ref ae, .int 0]))] := hD
  refine lv_if_ne (tgt := 15) hx hb dX11_faultsOf_8 (by decide) (fun c_8 => ?_) (fun c_8 => absurd c_8 (by decide))
  refine lv_iconst (v := 0) hx hb dX11_faultsOf_15 (by decide) ?_
  refine lv_iconst (v := 1) hx hb dX11_faultsOf_16 (by decide) ?_
  refine kc_i (wr := [(sl, .inr (0, [.int 0, .ref ae, .int 0]))]) (va_runV (As := [.int 0, .int 1]) (rest := []) ⟨hx, hb, hml, hown, hts⟩ (k_start_0 l hfl ae D cI cJ cS cO mo vl sl 0 1 _) (cwV 2 hts (gV q_1028 q_1025 q_1027 q_63 q_104) rfl rfl rfl (by decide +kernel) ⟨Nat.le_of_ble_eq_true rfl, Nat.le_of_ble_eq_true rfl⟩) ⟨Pw.blind, va_recv hK hP (ci := 12) (q0 := 0) rfl rfl, Pw.mk_call hP hK hD hS hA hG [0] rfl (by decide)⟩ rfl rfl hl.1 rfl (lv_room (Nat.le_of_ble_eq_true rfl)) dX11_faultsOf_17 ⟨Nat.le_of_ble_eq_true rfl, Nat.le_of_ble_eq_true rfl⟩) hP hD hS hA [0] [1] rfl rfl (by decide) (by decide) (fun r_3 u_4 H locs hw hP hD hS => ?_)
  obtain rfl : r_3 = 0 := hw
  have hP : va_P D vwCl [(sl, .inr (0, [.int 0, .ref ae, .int 0])), (mo, .inr (12, [.int 0, .ref vl, .ref sl]))] H := hP
  have hD : va_D A [(sl, .inr (0, [.int 0, .ref ae, .int 0])), (mo, .inr (12, [.int 0, .ref vl, .ref sl]))] := hD
  refine lv_if_eq (tgt := 27) hx hb dX11_faultsOf_20 (by decide) (fun c_20 => ?_) (fun c_20 => absurd (by decide) c_20)
  refine lv_aload_n hx hb dX11_faultsOf_27 rfl (lv_at hl 0 rfl) ?_
  refine kc_r (wr := []) (va_runV (As := []) (rest := []) ⟨hx, hb, hml, hown, hts⟩ (m_look l hfl ae D cI cJ cS cO mo vl sl _) (cwV 0 hts (gV q_1269 q_1266 q_1268 q_75 q_104) rfl rfl rfl (by decide +kernel) ⟨Nat.le_of_ble_eq_true rfl, Nat.le_of_ble_eq_true rfl⟩) ⟨Pw.blind, va_recv hK hP (ci := 12) (q0 := 1) rfl rfl, Pw.mk_call hP hK hD hS hA hG [1, 0] rfl (by decide)⟩ rfl rfl hl.1 rfl (lv_room (Nat.le_of_ble_eq_true rfl)) dX11_faultsOf_28 ⟨Nat.le_of_ble_eq_true rfl, Nat.le_of_ble_eq_true rfl⟩) hP hD hS hA [1, 0] [] rfl rfl (by decide) (by decide) (fun u_6 H locs hw hP hD hS => ?_)
  obtain ⟨k_7, fl_8, ah_9, aw_10⟩ := u_6
  have hP : va_P D vwCl [(mo, .inr (12, [.int 0, .ref vl, .ref sl])), (sl, .inr (0, [.int 0, .ref ae, .int 0])), (k_7, .inr (8, [.int (-1), .int (-1), .ref ah_9, .ref aw_10, .ref fl_8, .ref mo])), (fl_8, .inr (0, [.int 0, .ref ae, .int 0])), (ah_9, .inl (cS, 0, .inr (.inr (.inr (.inr (fun _ => none)))))), (aw_10, .inl (cI, 0, .inl (fun _ => 0)))] H := hP
  have hD : va_D A [(mo, .inr (12, [.int 0, .ref vl, .ref sl])), (sl, .inr (0, [.int 0, .ref ae, .int 0])), (k_7, .inr (8, [.int (-1), .int (-1), .ref ah_9, .ref aw_10, .ref fl_8, .ref mo])), (fl_8, .inr (0, [.int 0, .ref ae, .int 0])), (ah_9, .inl (cS, 0, .inr (.inr (.inr (.inr (fun _ => none)))))), (aw_10, .inl (cI, 0, .inl (fun _ => 0)))] := hD
  refine va_get (D := D) (ci := 8) (v := .ref fl_8) (C := RX7) (T := TX7) (N := 6) (ref := "IronwoodModel$Look") hx hb hts in_RX7 hown hK hP 2 rfl rfl 4 (by decide) (hts _ (mc q_1482)) (fun _ h9 => h9) rfl dX11_faultsOf_31 ?_
  refine lv_iconst (v := 1) hx hb dX11_faultsOf_34 (by decide) ?_
  refine lv_iload_n hx hb dX11_faultsOf_35 rfl (lv_at hl 1 rfl) ?_
  refine kc_i (wr := [(mo, .inr (12, [.int 0, .ref vl, .ref sl])), (sl, .inr (0, [.int 0, .ref ae, .int 0])), (k_7, .inr (8, [.int (-1), .int (-1), .ref ah_9, .ref aw_10, .ref fl_8, .ref mo])), (ah_9, .inl (cS, 0, .inr (.inr (.inr (.inr (fun _ => none)))))), (aw_10, .inl (cI, 0, .inl (fun _ => 0)))]) (va_runS (As := [.ref fl_8, .int 1, .int v]) (rest := []) ⟨hx, hb, hml, hown, hts⟩ (m_manyOf l hfl ae D cI cJ cS cO fl_8 1 v _) (cwS 3 hts (gS q_1561 q_1559 q_1560 q_104) rfl rfl rfl (by decide +kernel) ⟨Nat.le_of_ble_eq_true rfl, Nat.le_of_ble_eq_true rfl⟩) ⟨Pw.blind, Pw.mk_call hP hK hD hS hA hG [3] rfl (by decide)⟩ rfl rfl hl.1 rfl (lv_room (Nat.le_of_ble_eq_true rfl)) dX11_faultsOf_36 ⟨Nat.le_of_ble_eq_true rfl, Nat.le_of_ble_eq_true rfl⟩) hP hD hS hA [3] [0, 1, 2, 4, 5] rfl rfl (by decide) (by decide) (fun r_11 u_12 H locs hw hP hD hS => ?_)
  obtain rfl : r_11 = 0 := hw
  have hP : va_P D vwCl [(mo, .inr (12, [.int 0, .ref vl, .ref sl])), (sl, .inr (0, [.int 0, .ref ae, .int 0])), (k_7, .inr (8, [.int (-1), .int (-1), .ref ah_9, .ref aw_10, .ref fl_8, .ref mo])), (ah_9, .inl (cS, 0, .inr (.inr (.inr (.inr (fun _ => none)))))), (aw_10, .inl (cI, 0, .inl (fun _ => 0))), (fl_8, .inr (0, [.int 0, .ref ae, .int 0]))] H := hP
  have hD : va_D A [(mo, .inr (12, [.int 0, .ref vl, .ref sl])), (sl, .inr (0, [.int 0, .ref ae, .int 0])), (k_7, .inr (8, [.int (-1), .int (-1), .ref ah_9, .ref aw_10, .ref fl_8, .ref mo])), (ah_9, .inl (cS, 0, .inr (.inr (.inr (.inr (fun _ => none)))))), (aw_10, .inl (cI, 0, .inl (fun _ => 0))), (fl_8, .inr (0, [.int 0, .ref ae, .int 0]))] := hD
  have hP := hP.sub (ws' := [(mo, .inr (12, [.int 0, .ref vl, .ref sl])), (sl, .inr (0, [.int 0, .ref ae, .int 0]))]) [0, 1] rfl
  have hD := hD.sub (ws' := [(mo, .inr (12, [.int 0, .ref vl, .ref sl])), (sl, .inr (0, [.int 0, .ref ae, .int 0]))]) [0, 1] (by decide) rfl
  exact ke_i hx hb hr (by first | rfl | decide) () (rfl) hP hD hS (Nat.le_of_ble_eq_true rfl) (Nat.le_of_ble_eq_true rfl) hlocks dX11_faultsOf_39

set_option maxHeartbeats 4000000 in
set_option maxRecDepth 100000 in
theorem m_faultsOf_x (l : Launch) (hfl : l.stackTraces = false) (ae : Nat) (D : va_G) (cI cJ cS cO : ClassId) (mo : Nat) (vl : Nat) (sl : Nat) (v : Int32) (sz : Nat) (hv : ¬ (1 ≤ v ∧ v ≤ 6)) : Met l yX11_faultsOf (wx (.code yX11_faultsOf cX11_faultsOf 2 (some .int))) ({ frames := 2, cells := 0, slots := 0, locals := 44 }) (va_Pc [.ref mo, .int v] (Pw ae D vwCl [(cI, .int), (cJ, .long), (cS, .object "IronwoodModel$State"), (cO, .object "java/lang/Object")] [(mo, .inr (12, [.int 0, .ref vl, .ref sl])), (sl, .inr (0, [.int 0, .ref ae, .int 0]))] sz)) (va_Qi (fun (r : Int32) (u : Unit) => r = 0) (Bw D vwCl (fun (u : Unit) => [(mo, .inr (12, [.int 1, .ref vl, .ref sl])), (sl, .inr (0, [.int 0, .ref ae, .int 0]))]) (va_A [(mo, .inr (12, [.int 0, .ref vl, .ref sl])), (sl, .inr (0, [.int 0, .ref ae, .int 0]))] sz)) (va_A [(mo, .inr (12, [.int 0, .ref vl, .ref sl])), (sl, .inr (0, [.int 0, .ref ae, .int 0]))] sz)) 0 0 (va_A [(mo, .inr (12, [.int 0, .ref vl, .ref sl])), (sl, .inr (0, [.int 0, .ref ae, .int 0]))] sz) := by
  refine Met.ofW (cc := cX11_faultsOf) (maxL := 2) (ret := (some .int)) (by decide) rfl ?_
  intro p e s m args below meth c s₁ B hml hv9
  obtain ⟨rfl, hsz, hP, hK, hD0, hG⟩ := hv9
  have hx := B.exec
  have hb := B.bytes
  have hr := B.returns
  have hts := atoms_spec (ws := wx (.code yX11_faultsOf cX11_faultsOf 2 (some .int))) B.pre
  have hown : s.vm.findClass RX11 = some m.cls := findClass_of_methodNamed B.named
  have hlocks := B.notSynchronized
  subst hsz
  have hD := hD0.self (sz := s.heap.size)
  generalize hAe : va_A [(mo, .inr (12, [.int 0, .ref vl, .ref sl])), (sl, .inr (0, [.int 0, .ref ae, .int 0]))] s.heap.size = A at hD hG ⊢
  have hA : ∀ q : Nat, s.heap.size ≤ q → A q := fun q h => by rw [← hAe]; exact Or.inr h
  have hS : va_S A s.heap s.heap [] := va_S.rf
  have hP : va_P D vwCl [(mo, .inr (12, [.int 0, .ref vl, .ref sl])), (sl, .inr (0, [.int 0, .ref ae, .int 0]))] s.heap := hP
  have hl := lv_entry ([.ref mo, .int v]) (n := 2) (Nat.le_of_ble_eq_true rfl)
  rw [lg_entry_eq]
  generalize (lg_sl ([.ref mo, .int v]) ++ List.replicate (2 - (lg_sl ([.ref mo, .int v])).length) Slot.unset).toArray = ls at hl ⊢
  have hl : lv_has ls 2 [(0, .ref mo), (1, .int v)] := hl
  refine lv_aload_n hx hb dX11_faultsOf_0 rfl (lv_at hl 0 rfl) ?_
  refine lv_iload_n hx hb dX11_faultsOf_1 rfl (lv_at hl 1 rfl) ?_
  refine lv_iconst (v := 1) hx hb dX11_faultsOf_2 (by decide) ?_
  refine lv_bipush (v := 6) hx hb dX11_faultsOf_3 (by decide) ?_
  refine kc_i (wr := [(mo, .inr (12, [.int 0, .ref vl, .ref sl])), (sl, .inr (0, [.int 0, .ref ae, .int 0]))]) (va_runS (As := [.int v, .int 1, .int 6]) (rest := [.ref mo]) ⟨hx, hb, hml, hown, hts⟩ (k_isIn_n l hfl ae D cI cJ cS cO v 1 6 _ hv) (cwS 3 hts (gS q_1024 q_1022 q_1023 q_104) rfl rfl rfl (by decide +kernel) ⟨Nat.le_of_ble_eq_true rfl, Nat.le_of_ble_eq_true rfl⟩) ⟨Pw.blind, Pw.mk_call hP hK hD hS hA hG [] rfl (by decide)⟩ rfl rfl hl.1 rfl (lv_room (Nat.le_of_ble_eq_true rfl)) dX11_faultsOf_5 ⟨Nat.le_of_ble_eq_true rfl, Nat.le_of_ble_eq_true rfl⟩) hP hD hS hA [] [0, 1] rfl rfl (by decide) (by decide) (fun r_1 u_2 H locs hw hP hD hS => ?_)
  obtain rfl : r_1 = 0 := hw
  have hP : va_P D vwCl [(mo, .inr (12, [.int 0, .ref vl, .ref sl])), (sl, .inr (0, [.int 0, .ref ae, .int 0]))] H := hP
  have hD : va_D A [(mo, .inr (12, [.int 0, .ref vl, .ref sl])), (sl, .inr (0, [.int 0, .ref ae, .int 0]))] := hD
  refine lv_if_ne (tgt := 15) hx hb dX11_faultsOf_8 (by decide) (fun c_8 => absurd (by decide) c_8) (fun c_8 => ?_)
  refine lv_iconst (v := 1) hx hb dX11_faultsOf_11 (by decide) ?_
  refine lv_goto (tgt := 16) hx hb dX11_faultsOf_12 (by decide) ?_
  refine lv_iconst (v := 1) hx hb dX11_faultsOf_16 (by decide) ?_
  refine kc_i (wr := [(sl, .inr (0, [.int 0, .ref ae, .int 0]))]) (va_runV (As := [.int 1, .int 1]) (rest := []) ⟨hx, hb, hml, hown, hts⟩ (k_start_1 l hfl ae D cI cJ cS cO mo vl sl 0 1 _ (by decide)) (cwV 2 hts (gV q_1028 q_1025 q_1027 q_63 q_104) rfl rfl rfl (by decide +kernel) ⟨Nat.le_of_ble_eq_true rfl, Nat.le_of_ble_eq_true rfl⟩) ⟨Pw.blind, va_recv hK hP (ci := 12) (q0 := 0) rfl rfl, Pw.mk_call hP hK hD hS hA hG [0] rfl (by decide)⟩ rfl rfl hl.1 rfl (lv_room (Nat.le_of_ble_eq_true rfl)) dX11_faultsOf_17 ⟨Nat.le_of_ble_eq_true rfl, Nat.le_of_ble_eq_true rfl⟩) hP hD hS hA [0] [1] rfl rfl (by decide) (by decide) (fun r_3 u_4 H locs hw hP hD hS => ?_)
  obtain rfl : r_3 = 1 := hw
  have hP : va_P D vwCl [(sl, .inr (0, [.int 0, .ref ae, .int 0])), (mo, .inr (12, [.int 1, .ref vl, .ref sl]))] H := hP
  have hD : va_D A [(sl, .inr (0, [.int 0, .ref ae, .int 0])), (mo, .inr (12, [.int 1, .ref vl, .ref sl]))] := hD
  refine lv_if_eq (tgt := 27) hx hb dX11_faultsOf_20 (by decide) (fun c_20 => absurd c_20 (by decide)) (fun c_20 => ?_)
  refine lv_iconst (v := 0) hx hb dX11_faultsOf_23 (by decide) ?_
  refine lv_goto (tgt := 39) hx hb dX11_faultsOf_24 (by decide) ?_
  have hP := hP.sub (ws' := [(mo, .inr (12, [.int 1, .ref vl, .ref sl])), (sl, .inr (0, [.int 0, .ref ae, .int 0]))]) [1, 0] rfl
  have hD := hD.sub (ws' := [(mo, .inr (12, [.int 1, .ref vl, .ref sl])), (sl, .inr (0, [.int 0, .ref ae, .int 0]))]) [1, 0] (by decide) rfl
  exact ke_i hx hb hr (by first | rfl | decide) () (rfl) hP hD hS (Nat.le_of_ble_eq_true rfl) (Nat.le_of_ble_eq_true rfl) hlocks dX11_faultsOf_39

set_option maxHeartbeats 4000000 in
set_option maxRecDepth 100000 in
theorem m_culprit (l : Launch) (hfl : l.stackTraces = false) (ae : Nat) (D : va_G) (cI cJ cS cO : ClassId) (mo : Nat) (vl : Nat) (sl : Nat) (sz : Nat)  : Met l yX11_culprit (wx (.code yX11_culprit cX11_culprit 5 (some .int))) ({ frames := 6, cells := 4, slots := 9, locals := 116 }) (va_Pc [.ref mo] (Pw ae D vwCl [(cI, .int), (cJ, .long), (cS, .object "IronwoodModel$State"), (cO, .object "java/lang/Object")] [(mo, .inr (12, [.int 0, .ref vl, .ref sl])), (sl, .inr (0, [.int 0, .ref ae, .int 0]))] sz)) (va_Qi (fun (r : Int32) (u : Unit) => r = (-1)) (Bw D vwCl (fun (u : Unit) => [(mo, .inr (12, [.int 0, .ref vl, .ref sl])), (sl, .inr (0, [.int 0, .ref ae, .int 0]))]) (va_A [(mo, .inr (12, [.int 0, .ref vl, .ref sl])), (sl, .inr (0, [.int 0, .ref ae, .int 0]))] sz)) (va_A [(mo, .inr (12, [.int 0, .ref vl, .ref sl])), (sl, .inr (0, [.int 0, .ref ae, .int 0]))] sz)) 4 9 (va_A [(mo, .inr (12, [.int 0, .ref vl, .ref sl])), (sl, .inr (0, [.int 0, .ref ae, .int 0]))] sz) := by
  refine Met.ofW (cc := cX11_culprit) (maxL := 5) (ret := (some .int)) (by decide) rfl ?_
  intro p e s m args below meth c s₁ B hml hv9
  obtain ⟨rfl, hsz, hP, hK, hD0, hG⟩ := hv9
  have hx := B.exec
  have hb := B.bytes
  have hr := B.returns
  have hts := atoms_spec (ws := wx (.code yX11_culprit cX11_culprit 5 (some .int))) B.pre
  have hown : s.vm.findClass RX11 = some m.cls := findClass_of_methodNamed B.named
  have hlocks := B.notSynchronized
  subst hsz
  have hD := hD0.self (sz := s.heap.size)
  generalize hAe : va_A [(mo, .inr (12, [.int 0, .ref vl, .ref sl])), (sl, .inr (0, [.int 0, .ref ae, .int 0]))] s.heap.size = A at hD hG ⊢
  have hA : ∀ q : Nat, s.heap.size ≤ q → A q := fun q h => by rw [← hAe]; exact Or.inr h
  have hS : va_S A s.heap s.heap [] := va_S.rf
  have hP : va_P D vwCl [(mo, .inr (12, [.int 0, .ref vl, .ref sl])), (sl, .inr (0, [.int 0, .ref ae, .int 0]))] s.heap := hP
  have hl := lv_entry ([.ref mo]) (n := 5) (Nat.le_of_ble_eq_true rfl)
  rw [lg_entry_eq]
  generalize (lg_sl ([.ref mo]) ++ List.replicate (5 - (lg_sl ([.ref mo])).length) Slot.unset).toArray = ls at hl ⊢
  have hl : lv_has ls 5 [(0, .ref mo)] := hl
  refine lv_aload_n hx hb dX11_culprit_0 rfl (lv_at hl 0 rfl) ?_
  refine lv_iconst (v := 0) hx hb dX11_culprit_1 (by decide) ?_
  refine va_put (D := D) (ci := 12) (v := .int 0) (ty := .int) (C := RX11) (T := TX11) (N := 3) (ref := "IronwoodModel") hx hb hts in_RX11 tyX11 tyX11_ok nmX11 hown hK hP hD hS 0 rfl rfl 0 (by decide) (hts _ (mc q_1002)) (fun _ h9 => h9) rfl (by decide +kernel) rfl rfl (Nat.le_of_ble_eq_true rfl) dX11_culprit_2 (fun H locs hP hD hS => ?_)
  have hP : va_P D vwCl [(mo, .inr (12, [.int 0, .ref vl, .ref sl])), (sl, .inr (0, [.int 0, .ref ae, .int 0]))] H := hP
  have hD : va_D A [(mo, .inr (12, [.int 0, .ref vl, .ref sl])), (sl, .inr (0, [.int 0, .ref ae, .int 0]))] := hD
  refine lv_iconst (v := (-1)) hx hb dX11_culprit_5 (by decide) ?_
  refine lv_istore_n (lv' := [(1, .int (-1)), (0, .ref mo)]) hx hb dX11_culprit_6 rfl hl (by decide) rfl (fun ls hl => ?_)
  refine lv_aload_n hx hb dX11_culprit_7 rfl (lv_at hl 1 rfl) ?_
  refine kc_r (wr := []) (va_runV (As := []) (rest := []) ⟨hx, hb, hml, hown, hts⟩ (m_look l hfl ae D cI cJ cS cO mo vl sl _) (cwV 0 hts (gV q_1269 q_1266 q_1268 q_75 q_104) rfl rfl rfl (by decide +kernel) ⟨Nat.le_of_ble_eq_true rfl, Nat.le_of_ble_eq_true rfl⟩) ⟨Pw.blind, va_recv hK hP (ci := 12) (q0 := 0) rfl rfl, Pw.mk_call hP hK hD hS hA hG [0, 1] rfl (by decide)⟩ rfl rfl hl.1 rfl (lv_room (Nat.le_of_ble_eq_true rfl)) dX11_culprit_8 ⟨Nat.le_of_ble_eq_true rfl, Nat.le_of_ble_eq_true rfl⟩) hP hD hS hA [0, 1] [] rfl rfl (by decide) (by decide) (fun u_2 H locs hw hP hD hS => ?_)
  obtain ⟨k_3, fl_4, ah_5, aw_6⟩ := u_2
  have hP : va_P D vwCl [(mo, .inr (12, [.int 0, .ref vl, .ref sl])), (sl, .inr (0, [.int 0, .ref ae, .int 0])), (k_3, .inr (8, [.int (-1), .int (-1), .ref ah_5, .ref aw_6, .ref fl_4, .ref mo])), (fl_4, .inr (0, [.int 0, .ref ae, .int 0])), (ah_5, .inl (cS, 0, .inr (.inr (.inr (.inr (fun _ => none)))))), (aw_6, .inl (cI, 0, .inl (fun _ => 0)))] H := hP
  have hD : va_D A [(mo, .inr (12, [.int 0, .ref vl, .ref sl])), (sl, .inr (0, [.int 0, .ref ae, .int 0])), (k_3, .inr (8, [.int (-1), .int (-1), .ref ah_5, .ref aw_6, .ref fl_4, .ref mo])), (fl_4, .inr (0, [.int 0, .ref ae, .int 0])), (ah_5, .inl (cS, 0, .inr (.inr (.inr (.inr (fun _ => none)))))), (aw_6, .inl (cI, 0, .inl (fun _ => 0)))] := hD
  refine va_get (D := D) (ci := 8) (v := .ref fl_4) (C := RX7) (T := TX7) (N := 6) (ref := "IronwoodModel$Look") hx hb hts in_RX7 hown hK hP 2 rfl rfl 4 (by decide) (hts _ (mc q_1482)) (fun _ h9 => h9) rfl dX11_culprit_11 ?_
  refine kc_i (wr := [(mo, .inr (12, [.int 0, .ref vl, .ref sl])), (sl, .inr (0, [.int 0, .ref ae, .int 0])), (k_3, .inr (8, [.int (-1), .int (-1), .ref ah_5, .ref aw_6, .ref fl_4, .ref mo])), (ah_5, .inl (cS, 0, .inr (.inr (.inr (.inr (fun _ => none)))))), (aw_6, .inl (cI, 0, .inl (fun _ => 0)))]) (va_runV (As := []) (rest := []) ⟨hx, hb, hml, hown, hts⟩ (k_al_size l hfl ae D cI cJ cS cO fl_4 0 ae 0 _) (cwV 0 hts (gV q_1036 q_1033 q_1034 q_1035 q_107) rfl rfl rfl (by decide +kernel) ⟨Nat.le_of_ble_eq_true rfl, Nat.le_of_ble_eq_true rfl⟩) ⟨Pw.blind, va_recv hK hP (ci := 0) (q0 := 3) rfl rfl, Pw.mk_call hP hK hD hS hA hG [3] rfl (by decide)⟩ rfl rfl hl.1 rfl (lv_room (Nat.le_of_ble_eq_true rfl)) dX11_culprit_14 ⟨Nat.le_of_ble_eq_true rfl, Nat.le_of_ble_eq_true rfl⟩) hP hD hS hA [3] [0, 1, 2, 4, 5] rfl rfl (by decide) (by decide) (fun r_7 u_8 H locs hw hP hD hS => ?_)
  obtain rfl : r_7 = 0 := hw
  have hP : va_P D vwCl [(mo, .inr (12, [.int 0, .ref vl, .ref sl])), (sl, .inr (0, [.int 0, .ref ae, .int 0])), (k_3, .inr (8, [.int (-1), .int (-1), .ref ah_5, .ref aw_6, .ref fl_4, .ref mo])), (ah_5, .inl (cS, 0, .inr (.inr (.inr (.inr (fun _ => none)))))), (aw_6, .inl (cI, 0, .inl (fun _ => 0))), (fl_4, .inr (0, [.int 0, .ref ae, .int 0]))] H := hP
  have hD : va_D A [(mo, .inr (12, [.int 0, .ref vl, .ref sl])), (sl, .inr (0, [.int 0, .ref ae, .int 0])), (k_3, .inr (8, [.int (-1), .int (-1), .ref ah_5, .ref aw_6, .ref fl_4, .ref mo])), (ah_5, .inl (cS, 0, .inr (.inr (.inr (.inr (fun _ => none)))))), (aw_6, .inl (cI, 0, .inl (fun _ => 0))), (fl_4, .inr (0, [.int 0, .ref ae, .int 0]))] := hD
  refine lv_istore_n (lv' := [(2, .int 0), (1, .int (-1)), (0, .ref mo)]) hx hb dX11_culprit_17 rfl hl (by decide) rfl (fun ls hl => ?_)
  refine lv_iconst (v := 0) hx hb dX11_culprit_18 (by decide) ?_
  refine lv_istore_n (lv' := [(3, .int 0), (2, .int 0), (1, .int (-1)), (0, .ref mo)]) hx hb dX11_culprit_19 rfl hl (by decide) rfl (fun ls hl => ?_)
  refine lv_iload_n hx hb dX11_culprit_20 rfl (lv_at hl 0 rfl) ?_
  refine lv_aload_n hx hb dX11_culprit_21 rfl (lv_at hl 3 rfl) ?_
  refine va_get (D := D) (ci := 12) (v := .ref sl) (C := RX11) (T := TX11) (N := 3) (ref := "IronwoodModel") hx hb hts in_RX11 hown hK hP 0 rfl rfl 2 (by decide) (hts _ (mc q_1005)) (fun _ h9 => h9) rfl dX11_culprit_22 ?_
  refine kc_i (wr := [(mo, .inr (12, [.int 0, .ref vl, .ref sl])), (k_3, .inr (8, [.int (-1), .int (-1), .ref ah_5, .ref aw_6, .ref fl_4, .ref mo])), (ah_5, .inl (cS, 0, .inr (.inr (.inr (.inr (fun _ => none)))))), (aw_6, .inl (cI, 0, .inl (fun _ => 0))), (fl_4, .inr (0, [.int 0, .ref ae, .int 0]))]) (va_runV (As := []) (rest := [.int 0]) ⟨hx, hb, hml, hown, hts⟩ (k_al_size l hfl ae D cI cJ cS cO sl 0 ae 0 _) (cwV 0 hts (gV q_1036 q_1033 q_1034 q_1035 q_107) rfl rfl rfl (by decide +kernel) ⟨Nat.le_of_ble_eq_true rfl, Nat.le_of_ble_eq_true rfl⟩) ⟨Pw.blind, va_recv hK hP (ci := 0) (q0 := 1) rfl rfl, Pw.mk_call hP hK hD hS hA hG [1] rfl (by decide)⟩ rfl rfl hl.1 rfl (lv_room (Nat.le_of_ble_eq_true rfl)) dX11_culprit_25 ⟨Nat.le_of_ble_eq_true rfl, Nat.le_of_ble_eq_true rfl⟩) hP hD hS hA [1] [0, 2, 3, 4, 5] rfl rfl (by decide) (by decide) (fun r_9 u_10 H locs hw hP hD hS => ?_)
  obtain rfl : r_9 = 0 := hw
  have hP : va_P D vwCl [(mo, .inr (12, [.int 0, .ref vl, .ref sl])), (k_3, .inr (8, [.int (-1), .int (-1), .ref ah_5, .ref aw_6, .ref fl_4, .ref mo])), (ah_5, .inl (cS, 0, .inr (.inr (.inr (.inr (fun _ => none)))))), (aw_6, .inl (cI, 0, .inl (fun _ => 0))), (fl_4, .inr (0, [.int 0, .ref ae, .int 0])), (sl, .inr (0, [.int 0, .ref ae, .int 0]))] H := hP
  have hD : va_D A [(mo, .inr (12, [.int 0, .ref vl, .ref sl])), (k_3, .inr (8, [.int (-1), .int (-1), .ref ah_5, .ref aw_6, .ref fl_4, .ref mo])), (ah_5, .inl (cS, 0, .inr (.inr (.inr (.inr (fun _ => none)))))), (aw_6, .inl (cI, 0, .inl (fun _ => 0))), (fl_4, .inr (0, [.int 0, .ref ae, .int 0])), (sl, .inr (0, [.int 0, .ref ae, .int 0]))] := hD
  refine lv_icmp_ge (tgt := 58) hx hb dX11_culprit_28 (by decide) (fun c_28 => ?_) (fun c_28 => absurd (by decide) c_28)
  refine lv_iload_n hx hb dX11_culprit_58 rfl (lv_at hl 2 rfl) ?_
  have hP := hP.sub (ws' := [(mo, .inr (12, [.int 0, .ref vl, .ref sl])), (sl, .inr (0, [.int 0, .ref ae, .int 0]))]) [0, 5] rfl
  have hD := hD.sub (ws' := [(mo, .inr (12, [.int 0, .ref vl, .ref sl])), (sl, .inr (0, [.int 0, .ref ae, .int 0]))]) [0, 5] (by decide) rfl
  exact ke_i hx hb hr (by first | rfl | decide) () (rfl) hP hD hS (Nat.le_of_ble_eq_true rfl) (Nat.le_of_ble_eq_true rfl) hlocks dX11_culprit_59

set_option maxHeartbeats 4000000 in
set_option maxRecDepth 100000 in
theorem m_density (l : Launch) (hfl : l.stackTraces = false) (ae : Nat) (D : va_G) (cI cJ cS cO : ClassId) (mo : Nat) (vl : Nat) (sl : Nat) (sz : Nat)  : Met l yX11_density (wx (.code yX11_density cX11_density 4 (some .double))) ({ frames := 6, cells := 4, slots := 9, locals := 116 }) (va_Pc [.ref mo] (Pw ae D vwCl [(cI, .int), (cJ, .long), (cS, .object "IronwoodModel$State"), (cO, .object "java/lang/Object")] [(mo, .inr (12, [.int 0, .ref vl, .ref sl])), (sl, .inr (0, [.int 0, .ref ae, .int 0]))] sz)) (va_Qd (fun (r : UInt64) (u : Unit) => r = 0) (Bw D vwCl (fun (u : Unit) => [(mo, .inr (12, [.int 0, .ref vl, .ref sl])), (sl, .inr (0, [.int 0, .ref ae, .int 0]))]) (va_A [(mo, .inr (12, [.int 0, .ref vl, .ref sl])), (sl, .inr (0, [.int 0, .ref ae, .int 0]))] sz)) (va_A [(mo, .inr (12, [.int 0, .ref vl, .ref sl])), (sl, .inr (0, [.int 0, .ref ae, .int 0]))] sz)) 4 9 (va_A [(mo, .inr (12, [.int 0, .ref vl, .ref sl])), (sl, .inr (0, [.int 0, .ref ae, .int 0]))] sz) := by
  refine Met.ofW (cc := cX11_density) (maxL := 4) (ret := (some .double)) (by decide) rfl ?_
  intro p e s m args below meth c s₁ B hml hv9
  obtain ⟨rfl, hsz, hP, hK, hD0, hG⟩ := hv9
  have hx := B.exec
  have hb := B.bytes
  have hr := B.returns
  have hts := atoms_spec (ws := wx (.code yX11_density cX11_density 4 (some .double))) B.pre
  have hown : s.vm.findClass RX11 = some m.cls := findClass_of_methodNamed B.named
  have hlocks := B.notSynchronized
  subst hsz
  have hD := hD0.self (sz := s.heap.size)
  generalize hAe : va_A [(mo, .inr (12, [.int 0, .ref vl, .ref sl])), (sl, .inr (0, [.int 0, .ref ae, .int 0]))] s.heap.size = A at hD hG ⊢
  have hA : ∀ q : Nat, s.heap.size ≤ q → A q := fun q h => by rw [← hAe]; exact Or.inr h
  have hS : va_S A s.heap s.heap [] := va_S.rf
  have hP : va_P D vwCl [(mo, .inr (12, [.int 0, .ref vl, .ref sl])), (sl, .inr (0, [.int 0, .ref ae, .int 0]))] s.heap := hP
  have hl := lv_entry ([.ref mo]) (n := 4) (Nat.le_of_ble_eq_true rfl)
  rw [lg_entry_eq]
  generalize (lg_sl ([.ref mo]) ++ List.replicate (4 - (lg_sl ([.ref mo])).length) Slot.unset).toArray = ls at hl ⊢
  have hl : lv_has ls 4 [(0, .ref mo)] := hl
  refine lv_aload_n hx hb dX11_density_0 rfl (lv_at hl 0 rfl) ?_
  refine lv_iconst (v := 0) hx hb dX11_density_1 (by decide) ?_
  refine va_put (D := D) (ci := 12) (v := .int 0) (ty := .int) (C := RX11) (T := TX11) (N := 3) (ref := "IronwoodModel") hx hb hts in_RX11 tyX11 tyX11_ok nmX11 hown hK hP hD hS 0 rfl rfl 0 (by decide) (hts _ (mc q_1002)) (fun _ h9 => h9) rfl (by decide +kernel) rfl rfl (Nat.le_of_ble_eq_true rfl) dX11_density_2 (fun H locs hP hD hS => ?_)
  have hP : va_P D vwCl [(mo, .inr (12, [.int 0, .ref vl, .ref sl])), (sl, .inr (0, [.int 0, .ref ae, .int 0]))] H := hP
  have hD : va_D A [(mo, .inr (12, [.int 0, .ref vl, .ref sl])), (sl, .inr (0, [.int 0, .ref ae, .int 0]))] := hD
  refine lv_aload_n hx hb dX11_density_5 rfl (lv_at hl 0 rfl) ?_
  refine kc_r (wr := []) (va_runV (As := []) (rest := []) ⟨hx, hb, hml, hown, hts⟩ (m_look l hfl ae D cI cJ cS cO mo vl sl _) (cwV 0 hts (gV q_1269 q_1266 q_1268 q_75 q_104) rfl rfl rfl (by decide +kernel) ⟨Nat.le_of_ble_eq_true rfl, Nat.le_of_ble_eq_true rfl⟩) ⟨Pw.blind, va_recv hK hP (ci := 12) (q0 := 0) rfl rfl, Pw.mk_call hP hK hD hS hA hG [0, 1] rfl (by decide)⟩ rfl rfl hl.1 rfl (lv_room (Nat.le_of_ble_eq_true rfl)) dX11_density_6 ⟨Nat.le_of_ble_eq_true rfl, Nat.le_of_ble_eq_true rfl⟩) hP hD hS hA [0, 1] [] rfl rfl (by decide) (by decide) (fun u_2 H locs hw hP hD hS => ?_)
  obtain ⟨k_3, fl_4, ah_5, aw_6⟩ := u_2
  have hP : va_P D vwCl [(mo, .inr (12, [.int 0, .ref vl, .ref sl])), (sl, .inr (0, [.int 0, .ref ae, .int 0])), (k_3, .inr (8, [.int (-1), .int (-1), .ref ah_5, .ref aw_6, .ref fl_4, .ref mo])), (fl_4, .inr (0, [.int 0, .ref ae, .int 0])), (ah_5, .inl (cS, 0, .inr (.inr (.inr (.inr (fun _ => none)))))), (aw_6, .inl (cI, 0, .inl (fun _ => 0)))] H := hP
  have hD : va_D A [(mo, .inr (12, [.int 0, .ref vl, .ref sl])), (sl, .inr (0, [.int 0, .ref ae, .int 0])), (k_3, .inr (8, [.int (-1), .int (-1), .ref ah_5, .ref aw_6, .ref fl_4, .ref mo])), (fl_4, .inr (0, [.int 0, .ref ae, .int 0])), (ah_5, .inl (cS, 0, .inr (.inr (.inr (.inr (fun _ => none)))))), (aw_6, .inl (cI, 0, .inl (fun _ => 0)))] := hD
  refine lv_astore_n (lv' := [(1, .ref k_3), (0, .ref mo)]) hx hb dX11_density_9 rfl hl (by decide) rfl (fun ls hl => ?_)
  refine lv_iconst (v := 0) hx hb dX11_density_10 (by decide) ?_
  refine lv_istore_n (lv' := [(2, .int 0), (1, .ref k_3), (0, .ref mo)]) hx hb dX11_density_11 rfl hl (by decide) rfl (fun ls hl => ?_)
  refine lv_iconst (v := 0) hx hb dX11_density_12 (by decide) ?_
  refine lv_istore_n (lv' := [(3, .int 0), (2, .int 0), (1, .ref k_3), (0, .ref mo)]) hx hb dX11_density_13 rfl hl (by decide) rfl (fun ls hl => ?_)
  refine lv_iload_n hx hb dX11_density_14 rfl (lv_at hl 0 rfl) ?_
  refine lv_aload_n hx hb dX11_density_15 rfl (lv_at hl 3 rfl) ?_
  refine va_get (D := D) (ci := 12) (v := .ref sl) (C := RX11) (T := TX11) (N := 3) (ref := "IronwoodModel") hx hb hts in_RX11 hown hK hP 0 rfl rfl 2 (by decide) (hts _ (mc q_1005)) (fun _ h9 => h9) rfl dX11_density_16 ?_
  refine kc_i (wr := [(mo, .inr (12, [.int 0, .ref vl, .ref sl])), (k_3, .inr (8, [.int (-1), .int (-1), .ref ah_5, .ref aw_6, .ref fl_4, .ref mo])), (fl_4, .inr (0, [.int 0, .ref ae, .int 0])), (ah_5, .inl (cS, 0, .inr (.inr (.inr (.inr (fun _ => none)))))), (aw_6, .inl (cI, 0, .inl (fun _ => 0)))]) (va_runV (As := []) (rest := [.int 0]) ⟨hx, hb, hml, hown, hts⟩ (k_al_size l hfl ae D cI cJ cS cO sl 0 ae 0 _) (cwV 0 hts (gV q_1036 q_1033 q_1034 q_1035 q_107) rfl rfl rfl (by decide +kernel) ⟨Nat.le_of_ble_eq_true rfl, Nat.le_of_ble_eq_true rfl⟩) ⟨Pw.blind, va_recv hK hP (ci := 0) (q0 := 1) rfl rfl, Pw.mk_call hP hK hD hS hA hG [1] rfl (by decide)⟩ rfl rfl hl.1 rfl (lv_room (Nat.le_of_ble_eq_true rfl)) dX11_density_19 ⟨Nat.le_of_ble_eq_true rfl, Nat.le_of_ble_eq_true rfl⟩) hP hD hS hA [1] [0, 2, 3, 4, 5] rfl rfl (by decide) (by decide) (fun r_7 u_8 H locs hw hP hD hS => ?_)
  obtain rfl : r_7 = 0 := hw
  have hP : va_P D vwCl [(mo, .inr (12, [.int 0, .ref vl, .ref sl])), (k_3, .inr (8, [.int (-1), .int (-1), .ref ah_5, .ref aw_6, .ref fl_4, .ref mo])), (fl_4, .inr (0, [.int 0, .ref ae, .int 0])), (ah_5, .inl (cS, 0, .inr (.inr (.inr (.inr (fun _ => none)))))), (aw_6, .inl (cI, 0, .inl (fun _ => 0))), (sl, .inr (0, [.int 0, .ref ae, .int 0]))] H := hP
  have hD : va_D A [(mo, .inr (12, [.int 0, .ref vl, .ref sl])), (k_3, .inr (8, [.int (-1), .int (-1), .ref ah_5, .ref aw_6, .ref fl_4, .ref mo])), (fl_4, .inr (0, [.int 0, .ref ae, .int 0])), (ah_5, .inl (cS, 0, .inr (.inr (.inr (.inr (fun _ => none)))))), (aw_6, .inl (cI, 0, .inl (fun _ => 0))), (sl, .inr (0, [.int 0, .ref ae, .int 0]))] := hD
  refine lv_icmp_ge (tgt := 48) hx hb dX11_density_22 (by decide) (fun c_22 => ?_) (fun c_22 => absurd (by decide) c_22)
  refine lv_iload_n hx hb dX11_density_48 rfl (lv_at hl 1 rfl) ?_
  refine lv_if_ne (tgt := 56) hx hb dX11_density_49 (by decide) (fun c_49 => absurd (by decide) c_49) (fun c_49 => ?_)
  refine lv_dconst0 hx hb dX11_density_52 ?_
  refine lv_goto (tgt := 67) hx hb dX11_density_53 (by decide) ?_
  have hP := hP.sub (ws' := [(mo, .inr (12, [.int 0, .ref vl, .ref sl])), (sl, .inr (0, [.int 0, .ref ae, .int 0]))]) [0, 5] rfl
  have hD := hD.sub (ws' := [(mo, .inr (12, [.int 0, .ref vl, .ref sl])), (sl, .inr (0, [.int 0, .ref ae, .int 0]))]) [0, 5] (by decide) rfl
  exact ke_d hx hb hr () (rfl) hP hD hS (Nat.le_of_ble_eq_true rfl) (Nat.le_of_ble_eq_true rfl) hlocks dX11_density_67

set_option maxHeartbeats 4000000 in
set_option maxRecDepth 100000 in
theorem m_addl (l : Launch) (hfl : l.stackTraces = false) (ae : Nat) (D : va_G) (cI cJ cS cO : ClassId) (d : Int64) (v : Int64) (sz : Nat)  : Met l yX11_add_ (wx (.code yX11_add_ cX11_add_ 4 (some .long))) ({ frames := 0, cells := 0, slots := 0, locals := 0 }) (va_Pc [.long d, .long v] (Pw ae D vwCl [(cI, .int), (cJ, .long), (cS, .object "IronwoodModel$State"), (cO, .object "java/lang/Object")] [] sz)) (va_Ql (fun (r : Int64) (u : Unit) => r = (d * 31) + v) (Bw D vwCl (fun (u : Unit) => []) (va_A [] sz)) (va_A [] sz)) 0 0 (va_A [] sz) := by
  refine Met.ofW (cc := cX11_add_) (maxL := 4) (ret := (some .long)) (by decide) rfl ?_
  intro p e s m args below meth c s₁ B hml hv9
  obtain ⟨rfl, hsz, hP, hK, hD0, hG⟩ := hv9
  have hx := B.exec
  have hb := B.bytes
  have hr := B.returns
  have hts := atoms_spec (ws := wx (.code yX11_add_ cX11_add_ 4 (some .long))) B.pre
  have hown : s.vm.findClass RX11 = some m.cls := findClass_of_methodNamed B.named
  have hlocks := B.notSynchronized
  subst hsz
  have hD := hD0.self (sz := s.heap.size)
  generalize hAe : va_A [] s.heap.size = A at hD hG ⊢
  have hA : ∀ q : Nat, s.heap.size ≤ q → A q := fun q h => by rw [← hAe]; exact Or.inr h
  have hS : va_S A s.heap s.heap [] := va_S.rf
  have hP : va_P D vwCl [] s.heap := hP
  have hl := lv_entry ([.long d, .long v]) (n := 4) (Nat.le_of_ble_eq_true rfl)
  rw [lg_entry_eq]
  generalize (lg_sl ([.long d, .long v]) ++ List.replicate (4 - (lg_sl ([.long d, .long v])).length) Slot.unset).toArray = ls at hl ⊢
  have hl : lv_has ls 4 [(0, .long d), (2, .long v)] := hl
  refine lv_lload_n hx hb dX11_add__0 rfl (lv_at hl 0 rfl) ?_
  refine lv_ldc2 (v := 31) hx hb hown (hts _ (mc q_1594)) dX11_add__1 ?_
  refine lv_lmul hx hb dX11_add__4 ?_
  refine lv_lload_n hx hb dX11_add__5 rfl (lv_at hl 1 rfl) ?_
  refine lv_ladd hx hb dX11_add__6 ?_
  have hP := hP.sub (ws' := []) [] rfl
  have hD := hD.sub (ws' := []) [] (by decide) rfl
  exact ke_l hx hb hr () (rfl) hP hD hS (Nat.le_of_ble_eq_true rfl) (Nat.le_of_ble_eq_true rfl) hlocks dX11_add__7

set_option maxHeartbeats 4000000 in
set_option maxRecDepth 100000 in
theorem m_digest (l : Launch) (hfl : l.stackTraces = false) (ae : Nat) (D : va_G) (cI cJ cS cO : ClassId) (mo : Nat) (vl : Nat) (sl : Nat) (sz : Nat)  : Met l yX11_digest (wx (.code yX11_digest cX11_digest 6 (some .long))) ({ frames := 6, cells := 4, slots := 9, locals := 116 }) (va_Pc [.ref mo] (Pw ae D vwCl [(cI, .int), (cJ, .long), (cS, .object "IronwoodModel$State"), (cO, .object "java/lang/Object")] [(mo, .inr (12, [.int 0, .ref vl, .ref sl])), (vl, .inr (0, [.int 0, .ref ae, .int 0])), (sl, .inr (0, [.int 0, .ref ae, .int 0]))] sz)) (va_Ql (fun (r : Int64) (u : Unit) => r = (-7755072763884291191)) (Bw D vwCl (fun (u : Unit) => [(mo, .inr (12, [.int 0, .ref vl, .ref sl])), (vl, .inr (0, [.int 0, .ref ae, .int 0])), (sl, .inr (0, [.int 0, .ref ae, .int 0]))]) (va_A [(mo, .inr (12, [.int 0, .ref vl, .ref sl])), (vl, .inr (0, [.int 0, .ref ae, .int 0])), (sl, .inr (0, [.int 0, .ref ae, .int 0]))] sz)) (va_A [(mo, .inr (12, [.int 0, .ref vl, .ref sl])), (vl, .inr (0, [.int 0, .ref ae, .int 0])), (sl, .inr (0, [.int 0, .ref ae, .int 0]))] sz)) 4 9 (va_A [(mo, .inr (12, [.int 0, .ref vl, .ref sl])), (vl, .inr (0, [.int 0, .ref ae, .int 0])), (sl, .inr (0, [.int 0, .ref ae, .int 0]))] sz) := by
  refine Met.ofW (cc := cX11_digest) (maxL := 6) (ret := (some .long)) (by decide) rfl ?_
  intro p e s m args below meth c s₁ B hml hv9
  obtain ⟨rfl, hsz, hP, hK, hD0, hG⟩ := hv9
  have hx := B.exec
  have hb := B.bytes
  have hr := B.returns
  have hts := atoms_spec (ws := wx (.code yX11_digest cX11_digest 6 (some .long))) B.pre
  have hown : s.vm.findClass RX11 = some m.cls := findClass_of_methodNamed B.named
  have hlocks := B.notSynchronized
  subst hsz
  have hD := hD0.self (sz := s.heap.size)
  generalize hAe : va_A [(mo, .inr (12, [.int 0, .ref vl, .ref sl])), (vl, .inr (0, [.int 0, .ref ae, .int 0])), (sl, .inr (0, [.int 0, .ref ae, .int 0]))] s.heap.size = A at hD hG ⊢
  have hA : ∀ q : Nat, s.heap.size ≤ q → A q := fun q h => by rw [← hAe]; exact Or.inr h
  have hS : va_S A s.heap s.heap [] := va_S.rf
  have hP : va_P D vwCl [(mo, .inr (12, [.int 0, .ref vl, .ref sl])), (vl, .inr (0, [.int 0, .ref ae, .int 0])), (sl, .inr (0, [.int 0, .ref ae, .int 0]))] s.heap := hP
  have hl := lv_entry ([.ref mo]) (n := 6) (Nat.le_of_ble_eq_true rfl)
  rw [lg_entry_eq]
  generalize (lg_sl ([.ref mo]) ++ List.replicate (6 - (lg_sl ([.ref mo])).length) Slot.unset).toArray = ls at hl ⊢
  have hl : lv_has ls 6 [(0, .ref mo)] := hl
  refine lv_aload_n hx hb dX11_digest_0 rfl (lv_at hl 0 rfl) ?_
  refine lv_iconst (v := 0) hx hb dX11_digest_1 (by decide) ?_
  refine va_put (D := D) (ci := 12) (v := .int 0) (ty := .int) (C := RX11) (T := TX11) (N := 3) (ref := "IronwoodModel") hx hb hts in_RX11 tyX11 tyX11_ok nmX11 hown hK hP hD hS 0 rfl rfl 0 (by decide) (hts _ (mc q_1002)) (fun _ h9 => h9) rfl (by decide +kernel) rfl rfl (Nat.le_of_ble_eq_true rfl) dX11_digest_2 (fun H locs hP hD hS => ?_)
  have hP : va_P D vwCl [(mo, .inr (12, [.int 0, .ref vl, .ref sl])), (vl, .inr (0, [.int 0, .ref ae, .int 0])), (sl, .inr (0, [.int 0, .ref ae, .int 0]))] H := hP
  have hD : va_D A [(mo, .inr (12, [.int 0, .ref vl, .ref sl])), (vl, .inr (0, [.int 0, .ref ae, .int 0])), (sl, .inr (0, [.int 0, .ref ae, .int 0]))] := hD
  refine lv_aload_n hx hb dX11_digest_5 rfl (lv_at hl 0 rfl) ?_
  refine kc_r (wr := [(vl, .inr (0, [.int 0, .ref ae, .int 0]))]) (va_runV (As := []) (rest := []) ⟨hx, hb, hml, hown, hts⟩ (m_look l hfl ae D cI cJ cS cO mo vl sl _) (cwV 0 hts (gV q_1269 q_1266 q_1268 q_75 q_104) rfl rfl rfl (by decide +kernel) ⟨Nat.le_of_ble_eq_true rfl, Nat.le_of_ble_eq_true rfl⟩) ⟨Pw.blind, va_recv hK hP (ci := 12) (q0 := 0) rfl rfl, Pw.mk_call hP hK hD hS hA hG [0, 2] rfl (by decide)⟩ rfl rfl hl.1 rfl (lv_room (Nat.le_of_ble_eq_true rfl)) dX11_digest_6 ⟨Nat.le_of_ble_eq_true rfl, Nat.le_of_ble_eq_true rfl⟩) hP hD hS hA [0, 2] [1] rfl rfl (by decide) (by decide) (fun u_2 H locs hw hP hD hS => ?_)
  obtain ⟨k_3, fl_4, ah_5, aw_6⟩ := u_2
  have hP : va_P D vwCl [(vl, .inr (0, [.int 0, .ref ae, .int 0])), (mo, .inr (12, [.int 0, .ref vl, .ref sl])), (sl, .inr (0, [.int 0, .ref ae, .int 0])), (k_3, .inr (8, [.int (-1), .int (-1), .ref ah_5, .ref aw_6, .ref fl_4, .ref mo])), (fl_4, .inr (0, [.int 0, .ref ae, .int 0])), (ah_5, .inl (cS, 0, .inr (.inr (.inr (.inr (fun _ => none)))))), (aw_6, .inl (cI, 0, .inl (fun _ => 0)))] H := hP
  have hD : va_D A [(vl, .inr (0, [.int 0, .ref ae, .int 0])), (mo, .inr (12, [.int 0, .ref vl, .ref sl])), (sl, .inr (0, [.int 0, .ref ae, .int 0])), (k_3, .inr (8, [.int (-1), .int (-1), .ref ah_5, .ref aw_6, .ref fl_4, .ref mo])), (fl_4, .inr (0, [.int 0, .ref ae, .int 0])), (ah_5, .inl (cS, 0, .inr (.inr (.inr (.inr (fun _ => none)))))), (aw_6, .inl (cI, 0, .inl (fun _ => 0)))] := hD
  refine lv_astore_n (lv' := [(1, .ref k_3), (0, .ref mo)]) hx hb dX11_digest_9 rfl hl (by decide) rfl (fun ls hl => ?_)
  refine lv_ldc2 (v := 58057) hx hb hown (hts _ (mc q_1590)) dX11_digest_10 ?_
  refine lv_aload_n hx hb dX11_digest_13 rfl (lv_at hl 1 rfl) ?_
  refine va_get (D := D) (ci := 12) (v := .ref vl) (C := RX11) (T := TX11) (N := 3) (ref := "IronwoodModel") hx hb hts in_RX11 hown hK hP 1 rfl rfl 1 (by decide) (hts _ (mc q_1003)) (fun _ h9 => h9) rfl dX11_digest_14 ?_
  refine kc_i (wr := [(mo, .inr (12, [.int 0, .ref vl, .ref sl])), (sl, .inr (0, [.int 0, .ref ae, .int 0])), (k_3, .inr (8, [.int (-1), .int (-1), .ref ah_5, .ref aw_6, .ref fl_4, .ref mo])), (fl_4, .inr (0, [.int 0, .ref ae, .int 0])), (ah_5, .inl (cS, 0, .inr (.inr (.inr (.inr (fun _ => none)))))), (aw_6, .inl (cI, 0, .inl (fun _ => 0)))]) (va_runV (As := []) (rest := [.long 58057]) ⟨hx, hb, hml, hown, hts⟩ (k_al_size l hfl ae D cI cJ cS cO vl 0 ae 0 _) (cwV 0 hts (gV q_1036 q_1033 q_1034 q_1035 q_107) rfl rfl rfl (by decide +kernel) ⟨Nat.le_of_ble_eq_true rfl, Nat.le_of_ble_eq_true rfl⟩) ⟨Pw.blind, va_recv hK hP (ci := 0) (q0 := 0) rfl rfl, Pw.mk_call hP hK hD hS hA hG [0] rfl (by decide)⟩ rfl rfl hl.1 rfl (lv_room (Nat.le_of_ble_eq_true rfl)) dX11_digest_17 ⟨Nat.le_of_ble_eq_true rfl, Nat.le_of_ble_eq_true rfl⟩) hP hD hS hA [0] [1, 2, 3, 4, 5, 6] rfl rfl (by decide) (by decide) (fun r_7 u_8 H locs hw hP hD hS => ?_)
  obtain rfl : r_7 = 0 := hw
  have hP : va_P D vwCl [(mo, .inr (12, [.int 0, .ref vl, .ref sl])), (sl, .inr (0, [.int 0, .ref ae, .int 0])), (k_3, .inr (8, [.int (-1), .int (-1), .ref ah_5, .ref aw_6, .ref fl_4, .ref mo])), (fl_4, .inr (0, [.int 0, .ref ae, .int 0])), (ah_5, .inl (cS, 0, .inr (.inr (.inr (.inr (fun _ => none)))))), (aw_6, .inl (cI, 0, .inl (fun _ => 0))), (vl, .inr (0, [.int 0, .ref ae, .int 0]))] H := hP
  have hD : va_D A [(mo, .inr (12, [.int 0, .ref vl, .ref sl])), (sl, .inr (0, [.int 0, .ref ae, .int 0])), (k_3, .inr (8, [.int (-1), .int (-1), .ref ah_5, .ref aw_6, .ref fl_4, .ref mo])), (fl_4, .inr (0, [.int 0, .ref ae, .int 0])), (ah_5, .inl (cS, 0, .inr (.inr (.inr (.inr (fun _ => none)))))), (aw_6, .inl (cI, 0, .inl (fun _ => 0))), (vl, .inr (0, [.int 0, .ref ae, .int 0]))] := hD
  refine lv_i2l (v := 0) hx hb dX11_digest_20 (by decide) ?_
  refine kc_l (wr := [(mo, .inr (12, [.int 0, .ref vl, .ref sl])), (sl, .inr (0, [.int 0, .ref ae, .int 0])), (k_3, .inr (8, [.int (-1), .int (-1), .ref ah_5, .ref aw_6, .ref fl_4, .ref mo])), (fl_4, .inr (0, [.int 0, .ref ae, .int 0])), (ah_5, .inl (cS, 0, .inr (.inr (.inr (.inr (fun _ => none)))))), (aw_6, .inl (cI, 0, .inl (fun _ => 0))), (vl, .inr (0, [.int 0, .ref ae, .int 0]))]) (va_runS (As := [.long 58057, .long 0]) (rest := []) ⟨hx, hb, hml, hown, hts⟩ (m_addl l hfl ae D cI cJ cS cO 58057 0 _) (cwS 2 hts (gS q_1593 q_1591 q_1592 q_104) rfl rfl rfl (by decide +kernel) ⟨Nat.le_of_ble_eq_true rfl, Nat.le_of_ble_eq_true rfl⟩) ⟨Pw.blind, Pw.mk_call hP hK hD hS hA hG [] rfl (by decide)⟩ rfl rfl hl.1 rfl (lv_room (Nat.le_of_ble_eq_true rfl)) dX11_digest_21 ⟨Nat.le_of_ble_eq_true rfl, Nat.le_of_ble_eq_true rfl⟩) hP hD hS hA [] [0, 1, 2, 3, 4, 5, 6] rfl rfl (by decide) (by decide) (fun r_9 u_10 H locs hw hP hD hS => ?_)
  obtain rfl : r_9 = 1799767 := hw.trans (by decide)
  have hP : va_P D vwCl [(mo, .inr (12, [.int 0, .ref vl, .ref sl])), (sl, .inr (0, [.int 0, .ref ae, .int 0])), (k_3, .inr (8, [.int (-1), .int (-1), .ref ah_5, .ref aw_6, .ref fl_4, .ref mo])), (fl_4, .inr (0, [.int 0, .ref ae, .int 0])), (ah_5, .inl (cS, 0, .inr (.inr (.inr (.inr (fun _ => none)))))), (aw_6, .inl (cI, 0, .inl (fun _ => 0))), (vl, .inr (0, [.int 0, .ref ae, .int 0]))] H := hP
  have hD : va_D A [(mo, .inr (12, [.int 0, .ref vl, .ref sl])), (sl, .inr (0, [.int 0, .ref ae, .int 0])), (k_3, .inr (8, [.int (-1), .int (-1), .ref ah_5, .ref aw_6, .ref fl_4, .ref mo])), (fl_4, .inr (0, [.int 0, .ref ae, .int 0])), (ah_5, .inl (cS, 0, .inr (.inr (.inr (.inr (fun _ => none)))))), (aw_6, .inl (cI, 0, .inl (fun _ => 0))), (vl, .inr (0, [.int 0, .ref ae, .int 0]))] := hD
  refine lv_aload_n hx hb dX11_digest_24 rfl (lv_at hl 1 rfl) ?_
  refine va_get (D := D) (ci := 12) (v := .ref sl) (C := RX11) (T := TX11) (N := 3) (ref := "IronwoodModel") hx hb hts in_RX11 hown hK hP 0 rfl rfl 2 (by decide) (hts _ (mc q_1005)) (fun _ h9 => h9) rfl dX11_digest_25 ?_
  refine kc_i (wr := [(mo, .inr (12, [.int 0, .ref vl, .ref sl])), (k_3, .inr (8, [.int (-1), .int (-1), .ref ah_5, .ref aw_6, .ref fl_4, .ref mo])), (fl_4, .inr (0, [.int 0, .ref ae, .int 0])), (ah_5, .inl (cS, 0, .inr (.inr (.inr (.inr (fun _ => none)))))), (aw_6, .inl (cI, 0, .inl (fun _ => 0))), (vl, .inr (0, [.int 0, .ref ae, .int 0]))]) (va_runV (As := []) (rest := [.long 1799767]) ⟨hx, hb, hml, hown, hts⟩ (k_al_size l hfl ae D cI cJ cS cO sl 0 ae 0 _) (cwV 0 hts (gV q_1036 q_1033 q_1034 q_1035 q_107) rfl rfl rfl (by decide +kernel) ⟨Nat.le_of_ble_eq_true rfl, Nat.le_of_ble_eq_true rfl⟩) ⟨Pw.blind, va_recv hK hP (ci := 0) (q0 := 1) rfl rfl, Pw.mk_call hP hK hD hS hA hG [1] rfl (by decide)⟩ rfl rfl hl.1 rfl (lv_room (Nat.le_of_ble_eq_true rfl)) dX11_digest_28 ⟨Nat.le_of_ble_eq_true rfl, Nat.le_of_ble_eq_true rfl⟩) hP hD hS hA [1] [0, 2, 3, 4, 5, 6] rfl rfl (by decide) (by decide) (fun r_11 u_12 H locs hw hP hD hS => ?_)
  obtain rfl : r_11 = 0 := hw
  have hP : va_P D vwCl [(mo, .inr (12, [.int 0, .ref vl, .ref sl])), (k_3, .inr (8, [.int (-1), .int (-1), .ref ah_5, .ref aw_6, .ref fl_4, .ref mo])), (fl_4, .inr (0, [.int 0, .ref ae, .int 0])), (ah_5, .inl (cS, 0, .inr (.inr (.inr (.inr (fun _ => none)))))), (aw_6, .inl (cI, 0, .inl (fun _ => 0))), (vl, .inr (0, [.int 0, .ref ae, .int 0])), (sl, .inr (0, [.int 0, .ref ae, .int 0]))] H := hP
  have hD : va_D A [(mo, .inr (12, [.int 0, .ref vl, .ref sl])), (k_3, .inr (8, [.int (-1), .int (-1), .ref ah_5, .ref aw_6, .ref fl_4, .ref mo])), (fl_4, .inr (0, [.int 0, .ref ae, .int 0])), (ah_5, .inl (cS, 0, .inr (.inr (.inr (.inr (fun _ => none)))))), (aw_6, .inl (cI, 0, .inl (fun _ => 0))), (vl, .inr (0, [.int 0, .ref ae, .int 0])), (sl, .inr (0, [.int 0, .ref ae, .int 0]))] := hD
  refine lv_i2l (v := 0) hx hb dX11_digest_31 (by decide) ?_
  refine kc_l (wr := [(mo, .inr (12, [.int 0, .ref vl, .ref sl])), (k_3, .inr (8, [.int (-1), .int (-1), .ref ah_5, .ref aw_6, .ref fl_4, .ref mo])), (fl_4, .inr (0, [.int 0, .ref ae, .int 0])), (ah_5, .inl (cS, 0, .inr (.inr (.inr (.inr (fun _ => none)))))), (aw_6, .inl (cI, 0, .inl (fun _ => 0))), (vl, .inr (0, [.int 0, .ref ae, .int 0])), (sl, .inr (0, [.int 0, .ref ae, .int 0]))]) (va_runS (As := [.long 1799767, .long 0]) (rest := []) ⟨hx, hb, hml, hown, hts⟩ (m_addl l hfl ae D cI cJ cS cO 1799767 0 _) (cwS 2 hts (gS q_1593 q_1591 q_1592 q_104) rfl rfl rfl (by decide +kernel) ⟨Nat.le_of_ble_eq_true rfl, Nat.le_of_ble_eq_true rfl⟩) ⟨Pw.blind, Pw.mk_call hP hK hD hS hA hG [] rfl (by decide)⟩ rfl rfl hl.1 rfl (lv_room (Nat.le_of_ble_eq_true rfl)) dX11_digest_32 ⟨Nat.le_of_ble_eq_true rfl, Nat.le_of_ble_eq_true rfl⟩) hP hD hS hA [] [0, 1, 2, 3, 4, 5, 6] rfl rfl (by decide) (by decide) (fun r_13 u_14 H locs hw hP hD hS => ?_)
  obtain rfl : r_13 = 55792777 := hw.trans (by decide)
  have hP : va_P D vwCl [(mo, .inr (12, [.int 0, .ref vl, .ref sl])), (k_3, .inr (8, [.int (-1), .int (-1), .ref ah_5, .ref aw_6, .ref fl_4, .ref mo])), (fl_4, .inr (0, [.int 0, .ref ae, .int 0])), (ah_5, .inl (cS, 0, .inr (.inr (.inr (.inr (fun _ => none)))))), (aw_6, .inl (cI, 0, .inl (fun _ => 0))), (vl, .inr (0, [.int 0, .ref ae, .int 0])), (sl, .inr (0, [.int 0, .ref ae, .int 0]))] H := hP
  have hD : va_D A [(mo, .inr (12, [.int 0, .ref vl, .ref sl])), (k_3, .inr (8, [.int (-1), .int (-1), .ref ah_5, .ref aw_6, .ref fl_4, .ref mo])), (fl_4, .inr (0, [.int 0, .ref ae, .int 0])), (ah_5, .inl (cS, 0, .inr (.inr (.inr (.inr (fun _ => none)))))), (aw_6, .inl (cI, 0, .inl (fun _ => 0))), (vl, .inr (0, [.int 0, .ref ae, .int 0])), (sl, .inr (0, [.int 0, .ref ae, .int 0]))] := hD
  refine lv_aload_n hx hb dX11_digest_35 rfl (lv_at hl 1 rfl) ?_
  refine lv_aload_n hx hb dX11_digest_36 rfl (lv_at hl 0 rfl) ?_
  refine kc_i (wr := [(vl, .inr (0, [.int 0, .ref ae, .int 0]))]) (va_runV (As := [.ref k_3]) (rest := [.long 55792777]) ⟨hx, hb, hml, hown, hts⟩ (m_loansOf l hfl ae D cI cJ cS cO mo vl sl k_3 fl_4 ah_5 aw_6 _) (cwV 1 hts (gV q_1532 q_1529 q_1531 q_94 q_104) rfl rfl rfl (by decide +kernel) ⟨Nat.le_of_ble_eq_true rfl, Nat.le_of_ble_eq_true rfl⟩) ⟨Pw.blind, va_recv hK hP (ci := 12) (q0 := 0) rfl rfl, Pw.mk_call hP hK hD hS hA hG [0, 6, 1, 2, 3, 4] rfl (by decide)⟩ rfl rfl hl.1 rfl (lv_room (Nat.le_of_ble_eq_true rfl)) dX11_digest_37 ⟨Nat.le_of_ble_eq_true rfl, Nat.le_of_ble_eq_true rfl⟩) hP hD hS hA [0, 6, 1, 2, 3, 4] [5] rfl rfl (by decide) (by decide) (fun r_15 u_16 H locs hw hP hD hS => ?_)
  obtain rfl : r_15 = 0 := hw
  have hP : va_P D vwCl [(vl, .inr (0, [.int 0, .ref ae, .int 0])), (mo, .inr (12, [.int 0, .ref vl, .ref sl])), (sl, .inr (0, [.int 0, .ref ae, .int 0])), (k_3, .inr (8, [.int (-1), .int (-1), .ref ah_5, .ref aw_6, .ref fl_4, .ref mo])), (fl_4, .inr (0, [.int 0, .ref ae, .int 0])), (ah_5, .inl (cS, 0, .inr (.inr (.inr (.inr (fun _ => none)))))), (aw_6, .inl (cI, 0, .inl (fun _ => 0)))] H := hP
  have hD : va_D A [(vl, .inr (0, [.int 0, .ref ae, .int 0])), (mo, .inr (12, [.int 0, .ref vl, .ref sl])), (sl, .inr (0, [.int 0, .ref ae, .int 0])), (k_3, .inr (8, [.int (-1), .int (-1), .ref ah_5, .ref aw_6, .ref fl_4, .ref mo])), (fl_4, .inr (0, [.int 0, .ref ae, .int 0])), (ah_5, .inl (cS, 0, .inr (.inr (.inr (.inr (fun _ => none)))))), (aw_6, .inl (cI, 0, .inl (fun _ => 0)))] := hD
  refine lv_i2l (v := 0) hx hb dX11_digest_40 (by decide) ?_
  refine kc_l (wr := [(vl, .inr (0, [.int 0, .ref ae, .int 0])), (mo, .inr (12, [.int 0, .ref vl, .ref sl])), (sl, .inr (0, [.int 0, .ref ae, .int 0])), (k_3, .inr (8, [.int (-1), .int (-1), .ref ah_5, .ref aw_6, .ref fl_4, .ref mo])), (fl_4, .inr (0, [.int 0, .ref ae, .int 0])), (ah_5, .inl (cS, 0, .inr (.inr (.inr (.inr (fun _ => none)))))), (aw_6, .inl (cI, 0, .inl (fun _ => 0)))]) (va_runS (As := [.long 55792777, .long 0]) (rest := []) ⟨hx, hb, hml, hown, hts⟩ (m_addl l hfl ae D cI cJ cS cO 55792777 0 _) (cwS 2 hts (gS q_1593 q_1591 q_1592 q_104) rfl rfl rfl (by decide +kernel) ⟨Nat.le_of_ble_eq_true rfl, Nat.le_of_ble_eq_true rfl⟩) ⟨Pw.blind, Pw.mk_call hP hK hD hS hA hG [] rfl (by decide)⟩ rfl rfl hl.1 rfl (lv_room (Nat.le_of_ble_eq_true rfl)) dX11_digest_41 ⟨Nat.le_of_ble_eq_true rfl, Nat.le_of_ble_eq_true rfl⟩) hP hD hS hA [] [0, 1, 2, 3, 4, 5, 6] rfl rfl (by decide) (by decide) (fun r_17 u_18 H locs hw hP hD hS => ?_)
  obtain rfl : r_17 = 1729576087 := hw.trans (by decide)
  have hP : va_P D vwCl [(vl, .inr (0, [.int 0, .ref ae, .int 0])), (mo, .inr (12, [.int 0, .ref vl, .ref sl])), (sl, .inr (0, [.int 0, .ref ae, .int 0])), (k_3, .inr (8, [.int (-1), .int (-1), .ref ah_5, .ref aw_6, .ref fl_4, .ref mo])), (fl_4, .inr (0, [.int 0, .ref ae, .int 0])), (ah_5, .inl (cS, 0, .inr (.inr (.inr (.inr (fun _ => none)))))), (aw_6, .inl (cI, 0, .inl (fun _ => 0)))] H := hP
  have hD : va_D A [(vl, .inr (0, [.int 0, .ref ae, .int 0])), (mo, .inr (12, [.int 0, .ref vl, .ref sl])), (sl, .inr (0, [.int 0, .ref ae, .int 0])), (k_3, .inr (8, [.int (-1), .int (-1), .ref ah_5, .ref aw_6, .ref fl_4, .ref mo])), (fl_4, .inr (0, [.int 0, .ref ae, .int 0])), (ah_5, .inl (cS, 0, .inr (.inr (.inr (.inr (fun _ => none)))))), (aw_6, .inl (cI, 0, .inl (fun _ => 0)))] := hD
  refine lv_aload_n hx hb dX11_digest_44 rfl (lv_at hl 0 rfl) ?_
  refine va_get (D := D) (ci := 8) (v := .ref fl_4) (C := RX7) (T := TX7) (N := 6) (ref := "IronwoodModel$Look") hx hb hts in_RX7 hown hK hP 3 rfl rfl 4 (by decide) (hts _ (mc q_1482)) (fun _ h9 => h9) rfl dX11_digest_45 ?_
  refine kc_i (wr := [(vl, .inr (0, [.int 0, .ref ae, .int 0])), (mo, .inr (12, [.int 0, .ref vl, .ref sl])), (sl, .inr (0, [.int 0, .ref ae, .int 0])), (k_3, .inr (8, [.int (-1), .int (-1), .ref ah_5, .ref aw_6, .ref fl_4, .ref mo])), (ah_5, .inl (cS, 0, .inr (.inr (.inr (.inr (fun _ => none)))))), (aw_6, .inl (cI, 0, .inl (fun _ => 0)))]) (va_runV (As := []) (rest := [.long 1729576087]) ⟨hx, hb, hml, hown, hts⟩ (k_al_size l hfl ae D cI cJ cS cO fl_4 0 ae 0 _) (cwV 0 hts (gV q_1036 q_1033 q_1034 q_1035 q_107) rfl rfl rfl (by decide +kernel) ⟨Nat.le_of_ble_eq_true rfl, Nat.le_of_ble_eq_true rfl⟩) ⟨Pw.blind, va_recv hK hP (ci := 0) (q0 := 4) rfl rfl, Pw.mk_call hP hK hD hS hA hG [4] rfl (by decide)⟩ rfl rfl hl.1 rfl (lv_room (Nat.le_of_ble_eq_true rfl)) dX11_digest_48 ⟨Nat.le_of_ble_eq_true rfl, Nat.le_of_ble_eq_true rfl⟩) hP hD hS hA [4] [0, 1, 2, 3, 5, 6] rfl rfl (by decide) (by decide) (fun r_19 u_20 H locs hw hP hD hS => ?_)
  obtain rfl : r_19 = 0 := hw
  have hP : va_P D vwCl [(vl, .inr (0, [.int 0, .ref ae, .int 0])), (mo, .inr (12, [.int 0, .ref vl, .ref sl])), (sl, .inr (0, [.int 0, .ref ae, .int 0])), (k_3, .inr (8, [.int (-1), .int (-1), .ref ah_5, .ref aw_6, .ref fl_4, .ref mo])), (ah_5, .inl (cS, 0, .inr (.inr (.inr (.inr (fun _ => none)))))), (aw_6, .inl (cI, 0, .inl (fun _ => 0))), (fl_4, .inr (0, [.int 0, .ref ae, .int 0]))] H := hP
  have hD : va_D A [(vl, .inr (0, [.int 0, .ref ae, .int 0])), (mo, .inr (12, [.int 0, .ref vl, .ref sl])), (sl, .inr (0, [.int 0, .ref ae, .int 0])), (k_3, .inr (8, [.int (-1), .int (-1), .ref ah_5, .ref aw_6, .ref fl_4, .ref mo])), (ah_5, .inl (cS, 0, .inr (.inr (.inr (.inr (fun _ => none)))))), (aw_6, .inl (cI, 0, .inl (fun _ => 0))), (fl_4, .inr (0, [.int 0, .ref ae, .int 0]))] := hD
  refine lv_i2l (v := 0) hx hb dX11_digest_51 (by decide) ?_
  refine kc_l (wr := [(vl, .inr (0, [.int 0, .ref ae, .int 0])), (mo, .inr (12, [.int 0, .ref vl, .ref sl])), (sl, .inr (0, [.int 0, .ref ae, .int 0])), (k_3, .inr (8, [.int (-1), .int (-1), .ref ah_5, .ref aw_6, .ref fl_4, .ref mo])), (ah_5, .inl (cS, 0, .inr (.inr (.inr (.inr (fun _ => none)))))), (aw_6, .inl (cI, 0, .inl (fun _ => 0))), (fl_4, .inr (0, [.int 0, .ref ae, .int 0]))]) (va_runS (As := [.long 1729576087, .long 0]) (rest := []) ⟨hx, hb, hml, hown, hts⟩ (m_addl l hfl ae D cI cJ cS cO 1729576087 0 _) (cwS 2 hts (gS q_1593 q_1591 q_1592 q_104) rfl rfl rfl (by decide +kernel) ⟨Nat.le_of_ble_eq_true rfl, Nat.le_of_ble_eq_true rfl⟩) ⟨Pw.blind, Pw.mk_call hP hK hD hS hA hG [] rfl (by decide)⟩ rfl rfl hl.1 rfl (lv_room (Nat.le_of_ble_eq_true rfl)) dX11_digest_52 ⟨Nat.le_of_ble_eq_true rfl, Nat.le_of_ble_eq_true rfl⟩) hP hD hS hA [] [0, 1, 2, 3, 4, 5, 6] rfl rfl (by decide) (by decide) (fun r_21 u_22 H locs hw hP hD hS => ?_)
  obtain rfl : r_21 = 53616858697 := hw.trans (by decide)
  have hP : va_P D vwCl [(vl, .inr (0, [.int 0, .ref ae, .int 0])), (mo, .inr (12, [.int 0, .ref vl, .ref sl])), (sl, .inr (0, [.int 0, .ref ae, .int 0])), (k_3, .inr (8, [.int (-1), .int (-1), .ref ah_5, .ref aw_6, .ref fl_4, .ref mo])), (ah_5, .inl (cS, 0, .inr (.inr (.inr (.inr (fun _ => none)))))), (aw_6, .inl (cI, 0, .inl (fun _ => 0))), (fl_4, .inr (0, [.int 0, .ref ae, .int 0]))] H := hP
  have hD : va_D A [(vl, .inr (0, [.int 0, .ref ae, .int 0])), (mo, .inr (12, [.int 0, .ref vl, .ref sl])), (sl, .inr (0, [.int 0, .ref ae, .int 0])), (k_3, .inr (8, [.int (-1), .int (-1), .ref ah_5, .ref aw_6, .ref fl_4, .ref mo])), (ah_5, .inl (cS, 0, .inr (.inr (.inr (.inr (fun _ => none)))))), (aw_6, .inl (cI, 0, .inl (fun _ => 0))), (fl_4, .inr (0, [.int 0, .ref ae, .int 0]))] := hD
  refine lv_lstore_n (lv' := [(2, .long 53616858697), (1, .ref k_3), (0, .ref mo)]) hx hb dX11_digest_55 rfl hl (by decide) rfl (fun ls hl => ?_)
  refine lv_iconst (v := 0) hx hb dX11_digest_56 (by decide) ?_
  refine lv_istore (lv' := [(4, .int 0), (2, .long 53616858697), (1, .ref k_3), (0, .ref mo)]) hx hb dX11_digest_57 hl (by decide) rfl (fun ls hl => ?_)
  refine lv_iload hx hb dX11_digest_59 (lv_at hl 0 rfl) ?_
  refine lv_aload_n hx hb dX11_digest_61 rfl (lv_at hl 3 rfl) ?_
  refine va_get (D := D) (ci := 12) (v := .ref sl) (C := RX11) (T := TX11) (N := 3) (ref := "IronwoodModel") hx hb hts in_RX11 hown hK hP 1 rfl rfl 2 (by decide) (hts _ (mc q_1005)) (fun _ h9 => h9) rfl dX11_digest_62 ?_
  refine kc_i (wr := [(vl, .inr (0, [.int 0, .ref ae, .int 0])), (mo, .inr (12, [.int 0, .ref vl, .ref sl])), (k_3, .inr (8, [.int (-1), .int (-1), .ref ah_5, .ref aw_6, .ref fl_4, .ref mo])), (ah_5, .inl (cS, 0, .inr (.inr (.inr (.inr (fun _ => none)))))), (aw_6, .inl (cI, 0, .inl (fun _ => 0))), (fl_4, .inr (0, [.int 0, .ref ae, .int 0]))]) (va_runV (As := []) (rest := [.int 0]) ⟨hx, hb, hml, hown, hts⟩ (k_al_size l hfl ae D cI cJ cS cO sl 0 ae 0 _) (cwV 0 hts (gV q_1036 q_1033 q_1034 q_1035 q_107) rfl rfl rfl (by decide +kernel) ⟨Nat.le_of_ble_eq_true rfl, Nat.le_of_ble_eq_true rfl⟩) ⟨Pw.blind, va_recv hK hP (ci := 0) (q0 := 2) rfl rfl, Pw.mk_call hP hK hD hS hA hG [2] rfl (by decide)⟩ rfl rfl hl.1 rfl (lv_room (Nat.le_of_ble_eq_true rfl)) dX11_digest_65 ⟨Nat.le_of_ble_eq_true rfl, Nat.le_of_ble_eq_true rfl⟩) hP hD hS hA [2] [0, 1, 3, 4, 5, 6] rfl rfl (by decide) (by decide) (fun r_23 u_24 H locs hw hP hD hS => ?_)
  obtain rfl : r_23 = 0 := hw
  have hP : va_P D vwCl [(vl, .inr (0, [.int 0, .ref ae, .int 0])), (mo, .inr (12, [.int 0, .ref vl, .ref sl])), (k_3, .inr (8, [.int (-1), .int (-1), .ref ah_5, .ref aw_6, .ref fl_4, .ref mo])), (ah_5, .inl (cS, 0, .inr (.inr (.inr (.inr (fun _ => none)))))), (aw_6, .inl (cI, 0, .inl (fun _ => 0))), (fl_4, .inr (0, [.int 0, .ref ae, .int 0])), (sl, .inr (0, [.int 0, .ref ae, .int 0]))] H := hP
  have hD : va_D A [(vl, .inr (0, [.int 0, .ref ae, .int 0])), (mo, .inr (12, [.int 0, .ref vl, .ref sl])), (k_3, .inr (8, [.int (-1), .int (-1), .ref ah_5, .ref aw_6, .ref fl_4, .ref mo])), (ah_5, .inl (cS, 0, .inr (.inr (.inr (.inr (fun _ => none)))))), (aw_6, .inl (cI, 0, .inl (fun _ => 0))), (fl_4, .inr (0, [.int 0, .ref ae, .int 0])), (sl, .inr (0, [.int 0, .ref ae, .int 0]))] := hD
  refine lv_icmp_ge (tgt := 188) hx hb dX11_digest_68 (by decide) (fun c_68 => ?_) (fun c_68 => absurd (by decide) c_68)
  refine lv_iconst (v := 0) hx hb dX11_digest_188 (by decide) ?_
  refine lv_istore (lv' := [(4, .int 0), (2, .long 53616858697), (1, .ref k_3), (0, .ref mo)]) hx hb dX11_digest_189 hl (by decide) rfl (fun ls hl => ?_)
  refine lv_iload hx hb dX11_digest_191 (lv_at hl 0 rfl) ?_
  refine lv_aload_n hx hb dX11_digest_193 rfl (lv_at hl 2 rfl) ?_
  refine va_get (D := D) (ci := 8) (v := .ref fl_4) (C := RX7) (T := TX7) (N := 6) (ref := "IronwoodModel$Look") hx hb hts in_RX7 hown hK hP 2 rfl rfl 4 (by decide) (hts _ (mc q_1482)) (fun _ h9 => h9) rfl dX11_digest_194 ?_
  refine kc_i (wr := [(vl, .inr (0, [.int 0, .ref ae, .int 0])), (mo, .inr (12, [.int 0, .ref vl, .ref sl])), (k_3, .inr (8, [.int (-1), .int (-1), .ref ah_5, .ref aw_6, .ref fl_4, .ref mo])), (ah_5, .inl (cS, 0, .inr (.inr (.inr (.inr (fun _ => none)))))), (aw_6, .inl (cI, 0, .inl (fun _ => 0))), (sl, .inr (0, [.int 0, .ref ae, .int 0]))]) (va_runV (As := []) (rest := [.int 0]) ⟨hx, hb, hml, hown, hts⟩ (k_al_size l hfl ae D cI cJ cS cO fl_4 0 ae 0 _) (cwV 0 hts (gV q_1036 q_1033 q_1034 q_1035 q_107) rfl rfl rfl (by decide +kernel) ⟨Nat.le_of_ble_eq_true rfl, Nat.le_of_ble_eq_true rfl⟩) ⟨Pw.blind, va_recv hK hP (ci := 0) (q0 := 5) rfl rfl, Pw.mk_call hP hK hD hS hA hG [5] rfl (by decide)⟩ rfl rfl hl.1 rfl (lv_room (Nat.le_of_ble_eq_true rfl)) dX11_digest_197 ⟨Nat.le_of_ble_eq_true rfl, Nat.le_of_ble_eq_true rfl⟩) hP hD hS hA [5] [0, 1, 2, 3, 4, 6] rfl rfl (by decide) (by decide) (fun r_25 u_26 H locs hw hP hD hS => ?_)
  obtain rfl : r_25 = 0 := hw
  have hP : va_P D vwCl [(vl, .inr (0, [.int 0, .ref ae, .int 0])), (mo, .inr (12, [.int 0, .ref vl, .ref sl])), (k_3, .inr (8, [.int (-1), .int (-1), .ref ah_5, .ref aw_6, .ref fl_4, .ref mo])), (ah_5, .inl (cS, 0, .inr (.inr (.inr (.inr (fun _ => none)))))), (aw_6, .inl (cI, 0, .inl (fun _ => 0))), (sl, .inr (0, [.int 0, .ref ae, .int 0])), (fl_4, .inr (0, [.int 0, .ref ae, .int 0]))] H := hP
  have hD : va_D A [(vl, .inr (0, [.int 0, .ref ae, .int 0])), (mo, .inr (12, [.int 0, .ref vl, .ref sl])), (k_3, .inr (8, [.int (-1), .int (-1), .ref ah_5, .ref aw_6, .ref fl_4, .ref mo])), (ah_5, .inl (cS, 0, .inr (.inr (.inr (.inr (fun _ => none)))))), (aw_6, .inl (cI, 0, .inl (fun _ => 0))), (sl, .inr (0, [.int 0, .ref ae, .int 0])), (fl_4, .inr (0, [.int 0, .ref ae, .int 0]))] := hD
  refine lv_icmp_ge (tgt := 246) hx hb dX11_digest_200 (by decide) (fun c_200 => ?_) (fun c_200 => absurd (by decide) c_200)
  refine lv_iconst (v := 1) hx hb dX11_digest_246 (by decide) ?_
  refine lv_istore (lv' := [(4, .int 1), (2, .long 53616858697), (1, .ref k_3), (0, .ref mo)]) hx hb dX11_digest_247 hl (by decide) rfl (fun ls hl => ?_)
  refine lv_iload hx hb dX11_digest_249 (lv_at hl 0 rfl) ?_
  refine lv_bipush (v := 6) hx hb dX11_digest_251 (by decide) ?_
  refine lv_icmp_gt (tgt := 278) hx hb dX11_digest_253 (by decide) (fun c_253 => absurd c_253 (by decide)) (fun c_253 => ?_)
  refine lv_lload_n hx hb dX11_digest_256 rfl (lv_at hl 1 rfl) ?_
  refine lv_aload_n hx hb dX11_digest_257 rfl (lv_at hl 2 rfl) ?_
  refine va_get (D := D) (ci := 8) (v := .ref fl_4) (C := RX7) (T := TX7) (N := 6) (ref := "IronwoodModel$Look") hx hb hts in_RX7 hown hK hP 2 rfl rfl 4 (by decide) (hts _ (mc q_1482)) (fun _ h9 => h9) rfl dX11_digest_258 ?_
  refine lv_iconst (v := 1) hx hb dX11_digest_261 (by decide) ?_
  refine lv_iload hx hb dX11_digest_262 (lv_at hl 0 rfl) ?_
  refine kc_i (wr := [(vl, .inr (0, [.int 0, .ref ae, .int 0])), (mo, .inr (12, [.int 0, .ref vl, .ref sl])), (k_3, .inr (8, [.int (-1), .int (-1), .ref ah_5, .ref aw_6, .ref fl_4, .ref mo])), (ah_5, .inl (cS, 0, .inr (.inr (.inr (.inr (fun _ => none)))))), (aw_6, .inl (cI, 0, .inl (fun _ => 0))), (sl, .inr (0, [.int 0, .ref ae, .int 0]))]) (va_runS (As := [.ref fl_4, .int 1, .int 1]) (rest := [.long 53616858697]) ⟨hx, hb, hml, hown, hts⟩ (m_manyOf l hfl ae D cI cJ cS cO fl_4 1 1 _) (cwS 3 hts (gS q_1561 q_1559 q_1560 q_104) rfl rfl rfl (by decide +kernel) ⟨Nat.le_of_ble_eq_true rfl, Nat.le_of_ble_eq_true rfl⟩) ⟨Pw.blind, Pw.mk_call hP hK hD hS hA hG [6] rfl (by decide)⟩ rfl rfl hl.1 rfl (lv_room (Nat.le_of_ble_eq_true rfl)) dX11_digest_264 ⟨Nat.le_of_ble_eq_true rfl, Nat.le_of_ble_eq_true rfl⟩) hP hD hS hA [6] [0, 1, 2, 3, 4, 5] rfl rfl (by decide) (by decide) (fun r_27 u_28 H locs hw hP hD hS => ?_)
  obtain rfl : r_27 = 0 := hw
  have hP : va_P D vwCl [(vl, .inr (0, [.int 0, .ref ae, .int 0])), (mo, .inr (12, [.int 0, .ref vl, .ref sl])), (k_3, .inr (8, [.int (-1), .int (-1), .ref ah_5, .ref aw_6, .ref fl_4, .ref mo])), (ah_5, .inl (cS, 0, .inr (.inr (.inr (.inr (fun _ => none)))))), (aw_6, .inl (cI, 0, .inl (fun _ => 0))), (sl, .inr (0, [.int 0, .ref ae, .int 0])), (fl_4, .inr (0, [.int 0, .ref ae, .int 0]))] H := hP
  have hD : va_D A [(vl, .inr (0, [.int 0, .ref ae, .int 0])), (mo, .inr (12, [.int 0, .ref vl, .ref sl])), (k_3, .inr (8, [.int (-1), .int (-1), .ref ah_5, .ref aw_6, .ref fl_4, .ref mo])), (ah_5, .inl (cS, 0, .inr (.inr (.inr (.inr (fun _ => none)))))), (aw_6, .inl (cI, 0, .inl (fun _ => 0))), (sl, .inr (0, [.int 0, .ref ae, .int 0])), (fl_4, .inr (0, [.int 0, .ref ae, .int 0]))] := hD
  refine lv_i2l (v := 0) hx hb dX11_digest_267 (by decide) ?_
  refine kc_l (wr := [(vl, .inr (0, [.int 0, .ref ae, .int 0])), (mo, .inr (12, [.int 0, .ref vl, .ref sl])), (k_3, .inr (8, [.int (-1), .int (-1), .ref ah_5, .ref aw_6, .ref fl_4, .ref mo])), (ah_5, .inl (cS, 0, .inr (.inr (.inr (.inr (fun _ => none)))))), (aw_6, .inl (cI, 0, .inl (fun _ => 0))), (sl, .inr (0, [.int 0, .ref ae, .int 0])), (fl_4, .inr (0, [.int 0, .ref ae, .int 0]))]) (va_runS (As := [.long 53616858697, .long 0]) (rest := []) ⟨hx, hb, hml, hown, hts⟩ (m_addl l hfl ae D cI cJ cS cO 53616858697 0 _) (cwS 2 hts (gS q_1593 q_1591 q_1592 q_104) rfl rfl rfl (by decide +kernel) ⟨Nat.le_of_ble_eq_true rfl, Nat.le_of_ble_eq_true rfl⟩) ⟨Pw.blind, Pw.mk_call hP hK hD hS hA hG [] rfl (by decide)⟩ rfl rfl hl.1 rfl (lv_room (Nat.le_of_ble_eq_true rfl)) dX11_digest_268 ⟨Nat.le_of_ble_eq_true rfl, Nat.le_of_ble_eq_true rfl⟩) hP hD hS hA [] [0, 1, 2, 3, 4, 5, 6] rfl rfl (by decide) (by decide) (fun r_29 u_30 H locs hw hP hD hS => ?_)
  obtain rfl : r_29 = 1662122619607 := hw.trans (by decide)
  have hP : va_P D vwCl [(vl, .inr (0, [.int 0, .ref ae, .int 0])), (mo, .inr (12, [.int 0, .ref vl, .ref sl])), (k_3, .inr (8, [.int (-1), .int (-1), .ref ah_5, .ref aw_6, .ref fl_4, .ref mo])), (ah_5, .inl (cS, 0, .inr (.inr (.inr (.inr (fun _ => none)))))), (aw_6, .inl (cI, 0, .inl (fun _ => 0))), (sl, .inr (0, [.int 0, .ref ae, .int 0])), (fl_4, .inr (0, [.int 0, .ref ae, .int 0]))] H := hP
  have hD : va_D A [(vl, .inr (0, [.int 0, .ref ae, .int 0])), (mo, .inr (12, [.int 0, .ref vl, .ref sl])), (k_3, .inr (8, [.int (-1), .int (-1), .ref ah_5, .ref aw_6, .ref fl_4, .ref mo])), (ah_5, .inl (cS, 0, .inr (.inr (.inr (.inr (fun _ => none)))))), (aw_6, .inl (cI, 0, .inl (fun _ => 0))), (sl, .inr (0, [.int 0, .ref ae, .int 0])), (fl_4, .inr (0, [.int 0, .ref ae, .int 0]))] := hD
  refine lv_lstore_n (lv' := [(2, .long 1662122619607), (4, .int 1), (1, .ref k_3), (0, .ref mo)]) hx hb dX11_digest_271 rfl hl (by decide) rfl (fun ls hl => ?_)
  refine lv_iinc (v := 2) (lv' := [(4, .int 2), (2, .long 1662122619607), (1, .ref k_3), (0, .ref mo)]) hx hb dX11_digest_272 hl (k := 1) rfl (by decide) (by decide) rfl (fun ls hl => ?_)
  refine lv_goto (tgt := 249) hx hb dX11_digest_275 (by decide) ?_
  refine lv_iload hx hb dX11_digest_249 (lv_at hl 0 rfl) ?_
  refine lv_bipush (v := 6) hx hb dX11_digest_251 (by decide) ?_
  refine lv_icmp_gt (tgt := 278) hx hb dX11_digest_253 (by decide) (fun c_253 => absurd c_253 (by decide)) (fun c_253 => ?_)
  refine lv_lload_n hx hb dX11_digest_256 rfl (lv_at hl 1 rfl) ?_
  refine lv_aload_n hx hb dX11_digest_257 rfl (lv_at hl 2 rfl) ?_
  refine va_get (D := D) (ci := 8) (v := .ref fl_4) (C := RX7) (T := TX7) (N := 6) (ref := "IronwoodModel$Look") hx hb hts in_RX7 hown hK hP 2 rfl rfl 4 (by decide) (hts _ (mc q_1482)) (fun _ h9 => h9) rfl dX11_digest_258 ?_
  refine lv_iconst (v := 1) hx hb dX11_digest_261 (by decide) ?_
  refine lv_iload hx hb dX11_digest_262 (lv_at hl 0 rfl) ?_
  refine kc_i (wr := [(vl, .inr (0, [.int 0, .ref ae, .int 0])), (mo, .inr (12, [.int 0, .ref vl, .ref sl])), (k_3, .inr (8, [.int (-1), .int (-1), .ref ah_5, .ref aw_6, .ref fl_4, .ref mo])), (ah_5, .inl (cS, 0, .inr (.inr (.inr (.inr (fun _ => none)))))), (aw_6, .inl (cI, 0, .inl (fun _ => 0))), (sl, .inr (0, [.int 0, .ref ae, .int 0]))]) (va_runS (As := [.ref fl_4, .int 1, .int 2]) (rest := [.long 1662122619607]) ⟨hx, hb, hml, hown, hts⟩ (m_manyOf l hfl ae D cI cJ cS cO fl_4 1 2 _) (cwS 3 hts (gS q_1561 q_1559 q_1560 q_104) rfl rfl rfl (by decide +kernel) ⟨Nat.le_of_ble_eq_true rfl, Nat.le_of_ble_eq_true rfl⟩) ⟨Pw.blind, Pw.mk_call hP hK hD hS hA hG [6] rfl (by decide)⟩ rfl rfl hl.1 rfl (lv_room (Nat.le_of_ble_eq_true rfl)) dX11_digest_264 ⟨Nat.le_of_ble_eq_true rfl, Nat.le_of_ble_eq_true rfl⟩) hP hD hS hA [6] [0, 1, 2, 3, 4, 5] rfl rfl (by decide) (by decide) (fun r_31 u_32 H locs hw hP hD hS => ?_)
  obtain rfl : r_31 = 0 := hw
  have hP : va_P D vwCl [(vl, .inr (0, [.int 0, .ref ae, .int 0])), (mo, .inr (12, [.int 0, .ref vl, .ref sl])), (k_3, .inr (8, [.int (-1), .int (-1), .ref ah_5, .ref aw_6, .ref fl_4, .ref mo])), (ah_5, .inl (cS, 0, .inr (.inr (.inr (.inr (fun _ => none)))))), (aw_6, .inl (cI, 0, .inl (fun _ => 0))), (sl, .inr (0, [.int 0, .ref ae, .int 0])), (fl_4, .inr (0, [.int 0, .ref ae, .int 0]))] H := hP
  have hD : va_D A [(vl, .inr (0, [.int 0, .ref ae, .int 0])), (mo, .inr (12, [.int 0, .ref vl, .ref sl])), (k_3, .inr (8, [.int (-1), .int (-1), .ref ah_5, .ref aw_6, .ref fl_4, .ref mo])), (ah_5, .inl (cS, 0, .inr (.inr (.inr (.inr (fun _ => none)))))), (aw_6, .inl (cI, 0, .inl (fun _ => 0))), (sl, .inr (0, [.int 0, .ref ae, .int 0])), (fl_4, .inr (0, [.int 0, .ref ae, .int 0]))] := hD
  refine lv_i2l (v := 0) hx hb dX11_digest_267 (by decide) ?_
  refine kc_l (wr := [(vl, .inr (0, [.int 0, .ref ae, .int 0])), (mo, .inr (12, [.int 0, .ref vl, .ref sl])), (k_3, .inr (8, [.int (-1), .int (-1), .ref ah_5, .ref aw_6, .ref fl_4, .ref mo])), (ah_5, .inl (cS, 0, .inr (.inr (.inr (.inr (fun _ => none)))))), (aw_6, .inl (cI, 0, .inl (fun _ => 0))), (sl, .inr (0, [.int 0, .ref ae, .int 0])), (fl_4, .inr (0, [.int 0, .ref ae, .int 0]))]) (va_runS (As := [.long 1662122619607, .long 0]) (rest := []) ⟨hx, hb, hml, hown, hts⟩ (m_addl l hfl ae D cI cJ cS cO 1662122619607 0 _) (cwS 2 hts (gS q_1593 q_1591 q_1592 q_104) rfl rfl rfl (by decide +kernel) ⟨Nat.le_of_ble_eq_true rfl, Nat.le_of_ble_eq_true rfl⟩) ⟨Pw.blind, Pw.mk_call hP hK hD hS hA hG [] rfl (by decide)⟩ rfl rfl hl.1 rfl (lv_room (Nat.le_of_ble_eq_true rfl)) dX11_digest_268 ⟨Nat.le_of_ble_eq_true rfl, Nat.le_of_ble_eq_true rfl⟩) hP hD hS hA [] [0, 1, 2, 3, 4, 5, 6] rfl rfl (by decide) (by decide) (fun r_33 u_34 H locs hw hP hD hS => ?_)
  obtain rfl : r_33 = 51525801207817 := hw.trans (by decide)
  have hP : va_P D vwCl [(vl, .inr (0, [.int 0, .ref ae, .int 0])), (mo, .inr (12, [.int 0, .ref vl, .ref sl])), (k_3, .inr (8, [.int (-1), .int (-1), .ref ah_5, .ref aw_6, .ref fl_4, .ref mo])), (ah_5, .inl (cS, 0, .inr (.inr (.inr (.inr (fun _ => none)))))), (aw_6, .inl (cI, 0, .inl (fun _ => 0))), (sl, .inr (0, [.int 0, .ref ae, .int 0])), (fl_4, .inr (0, [.int 0, .ref ae, .int 0]))] H := hP
  have hD : va_D A [(vl, .inr (0, [.int 0, .ref ae, .int 0])), (mo, .inr (12, [.int 0, .ref vl, .ref sl])), (k_3, .inr (8, [.int (-1), .int (-1), .ref ah_5, .ref aw_6, .ref fl_4, .ref mo])), (ah_5, .inl (cS, 0, .inr (.inr (.inr (.inr (fun _ => none)))))), (aw_6, .inl (cI, 0, .inl (fun _ => 0))), (sl, .inr (0, [.int 0, .ref ae, .int 0])), (fl_4, .inr (0, [.int 0, .ref ae, .int 0]))] := hD
  refine lv_lstore_n (lv' := [(2, .long 51525801207817), (4, .int 2), (1, .ref k_3), (0, .ref mo)]) hx hb dX11_digest_271 rfl hl (by decide) rfl (fun ls hl => ?_)
  refine lv_iinc (v := 3) (lv' := [(4, .int 3), (2, .long 51525801207817), (1, .ref k_3), (0, .ref mo)]) hx hb dX11_digest_272 hl (k := 1) rfl (by decide) (by decide) rfl (fun ls hl => ?_)
  refine lv_goto (tgt := 249) hx hb dX11_digest_275 (by decide) ?_
  refine lv_iload hx hb dX11_digest_249 (lv_at hl 0 rfl) ?_
  refine lv_bipush (v := 6) hx hb dX11_digest_251 (by decide) ?_
  refine lv_icmp_gt (tgt := 278) hx hb dX11_digest_253 (by decide) (fun c_253 => absurd c_253 (by decide)) (fun c_253 => ?_)
  refine lv_lload_n hx hb dX11_digest_256 rfl (lv_at hl 1 rfl) ?_
  refine lv_aload_n hx hb dX11_digest_257 rfl (lv_at hl 2 rfl) ?_
  refine va_get (D := D) (ci := 8) (v := .ref fl_4) (C := RX7) (T := TX7) (N := 6) (ref := "IronwoodModel$Look") hx hb hts in_RX7 hown hK hP 2 rfl rfl 4 (by decide) (hts _ (mc q_1482)) (fun _ h9 => h9) rfl dX11_digest_258 ?_
  refine lv_iconst (v := 1) hx hb dX11_digest_261 (by decide) ?_
  refine lv_iload hx hb dX11_digest_262 (lv_at hl 0 rfl) ?_
  refine kc_i (wr := [(vl, .inr (0, [.int 0, .ref ae, .int 0])), (mo, .inr (12, [.int 0, .ref vl, .ref sl])), (k_3, .inr (8, [.int (-1), .int (-1), .ref ah_5, .ref aw_6, .ref fl_4, .ref mo])), (ah_5, .inl (cS, 0, .inr (.inr (.inr (.inr (fun _ => none)))))), (aw_6, .inl (cI, 0, .inl (fun _ => 0))), (sl, .inr (0, [.int 0, .ref ae, .int 0]))]) (va_runS (As := [.ref fl_4, .int 1, .int 3]) (rest := [.long 51525801207817]) ⟨hx, hb, hml, hown, hts⟩ (m_manyOf l hfl ae D cI cJ cS cO fl_4 1 3 _) (cwS 3 hts (gS q_1561 q_1559 q_1560 q_104) rfl rfl rfl (by decide +kernel) ⟨Nat.le_of_ble_eq_true rfl, Nat.le_of_ble_eq_true rfl⟩) ⟨Pw.blind, Pw.mk_call hP hK hD hS hA hG [6] rfl (by decide)⟩ rfl rfl hl.1 rfl (lv_room (Nat.le_of_ble_eq_true rfl)) dX11_digest_264 ⟨Nat.le_of_ble_eq_true rfl, Nat.le_of_ble_eq_true rfl⟩) hP hD hS hA [6] [0, 1, 2, 3, 4, 5] rfl rfl (by decide) (by decide) (fun r_35 u_36 H locs hw hP hD hS => ?_)
  obtain rfl : r_35 = 0 := hw
  have hP : va_P D vwCl [(vl, .inr (0, [.int 0, .ref ae, .int 0])), (mo, .inr (12, [.int 0, .ref vl, .ref sl])), (k_3, .inr (8, [.int (-1), .int (-1), .ref ah_5, .ref aw_6, .ref fl_4, .ref mo])), (ah_5, .inl (cS, 0, .inr (.inr (.inr (.inr (fun _ => none)))))), (aw_6, .inl (cI, 0, .inl (fun _ => 0))), (sl, .inr (0, [.int 0, .ref ae, .int 0])), (fl_4, .inr (0, [.int 0, .ref ae, .int 0]))] H := hP
  have hD : va_D A [(vl, .inr (0, [.int 0, .ref ae, .int 0])), (mo, .inr (12, [.int 0, .ref vl, .ref sl])), (k_3, .inr (8, [.int (-1), .int (-1), .ref ah_5, .ref aw_6, .ref fl_4, .ref mo])), (ah_5, .inl (cS, 0, .inr (.inr (.inr (.inr (fun _ => none)))))), (aw_6, .inl (cI, 0, .inl (fun _ => 0))), (sl, .inr (0, [.int 0, .ref ae, .int 0])), (fl_4, .inr (0, [.int 0, .ref ae, .int 0]))] := hD
  refine lv_i2l (v := 0) hx hb dX11_digest_267 (by decide) ?_
  refine kc_l (wr := [(vl, .inr (0, [.int 0, .ref ae, .int 0])), (mo, .inr (12, [.int 0, .ref vl, .ref sl])), (k_3, .inr (8, [.int (-1), .int (-1), .ref ah_5, .ref aw_6, .ref fl_4, .ref mo])), (ah_5, .inl (cS, 0, .inr (.inr (.inr (.inr (fun _ => none)))))), (aw_6, .inl (cI, 0, .inl (fun _ => 0))), (sl, .inr (0, [.int 0, .ref ae, .int 0])), (fl_4, .inr (0, [.int 0, .ref ae, .int 0]))]) (va_runS (As := [.long 51525801207817, .long 0]) (rest := []) ⟨hx, hb, hml, hown, hts⟩ (m_addl l hfl ae D cI cJ cS cO 51525801207817 0 _) (cwS 2 hts (gS q_1593 q_1591 q_1592 q_104) rfl rfl rfl (by decide +kernel) ⟨Nat.le_of_ble_eq_true rfl, Nat.le_of_ble_eq_true rfl⟩) ⟨Pw.blind, Pw.mk_call hP hK hD hS hA hG [] rfl (by decide)⟩ rfl rfl hl.1 rfl (lv_room (Nat.le_of_ble_eq_true rfl)) dX11_digest_268 ⟨Nat.le_of_ble_eq_true rfl, Nat.le_of_ble_eq_true rfl⟩) hP hD hS hA [] [0, 1, 2, 3, 4, 5, 6] rfl rfl (by decide) (by decide) (fun r_37 u_38 H locs hw hP hD hS => ?_)
  obtain rfl : r_37 = 1597299837442327 := hw.trans (by decide)
  have hP : va_P D vwCl [(vl, .inr (0, [.int 0, .ref ae, .int 0])), (mo, .inr (12, [.int 0, .ref vl, .ref sl])), (k_3, .inr (8, [.int (-1), .int (-1), .ref ah_5, .ref aw_6, .ref fl_4, .ref mo])), (ah_5, .inl (cS, 0, .inr (.inr (.inr (.inr (fun _ => none)))))), (aw_6, .inl (cI, 0, .inl (fun _ => 0))), (sl, .inr (0, [.int 0, .ref ae, .int 0])), (fl_4, .inr (0, [.int 0, .ref ae, .int 0]))] H := hP
  have hD : va_D A [(vl, .inr (0, [.int 0, .ref ae, .int 0])), (mo, .inr (12, [.int 0, .ref vl, .ref sl])), (k_3, .inr (8, [.int (-1), .int (-1), .ref ah_5, .ref aw_6, .ref fl_4, .ref mo])), (ah_5, .inl (cS, 0, .inr (.inr (.inr (.inr (fun _ => none)))))), (aw_6, .inl (cI, 0, .inl (fun _ => 0))), (sl, .inr (0, [.int 0, .ref ae, .int 0])), (fl_4, .inr (0, [.int 0, .ref ae, .int 0]))] := hD
  refine lv_lstore_n (lv' := [(2, .long 1597299837442327), (4, .int 3), (1, .ref k_3), (0, .ref mo)]) hx hb dX11_digest_271 rfl hl (by decide) rfl (fun ls hl => ?_)
  refine lv_iinc (v := 4) (lv' := [(4, .int 4), (2, .long 1597299837442327), (1, .ref k_3), (0, .ref mo)]) hx hb dX11_digest_272 hl (k := 1) rfl (by decide) (by decide) rfl (fun ls hl => ?_)
  refine lv_goto (tgt := 249) hx hb dX11_digest_275 (by decide) ?_
  refine lv_iload hx hb dX11_digest_249 (lv_at hl 0 rfl) ?_
  refine lv_bipush (v := 6) hx hb dX11_digest_251 (by decide) ?_
  refine lv_icmp_gt (tgt := 278) hx hb dX11_digest_253 (by decide) (fun c_253 => absurd c_253 (by decide)) (fun c_253 => ?_)
  refine lv_lload_n hx hb dX11_digest_256 rfl (lv_at hl 1 rfl) ?_
  refine lv_aload_n hx hb dX11_digest_257 rfl (lv_at hl 2 rfl) ?_
  refine va_get (D := D) (ci := 8) (v := .ref fl_4) (C := RX7) (T := TX7) (N := 6) (ref := "IronwoodModel$Look") hx hb hts in_RX7 hown hK hP 2 rfl rfl 4 (by decide) (hts _ (mc q_1482)) (fun _ h9 => h9) rfl dX11_digest_258 ?_
  refine lv_iconst (v := 1) hx hb dX11_digest_261 (by decide) ?_
  refine lv_iload hx hb dX11_digest_262 (lv_at hl 0 rfl) ?_
  refine kc_i (wr := [(vl, .inr (0, [.int 0, .ref ae, .int 0])), (mo, .inr (12, [.int 0, .ref vl, .ref sl])), (k_3, .inr (8, [.int (-1), .int (-1), .ref ah_5, .ref aw_6, .ref fl_4, .ref mo])), (ah_5, .inl (cS, 0, .inr (.inr (.inr (.inr (fun _ => none)))))), (aw_6, .inl (cI, 0, .inl (fun _ => 0))), (sl, .inr (0, [.int 0, .ref ae, .int 0]))]) (va_runS (As := [.ref fl_4, .int 1, .int 4]) (rest := [.long 1597299837442327]) ⟨hx, hb, hml, hown, hts⟩ (m_manyOf l hfl ae D cI cJ cS cO fl_4 1 4 _) (cwS 3 hts (gS q_1561 q_1559 q_1560 q_104) rfl rfl rfl (by decide +kernel) ⟨Nat.le_of_ble_eq_true rfl, Nat.le_of_ble_eq_true rfl⟩) ⟨Pw.blind, Pw.mk_call hP hK hD hS hA hG [6] rfl (by decide)⟩ rfl rfl hl.1 rfl (lv_room (Nat.le_of_ble_eq_true rfl)) dX11_digest_264 ⟨Nat.le_of_ble_eq_true rfl, Nat.le_of_ble_eq_true rfl⟩) hP hD hS hA [6] [0, 1, 2, 3, 4, 5] rfl rfl (by decide) (by decide) (fun r_39 u_40 H locs hw hP hD hS => ?_)
  obtain rfl : r_39 = 0 := hw
  have hP : va_P D vwCl [(vl, .inr (0, [.int 0, .ref ae, .int 0])), (mo, .inr (12, [.int 0, .ref vl, .ref sl])), (k_3, .inr (8, [.int (-1), .int (-1), .ref ah_5, .ref aw_6, .ref fl_4, .ref mo])), (ah_5, .inl (cS, 0, .inr (.inr (.inr (.inr (fun _ => none)))))), (aw_6, .inl (cI, 0, .inl (fun _ => 0))), (sl, .inr (0, [.int 0, .ref ae, .int 0])), (fl_4, .inr (0, [.int 0, .ref ae, .int 0]))] H := hP
  have hD : va_D A [(vl, .inr (0, [.int 0, .ref ae, .int 0])), (mo, .inr (12, [.int 0, .ref vl, .ref sl])), (k_3, .inr (8, [.int (-1), .int (-1), .ref ah_5, .ref aw_6, .ref fl_4, .ref mo])), (ah_5, .inl (cS, 0, .inr (.inr (.inr (.inr (fun _ => none)))))), (aw_6, .inl (cI, 0, .inl (fun _ => 0))), (sl, .inr (0, [.int 0, .ref ae, .int 0])), (fl_4, .inr (0, [.int 0, .ref ae, .int 0]))] := hD
  refine lv_i2l (v := 0) hx hb dX11_digest_267 (by decide) ?_
  refine kc_l (wr := [(vl, .inr (0, [.int 0, .ref ae, .int 0])), (mo, .inr (12, [.int 0, .ref vl, .ref sl])), (k_3, .inr (8, [.int (-1), .int (-1), .ref ah_5, .ref aw_6, .ref fl_4, .ref mo])), (ah_5, .inl (cS, 0, .inr (.inr (.inr (.inr (fun _ => none)))))), (aw_6, .inl (cI, 0, .inl (fun _ => 0))), (sl, .inr (0, [.int 0, .ref ae, .int 0])), (fl_4, .inr (0, [.int 0, .ref ae, .int 0]))]) (va_runS (As := [.long 1597299837442327, .long 0]) (rest := []) ⟨hx, hb, hml, hown, hts⟩ (m_addl l hfl ae D cI cJ cS cO 1597299837442327 0 _) (cwS 2 hts (gS q_1593 q_1591 q_1592 q_104) rfl rfl rfl (by decide +kernel) ⟨Nat.le_of_ble_eq_true rfl, Nat.le_of_ble_eq_true rfl⟩) ⟨Pw.blind, Pw.mk_call hP hK hD hS hA hG [] rfl (by decide)⟩ rfl rfl hl.1 rfl (lv_room (Nat.le_of_ble_eq_true rfl)) dX11_digest_268 ⟨Nat.le_of_ble_eq_true rfl, Nat.le_of_ble_eq_true rfl⟩) hP hD hS hA [] [0, 1, 2, 3, 4, 5, 6] rfl rfl (by decide) (by decide) (fun r_41 u_42 H locs hw hP hD hS => ?_)
  obtain rfl : r_41 = 49516294960712137 := hw.trans (by decide)
  have hP : va_P D vwCl [(vl, .inr (0, [.int 0, .ref ae, .int 0])), (mo, .inr (12, [.int 0, .ref vl, .ref sl])), (k_3, .inr (8, [.int (-1), .int (-1), .ref ah_5, .ref aw_6, .ref fl_4, .ref mo])), (ah_5, .inl (cS, 0, .inr (.inr (.inr (.inr (fun _ => none)))))), (aw_6, .inl (cI, 0, .inl (fun _ => 0))), (sl, .inr (0, [.int 0, .ref ae, .int 0])), (fl_4, .inr (0, [.int 0, .ref ae, .int 0]))] H := hP
  have hD : va_D A [(vl, .inr (0, [.int 0, .ref ae, .int 0])), (mo, .inr (12, [.int 0, .ref vl, .ref sl])), (k_3, .inr (8, [.int (-1), .int (-1), .ref ah_5, .ref aw_6, .ref fl_4, .ref mo])), (ah_5, .inl (cS, 0, .inr (.inr (.inr (.inr (fun _ => none)))))), (aw_6, .inl (cI, 0, .inl (fun _ => 0))), (sl, .inr (0, [.int 0, .ref ae, .int 0])), (fl_4, .inr (0, [.int 0, .ref ae, .int 0]))] := hD
  refine lv_lstore_n (lv' := [(2, .long 49516294960712137), (4, .int 4), (1, .ref k_3), (0, .ref mo)]) hx hb dX11_digest_271 rfl hl (by decide) rfl (fun ls hl => ?_)
  refine lv_iinc (v := 5) (lv' := [(4, .int 5), (2, .long 49516294960712137), (1, .ref k_3), (0, .ref mo)]) hx hb dX11_digest_272 hl (k := 1) rfl (by decide) (by decide) rfl (fun ls hl => ?_)
  refine lv_goto (tgt := 249) hx hb dX11_digest_275 (by decide) ?_
  refine lv_iload hx hb dX11_digest_249 (lv_at hl 0 rfl) ?_
  refine lv_bipush (v := 6) hx hb dX11_digest_251 (by decide) ?_
  refine lv_icmp_gt (tgt := 278) hx hb dX11_digest_253 (by decide) (fun c_253 => absurd c_253 (by decide)) (fun c_253 => ?_)
  refine lv_lload_n hx hb dX11_digest_256 rfl (lv_at hl 1 rfl) ?_
  refine lv_aload_n hx hb dX11_digest_257 rfl (lv_at hl 2 rfl) ?_
  refine va_get (D := D) (ci := 8) (v := .ref fl_4) (C := RX7) (T := TX7) (N := 6) (ref := "IronwoodModel$Look") hx hb hts in_RX7 hown hK hP 2 rfl rfl 4 (by decide) (hts _ (mc q_1482)) (fun _ h9 => h9) rfl dX11_digest_258 ?_
  refine lv_iconst (v := 1) hx hb dX11_digest_261 (by decide) ?_
  refine lv_iload hx hb dX11_digest_262 (lv_at hl 0 rfl) ?_
  refine kc_i (wr := [(vl, .inr (0, [.int 0, .ref ae, .int 0])), (mo, .inr (12, [.int 0, .ref vl, .ref sl])), (k_3, .inr (8, [.int (-1), .int (-1), .ref ah_5, .ref aw_6, .ref fl_4, .ref mo])), (ah_5, .inl (cS, 0, .inr (.inr (.inr (.inr (fun _ => none)))))), (aw_6, .inl (cI, 0, .inl (fun _ => 0))), (sl, .inr (0, [.int 0, .ref ae, .int 0]))]) (va_runS (As := [.ref fl_4, .int 1, .int 5]) (rest := [.long 49516294960712137]) ⟨hx, hb, hml, hown, hts⟩ (m_manyOf l hfl ae D cI cJ cS cO fl_4 1 5 _) (cwS 3 hts (gS q_1561 q_1559 q_1560 q_104) rfl rfl rfl (by decide +kernel) ⟨Nat.le_of_ble_eq_true rfl, Nat.le_of_ble_eq_true rfl⟩) ⟨Pw.blind, Pw.mk_call hP hK hD hS hA hG [6] rfl (by decide)⟩ rfl rfl hl.1 rfl (lv_room (Nat.le_of_ble_eq_true rfl)) dX11_digest_264 ⟨Nat.le_of_ble_eq_true rfl, Nat.le_of_ble_eq_true rfl⟩) hP hD hS hA [6] [0, 1, 2, 3, 4, 5] rfl rfl (by decide) (by decide) (fun r_43 u_44 H locs hw hP hD hS => ?_)
  obtain rfl : r_43 = 0 := hw
  have hP : va_P D vwCl [(vl, .inr (0, [.int 0, .ref ae, .int 0])), (mo, .inr (12, [.int 0, .ref vl, .ref sl])), (k_3, .inr (8, [.int (-1), .int (-1), .ref ah_5, .ref aw_6, .ref fl_4, .ref mo])), (ah_5, .inl (cS, 0, .inr (.inr (.inr (.inr (fun _ => none)))))), (aw_6, .inl (cI, 0, .inl (fun _ => 0))), (sl, .inr (0, [.int 0, .ref ae, .int 0])), (fl_4, .inr (0, [.int 0, .ref ae, .int 0]))] H := hP
  have hD : va_D A [(vl, .inr (0, [.int 0, .ref ae, .int 0])), (mo, .inr (12, [.int 0, .ref vl, .ref sl])), (k_3, .inr (8, [.int (-1), .int (-1), .ref ah_5, .ref aw_6, .ref fl_4, .ref mo])), (ah_5, .inl (cS, 0, .inr (.inr (.inr (.inr (fun _ => none)))))), (aw_6, .inl (cI, 0, .inl (fun _ => 0))), (sl, .inr (0, [.int 0, .ref ae, .int 0])), (fl_4, .inr (0, [.int 0, .ref ae, .int 0]))] := hD
  refine lv_i2l (v := 0) hx hb dX11_digest_267 (by decide) ?_
  refine kc_l (wr := [(vl, .inr (0, [.int 0, .ref ae, .int 0])), (mo, .inr (12, [.int 0, .ref vl, .ref sl])), (k_3, .inr (8, [.int (-1), .int (-1), .ref ah_5, .ref aw_6, .ref fl_4, .ref mo])), (ah_5, .inl (cS, 0, .inr (.inr (.inr (.inr (fun _ => none)))))), (aw_6, .inl (cI, 0, .inl (fun _ => 0))), (sl, .inr (0, [.int 0, .ref ae, .int 0])), (fl_4, .inr (0, [.int 0, .ref ae, .int 0]))]) (va_runS (As := [.long 49516294960712137, .long 0]) (rest := []) ⟨hx, hb, hml, hown, hts⟩ (m_addl l hfl ae D cI cJ cS cO 49516294960712137 0 _) (cwS 2 hts (gS q_1593 q_1591 q_1592 q_104) rfl rfl rfl (by decide +kernel) ⟨Nat.le_of_ble_eq_true rfl, Nat.le_of_ble_eq_true rfl⟩) ⟨Pw.blind, Pw.mk_call hP hK hD hS hA hG [] rfl (by decide)⟩ rfl rfl hl.1 rfl (lv_room (Nat.le_of_ble_eq_true rfl)) dX11_digest_268 ⟨Nat.le_of_ble_eq_true rfl, Nat.le_of_ble_eq_true rfl⟩) hP hD hS hA [] [0, 1, 2, 3, 4, 5, 6] rfl rfl (by decide) (by decide) (fun r_45 u_46 H locs hw hP hD hS => ?_)
  obtain rfl : r_45 = 1535005143782076247 := hw.trans (by decide)
  have hP : va_P D vwCl [(vl, .inr (0, [.int 0, .ref ae, .int 0])), (mo, .inr (12, [.int 0, .ref vl, .ref sl])), (k_3, .inr (8, [.int (-1), .int (-1), .ref ah_5, .ref aw_6, .ref fl_4, .ref mo])), (ah_5, .inl (cS, 0, .inr (.inr (.inr (.inr (fun _ => none)))))), (aw_6, .inl (cI, 0, .inl (fun _ => 0))), (sl, .inr (0, [.int 0, .ref ae, .int 0])), (fl_4, .inr (0, [.int 0, .ref ae, .int 0]))] H := hP
  have hD : va_D A [(vl, .inr (0, [.int 0, .ref ae, .int 0])), (mo, .inr (12, [.int 0, .ref vl, .ref sl])), (k_3, .inr (8, [.int (-1), .int (-1), .ref ah_5, .ref aw_6, .ref fl_4, .ref mo])), (ah_5, .inl (cS, 0, .inr (.inr (.inr (.inr (fun _ => none)))))), (aw_6, .inl (cI, 0, .inl (fun _ => 0))), (sl, .inr (0, [.int 0, .ref ae, .int 0])), (fl_4, .inr (0, [.int 0, .ref ae, .int 0]))] := hD
  refine lv_lstore_n (lv' := [(2, .long 1535005143782076247), (4, .int 5), (1, .ref k_3), (0, .ref mo)]) hx hb dX11_digest_271 rfl hl (by decide) rfl (fun ls hl => ?_)
  refine lv_iinc (v := 6) (lv' := [(4, .int 6), (2, .long 1535005143782076247), (1, .ref k_3), (0, .ref mo)]) hx hb dX11_digest_272 hl (k := 1) rfl (by decide) (by decide) rfl (fun ls hl => ?_)
  refine lv_goto (tgt := 249) hx hb dX11_digest_275 (by decide) ?_
  refine lv_iload hx hb dX11_digest_249 (lv_at hl 0 rfl) ?_
  refine lv_bipush (v := 6) hx hb dX11_digest_251 (by decide) ?_
  refine lv_icmp_gt (tgt := 278) hx hb dX11_digest_253 (by decide) (fun c_253 => absurd c_253 (by decide)) (fun c_253 => ?_)
  refine lv_lload_n hx hb dX11_digest_256 rfl (lv_at hl 1 rfl) ?_
  refine lv_aload_n hx hb dX11_digest_257 rfl (lv_at hl 2 rfl) ?_
  refine va_get (D := D) (ci := 8) (v := .ref fl_4) (C := RX7) (T := TX7) (N := 6) (ref := "IronwoodModel$Look") hx hb hts in_RX7 hown hK hP 2 rfl rfl 4 (by decide) (hts _ (mc q_1482)) (fun _ h9 => h9) rfl dX11_digest_258 ?_
  refine lv_iconst (v := 1) hx hb dX11_digest_261 (by decide) ?_
  refine lv_iload hx hb dX11_digest_262 (lv_at hl 0 rfl) ?_
  refine kc_i (wr := [(vl, .inr (0, [.int 0, .ref ae, .int 0])), (mo, .inr (12, [.int 0, .ref vl, .ref sl])), (k_3, .inr (8, [.int (-1), .int (-1), .ref ah_5, .ref aw_6, .ref fl_4, .ref mo])), (ah_5, .inl (cS, 0, .inr (.inr (.inr (.inr (fun _ => none)))))), (aw_6, .inl (cI, 0, .inl (fun _ => 0))), (sl, .inr (0, [.int 0, .ref ae, .int 0]))]) (va_runS (As := [.ref fl_4, .int 1, .int 6]) (rest := [.long 1535005143782076247]) ⟨hx, hb, hml, hown, hts⟩ (m_manyOf l hfl ae D cI cJ cS cO fl_4 1 6 _) (cwS 3 hts (gS q_1561 q_1559 q_1560 q_104) rfl rfl rfl (by decide +kernel) ⟨Nat.le_of_ble_eq_true rfl, Nat.le_of_ble_eq_true rfl⟩) ⟨Pw.blind, Pw.mk_call hP hK hD hS hA hG [6] rfl (by decide)⟩ rfl rfl hl.1 rfl (lv_room (Nat.le_of_ble_eq_true rfl)) dX11_digest_264 ⟨Nat.le_of_ble_eq_true rfl, Nat.le_of_ble_eq_true rfl⟩) hP hD hS hA [6] [0, 1, 2, 3, 4, 5] rfl rfl (by decide) (by decide) (fun r_47 u_48 H locs hw hP hD hS => ?_)
  obtain rfl : r_47 = 0 := hw
  have hP : va_P D vwCl [(vl, .inr (0, [.int 0, .ref ae, .int 0])), (mo, .inr (12, [.int 0, .ref vl, .ref sl])), (k_3, .inr (8, [.int (-1), .int (-1), .ref ah_5, .ref aw_6, .ref fl_4, .ref mo])), (ah_5, .inl (cS, 0, .inr (.inr (.inr (.inr (fun _ => none)))))), (aw_6, .inl (cI, 0, .inl (fun _ => 0))), (sl, .inr (0, [.int 0, .ref ae, .int 0])), (fl_4, .inr (0, [.int 0, .ref ae, .int 0]))] H := hP
  have hD : va_D A [(vl, .inr (0, [.int 0, .ref ae, .int 0])), (mo, .inr (12, [.int 0, .ref vl, .ref sl])), (k_3, .inr (8, [.int (-1), .int (-1), .ref ah_5, .ref aw_6, .ref fl_4, .ref mo])), (ah_5, .inl (cS, 0, .inr (.inr (.inr (.inr (fun _ => none)))))), (aw_6, .inl (cI, 0, .inl (fun _ => 0))), (sl, .inr (0, [.int 0, .ref ae, .int 0])), (fl_4, .inr (0, [.int 0, .ref ae, .int 0]))] := hD
  refine lv_i2l (v := 0) hx hb dX11_digest_267 (by decide) ?_
  refine kc_l (wr := [(vl, .inr (0, [.int 0, .ref ae, .int 0])), (mo, .inr (12, [.int 0, .ref vl, .ref sl])), (k_3, .inr (8, [.int (-1), .int (-1), .ref ah_5, .ref aw_6, .ref fl_4, .ref mo])), (ah_5, .inl (cS, 0, .inr (.inr (.inr (.inr (fun _ => none)))))), (aw_6, .inl (cI, 0, .inl (fun _ => 0))), (sl, .inr (0, [.int 0, .ref ae, .int 0])), (fl_4, .inr (0, [.int 0, .ref ae, .int 0]))]) (va_runS (As := [.long 1535005143782076247, .long 0]) (rest := []) ⟨hx, hb, hml, hown, hts⟩ (m_addl l hfl ae D cI cJ cS cO 1535005143782076247 0 _) (cwS 2 hts (gS q_1593 q_1591 q_1592 q_104) rfl rfl rfl (by decide +kernel) ⟨Nat.le_of_ble_eq_true rfl, Nat.le_of_ble_eq_true rfl⟩) ⟨Pw.blind, Pw.mk_call hP hK hD hS hA hG [] rfl (by decide)⟩ rfl rfl hl.1 rfl (lv_room (Nat.le_of_ble_eq_true rfl)) dX11_digest_268 ⟨Nat.le_of_ble_eq_true rfl, Nat.le_of_ble_eq_true rfl⟩) hP hD hS hA [] [0, 1, 2, 3, 4, 5, 6] rfl rfl (by decide) (by decide) (fun r_49 u_50 H locs hw hP hD hS => ?_)
  obtain rfl : r_49 = (-7755072763884291191) := hw.trans (by decide)
  have hP : va_P D vwCl [(vl, .inr (0, [.int 0, .ref ae, .int 0])), (mo, .inr (12, [.int 0, .ref vl, .ref sl])), (k_3, .inr (8, [.int (-1), .int (-1), .ref ah_5, .ref aw_6, .ref fl_4, .ref mo])), (ah_5, .inl (cS, 0, .inr (.inr (.inr (.inr (fun _ => none)))))), (aw_6, .inl (cI, 0, .inl (fun _ => 0))), (sl, .inr (0, [.int 0, .ref ae, .int 0])), (fl_4, .inr (0, [.int 0, .ref ae, .int 0]))] H := hP
  have hD : va_D A [(vl, .inr (0, [.int 0, .ref ae, .int 0])), (mo, .inr (12, [.int 0, .ref vl, .ref sl])), (k_3, .inr (8, [.int (-1), .int (-1), .ref ah_5, .ref aw_6, .ref fl_4, .ref mo])), (ah_5, .inl (cS, 0, .inr (.inr (.inr (.inr (fun _ => none)))))), (aw_6, .inl (cI, 0, .inl (fun _ => 0))), (sl, .inr (0, [.int 0, .ref ae, .int 0])), (fl_4, .inr (0, [.int 0, .ref ae, .int 0]))] := hD
  refine lv_lstore_n (lv' := [(2, .long (-7755072763884291191)), (4, .int 6), (1, .ref k_3), (0, .ref mo)]) hx hb dX11_digest_271 rfl hl (by decide) rfl (fun ls hl => ?_)
  refine lv_iinc (v := 7) (lv' := [(4, .int 7), (2, .long (-7755072763884291191)), (1, .ref k_3), (0, .ref mo)]) hx hb dX11_digest_272 hl (k := 1) rfl (by decide) (by decide) rfl (fun ls hl => ?_)
  refine lv_goto (tgt := 249) hx hb dX11_digest_275 (by decide) ?_
  refine lv_iload hx hb dX11_digest_249 (lv_at hl 0 rfl) ?_
  refine lv_bipush (v := 6) hx hb dX11_digest_251 (by decide) ?_
  refine lv_icmp_gt (tgt := 278) hx hb dX11_digest_253 (by decide) (fun c_253 => ?_) (fun c_253 => absurd (by decide) c_253)
  refine lv_lload_n hx hb dX11_digest_278 rfl (lv_at hl 1 rfl) ?_
  have hP := hP.sub (ws' := [(mo, .inr (12, [.int 0, .ref vl, .ref sl])), (vl, .inr (0, [.int 0, .ref ae, .int 0])), (sl, .inr (0, [.int 0, .ref ae, .int 0]))]) [1, 0, 5] rfl
  have hD := hD.sub (ws' := [(mo, .inr (12, [.int 0, .ref vl, .ref sl])), (vl, .inr (0, [.int 0, .ref ae, .int 0])), (sl, .inr (0, [.int 0, .ref ae, .int 0]))]) [1, 0, 5] (by decide) rfl
  exact ke_l hx hb hr () (rfl) hP hD hS (Nat.le_of_ble_eq_true rfl) (Nat.le_of_ble_eq_true rfl) hlocks dX11_digest_279

set_option maxHeartbeats 4000000 in
set_option maxRecDepth 100000 in
theorem m_variable_x (l : Launch) (hfl : l.stackTraces = false) (ae : Nat) (D : va_G) (cI cJ cS cO : ClassId) (mo : Nat) (vl : Nat) (sl : Nat) (v : Int32) (fl : Int32) (sz : Nat) (hv : ¬ (0 ≤ v ∧ v ≤ 3)) : Met l yX11_variable (wx (.code yX11_variable cX11_variable 3 (some .int))) ({ frames := 2, cells := 0, slots := 0, locals := 44 }) (va_Pc [.ref mo, .int v, .int fl] (Pw ae D vwCl [(cI, .int), (cJ, .long), (cS, .object "IronwoodModel$State"), (cO, .object "java/lang/Object")] [(mo, .inr (12, [.int 0, .ref vl, .ref sl])), (vl, .inr (0, [.int 0, .ref ae, .int 0]))] sz)) (va_Qi (fun (r : Int32) (u : Unit) => r = 0) (Bw D vwCl (fun (u : Unit) => [(mo, .inr (12, [.int 1, .ref vl, .ref sl])), (vl, .inr (0, [.int 0, .ref ae, .int 0]))]) (va_A [(mo, .inr (12, [.int 0, .ref vl, .ref sl])), (vl, .inr (0, [.int 0, .ref ae, .int 0]))] sz)) (va_A [(mo, .inr (12, [.int 0, .ref vl, .ref sl])), (vl, .inr (0, [.int 0, .ref ae, .int 0]))] sz)) 0 0 (va_A [(mo, .inr (12, [.int 0, .ref vl, .ref sl])), (vl, .inr (0, [.int 0, .ref ae, .int 0]))] sz) := by
  refine Met.ofW (cc := cX11_variable) (maxL := 3) (ret := (some .int)) (by decide) rfl ?_
  intro p e s m args below meth c s₁ B hml hv9
  obtain ⟨rfl, hsz, hP, hK, hD0, hG⟩ := hv9
  have hx := B.exec
  have hb := B.bytes
  have hr := B.returns
  have hts := atoms_spec (ws := wx (.code yX11_variable cX11_variable 3 (some .int))) B.pre
  have hown : s.vm.findClass RX11 = some m.cls := findClass_of_methodNamed B.named
  have hlocks := B.notSynchronized
  subst hsz
  have hD := hD0.self (sz := s.heap.size)
  generalize hAe : va_A [(mo, .inr (12, [.int 0, .ref vl, .ref sl])), (vl, .inr (0, [.int 0, .ref ae, .int 0]))] s.heap.size = A at hD hG ⊢
  have hA : ∀ q : Nat, s.heap.size ≤ q → A q := fun q h => by rw [← hAe]; exact Or.inr h
  have hS : va_S A s.heap s.heap [] := va_S.rf
  have hP : va_P D vwCl [(mo, .inr (12, [.int 0, .ref vl, .ref sl])), (vl, .inr (0, [.int 0, .ref ae, .int 0]))] s.heap := hP
  have hl := lv_entry ([.ref mo, .int v, .int fl]) (n := 3) (Nat.le_of_ble_eq_true rfl)
  rw [lg_entry_eq]
  generalize (lg_sl ([.ref mo, .int v, .int fl]) ++ List.replicate (3 - (lg_sl ([.ref mo, .int v, .int fl])).length) Slot.unset).toArray = ls at hl ⊢
  have hl : lv_has ls 3 [(0, .ref mo), (1, .int v), (2, .int fl)] := hl
  refine lv_aload_n hx hb dX11_variable_0 rfl (lv_at hl 0 rfl) ?_
  refine lv_iload_n hx hb dX11_variable_1 rfl (lv_at hl 1 rfl) ?_
  refine lv_iconst (v := 0) hx hb dX11_variable_2 (by decide) ?_
  refine lv_iconst (v := 3) hx hb dX11_variable_3 (by decide) ?_
  refine kc_i (wr := [(mo, .inr (12, [.int 0, .ref vl, .ref sl])), (vl, .inr (0, [.int 0, .ref ae, .int 0]))]) (va_runS (As := [.int v, .int 0, .int 3]) (rest := [.ref mo]) ⟨hx, hb, hml, hown, hts⟩ (k_isIn_n l hfl ae D cI cJ cS cO v 0 3 _ hv) (cwS 3 hts (gS q_1024 q_1022 q_1023 q_104) rfl rfl rfl (by decide +kernel) ⟨Nat.le_of_ble_eq_true rfl, Nat.le_of_ble_eq_true rfl⟩) ⟨Pw.blind, Pw.mk_call hP hK hD hS hA hG [] rfl (by decide)⟩ rfl rfl hl.1 rfl (lv_room (Nat.le_of_ble_eq_true rfl)) dX11_variable_4 ⟨Nat.le_of_ble_eq_true rfl, Nat.le_of_ble_eq_true rfl⟩) hP hD hS hA [] [0, 1] rfl rfl (by decide) (by decide) (fun r_1 u_2 H locs hw hP hD hS => ?_)
  obtain rfl : r_1 = 0 := hw
  have hP : va_P D vwCl [(mo, .inr (12, [.int 0, .ref vl, .ref sl])), (vl, .inr (0, [.int 0, .ref ae, .int 0]))] H := hP
  have hD : va_D A [(mo, .inr (12, [.int 0, .ref vl, .ref sl])), (vl, .inr (0, [.int 0, .ref ae, .int 0]))] := hD
  refine lv_if_ne (tgt := 14) hx hb dX11_variable_7 (by decide) (fun c_7 => absurd (by decide) c_7) (fun c_7 => ?_)
  refine lv_iconst (v := 1) hx hb dX11_variable_10 (by decide) ?_
  refine lv_goto (tgt := 15) hx hb dX11_variable_11 (by decide) ?_
  refine lv_iconst (v := 1) hx hb dX11_variable_15 (by decide) ?_
  refine kc_i (wr := [(vl, .inr (0, [.int 0, .ref ae, .int 0]))]) (va_runV (As := [.int 1, .int 1]) (rest := []) ⟨hx, hb, hml, hown, hts⟩ (k_start_1 l hfl ae D cI cJ cS cO mo vl sl 0 1 _ (by decide)) (cwV 2 hts (gV q_1028 q_1025 q_1027 q_63 q_104) rfl rfl rfl (by decide +kernel) ⟨Nat.le_of_ble_eq_true rfl, Nat.le_of_ble_eq_true rfl⟩) ⟨Pw.blind, va_recv hK hP (ci := 12) (q0 := 0) rfl rfl, Pw.mk_call hP hK hD hS hA hG [0] rfl (by decide)⟩ rfl rfl hl.1 rfl (lv_room (Nat.le_of_ble_eq_true rfl)) dX11_variable_16 ⟨Nat.le_of_ble_eq_true rfl, Nat.le_of_ble_eq_true rfl⟩) hP hD hS hA [0] [1] rfl rfl (by decide) (by decide) (fun r_3 u_4 H locs hw hP hD hS => ?_)
  obtain rfl : r_3 = 1 := hw
  have hP : va_P D vwCl [(vl, .inr (0, [.int 0, .ref ae, .int 0])), (mo, .inr (12, [.int 1, .ref vl, .ref sl]))] H := hP
  have hD : va_D A [(vl, .inr (0, [.int 0, .ref ae, .int 0])), (mo, .inr (12, [.int 1, .ref vl, .ref sl]))] := hD
  refine lv_if_ne (tgt := 47) hx hb dX11_variable_19 (by decide) (fun c_19 => ?_) (fun c_19 => absurd c_19 (by decide))
  refine lv_iconst (v := 0) hx hb dX11_variable_47 (by decide) ?_
  have hP := hP.sub (ws' := [(mo, .inr (12, [.int 1, .ref vl, .ref sl])), (vl, .inr (0, [.int 0, .ref ae, .int 0]))]) [1, 0] rfl
  have hD := hD.sub (ws' := [(mo, .inr (12, [.int 1, .ref vl, .ref sl])), (vl, .inr (0, [.int 0, .ref ae, .int 0]))]) [1, 0] (by decide) rfl
  exact ke_i hx hb hr (by first | rfl | decide) () (rfl) hP hD hS (Nat.le_of_ble_eq_true rfl) (Nat.le_of_ble_eq_true rfl) hlocks dX11_variable_48

set_option maxHeartbeats 4000000 in
set_option maxRecDepth 100000 in
theorem m_variable (l : Launch) (hfl : l.stackTraces = false) (ae : Nat) (D : va_G) (cI cJ cS cO : ClassId) (mo : Nat) (vl : Nat) (sl : Nat) (v : Int32) (fl : Int32) (sz : Nat) (hv : 0 ≤ v ∧ v ≤ 3) (hfb : fl = 0 ∨ fl = 1) : Met l yX11_variable (wx (.code yX11_variable cX11_variable 3 (some .int))) ({ frames := 5, cells := 2, slots := 12, locals := 101 }) (va_Pc [.ref mo, .int v, .int fl] (Pw ae D vwCl [(cI, .int), (cJ, .long), (cS, .object "IronwoodModel$State"), (cO, .object "java/lang/Object")] [(mo, .inr (12, [.int 0, .ref vl, .ref sl])), (vl, .inr (0, [.int 0, .ref ae, .int 0]))] sz)) (va_Qi (fun (r : Int32) (u : Unit) => r = 0) (Bw D vwCl (fun (u : Unit) => [(mo, .inr (12, [.int 0, .ref vl, .ref sl]))]) (va_A [(mo, .inr (12, [.int 0, .ref vl, .ref sl])), (vl, .inr (0, [.int 0, .ref ae, .int 0]))] sz)) (va_A [(mo, .inr (12, [.int 0, .ref vl, .ref sl])), (vl, .inr (0, [.int 0, .ref ae, .int 0]))] sz)) 2 12 (va_A [(mo, .inr (12, [.int 0, .ref vl, .ref sl])), (vl, .inr (0, [.int 0, .ref ae, .int 0]))] sz) := by
  refine Met.ofW (cc := cX11_variable) (maxL := 3) (ret := (some .int)) (by decide) rfl ?_
  intro p e s m args below meth c s₁ B hml hv9
  obtain ⟨rfl, hsz, hP, hK, hD0, hG⟩ := hv9
  have hx := B.exec
  have hb := B.bytes
  have hr := B.returns
  have hts := atoms_spec (ws := wx (.code yX11_variable cX11_variable 3 (some .int))) B.pre
  have hown : s.vm.findClass RX11 = some m.cls := findClass_of_methodNamed B.named
  have hlocks := B.notSynchronized
  subst hsz
  have hD := hD0.self (sz := s.heap.size)
  generalize hAe : va_A [(mo, .inr (12, [.int 0, .ref vl, .ref sl])), (vl, .inr (0, [.int 0, .ref ae, .int 0]))] s.heap.size = A at hD hG ⊢
  have hA : ∀ q : Nat, s.heap.size ≤ q → A q := fun q h => by rw [← hAe]; exact Or.inr h
  have hS : va_S A s.heap s.heap [] := va_S.rf
  have hP : va_P D vwCl [(mo, .inr (12, [.int 0, .ref vl, .ref sl])), (vl, .inr (0, [.int 0, .ref ae, .int 0]))] s.heap := hP
  have hl := lv_entry ([.ref mo, .int v, .int fl]) (n := 3) (Nat.le_of_ble_eq_true rfl)
  rw [lg_entry_eq]
  generalize (lg_sl ([.ref mo, .int v, .int fl]) ++ List.replicate (3 - (lg_sl ([.ref mo, .int v, .int fl])).length) Slot.unset).toArray = ls at hl ⊢
  have hl : lv_has ls 3 [(0, .ref mo), (1, .int v), (2, .int fl)] := hl
  refine lv_aload_n hx hb dX11_variable_0 rfl (lv_at hl 0 rfl) ?_
  refine lv_iload_n hx hb dX11_variable_1 rfl (lv_at hl 1 rfl) ?_
  refine lv_iconst (v := 0) hx hb dX11_variable_2 (by decide) ?_
  refine lv_iconst (v := 3) hx hb dX11_variable_3 (by decide) ?_
  refine kc_i (wr := [(mo, .inr (12, [.int 0, .ref vl, .ref sl])), (vl, .inr (0, [.int 0, .ref ae, .int 0]))]) (va_runS (As := [.int v, .int 0, .int 3]) (rest := [.ref mo]) ⟨hx, hb, hml, hown, hts⟩ (k_isIn_y l hfl ae D cI cJ cS cO v 0 3 _ hv) (cwS 3 hts (gS q_1024 q_1022 q_1023 q_104) rfl rfl rfl (by decide +kernel) ⟨Nat.le_of_ble_eq_true rfl, Nat.le_of_ble_eq_true rfl⟩) ⟨Pw.blind, Pw.mk_call hP hK hD hS hA hG [] rfl (by decide)⟩ rfl rfl hl.1 rfl (lv_room (Nat.le_of_ble_eq_true rfl)) dX11_variable_4 ⟨Nat.le_of_ble_eq_true rfl, Nat.le_of_ble_eq_true rfl⟩) hP hD hS hA [] [0, 1] rfl rfl (by decide) (by decide) (fun r_1 u_2 H locs hw hP hD hS => ?_)
  obtain rfl : r_1 = 1 := hw
  have hP : va_P D vwCl [(mo, .inr (12, [.int 0, .ref vl, .ref sl])), (vl, .inr (0, [.int 0, .ref ae, .int 0]))] H := hP
  have hD : va_D A [(mo, .inr (12, [.int 0, .ref vl, .ref sl])), (vl, .inr (0, [.int 0, .ref ae, .int 0]))] := hD
  refine lv_if_ne (tgt := 14) hx hb dX11_variable_7 (by decide) (fun c_7 => ?_) (fun c_7 => absurd c_7 (by decide))
  refine lv_iconst (v := 0) hx hb dX11_variable_14 (by decide) ?_
  refine lv_iconst (v := 1) hx hb dX11_variable_15 (by decide) ?_
  refine kc_i (wr := [(vl, .inr (0, [.int 0, .ref ae, .int 0]))]) (va_runV (As := [.int 0, .int 1]) (rest := []) ⟨hx, hb, hml, hown, hts⟩ (k_start_0 l hfl ae D cI cJ cS cO mo vl sl 0 1 _) (cwV 2 hts (gV q_1028 q_1025 q_1027 q_63 q_104) rfl rfl rfl (by decide +kernel) ⟨Nat.le_of_ble_eq_true rfl, Nat.le_of_ble_eq_true rfl⟩) ⟨Pw.blind, va_recv hK hP (ci := 12) (q0 := 0) rfl rfl, Pw.mk_call hP hK hD hS hA hG [0] rfl (by decide)⟩ rfl rfl hl.1 rfl (lv_room (Nat.le_of_ble_eq_true rfl)) dX11_variable_16 ⟨Nat.le_of_ble_eq_true rfl, Nat.le_of_ble_eq_true rfl⟩) hP hD hS hA [0] [1] rfl rfl (by decide) (by decide) (fun r_3 u_4 H locs hw hP hD hS => ?_)
  obtain rfl : r_3 = 0 := hw
  have hP : va_P D vwCl [(vl, .inr (0, [.int 0, .ref ae, .int 0])), (mo, .inr (12, [.int 0, .ref vl, .ref sl]))] H := hP
  have hD : va_D A [(vl, .inr (0, [.int 0, .ref ae, .int 0])), (mo, .inr (12, [.int 0, .ref vl, .ref sl]))] := hD
  refine lv_if_ne (tgt := 47) hx hb dX11_variable_19 (by decide) (fun c_19 => absurd (by decide) c_19) (fun c_19 => ?_)
  refine lv_aload_n hx hb dX11_variable_22 rfl (lv_at hl 0 rfl) ?_
  refine lv_aload_n hx hb dX11_variable_23 rfl (lv_at hl 0 rfl) ?_
  refine va_get (D := D) (ci := 12) (v := .ref vl) (C := RX11) (T := TX11) (N := 3) (ref := "IronwoodModel") hx hb hts in_RX11 hown hK hP 1 rfl rfl 1 (by decide) (hts _ (mc q_1003)) (fun _ h9 => h9) rfl dX11_variable_24 ?_
  refine kc_i (wr := [(mo, .inr (12, [.int 0, .ref vl, .ref sl]))]) (va_runV (As := []) (rest := [.ref mo]) ⟨hx, hb, hml, hown, hts⟩ (k_al_size l hfl ae D cI cJ cS cO vl 0 ae 0 _) (cwV 0 hts (gV q_1036 q_1033 q_1034 q_1035 q_107) rfl rfl rfl (by decide +kernel) ⟨Nat.le_of_ble_eq_true rfl, Nat.le_of_ble_eq_true rfl⟩) ⟨Pw.blind, va_recv hK hP (ci := 0) (q0 := 0) rfl rfl, Pw.mk_call hP hK hD hS hA hG [0] rfl (by decide)⟩ rfl rfl hl.1 rfl (lv_room (Nat.le_of_ble_eq_true rfl)) dX11_variable_27 ⟨Nat.le_of_ble_eq_true rfl, Nat.le_of_ble_eq_true rfl⟩) hP hD hS hA [0] [1] rfl rfl (by decide) (by decide) (fun r_5 u_6 H locs hw hP hD hS => ?_)
  obtain rfl : r_5 = 0 := hw
  have hP : va_P D vwCl [(mo, .inr (12, [.int 0, .ref vl, .ref sl])), (vl, .inr (0, [.int 0, .ref ae, .int 0]))] H := hP
  have hD : va_D A [(mo, .inr (12, [.int 0, .ref vl, .ref sl])), (vl, .inr (0, [.int 0, .ref ae, .int 0]))] := hD
  refine lv_bipush (v := 12) hx hb dX11_variable_30 (by decide) ?_
  refine lv_icmp_ne (tgt := 39) hx hb dX11_variable_32 (by decide) (fun c_32 => ?_) (fun c_32 => absurd c_32 (by decide))
  refine lv_iconst (v := 0) hx hb dX11_variable_39 (by decide) ?_
  refine lv_iconst (v := 2) hx hb dX11_variable_40 (by decide) ?_
  refine kc_i (wr := [(vl, .inr (0, [.int 0, .ref ae, .int 0]))]) (va_runV (As := [.int 0, .int 2]) (rest := []) ⟨hx, hb, hml, hown, hts⟩ (k_refuse_0 l hfl ae D cI cJ cS cO mo vl sl 2 _) (cwV 2 hts (gV q_1032 q_1029 q_1031 q_64 q_104) rfl rfl rfl (by decide +kernel) ⟨Nat.le_of_ble_eq_true rfl, Nat.le_of_ble_eq_true rfl⟩) ⟨Pw.blind, va_recv hK hP (ci := 12) (q0 := 0) rfl rfl, Pw.mk_call hP hK hD hS hA hG [0] rfl (by decide)⟩ rfl rfl hl.1 rfl (lv_room (Nat.le_of_ble_eq_true rfl)) dX11_variable_41 ⟨Nat.le_of_ble_eq_true rfl, Nat.le_of_ble_eq_true rfl⟩) hP hD hS hA [0] [1] rfl rfl (by decide) (by decide) (fun r_7 u_8 H locs hw hP hD hS => ?_)
  obtain rfl : r_7 = 0 := hw
  have hP : va_P D vwCl [(vl, .inr (0, [.int 0, .ref ae, .int 0])), (mo, .inr (12, [.int 0, .ref vl, .ref sl]))] H := hP
  have hD : va_D A [(vl, .inr (0, [.int 0, .ref ae, .int 0])), (mo, .inr (12, [.int 0, .ref vl, .ref sl]))] := hD
  refine lv_if_eq (tgt := 49) hx hb dX11_variable_44 (by decide) (fun c_44 => ?_) (fun c_44 => absurd (by decide) c_44)
  refine lv_aload_n hx hb dX11_variable_49 rfl (lv_at hl 0 rfl) ?_
  refine va_get (D := D) (ci := 12) (v := .ref vl) (C := RX11) (T := TX11) (N := 3) (ref := "IronwoodModel") hx hb hts in_RX11 hown hK hP 1 rfl rfl 1 (by decide) (hts _ (mc q_1003)) (fun _ h9 => h9) rfl dX11_variable_50 ?_
  refine va_new (ci := 11) (fs := [.int 0, .int 0]) (C := RX10) (T := TX10) (N := 2) hx hb hts in_RX10 tyX10 tyX10_ok hown (hts _ (mc q_1037)) (hts _ (mc q_1038)) (hts _ (mc q_113)) hK hP hD hS hA rfl (fun j hj => by rcases (show j = 0 ∨ j = 1 by omega) with rfl | rfl <;> rfl) (Nat.le_of_ble_eq_true rfl) (Nat.le_of_ble_eq_true rfl) dX11_variable_53 (fun q_9 H hP hD hS => ?_)
  have hP : va_P D vwCl [(vl, .inr (0, [.int 0, .ref ae, .int 0])), (mo, .inr (12, [.int 0, .ref vl, .ref sl])), (q_9, .inr (11, [.int 0, .int 0]))] H := hP
  have hD : va_D A [(vl, .inr (0, [.int 0, .ref ae, .int 0])), (mo, .inr (12, [.int 0, .ref vl, .ref sl])), (q_9, .inr (11, [.int 0, .int 0]))] := hD
  refine lv_dup hx hb dX11_variable_56 rfl ?_
  refine lv_iload_n hx hb dX11_variable_57 rfl (lv_at hl 1 rfl) ?_
  refine lv_iload_n hx hb dX11_variable_58 rfl (lv_at hl 2 rfl) ?_
  refine kc_v (wr := [(vl, .inr (0, [.int 0, .ref ae, .int 0])), (mo, .inr (12, [.int 0, .ref vl, .ref sl]))]) (va_runI (As := [.int v, .int fl]) (rest := [.ref q_9, .ref vl]) ⟨hx, hb, hml, hown, hts⟩ (k_Variable_init l hfl ae D cI cJ cS cO q_9 v fl _ hfb) (cwI 2 hts (gB q_1041) rfl rfl rfl (hts _ (mc q_113)) (hts _ (mc q_1039)) (hts _ (mc q_1040)) rfl (by decide +kernel) ⟨Nat.le_of_ble_eq_true rfl, Nat.le_of_ble_eq_true rfl⟩) ⟨Pw.blind, Pw.mk_call hP hK hD hS hA hG [2] rfl (by decide)⟩ rfl rfl hl.1 rfl (lv_room (Nat.le_of_ble_eq_true rfl)) dX11_variable_59 ⟨Nat.le_of_ble_eq_true rfl, Nat.le_of_ble_eq_true rfl⟩) hP hD hS hA [2] [0, 1] rfl rfl (by decide) (by decide) (fun u_11 H locs hw hP hD hS => ?_)
  have hP : va_P D vwCl [(vl, .inr (0, [.int 0, .ref ae, .int 0])), (mo, .inr (12, [.int 0, .ref vl, .ref sl])), (q_9, .inr (11, [.int v, .int fl]))] H := hP
  have hD : va_D A [(vl, .inr (0, [.int 0, .ref ae, .int 0])), (mo, .inr (12, [.int 0, .ref vl, .ref sl])), (q_9, .inr (11, [.int v, .int fl]))] := hD
  refine kc_i (wr := [(mo, .inr (12, [.int 0, .ref vl, .ref sl]))]) (va_runV (As := [.ref q_9]) (rest := []) ⟨hx, hb, hml, hown, hts⟩ (k_al_add_var l hfl ae D cI cJ cS cO vl q_9 v fl _) (cwV 1 hts (gV q_1056 q_1053 q_1054 q_1055 q_107) rfl rfl rfl (by decide +kernel) ⟨Nat.le_of_ble_eq_true rfl, Nat.le_of_ble_eq_true rfl⟩) ⟨Pw.blind, va_recv hK hP (ci := 0) (q0 := 0) rfl rfl, Pw.mk_call hP hK hD hS hA hG [0, 2] rfl (by decide)⟩ rfl rfl hl.1 rfl (lv_room (Nat.le_of_ble_eq_true rfl)) dX11_variable_62 ⟨Nat.le_of_ble_eq_true rfl, Nat.le_of_ble_eq_true rfl⟩) hP hD hS hA [0, 2] [1] rfl rfl (by decide) (by decide) (fun r_12 u_13 H locs hw hP hD hS => ?_)
  obtain ⟨q_14, g_15⟩ := u_13
  obtain rfl : r_12 = 1 := hw
  have hP : va_P D vwCl [(mo, .inr (12, [.int 0, .ref vl, .ref sl])), (vl, .inr (0, [.int 1, .ref q_14, .int 1])), (q_9, .inr (11, [.int v, .int fl])), (q_14, .inl (cO, 10, .inr (.inr (.inr (.inr g_15)))))] H := hP
  have hD : va_D A [(mo, .inr (12, [.int 0, .ref vl, .ref sl])), (vl, .inr (0, [.int 1, .ref q_14, .int 1])), (q_9, .inr (11, [.int v, .int fl])), (q_14, .inl (cO, 10, .inr (.inr (.inr (.inr g_15)))))] := hD
  refine lv_pop hx hb dX11_variable_65 rfl ?_
  refine lv_aload_n hx hb dX11_variable_66 rfl (lv_at hl 0 rfl) ?_
  refine va_get (D := D) (ci := 12) (v := .ref vl) (C := RX11) (T := TX11) (N := 3) (ref := "IronwoodModel") hx hb hts in_RX11 hown hK hP 0 rfl rfl 1 (by decide) (hts _ (mc q_1003)) (fun _ h9 => h9) rfl dX11_variable_67 ?_
  refine kc_i (wr := [(mo, .inr (12, [.int 0, .ref vl, .ref sl])), (q_9, .inr (11, [.int v, .int fl])), (q_14, .inl (cO, 10, .inr (.inr (.inr (.inr g_15)))))]) (va_runV (As := []) (rest := []) ⟨hx, hb, hml, hown, hts⟩ (k_al_size l hfl ae D cI cJ cS cO vl 1 q_14 1 _) (cwV 0 hts (gV q_1036 q_1033 q_1034 q_1035 q_107) rfl rfl rfl (by decide +kernel) ⟨Nat.le_of_ble_eq_true rfl, Nat.le_of_ble_eq_true rfl⟩) ⟨Pw.blind, va_recv hK hP (ci := 0) (q0 := 1) rfl rfl, Pw.mk_call hP hK hD hS hA hG [1] rfl (by decide)⟩ rfl rfl hl.1 rfl (lv_room (Nat.le_of_ble_eq_true rfl)) dX11_variable_70 ⟨Nat.le_of_ble_eq_true rfl, Nat.le_of_ble_eq_true rfl⟩) hP hD hS hA [1] [0, 2, 3] rfl rfl (by decide) (by decide) (fun r_16 u_17 H locs hw hP hD hS => ?_)
  obtain rfl : r_16 = 1 := hw
  have hP : va_P D vwCl [(mo, .inr (12, [.int 0, .ref vl, .ref sl])), (q_9, .inr (11, [.int v, .int fl])), (q_14, .inl (cO, 10, .inr (.inr (.inr (.inr g_15))))), (vl, .inr (0, [.int 1, .ref q_14, .int 1]))] H := hP
  have hD : va_D A [(mo, .inr (12, [.int 0, .ref vl, .ref sl])), (q_9, .inr (11, [.int v, .int fl])), (q_14, .inl (cO, 10, .inr (.inr (.inr (.inr g_15))))), (vl, .inr (0, [.int 1, .ref q_14, .int 1]))] := hD
  refine lv_iconst (v := 1) hx hb dX11_variable_73 (by decide) ?_
  refine lv_isub hx hb dX11_variable_74 ?_
  refine lv_topi (fun x_18 ex_18 => ?_)
  obtain rfl : x_18 = 0 := ex_18.trans (by decide)
  have hP := hP.sub (ws' := [(mo, .inr (12, [.int 0, .ref vl, .ref sl]))]) [0] rfl
  have hD := hD.sub (ws' := [(mo, .inr (12, [.int 0, .ref vl, .ref sl]))]) [0] (by decide) rfl
  exact ke_i hx hb hr (by first | rfl | decide) () (rfl) hP hD hS (Nat.le_of_ble_eq_true rfl) (Nat.le_of_ble_eq_true rfl) hlocks dX11_variable_75

set_option maxHeartbeats 4000000 in
set_option maxRecDepth 100000 in
theorem m_add (l : Launch) (hfl : l.stackTraces = false) (ae : Nat) (D : va_G) (cI cJ cS cO : ClassId) (mo : Nat) (vl : Nat) (sl : Nat) (a0 : Int32) (a1 : Int32) (a2 : Int32) (a3 : Int32) (a4 : Int32) (a5 : Int32) (a6 : Int32) (sz : Nat)  : Met l yX11_add (wx (.code yX11_add cX11_add 8 (some .int))) ({ frames := 5, cells := 2, slots := 16, locals := 101 }) (va_Pc [.ref mo, .int a0, .int a1, .int a2, .int a3, .int a4, .int a5, .int a6] (Pw ae D vwCl [(cI, .int), (cJ, .long), (cS, .object "IronwoodModel$State"), (cO, .object "java/lang/Object")] [(mo, .inr (12, [.int 0, .ref vl, .ref sl])), (sl, .inr (0, [.int 0, .ref ae, .int 0]))] sz)) (va_Qi (fun (r : Int32) (u : Unit) => r = 0) (Bw D vwCl (fun (u : Unit) => [(mo, .inr (12, [.int 0, .ref vl, .ref sl]))]) (va_A [(mo, .inr (12, [.int 0, .ref vl, .ref sl])), (sl, .inr (0, [.int 0, .ref ae, .int 0]))] sz)) (va_A [(mo, .inr (12, [.int 0, .ref vl, .ref sl])), (sl, .inr (0, [.int 0, .ref ae, .int 0]))] sz)) 2 16 (va_A [(mo, .inr (12, [.int 0, .ref vl, .ref sl])), (sl, .inr (0, [.int 0, .ref ae, .int 0]))] sz) := by
  refine Met.ofW (cc := cX11_add) (maxL := 8) (ret := (some .int)) (by decide) rfl ?_
  intro p e s m args below meth c s₁ B hml hv9
  obtain ⟨rfl, hsz, hP, hK, hD0, hG⟩ := hv9
  have hx := B.exec
  have hb := B.bytes
  have hr := B.returns
  have hts := atoms_spec (ws := wx (.code yX11_add cX11_add 8 (some .int))) B.pre
  have hown : s.vm.findClass RX11 = some m.cls := findClass_of_methodNamed B.named
  have hlocks := B.notSynchronized
  subst hsz
  have hD := hD0.self (sz := s.heap.size)
  generalize hAe : va_A [(mo, .inr (12, [.int 0, .ref vl, .ref sl])), (sl, .inr (0, [.int 0, .ref ae, .int 0]))] s.heap.size = A at hD hG ⊢
  have hA : ∀ q : Nat, s.heap.size ≤ q → A q := fun q h => by rw [← hAe]; exact Or.inr h
  have hS : va_S A s.heap s.heap [] := va_S.rf
  have hP : va_P D vwCl [(mo, .inr (12, [.int 0, .ref vl, .ref sl])), (sl, .inr (0, [.int 0, .ref ae, .int 0]))] s.heap := hP
  have hl := lv_entry ([.ref mo, .int a0, .int a1, .int a2, .int a3, .int a4, .int a5, .int a6]) (n := 8) (Nat.le_of_ble_eq_true rfl)
  rw [lg_entry_eq]
  generalize (lg_sl ([.ref mo, .int a0, .int a1, .int a2, .int a3, .int a4, .int a5, .int a6]) ++ List.replicate (8 - (lg_sl ([.ref mo, .int a0, .int a1, .int a2, .int a3, .int a4, .int a5, .int a6])).length) Slot.unset).toArray = ls at hl ⊢
  have hl : lv_has ls 8 [(0, .ref mo), (1, .int a0), (2, .int a1), (3, .int a2), (4, .int a3), (5, .int a4), (6, .int a5), (7, .int a6)] := hl
  refine lv_aload_n hx hb dX11_add_0 rfl (lv_at hl 0 rfl) ?_
  refine lv_aload_n hx hb dX11_add_1 rfl (lv_at hl 0 rfl) ?_
  refine va_get (D := D) (ci := 12) (v := .ref sl) (C := RX11) (T := TX11) (N := 3) (ref := "IronwoodModel") hx hb hts in_RX11 hown hK hP 0 rfl rfl 2 (by decide) (hts _ (mc q_1005)) (fun _ h9 => h9) rfl dX11_add_2 ?_
  refine kc_i (wr := [(mo, .inr (12, [.int 0, .ref vl, .ref sl]))]) (va_runV (As := []) (rest := [.ref mo]) ⟨hx, hb, hml, hown, hts⟩ (k_al_size l hfl ae D cI cJ cS cO sl 0 ae 0 _) (cwV 0 hts (gV q_1036 q_1033 q_1034 q_1035 q_107) rfl rfl rfl (by decide +kernel) ⟨Nat.le_of_ble_eq_true rfl, Nat.le_of_ble_eq_true rfl⟩) ⟨Pw.blind, va_recv hK hP (ci := 0) (q0 := 1) rfl rfl, Pw.mk_call hP hK hD hS hA hG [1] rfl (by decide)⟩ rfl rfl hl.1 rfl (lv_room (Nat.le_of_ble_eq_true rfl)) dX11_add_5 ⟨Nat.le_of_ble_eq_true rfl, Nat.le_of_ble_eq_true rfl⟩) hP hD hS hA [1] [0] rfl rfl (by decide) (by decide) (fun r_1 u_2 H locs hw hP hD hS => ?_)
  obtain rfl : r_1 = 0 := hw
  have hP : va_P D vwCl [(mo, .inr (12, [.int 0, .ref vl, .ref sl])), (sl, .inr (0, [.int 0, .ref ae, .int 0]))] H := hP
  have hD : va_D A [(mo, .inr (12, [.int 0, .ref vl, .ref sl])), (sl, .inr (0, [.int 0, .ref ae, .int 0]))] := hD
  refine lv_bipush (v := 40) hx hb dX11_add_8 (by decide) ?_
  refine lv_icmp_ne (tgt := 17) hx hb dX11_add_10 (by decide) (fun c_10 => ?_) (fun c_10 => absurd c_10 (by decide))
  refine lv_iconst (v := 0) hx hb dX11_add_17 (by decide) ?_
  refine lv_iload hx hb dX11_add_18 (lv_at hl 7 rfl) ?_
  refine kc_i (wr := [(sl, .inr (0, [.int 0, .ref ae, .int 0]))]) (va_runV (As := [.int 0, .int a6]) (rest := []) ⟨hx, hb, hml, hown, hts⟩ (k_refuse_0 l hfl ae D cI cJ cS cO mo vl sl a6 _) (cwV 2 hts (gV q_1032 q_1029 q_1031 q_64 q_104) rfl rfl rfl (by decide +kernel) ⟨Nat.le_of_ble_eq_true rfl, Nat.le_of_ble_eq_true rfl⟩) ⟨Pw.blind, va_recv hK hP (ci := 12) (q0 := 0) rfl rfl, Pw.mk_call hP hK hD hS hA hG [0] rfl (by decide)⟩ rfl rfl hl.1 rfl (lv_room (Nat.le_of_ble_eq_true rfl)) dX11_add_20 ⟨Nat.le_of_ble_eq_true rfl, Nat.le_of_ble_eq_true rfl⟩) hP hD hS hA [0] [1] rfl rfl (by decide) (by decide) (fun r_3 u_4 H locs hw hP hD hS => ?_)
  obtain rfl : r_3 = 0 := hw
  have hP : va_P D vwCl [(sl, .inr (0, [.int 0, .ref ae, .int 0])), (mo, .inr (12, [.int 0, .ref vl, .ref sl]))] H := hP
  have hD : va_D A [(sl, .inr (0, [.int 0, .ref ae, .int 0])), (mo, .inr (12, [.int 0, .ref vl, .ref sl]))] := hD
  refine lv_if_eq (tgt := 28) hx hb dX11_add_23 (by decide) (fun c_23 => ?_) (fun c_23 => absurd (by decide) c_23)
  refine lv_aload_n hx hb dX11_add_28 rfl (lv_at hl 0 rfl) ?_
  refine va_get (D := D) (ci := 12) (v := .ref sl) (C := RX11) (T := TX11) (N := 3) (ref := "IronwoodModel") hx hb hts in_RX11 hown hK hP 1 rfl rfl 2 (by decide) (hts _ (mc q_1005)) (fun _ h9 => h9) rfl dX11_add_29 ?_
  refine va_new (ci := 10) (fs := [.int 0, .int 0, .int 0, .int 0, .int 0, .int 0]) (C := RX9) (T := TX9) (N := 6) hx hb hts in_RX9 tyX9 tyX9_ok hown (hts _ (mc q_1152)) (hts _ (mc q_1153)) (hts _ (mc q_121)) hK hP hD hS hA rfl (fun j hj => by rcases (show j = 0 ∨ j = 1 ∨ j = 2 ∨ j = 3 ∨ j = 4 ∨ j = 5 by omega) with rfl | rfl | rfl | rfl | rfl | rfl <;> rfl) (Nat.le_of_ble_eq_true rfl) (Nat.le_of_ble_eq_true rfl) dX11_add_32 (fun q_5 H hP hD hS => ?_)
  have hP : va_P D vwCl [(sl, .inr (0, [.int 0, .ref ae, .int 0])), (mo, .inr (12, [.int 0, .ref vl, .ref sl])), (q_5, .inr (10, [.int 0, .int 0, .int 0, .int 0, .int 0, .int 0]))] H := hP
  have hD : va_D A [(sl, .inr (0, [.int 0, .ref ae, .int 0])), (mo, .inr (12, [.int 0, .ref vl, .ref sl])), (q_5, .inr (10, [.int 0, .int 0, .int 0, .int 0, .int 0, .int 0]))] := hD
  refine lv_dup hx hb dX11_add_35 rfl ?_
  refine lv_iload_n hx hb dX11_add_36 rfl (lv_at hl 1 rfl) ?_
  refine lv_iload_n hx hb dX11_add_37 rfl (lv_at hl 2 rfl) ?_
  refine lv_iload_n hx hb dX11_add_38 rfl (lv_at hl 3 rfl) ?_
  refine lv_iload hx hb dX11_add_39 (lv_at hl 4 rfl) ?_
  refine lv_iload hx hb dX11_add_41 (lv_at hl 5 rfl) ?_
  refine lv_iload hx hb dX11_add_43 (lv_at hl 6 rfl) ?_
  refine kc_v (wr := [(sl, .inr (0, [.int 0, .ref ae, .int 0])), (mo, .inr (12, [.int 0, .ref vl, .ref sl]))]) (va_runI (As := [.int a0, .int a1, .int a2, .int a3, .int a4, .int a5]) (rest := [.ref q_5, .ref sl]) ⟨hx, hb, hml, hown, hts⟩ (k_Statement_init l hfl ae D cI cJ cS cO q_5 a0 a1 a2 a3 a4 a5 _) (cwI 6 hts (gB q_1156) rfl rfl rfl (hts _ (mc q_121)) (hts _ (mc q_1154)) (hts _ (mc q_1155)) rfl (by decide +kernel) ⟨Nat.le_of_ble_eq_true rfl, Nat.le_of_ble_eq_true rfl⟩) ⟨Pw.blind, Pw.mk_call hP hK hD hS hA hG [2] rfl (by decide)⟩ rfl rfl hl.1 rfl (lv_room (Nat.le_of_ble_eq_true rfl)) dX11_add_45 ⟨Nat.le_of_ble_eq_true rfl, Nat.le_of_ble_eq_true rfl⟩) hP hD hS hA [2] [0, 1] rfl rfl (by decide) (by decide) (fun u_7 H locs hw hP hD hS => ?_)
  have hP : va_P D vwCl [(sl, .inr (0, [.int 0, .ref ae, .int 0])), (mo, .inr (12, [.int 0, .ref vl, .ref sl])), (q_5, .inr (10, [.int a0, .int a1, .int a2, .int a3, .int a4, .int a5]))] H := hP
  have hD : va_D A [(sl, .inr (0, [.int 0, .ref ae, .int 0])), (mo, .inr (12, [.int 0, .ref vl, .ref sl])), (q_5, .inr (10, [.int a0, .int a1, .int a2, .int a3, .int a4, .int a5]))] := hD
  refine kc_i (wr := [(mo, .inr (12, [.int 0, .ref vl, .ref sl]))]) (va_runV (As := [.ref q_5]) (rest := []) ⟨hx, hb, hml, hown, hts⟩ (k_al_add_sta l hfl ae D cI cJ cS cO sl q_5 a0 a1 a2 a3 a4 a5 _) (cwV 1 hts (gV q_1056 q_1053 q_1054 q_1055 q_107) rfl rfl rfl (by decide +kernel) ⟨Nat.le_of_ble_eq_true rfl, Nat.le_of_ble_eq_true rfl⟩) ⟨Pw.blind, va_recv hK hP (ci := 0) (q0 := 0) rfl rfl, Pw.mk_call hP hK hD hS hA hG [0, 2] rfl (by decide)⟩ rfl rfl hl.1 rfl (lv_room (Nat.le_of_ble_eq_true rfl)) dX11_add_48 ⟨Nat.le_of_ble_eq_true rfl, Nat.le_of_ble_eq_true rfl⟩) hP hD hS hA [0, 2] [1] rfl rfl (by decide) (by decide) (fun r_8 u_9 H locs hw hP hD hS => ?_)
  obtain ⟨q_10, g_11⟩ := u_9
  obtain rfl : r_8 = 1 := hw
  have hP : va_P D vwCl [(mo, .inr (12, [.int 0, .ref vl, .ref sl])), (sl, .inr (0, [.int 1, .ref q_10, .int 1])), (q_5, .inr (10, [.int a0, .int a1, .int a2, .int a3, .int a4, .int a5])), (q_10, .inl (cO, 10, .inr (.inr (.inr (.inr g_11)))))] H := hP
  have hD : va_D A [(mo, .inr (12, [.int 0, .ref vl, .ref sl])), (sl, .inr (0, [.int 1, .ref q_10, .int 1])), (q_5, .inr (10, [.int a0, .int a1, .int a2, .int a3, .int a4, .int a5])), (q_10, .inl (cO, 10, .inr (.inr (.inr (.inr g_11)))))] := hD
  refine lv_pop hx hb dX11_add_51 rfl ?_
  refine lv_aload_n hx hb dX11_add_52 rfl (lv_at hl 0 rfl) ?_
  refine va_get (D := D) (ci := 12) (v := .ref sl) (C := RX11) (T := TX11) (N := 3) (ref := "IronwoodModel") hx hb hts in_RX11 hown hK hP 0 rfl rfl 2 (by decide) (hts _ (mc q_1005)) (fun _ h9 => h9) rfl dX11_add_53 ?_
  refine kc_i (wr := [(mo, .inr (12, [.int 0, .ref vl, .ref sl])), (q_5, .inr (10, [.int a0, .int a1, .int a2, .int a3, .int a4, .int a5])), (q_10, .inl (cO, 10, .inr (.inr (.inr (.inr g_11)))))]) (va_runV (As := []) (rest := []) ⟨hx, hb, hml, hown, hts⟩ (k_al_size l hfl ae D cI cJ cS cO sl 1 q_10 1 _) (cwV 0 hts (gV q_1036 q_1033 q_1034 q_1035 q_107) rfl rfl rfl (by decide +kernel) ⟨Nat.le_of_ble_eq_true rfl, Nat.le_of_ble_eq_true rfl⟩) ⟨Pw.blind, va_recv hK hP (ci := 0) (q0 := 1) rfl rfl, Pw.mk_call hP hK hD hS hA hG [1] rfl (by decide)⟩ rfl rfl hl.1 rfl (lv_room (Nat.le_of_ble_eq_true rfl)) dX11_add_56 ⟨Nat.le_of_ble_eq_true rfl, Nat.le_of_ble_eq_true rfl⟩) hP hD hS hA [1] [0, 2, 3] rfl rfl (by decide) (by decide) (fun r_12 u_13 H locs hw hP hD hS => ?_)
  obtain rfl : r_12 = 1 := hw
  have hP : va_P D vwCl [(mo, .inr (12, [.int 0, .ref vl, .ref sl])), (q_5, .inr (10, [.int a0, .int a1, .int a2, .int a3, .int a4, .int a5])), (q_10, .inl (cO, 10, .inr (.inr (.inr (.inr g_11))))), (sl, .inr (0, [.int 1, .ref q_10, .int 1]))] H := hP
  have hD : va_D A [(mo, .inr (12, [.int 0, .ref vl, .ref sl])), (q_5, .inr (10, [.int a0, .int a1, .int a2, .int a3, .int a4, .int a5])), (q_10, .inl (cO, 10, .inr (.inr (.inr (.inr g_11))))), (sl, .inr (0, [.int 1, .ref q_10, .int 1]))] := hD
  refine lv_iconst (v := 1) hx hb dX11_add_59 (by decide) ?_
  refine lv_isub hx hb dX11_add_60 ?_
  refine lv_topi (fun x_14 ex_14 => ?_)
  obtain rfl : x_14 = 0 := ex_14.trans (by decide)
  have hP := hP.sub (ws' := [(mo, .inr (12, [.int 0, .ref vl, .ref sl]))]) [0] rfl
  have hD := hD.sub (ws' := [(mo, .inr (12, [.int 0, .ref vl, .ref sl]))]) [0] (by decide) rfl
  exact ke_i hx hb hr (by first | rfl | decide) () (rfl) hP hD hS (Nat.le_of_ble_eq_true rfl) (Nat.le_of_ble_eq_true rfl) hlocks dX11_add_61

set_option maxHeartbeats 4000000 in
set_option maxRecDepth 100000 in
theorem m_branch (l : Launch) (hfl : l.stackTraces = false) (ae : Nat) (D : va_G) (cI cJ cS cO : ClassId) (mo : Nat) (vl : Nat) (sl : Nat) (fl : Int32) (v : Int32) (sz : Nat) (hv : 0 ≤ v ∧ v ≤ 40) : Met l yX11_branch (wx (.code yX11_branch cX11_branch 3 (some .int))) ({ frames := 6, cells := 2, slots := 16, locals := 128 }) (va_Pc [.ref mo, .int fl, .int v] (Pw ae D vwCl [(cI, .int), (cJ, .long), (cS, .object "IronwoodModel$State"), (cO, .object "java/lang/Object")] [(mo, .inr (12, [.int 0, .ref vl, .ref sl])), (sl, .inr (0, [.int 0, .ref ae, .int 0]))] sz)) (va_Qi (fun (r : Int32) (u : Unit) => r = 0) (Bw D vwCl (fun (u : Unit) => [(mo, .inr (12, [.int 0, .ref vl, .ref sl]))]) (va_A [(mo, .inr (12, [.int 0, .ref vl, .ref sl])), (sl, .inr (0, [.int 0, .ref ae, .int 0]))] sz)) (va_A [(mo, .inr (12, [.int 0, .ref vl, .ref sl])), (sl, .inr (0, [.int 0, .ref ae, .int 0]))] sz)) 2 16 (va_A [(mo, .inr (12, [.int 0, .ref vl, .ref sl])), (sl, .inr (0, [.int 0, .ref ae, .int 0]))] sz) := by
  refine Met.ofW (cc := cX11_branch) (maxL := 3) (ret := (some .int)) (by decide) rfl ?_
  intro p e s m args below meth c s₁ B hml hv9
  obtain ⟨rfl, hsz, hP, hK, hD0, hG⟩ := hv9
  have hx := B.exec
  have hb := B.bytes
  have hr := B.returns
  have hts := atoms_spec (ws := wx (.code yX11_branch cX11_branch 3 (some .int))) B.pre
  have hown : s.vm.findClass RX11 = some m.cls := findClass_of_methodNamed B.named
  have hlocks := B.notSynchronized
  subst hsz
  have hD := hD0.self (sz := s.heap.size)
  generalize hAe : va_A [(mo, .inr (12, [.int 0, .ref vl, .ref sl])), (sl, .inr (0, [.int 0, .ref ae, .int 0]))] s.heap.size = A at hD hG ⊢
  have hA : ∀ q : Nat, s.heap.size ≤ q → A q := fun q h => by rw [← hAe]; exact Or.inr h
  have hS : va_S A s.heap s.heap [] := va_S.rf
  have hP : va_P D vwCl [(mo, .inr (12, [.int 0, .ref vl, .ref sl])), (sl, .inr (0, [.int 0, .ref ae, .int 0]))] s.heap := hP
  have hl := lv_entry ([.ref mo, .int fl, .int v]) (n := 3) (Nat.le_of_ble_eq_true rfl)
  rw [lg_entry_eq]
  generalize (lg_sl ([.ref mo, .int fl, .int v]) ++ List.replicate (3 - (lg_sl ([.ref mo, .int fl, .int v])).length) Slot.unset).toArray = ls at hl ⊢
  have hl : lv_has ls 3 [(0, .ref mo), (1, .int fl), (2, .int v)] := hl
  refine lv_aload_n hx hb dX11_branch_0 rfl (lv_at hl 0 rfl) ?_
  refine lv_iload_n hx hb dX11_branch_1 rfl (lv_at hl 2 rfl) ?_
  refine lv_iconst (v := 0) hx hb dX11_branch_2 (by decide) ?_
  refine lv_bipush (v := 40) hx hb dX11_branch_3 (by decide) ?_
  refine kc_i (wr := [(mo, .inr (12, [.int 0, .ref vl, .ref sl])), (sl, .inr (0, [.int 0, .ref ae, .int 0]))]) (va_runS (As := [.int v, .int 0, .int 40]) (rest := [.ref mo]) ⟨hx, hb, hml, hown, hts⟩ (k_isIn_y l hfl ae D cI cJ cS cO v 0 40 _ hv) (cwS 3 hts (gS q_1024 q_1022 q_1023 q_104) rfl rfl rfl (by decide +kernel) ⟨Nat.le_of_ble_eq_true rfl, Nat.le_of_ble_eq_true rfl⟩) ⟨Pw.blind, Pw.mk_call hP hK hD hS hA hG [] rfl (by decide)⟩ rfl rfl hl.1 rfl (lv_room (Nat.le_of_ble_eq_true rfl)) dX11_branch_5 ⟨Nat.le_of_ble_eq_true rfl, Nat.le_of_ble_eq_true rfl⟩) hP hD hS hA [] [0, 1] rfl rfl (by decide) (by decide) (fun r_1 u_2 H locs hw hP hD hS => ?_)
  obtain rfl : r_1 = 1 := hw
  have hP : va_P D vwCl [(mo, .inr (12, [.int 0, .ref vl, .ref sl])), (sl, .inr (0, [.int 0, .ref ae, .int 0]))] H := hP
  have hD : va_D A [(mo, .inr (12, [.int 0, .ref vl, .ref sl])), (sl, .inr (0, [.int 0, .ref ae, .int 0]))] := hD
  refine lv_if_ne (tgt := 15) hx hb dX11_branch_8 (by decide) (fun c_8 => ?_) (fun c_8 => absurd c_8 (by decide))
  refine lv_iconst (v := 0) hx hb dX11_branch_15 (by decide) ?_
  refine lv_iconst (v := 1) hx hb dX11_branch_16 (by decide) ?_
  refine kc_i (wr := [(sl, .inr (0, [.int 0, .ref ae, .int 0]))]) (va_runV (As := [.int 0, .int 1]) (rest := []) ⟨hx, hb, hml, hown, hts⟩ (k_start_0 l hfl ae D cI cJ cS cO mo vl sl 0 1 _) (cwV 2 hts (gV q_1028 q_1025 q_1027 q_63 q_104) rfl rfl rfl (by decide +kernel) ⟨Nat.le_of_ble_eq_true rfl, Nat.le_of_ble_eq_true rfl⟩) ⟨Pw.blind, va_recv hK hP (ci := 12) (q0 := 0) rfl rfl, Pw.mk_call hP hK hD hS hA hG [0] rfl (by decide)⟩ rfl rfl hl.1 rfl (lv_room (Nat.le_of_ble_eq_true rfl)) dX11_branch_17 ⟨Nat.le_of_ble_eq_true rfl, Nat.le_of_ble_eq_true rfl⟩) hP hD hS hA [0] [1] rfl rfl (by decide) (by decide) (fun r_3 u_4 H locs hw hP hD hS => ?_)
  obtain rfl : r_3 = 0 := hw
  have hP : va_P D vwCl [(sl, .inr (0, [.int 0, .ref ae, .int 0])), (mo, .inr (12, [.int 0, .ref vl, .ref sl]))] H := hP
  have hD : va_D A [(sl, .inr (0, [.int 0, .ref ae, .int 0])), (mo, .inr (12, [.int 0, .ref vl, .ref sl]))] := hD
  refine lv_if_eq (tgt := 27) hx hb dX11_branch_20 (by decide) (fun c_20 => ?_) (fun c_20 => absurd (by decide) c_20)
  refine lv_aload_n hx hb dX11_branch_27 rfl (lv_at hl 0 rfl) ?_
  refine lv_iload_n hx hb dX11_branch_28 rfl (lv_at hl 1 rfl) ?_
  refine lv_if_eq (tgt := 37) hx hb dX11_branch_29 (by decide) (fun c_29 => ?_) (fun c_29 => ?_)
  · skip
    refine lv_bipush (v := 7) hx hb dX11_branch_37 (by decide) ?_
    refine lv_iconst (v := (-1)) hx hb dX11_branch_39 (by decide) ?_
    refine lv_iconst (v := (-1)) hx hb dX11_branch_40 (by decide) ?_
    refine lv_iconst (v := (-1)) hx hb dX11_branch_41 (by decide) ?_
    refine lv_iconst (v := 0) hx hb dX11_branch_42 (by decide) ?_
    refine lv_iload_n hx hb dX11_branch_43 rfl (lv_at hl 2 rfl) ?_
    refine lv_iconst (v := 2) hx hb dX11_branch_44 (by decide) ?_
    refine kc_i (wr := []) (va_runV (As := [.int 7, .int (-1), .int (-1), .int (-1), .int 0, .int v, .int 2]) (rest := []) ⟨hx, hb, hml, hown, hts⟩ (m_add l hfl ae D cI cJ cS cO mo vl sl 7 (-1) (-1) (-1) 0 v 2 _) (cwV 7 hts (gV q_1151 q_1148 q_1150 q_71 q_104) rfl rfl rfl (by decide +kernel) ⟨Nat.le_of_ble_eq_true rfl, Nat.le_of_ble_eq_true rfl⟩) ⟨Pw.blind, va_recv hK hP (ci := 12) (q0 := 1) rfl rfl, Pw.mk_call hP hK hD hS hA hG [1, 0] rfl (by decide)⟩ rfl rfl hl.1 rfl (lv_room (Nat.le_of_ble_eq_true rfl)) dX11_branch_45 ⟨Nat.le_of_ble_eq_true rfl, Nat.le_of_ble_eq_true rfl⟩) hP hD hS hA [1, 0] [] rfl rfl (by decide) (by decide) (fun r_5 u_6 H locs hw hP hD hS => ?_)
    obtain rfl : r_5 = 0 := hw
    have hP : va_P D vwCl [(mo, .inr (12, [.int 0, .ref vl, .ref sl]))] H := hP
    have hD : va_D A [(mo, .inr (12, [.int 0, .ref vl, .ref sl]))] := hD
    have hP := hP.sub (ws' := [(mo, .inr (12, [.int 0, .ref vl, .ref sl]))]) [0] rfl
    have hD := hD.sub (ws' := [(mo, .inr (12, [.int 0, .ref vl, .ref sl]))]) [0] (by decide) rfl
    exact ke_i hx hb hr (by first | rfl | decide) () (rfl) hP hD hS (Nat.le_of_ble_eq_true rfl) (Nat.le_of_ble_eq_true rfl) hlocks dX11_branch_48
  · skip
    refine lv_bipush (v := 8) hx hb dX11_branch_32 (by decide) ?_
    refine lv_goto (tgt := 39) hx hb dX11_branch_34 (by decide) ?_
    refine lv_iconst (v := (-1)) hx hb dX11_branch_39 (by decide) ?_
    refine lv_iconst (v := (-1)) hx hb dX11_branch_40 (by decide) ?_
    refine lv_iconst (v := (-1)) hx hb dX11_branch_41 (by decide) ?_
    refine lv_iconst (v := 0) hx hb dX11_branch_42 (by decide) ?_
    refine lv_iload_n hx hb dX11_branch_43 rfl (lv_at hl 2 rfl) ?_
    refine lv_iconst (v := 2) hx hb dX11_branch_44 (by decide) ?_
    refine kc_i (wr := []) (va_runV (As := [.int 8, .int (-1), .int (-1), .int (-1), .int 0, .int v, .int 2]) (rest := []) ⟨hx, hb, hml, hown, hts⟩ (m_add l hfl ae D cI cJ cS cO mo vl sl 8 (-1) (-1) (-1) 0 v 2 _) (cwV 7 hts (gV q_1151 q_1148 q_1150 q_71 q_104) rfl rfl rfl (by decide +kernel) ⟨Nat.le_of_ble_eq_true rfl, Nat.le_of_ble_eq_true rfl⟩) ⟨Pw.blind, va_recv hK hP (ci := 12) (q0 := 1) rfl rfl, Pw.mk_call hP hK hD hS hA hG [1, 0] rfl (by decide)⟩ rfl rfl hl.1 rfl (lv_room (Nat.le_of_ble_eq_true rfl)) dX11_branch_45 ⟨Nat.le_of_ble_eq_true rfl, Nat.le_of_ble_eq_true rfl⟩) hP hD hS hA [1, 0] [] rfl rfl (by decide) (by decide) (fun r_7 u_8 H locs hw hP hD hS => ?_)
    obtain rfl : r_7 = 0 := hw
    have hP : va_P D vwCl [(mo, .inr (12, [.int 0, .ref vl, .ref sl]))] H := hP
    have hD : va_D A [(mo, .inr (12, [.int 0, .ref vl, .ref sl]))] := hD
    have hP := hP.sub (ws' := [(mo, .inr (12, [.int 0, .ref vl, .ref sl]))]) [0] rfl
    have hD := hD.sub (ws' := [(mo, .inr (12, [.int 0, .ref vl, .ref sl]))]) [0] (by decide) rfl
    exact ke_i hx hb hr (by first | rfl | decide) () (rfl) hP hD hS (Nat.le_of_ble_eq_true rfl) (Nat.le_of_ble_eq_true rfl) hlocks dX11_branch_48

set_option maxHeartbeats 4000000 in
set_option maxRecDepth 100000 in
theorem m_branch_x (l : Launch) (hfl : l.stackTraces = false) (ae : Nat) (D : va_G) (cI cJ cS cO : ClassId) (mo : Nat) (vl : Nat) (sl : Nat) (fl : Int32) (v : Int32) (sz : Nat) (hv : ¬ (0 ≤ v ∧ v ≤ 40)) : Met l yX11_branch (wx (.code yX11_branch cX11_branch 3 (some .int))) ({ frames := 2, cells := 0, slots := 0, locals := 44 }) (va_Pc [.ref mo, .int fl, .int v] (Pw ae D vwCl [(cI, .int), (cJ, .long), (cS, .object "IronwoodModel$State"), (cO, .object "java/lang/Object")] [(mo, .inr (12, [.int 0, .ref vl, .ref sl])), (sl, .inr (0, [.int 0, .ref ae, .int 0]))] sz)) (va_Qi (fun (r : Int32) (u : Unit) => r = 0) (Bw D vwCl (fun (u : Unit) => [(mo, .inr (12, [.int 1, .ref vl, .ref sl])), (sl, .inr (0, [.int 0, .ref ae, .int 0]))]) (va_A [(mo, .inr (12, [.int 0, .ref vl, .ref sl])), (sl, .inr (0, [.int 0, .ref ae, .int 0]))] sz)) (va_A [(mo, .inr (12, [.int 0, .ref vl, .ref sl])), (sl, .inr (0, [.int 0, .ref ae, .int 0]))] sz)) 0 0 (va_A [(mo, .inr (12, [.int 0, .ref vl, .ref sl])), (sl, .inr (0, [.int 0, .ref ae, .int 0]))] sz) := by
  refine Met.ofW (cc := cX11_branch) (maxL := 3) (ret := (some .int)) (by decide) rfl ?_
  intro p e s m args below meth c s₁ B hml hv9
  obtain ⟨rfl, hsz, hP, hK, hD0, hG⟩ := hv9
  have hx := B.exec
  have hb := B.bytes
  have hr := B.returns
  have hts := atoms_spec (ws := wx (.code yX11_branch cX11_branch 3 (some .int))) B.pre
  have hown : s.vm.findClass RX11 = some m.cls := findClass_of_methodNamed B.named
  have hlocks := B.notSynchronized
  subst hsz
  have hD := hD0.self (sz := s.heap.size)
  generalize hAe : va_A [(mo, .inr (12, [.int 0, .ref vl, .ref sl])), (sl, .inr (0, [.int 0, .ref ae, .int 0]))] s.heap.size = A at hD hG ⊢
  have hA : ∀ q : Nat, s.heap.size ≤ q → A q := fun q h => by rw [← hAe]; exact Or.inr h
  have hS : va_S A s.heap s.heap [] := va_S.rf
  have hP : va_P D vwCl [(mo, .inr (12, [.int 0, .ref vl, .ref sl])), (sl, .inr (0, [.int 0, .ref ae, .int 0]))] s.heap := hP
  have hl := lv_entry ([.ref mo, .int fl, .int v]) (n := 3) (Nat.le_of_ble_eq_true rfl)
  rw [lg_entry_eq]
  generalize (lg_sl ([.ref mo, .int fl, .int v]) ++ List.replicate (3 - (lg_sl ([.ref mo, .int fl, .int v])).length) Slot.unset).toArray = ls at hl ⊢
  have hl : lv_has ls 3 [(0, .ref mo), (1, .int fl), (2, .int v)] := hl
  refine lv_aload_n hx hb dX11_branch_0 rfl (lv_at hl 0 rfl) ?_
  refine lv_iload_n hx hb dX11_branch_1 rfl (lv_at hl 2 rfl) ?_
  refine lv_iconst (v := 0) hx hb dX11_branch_2 (by decide) ?_
  refine lv_bipush (v := 40) hx hb dX11_branch_3 (by decide) ?_
  refine kc_i (wr := [(mo, .inr (12, [.int 0, .ref vl, .ref sl])), (sl, .inr (0, [.int 0, .ref ae, .int 0]))]) (va_runS (As := [.int v, .int 0, .int 40]) (rest := [.ref mo]) ⟨hx, hb, hml, hown, hts⟩ (k_isIn_n l hfl ae D cI cJ cS cO v 0 40 _ hv) (cwS 3 hts (gS q_1024 q_1022 q_1023 q_104) rfl rfl rfl (by decide +kernel) ⟨Nat.le_of_ble_eq_true rfl, Nat.le_of_ble_eq_true rfl⟩) ⟨Pw.blind, Pw.mk_call hP hK hD hS hA hG [] rfl (by decide)⟩ rfl rfl hl.1 rfl (lv_room (Nat.le_of_ble_eq_true rfl)) dX11_branch_5 ⟨Nat.le_of_ble_eq_true rfl, Nat.le_of_ble_eq_true rfl⟩) hP hD hS hA [] [0, 1] rfl rfl (by decide) (by decide) (fun r_1 u_2 H locs hw hP hD hS => ?_)
  obtain rfl : r_1 = 0 := hw
  have hP : va_P D vwCl [(mo, .inr (12, [.int 0, .ref vl, .ref sl])), (sl, .inr (0, [.int 0, .ref ae, .int 0]))] H := hP
  have hD : va_D A [(mo, .inr (12, [.int 0, .ref vl, .ref sl])), (sl, .inr (0, [.int 0, .ref ae, .int 0]))] := hD
  refine lv_if_ne (tgt := 15) hx hb dX11_branch_8 (by decide) (fun c_8 => absurd (by decide) c_8) (fun c_8 => ?_)
  refine lv_iconst (v := 1) hx hb dX11_branch_11 (by decide) ?_
  refine lv_goto (tgt := 16) hx hb dX11_branch_12 (by decide) ?_
  refine lv_iconst (v := 1) hx hb dX11_branch_16 (by decide) ?_
  refine kc_i (wr := [(sl, .inr (0, [.int 0, .ref ae, .int 0]))]) (va_runV (As := [.int 1, .int 1]) (rest := []) ⟨hx, hb, hml, hown, hts⟩ (k_start_1 l hfl ae D cI cJ cS cO mo vl sl 0 1 _ (by decide)) (cwV 2 hts (gV q_1028 q_1025 q_1027 q_63 q_104) rfl rfl rfl (by decide +kernel) ⟨Nat.le_of_ble_eq_true rfl, Nat.le_of_ble_eq_true rfl⟩) ⟨Pw.blind, va_recv hK hP (ci := 12) (q0 := 0) rfl rfl, Pw.mk_call hP hK hD hS hA hG [0] rfl (by decide)⟩ rfl rfl hl.1 rfl (lv_room (Nat.le_of_ble_eq_true rfl)) dX11_branch_17 ⟨Nat.le_of_ble_eq_true rfl, Nat.le_of_ble_eq_true rfl⟩) hP hD hS hA [0] [1] rfl rfl (by decide) (by decide) (fun r_3 u_4 H locs hw hP hD hS => ?_)
  obtain rfl : r_3 = 1 := hw
  have hP : va_P D vwCl [(sl, .inr (0, [.int 0, .ref ae, .int 0])), (mo, .inr (12, [.int 1, .ref vl, .ref sl]))] H := hP
  have hD : va_D A [(sl, .inr (0, [.int 0, .ref ae, .int 0])), (mo, .inr (12, [.int 1, .ref vl, .ref sl]))] := hD
  refine lv_if_eq (tgt := 27) hx hb dX11_branch_20 (by decide) (fun c_20 => absurd c_20 (by decide)) (fun c_20 => ?_)
  refine lv_iconst (v := 0) hx hb dX11_branch_23 (by decide) ?_
  refine lv_goto (tgt := 48) hx hb dX11_branch_24 (by decide) ?_
  have hP := hP.sub (ws' := [(mo, .inr (12, [.int 1, .ref vl, .ref sl])), (sl, .inr (0, [.int 0, .ref ae, .int 0]))]) [1, 0] rfl
  have hD := hD.sub (ws' := [(mo, .inr (12, [.int 1, .ref vl, .ref sl])), (sl, .inr (0, [.int 0, .ref ae, .int 0]))]) [1, 0] (by decide) rfl
  exact ke_i hx hb hr (by first | rfl | decide) () (rfl) hP hD hS (Nat.le_of_ble_eq_true rfl) (Nat.le_of_ble_eq_true rfl) hlocks dX11_branch_48

set_option maxHeartbeats 4000000 in
set_option maxRecDepth 100000 in
theorem m_finish (l : Launch) (hfl : l.stackTraces = false) (ae : Nat) (D : va_G) (cI cJ cS cO : ClassId) (mo : Nat) (vl : Nat) (sl : Nat) (sz : Nat)  : Met l yX11_finish (wx (.code yX11_finish cX11_finish 2 (some .int))) ({ frames := 6, cells := 2, slots := 16, locals := 128 }) (va_Pc [.ref mo, .int (-1)] (Pw ae D vwCl [(cI, .int), (cJ, .long), (cS, .object "IronwoodModel$State"), (cO, .object "java/lang/Object")] [(mo, .inr (12, [.int 0, .ref vl, .ref sl])), (sl, .inr (0, [.int 0, .ref ae, .int 0]))] sz)) (va_Qi (fun (r : Int32) (u : Unit) => r = 0) (Bw D vwCl (fun (u : Unit) => [(mo, .inr (12, [.int 0, .ref vl, .ref sl]))]) (va_A [(mo, .inr (12, [.int 0, .ref vl, .ref sl])), (sl, .inr (0, [.int 0, .ref ae, .int 0]))] sz)) (va_A [(mo, .inr (12, [.int 0, .ref vl, .ref sl])), (sl, .inr (0, [.int 0, .ref ae, .int 0]))] sz)) 2 16 (va_A [(mo, .inr (12, [.int 0, .ref vl, .ref sl])), (sl, .inr (0, [.int 0, .ref ae, .int 0]))] sz) := by
  refine Met.ofW (cc := cX11_finish) (maxL := 2) (ret := (some .int)) (by decide) rfl ?_
  intro p e s m args below meth c s₁ B hml hv9
  obtain ⟨rfl, hsz, hP, hK, hD0, hG⟩ := hv9
  have hx := B.exec
  have hb := B.bytes
  have hr := B.returns
  have hts := atoms_spec (ws := wx (.code yX11_finish cX11_finish 2 (some .int))) B.pre
  have hown : s.vm.findClass RX11 = some m.cls := findClass_of_methodNamed B.named
  have hlocks := B.notSynchronized
  subst hsz
  have hD := hD0.self (sz := s.heap.size)
  generalize hAe : va_A [(mo, .inr (12, [.int 0, .ref vl, .ref sl])), (sl, .inr (0, [.int 0, .ref ae, .int 0]))] s.heap.size = A at hD hG ⊢
  have hA : ∀ q : Nat, s.heap.size ≤ q → A q := fun q h => by rw [← hAe]; exact Or.inr h
  have hS : va_S A s.heap s.heap [] := va_S.rf
  have hP : va_P D vwCl [(mo, .inr (12, [.int 0, .ref vl, .ref sl])), (sl, .inr (0, [.int 0, .ref ae, .int 0]))] s.heap := hP
  have hl := lv_entry ([.ref mo, .int (-1)]) (n := 2) (Nat.le_of_ble_eq_true rfl)
  rw [lg_entry_eq]
  generalize (lg_sl ([.ref mo, .int (-1)]) ++ List.replicate (2 - (lg_sl ([.ref mo, .int (-1)])).length) Slot.unset).toArray = ls at hl ⊢
  have hl : lv_has ls 2 [(0, .ref mo), (1, .int (-1))] := hl
  refine lv_aload_n hx hb dX11_finish_0 rfl (lv_at hl 0 rfl) ?_
  refine lv_iload_n hx hb dX11_finish_1 rfl (lv_at hl 1 rfl) ?_
  refine lv_iconst (v := (-1)) hx hb dX11_finish_2 (by decide) ?_
  refine lv_icmp_eq (tgt := 18) hx hb dX11_finish_3 (by decide) (fun c_3 => ?_) (fun c_3 => absurd (by decide) c_3)
  refine lv_iconst (v := 0) hx hb dX11_finish_18 (by decide) ?_
  refine lv_iconst (v := 1) hx hb dX11_finish_19 (by decide) ?_
  refine kc_i (wr := [(sl, .inr (0, [.int 0, .ref ae, .int 0]))]) (va_runV (As := [.int 0, .int 1]) (rest := []) ⟨hx, hb, hml, hown, hts⟩ (k_start_0 l hfl ae D cI cJ cS cO mo vl sl 0 1 _) (cwV 2 hts (gV q_1028 q_1025 q_1027 q_63 q_104) rfl rfl rfl (by decide +kernel) ⟨Nat.le_of_ble_eq_true rfl, Nat.le_of_ble_eq_true rfl⟩) ⟨Pw.blind, va_recv hK hP (ci := 12) (q0 := 0) rfl rfl, Pw.mk_call hP hK hD hS hA hG [0] rfl (by decide)⟩ rfl rfl hl.1 rfl (lv_room (Nat.le_of_ble_eq_true rfl)) dX11_finish_20 ⟨Nat.le_of_ble_eq_true rfl, Nat.le_of_ble_eq_true rfl⟩) hP hD hS hA [0] [1] rfl rfl (by decide) (by decide) (fun r_1 u_2 H locs hw hP hD hS => ?_)
  obtain rfl : r_1 = 0 := hw
  have hP : va_P D vwCl [(sl, .inr (0, [.int 0, .ref ae, .int 0])), (mo, .inr (12, [.int 0, .ref vl, .ref sl]))] H := hP
  have hD : va_D A [(sl, .inr (0, [.int 0, .ref ae, .int 0])), (mo, .inr (12, [.int 0, .ref vl, .ref sl]))] := hD
  refine lv_if_eq (tgt := 30) hx hb dX11_finish_23 (by decide) (fun c_23 => ?_) (fun c_23 => absurd (by decide) c_23)
  refine lv_aload_n hx hb dX11_finish_30 rfl (lv_at hl 0 rfl) ?_
  refine lv_bipush (v := 9) hx hb dX11_finish_31 (by decide) ?_
  refine lv_iconst (v := (-1)) hx hb dX11_finish_33 (by decide) ?_
  refine lv_iload_n hx hb dX11_finish_34 rfl (lv_at hl 1 rfl) ?_
  refine lv_iconst (v := (-1)) hx hb dX11_finish_35 (by decide) ?_
  refine lv_iconst (v := 0) hx hb dX11_finish_36 (by decide) ?_
  refine lv_iconst (v := 0) hx hb dX11_finish_37 (by decide) ?_
  refine lv_iconst (v := 2) hx hb dX11_finish_38 (by decide) ?_
  refine kc_i (wr := []) (va_runV (As := [.int 9, .int (-1), .int (-1), .int (-1), .int 0, .int 0, .int 2]) (rest := []) ⟨hx, hb, hml, hown, hts⟩ (m_add l hfl ae D cI cJ cS cO mo vl sl 9 (-1) (-1) (-1) 0 0 2 _) (cwV 7 hts (gV q_1151 q_1148 q_1150 q_71 q_104) rfl rfl rfl (by decide +kernel) ⟨Nat.le_of_ble_eq_true rfl, Nat.le_of_ble_eq_true rfl⟩) ⟨Pw.blind, va_recv hK hP (ci := 12) (q0 := 1) rfl rfl, Pw.mk_call hP hK hD hS hA hG [1, 0] rfl (by decide)⟩ rfl rfl hl.1 rfl (lv_room (Nat.le_of_ble_eq_true rfl)) dX11_finish_39 ⟨Nat.le_of_ble_eq_true rfl, Nat.le_of_ble_eq_true rfl⟩) hP hD hS hA [1, 0] [] rfl rfl (by decide) (by decide) (fun r_3 u_4 H locs hw hP hD hS => ?_)
  obtain rfl : r_3 = 0 := hw
  have hP : va_P D vwCl [(mo, .inr (12, [.int 0, .ref vl, .ref sl]))] H := hP
  have hD : va_D A [(mo, .inr (12, [.int 0, .ref vl, .ref sl]))] := hD
  have hP := hP.sub (ws' := [(mo, .inr (12, [.int 0, .ref vl, .ref sl]))]) [0] rfl
  have hD := hD.sub (ws' := [(mo, .inr (12, [.int 0, .ref vl, .ref sl]))]) [0] (by decide) rfl
  exact ke_i hx hb hr (by first | rfl | decide) () (rfl) hP hD hS (Nat.le_of_ble_eq_true rfl) (Nat.le_of_ble_eq_true rfl) hlocks dX11_finish_42

set_option maxHeartbeats 4000000 in
set_option maxRecDepth 100000 in
theorem m_finish_x (l : Launch) (hfl : l.stackTraces = false) (ae : Nat) (D : va_G) (cI cJ cS cO : ClassId) (mo : Nat) (vl : Nat) (sl : Nat) (v : Int32) (sz : Nat) (hv : ¬ v = -1) : Met l yX11_finish (wx (.code yX11_finish cX11_finish 2 (some .int))) ({ frames := 2, cells := 0, slots := 0, locals := 44 }) (va_Pc [.ref mo, .int v] (Pw ae D vwCl [(cI, .int), (cJ, .long), (cS, .object "IronwoodModel$State"), (cO, .object "java/lang/Object")] [(mo, .inr (12, [.int 0, .ref vl, .ref sl])), (vl, .inr (0, [.int 0, .ref ae, .int 0]))] sz)) (va_Qi (fun (r : Int32) (u : Unit) => r = 0) (Bw D vwCl (fun (u : Unit) => [(mo, .inr (12, [.int 1, .ref vl, .ref sl])), (vl, .inr (0, [.int 0, .ref ae, .int 0]))]) (va_A [(mo, .inr (12, [.int 0, .ref vl, .ref sl])), (vl, .inr (0, [.int 0, .ref ae, .int 0]))] sz)) (va_A [(mo, .inr (12, [.int 0, .ref vl, .ref sl])), (vl, .inr (0, [.int 0, .ref ae, .int 0]))] sz)) 0 0 (va_A [(mo, .inr (12, [.int 0, .ref vl, .ref sl])), (vl, .inr (0, [.int 0, .ref ae, .int 0]))] sz) := by
  refine Met.ofW (cc := cX11_finish) (maxL := 2) (ret := (some .int)) (by decide) rfl ?_
  intro p e s m args below meth c s₁ B hml hv9
  obtain ⟨rfl, hsz, hP, hK, hD0, hG⟩ := hv9
  have hx := B.exec
  have hb := B.bytes
  have hr := B.returns
  have hts := atoms_spec (ws := wx (.code yX11_finish cX11_finish 2 (some .int))) B.pre
  have hown : s.vm.findClass RX11 = some m.cls := findClass_of_methodNamed B.named
  have hlocks := B.notSynchronized
  subst hsz
  have hD := hD0.self (sz := s.heap.size)
  generalize hAe : va_A [(mo, .inr (12, [.int 0, .ref vl, .ref sl])), (vl, .inr (0, [.int 0, .ref ae, .int 0]))] s.heap.size = A at hD hG ⊢
  have hA : ∀ q : Nat, s.heap.size ≤ q → A q := fun q h => by rw [← hAe]; exact Or.inr h
  have hS : va_S A s.heap s.heap [] := va_S.rf
  have hP : va_P D vwCl [(mo, .inr (12, [.int 0, .ref vl, .ref sl])), (vl, .inr (0, [.int 0, .ref ae, .int 0]))] s.heap := hP
  have hl := lv_entry ([.ref mo, .int v]) (n := 2) (Nat.le_of_ble_eq_true rfl)
  rw [lg_entry_eq]
  generalize (lg_sl ([.ref mo, .int v]) ++ List.replicate (2 - (lg_sl ([.ref mo, .int v])).length) Slot.unset).toArray = ls at hl ⊢
  have hl : lv_has ls 2 [(0, .ref mo), (1, .int v)] := hl
  refine lv_aload_n hx hb dX11_finish_0 rfl (lv_at hl 0 rfl) ?_
  refine lv_iload_n hx hb dX11_finish_1 rfl (lv_at hl 1 rfl) ?_
  refine lv_iconst (v := (-1)) hx hb dX11_finish_2 (by decide) ?_
  refine lv_icmp_eq (tgt := 18) hx hb dX11_finish_3 (by decide) (fun c_3 => absurd c_3 hv) (fun c_3 => ?_)
  refine lv_aload_n hx hb dX11_finish_6 rfl (lv_at hl 0 rfl) ?_
  refine lv_iload_n hx hb dX11_finish_7 rfl (lv_at hl 1 rfl) ?_
  refine kc_i (wr := []) (va_runV (As := [.int v]) (rest := [.ref mo]) ⟨hx, hb, hml, hown, hts⟩ (k_isNoVariable l hfl ae D cI cJ cS cO mo vl sl v _) (cwV 1 hts (gV q_1121 q_1118 q_1120 q_68 q_104) rfl rfl rfl (by decide +kernel) ⟨Nat.le_of_ble_eq_true rfl, Nat.le_of_ble_eq_true rfl⟩) ⟨Pw.blind, va_recv hK hP (ci := 12) (q0 := 0) rfl rfl, Pw.mk_call hP hK hD hS hA hG [0, 1] rfl (by decide)⟩ rfl rfl hl.1 rfl (lv_room (Nat.le_of_ble_eq_true rfl)) dX11_finish_8 ⟨Nat.le_of_ble_eq_true rfl, Nat.le_of_ble_eq_true rfl⟩) hP hD hS hA [0, 1] [] rfl rfl (by decide) (by decide) (fun r_1 u_2 H locs hw hP hD hS => ?_)
  obtain rfl : r_1 = 1 := hw
  have hP : va_P D vwCl [(mo, .inr (12, [.int 0, .ref vl, .ref sl])), (vl, .inr (0, [.int 0, .ref ae, .int 0]))] H := hP
  have hD : va_D A [(mo, .inr (12, [.int 0, .ref vl, .ref sl])), (vl, .inr (0, [.int 0, .ref ae, .int 0]))] := hD
  refine lv_if_eq (tgt := 18) hx hb dX11_finish_11 (by decide) (fun c_11 => absurd c_11 (by decide)) (fun c_11 => ?_)
  refine lv_iconst (v := 1) hx hb dX11_finish_14 (by decide) ?_
  refine lv_goto (tgt := 19) hx hb dX11_finish_15 (by decide) ?_
  refine lv_iconst (v := 1) hx hb dX11_finish_19 (by decide) ?_
  refine kc_i (wr := [(vl, .inr (0, [.int 0, .ref ae, .int 0]))]) (va_runV (As := [.int 1, .int 1]) (rest := []) ⟨hx, hb, hml, hown, hts⟩ (k_start_1 l hfl ae D cI cJ cS cO mo vl sl 0 1 _ (by decide)) (cwV 2 hts (gV q_1028 q_1025 q_1027 q_63 q_104) rfl rfl rfl (by decide +kernel) ⟨Nat.le_of_ble_eq_true rfl, Nat.le_of_ble_eq_true rfl⟩) ⟨Pw.blind, va_recv hK hP (ci := 12) (q0 := 0) rfl rfl, Pw.mk_call hP hK hD hS hA hG [0] rfl (by decide)⟩ rfl rfl hl.1 rfl (lv_room (Nat.le_of_ble_eq_true rfl)) dX11_finish_20 ⟨Nat.le_of_ble_eq_true rfl, Nat.le_of_ble_eq_true rfl⟩) hP hD hS hA [0] [1] rfl rfl (by decide) (by decide) (fun r_3 u_4 H locs hw hP hD hS => ?_)
  obtain rfl : r_3 = 1 := hw
  have hP : va_P D vwCl [(vl, .inr (0, [.int 0, .ref ae, .int 0])), (mo, .inr (12, [.int 1, .ref vl, .ref sl]))] H := hP
  have hD : va_D A [(vl, .inr (0, [.int 0, .ref ae, .int 0])), (mo, .inr (12, [.int 1, .ref vl, .ref sl]))] := hD
  refine lv_if_eq (tgt := 30) hx hb dX11_finish_23 (by decide) (fun c_23 => absurd c_23 (by decide)) (fun c_23 => ?_)
  refine lv_iconst (v := 0) hx hb dX11_finish_26 (by decide) ?_
  refine lv_goto (tgt := 42) hx hb dX11_finish_27 (by decide) ?_
  have hP := hP.sub (ws' := [(mo, .inr (12, [.int 1, .ref vl, .ref sl])), (vl, .inr (0, [.int 0, .ref ae, .int 0]))]) [1, 0] rfl
  have hD := hD.sub (ws' := [(mo, .inr (12, [.int 1, .ref vl, .ref sl])), (vl, .inr (0, [.int 0, .ref ae, .int 0]))]) [1, 0] (by decide) rfl
  exact ke_i hx hb hr (by first | rfl | decide) () (rfl) hP hD hS (Nat.le_of_ble_eq_true rfl) (Nat.le_of_ble_eq_true rfl) hlocks dX11_finish_42

set_option maxHeartbeats 4000000 in
set_option maxRecDepth 100000 in
theorem m_init (l : Launch) (hfl : l.stackTraces = false) (ae : Nat) (D : va_G) (cI cJ cS cO : ClassId) (mo : Nat) (sz : Nat)  : Met l yX11_init (wx (.code yX11_init cX11_init 1 none)) ({ frames := 4, cells := 2, slots := 6, locals := 72 }) (va_Pc [.ref mo] (Pw ae D vwCl [(cI, .int), (cJ, .long), (cS, .object "IronwoodModel$State"), (cO, .object "java/lang/Object")] [(mo, .inr (12, [.int 0, .null, .null]))] sz)) (va_Qv (fun (u : (Nat) × (Nat)) => True) (Bw D vwCl (fun (u : (Nat) × (Nat)) => [(mo, .inr (12, [.int 0, .ref u.1, .ref u.2])), (u.1, .inr (0, [.int 0, .ref ae, .int 0])), (u.2, .inr (0, [.int 0, .ref ae, .int 0]))]) (va_A [(mo, .inr (12, [.int 0, .null, .null]))] sz)) (va_A [(mo, .inr (12, [.int 0, .null, .null]))] sz)) 2 6 (va_A [(mo, .inr (12, [.int 0, .null, .null]))] sz) := by
  refine Met.ofW (cc := cX11_init) (maxL := 1) (ret := none) (by decide) rfl ?_
  intro p e s m args below meth c s₁ B hml hv9
  obtain ⟨rfl, hsz, hP, hK, hD0, hG⟩ := hv9
  have hx := B.exec
  have hb := B.bytes
  have hr := B.returns
  have hts := atoms_spec (ws := wx (.code yX11_init cX11_init 1 none)) B.pre
  have hown : s.vm.findClass RX11 = some m.cls := findClass_of_methodNamed B.named
  have hlocks := B.notSynchronized
  have hin : meth.name = "<init>" := (name_of_methodNamed B.named B.method).1
  subst hsz
  have hD := hD0.self (sz := s.heap.size)
  generalize hAe : va_A [(mo, .inr (12, [.int 0, .null, .null]))] s.heap.size = A at hD hG ⊢
  have hA : ∀ q : Nat, s.heap.size ≤ q → A q := fun q h => by rw [← hAe]; exact Or.inr h
  have hS : va_S A s.heap s.heap [] := va_S.rf
  have hP : va_P D vwCl [(mo, .inr (12, [.int 0, .null, .null]))] s.heap := hP
  have hl := lv_entry ([.ref mo]) (n := 1) (Nat.le_of_ble_eq_true rfl)
  rw [lg_entry_eq]
  generalize (lg_sl ([.ref mo]) ++ List.replicate (1 - (lg_sl ([.ref mo])).length) Slot.unset).toArray = ls at hl ⊢
  have hl : lv_has ls 1 [(0, .ref mo)] := hl
  refine lv_aload_n hx hb dX11_init_0 rfl (lv_at hl 0 rfl) ?_
  refine W.objInit hx hb hown (hts _ (mc q_975)) (hts _ (mc q_134)) (hts _ (mc q_135)) rfl (by rw [hml]; exact hl.1) rfl dX11_init_1 (Nat.le_of_ble_eq_true rfl) (Nat.le_of_ble_eq_true rfl) ?_
  refine W.eq (g2 := F0 m 4 ls []) rfl ?_
  refine lv_aload_n hx hb dX11_init_4 rfl (lv_at hl 0 rfl) ?_
  refine va_new (ci := 0) (fs := [.int 0, .null, .int 0]) (C := RJx4a65c) (T := TJx4a65c) (N := 3) hx hb hts in_RJx4a65c tyJx4a65c tyJx4a65c_ok hown (hts _ (mc q_976)) (hts _ (mc q_977)) (hts _ (mc q_107)) hK hP hD hS hA rfl (fun j hj => by rcases (show j = 0 ∨ j = 1 ∨ j = 2 by omega) with rfl | rfl | rfl <;> rfl) (Nat.le_of_ble_eq_true rfl) (Nat.le_of_ble_eq_true rfl) dX11_init_5 (fun q_1 H hP hD hS => ?_)
  have hP : va_P D vwCl [(mo, .inr (12, [.int 0, .null, .null])), (q_1, .inr (0, [.int 0, .null, .int 0]))] H := hP
  have hD : va_D A [(mo, .inr (12, [.int 0, .null, .null])), (q_1, .inr (0, [.int 0, .null, .int 0]))] := hD
  refine lv_dup hx hb dX11_init_8 rfl ?_
  refine kc_v (wr := [(mo, .inr (12, [.int 0, .null, .null]))]) (va_runI (As := []) (rest := [.ref q_1, .ref mo]) ⟨hx, hb, hml, hown, hts⟩ (k_al_init l hfl ae D cI cJ cS cO q_1 _) (cwI 0 hts (gB q_980) rfl rfl rfl (hts _ (mc q_107)) (hts _ (mc q_978)) (hts _ (mc q_979)) rfl (by decide +kernel) ⟨Nat.le_of_ble_eq_true rfl, Nat.le_of_ble_eq_true rfl⟩) ⟨Pw.blind, Pw.mk_call hP hK hD hS hA hG [1] rfl (by decide)⟩ rfl rfl hl.1 rfl (lv_room (Nat.le_of_ble_eq_true rfl)) dX11_init_9 ⟨Nat.le_of_ble_eq_true rfl, Nat.le_of_ble_eq_true rfl⟩) hP hD hS hA [1] [0] rfl rfl (by decide) (by decide) (fun u_3 H locs hw hP hD hS => ?_)
  have hP : va_P D vwCl [(mo, .inr (12, [.int 0, .null, .null])), (q_1, .inr (0, [.int 0, .ref ae, .int 0]))] H := hP
  have hD : va_D A [(mo, .inr (12, [.int 0, .null, .null])), (q_1, .inr (0, [.int 0, .ref ae, .int 0]))] := hD
  refine va_putF (D := D) (ci := 12) (v := .ref q_1) (ty := .object "java/util/ArrayList") (C := RX11) (T := TX11) (N := 3) (ref := "IronwoodModel") hx hb hts in_RX11 tyX11 tyX11_ok nmX11 hown hK hP hD hS 0 rfl rfl 1 (by decide) (hts _ (mc q_1003)) (fun _ h9 => h9) rfl hin rfl (by decide +kernel) rfl rfl (Nat.le_of_ble_eq_true rfl) dX11_init_12 (fun H locs hP hD hS => ?_)
  have hP : va_P D vwCl [(mo, .inr (12, [.int 0, .ref q_1, .null])), (q_1, .inr (0, [.int 0, .ref ae, .int 0]))] H := hP
  have hD : va_D A [(mo, .inr (12, [.int 0, .ref q_1, .null])), (q_1, .inr (0, [.int 0, .ref ae, .int 0]))] := hD
  refine lv_aload_n hx hb dX11_init_15 rfl (lv_at hl 0 rfl) ?_
  refine va_new (ci := 0) (fs := [.int 0, .null, .int 0]) (C := RJx4a65c) (T := TJx4a65c) (N := 3) hx hb hts in_RJx4a65c tyJx4a65c tyJx4a65c_ok hown (hts _ (mc q_976)) (hts _ (mc q_977)) (hts _ (mc q_107)) hK hP hD hS hA rfl (fun j hj => by rcases (show j = 0 ∨ j = 1 ∨ j = 2 by omega) with rfl | rfl | rfl <;> rfl) (Nat.le_of_ble_eq_true rfl) (Nat.le_of_ble_eq_true rfl) dX11_init_16 (fun q_4 H hP hD hS => ?_)
  have hP : va_P D vwCl [(mo, .inr (12, [.int 0, .ref q_1, .null])), (q_1, .inr (0, [.int 0, .ref ae, .int 0])), (q_4, .inr (0, [.int 0, .null, .int 0]))] H := hP
  have hD : va_D A [(mo, .inr (12, [.int 0, .ref q_1, .null])), (q_1, .inr (0, [.int 0, .ref ae, .int 0])), (q_4, .inr (0, [.int 0, .null, .int 0]))] := hD
  refine lv_dup hx hb dX11_init_19 rfl ?_
  refine kc_v (wr := [(mo, .inr (12, [.int 0, .ref q_1, .null])), (q_1, .inr (0, [.int 0, .ref ae, .int 0]))]) (va_runI (As := []) (rest := [.ref q_4, .ref mo]) ⟨hx, hb, hml, hown, hts⟩ (k_al_init l hfl ae D cI cJ cS cO q_4 _) (cwI 0 hts (gB q_980) rfl rfl rfl (hts _ (mc q_107)) (hts _ (mc q_978)) (hts _ (mc q_979)) rfl (by decide +kernel) ⟨Nat.le_of_ble_eq_true rfl, Nat.le_of_ble_eq_true rfl⟩) ⟨Pw.blind, Pw.mk_call hP hK hD hS hA hG [2] rfl (by decide)⟩ rfl rfl hl.1 rfl (lv_room (Nat.le_of_ble_eq_true rfl)) dX11_init_20 ⟨Nat.le_of_ble_eq_true rfl, Nat.le_of_ble_eq_true rfl⟩) hP hD hS hA [2] [0, 1] rfl rfl (by decide) (by decide) (fun u_6 H locs hw hP hD hS => ?_)
  have hP : va_P D vwCl [(mo, .inr (12, [.int 0, .ref q_1, .null])), (q_1, .inr (0, [.int 0, .ref ae, .int 0])), (q_4, .inr (0, [.int 0, .ref ae, .int 0]))] H := hP
  have hD : va_D A [(mo, .inr (12, [.int 0, .ref q_1, .null])), (q_1, .inr (0, [.int 0, .ref ae, .int 0])), (q_4, .inr (0, [.int 0, .ref ae, .int 0]))] := hD
  refine va_putF (D := D) (ci := 12) (v := .ref q_4) (ty := .object "java/util/ArrayList") (C := RX11) (T := TX11) (N := 3) (ref := "IronwoodModel") hx hb hts in_RX11 tyX11 tyX11_ok nmX11 hown hK hP hD hS 0 rfl rfl 2 (by decide) (hts _ (mc q_1005)) (fun _ h9 => h9) rfl hin rfl (by decide +kernel) rfl rfl (Nat.le_of_ble_eq_true rfl) dX11_init_23 (fun H locs hP hD hS => ?_)
  have hP : va_P D vwCl [(mo, .inr (12, [.int 0, .ref q_1, .ref q_4])), (q_1, .inr (0, [.int 0, .ref ae, .int 0])), (q_4, .inr (0, [.int 0, .ref ae, .int 0]))] H := hP
  have hD : va_D A [(mo, .inr (12, [.int 0, .ref q_1, .ref q_4])), (q_1, .inr (0, [.int 0, .ref ae, .int 0])), (q_4, .inr (0, [.int 0, .ref ae, .int 0]))] := hD
  have hP := hP.sub (ws' := [(mo, .inr (12, [.int 0, .ref q_1, .ref q_4])), (q_1, .inr (0, [.int 0, .ref ae, .int 0])), (q_4, .inr (0, [.int 0, .ref ae, .int 0]))]) [0, 1, 2] rfl
  have hD := hD.sub (ws' := [(mo, .inr (12, [.int 0, .ref q_1, .ref q_4])), (q_1, .inr (0, [.int 0, .ref ae, .int 0])), (q_4, .inr (0, [.int 0, .ref ae, .int 0]))]) [0, 1, 2] (by decide) rfl
  exact ke_v hx hb hr (q_1, q_4) (trivial) hP hD hS (Nat.le_of_ble_eq_true rfl) (Nat.le_of_ble_eq_true rfl) hlocks dX11_init_26
