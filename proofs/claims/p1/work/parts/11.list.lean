set_option maxHeartbeats 4000000 in
set_option maxRecDepth 100000 in
theorem k_Jxa1e45_init_da8c8 (l : Launch) (hfl : l.stackTraces = false) (ae : Nat) (D : va_G) (cI cJ cS cO : ClassId) (v : Nat) (sz : Nat)  : Met l yJxa1e45_init_da8c8 (wx (.code yJxa1e45_init_da8c8 cJxa1e45_init_da8c8 1 none)) ({ frames := 1, cells := 0, slots := 0, locals := 12 }) (va_Pc [.ref v] (Pw ae D vwCl [(cI, .int), (cJ, .long), (cS, .object "IronwoodModel$State"), (cO, .object "java/lang/Object")] [(v, .inr (0, [.int 0, .null, .int 0]))] sz)) (va_Qv (fun (u : Unit) => True) (Bw D vwCl (fun (u : Unit) => [(v, .inr (0, [.int 0, .null, .int 0]))]) (va_A [(v, .inr (0, [.int 0, .null, .int 0]))] sz)) (va_A [(v, .inr (0, [.int 0, .null, .int 0]))] sz)) 0 0 (va_A [(v, .inr (0, [.int 0, .null, .int 0]))] sz) := by
  refine Met.ofW (cc := cJxa1e45_init_da8c8) (maxL := 1) (ret := none) (by decide) rfl ?_
  intro p e s m args below meth c s₁ B hml hv9
  obtain ⟨rfl, hsz, hP, hK, hD0, hG⟩ := hv9
  have hx := B.exec
  have hb := B.bytes
  have hr := B.returns
  have hts := atoms_spec (ws := wx (.code yJxa1e45_init_da8c8 cJxa1e45_init_da8c8 1 none)) B.pre
  have hown : s.vm.findClass RJxa1e45 = some m.cls := findClass_of_methodNamed B.named
  have hlocks := B.notSynchronized
  have hin : meth.name = "<init>" := (name_of_methodNamed B.named B.method).1
  subst hsz
  have hD := hD0.self (sz := s.heap.size)
  generalize hAe : va_A [(v, .inr (0, [.int 0, .null, .int 0]))] s.heap.size = A at hD hG ⊢
  have hA : ∀ q : Nat, s.heap.size ≤ q → A q := fun q h => by rw [← hAe]; exact Or.inr h
  have hS : va_S A s.heap s.heap [] := va_S.rf
  have hP : va_P D vwCl [(v, .inr (0, [.int 0, .null, .int 0]))] s.heap := hP
  have hl := lv_entry ([.ref v]) (n := 1) (Nat.le_of_ble_eq_true rfl)
  rw [lg_entry_eq]
  generalize (lg_sl ([.ref v]) ++ List.replicate (1 - (lg_sl ([.ref v])).length) Slot.unset).toArray = ls at hl ⊢
  have hl : lv_has ls 1 [(0, .ref v)] := hl
  refine lv_aload_n hx hb dJxa1e45_init_da8c8_0 rfl (lv_at hl 0 rfl) ?_
  refine W.objInit hx hb hown (hts _ (mc q_987)) (hts _ (mc q_134)) (hts _ (mc q_135)) rfl (by rw [hml]; exact hl.1) rfl dJxa1e45_init_da8c8_1 (Nat.le_of_ble_eq_true rfl) (Nat.le_of_ble_eq_true rfl) ?_
  refine W.eq (g2 := F0 m 4 ls []) rfl ?_
  have hP := hP.sub (ws' := [(v, .inr (0, [.int 0, .null, .int 0]))]) [0] rfl
  have hD := hD.sub (ws' := [(v, .inr (0, [.int 0, .null, .int 0]))]) [0] (by decide) rfl
  exact ke_v hx hb hr () (trivial) hP hD hS (Nat.le_of_ble_eq_true rfl) (Nat.le_of_ble_eq_true rfl) hlocks dJxa1e45_init_da8c8_4

set_option maxHeartbeats 4000000 in
set_option maxRecDepth 100000 in
theorem k_Jxc12de_init_da8c8 (l : Launch) (hfl : l.stackTraces = false) (ae : Nat) (D : va_G) (cI cJ cS cO : ClassId) (v : Nat) (sz : Nat)  : Met l yJxc12de_init_da8c8 (wx (.code yJxc12de_init_da8c8 cJxc12de_init_da8c8 1 none)) ({ frames := 2, cells := 0, slots := 0, locals := 32 }) (va_Pc [.ref v] (Pw ae D vwCl [(cI, .int), (cJ, .long), (cS, .object "IronwoodModel$State"), (cO, .object "java/lang/Object")] [(v, .inr (0, [.int 0, .null, .int 0]))] sz)) (va_Qv (fun (u : Unit) => True) (Bw D vwCl (fun (u : Unit) => [(v, .inr (0, [.int 0, .null, .int 0]))]) (va_A [(v, .inr (0, [.int 0, .null, .int 0]))] sz)) (va_A [(v, .inr (0, [.int 0, .null, .int 0]))] sz)) 0 0 (va_A [(v, .inr (0, [.int 0, .null, .int 0]))] sz) := by
  refine Met.ofW (cc := cJxc12de_init_da8c8) (maxL := 1) (ret := none) (by decide) rfl ?_
  intro p e s m args below meth c s₁ B hml hv9
  obtain ⟨rfl, hsz, hP, hK, hD0, hG⟩ := hv9
  have hx := B.exec
  have hb := B.bytes
  have hr := B.returns
  have hts := atoms_spec (ws := wx (.code yJxc12de_init_da8c8 cJxc12de_init_da8c8 1 none)) B.pre
  have hown : s.vm.findClass RJxc12de = some m.cls := findClass_of_methodNamed B.named
  have hlocks := B.notSynchronized
  have hin : meth.name = "<init>" := (name_of_methodNamed B.named B.method).1
  subst hsz
  have hD := hD0.self (sz := s.heap.size)
  generalize hAe : va_A [(v, .inr (0, [.int 0, .null, .int 0]))] s.heap.size = A at hD hG ⊢
  have hA : ∀ q : Nat, s.heap.size ≤ q → A q := fun q h => by rw [← hAe]; exact Or.inr h
  have hS : va_S A s.heap s.heap [] := va_S.rf
  have hP : va_P D vwCl [(v, .inr (0, [.int 0, .null, .int 0]))] s.heap := hP
  have hl := lv_entry ([.ref v]) (n := 1) (Nat.le_of_ble_eq_true rfl)
  rw [lg_entry_eq]
  generalize (lg_sl ([.ref v]) ++ List.replicate (1 - (lg_sl ([.ref v])).length) Slot.unset).toArray = ls at hl ⊢
  have hl : lv_has ls 1 [(0, .ref v)] := hl
  refine lv_aload_n hx hb dJxc12de_init_da8c8_0 rfl (lv_at hl 0 rfl) ?_
  refine kc_v (wr := []) (va_runI (As := []) (rest := []) ⟨hx, hb, hml, hown, hts⟩ (k_Jxa1e45_init_da8c8 l hfl ae D cI cJ cS cO v _) (cwI 0 hts (gB q_986) rfl rfl rfl (hts _ (mc q_105)) (hts _ (mc q_984)) (hts _ (mc q_985)) rfl (by decide +kernel) ⟨Nat.le_of_ble_eq_true rfl, Nat.le_of_ble_eq_true rfl⟩) ⟨Pw.blind, Pw.mk_call hP hK hD hS hA hG [0] rfl (by decide)⟩ rfl rfl hl.1 rfl (lv_room (Nat.le_of_ble_eq_true rfl)) dJxc12de_init_da8c8_1 ⟨Nat.le_of_ble_eq_true rfl, Nat.le_of_ble_eq_true rfl⟩) hP hD hS hA [0] [] rfl rfl (by decide) (by decide) (fun u_2 H locs hw hP hD hS => ?_)
  have hP : va_P D vwCl [(v, .inr (0, [.int 0, .null, .int 0]))] H := hP
  have hD : va_D A [(v, .inr (0, [.int 0, .null, .int 0]))] := hD
  refine lv_aload_n hx hb dJxc12de_init_da8c8_4 rfl (lv_at hl 0 rfl) ?_
  refine lv_iconst (v := 0) hx hb dJxc12de_init_da8c8_5 (by decide) ?_
  refine va_put (D := D) (ci := 0) (v := .int 0) (ty := .int) (C := RJx4a65c) (T := TJx4a65c) (N := 3) (ref := "java/util/AbstractList") hx hb hts in_RJx4a65c tyJx4a65c tyJx4a65c_ok nmJx4a65c hown hK hP hD hS 0 rfl rfl 0 (by decide) (hts _ (mc q_992)) (fun _ h9 => h9) rfl (by decide +kernel) rfl rfl (Nat.le_of_ble_eq_true rfl) dJxc12de_init_da8c8_6 (fun H locs hP hD hS => ?_)
  have hP : va_P D vwCl [(v, .inr (0, [.int 0, .null, .int 0]))] H := hP
  have hD : va_D A [(v, .inr (0, [.int 0, .null, .int 0]))] := hD
  have hP := hP.sub (ws' := [(v, .inr (0, [.int 0, .null, .int 0]))]) [0] rfl
  have hD := hD.sub (ws' := [(v, .inr (0, [.int 0, .null, .int 0]))]) [0] (by decide) rfl
  exact ke_v hx hb hr () (trivial) hP hD hS (Nat.le_of_ble_eq_true rfl) (Nat.le_of_ble_eq_true rfl) hlocks dJxc12de_init_da8c8_9

set_option maxHeartbeats 4000000 in
set_option maxRecDepth 100000 in
theorem k_al_init (l : Launch) (hfl : l.stackTraces = false) (ae : Nat) (D : va_G) (cI cJ cS cO : ClassId) (v : Nat) (sz : Nat)  : Met l yJx4a65c_init_da8c8 (wx (.code yJx4a65c_init_da8c8 cJx4a65c_init_da8c8 1 none)) ({ frames := 3, cells := 0, slots := 0, locals := 52 }) (va_Pc [.ref v] (Pw ae D vwCl [(cI, .int), (cJ, .long), (cS, .object "IronwoodModel$State"), (cO, .object "java/lang/Object")] [(v, .inr (0, [.int 0, .null, .int 0]))] sz)) (va_Qv (fun (u : Unit) => True) (Bw D vwCl (fun (u : Unit) => [(v, .inr (0, [.int 0, .ref ae, .int 0]))]) (va_A [(v, .inr (0, [.int 0, .null, .int 0]))] sz)) (va_A [(v, .inr (0, [.int 0, .null, .int 0]))] sz)) 0 0 (va_A [(v, .inr (0, [.int 0, .null, .int 0]))] sz) := by
  refine Met.ofW (cc := cJx4a65c_init_da8c8) (maxL := 1) (ret := none) (by decide) rfl ?_
  intro p e s m args below meth c s₁ B hml hv9
  obtain ⟨rfl, hsz, hP, hK, hD0, hG⟩ := hv9
  have hx := B.exec
  have hb := B.bytes
  have hr := B.returns
  have hts := atoms_spec (ws := wx (.code yJx4a65c_init_da8c8 cJx4a65c_init_da8c8 1 none)) B.pre
  have hown : s.vm.findClass RJx4a65c = some m.cls := findClass_of_methodNamed B.named
  have hlocks := B.notSynchronized
  have hin : meth.name = "<init>" := (name_of_methodNamed B.named B.method).1
  subst hsz
  have hD := hD0.self (sz := s.heap.size)
  generalize hAe : va_A [(v, .inr (0, [.int 0, .null, .int 0]))] s.heap.size = A at hD hG ⊢
  have hA : ∀ q : Nat, s.heap.size ≤ q → A q := fun q h => by rw [← hAe]; exact Or.inr h
  have hS : va_S A s.heap s.heap [] := va_S.rf
  have hP : va_P D vwCl [(v, .inr (0, [.int 0, .null, .int 0]))] s.heap := hP
  have hl := lv_entry ([.ref v]) (n := 1) (Nat.le_of_ble_eq_true rfl)
  rw [lg_entry_eq]
  generalize (lg_sl ([.ref v]) ++ List.replicate (1 - (lg_sl ([.ref v])).length) Slot.unset).toArray = ls at hl ⊢
  have hl : lv_has ls 1 [(0, .ref v)] := hl
  refine lv_aload_n hx hb dJx4a65c_init_da8c8_0 rfl (lv_at hl 0 rfl) ?_
  refine kc_v (wr := []) (va_runI (As := []) (rest := []) ⟨hx, hb, hml, hown, hts⟩ (k_Jxc12de_init_da8c8 l hfl ae D cI cJ cS cO v _) (cwI 0 hts (gB q_983) rfl rfl rfl (hts _ (mc q_106)) (hts _ (mc q_981)) (hts _ (mc q_982)) rfl (by decide +kernel) ⟨Nat.le_of_ble_eq_true rfl, Nat.le_of_ble_eq_true rfl⟩) ⟨Pw.blind, Pw.mk_call hP hK hD hS hA hG [0] rfl (by decide)⟩ rfl rfl hl.1 rfl (lv_room (Nat.le_of_ble_eq_true rfl)) dJx4a65c_init_da8c8_1 ⟨Nat.le_of_ble_eq_true rfl, Nat.le_of_ble_eq_true rfl⟩) hP hD hS hA [0] [] rfl rfl (by decide) (by decide) (fun u_2 H locs hw hP hD hS => ?_)
  have hP : va_P D vwCl [(v, .inr (0, [.int 0, .null, .int 0]))] H := hP
  have hD : va_D A [(v, .inr (0, [.int 0, .null, .int 0]))] := hD
  refine lv_aload_n hx hb dJx4a65c_init_da8c8_4 rfl (lv_at hl 0 rfl) ?_
  refine va_gets hx hb (C := AL) (n := ALn) (d := ALd) (ref := AL) hG.2.2.2.2.1 hS hown (hts _ (mc q_988)) (fun _ h9 => h9) dJx4a65c_init_da8c8_5 ?_
  refine va_put (D := D) (ci := 0) (v := .ref ae) (ty := .array (.object "java/lang/Object")) (C := RJx4a65c) (T := TJx4a65c) (N := 3) (ref := "java/util/ArrayList") hx hb hts in_RJx4a65c tyJx4a65c tyJx4a65c_ok nmJx4a65c hown hK hP hD hS 0 rfl rfl 1 (by decide) (hts _ (mc q_990)) (fun _ h9 => h9) rfl (by decide +kernel) rfl rfl (Nat.le_of_ble_eq_true rfl) dJx4a65c_init_da8c8_8 (fun H locs hP hD hS => ?_)
  have hP : va_P D vwCl [(v, .inr (0, [.int 0, .ref ae, .int 0]))] H := hP
  have hD : va_D A [(v, .inr (0, [.int 0, .ref ae, .int 0]))] := hD
  have hP := hP.sub (ws' := [(v, .inr (0, [.int 0, .ref ae, .int 0]))]) [0] rfl
  have hD := hD.sub (ws' := [(v, .inr (0, [.int 0, .ref ae, .int 0]))]) [0] (by decide) rfl
  exact ke_v hx hb hr () (trivial) hP hD hS (Nat.le_of_ble_eq_true rfl) (Nat.le_of_ble_eq_true rfl) hlocks dJx4a65c_init_da8c8_11

set_option maxHeartbeats 4000000 in
set_option maxRecDepth 100000 in
theorem k_al_size (l : Launch) (hfl : l.stackTraces = false) (ae : Nat) (D : va_G) (cI cJ cS cO : ClassId) (v : Nat) (mdc : Int32) (ed : Nat) (n : Int32) (sz : Nat)  : Met l yJx4a65c_size_8abf5 (wx (.code yJx4a65c_size_8abf5 cJx4a65c_size_8abf5 1 (some .int))) ({ frames := 0, cells := 0, slots := 0, locals := 0 }) (va_Pc [.ref v] (Pw ae D vwCl [(cI, .int), (cJ, .long), (cS, .object "IronwoodModel$State"), (cO, .object "java/lang/Object")] [(v, .inr (0, [.int mdc, .ref ed, .int n]))] sz)) (va_Qi (fun (r : Int32) (u : Unit) => r = n) (Bw D vwCl (fun (u : Unit) => [(v, .inr (0, [.int mdc, .ref ed, .int n]))]) (va_A [(v, .inr (0, [.int mdc, .ref ed, .int n]))] sz)) (va_A [(v, .inr (0, [.int mdc, .ref ed, .int n]))] sz)) 0 0 (va_A [(v, .inr (0, [.int mdc, .ref ed, .int n]))] sz) := by
  refine Met.ofW (cc := cJx4a65c_size_8abf5) (maxL := 1) (ret := (some .int)) (by decide) rfl ?_
  intro p e s m args below meth c s₁ B hml hv9
  obtain ⟨rfl, hsz, hP, hK, hD0, hG⟩ := hv9
  have hx := B.exec
  have hb := B.bytes
  have hr := B.returns
  have hts := atoms_spec (ws := wx (.code yJx4a65c_size_8abf5 cJx4a65c_size_8abf5 1 (some .int))) B.pre
  have hown : s.vm.findClass RJx4a65c = some m.cls := findClass_of_methodNamed B.named
  have hlocks := B.notSynchronized
  subst hsz
  have hD := hD0.self (sz := s.heap.size)
  generalize hAe : va_A [(v, .inr (0, [.int mdc, .ref ed, .int n]))] s.heap.size = A at hD hG ⊢
  have hA : ∀ q : Nat, s.heap.size ≤ q → A q := fun q h => by rw [← hAe]; exact Or.inr h
  have hS : va_S A s.heap s.heap [] := va_S.rf
  have hP : va_P D vwCl [(v, .inr (0, [.int mdc, .ref ed, .int n]))] s.heap := hP
  have hl := lv_entry ([.ref v]) (n := 1) (Nat.le_of_ble_eq_true rfl)
  rw [lg_entry_eq]
  generalize (lg_sl ([.ref v]) ++ List.replicate (1 - (lg_sl ([.ref v])).length) Slot.unset).toArray = ls at hl ⊢
  have hl : lv_has ls 1 [(0, .ref v)] := hl
  refine lv_aload_n hx hb dJx4a65c_size_8abf5_0 rfl (lv_at hl 0 rfl) ?_
  refine va_get (D := D) (ci := 0) (v := .int n) (C := RJx4a65c) (T := TJx4a65c) (N := 3) (ref := "java/util/ArrayList") hx hb hts in_RJx4a65c hown hK hP 0 rfl rfl 2 (by decide) (hts _ (mc q_991)) (fun _ h9 => h9) rfl dJx4a65c_size_8abf5_1 ?_
  have hP := hP.sub (ws' := [(v, .inr (0, [.int mdc, .ref ed, .int n]))]) [0] rfl
  have hD := hD.sub (ws' := [(v, .inr (0, [.int mdc, .ref ed, .int n]))]) [0] (by decide) rfl
  exact ke_i hx hb hr (by first | rfl | decide) () (rfl) hP hD hS (Nat.le_of_ble_eq_true rfl) (Nat.le_of_ble_eq_true rfl) hlocks dJx4a65c_size_8abf5_4

set_option maxHeartbeats 4000000 in
set_option maxRecDepth 100000 in
theorem k_al_isEmpty_0 (l : Launch) (hfl : l.stackTraces = false) (ae : Nat) (D : va_G) (cI cJ cS cO : ClassId) (v : Nat) (mdc : Int32) (ed : Nat) (sz : Nat)  : Met l yJx4a65c_isEmpty_aae02 (wx (.code yJx4a65c_isEmpty_aae02 cJx4a65c_isEmpty_aae02 1 (some .boolean))) ({ frames := 0, cells := 0, slots := 0, locals := 0 }) (va_Pc [.ref v] (Pw ae D vwCl [(cI, .int), (cJ, .long), (cS, .object "IronwoodModel$State"), (cO, .object "java/lang/Object")] [(v, .inr (0, [.int mdc, .ref ed, .int 0]))] sz)) (va_Qi (fun (r : Int32) (u : Unit) => r = 1) (Bw D vwCl (fun (u : Unit) => [(v, .inr (0, [.int mdc, .ref ed, .int 0]))]) (va_A [(v, .inr (0, [.int mdc, .ref ed, .int 0]))] sz)) (va_A [(v, .inr (0, [.int mdc, .ref ed, .int 0]))] sz)) 0 0 (va_A [(v, .inr (0, [.int mdc, .ref ed, .int 0]))] sz) := by
  refine Met.ofW (cc := cJx4a65c_isEmpty_aae02) (maxL := 1) (ret := (some .boolean)) (by decide) rfl ?_
  intro p e s m args below meth c s₁ B hml hv9
  obtain ⟨rfl, hsz, hP, hK, hD0, hG⟩ := hv9
  have hx := B.exec
  have hb := B.bytes
  have hr := B.returns
  have hts := atoms_spec (ws := wx (.code yJx4a65c_isEmpty_aae02 cJx4a65c_isEmpty_aae02 1 (some .boolean))) B.pre
  have hown : s.vm.findClass RJx4a65c = some m.cls := findClass_of_methodNamed B.named
  have hlocks := B.notSynchronized
  subst hsz
  have hD := hD0.self (sz := s.heap.size)
  generalize hAe : va_A [(v, .inr (0, [.int mdc, .ref ed, .int 0]))] s.heap.size = A at hD hG ⊢
  have hA : ∀ q : Nat, s.heap.size ≤ q → A q := fun q h => by rw [← hAe]; exact Or.inr h
  have hS : va_S A s.heap s.heap [] := va_S.rf
  have hP : va_P D vwCl [(v, .inr (0, [.int mdc, .ref ed, .int 0]))] s.heap := hP
  have hl := lv_entry ([.ref v]) (n := 1) (Nat.le_of_ble_eq_true rfl)
  rw [lg_entry_eq]
  generalize (lg_sl ([.ref v]) ++ List.replicate (1 - (lg_sl ([.ref v])).length) Slot.unset).toArray = ls at hl ⊢
  have hl : lv_has ls 1 [(0, .ref v)] := hl
  refine lv_aload_n hx hb dJx4a65c_isEmpty_aae02_0 rfl (lv_at hl 0 rfl) ?_
  refine va_get (D := D) (ci := 0) (v := .int 0) (C := RJx4a65c) (T := TJx4a65c) (N := 3) (ref := "java/util/ArrayList") hx hb hts in_RJx4a65c hown hK hP 0 rfl rfl 2 (by decide) (hts _ (mc q_991)) (fun _ h9 => h9) rfl dJx4a65c_isEmpty_aae02_1 ?_
  refine lv_if_ne (tgt := 11) hx hb dJx4a65c_isEmpty_aae02_4 (by decide) (fun c_4 => absurd (by decide) c_4) (fun c_4 => ?_)
  refine lv_iconst (v := 1) hx hb dJx4a65c_isEmpty_aae02_7 (by decide) ?_
  refine lv_goto (tgt := 12) hx hb dJx4a65c_isEmpty_aae02_8 (by decide) ?_
  have hP := hP.sub (ws' := [(v, .inr (0, [.int mdc, .ref ed, .int 0]))]) [0] rfl
  have hD := hD.sub (ws' := [(v, .inr (0, [.int mdc, .ref ed, .int 0]))]) [0] (by decide) rfl
  exact ke_i hx hb hr (by first | rfl | decide) () (rfl) hP hD hS (Nat.le_of_ble_eq_true rfl) (Nat.le_of_ble_eq_true rfl) hlocks dJx4a65c_isEmpty_aae02_12

set_option maxHeartbeats 4000000 in
set_option maxRecDepth 100000 in
theorem k_al_grow1 (l : Launch) (hfl : l.stackTraces = false) (ae : Nat) (D : va_G) (cI cJ cS cO : ClassId) (v : Nat) (mdc : Int32) (sz : Nat)  : Met l yJx4a65c_grow_92f84 (wx (.code yJx4a65c_grow_92f84 cJx4a65c_grow_92f84 4 (some (.array (.object "java/lang/Object"))))) ({ frames := 1, cells := 1, slots := 10, locals := 14 }) (va_Pc [.ref v, .int 1] (Pw ae D vwCl [(cI, .int), (cJ, .long), (cS, .object "IronwoodModel$State"), (cO, .object "java/lang/Object")] [(v, .inr (0, [.int mdc, .ref ae, .int 0]))] sz)) (va_Qr (fun (u : (Nat)) => True) (fun (u : (Nat)) ra t9 => ra = u ∧ Bw D vwCl (fun (u : (Nat)) => [(v, .inr (0, [.int mdc, .ref u, .int 0])), (u, .inl (cO, 10, .inr (.inr (.inr (.inr (fun _ => none))))))]) (va_A [(v, .inr (0, [.int mdc, .ref ae, .int 0]))] sz) u t9) (va_A [(v, .inr (0, [.int mdc, .ref ae, .int 0]))] sz)) 1 10 (va_A [(v, .inr (0, [.int mdc, .ref ae, .int 0]))] sz) := by
  refine Met.ofW (cc := cJx4a65c_grow_92f84) (maxL := 4) (ret := (some (.array (.object "java/lang/Object")))) (by decide) rfl ?_
  intro p e s m args below meth c s₁ B hml hv9
  obtain ⟨rfl, hsz, hP, hK, hD0, hG⟩ := hv9
  have hx := B.exec
  have hb := B.bytes
  have hr := B.returns
  have hts := atoms_spec (ws := wx (.code yJx4a65c_grow_92f84 cJx4a65c_grow_92f84 4 (some (.array (.object "java/lang/Object"))))) B.pre
  have hown : s.vm.findClass RJx4a65c = some m.cls := findClass_of_methodNamed B.named
  have hlocks := B.notSynchronized
  subst hsz
  have hD := hD0.self (sz := s.heap.size)
  generalize hAe : va_A [(v, .inr (0, [.int mdc, .ref ae, .int 0]))] s.heap.size = A at hD hG ⊢
  have hA : ∀ q : Nat, s.heap.size ≤ q → A q := fun q h => by rw [← hAe]; exact Or.inr h
  have hS : va_S A s.heap s.heap [] := va_S.rf
  have hP : va_P D vwCl [(v, .inr (0, [.int mdc, .ref ae, .int 0]))] s.heap := hP
  have hl := lv_entry ([.ref v, .int 1]) (n := 4) (Nat.le_of_ble_eq_true rfl)
  rw [lg_entry_eq]
  generalize (lg_sl ([.ref v, .int 1]) ++ List.replicate (4 - (lg_sl ([.ref v, .int 1])).length) Slot.unset).toArray = ls at hl ⊢
  have hl : lv_has ls 4 [(0, .ref v), (1, .int 1)] := hl
  refine lv_aload_n hx hb dJx4a65c_grow_92f84_0 rfl (lv_at hl 0 rfl) ?_
  refine va_get (D := D) (ci := 0) (v := .ref ae) (C := RJx4a65c) (T := TJx4a65c) (N := 3) (ref := "java/util/ArrayList") hx hb hts in_RJx4a65c hown hK hP 0 rfl rfl 1 (by decide) (hts _ (mc q_990)) (fun _ h9 => h9) rfl dJx4a65c_grow_92f84_1 ?_
  refine va_tlen (v := 0) hx hb hG.2.2.2.2.2 hS (by decide) dJx4a65c_grow_92f84_4 ?_
  refine lv_istore_n (lv' := [(2, .int 0), (0, .ref v), (1, .int 1)]) hx hb dJx4a65c_grow_92f84_5 rfl hl (by decide) rfl (fun ls hl => ?_)
  refine lv_iload_n hx hb dJx4a65c_grow_92f84_6 rfl (lv_at hl 0 rfl) ?_
  refine lv_if_gt (tgt := 20) hx hb dJx4a65c_grow_92f84_7 (by decide) (fun c_7 => absurd c_7 (by decide)) (fun c_7 => ?_)
  refine lv_aload_n hx hb dJx4a65c_grow_92f84_10 rfl (lv_at hl 1 rfl) ?_
  refine va_get (D := D) (ci := 0) (v := .ref ae) (C := RJx4a65c) (T := TJx4a65c) (N := 3) (ref := "java/util/ArrayList") hx hb hts in_RJx4a65c hown hK hP 0 rfl rfl 1 (by decide) (hts _ (mc q_990)) (fun _ h9 => h9) rfl dJx4a65c_grow_92f84_11 ?_
  refine va_gets hx hb (C := AL) (n := ALn) (d := ALd) (ref := AL) hG.2.2.2.2.1 hS hown (hts _ (mc q_988)) (fun _ h9 => h9) dJx4a65c_grow_92f84_14 ?_
  refine lv_acmp_eq (tgt := 45) (rx := some ae) (ry := some ae) hx hb dJx4a65c_grow_92f84_17 (by decide) (fun _ => ?_) (fun c9 => absurd rfl c9)
  refine lv_aload_n hx hb dJx4a65c_grow_92f84_45 rfl (lv_at hl 1 rfl) ?_
  refine lv_bipush (v := 10) hx hb dJx4a65c_grow_92f84_46 (by decide) ?_
  refine lv_iload_n hx hb dJx4a65c_grow_92f84_48 rfl (lv_at hl 2 rfl) ?_
  refine va_mmax hx hb (by rw [hml]; exact hl.1.symm) hown (hts _ (mc q_1112)) (hts _ (mc q_1073)) (hts _ (mc q_115)) (hts _ (mc q_1074)) (Nat.le_of_ble_eq_true rfl) (Nat.le_of_ble_eq_true rfl) (Nat.le_of_ble_eq_true rfl) (Nat.le_of_ble_eq_true rfl) dJx4a65c_grow_92f84_49 ?_
  refine lv_topi (fun x_1 ex_1 => ?_)
  obtain rfl : x_1 = 10 := ex_1.trans (by decide)
  refine va_newq (C := "java/lang/Object") (N' := 10) hx hb hown (hts _ (mc q_1113)) (hG.2.1.2.2 "java/lang/Object" (by decide)) hK hP hD hS hA (by decide) (by decide) (by decide) (Nat.le_of_ble_eq_true rfl) (Nat.le_of_ble_eq_true rfl) dJx4a65c_grow_92f84_52 (fun q_2 cA9 H hK9 hP hD hS => ?_)
  obtain rfl : cO = cA9 := K_same hK9 (i := 3) (j := 4) (ty := .object "java/lang/Object") rfl rfl
  have hP : va_P D vwCl [(v, .inr (0, [.int mdc, .ref ae, .int 0])), (q_2, .inl (cO, 10, .inr (.inr (.inr (.inr (fun _ => none))))))] H := hP
  have hD : va_D A [(v, .inr (0, [.int mdc, .ref ae, .int 0])), (q_2, .inl (cO, 10, .inr (.inr (.inr (.inr (fun _ => none))))))] := hD
  refine lv_dup_x1 hx hb dJx4a65c_grow_92f84_55 rfl rfl ?_
  refine va_put (D := D) (ci := 0) (v := .ref q_2) (ty := .array (.object "java/lang/Object")) (C := RJx4a65c) (T := TJx4a65c) (N := 3) (ref := "java/util/ArrayList") hx hb hts in_RJx4a65c tyJx4a65c tyJx4a65c_ok nmJx4a65c hown hK hP hD hS 0 rfl rfl 1 (by decide) (hts _ (mc q_990)) (fun _ h9 => h9) rfl (by decide +kernel) rfl rfl (Nat.le_of_ble_eq_true rfl) dJx4a65c_grow_92f84_56 (fun H locs hP hD hS => ?_)
  have hP : va_P D vwCl [(v, .inr (0, [.int mdc, .ref q_2, .int 0])), (q_2, .inl (cO, 10, .inr (.inr (.inr (.inr (fun _ => none))))))] H := hP
  have hD : va_D A [(v, .inr (0, [.int mdc, .ref q_2, .int 0])), (q_2, .inl (cO, 10, .inr (.inr (.inr (.inr (fun _ => none))))))] := hD
  have hP := hP.sub (ws' := [(v, .inr (0, [.int mdc, .ref q_2, .int 0])), (q_2, .inl (cO, 10, .inr (.inr (.inr (.inr (fun _ => none))))))]) [0, 1] rfl
  have hD := hD.sub (ws' := [(v, .inr (0, [.int mdc, .ref q_2, .int 0])), (q_2, .inl (cO, 10, .inr (.inr (.inr (.inr (fun _ => none))))))]) [0, 1] (by decide) rfl
  exact ke_r hx hb hr (by first | exact Or.inl ⟨_, rfl⟩ | exact Or.inr ⟨_, rfl⟩) q_2 rfl (trivial) hP hD hS (Nat.le_of_ble_eq_true rfl) (Nat.le_of_ble_eq_true rfl) hlocks dJx4a65c_grow_92f84_59

set_option maxHeartbeats 4000000 in
set_option maxRecDepth 100000 in
theorem k_al_grow (l : Launch) (hfl : l.stackTraces = false) (ae : Nat) (D : va_G) (cI cJ cS cO : ClassId) (v : Nat) (mdc : Int32) (sz : Nat)  : Met l yJx4a65c_grow_d5877 (wx (.code yJx4a65c_grow_d5877 cJx4a65c_grow_d5877 1 (some (.array (.object "java/lang/Object"))))) ({ frames := 2, cells := 1, slots := 10, locals := 37 }) (va_Pc [.ref v] (Pw ae D vwCl [(cI, .int), (cJ, .long), (cS, .object "IronwoodModel$State"), (cO, .object "java/lang/Object")] [(v, .inr (0, [.int mdc, .ref ae, .int 0]))] sz)) (va_Qr (fun (u : (Nat)) => True) (fun (u : (Nat)) ra t9 => ra = u ∧ Bw D vwCl (fun (u : (Nat)) => [(v, .inr (0, [.int mdc, .ref u, .int 0])), (u, .inl (cO, 10, .inr (.inr (.inr (.inr (fun _ => none))))))]) (va_A [(v, .inr (0, [.int mdc, .ref ae, .int 0]))] sz) u t9) (va_A [(v, .inr (0, [.int mdc, .ref ae, .int 0]))] sz)) 1 10 (va_A [(v, .inr (0, [.int mdc, .ref ae, .int 0]))] sz) := by
  refine Met.ofW (cc := cJx4a65c_grow_d5877) (maxL := 1) (ret := (some (.array (.object "java/lang/Object")))) (by decide) rfl ?_
  intro p e s m args below meth c s₁ B hml hv9
  obtain ⟨rfl, hsz, hP, hK, hD0, hG⟩ := hv9
  have hx := B.exec
  have hb := B.bytes
  have hr := B.returns
  have hts := atoms_spec (ws := wx (.code yJx4a65c_grow_d5877 cJx4a65c_grow_d5877 1 (some (.array (.object "java/lang/Object"))))) B.pre
  have hown : s.vm.findClass RJx4a65c = some m.cls := findClass_of_methodNamed B.named
  have hlocks := B.notSynchronized
  subst hsz
  have hD := hD0.self (sz := s.heap.size)
  generalize hAe : va_A [(v, .inr (0, [.int mdc, .ref ae, .int 0]))] s.heap.size = A at hD hG ⊢
  have hA : ∀ q : Nat, s.heap.size ≤ q → A q := fun q h => by rw [← hAe]; exact Or.inr h
  have hS : va_S A s.heap s.heap [] := va_S.rf
  have hP : va_P D vwCl [(v, .inr (0, [.int mdc, .ref ae, .int 0]))] s.heap := hP
  have hl := lv_entry ([.ref v]) (n := 1) (Nat.le_of_ble_eq_true rfl)
  rw [lg_entry_eq]
  generalize (lg_sl ([.ref v]) ++ List.replicate (1 - (lg_sl ([.ref v])).length) Slot.unset).toArray = ls at hl ⊢
  have hl : lv_has ls 1 [(0, .ref v)] := hl
  refine lv_aload_n hx hb dJx4a65c_grow_d5877_0 rfl (lv_at hl 0 rfl) ?_
  refine lv_aload_n hx hb dJx4a65c_grow_d5877_1 rfl (lv_at hl 0 rfl) ?_
  refine va_get (D := D) (ci := 0) (v := .int 0) (C := RJx4a65c) (T := TJx4a65c) (N := 3) (ref := "java/util/ArrayList") hx hb hts in_RJx4a65c hown hK hP 0 rfl rfl 2 (by decide) (hts _ (mc q_991)) (fun _ h9 => h9) rfl dJx4a65c_grow_d5877_2 ?_
  refine lv_iconst (v := 1) hx hb dJx4a65c_grow_d5877_5 (by decide) ?_
  refine lv_iadd hx hb dJx4a65c_grow_d5877_6 ?_
  refine lv_topi (fun x_1 ex_1 => ?_)
  obtain rfl : x_1 = 1 := ex_1.trans (by decide)
  refine kc_r (wr := []) (va_runV (As := [.int 1]) (rest := []) ⟨hx, hb, hml, hown, hts⟩ (k_al_grow1 l hfl ae D cI cJ cS cO v mdc _) (cwV 1 hts (gV q_1068 q_1065 q_1067 q_67 q_107) rfl rfl rfl (by decide +kernel) ⟨Nat.le_of_ble_eq_true rfl, Nat.le_of_ble_eq_true rfl⟩) ⟨Pw.blind, va_recv hK hP (ci := 0) (q0 := 0) rfl rfl, Pw.mk_call hP hK hD hS hA hG [0] rfl (by decide)⟩ rfl rfl hl.1 rfl (lv_room (Nat.le_of_ble_eq_true rfl)) dJx4a65c_grow_d5877_7 ⟨Nat.le_of_ble_eq_true rfl, Nat.le_of_ble_eq_true rfl⟩) hP hD hS hA [0] [] rfl rfl (by decide) (by decide) (fun u_3 H locs hw hP hD hS => ?_)
  obtain ⟨q_4, rfl⟩ : ∃ z, z = u_3 := ⟨_, rfl⟩
  have hP : va_P D vwCl [(v, .inr (0, [.int mdc, .ref q_4, .int 0])), (q_4, .inl (cO, 10, .inr (.inr (.inr (.inr (fun _ => none))))))] H := hP
  have hD : va_D A [(v, .inr (0, [.int mdc, .ref q_4, .int 0])), (q_4, .inl (cO, 10, .inr (.inr (.inr (.inr (fun _ => none))))))] := hD
  have hP := hP.sub (ws' := [(v, .inr (0, [.int mdc, .ref q_4, .int 0])), (q_4, .inl (cO, 10, .inr (.inr (.inr (.inr (fun _ => none))))))]) [0, 1] rfl
  have hD := hD.sub (ws' := [(v, .inr (0, [.int mdc, .ref q_4, .int 0])), (q_4, .inl (cO, 10, .inr (.inr (.inr (.inr (fun _ => none))))))]) [0, 1] (by decide) rfl
  exact ke_r hx hb hr (by first | exact Or.inl ⟨_, rfl⟩ | exact Or.inr ⟨_, rfl⟩) q_4 rfl (trivial) hP hD hS (Nat.le_of_ble_eq_true rfl) (Nat.le_of_ble_eq_true rfl) hlocks dJx4a65c_grow_d5877_10

set_option maxHeartbeats 4000000 in
set_option maxRecDepth 100000 in
theorem k_al_add3_var (l : Launch) (hfl : l.stackTraces = false) (ae : Nat) (D : va_G) (cI cJ cS cO : ClassId) (v : Nat) (mdc : Int32) (el : Nat) (el_kind : Int32) (el_isParameter : Int32) (sz : Nat)  : Met l yJx4a65c_add_72be8 (wx (.code yJx4a65c_add_72be8 cJx4a65c_add_72be8 4 none)) ({ frames := 3, cells := 1, slots := 10, locals := 57 }) (va_Pc [.ref v, .ref el, .ref ae, .int 0] (Pw ae D vwCl [(cI, .int), (cJ, .long), (cS, .object "IronwoodModel$State"), (cO, .object "java/lang/Object")] [(v, .inr (0, [.int mdc, .ref ae, .int 0])), (el, .inr (11, [.int el_kind, .int el_isParameter]))] sz)) (va_Qv (fun (u : (Nat) × (Nat → Option Nat)) => True) (Bw D vwCl (fun (u : (Nat) × (Nat → Option Nat)) => [(v, .inr (0, [.int mdc, .ref u.1, .int 1])), (el, .inr (11, [.int el_kind, .int el_isParameter])), (u.1, .inl (cO, 10, .inr (.inr (.inr (.inr u.2)))))]) (va_A [(v, .inr (0, [.int mdc, .ref ae, .int 0])), (el, .inr (11, [.int el_kind, .int el_isParameter]))] sz)) (va_A [(v, .inr (0, [.int mdc, .ref ae, .int 0])), (el, .inr (11, [.int el_kind, .int el_isParameter]))] sz)) 1 10 (va_A [(v, .inr (0, [.int mdc, .ref ae, .int 0])), (el, .inr (11, [.int el_kind, .int el_isParameter]))] sz) := by
  refine Met.ofW (cc := cJx4a65c_add_72be8) (maxL := 4) (ret := none) (by decide) rfl ?_
  intro p e s m args below meth c s₁ B hml hv9
  obtain ⟨rfl, hsz, hP, hK, hD0, hG⟩ := hv9
  have hx := B.exec
  have hb := B.bytes
  have hr := B.returns
  have hts := atoms_spec (ws := wx (.code yJx4a65c_add_72be8 cJx4a65c_add_72be8 4 none)) B.pre
  have hown : s.vm.findClass RJx4a65c = some m.cls := findClass_of_methodNamed B.named
  have hlocks := B.notSynchronized
  subst hsz
  have hD := hD0.self (sz := s.heap.size)
  generalize hAe : va_A [(v, .inr (0, [.int mdc, .ref ae, .int 0])), (el, .inr (11, [.int el_kind, .int el_isParameter]))] s.heap.size = A at hD hG ⊢
  have hA : ∀ q : Nat, s.heap.size ≤ q → A q := fun q h => by rw [← hAe]; exact Or.inr h
  have hS : va_S A s.heap s.heap [] := va_S.rf
  have hP : va_P D vwCl [(v, .inr (0, [.int mdc, .ref ae, .int 0])), (el, .inr (11, [.int el_kind, .int el_isParameter]))] s.heap := hP
  have hl := lv_entry ([.ref v, .ref el, .ref ae, .int 0]) (n := 4) (Nat.le_of_ble_eq_true rfl)
  rw [lg_entry_eq]
  generalize (lg_sl ([.ref v, .ref el, .ref ae, .int 0]) ++ List.replicate (4 - (lg_sl ([.ref v, .ref el, .ref ae, .int 0])).length) Slot.unset).toArray = ls at hl ⊢
  have hl : lv_has ls 4 [(0, .ref v), (1, .ref el), (2, .ref ae), (3, .int 0)] := hl
  refine lv_iload_n hx hb dJx4a65c_add_72be8_0 rfl (lv_at hl 3 rfl) ?_
  refine lv_aload_n hx hb dJx4a65c_add_72be8_1 rfl (lv_at hl 2 rfl) ?_
  refine va_tlen (v := 0) hx hb hG.2.2.2.2.2 hS (by decide) dJx4a65c_add_72be8_2 ?_
  refine lv_icmp_ne (tgt := 11) hx hb dJx4a65c_add_72be8_3 (by decide) (fun c_3 => absurd (by decide) c_3) (fun c_3 => ?_)
  refine lv_aload_n hx hb dJx4a65c_add_72be8_6 rfl (lv_at hl 0 rfl) ?_
  refine kc_r (wr := [(el, .inr (11, [.int el_kind, .int el_isParameter]))]) (va_runV (As := []) (rest := []) ⟨hx, hb, hml, hown, hts⟩ (k_al_grow l hfl ae D cI cJ cS cO v mdc _) (cwV 0 hts (gV q_1064 q_1061 q_1063 q_66 q_107) rfl rfl rfl (by decide +kernel) ⟨Nat.le_of_ble_eq_true rfl, Nat.le_of_ble_eq_true rfl⟩) ⟨Pw.blind, va_recv hK hP (ci := 0) (q0 := 0) rfl rfl, Pw.mk_call hP hK hD hS hA hG [0] rfl (by decide)⟩ rfl rfl hl.1 rfl (lv_room (Nat.le_of_ble_eq_true rfl)) dJx4a65c_add_72be8_7 ⟨Nat.le_of_ble_eq_true rfl, Nat.le_of_ble_eq_true rfl⟩) hP hD hS hA [0] [1] rfl rfl (by decide) (by decide) (fun u_2 H locs hw hP hD hS => ?_)
  obtain ⟨q_3, rfl⟩ : ∃ z, z = u_2 := ⟨_, rfl⟩
  have hP : va_P D vwCl [(el, .inr (11, [.int el_kind, .int el_isParameter])), (v, .inr (0, [.int mdc, .ref q_3, .int 0])), (q_3, .inl (cO, 10, .inr (.inr (.inr (.inr (fun _ => none))))))] H := hP
  have hD : va_D A [(el, .inr (11, [.int el_kind, .int el_isParameter])), (v, .inr (0, [.int mdc, .ref q_3, .int 0])), (q_3, .inl (cO, 10, .inr (.inr (.inr (.inr (fun _ => none))))))] := hD
  refine lv_astore_n (lv' := [(2, .ref q_3), (0, .ref v), (1, .ref el), (3, .int 0)]) hx hb dJx4a65c_add_72be8_10 rfl hl (by decide) rfl (fun ls hl => ?_)
  refine lv_aload_n hx hb dJx4a65c_add_72be8_11 rfl (lv_at hl 0 rfl) ?_
  refine lv_iload_n hx hb dJx4a65c_add_72be8_12 rfl (lv_at hl 3 rfl) ?_
  refine lv_aload_n hx hb dJx4a65c_add_72be8_13 rfl (lv_at hl 2 rfl) ?_
  refine va_astqO hx hb hK hP hD hS 2 3 0 11 (r := (RX10, TX10, 2)) rfl rfl (hG.1.nw 114 rfl) rfl rfl (vp_in_iff.mpr (by decide)) dJx4a65c_add_72be8_14 (fun H locs hP hD hS => ?_)
  have hP : va_P D vwCl [(el, .inr (11, [.int el_kind, .int el_isParameter])), (v, .inr (0, [.int mdc, .ref q_3, .int 0])), (q_3, .inl (cO, 10, .inr (.inr (.inr (.inr (va_up (fun _ => none) (Int32.toNatClampNeg 0) (some el)))))))] H := hP
  have hD : va_D A [(el, .inr (11, [.int el_kind, .int el_isParameter])), (v, .inr (0, [.int mdc, .ref q_3, .int 0])), (q_3, .inl (cO, 10, .inr (.inr (.inr (.inr (va_up (fun _ => none) (Int32.toNatClampNeg 0) (some el)))))))] := hD
  refine lv_aload_n hx hb dJx4a65c_add_72be8_15 rfl (lv_at hl 1 rfl) ?_
  refine lv_iload_n hx hb dJx4a65c_add_72be8_16 rfl (lv_at hl 3 rfl) ?_
  refine lv_iconst (v := 1) hx hb dJx4a65c_add_72be8_17 (by decide) ?_
  refine lv_iadd hx hb dJx4a65c_add_72be8_18 ?_
  refine lv_topi (fun x_4 ex_4 => ?_)
  obtain rfl : x_4 = 1 := ex_4.trans (by decide)
  refine va_put (D := D) (ci := 0) (v := .int 1) (ty := .int) (C := RJx4a65c) (T := TJx4a65c) (N := 3) (ref := "java/util/ArrayList") hx hb hts in_RJx4a65c tyJx4a65c tyJx4a65c_ok nmJx4a65c hown hK hP hD hS 1 rfl rfl 2 (by decide) (hts _ (mc q_991)) (fun _ h9 => h9) rfl (by decide +kernel) rfl rfl (Nat.le_of_ble_eq_true rfl) dJx4a65c_add_72be8_19 (fun H locs hP hD hS => ?_)
  have hP : va_P D vwCl [(el, .inr (11, [.int el_kind, .int el_isParameter])), (v, .inr (0, [.int mdc, .ref q_3, .int 1])), (q_3, .inl (cO, 10, .inr (.inr (.inr (.inr (va_up (fun _ => none) (Int32.toNatClampNeg 0) (some el)))))))] H := hP
  have hD : va_D A [(el, .inr (11, [.int el_kind, .int el_isParameter])), (v, .inr (0, [.int mdc, .ref q_3, .int 1])), (q_3, .inl (cO, 10, .inr (.inr (.inr (.inr (va_up (fun _ => none) (Int32.toNatClampNeg 0) (some el)))))))] := hD
  have hP := hP.sub (ws' := [(v, .inr (0, [.int mdc, .ref q_3, .int 1])), (el, .inr (11, [.int el_kind, .int el_isParameter])), (q_3, .inl (cO, 10, .inr (.inr (.inr (.inr (va_up (fun _ => none) (Int32.toNatClampNeg 0) (some el)))))))]) [1, 0, 2] rfl
  have hD := hD.sub (ws' := [(v, .inr (0, [.int mdc, .ref q_3, .int 1])), (el, .inr (11, [.int el_kind, .int el_isParameter])), (q_3, .inl (cO, 10, .inr (.inr (.inr (.inr (va_up (fun _ => none) (Int32.toNatClampNeg 0) (some el)))))))]) [1, 0, 2] (by decide) rfl
  exact ke_v hx hb hr (q_3, va_up (fun _ => none) (Int32.toNatClampNeg 0) (some el)) (trivial) hP hD hS (Nat.le_of_ble_eq_true rfl) (Nat.le_of_ble_eq_true rfl) hlocks dJx4a65c_add_72be8_22

set_option maxHeartbeats 4000000 in
set_option maxRecDepth 100000 in
theorem k_al_add_var (l : Launch) (hfl : l.stackTraces = false) (ae : Nat) (D : va_G) (cI cJ cS cO : ClassId) (v : Nat) (el : Nat) (el_kind : Int32) (el_isParameter : Int32) (sz : Nat)  : Met l yJx4a65c_add_9ea2d (wx (.code yJx4a65c_add_9ea2d cJx4a65c_add_9ea2d 2 (some .boolean))) ({ frames := 4, cells := 1, slots := 10, locals := 80 }) (va_Pc [.ref v, .ref el] (Pw ae D vwCl [(cI, .int), (cJ, .long), (cS, .object "IronwoodModel$State"), (cO, .object "java/lang/Object")] [(v, .inr (0, [.int 0, .ref ae, .int 0])), (el, .inr (11, [.int el_kind, .int el_isParameter]))] sz)) (va_Qi (fun (r : Int32) (u : (Nat) × (Nat → Option Nat)) => r = 1) (Bw D vwCl (fun (u : (Nat) × (Nat → Option Nat)) => [(v, .inr (0, [.int 1, .ref u.1, .int 1])), (el, .inr (11, [.int el_kind, .int el_isParameter])), (u.1, .inl (cO, 10, .inr (.inr (.inr (.inr u.2)))))]) (va_A [(v, .inr (0, [.int 0, .ref ae, .int 0])), (el, .inr (11, [.int el_kind, .int el_isParameter]))] sz)) (va_A [(v, .inr (0, [.int 0, .ref ae, .int 0])), (el, .inr (11, [.int el_kind, .int el_isParameter]))] sz)) 1 10 (va_A [(v, .inr (0, [.int 0, .ref ae, .int 0])), (el, .inr (11, [.int el_kind, .int el_isParameter]))] sz) := by
  refine Met.ofW (cc := cJx4a65c_add_9ea2d) (maxL := 2) (ret := (some .boolean)) (by decide) rfl ?_
  intro p e s m args below meth c s₁ B hml hv9
  obtain ⟨rfl, hsz, hP, hK, hD0, hG⟩ := hv9
  have hx := B.exec
  have hb := B.bytes
  have hr := B.returns
  have hts := atoms_spec (ws := wx (.code yJx4a65c_add_9ea2d cJx4a65c_add_9ea2d 2 (some .boolean))) B.pre
  have hown : s.vm.findClass RJx4a65c = some m.cls := findClass_of_methodNamed B.named
  have hlocks := B.notSynchronized
  subst hsz
  have hD := hD0.self (sz := s.heap.size)
  generalize hAe : va_A [(v, .inr (0, [.int 0, .ref ae, .int 0])), (el, .inr (11, [.int el_kind, .int el_isParameter]))] s.heap.size = A at hD hG ⊢
  have hA : ∀ q : Nat, s.heap.size ≤ q → A q := fun q h => by rw [← hAe]; exact Or.inr h
  have hS : va_S A s.heap s.heap [] := va_S.rf
  have hP : va_P D vwCl [(v, .inr (0, [.int 0, .ref ae, .int 0])), (el, .inr (11, [.int el_kind, .int el_isParameter]))] s.heap := hP
  have hl := lv_entry ([.ref v, .ref el]) (n := 2) (Nat.le_of_ble_eq_true rfl)
  rw [lg_entry_eq]
  generalize (lg_sl ([.ref v, .ref el]) ++ List.replicate (2 - (lg_sl ([.ref v, .ref el])).length) Slot.unset).toArray = ls at hl ⊢
  have hl : lv_has ls 2 [(0, .ref v), (1, .ref el)] := hl
  refine lv_aload_n hx hb dJx4a65c_add_9ea2d_0 rfl (lv_at hl 0 rfl) ?_
  refine lv_dup hx hb dJx4a65c_add_9ea2d_1 rfl ?_
  refine va_get (D := D) (ci := 0) (v := .int 0) (C := RJx4a65c) (T := TJx4a65c) (N := 3) (ref := "java/util/ArrayList") hx hb hts in_RJx4a65c hown hK hP 0 rfl rfl 0 (by decide) (hts _ (mc q_993)) (fun _ h9 => u_same (hts _ (mc q_994)) _ h9) rfl dJx4a65c_add_9ea2d_2 ?_
  refine lv_iconst (v := 1) hx hb dJx4a65c_add_9ea2d_5 (by decide) ?_
  refine lv_iadd hx hb dJx4a65c_add_9ea2d_6 ?_
  refine lv_topi (fun x_1 ex_1 => ?_)
  obtain rfl : x_1 = 1 := ex_1.trans (by decide)
  refine va_put (D := D) (ci := 0) (v := .int 1) (ty := .int) (C := RJx4a65c) (T := TJx4a65c) (N := 3) (ref := "java/util/ArrayList") hx hb hts in_RJx4a65c tyJx4a65c tyJx4a65c_ok nmJx4a65c hown hK hP hD hS 0 rfl rfl 0 (by decide) (hts _ (mc q_993)) (fun _ h9 => u_same (hts _ (mc q_994)) _ h9) rfl (by decide +kernel) rfl rfl (Nat.le_of_ble_eq_true rfl) dJx4a65c_add_9ea2d_7 (fun H locs hP hD hS => ?_)
  have hP : va_P D vwCl [(v, .inr (0, [.int 1, .ref ae, .int 0])), (el, .inr (11, [.int el_kind, .int el_isParameter]))] H := hP
  have hD : va_D A [(v, .inr (0, [.int 1, .ref ae, .int 0])), (el, .inr (11, [.int el_kind, .int el_isParameter]))] := hD
  refine lv_aload_n hx hb dJx4a65c_add_9ea2d_10 rfl (lv_at hl 0 rfl) ?_
  refine lv_aload_n hx hb dJx4a65c_add_9ea2d_11 rfl (lv_at hl 1 rfl) ?_
  refine lv_aload_n hx hb dJx4a65c_add_9ea2d_12 rfl (lv_at hl 0 rfl) ?_
  refine va_get (D := D) (ci := 0) (v := .ref ae) (C := RJx4a65c) (T := TJx4a65c) (N := 3) (ref := "java/util/ArrayList") hx hb hts in_RJx4a65c hown hK hP 0 rfl rfl 1 (by decide) (hts _ (mc q_990)) (fun _ h9 => h9) rfl dJx4a65c_add_9ea2d_13 ?_
  refine lv_aload_n hx hb dJx4a65c_add_9ea2d_16 rfl (lv_at hl 0 rfl) ?_
  refine va_get (D := D) (ci := 0) (v := .int 0) (C := RJx4a65c) (T := TJx4a65c) (N := 3) (ref := "java/util/ArrayList") hx hb hts in_RJx4a65c hown hK hP 0 rfl rfl 2 (by decide) (hts _ (mc q_991)) (fun _ h9 => h9) rfl dJx4a65c_add_9ea2d_17 ?_
  refine kc_v (wr := []) (va_runV (As := [.ref el, .ref ae, .int 0]) (rest := []) ⟨hx, hb, hml, hown, hts⟩ (k_al_add3_var l hfl ae D cI cJ cS cO v 1 el el_kind el_isParameter _) (cwV 3 hts (gV q_1060 q_1057 q_1059 q_65 q_107) rfl rfl rfl (by decide +kernel) ⟨Nat.le_of_ble_eq_true rfl, Nat.le_of_ble_eq_true rfl⟩) ⟨Pw.blind, va_recv hK hP (ci := 0) (q0 := 0) rfl rfl, Pw.mk_call hP hK hD hS hA hG [0, 1] rfl (by decide)⟩ rfl rfl hl.1 rfl (lv_room (Nat.le_of_ble_eq_true rfl)) dJx4a65c_add_9ea2d_20 ⟨Nat.le_of_ble_eq_true rfl, Nat.le_of_ble_eq_true rfl⟩) hP hD hS hA [0, 1] [] rfl rfl (by decide) (by decide) (fun u_3 H locs hw hP hD hS => ?_)
  obtain ⟨q_4, g_5⟩ := u_3
  have hP : va_P D vwCl [(v, .inr (0, [.int 1, .ref q_4, .int 1])), (el, .inr (11, [.int el_kind, .int el_isParameter])), (q_4, .inl (cO, 10, .inr (.inr (.inr (.inr g_5)))))] H := hP
  have hD : va_D A [(v, .inr (0, [.int 1, .ref q_4, .int 1])), (el, .inr (11, [.int el_kind, .int el_isParameter])), (q_4, .inl (cO, 10, .inr (.inr (.inr (.inr g_5)))))] := hD
  refine lv_iconst (v := 1) hx hb dJx4a65c_add_9ea2d_23 (by decide) ?_
  have hP := hP.sub (ws' := [(v, .inr (0, [.int 1, .ref q_4, .int 1])), (el, .inr (11, [.int el_kind, .int el_isParameter])), (q_4, .inl (cO, 10, .inr (.inr (.inr (.inr g_5)))))]) [0, 1, 2] rfl
  have hD := hD.sub (ws' := [(v, .inr (0, [.int 1, .ref q_4, .int 1])), (el, .inr (11, [.int el_kind, .int el_isParameter])), (q_4, .inl (cO, 10, .inr (.inr (.inr (.inr g_5)))))]) [0, 1, 2] (by decide) rfl
  exact ke_i hx hb hr (by first | rfl | decide) (q_4, g_5) (rfl) hP hD hS (Nat.le_of_ble_eq_true rfl) (Nat.le_of_ble_eq_true rfl) hlocks dJx4a65c_add_9ea2d_24

set_option maxHeartbeats 4000000 in
set_option maxRecDepth 100000 in
theorem k_al_add3_sta (l : Launch) (hfl : l.stackTraces = false) (ae : Nat) (D : va_G) (cI cJ cS cO : ClassId) (v : Nat) (mdc : Int32) (el : Nat) (el_code : Int32) (el_to : Int32) (el_one : Int32) (el_place : Int32) (el_ties : Int32) (el_target : Int32) (sz : Nat)  : Met l yJx4a65c_add_72be8 (wx (.code yJx4a65c_add_72be8 cJx4a65c_add_72be8 4 none)) ({ frames := 3, cells := 1, slots := 10, locals := 57 }) (va_Pc [.ref v, .ref el, .ref ae, .int 0] (Pw ae D vwCl [(cI, .int), (cJ, .long), (cS, .object "IronwoodModel$State"), (cO, .object "java/lang/Object")] [(v, .inr (0, [.int mdc, .ref ae, .int 0])), (el, .inr (10, [.int el_code, .int el_to, .int el_one, .int el_place, .int el_ties, .int el_target]))] sz)) (va_Qv (fun (u : (Nat) × (Nat → Option Nat)) => True) (Bw D vwCl (fun (u : (Nat) × (Nat → Option Nat)) => [(v, .inr (0, [.int mdc, .ref u.1, .int 1])), (el, .inr (10, [.int el_code, .int el_to, .int el_one, .int el_place, .int el_ties, .int el_target])), (u.1, .inl (cO, 10, .inr (.inr (.inr (.inr u.2)))))]) (va_A [(v, .inr (0, [.int mdc, .ref ae, .int 0])), (el, .inr (10, [.int el_code, .int el_to, .int el_one, .int el_place, .int el_ties, .int el_target]))] sz)) (va_A [(v, .inr (0, [.int mdc, .ref ae, .int 0])), (el, .inr (10, [.int el_code, .int el_to, .int el_one, .int el_place, .int el_ties, .int el_target]))] sz)) 1 10 (va_A [(v, .inr (0, [.int mdc, .ref ae, .int 0])), (el, .inr (10, [.int el_code, .int el_to, .int el_one, .int el_place, .int el_ties, .int el_target]))] sz) := by
  refine Met.ofW (cc := cJx4a65c_add_72be8) (maxL := 4) (ret := none) (by decide) rfl ?_
  intro p e s m args below meth c s₁ B hml hv9
  obtain ⟨rfl, hsz, hP, hK, hD0, hG⟩ := hv9
  have hx := B.exec
  have hb := B.bytes
  have hr := B.returns
  have hts := atoms_spec (ws := wx (.code yJx4a65c_add_72be8 cJx4a65c_add_72be8 4 none)) B.pre
  have hown : s.vm.findClass RJx4a65c = some m.cls := findClass_of_methodNamed B.named
  have hlocks := B.notSynchronized
  subst hsz
  have hD := hD0.self (sz := s.heap.size)
  generalize hAe : va_A [(v, .inr (0, [.int mdc, .ref ae, .int 0])), (el, .inr (10, [.int el_code, .int el_to, .int el_one, .int el_place, .int el_ties, .int el_target]))] s.heap.size = A at hD hG ⊢
  have hA : ∀ q : Nat, s.heap.size ≤ q → A q := fun q h => by rw [← hAe]; exact Or.inr h
  have hS : va_S A s.heap s.heap [] := va_S.rf
  have hP : va_P D vwCl [(v, .inr (0, [.int mdc, .ref ae, .int 0])), (el, .inr (10, [.int el_code, .int el_to, .int el_one, .int el_place, .int el_ties, .int el_target]))] s.heap := hP
  have hl := lv_entry ([.ref v, .ref el, .ref ae, .int 0]) (n := 4) (Nat.le_of_ble_eq_true rfl)
  rw [lg_entry_eq]
  generalize (lg_sl ([.ref v, .ref el, .ref ae, .int 0]) ++ List.replicate (4 - (lg_sl ([.ref v, .ref el, .ref ae, .int 0])).length) Slot.unset).toArray = ls at hl ⊢
  have hl : lv_has ls 4 [(0, .ref v), (1, .ref el), (2, .ref ae), (3, .int 0)] := hl
  refine lv_iload_n hx hb dJx4a65c_add_72be8_0 rfl (lv_at hl 3 rfl) ?_
  refine lv_aload_n hx hb dJx4a65c_add_72be8_1 rfl (lv_at hl 2 rfl) ?_
  refine va_tlen (v := 0) hx hb hG.2.2.2.2.2 hS (by decide) dJx4a65c_add_72be8_2 ?_
  refine lv_icmp_ne (tgt := 11) hx hb dJx4a65c_add_72be8_3 (by decide) (fun c_3 => absurd (by decide) c_3) (fun c_3 => ?_)
  refine lv_aload_n hx hb dJx4a65c_add_72be8_6 rfl (lv_at hl 0 rfl) ?_
  refine kc_r (wr := [(el, .inr (10, [.int el_code, .int el_to, .int el_one, .int el_place, .int el_ties, .int el_target]))]) (va_runV (As := []) (rest := []) ⟨hx, hb, hml, hown, hts⟩ (k_al_grow l hfl ae D cI cJ cS cO v mdc _) (cwV 0 hts (gV q_1064 q_1061 q_1063 q_66 q_107) rfl rfl rfl (by decide +kernel) ⟨Nat.le_of_ble_eq_true rfl, Nat.le_of_ble_eq_true rfl⟩) ⟨Pw.blind, va_recv hK hP (ci := 0) (q0 := 0) rfl rfl, Pw.mk_call hP hK hD hS hA hG [0] rfl (by decide)⟩ rfl rfl hl.1 rfl (lv_room (Nat.le_of_ble_eq_true rfl)) dJx4a65c_add_72be8_7 ⟨Nat.le_of_ble_eq_true rfl, Nat.le_of_ble_eq_true rfl⟩) hP hD hS hA [0] [1] rfl rfl (by decide) (by decide) (fun u_2 H locs hw hP hD hS => ?_)
  obtain ⟨q_3, rfl⟩ : ∃ z, z = u_2 := ⟨_, rfl⟩
  have hP : va_P D vwCl [(el, .inr (10, [.int el_code, .int el_to, .int el_one, .int el_place, .int el_ties, .int el_target])), (v, .inr (0, [.int mdc, .ref q_3, .int 0])), (q_3, .inl (cO, 10, .inr (.inr (.inr (.inr (fun _ => none))))))] H := hP
  have hD : va_D A [(el, .inr (10, [.int el_code, .int el_to, .int el_one, .int el_place, .int el_ties, .int el_target])), (v, .inr (0, [.int mdc, .ref q_3, .int 0])), (q_3, .inl (cO, 10, .inr (.inr (.inr (.inr (fun _ => none))))))] := hD
  refine lv_astore_n (lv' := [(2, .ref q_3), (0, .ref v), (1, .ref el), (3, .int 0)]) hx hb dJx4a65c_add_72be8_10 rfl hl (by decide) rfl (fun ls hl => ?_)
  refine lv_aload_n hx hb dJx4a65c_add_72be8_11 rfl (lv_at hl 0 rfl) ?_
  refine lv_iload_n hx hb dJx4a65c_add_72be8_12 rfl (lv_at hl 3 rfl) ?_
  refine lv_aload_n hx hb dJx4a65c_add_72be8_13 rfl (lv_at hl 2 rfl) ?_
  refine va_astqO hx hb hK hP hD hS 2 3 0 10 (r := (RX9, TX9, 6)) rfl rfl (hG.1.nw 113 rfl) rfl rfl (vp_in_iff.mpr (by decide)) dJx4a65c_add_72be8_14 (fun H locs hP hD hS => ?_)
  have hP : va_P D vwCl [(el, .inr (10, [.int el_code, .int el_to, .int el_one, .int el_place, .int el_ties, .int el_target])), (v, .inr (0, [.int mdc, .ref q_3, .int 0])), (q_3, .inl (cO, 10, .inr (.inr (.inr (.inr (va_up (fun _ => none) (Int32.toNatClampNeg 0) (some el)))))))] H := hP
  have hD : va_D A [(el, .inr (10, [.int el_code, .int el_to, .int el_one, .int el_place, .int el_ties, .int el_target])), (v, .inr (0, [.int mdc, .ref q_3, .int 0])), (q_3, .inl (cO, 10, .inr (.inr (.inr (.inr (va_up (fun _ => none) (Int32.toNatClampNeg 0) (some el)))))))] := hD
  refine lv_aload_n hx hb dJx4a65c_add_72be8_15 rfl (lv_at hl 1 rfl) ?_
  refine lv_iload_n hx hb dJx4a65c_add_72be8_16 rfl (lv_at hl 3 rfl) ?_
  refine lv_iconst (v := 1) hx hb dJx4a65c_add_72be8_17 (by decide) ?_
  refine lv_iadd hx hb dJx4a65c_add_72be8_18 ?_
  refine lv_topi (fun x_4 ex_4 => ?_)
  obtain rfl : x_4 = 1 := ex_4.trans (by decide)
  refine va_put (D := D) (ci := 0) (v := .int 1) (ty := .int) (C := RJx4a65c) (T := TJx4a65c) (N := 3) (ref := "java/util/ArrayList") hx hb hts in_RJx4a65c tyJx4a65c tyJx4a65c_ok nmJx4a65c hown hK hP hD hS 1 rfl rfl 2 (by decide) (hts _ (mc q_991)) (fun _ h9 => h9) rfl (by decide +kernel) rfl rfl (Nat.le_of_ble_eq_true rfl) dJx4a65c_add_72be8_19 (fun H locs hP hD hS => ?_)
  have hP : va_P D vwCl [(el, .inr (10, [.int el_code, .int el_to, .int el_one, .int el_place, .int el_ties, .int el_target])), (v, .inr (0, [.int mdc, .ref q_3, .int 1])), (q_3, .inl (cO, 10, .inr (.inr (.inr (.inr (va_up (fun _ => none) (Int32.toNatClampNeg 0) (some el)))))))] H := hP
  have hD : va_D A [(el, .inr (10, [.int el_code, .int el_to, .int el_one, .int el_place, .int el_ties, .int el_target])), (v, .inr (0, [.int mdc, .ref q_3, .int 1])), (q_3, .inl (cO, 10, .inr (.inr (.inr (.inr (va_up (fun _ => none) (Int32.toNatClampNeg 0) (some el)))))))] := hD
  have hP := hP.sub (ws' := [(v, .inr (0, [.int mdc, .ref q_3, .int 1])), (el, .inr (10, [.int el_code, .int el_to, .int el_one, .int el_place, .int el_ties, .int el_target])), (q_3, .inl (cO, 10, .inr (.inr (.inr (.inr (va_up (fun _ => none) (Int32.toNatClampNeg 0) (some el)))))))]) [1, 0, 2] rfl
  have hD := hD.sub (ws' := [(v, .inr (0, [.int mdc, .ref q_3, .int 1])), (el, .inr (10, [.int el_code, .int el_to, .int el_one, .int el_place, .int el_ties, .int el_target])), (q_3, .inl (cO, 10, .inr (.inr (.inr (.inr (va_up (fun _ => none) (Int32.toNatClampNeg 0) (some el)))))))]) [1, 0, 2] (by decide) rfl
  exact ke_v hx hb hr (q_3, va_up (fun _ => none) (Int32.toNatClampNeg 0) (some el)) (trivial) hP hD hS (Nat.le_of_ble_eq_true rfl) (Nat.le_of_ble_eq_true rfl) hlocks dJx4a65c_add_72be8_22

set_option maxHeartbeats 4000000 in
set_option maxRecDepth 100000 in
theorem k_al_add_sta (l : Launch) (hfl : l.stackTraces = false) (ae : Nat) (D : va_G) (cI cJ cS cO : ClassId) (v : Nat) (el : Nat) (el_code : Int32) (el_to : Int32) (el_one : Int32) (el_place : Int32) (el_ties : Int32) (el_target : Int32) (sz : Nat)  : Met l yJx4a65c_add_9ea2d (wx (.code yJx4a65c_add_9ea2d cJx4a65c_add_9ea2d 2 (some .boolean))) ({ frames := 4, cells := 1, slots := 10, locals := 80 }) (va_Pc [.ref v, .ref el] (Pw ae D vwCl [(cI, .int), (cJ, .long), (cS, .object "IronwoodModel$State"), (cO, .object "java/lang/Object")] [(v, .inr (0, [.int 0, .ref ae, .int 0])), (el, .inr (10, [.int el_code, .int el_to, .int el_one, .int el_place, .int el_ties, .int el_target]))] sz)) (va_Qi (fun (r : Int32) (u : (Nat) × (Nat → Option Nat)) => r = 1) (Bw D vwCl (fun (u : (Nat) × (Nat → Option Nat)) => [(v, .inr (0, [.int 1, .ref u.1, .int 1])), (el, .inr (10, [.int el_code, .int el_to, .int el_one, .int el_place, .int el_ties, .int el_target])), (u.1, .inl (cO, 10, .inr (.inr (.inr (.inr u.2)))))]) (va_A [(v, .inr (0, [.int 0, .ref ae, .int 0])), (el, .inr (10, [.int el_code, .int el_to, .int el_one, .int el_place, .int el_ties, .int el_target]))] sz)) (va_A [(v, .inr (0, [.int 0, .ref ae, .int 0])), (el, .inr (10, [.int el_code, .int el_to, .int el_one, .int el_place, .int el_ties, .int el_target]))] sz)) 1 10 (va_A [(v, .inr (0, [.int 0, .ref ae, .int 0])), (el, .inr (10, [.int el_code, .int el_to, .int el_one, .int el_place, .int el_ties, .int el_target]))] sz) := by
  refine Met.ofW (cc := cJx4a65c_add_9ea2d) (maxL := 2) (ret := (some .boolean)) (by decide) rfl ?_
  intro p e s m args below meth c s₁ B hml hv9
  obtain ⟨rfl, hsz, hP, hK, hD0, hG⟩ := hv9
  have hx := B.exec
  have hb := B.bytes
  have hr := B.returns
  have hts := atoms_spec (ws := wx (.code yJx4a65c_add_9ea2d cJx4a65c_add_9ea2d 2 (some .boolean))) B.pre
  have hown : s.vm.findClass RJx4a65c = some m.cls := findClass_of_methodNamed B.named
  have hlocks := B.notSynchronized
  subst hsz
  have hD := hD0.self (sz := s.heap.size)
  generalize hAe : va_A [(v, .inr (0, [.int 0, .ref ae, .int 0])), (el, .inr (10, [.int el_code, .int el_to, .int el_one, .int el_place, .int el_ties, .int el_target]))] s.heap.size = A at hD hG ⊢
  have hA : ∀ q : Nat, s.heap.size ≤ q → A q := fun q h => by rw [← hAe]; exact Or.inr h
  have hS : va_S A s.heap s.heap [] := va_S.rf
  have hP : va_P D vwCl [(v, .inr (0, [.int 0, .ref ae, .int 0])), (el, .inr (10, [.int el_code, .int el_to, .int el_one, .int el_place, .int el_ties, .int el_target]))] s.heap := hP
  have hl := lv_entry ([.ref v, .ref el]) (n := 2) (Nat.le_of_ble_eq_true rfl)
  rw [lg_entry_eq]
  generalize (lg_sl ([.ref v, .ref el]) ++ List.replicate (2 - (lg_sl ([.ref v, .ref el])).length) Slot.unset).toArray = ls at hl ⊢
  have hl : lv_has ls 2 [(0, .ref v), (1, .ref el)] := hl
  refine lv_aload_n hx hb dJx4a65c_add_9ea2d_0 rfl (lv_at hl 0 rfl) ?_
  refine lv_dup hx hb dJx4a65c_add_9ea2d_1 rfl ?_
  refine va_get (D := D) (ci := 0) (v := .int 0) (C := RJx4a65c) (T := TJx4a65c) (N := 3) (ref := "java/util/ArrayList") hx hb hts in_RJx4a65c hown hK hP 0 rfl rfl 0 (by decide) (hts _ (mc q_993)) (fun _ h9 => u_same (hts _ (mc q_994)) _ h9) rfl dJx4a65c_add_9ea2d_2 ?_
  refine lv_iconst (v := 1) hx hb dJx4a65c_add_9ea2d_5 (by decide) ?_
  refine lv_iadd hx hb dJx4a65c_add_9ea2d_6 ?_
  refine lv_topi (fun x_1 ex_1 => ?_)
  obtain rfl : x_1 = 1 := ex_1.trans (by decide)
  refine va_put (D := D) (ci := 0) (v := .int 1) (ty := .int) (C := RJx4a65c) (T := TJx4a65c) (N := 3) (ref := "java/util/ArrayList") hx hb hts in_RJx4a65c tyJx4a65c tyJx4a65c_ok nmJx4a65c hown hK hP hD hS 0 rfl rfl 0 (by decide) (hts _ (mc q_993)) (fun _ h9 => u_same (hts _ (mc q_994)) _ h9) rfl (by decide +kernel) rfl rfl (Nat.le_of_ble_eq_true rfl) dJx4a65c_add_9ea2d_7 (fun H locs hP hD hS => ?_)
  have hP : va_P D vwCl [(v, .inr (0, [.int 1, .ref ae, .int 0])), (el, .inr (10, [.int el_code, .int el_to, .int el_one, .int el_place, .int el_ties, .int el_target]))] H := hP
  have hD : va_D A [(v, .inr (0, [.int 1, .ref ae, .int 0])), (el, .inr (10, [.int el_code, .int el_to, .int el_one, .int el_place, .int el_ties, .int el_target]))] := hD
  refine lv_aload_n hx hb dJx4a65c_add_9ea2d_10 rfl (lv_at hl 0 rfl) ?_
  refine lv_aload_n hx hb dJx4a65c_add_9ea2d_11 rfl (lv_at hl 1 rfl) ?_
  refine lv_aload_n hx hb dJx4a65c_add_9ea2d_12 rfl (lv_at hl 0 rfl) ?_
  refine va_get (D := D) (ci := 0) (v := .ref ae) (C := RJx4a65c) (T := TJx4a65c) (N := 3) (ref := "java/util/ArrayList") hx hb hts in_RJx4a65c hown hK hP 0 rfl rfl 1 (by decide) (hts _ (mc q_990)) (fun _ h9 => h9) rfl dJx4a65c_add_9ea2d_13 ?_
  refine lv_aload_n hx hb dJx4a65c_add_9ea2d_16 rfl (lv_at hl 0 rfl) ?_
  refine va_get (D := D) (ci := 0) (v := .int 0) (C := RJx4a65c) (T := TJx4a65c) (N := 3) (ref := "java/util/ArrayList") hx hb hts in_RJx4a65c hown hK hP 0 rfl rfl 2 (by decide) (hts _ (mc q_991)) (fun _ h9 => h9) rfl dJx4a65c_add_9ea2d_17 ?_
  refine kc_v (wr := []) (va_runV (As := [.ref el, .ref ae, .int 0]) (rest := []) ⟨hx, hb, hml, hown, hts⟩ (k_al_add3_sta l hfl ae D cI cJ cS cO v 1 el el_code el_to el_one el_place el_ties el_target _) (cwV 3 hts (gV q_1060 q_1057 q_1059 q_65 q_107) rfl rfl rfl (by decide +kernel) ⟨Nat.le_of_ble_eq_true rfl, Nat.le_of_ble_eq_true rfl⟩) ⟨Pw.blind, va_recv hK hP (ci := 0) (q0 := 0) rfl rfl, Pw.mk_call hP hK hD hS hA hG [0, 1] rfl (by decide)⟩ rfl rfl hl.1 rfl (lv_room (Nat.le_of_ble_eq_true rfl)) dJx4a65c_add_9ea2d_20 ⟨Nat.le_of_ble_eq_true rfl, Nat.le_of_ble_eq_true rfl⟩) hP hD hS hA [0, 1] [] rfl rfl (by decide) (by decide) (fun u_3 H locs hw hP hD hS => ?_)
  obtain ⟨q_4, g_5⟩ := u_3
  have hP : va_P D vwCl [(v, .inr (0, [.int 1, .ref q_4, .int 1])), (el, .inr (10, [.int el_code, .int el_to, .int el_one, .int el_place, .int el_ties, .int el_target])), (q_4, .inl (cO, 10, .inr (.inr (.inr (.inr g_5)))))] H := hP
  have hD : va_D A [(v, .inr (0, [.int 1, .ref q_4, .int 1])), (el, .inr (10, [.int el_code, .int el_to, .int el_one, .int el_place, .int el_ties, .int el_target])), (q_4, .inl (cO, 10, .inr (.inr (.inr (.inr g_5)))))] := hD
  refine lv_iconst (v := 1) hx hb dJx4a65c_add_9ea2d_23 (by decide) ?_
  have hP := hP.sub (ws' := [(v, .inr (0, [.int 1, .ref q_4, .int 1])), (el, .inr (10, [.int el_code, .int el_to, .int el_one, .int el_place, .int el_ties, .int el_target])), (q_4, .inl (cO, 10, .inr (.inr (.inr (.inr g_5)))))]) [0, 1, 2] rfl
  have hD := hD.sub (ws' := [(v, .inr (0, [.int 1, .ref q_4, .int 1])), (el, .inr (10, [.int el_code, .int el_to, .int el_one, .int el_place, .int el_ties, .int el_target])), (q_4, .inl (cO, 10, .inr (.inr (.inr (.inr g_5)))))]) [0, 1, 2] (by decide) rfl
  exact ke_i hx hb hr (by first | rfl | decide) (q_4, g_5) (rfl) hP hD hS (Nat.le_of_ble_eq_true rfl) (Nat.le_of_ble_eq_true rfl) hlocks dJx4a65c_add_9ea2d_24
