def AOI (U : State) : Prop := (Cond.arrayOver (.array .int)).before #[] U = true
theorem AOI.moved {u U : State} (hvm : u.vm.Alike U.vm) (h : AOI u) : AOI U := by
  obtain ⟨comp, c, k, h1, h2, h3, h4, h5⟩ := arrayOverA_spec h
  obtain ⟨k', hk', he⟩ := hvm.2.2 _ _ h3
  have hi : (U.vm.classes.findIdx? fun (x : Class) => match x.kind with | .array component _ => component == comp | _ => false) = some c := by
    rw [hvm.findIdx?_eq _ (fun _ => rfl)]
    exact h2
  have hkind : k'.kind = .array comp (.array .int) := by rw [he]; exact h4
  have f1 : U.vm.findClass (FieldType.array .int).toString = some comp := by rw [hvm.findClass]; exact h1
  have f2 : U.vm.findClass ("[" ++ (FieldType.array .int).toString) = some c := by rw [hvm.findClass]; exact h5
  unfold AOI Cond.before Cond.holds
  simp only [Cond.value]
  rw [f1, Option.bind_some]
  refine (congrArg (fun o : Option Nat => (o.bind (fun c => (U.vm.classes[c]?).map fun (k : Class) => match k.kind with | .array _ ty => decide (ty = FieldType.array .int) && decide (U.vm.findClass ("[" ++ (FieldType.array .int).toString) = some c) | _ => false) == some true)) hi).trans ?_
  simp [hk', hkind, f2]
/-- a start at which the law's script stands -/
def Pw2 (D : va_G) (cl : List vw_C) (tys : List (ClassId × FieldType)) (sb sL : Nat) (sx : Nat → Int32) (ws : va_W) (sz : Nat) (U : State) : Prop :=
  Pw D cl tys ws sz U ∧ va_T .int sb sL (fun j => .int (sx j)) (va_A ws sz) U U.heap ∧ AOI U
theorem Pw2.blind {D : va_G} {cl : List vw_C} {tys : List (ClassId × FieldType)} {sb sL : Nat} {sx : Nat → Int32} {ws : va_W} {sz : Nat} {av : List Value} : FrameBlind (va_Pc av (Pw2 D cl tys sb sL sx ws sz)) := by
  intro a U g mk q
  obtain ⟨q0, ⟨q1, qP, qK, qD, qG⟩, qX, qA⟩ := q
  exact ⟨q0, ⟨q1, qP, va_K.moved (u := U) (U := U.calling g mk a) (Vm.Alike.refl U.vm) qK, qD, qG.calling⟩, va_T.moved (u := U) (U := U.calling g mk a) (Vm.Alike.refl U.vm) qX, AOI.moved (u := U) (U := U.calling g mk a) (Vm.Alike.refl U.vm) qA⟩
theorem Pw2.mk_call {A : Nat → Prop} {D : va_G} {cl : List vw_C} {tys : List (ClassId × FieldType)} {sb sL : Nat} {sx : Nat → Int32} {ws wc : va_W} {s : State} {H : Heap} {locs : List Loc} {av : List Value}
    (hP : va_P D cl ws H) (hK : va_K D cl tys s) (hD : va_D A ws) (hS : va_S A s.heap H locs) (hA : ∀ q, s.heap.size ≤ q → A q) (hG : Gl A s s.heap) (hX : va_T .int sb sL (fun j => .int (sx j)) A s s.heap) (hAO : AOI s)
    (isC : List Nat) (hC : isC.map (fun i => ws[i]?) = wc.map some) (hn : va_nd isC = true) :
    ∀ U : State, U.heap = H → s.WarmedH U.vm → va_Pc av (Pw2 D cl tys sb sL sx wc H.size) av.toArray U := by
  intro U hU hW
  obtain ⟨h1, h2⟩ := Pw.mk_call (av := av) hP hK hD hS hA hG isC hC hn U hU hW
  refine ⟨h1, h2, ?_, AOI.moved hW.alike hAO⟩
  rw [hU]
  exact va_T.narrow (va_T.kept (va_T.moved hW.alike hX) hS.2.1) (va_free hD hS hA isC hC)
section RI
variable {p : Program} {l : Launch} {e : Env} {R : Room} {s : State} {m : MethodId} {args : Array Value} {below : List Frame} {meth : Method} {c : Code} {H : Heap} {locs : List Loc} {cells slots : Nat} {Q : State → Prop}
variable {cc : ByteArray} {pc : Nat} {ls : Array Slot} {rest : List Value} {D : va_G} {cl : List vw_C} {A : Nat → Prop} {a : Nat} {tys : List (ClassId × FieldType)} {ws : va_W} {H0 : Heap}
theorem va_newqI (hexec : p.tables.exec = Jvm.exec) (hb : c.code = cc) {own : String} {index : Nat} (hown : s.vm.findClass own = some m.cls) (hclink : (Cond.classLink own index "[I").before args s = true) (hover : AOI s) (hK : va_K D cl tys s) (hP : va_P D cl ws H) (hD : va_D A ws) (hS : va_S A H0 H locs) (hA : ∀ q, H0.size ≤ q → A q)
    {n : Int32} {N' : Nat} (hn : ¬ n < 0) (hN : n.toNatClampNeg = N') (hbytes : N' * 4 ≤ 536870912) (hcells : cells + 1 ≤ R.cells) (hslots : slots + N' ≤ R.slots) (hdg : decode cc pc = .ok (.anewarray index, 3))
    (kk : ∀ (q : Nat) (cA : ClassId) (H1 : Heap), va_K D cl (tys ++ [(cA, .array .int)]) s → va_P D cl (ws ++ [(q, .inl (cA, N', .inr (.inr (.inr (.inr (fun _ => none))))))]) H1 → va_D A (ws ++ [(q, .inl (cA, N', .inr (.inr (.inr (.inr (fun _ => none))))))]) → va_S A H0 H1 locs →
      W p l e R s m args below meth c H1 locs (cells + 1) (slots + N') Q (F0 m (pc + 3) ls (.ref q :: rest))) : W p l e R s m args below meth c H locs cells slots Q (F0 m pc ls (.int n :: rest)) := by
  subst hN
  refine W.anewA (t := .int) hexec hb hown hclink hover rfl hdg rfl hn hbytes hcells hslots fun cA kA comp f1 f2 f3 f4 => ?_
  generalize hH1 : H.push ({ cls := cA, slots := Array.replicate n.toNatClampNeg .null, vm := .none } : Cell) = H1
  have z1 : H1.size = H.size + 1 := by rw [← hH1, Array.size_push]
  have e1 : H1[H.size]? = some (arrV cA n.toNatClampNeg (fun _ => .null)) := by rw [← hH1, Array.getElem?_push_size, ← arrV_new]
  have o1 : ∀ q : Nat, q < H.size → H1[q]? = H[q]? := fun q hq => by rw [← hH1, Array.getElem?_push, if_neg (Nat.ne_of_lt hq)]
  have hAr : ArrOfT s cA (.array .int) := fun N z => ⟨(fun k h => by cases h), kA, f2, comp, f3⟩
  have hk : ∀ (k : Nat) (x : Nat × va_E), ws[k]? = some x → H1[x.1]? = H[x.1]? := fun k x hx => o1 x.1 ((hP k x hx).lt)
  refine kk H.size cA H1 ⟨hK.1, fun k x hx => ?_⟩ ((hP.kept hk).app (fun k x hx => ?_)) (hD.push hP rfl (hA _ hS.1)) ⟨Nat.le_trans hS.1 (by omega), fun x h1 h2 => (o1 x (Nat.lt_of_lt_of_le h1 hS.1)).trans (hS.2.1 x h1 h2), hS.2.2⟩
  · by_cases hl : k < tys.length
    · rw [List.getElem?_append_left hl] at hx
      exact hK.2 k x hx
    · rw [List.getElem?_append_right (by omega)] at hx
      have hz : k - tys.length < 1 := (List.getElem?_eq_some_iff.mp hx).1
      rw [show k - tys.length = 0 by omega] at hx
      cases hx
      exact ⟨hAr, f1⟩
  · have hz : k < 1 := (List.getElem?_eq_some_iff.mp hx).1
    rw [show k = 0 by omega] at hx
    cases hx
    show H1[H.size]? = some (vp_cell _ _)
    rw [vp_cell_q]
    exact e1
theorem asg_refl (vm : Vm) (c : ClassId) : vm.assignable c c = true := by
  show vm.assignableAux (255 + 1) c c = true
  rw [Vm.assignableAux, beq_self_eq_true, Bool.true_or]
theorem va_astqI (hexec : p.tables.exec = Jvm.exec) (hb : c.code = cc) (hK : va_K D cl tys s) (hP : va_P D cl ws H) (hD : va_D A ws) (hS : va_S A H0 H locs) (hover : AOI s) (q0 t0 qk t1 : Nat) {cA cI : ClassId} {n nv v : Nat} {f : Nat → Option Nat} {g : Nat → Int32} (ha : ws[q0]? = some (a, .inl (cA, n, .inr (.inr (.inr (.inr f)))))) (ht : tys[t0]? = some (cA, .array .int)) (hv : ws[qk]? = some (v, .inl (cI, nv, .inl g))) (ht1 : tys[t1]? = some (cI, .int)) {i : Int32} (hin : vp_in i n) (hdg : decode cc pc = .ok (.aastore, 1))
    (kk : ∀ (H1 : Heap) (locs1 : List Loc), va_P D cl (ws.set q0 (a, .inl (cA, n, .inr (.inr (.inr (.inr (va_up f i.toNatClampNeg (some v)))))))) H1 → va_D A (ws.set q0 (a, .inl (cA, n, .inr (.inr (.inr (.inr (va_up f i.toNatClampNeg (some v)))))))) → va_S A H0 H1 locs1 → W p l e R s m args below meth c H1 locs1 cells slots Q (F0 m (pc + 1) ls rest)) : W p l e R s m args below meth c H locs cells slots Q (F0 m pc ls (.ref v :: .int i :: .ref a :: rest)) := by
  have hlt : i.toNatClampNeg < n := Nat.not_le.mp fun q => hin (Or.inr q)
  have h0 : ¬ i < 0 := fun q => hin (Or.inl q)
  have g1 := hP qk _ hv
  obtain ⟨comp, c0, k0, o1, o2, o3, o4, o5⟩ := arrayOverA_spec hover
  have e0 : c0 = cA := Option.some.inj (o5.symm.trans (hK.2 t0 _ ht).2)
  subst e0
  have eI : comp = cI := Option.some.inj (o1.symm.trans (hK.2 t1 _ ht1).2)
  subst eI
  obtain ⟨-, kI, hkI, -⟩ := (hK.2 t1 _ ht1).1 nv (fun j => .int (g j))
  refine W.aast hexec hb (hP q0 _ ha) (fun q h => by cases h) (fun h => by cases h) o3 o4 rfl hkI ⟨h0, by show _ < (arrV _ _ _).slots.size; rw [arrV_size]; exact hlt⟩ g1 (fun q h => by cases h) hkI (asg_refl _ _) rfl rfl hdg fun H1 e z oq => ?_
  refine kk H1 _ (hP.set hD ha ?_ oq) (hD.set ha) (hS.put z oq (hD.2 q0 _ ha))
  show H1[a]? = some (vp_cell _ _)
  rw [e]
  rw [vp_cell_q, vp_cell_q, arrV_store]
  congr 2
  funext q
  by_cases hq : q = i.toNatClampNeg
  · subst hq
    simp [updV, va_up, va_rf]
  · simp [updV, va_up, hq]
theorem W_loopC {σ : Type} {st0 : List Value} (meas : σ → Nat) (cf sf : σ → Nat) (Inv : σ → Array Slot → Heap → List Loc → Prop)
    (step : ∀ (x : σ) (ls : Array Slot) (H : Heap) (locs : List Loc), Inv x ls H locs → (∀ (y : σ) (ls' : Array Slot) (H' : Heap) (locs' : List Loc), meas y < meas x → Inv y ls' H' locs' → W p l e R s m args below meth c H' locs' (cf y) (sf y) Q (F0 m pc ls' st0)) → W p l e R s m args below meth c H locs (cf x) (sf x) Q (F0 m pc ls st0)) :
    ∀ (x : σ) (ls : Array Slot) (H : Heap) (locs : List Loc), Inv x ls H locs → W p l e R s m args below meth c H locs (cf x) (sf x) Q (F0 m pc ls st0) := by
  have h : ∀ (n : Nat) (x : σ) (ls : Array Slot) (H : Heap) (locs : List Loc), meas x = n → Inv x ls H locs → W p l e R s m args below meth c H locs (cf x) (sf x) Q (F0 m pc ls st0) := by
    intro n
    induction n using Nat.strongRecOn with
    | ind n ih =>
      intro x ls H locs hn hI
      exact step x ls H locs hI (fun y ls' H' locs' hy hI' => ih (meas y) (hn ▸ hy) y ls' H' locs' rfl hI')
  exact fun x ls H locs hI => h _ x ls H locs rfl hI
end RI
def bwO (v : Int32) (d : Nat) : Nat := v.toBitVec.toNat % 2147483648 % d
theorem bwO_lt {v : Int32} {d : Nat} (h : 0 < d) : bwO v d < d := Nat.mod_lt _ h
def tV (T : Nat → Nat → Int32) (v : Nat) (k : Int32) : Nat → Nat → Int32 := fun i => match i with
  | 0 => upd (T 0) v k
  | m => T m
theorem cO_cg {T T' : Nat → Nat → Int32} {u : Nat} {q : Int32} (h : T 0 u = T' 0 u) : cO T u q = cO T' u q := by
  unfold cO; rw [h]
/-- the first v variables are told -/
def BI (v : Nat) (T : Nat → Nat → Int32) (kf : Nat → Int32) (po oc : Int64) : Prop :=
  (∀ u, u < v → kf u = T 0 u ∧ ∃ k, k < 4 ∧ T 0 u = nI k) ∧ ∀ u, u < v → cO T u (-1) &&& (po ||| oc) = cO T u (-1)
theorem BI_0 {T : Nat → Nat → Int32} {kf : Nat → Int32} {po oc : Int64} : BI 0 T kf po oc := ⟨fun u h => absurd h (Nat.not_lt_zero u), fun u h => absurd h (Nat.not_lt_zero u)⟩
theorem and_or_self (x y : Int64) : x &&& (y ||| x) = x := by
  apply Int64.toBitVec_inj.mp
  rw [Int64.toBitVec_and, Int64.toBitVec_or]
  apply BitVec.eq_of_getLsbD_eq
  intro i hi
  rw [BitVec.getLsbD_and, BitVec.getLsbD_or]
  cases x.toBitVec.getLsbD i <;> simp
theorem and_or_keep {x y z : Int64} (h : x &&& y = x) : x &&& (y ||| z) = x := by
  apply Int64.toBitVec_inj.mp
  rw [Int64.toBitVec_and, Int64.toBitVec_or]
  apply BitVec.eq_of_getLsbD_eq
  intro i hi
  have h9 := congrArg (fun w : Int64 => w.toBitVec.getLsbD i) h
  simp only [Int64.toBitVec_and, BitVec.getLsbD_and] at h9
  rw [BitVec.getLsbD_and, BitVec.getLsbD_or]
  revert h9
  cases x.toBitVec.getLsbD i <;> cases y.toBitVec.getLsbD i <;> simp
theorem BI_step {v X : Nat} {T : Nat → Nat → Int32} {kf : Nat → Int32} {po oc po2 oc2 : Int64} (h : BI v T kf po oc) (hX : X < 4) (e : po2 ||| oc2 = po ||| oc ||| cO (tV T v (nI X)) v (-1)) : BI (v + 1) (tV T v (nI X)) (upd kf v (nI X)) po2 oc2 := by
  refine ⟨fun u hu => ?_, fun u hu => ?_⟩
  · by_cases q : u = v
    · subst q
      exact ⟨(upd_same _ _ _).trans (upd_same _ _ _).symm, X, hX, upd_same _ _ _⟩
    · obtain ⟨h1, h2⟩ := h.1 u (by omega)
      have e1 : tV T v (nI X) 0 u = T 0 u := upd_ne _ _ q
      rw [e1]
      exact ⟨(upd_ne _ _ q).trans h1, h2⟩
  · rw [e]
    by_cases q : u = v
    · subst q; exact and_or_self _ _
    · have e1 : tV T v (nI X) 0 u = T 0 u := upd_ne _ _ q
      rw [cO_cg e1]
      exact and_or_keep (h.2 u (by omega))
theorem BI_TI {T : Nat → Nat → Int32} {kf : Nat → Int32} {po oc : Int64} (h : BI 6 T kf po oc) : TI T 0 :=
  ⟨by decide, fun v hv => (h.1 v hv).2, fun j hj => absurd hj (Nat.not_lt_zero j), fun j hj => absurd hj (Nat.not_lt_zero j), fun j hj => absurd hj (Nat.not_lt_zero j), fun j hj => absurd hj (Nat.not_lt_zero j), fun j hj => absurd hj (Nat.not_lt_zero j)⟩
theorem BI_cg {T T' : Nat → Nat → Int32} {kf : Nat → Int32} {po oc : Int64} (h : BI 6 T kf po oc) (e : T' 0 = T 0) : BI 6 T' kf po oc := by
  refine ⟨fun u hu => by rw [e]; exact h.1 u hu, fun u hu => ?_⟩
  rw [cO_cg (T := T') (T' := T) (by rw [e])]; exact h.2 u hu
theorem qm {x : Nat} (h : x < 5) : nI x - 1 = -1 ∨ ∃ p, p < 4 ∧ nI x - 1 = nI p := by
  rcases (show x = 0 ∨ x = 1 ∨ x = 2 ∨ x = 3 ∨ x = 4 by omega) with rfl | rfl | rfl | rfl | rfl
  · exact Or.inl (by decide)
  · exact Or.inr ⟨0, by decide, by decide⟩
  · exact Or.inr ⟨1, by decide, by decide⟩
  · exact Or.inr ⟨2, by decide, by decide⟩
  · exact Or.inr ⟨3, by decide, by decide⟩
theorem orL1 (po oc x : Int64) : po ||| x ||| oc = po ||| oc ||| x := by rw [Int64.or_assoc, Int64.or_comm x oc, ← Int64.or_assoc]
theorem orL2 (po oc x : Int64) : po ||| (oc ||| x) = po ||| oc ||| x := (Int64.or_assoc _ _ _).symm
theorem q_53 : .selects RX3 yX3_addVariable yX3_addVariable ∈ BW := mB 53 (by decide +kernel) rfl
theorem q_63 : .initialized RL ∈ BW := mB 63 (by decide +kernel) rfl
theorem q_94 : .fieldLink RX3 39 "Ironwood$Told" "variableCount" "I" ∈ BW := mB 94 (by decide +kernel) rfl
theorem q_97 : .fieldLink RX3 47 "Ironwood$Told" "parameterCells" "J" ∈ BW := mB 97 (by decide +kernel) rfl
theorem q_99 : .fieldLink RX3 51 "Ironwood$Told" "otherCells" "J" ∈ BW := mB 99 (by decide +kernel) rfl
theorem q_156 : .arrayClass .int ∈ BW := mB 156 (by decide +kernel) rfl
theorem q_741 : .methodLink RL 15 yL_below ∈ BW := mB 741 (by decide +kernel) rfl
theorem q_742 : .static yL_below ∈ BW := mB 742 (by decide +kernel) rfl
theorem q_743 : .code yL_below cL_below 2 (some .int) ∈ BW := mB 743 (by decide +kernel) rfl
theorem q_744 : .constant RL 7 2147483647 ∈ BW := mB 744 (by decide +kernel) rfl
theorem q_745 : .methodLink RL 9 yL_cell ∈ BW := mB 745 (by decide +kernel) rfl
theorem q_746 : .static yL_cell ∈ BW := mB 746 (by decide +kernel) rfl
theorem q_747 : .code yL_cell cL_cell 2 (some .int) ∈ BW := mB 747 (by decide +kernel) rfl
theorem q_748 : .constant RL 8 790386105 ∈ BW := mB 748 (by decide +kernel) rfl
theorem q_752 : .methodLink RL 19 yX5_variable ∈ BW := mB 752 (by decide +kernel) rfl
theorem q_753 : .instanceMethod yX5_variable ∈ BW := mB 753 (by decide +kernel) rfl
theorem q_754 : .selects RX5 yX5_variable yX5_variable ∈ BW := mB 754 (by decide +kernel) rfl
theorem q_755 : .code yX5_variable cX5_variable 3 (some .int) ∈ BW := mB 755 (by decide +kernel) rfl
theorem q_760 : .instanceMethod yX3_addVariable ∈ BW := mB 760 (by decide +kernel) rfl
theorem q_761 : .code yX3_addVariable cX3_addVariable 6 (some .int) ∈ BW := mB 761 (by decide +kernel) rfl
theorem q_762 : .classLink RL 25 "[I" ∈ BW := mB 762 (by decide +kernel) rfl
theorem q_764 : .methodLink RL 27 yL_canTell ∈ BW := mB 764 (by decide +kernel) rfl
theorem q_765 : .static yL_canTell ∈ BW := mB 765 (by decide +kernel) rfl
theorem q_766 : .code yL_canTell cL_canTell 3 (some .boolean) ∈ BW := mB 766 (by decide +kernel) rfl
theorem q_767 : .methodLink RL 35 yL_isField ∈ BW := mB 767 (by decide +kernel) rfl
theorem q_768 : .static yL_isField ∈ BW := mB 768 (by decide +kernel) rfl
theorem q_769 : .code yL_isField cL_isField 3 (some .boolean) ∈ BW := mB 769 (by decide +kernel) rfl
theorem q_770 : .methodLink RL 31 yL_tell ∈ BW := mB 770 (by decide +kernel) rfl
theorem q_771 : .static yL_tell ∈ BW := mB 771 (by decide +kernel) rfl
theorem q_772 : .code yL_tell cL_tell 2 (some .int) ∈ BW := mB 772 (by decide +kernel) rfl
theorem q_773 : .methodLink RL 39 yX5_write ∈ BW := mB 773 (by decide +kernel) rfl
theorem q_774 : .instanceMethod yX5_write ∈ BW := mB 774 (by decide +kernel) rfl
theorem q_775 : .selects RX5 yX5_write yX5_write ∈ BW := mB 775 (by decide +kernel) rfl
theorem q_776 : .code yX5_write cX5_write 7 (some .int) ∈ BW := mB 776 (by decide +kernel) rfl
theorem q_801 : .methodLink RL 42 yX5_move ∈ BW := mB 801 (by decide +kernel) rfl
theorem q_802 : .instanceMethod yX5_move ∈ BW := mB 802 (by decide +kernel) rfl
theorem q_803 : .selects RX5 yX5_move yX5_move ∈ BW := mB 803 (by decide +kernel) rfl
theorem q_804 : .code yX5_move cX5_move 7 (some .int) ∈ BW := mB 804 (by decide +kernel) rfl
theorem q_810 : .methodLink RL 46 yX5_lend ∈ BW := mB 810 (by decide +kernel) rfl
theorem q_811 : .instanceMethod yX5_lend ∈ BW := mB 811 (by decide +kernel) rfl
theorem q_812 : .selects RX5 yX5_lend yX5_lend ∈ BW := mB 812 (by decide +kernel) rfl
theorem q_813 : .code yX5_lend cX5_lend 6 (some .int) ∈ BW := mB 813 (by decide +kernel) rfl
theorem q_819 : .methodLink RL 49 yX5_relend ∈ BW := mB 819 (by decide +kernel) rfl
theorem q_820 : .instanceMethod yX5_relend ∈ BW := mB 820 (by decide +kernel) rfl
theorem q_821 : .selects RX5 yX5_relend yX5_relend ∈ BW := mB 821 (by decide +kernel) rfl
theorem q_822 : .code yX5_relend cX5_relend 4 (some .int) ∈ BW := mB 822 (by decide +kernel) rfl
theorem q_825 : .methodLink RL 52 yX5_read ∈ BW := mB 825 (by decide +kernel) rfl
theorem q_826 : .instanceMethod yX5_read ∈ BW := mB 826 (by decide +kernel) rfl
theorem q_827 : .selects RX5 yX5_read yX5_read ∈ BW := mB 827 (by decide +kernel) rfl
theorem q_828 : .code yX5_read cX5_read 5 (some .int) ∈ BW := mB 828 (by decide +kernel) rfl
theorem q_830 : .methodLink RL 55 yX5_drop ∈ BW := mB 830 (by decide +kernel) rfl
theorem q_831 : .instanceMethod yX5_drop ∈ BW := mB 831 (by decide +kernel) rfl
theorem q_832 : .selects RX5 yX5_drop yX5_drop ∈ BW := mB 832 (by decide +kernel) rfl
theorem q_833 : .code yX5_drop cX5_drop 3 (some .int) ∈ BW := mB 833 (by decide +kernel) rfl
theorem q_834 : .methodLink RL 59 yX5_call ∈ BW := mB 834 (by decide +kernel) rfl
theorem q_835 : .instanceMethod yX5_call ∈ BW := mB 835 (by decide +kernel) rfl
theorem q_836 : .selects RX5 yX5_call yX5_call ∈ BW := mB 836 (by decide +kernel) rfl
theorem q_837 : .code yX5_call cX5_call 7 (some .int) ∈ BW := mB 837 (by decide +kernel) rfl
theorem q_844 : .methodLink RL 63 yX5_branch ∈ BW := mB 844 (by decide +kernel) rfl
theorem q_845 : .instanceMethod yX5_branch ∈ BW := mB 845 (by decide +kernel) rfl
theorem q_846 : .selects RX5 yX5_branch yX5_branch ∈ BW := mB 846 (by decide +kernel) rfl
theorem q_847 : .code yX5_branch cX5_branch 4 (some .int) ∈ BW := mB 847 (by decide +kernel) rfl
theorem q_853 : .methodLink RL 67 yX5_finish ∈ BW := mB 853 (by decide +kernel) rfl
theorem q_854 : .instanceMethod yX5_finish ∈ BW := mB 854 (by decide +kernel) rfl
theorem q_855 : .selects RX5 yX5_finish yX5_finish ∈ BW := mB 855 (by decide +kernel) rfl
theorem q_856 : .code yX5_finish cX5_finish 3 (some .int) ∈ BW := mB 856 (by decide +kernel) rfl
set_option maxHeartbeats 4000000 in
set_option maxRecDepth 100000 in
theorem k_below (l : Launch) (D : va_G) (cI cJ cZ cR : ClassId) (v : Int32) (d : Nat) (sz : Nat) (hd1 : 0 < d) (hd : d < 1000) : Met l yL_below (wx (.code yL_below cL_below 2 (some .int))) ({ frames := 0, cells := 0, slots := 0, locals := 0 }) (va_Pc [.int v, .int (nI d)] (Pw D vwCl [(cI, .int), (cJ, .long), (cZ, .boolean), (cR, .array .int)] [] sz)) (va_Qi (fun (r : Int32) (u : Unit) => r = nI (bwO v d)) (Bw D vwCl (fun (u : Unit) => []) (va_A [] sz)) (va_A [] sz)) 0 0 (va_A [] sz) := by
  refine Met.ofW (cc := cL_below) (maxL := 2) (ret := (some .int)) (by decide) rfl ?_
  intro p e s m args below meth c s₁ B hml hv9
  obtain ⟨rfl, hsz, hP, hK, hD0, hG⟩ := hv9
  have hx := B.exec
  have hb := B.bytes
  have hr := B.returns
  have hts := atoms_spec (ws := wx (.code yL_below cL_below 2 (some .int))) B.pre
  have hown : s.vm.findClass RL = some m.cls := findClass_of_methodNamed B.named
  have hlocks := B.notSynchronized
  subst hsz
  have hD := hD0.self (sz := s.heap.size)
  generalize hAe : va_A [] s.heap.size = A at hD hG ⊢
  have hA : ∀ q : Nat, s.heap.size ≤ q → A q := fun q h => by rw [← hAe]; exact Or.inr h
  have hS : va_S A s.heap s.heap [] := va_S.rf
  have hP : va_P D vwCl [] s.heap := hP
  have hl := lv_entry ([.int v, .int (nI d)]) (n := 2) (Nat.le_of_ble_eq_true rfl)
  rw [lg_entry_eq]
  generalize (lg_sl ([.int v, .int (nI d)]) ++ List.replicate (2 - (lg_sl ([.int v, .int (nI d)])).length) Slot.unset).toArray = ls at hl ⊢
  have hl : lv_has ls 2 [(0, .int v), (1, .int (nI d))] := hl
  refine lv_iload_n hx hb dL_below_0 rfl (lv_at hl 0 rfl) ?_
  refine lv_ldc (v := 2147483647) hx hb hown (hts _ (mc q_744)) dL_below_1 ?_
  refine lv_iand hx hb dL_below_3 ?_
  refine tI (v := nI (v.toBitVec.toNat % 2147483648)) (pk_and v 31 (by decide)) ?_
  refine lv_iload_n hx hb dL_below_4 rfl (lv_at hl 1 rfl) ?_
  refine lv_irem hx hb dL_below_5 (nI_ne0 (by omega) (by omega)) ?_
  refine tI (v := nI ((v.toBitVec.toNat % 2147483648) % d)) ((pk_rem (a := (v.toBitVec.toNat % 2147483648)) (d := d) (by omega) (by omega) (by omega))) ?_
  exact ke_i hx hb hr (by first | rfl | decide | exact bz_nar _) () (by first | (simp []; done) | (simp []; done) | rfl | (simp []; omega)) hP hD hS (Nat.le_of_ble_eq_true rfl) (Nat.le_of_ble_eq_true rfl) hlocks dL_below_6

set_option maxHeartbeats 4000000 in
set_option maxRecDepth 100000 in
theorem k_cell (l : Launch) (D : va_G) (cI cJ cZ cR : ClassId) (sb : Nat) (sL : Nat) (sx : Nat → Int32) (k : Nat) (sz : Nat) (hk : k < 1000) (hL : sL ≤ 260) : Met l yL_cell (wx (.code yL_cell cL_cell 2 (some .int))) ({ frames := 0, cells := 0, slots := 0, locals := 0 }) (va_Pc [.ref sb, .int (nI k)] (Pw2 D vwCl [(cI, .int), (cJ, .long), (cZ, .boolean), (cR, .array .int)] sb sL sx [] sz)) (va_Qi (fun (r : Int32) (u : Unit) => True) (Bw D vwCl (fun (u : Unit) => []) (va_A [] sz)) (va_A [] sz)) 0 0 (va_A [] sz) := by
  refine Met.ofW (cc := cL_cell) (maxL := 2) (ret := (some .int)) (by decide) rfl ?_
  intro p e s m args below meth c s₁ B hml hv9
  obtain ⟨rfl, ⟨hsz, hP, hK, hD0, hG⟩, hX, hAO⟩ := hv9
  have hx := B.exec
  have hb := B.bytes
  have hr := B.returns
  have hts := atoms_spec (ws := wx (.code yL_cell cL_cell 2 (some .int))) B.pre
  have hown : s.vm.findClass RL = some m.cls := findClass_of_methodNamed B.named
  have hlocks := B.notSynchronized
  subst hsz
  have hD := hD0.self (sz := s.heap.size)
  generalize hAe : va_A [] s.heap.size = A at hD hG hX ⊢
  have hA : ∀ q : Nat, s.heap.size ≤ q → A q := fun q h => by rw [← hAe]; exact Or.inr h
  have hS : va_S A s.heap s.heap [] := va_S.rf
  have hP : va_P D vwCl [] s.heap := hP
  have hl := lv_entry ([.ref sb, .int (nI k)]) (n := 2) (Nat.le_of_ble_eq_true rfl)
  rw [lg_entry_eq]
  generalize (lg_sl ([.ref sb, .int (nI k)]) ++ List.replicate (2 - (lg_sl ([.ref sb, .int (nI k)])).length) Slot.unset).toArray = ls at hl ⊢
  have hl : lv_has ls 2 [(0, .ref sb), (1, .int (nI k))] := hl
  refine lv_iload_n hx hb dL_cell_0 rfl (lv_at hl 1 rfl) ?_
  refine lv_aload_n hx hb dL_cell_1 rfl (lv_at hl 0 rfl) ?_
  refine va_tlen (v := nI sL) hx hb hX hS rfl dL_cell_2 ?_
  refine lv_icmp_ge (tgt := 12) hx hb dL_cell_3 (by decide) (fun c_3 => ?_) (fun c_3 => ?_)
  · skip
    have c_3 : sL ≤ k := (nI_leI (a := sL) (b := k) (by omega) (by omega)).mp c_3
    refine lv_ldc (v := 790386105) hx hb hown (hts _ (mc q_748)) dL_cell_12 ?_
    refine lv_iload_n hx hb dL_cell_14 rfl (lv_at hl 1 rfl) ?_
    refine lv_iconst (v := 3) hx hb dL_cell_15 (by decide) ?_
    refine lv_iadd hx hb dL_cell_16 ?_
    refine tI (v := nI (k + 3)) (nI_add k 3) ?_
    refine lv_imul hx hb dL_cell_17 ?_
    refine tI (v := nI (790386105 * (k + 3))) (pk_mul 790386105 (k + 3)) ?_
    exact ke_i hx hb hr (by first | rfl | decide | exact bz_nar _) () (trivial) hP hD hS (Nat.le_of_ble_eq_true rfl) (Nat.le_of_ble_eq_true rfl) hlocks dL_cell_18
  · skip
    have c_3 : k < sL := Nat.lt_of_not_le (fun h9 => c_3 ((nI_leI (a := sL) (b := k) (by omega) (by omega)).mpr h9))
    refine lv_aload_n hx hb dL_cell_6 rfl (lv_at hl 0 rfl) ?_
    refine lv_iload_n hx hb dL_cell_7 rfl (lv_at hl 1 rfl) ?_
    refine va_ti (v := .int (sx k)) hx hb hX hS (vp_in_nI (n := k) (by omega) (by omega)) (congrArg (fun z => Value.int (sx z)) (nI_clamp (n := k) (by omega))) dL_cell_8 ?_
    refine lv_goto (tgt := 18) hx hb dL_cell_9 (by decide) ?_
    exact ke_i hx hb hr (by first | rfl | decide | exact bz_nar _) () (trivial) hP hD hS (Nat.le_of_ble_eq_true rfl) (Nat.le_of_ble_eq_true rfl) hlocks dL_cell_18

set_option maxHeartbeats 4000000 in
set_option maxRecDepth 100000 in
theorem k_isFieldL (l : Launch) (D : va_G) (cI cJ cZ cR : ClassId) (kd : Nat) (kf : Nat → Int32) (b : Nat) (q : Int32) (T : Nat → Nat → Int32) (sz : Nat) (hb6 : b < 6) (hkf : ∀ v, v < 6 → kf v = T 0 v) : Met l yL_isField (wx (.code yL_isField cL_isField 3 (some .boolean))) ({ frames := 0, cells := 0, slots := 0, locals := 0 }) (va_Pc [.ref kd, .int (nI b), .int q] (Pw D vwCl [(cI, .int), (cJ, .long), (cZ, .boolean), (cR, .array .int)] [(kd, .inl (cI, 6, .inl kf))] sz)) (va_Qi (fun (r : Int32) (u : Unit) => r = bz (iFd T b q)) (Bw D vwCl (fun (u : Unit) => [(kd, .inl (cI, 6, .inl kf))]) (va_A [(kd, .inl (cI, 6, .inl kf))] sz)) (va_A [(kd, .inl (cI, 6, .inl kf))] sz)) 0 0 (va_A [(kd, .inl (cI, 6, .inl kf))] sz) := by
  refine Met.ofW (cc := cL_isField) (maxL := 3) (ret := (some .boolean)) (by decide) rfl ?_
  intro p e s m args below meth c s₁ B hml hv9
  obtain ⟨rfl, hsz, hP, hK, hD0, hG⟩ := hv9
  have hx := B.exec
  have hb := B.bytes
  have hr := B.returns
  have hts := atoms_spec (ws := wx (.code yL_isField cL_isField 3 (some .boolean))) B.pre
  have hown : s.vm.findClass RL = some m.cls := findClass_of_methodNamed B.named
  have hlocks := B.notSynchronized
  subst hsz
  have hD := hD0.self (sz := s.heap.size)
  generalize hAe : va_A [(kd, .inl (cI, 6, .inl kf))] s.heap.size = A at hD hG ⊢
  have hA : ∀ q : Nat, s.heap.size ≤ q → A q := fun q h => by rw [← hAe]; exact Or.inr h
  have hS : va_S A s.heap s.heap [] := va_S.rf
  have hP : va_P D vwCl [(kd, .inl (cI, 6, .inl kf))] s.heap := hP
  have hl := lv_entry ([.ref kd, .int (nI b), .int q]) (n := 3) (Nat.le_of_ble_eq_true rfl)
  rw [lg_entry_eq]
  generalize (lg_sl ([.ref kd, .int (nI b), .int q]) ++ List.replicate (3 - (lg_sl ([.ref kd, .int (nI b), .int q])).length) Slot.unset).toArray = ls at hl ⊢
  have hl : lv_has ls 3 [(0, .ref kd), (1, .int (nI b)), (2, .int q)] := hl
  refine lv_aload_n hx hb dL_isField_0 rfl (lv_at hl 0 rfl) ?_
  refine lv_iload_n hx hb dL_isField_1 rfl (lv_at hl 1 rfl) ?_
  refine va_iald hx hb hK hP 0 0 rfl rfl (vp_in_nI (n := b) (by omega) (by omega)) dL_isField_2 ?_
  refine tI (v := kf b) (congrArg kf (nI_clamp (n := b) (by omega))) ?_
  refine tI (v := T 0 b) (hkf b hb6) ?_
  refine lv_iconst (v := 1) hx hb dL_isField_3 (by decide) ?_
  refine lv_icmp_ne (tgt := 20) hx hb dL_isField_4 (by decide) (fun c_4 => ?_) (fun c_4 => ?_)
  · skip
    refine lv_iconst (v := 0) hx hb dL_isField_20 (by decide) ?_
    exact ke_i hx hb hr (by first | rfl | decide | exact bz_nar _) () (by first | (simp [iFd, bz, c_4]; done) | (simp [iFd, bz, if_neg c_4]; done) | rfl | (simp [iFd, bz, c_4]; omega)) hP hD hS (Nat.le_of_ble_eq_true rfl) (Nat.le_of_ble_eq_true rfl) hlocks dL_isField_21
  · skip
    refine lv_iload_n hx hb dL_isField_7 rfl (lv_at hl 2 rfl) ?_
    refine lv_if_lt (tgt := 20) hx hb dL_isField_8 (by decide) (fun c_8 => ?_) (fun c_8 => ?_)
    · skip
      refine lv_iconst (v := 0) hx hb dL_isField_20 (by decide) ?_
      exact ke_i hx hb hr (by first | rfl | decide | exact bz_nar _) () (by first | (simp [iFd, bz, c_4, c_8, (Int32.not_le.mpr c_8)]; done) | (simp [iFd, bz, if_pos c_4, if_pos c_8, if_neg (Int32.not_le.mpr c_8)]; done) | rfl | (simp [iFd, bz, c_4, c_8, (Int32.not_le.mpr c_8)]; omega)) hP hD hS (Nat.le_of_ble_eq_true rfl) (Nat.le_of_ble_eq_true rfl) hlocks dL_isField_21
    · skip
      refine lv_iload_n hx hb dL_isField_11 rfl (lv_at hl 2 rfl) ?_
      refine lv_iconst (v := 3) hx hb dL_isField_12 (by decide) ?_
      refine lv_icmp_ge (tgt := 20) hx hb dL_isField_13 (by decide) (fun c_13 => ?_) (fun c_13 => ?_)
      · skip
        refine lv_iconst (v := 0) hx hb dL_isField_20 (by decide) ?_
        exact ke_i hx hb hr (by first | rfl | decide | exact bz_nar _) () (by first | (simp [iFd, bz, c_4, c_8, (Int32.not_lt.mp c_8), c_13, (Int32.not_lt.mpr c_13)]; done) | (simp [iFd, bz, if_pos c_4, if_neg c_8, if_pos (Int32.not_lt.mp c_8), if_pos c_13, if_neg (Int32.not_lt.mpr c_13)]; done) | rfl | (simp [iFd, bz, c_4, c_8, (Int32.not_lt.mp c_8), c_13, (Int32.not_lt.mpr c_13)]; omega)) hP hD hS (Nat.le_of_ble_eq_true rfl) (Nat.le_of_ble_eq_true rfl) hlocks dL_isField_21
      · skip
        refine lv_iconst (v := 1) hx hb dL_isField_16 (by decide) ?_
        refine lv_goto (tgt := 21) hx hb dL_isField_17 (by decide) ?_
        exact ke_i hx hb hr (by first | rfl | decide | exact bz_nar _) () (by first | (simp [iFd, bz, c_4, c_8, (Int32.not_lt.mp c_8), c_13, (Int32.not_le.mp c_13)]; done) | (simp [iFd, bz, if_pos c_4, if_neg c_8, if_pos (Int32.not_lt.mp c_8), if_neg c_13, if_pos (Int32.not_le.mp c_13)]; done) | rfl | (simp [iFd, bz, c_4, c_8, (Int32.not_lt.mp c_8), c_13, (Int32.not_le.mp c_13)]; omega)) hP hD hS (Nat.le_of_ble_eq_true rfl) (Nat.le_of_ble_eq_true rfl) hlocks dL_isField_21

set_option maxHeartbeats 4000000 in
set_option maxRecDepth 100000 in
theorem k_canTell (l : Launch) (D : va_G) (cI cJ cZ cR : ClassId) (kd : Nat) (kf : Nat → Int32) (rw : Nat) (g : Nat → Int32) (c9 : Nat) (a : Nat) (b : Nat) (q : Int32) (T : Nat → Nat → Int32) (n : Nat) (sz : Nat) (hT : TI T n) (hc : c9 < 10) (ha6 : a < 6) (hb6 : b < 6) (g0 : g 0 = nI c9) (g1 : g 1 = nI a) (g2 : g 2 = nI b) (g3 : g 3 = q) (hkf : ∀ v, v < 6 → kf v = T 0 v) (hq : q = -1 ∨ ∃ p, p < 4 ∧ q = nI p) : Met l yL_canTell (wx (.code yL_canTell cL_canTell 3 (some .boolean))) ({ frames := 1, cells := 0, slots := 0, locals := 22 }) (va_Pc [.ref kd, .ref rw] (Pw D vwCl [(cI, .int), (cJ, .long), (cZ, .boolean), (cR, .array .int)] [(kd, .inl (cI, 6, .inl kf)), (rw, .inl (cI, 6, .inl g))] sz)) (va_Qi (fun (r : Int32) (u : (Bool)) => r = bz u ∧ (u = true → okR T c9 a b q)) (Bw D vwCl (fun (u : (Bool)) => [(kd, .inl (cI, 6, .inl kf)), (rw, .inl (cI, 6, .inl g))]) (va_A [(kd, .inl (cI, 6, .inl kf)), (rw, .inl (cI, 6, .inl g))] sz)) (va_A [(kd, .inl (cI, 6, .inl kf)), (rw, .inl (cI, 6, .inl g))] sz)) 0 0 (va_A [(kd, .inl (cI, 6, .inl kf)), (rw, .inl (cI, 6, .inl g))] sz) := by
  refine Met.ofW (cc := cL_canTell) (maxL := 3) (ret := (some .boolean)) (by decide) rfl ?_
  intro p e s m args below meth c s₁ B hml hv9
  obtain ⟨rfl, hsz, hP, hK, hD0, hG⟩ := hv9
  have hx := B.exec
  have hb := B.bytes
  have hr := B.returns
  have hts := atoms_spec (ws := wx (.code yL_canTell cL_canTell 3 (some .boolean))) B.pre
  have hown : s.vm.findClass RL = some m.cls := findClass_of_methodNamed B.named
  have hlocks := B.notSynchronized
  subst hsz
  have hD := hD0.self (sz := s.heap.size)
  generalize hAe : va_A [(kd, .inl (cI, 6, .inl kf)), (rw, .inl (cI, 6, .inl g))] s.heap.size = A at hD hG ⊢
  have hA : ∀ q : Nat, s.heap.size ≤ q → A q := fun q h => by rw [← hAe]; exact Or.inr h
  have hS : va_S A s.heap s.heap [] := va_S.rf
  have hP : va_P D vwCl [(kd, .inl (cI, 6, .inl kf)), (rw, .inl (cI, 6, .inl g))] s.heap := hP
  have hl := lv_entry ([.ref kd, .ref rw]) (n := 3) (Nat.le_of_ble_eq_true rfl)
  rw [lg_entry_eq]
  generalize (lg_sl ([.ref kd, .ref rw]) ++ List.replicate (3 - (lg_sl ([.ref kd, .ref rw])).length) Slot.unset).toArray = ls at hl ⊢
  have hl : lv_has ls 3 [(0, .ref kd), (1, .ref rw)] := hl
  refine lv_aload_n hx hb dL_canTell_0 rfl (lv_at hl 0 rfl) ?_
  refine lv_aload_n hx hb dL_canTell_1 rfl (lv_at hl 1 rfl) ?_
  refine lv_iconst (v := 2) hx hb dL_canTell_2 (by decide) ?_
  refine va_iald hx hb hK hP 1 0 rfl rfl (vp_in_nI (n := 2) (by omega) (by omega)) dL_canTell_3 ?_
  refine tI (v := g 2) (congrArg g (nI_clamp (n := 2) (by omega))) ?_
  refine tI (v := nI b) g2 ?_
  refine va_iald hx hb hK hP 0 0 rfl rfl (vp_in_nI (n := b) (by omega) (by omega)) dL_canTell_4 ?_
  refine tI (v := kf b) (congrArg kf (nI_clamp (n := b) (by omega))) ?_
  refine tI (v := T 0 b) (hkf b hb6) ?_
  refine lv_istore_n (lv' := [(2, .int (T 0 b)), (0, .ref kd), (1, .ref rw)]) hx hb dL_canTell_5 rfl hl (by decide) rfl (fun ls hl => ?_)
  refine lv_aload_n hx hb dL_canTell_6 rfl (lv_at hl 2 rfl) ?_
  refine lv_iconst (v := 0) hx hb dL_canTell_7 (by decide) ?_
  refine va_iald hx hb hK hP 1 0 rfl rfl (vp_in_nI (n := 0) (by omega) (by omega)) dL_canTell_8 ?_
  refine tI (v := g 0) (congrArg g (nI_clamp (n := 0) (by omega))) ?_
  refine tI (v := nI c9) g0 ?_
  rcases (show c9 = 0 ∨ c9 = 1 ∨ c9 = 2 ∨ c9 = 3 ∨ c9 = 4 ∨ c9 = 5 ∨ c9 = 6 ∨ c9 = 7 ∨ c9 = 8 ∨ c9 = 9 by omega) with rfl | rfl | rfl | rfl | rfl | rfl | rfl | rfl | rfl | rfl
  · skip
    refine lv_tableIn (tgt := 52) (off := 43) hx hb dL_canTell_9 (by decide) (by decide) (by decide) (by decide) ?_
    refine lv_aload_n hx hb dL_canTell_52 rfl (lv_at hl 2 rfl) ?_
    refine lv_iconst (v := 3) hx hb dL_canTell_53 (by decide) ?_
    refine va_iald hx hb hK hP 1 0 rfl rfl (vp_in_nI (n := 3) (by omega) (by omega)) dL_canTell_54 ?_
    refine tI (v := g 3) (congrArg g (nI_clamp (n := 3) (by omega))) ?_
    refine tI (v := q) g3 ?_
    refine lv_iconst (v := (-1)) hx hb dL_canTell_55 (by decide) ?_
    refine lv_icmp_ne (tgt := 64) hx hb dL_canTell_56 (by decide) (fun c_56 => ?_) (fun c_56 => ?_)
    · skip
      refine lv_aload_n hx hb dL_canTell_64 rfl (lv_at hl 1 rfl) ?_
      refine lv_aload_n hx hb dL_canTell_65 rfl (lv_at hl 2 rfl) ?_
      refine lv_iconst (v := 2) hx hb dL_canTell_66 (by decide) ?_
      refine va_iald hx hb hK hP 1 0 rfl rfl (vp_in_nI (n := 2) (by omega) (by omega)) dL_canTell_67 ?_
      refine tI (v := g 2) (congrArg g (nI_clamp (n := 2) (by omega))) ?_
      refine tI (v := nI b) g2 ?_
      refine lv_aload_n hx hb dL_canTell_68 rfl (lv_at hl 2 rfl) ?_
      refine lv_iconst (v := 3) hx hb dL_canTell_69 (by decide) ?_
      refine va_iald hx hb hK hP 1 0 rfl rfl (vp_in_nI (n := 3) (by omega) (by omega)) dL_canTell_70 ?_
      refine tI (v := g 3) (congrArg g (nI_clamp (n := 3) (by omega))) ?_
      refine tI (v := q) g3 ?_
      refine kc_i (wr := [(rw, .inl (cI, 6, .inl g))]) (va_runS (As := [.ref kd, .int (nI b), .int q]) (rest := []) ⟨hx, hb, hml, hown, hts⟩ (k_isFieldL l D cI cJ cZ cR kd kf b q T _ hb6 hkf) (cwS 3 hts (gS q_769 q_767 q_768 q_63) rfl rfl rfl (by decide +kernel) ⟨Nat.le_of_ble_eq_true rfl, Nat.le_of_ble_eq_true rfl⟩) ⟨Pw.blind, Pw.mk_call hP hK hD hS hA hG [0] rfl (by decide)⟩ rfl rfl hl.1 rfl (lv_room (Nat.le_of_ble_eq_true rfl)) dL_canTell_71 ⟨Nat.le_of_ble_eq_true rfl, Nat.le_of_ble_eq_true rfl⟩) hP hD hS hA [0] [1] rfl rfl (by decide) (by decide) (fun r_1 u_2 H locs hw hP hD hS => ?_)
      obtain rfl : r_1 = bz (iFd T b q) := hw
      have hP : va_P D vwCl [(rw, .inl (cI, 6, .inl g)), (kd, .inl (cI, 6, .inl kf))] _ := hP
      have hD : va_D A [(rw, .inl (cI, 6, .inl g)), (kd, .inl (cI, 6, .inl kf))] := hD
      refine lv_if_ne (tgt := 89) hx hb dL_canTell_74 (by decide) (fun c_74 => ?_) (fun c_74 => ?_)
      · skip
        have c_74 : (iFd T b q) = true := bz_t c_74
        refine lv_iconst (v := 1) hx hb dL_canTell_89 (by decide) ?_
        refine lv_goto (tgt := 94) hx hb dL_canTell_90 (by decide) ?_
        have hP := hP.sub (ws' := [(kd, .inl (cI, 6, .inl kf)), (rw, .inl (cI, 6, .inl g))]) [1, 0] rfl
        have hD := hD.sub (ws' := [(kd, .inl (cI, 6, .inl kf)), (rw, .inl (cI, 6, .inl g))]) [1, 0] (by decide) rfl
        exact ke_i hx hb hr (by first | rfl | decide | exact bz_nar _) true (⟨rfl, fun _ => (by refine ⟨fun _ => ?_, fun h => absurd h (by decide), fun h => absurd h (by decide), fun h => absurd h (by decide), fun h => absurd h (by decide), fun h => absurd h (by decide)⟩; first | exact Or.inl ⟨c_56, iL_nlt c_61⟩ | exact Or.inr (Or.inl c_74) | exact Or.inr (Or.inr ⟨c_81, c_86⟩))⟩) hP hD hS (Nat.le_of_ble_eq_true rfl) (Nat.le_of_ble_eq_true rfl) hlocks dL_canTell_94
      · skip
        have c_74 : (iFd T b q) = false := bz_f c_74
        refine lv_aload_n hx hb dL_canTell_77 rfl (lv_at hl 2 rfl) ?_
        refine lv_iconst (v := 3) hx hb dL_canTell_78 (by decide) ?_
        refine va_iald hx hb hK hP 0 0 rfl rfl (vp_in_nI (n := 3) (by omega) (by omega)) dL_canTell_79 ?_
        refine tI (v := g 3) (congrArg g (nI_clamp (n := 3) (by omega))) ?_
        refine tI (v := q) g3 ?_
        refine lv_iconst (v := 3) hx hb dL_canTell_80 (by decide) ?_
        refine lv_icmp_ne (tgt := 93) hx hb dL_canTell_81 (by decide) (fun c_81 => ?_) (fun c_81 => ?_)
        · skip
          refine lv_iconst (v := 0) hx hb dL_canTell_93 (by decide) ?_
          have hP := hP.sub (ws' := [(kd, .inl (cI, 6, .inl kf)), (rw, .inl (cI, 6, .inl g))]) [1, 0] rfl
          have hD := hD.sub (ws' := [(kd, .inl (cI, 6, .inl kf)), (rw, .inl (cI, 6, .inl g))]) [1, 0] (by decide) rfl
          exact ke_i hx hb hr (by first | rfl | decide | exact bz_nar _) false (⟨rfl, fun h => absurd h (by decide)⟩) hP hD hS (Nat.le_of_ble_eq_true rfl) (Nat.le_of_ble_eq_true rfl) hlocks dL_canTell_94
        · skip
          refine lv_iload_n hx hb dL_canTell_84 rfl (lv_at hl 0 rfl) ?_
          refine lv_iconst (v := 3) hx hb dL_canTell_85 (by decide) ?_
          refine lv_icmp_ne (tgt := 93) hx hb dL_canTell_86 (by decide) (fun c_86 => ?_) (fun c_86 => ?_)
          · skip
            refine lv_iconst (v := 0) hx hb dL_canTell_93 (by decide) ?_
            have hP := hP.sub (ws' := [(kd, .inl (cI, 6, .inl kf)), (rw, .inl (cI, 6, .inl g))]) [1, 0] rfl
            have hD := hD.sub (ws' := [(kd, .inl (cI, 6, .inl kf)), (rw, .inl (cI, 6, .inl g))]) [1, 0] (by decide) rfl
            exact ke_i hx hb hr (by first | rfl | decide | exact bz_nar _) false (⟨rfl, fun h => absurd h (by decide)⟩) hP hD hS (Nat.le_of_ble_eq_true rfl) (Nat.le_of_ble_eq_true rfl) hlocks dL_canTell_94
          · skip
            refine lv_iconst (v := 1) hx hb dL_canTell_89 (by decide) ?_
            refine lv_goto (tgt := 94) hx hb dL_canTell_90 (by decide) ?_
            have hP := hP.sub (ws' := [(kd, .inl (cI, 6, .inl kf)), (rw, .inl (cI, 6, .inl g))]) [1, 0] rfl
            have hD := hD.sub (ws' := [(kd, .inl (cI, 6, .inl kf)), (rw, .inl (cI, 6, .inl g))]) [1, 0] (by decide) rfl
            exact ke_i hx hb hr (by first | rfl | decide | exact bz_nar _) true (⟨rfl, fun _ => (by refine ⟨fun _ => ?_, fun h => absurd h (by decide), fun h => absurd h (by decide), fun h => absurd h (by decide), fun h => absurd h (by decide), fun h => absurd h (by decide)⟩; first | exact Or.inl ⟨c_56, iL_nlt c_61⟩ | exact Or.inr (Or.inl c_74) | exact Or.inr (Or.inr ⟨c_81, c_86⟩))⟩) hP hD hS (Nat.le_of_ble_eq_true rfl) (Nat.le_of_ble_eq_true rfl) hlocks dL_canTell_94
    · skip
      refine lv_iload_n hx hb dL_canTell_59 rfl (lv_at hl 0 rfl) ?_
      refine lv_iconst (v := 2) hx hb dL_canTell_60 (by decide) ?_
      refine lv_icmp_lt (tgt := 89) hx hb dL_canTell_61 (by decide) (fun c_61 => ?_) (fun c_61 => ?_)
      · skip
        refine lv_iconst (v := 1) hx hb dL_canTell_89 (by decide) ?_
        refine lv_goto (tgt := 94) hx hb dL_canTell_90 (by decide) ?_
        exact ke_i hx hb hr (by first | rfl | decide | exact bz_nar _) true (⟨rfl, fun _ => (by refine ⟨fun _ => ?_, fun h => absurd h (by decide), fun h => absurd h (by decide), fun h => absurd h (by decide), fun h => absurd h (by decide), fun h => absurd h (by decide)⟩; first | exact Or.inl ⟨c_56, iL_nlt c_61⟩ | exact Or.inr (Or.inl c_74) | exact Or.inr (Or.inr ⟨c_81, c_86⟩))⟩) hP hD hS (Nat.le_of_ble_eq_true rfl) (Nat.le_of_ble_eq_true rfl) hlocks dL_canTell_94
      · skip
        refine lv_aload_n hx hb dL_canTell_64 rfl (lv_at hl 1 rfl) ?_
        refine lv_aload_n hx hb dL_canTell_65 rfl (lv_at hl 2 rfl) ?_
        refine lv_iconst (v := 2) hx hb dL_canTell_66 (by decide) ?_
        refine va_iald hx hb hK hP 1 0 rfl rfl (vp_in_nI (n := 2) (by omega) (by omega)) dL_canTell_67 ?_
        refine tI (v := g 2) (congrArg g (nI_clamp (n := 2) (by omega))) ?_
        refine tI (v := nI b) g2 ?_
        refine lv_aload_n hx hb dL_canTell_68 rfl (lv_at hl 2 rfl) ?_
        refine lv_iconst (v := 3) hx hb dL_canTell_69 (by decide) ?_
        refine va_iald hx hb hK hP 1 0 rfl rfl (vp_in_nI (n := 3) (by omega) (by omega)) dL_canTell_70 ?_
        refine tI (v := g 3) (congrArg g (nI_clamp (n := 3) (by omega))) ?_
        refine tI (v := q) g3 ?_
        refine kc_i (wr := [(rw, .inl (cI, 6, .inl g))]) (va_runS (As := [.ref kd, .int (nI b), .int q]) (rest := []) ⟨hx, hb, hml, hown, hts⟩ (k_isFieldL l D cI cJ cZ cR kd kf b q T _ hb6 hkf) (cwS 3 hts (gS q_769 q_767 q_768 q_63) rfl rfl rfl (by decide +kernel) ⟨Nat.le_of_ble_eq_true rfl, Nat.le_of_ble_eq_true rfl⟩) ⟨Pw.blind, Pw.mk_call hP hK hD hS hA hG [0] rfl (by decide)⟩ rfl rfl hl.1 rfl (lv_room (Nat.le_of_ble_eq_true rfl)) dL_canTell_71 ⟨Nat.le_of_ble_eq_true rfl, Nat.le_of_ble_eq_true rfl⟩) hP hD hS hA [0] [1] rfl rfl (by decide) (by decide) (fun r_3 u_4 H locs hw hP hD hS => ?_)
        obtain rfl : r_3 = bz (iFd T b q) := hw
        have hP : va_P D vwCl [(rw, .inl (cI, 6, .inl g)), (kd, .inl (cI, 6, .inl kf))] _ := hP
        have hD : va_D A [(rw, .inl (cI, 6, .inl g)), (kd, .inl (cI, 6, .inl kf))] := hD
        refine lv_if_ne (tgt := 89) hx hb dL_canTell_74 (by decide) (fun c_74 => ?_) (fun c_74 => ?_)
        · skip
          have c_74 : (iFd T b q) = true := bz_t c_74
          refine lv_iconst (v := 1) hx hb dL_canTell_89 (by decide) ?_
          refine lv_goto (tgt := 94) hx hb dL_canTell_90 (by decide) ?_
          have hP := hP.sub (ws' := [(kd, .inl (cI, 6, .inl kf)), (rw, .inl (cI, 6, .inl g))]) [1, 0] rfl
          have hD := hD.sub (ws' := [(kd, .inl (cI, 6, .inl kf)), (rw, .inl (cI, 6, .inl g))]) [1, 0] (by decide) rfl
          exact ke_i hx hb hr (by first | rfl | decide | exact bz_nar _) true (⟨rfl, fun _ => (by refine ⟨fun _ => ?_, fun h => absurd h (by decide), fun h => absurd h (by decide), fun h => absurd h (by decide), fun h => absurd h (by decide), fun h => absurd h (by decide)⟩; first | exact Or.inl ⟨c_56, iL_nlt c_61⟩ | exact Or.inr (Or.inl c_74) | exact Or.inr (Or.inr ⟨c_81, c_86⟩))⟩) hP hD hS (Nat.le_of_ble_eq_true rfl) (Nat.le_of_ble_eq_true rfl) hlocks dL_canTell_94
        · skip
          have c_74 : (iFd T b q) = false := bz_f c_74
          refine lv_aload_n hx hb dL_canTell_77 rfl (lv_at hl 2 rfl) ?_
          refine lv_iconst (v := 3) hx hb dL_canTell_78 (by decide) ?_
          refine va_iald hx hb hK hP 0 0 rfl rfl (vp_in_nI (n := 3) (by omega) (by omega)) dL_canTell_79 ?_
          refine tI (v := g 3) (congrArg g (nI_clamp (n := 3) (by omega))) ?_
          refine tI (v := q) g3 ?_
          refine lv_iconst (v := 3) hx hb dL_canTell_80 (by decide) ?_
          refine lv_icmp_ne (tgt := 93) hx hb dL_canTell_81 (by decide) (fun c_81 => ?_) (fun c_81 => absurd c_81 (by first | exact c_56 | (rw [c_56]; decide)))
          refine lv_iconst (v := 0) hx hb dL_canTell_93 (by decide) ?_
          have hP := hP.sub (ws' := [(kd, .inl (cI, 6, .inl kf)), (rw, .inl (cI, 6, .inl g))]) [1, 0] rfl
          have hD := hD.sub (ws' := [(kd, .inl (cI, 6, .inl kf)), (rw, .inl (cI, 6, .inl g))]) [1, 0] (by decide) rfl
          exact ke_i hx hb hr (by first | rfl | decide | exact bz_nar _) false (⟨rfl, fun h => absurd h (by decide)⟩) hP hD hS (Nat.le_of_ble_eq_true rfl) (Nat.le_of_ble_eq_true rfl) hlocks dL_canTell_94
  · skip
    refine lv_tableIn (tgt := 95) (off := 86) hx hb dL_canTell_9 (by decide) (by decide) (by decide) (by decide) ?_
    refine lv_aload_n hx hb dL_canTell_95 rfl (lv_at hl 1 rfl) ?_
    refine lv_aload_n hx hb dL_canTell_96 rfl (lv_at hl 2 rfl) ?_
    refine lv_iconst (v := 2) hx hb dL_canTell_97 (by decide) ?_
    refine va_iald hx hb hK hP 1 0 rfl rfl (vp_in_nI (n := 2) (by omega) (by omega)) dL_canTell_98 ?_
    refine tI (v := g 2) (congrArg g (nI_clamp (n := 2) (by omega))) ?_
    refine tI (v := nI b) g2 ?_
    refine lv_aload_n hx hb dL_canTell_99 rfl (lv_at hl 2 rfl) ?_
    refine lv_iconst (v := 3) hx hb dL_canTell_100 (by decide) ?_
    refine va_iald hx hb hK hP 1 0 rfl rfl (vp_in_nI (n := 3) (by omega) (by omega)) dL_canTell_101 ?_
    refine tI (v := g 3) (congrArg g (nI_clamp (n := 3) (by omega))) ?_
    refine tI (v := q) g3 ?_
    refine kc_i (wr := [(rw, .inl (cI, 6, .inl g))]) (va_runS (As := [.ref kd, .int (nI b), .int q]) (rest := []) ⟨hx, hb, hml, hown, hts⟩ (k_isFieldL l D cI cJ cZ cR kd kf b q T _ hb6 hkf) (cwS 3 hts (gS q_769 q_767 q_768 q_63) rfl rfl rfl (by decide +kernel) ⟨Nat.le_of_ble_eq_true rfl, Nat.le_of_ble_eq_true rfl⟩) ⟨Pw.blind, Pw.mk_call hP hK hD hS hA hG [0] rfl (by decide)⟩ rfl rfl hl.1 rfl (lv_room (Nat.le_of_ble_eq_true rfl)) dL_canTell_102 ⟨Nat.le_of_ble_eq_true rfl, Nat.le_of_ble_eq_true rfl⟩) hP hD hS hA [0] [1] rfl rfl (by decide) (by decide) (fun r_5 u_6 H locs hw hP hD hS => ?_)
    obtain rfl : r_5 = bz (iFd T b q) := hw
    have hP : va_P D vwCl [(rw, .inl (cI, 6, .inl g)), (kd, .inl (cI, 6, .inl kf))] _ := hP
    have hD : va_D A [(rw, .inl (cI, 6, .inl g)), (kd, .inl (cI, 6, .inl kf))] := hD
    refine lv_if_eq (tgt := 117) hx hb dL_canTell_105 (by decide) (fun c_105 => ?_) (fun c_105 => ?_)
    · skip
      have c_105 : (iFd T b q) = false := bz_f c_105
      refine lv_aload_n hx hb dL_canTell_117 rfl (lv_at hl 2 rfl) ?_
      refine lv_iconst (v := 3) hx hb dL_canTell_118 (by decide) ?_
      refine va_iald hx hb hK hP 0 0 rfl rfl (vp_in_nI (n := 3) (by omega) (by omega)) dL_canTell_119 ?_
      refine tI (v := g 3) (congrArg g (nI_clamp (n := 3) (by omega))) ?_
      refine tI (v := q) g3 ?_
      refine lv_iconst (v := (-1)) hx hb dL_canTell_120 (by decide) ?_
      refine lv_icmp_ne (tgt := 146) hx hb dL_canTell_121 (by decide) (fun c_121 => ?_) (fun c_121 => ?_)
      · skip
        refine lv_iconst (v := 0) hx hb dL_canTell_146 (by decide) ?_
        have hP := hP.sub (ws' := [(kd, .inl (cI, 6, .inl kf)), (rw, .inl (cI, 6, .inl g))]) [1, 0] rfl
        have hD := hD.sub (ws' := [(kd, .inl (cI, 6, .inl kf)), (rw, .inl (cI, 6, .inl g))]) [1, 0] (by decide) rfl
        exact ke_i hx hb hr (by first | rfl | decide | exact bz_nar _) false (⟨rfl, fun h => absurd h (by decide)⟩) hP hD hS (Nat.le_of_ble_eq_true rfl) (Nat.le_of_ble_eq_true rfl) hlocks dL_canTell_147
      · skip
        refine lv_aload_n hx hb dL_canTell_124 rfl (lv_at hl 2 rfl) ?_
        refine lv_iconst (v := 1) hx hb dL_canTell_125 (by decide) ?_
        refine va_iald hx hb hK hP 0 0 rfl rfl (vp_in_nI (n := 1) (by omega) (by omega)) dL_canTell_126 ?_
        refine tI (v := g 1) (congrArg g (nI_clamp (n := 1) (by omega))) ?_
        refine tI (v := nI a) g1 ?_
        refine lv_aload_n hx hb dL_canTell_127 rfl (lv_at hl 2 rfl) ?_
        refine lv_iconst (v := 2) hx hb dL_canTell_128 (by decide) ?_
        refine va_iald hx hb hK hP 0 0 rfl rfl (vp_in_nI (n := 2) (by omega) (by omega)) dL_canTell_129 ?_
        refine tI (v := g 2) (congrArg g (nI_clamp (n := 2) (by omega))) ?_
        refine tI (v := nI b) g2 ?_
        refine lv_icmp_eq (tgt := 146) hx hb dL_canTell_130 (by decide) (fun c_130 => ?_) (fun c_130 => ?_)
        · skip
          have c_130 : a = b := (nI_eq (a := a) (b := b) (by omega) (by omega)).mp c_130
          refine lv_iconst (v := 0) hx hb dL_canTell_146 (by decide) ?_
          have hP := hP.sub (ws' := [(kd, .inl (cI, 6, .inl kf)), (rw, .inl (cI, 6, .inl g))]) [1, 0] rfl
          have hD := hD.sub (ws' := [(kd, .inl (cI, 6, .inl kf)), (rw, .inl (cI, 6, .inl g))]) [1, 0] (by decide) rfl
          exact ke_i hx hb hr (by first | rfl | decide | exact bz_nar _) false (⟨rfl, fun h => absurd h (by decide)⟩) hP hD hS (Nat.le_of_ble_eq_true rfl) (Nat.le_of_ble_eq_true rfl) hlocks dL_canTell_147
        · skip
          have c_130 : ¬ a = b := (fun h9 => c_130 ((nI_eq (a := a) (b := b) (by omega) (by omega)).mpr h9))
          refine lv_aload_n hx hb dL_canTell_133 rfl (lv_at hl 1 rfl) ?_
          refine lv_aload_n hx hb dL_canTell_134 rfl (lv_at hl 2 rfl) ?_
          refine lv_iconst (v := 1) hx hb dL_canTell_135 (by decide) ?_
          refine va_iald hx hb hK hP 0 0 rfl rfl (vp_in_nI (n := 1) (by omega) (by omega)) dL_canTell_136 ?_
          refine tI (v := g 1) (congrArg g (nI_clamp (n := 1) (by omega))) ?_
          refine tI (v := nI a) g1 ?_
          refine va_iald hx hb hK hP 1 0 rfl rfl (vp_in_nI (n := a) (by omega) (by omega)) dL_canTell_137 ?_
          refine tI (v := kf a) (congrArg kf (nI_clamp (n := a) (by omega))) ?_
          refine tI (v := T 0 a) (hkf a ha6) ?_
          refine lv_iload_n hx hb dL_canTell_138 rfl (lv_at hl 0 rfl) ?_
          refine lv_icmp_ne (tgt := 146) hx hb dL_canTell_139 (by decide) (fun c_139 => ?_) (fun c_139 => ?_)
          · skip
            refine lv_iconst (v := 0) hx hb dL_canTell_146 (by decide) ?_
            have hP := hP.sub (ws' := [(kd, .inl (cI, 6, .inl kf)), (rw, .inl (cI, 6, .inl g))]) [1, 0] rfl
            have hD := hD.sub (ws' := [(kd, .inl (cI, 6, .inl kf)), (rw, .inl (cI, 6, .inl g))]) [1, 0] (by decide) rfl
            exact ke_i hx hb hr (by first | rfl | decide | exact bz_nar _) false (⟨rfl, fun h => absurd h (by decide)⟩) hP hD hS (Nat.le_of_ble_eq_true rfl) (Nat.le_of_ble_eq_true rfl) hlocks dL_canTell_147
          · skip
            refine lv_iconst (v := 1) hx hb dL_canTell_142 (by decide) ?_
            refine lv_goto (tgt := 147) hx hb dL_canTell_143 (by decide) ?_
            have hP := hP.sub (ws' := [(kd, .inl (cI, 6, .inl kf)), (rw, .inl (cI, 6, .inl g))]) [1, 0] rfl
            have hD := hD.sub (ws' := [(kd, .inl (cI, 6, .inl kf)), (rw, .inl (cI, 6, .inl g))]) [1, 0] (by decide) rfl
            exact ke_i hx hb hr (by first | rfl | decide | exact bz_nar _) true (⟨rfl, fun _ => (by refine ⟨fun h => absurd h (by decide), fun _ => ?_, fun h => absurd h (by decide), fun h => absurd h (by decide), fun h => absurd h (by decide), fun h => absurd h (by decide)⟩; first | exact Or.inl ⟨c_114, c_105⟩ | exact Or.inr ⟨c_121, c_130, c_139⟩)⟩) hP hD hS (Nat.le_of_ble_eq_true rfl) (Nat.le_of_ble_eq_true rfl) hlocks dL_canTell_147
    · skip
      have c_105 : (iFd T b q) = true := bz_t c_105
      refine lv_aload_n hx hb dL_canTell_108 rfl (lv_at hl 1 rfl) ?_
      refine lv_aload_n hx hb dL_canTell_109 rfl (lv_at hl 2 rfl) ?_
      refine lv_iconst (v := 1) hx hb dL_canTell_110 (by decide) ?_
      refine va_iald hx hb hK hP 0 0 rfl rfl (vp_in_nI (n := 1) (by omega) (by omega)) dL_canTell_111 ?_
      refine tI (v := g 1) (congrArg g (nI_clamp (n := 1) (by omega))) ?_
      refine tI (v := nI a) g1 ?_
      refine va_iald hx hb hK hP 1 0 rfl rfl (vp_in_nI (n := a) (by omega) (by omega)) dL_canTell_112 ?_
      refine tI (v := kf a) (congrArg kf (nI_clamp (n := a) (by omega))) ?_
      refine tI (v := T 0 a) (hkf a ha6) ?_
      refine lv_iconst (v := 1) hx hb dL_canTell_113 (by decide) ?_
      refine lv_icmp_eq (tgt := 142) hx hb dL_canTell_114 (by decide) (fun c_114 => ?_) (fun c_114 => ?_)
      · skip
        refine lv_iconst (v := 1) hx hb dL_canTell_142 (by decide) ?_
        refine lv_goto (tgt := 147) hx hb dL_canTell_143 (by decide) ?_
        have hP := hP.sub (ws' := [(kd, .inl (cI, 6, .inl kf)), (rw, .inl (cI, 6, .inl g))]) [1, 0] rfl
        have hD := hD.sub (ws' := [(kd, .inl (cI, 6, .inl kf)), (rw, .inl (cI, 6, .inl g))]) [1, 0] (by decide) rfl
        exact ke_i hx hb hr (by first | rfl | decide | exact bz_nar _) true (⟨rfl, fun _ => (by refine ⟨fun h => absurd h (by decide), fun _ => ?_, fun h => absurd h (by decide), fun h => absurd h (by decide), fun h => absurd h (by decide), fun h => absurd h (by decide)⟩; first | exact Or.inl ⟨c_114, c_105⟩ | exact Or.inr ⟨c_121, c_130, c_139⟩)⟩) hP hD hS (Nat.le_of_ble_eq_true rfl) (Nat.le_of_ble_eq_true rfl) hlocks dL_canTell_147
      · skip
        refine lv_aload_n hx hb dL_canTell_117 rfl (lv_at hl 2 rfl) ?_
        refine lv_iconst (v := 3) hx hb dL_canTell_118 (by decide) ?_
        refine va_iald hx hb hK hP 0 0 rfl rfl (vp_in_nI (n := 3) (by omega) (by omega)) dL_canTell_119 ?_
        refine tI (v := g 3) (congrArg g (nI_clamp (n := 3) (by omega))) ?_
        refine tI (v := q) g3 ?_
        refine lv_iconst (v := (-1)) hx hb dL_canTell_120 (by decide) ?_
        refine lv_icmp_ne (tgt := 146) hx hb dL_canTell_121 (by decide) (fun c_121 => ?_) (fun c_121 => ?_)
        · skip
          refine lv_iconst (v := 0) hx hb dL_canTell_146 (by decide) ?_
          have hP := hP.sub (ws' := [(kd, .inl (cI, 6, .inl kf)), (rw, .inl (cI, 6, .inl g))]) [1, 0] rfl
          have hD := hD.sub (ws' := [(kd, .inl (cI, 6, .inl kf)), (rw, .inl (cI, 6, .inl g))]) [1, 0] (by decide) rfl
          exact ke_i hx hb hr (by first | rfl | decide | exact bz_nar _) false (⟨rfl, fun h => absurd h (by decide)⟩) hP hD hS (Nat.le_of_ble_eq_true rfl) (Nat.le_of_ble_eq_true rfl) hlocks dL_canTell_147
        · skip
          refine lv_aload_n hx hb dL_canTell_124 rfl (lv_at hl 2 rfl) ?_
          refine lv_iconst (v := 1) hx hb dL_canTell_125 (by decide) ?_
          refine va_iald hx hb hK hP 0 0 rfl rfl (vp_in_nI (n := 1) (by omega) (by omega)) dL_canTell_126 ?_
          refine tI (v := g 1) (congrArg g (nI_clamp (n := 1) (by omega))) ?_
          refine tI (v := nI a) g1 ?_
          refine lv_aload_n hx hb dL_canTell_127 rfl (lv_at hl 2 rfl) ?_
          refine lv_iconst (v := 2) hx hb dL_canTell_128 (by decide) ?_
          refine va_iald hx hb hK hP 0 0 rfl rfl (vp_in_nI (n := 2) (by omega) (by omega)) dL_canTell_129 ?_
          refine tI (v := g 2) (congrArg g (nI_clamp (n := 2) (by omega))) ?_
          refine tI (v := nI b) g2 ?_
          refine lv_icmp_eq (tgt := 146) hx hb dL_canTell_130 (by decide) (fun c_130 => ?_) (fun c_130 => ?_)
          · skip
            have c_130 : a = b := (nI_eq (a := a) (b := b) (by omega) (by omega)).mp c_130
            refine lv_iconst (v := 0) hx hb dL_canTell_146 (by decide) ?_
            have hP := hP.sub (ws' := [(kd, .inl (cI, 6, .inl kf)), (rw, .inl (cI, 6, .inl g))]) [1, 0] rfl
            have hD := hD.sub (ws' := [(kd, .inl (cI, 6, .inl kf)), (rw, .inl (cI, 6, .inl g))]) [1, 0] (by decide) rfl
            exact ke_i hx hb hr (by first | rfl | decide | exact bz_nar _) false (⟨rfl, fun h => absurd h (by decide)⟩) hP hD hS (Nat.le_of_ble_eq_true rfl) (Nat.le_of_ble_eq_true rfl) hlocks dL_canTell_147
          · skip
            have c_130 : ¬ a = b := (fun h9 => c_130 ((nI_eq (a := a) (b := b) (by omega) (by omega)).mpr h9))
            refine lv_aload_n hx hb dL_canTell_133 rfl (lv_at hl 1 rfl) ?_
            refine lv_aload_n hx hb dL_canTell_134 rfl (lv_at hl 2 rfl) ?_
            refine lv_iconst (v := 1) hx hb dL_canTell_135 (by decide) ?_
            refine va_iald hx hb hK hP 0 0 rfl rfl (vp_in_nI (n := 1) (by omega) (by omega)) dL_canTell_136 ?_
            refine tI (v := g 1) (congrArg g (nI_clamp (n := 1) (by omega))) ?_
            refine tI (v := nI a) g1 ?_
            refine va_iald hx hb hK hP 1 0 rfl rfl (vp_in_nI (n := a) (by omega) (by omega)) dL_canTell_137 ?_
            refine tI (v := kf a) (congrArg kf (nI_clamp (n := a) (by omega))) ?_
            refine tI (v := T 0 a) (hkf a ha6) ?_
            refine lv_iload_n hx hb dL_canTell_138 rfl (lv_at hl 0 rfl) ?_
            refine lv_icmp_ne (tgt := 146) hx hb dL_canTell_139 (by decide) (fun c_139 => ?_) (fun c_139 => ?_)
            · skip
              refine lv_iconst (v := 0) hx hb dL_canTell_146 (by decide) ?_
              have hP := hP.sub (ws' := [(kd, .inl (cI, 6, .inl kf)), (rw, .inl (cI, 6, .inl g))]) [1, 0] rfl
              have hD := hD.sub (ws' := [(kd, .inl (cI, 6, .inl kf)), (rw, .inl (cI, 6, .inl g))]) [1, 0] (by decide) rfl
              exact ke_i hx hb hr (by first | rfl | decide | exact bz_nar _) false (⟨rfl, fun h => absurd h (by decide)⟩) hP hD hS (Nat.le_of_ble_eq_true rfl) (Nat.le_of_ble_eq_true rfl) hlocks dL_canTell_147
            · skip
              refine lv_iconst (v := 1) hx hb dL_canTell_142 (by decide) ?_
              refine lv_goto (tgt := 147) hx hb dL_canTell_143 (by decide) ?_
              have hP := hP.sub (ws' := [(kd, .inl (cI, 6, .inl kf)), (rw, .inl (cI, 6, .inl g))]) [1, 0] rfl
              have hD := hD.sub (ws' := [(kd, .inl (cI, 6, .inl kf)), (rw, .inl (cI, 6, .inl g))]) [1, 0] (by decide) rfl
              exact ke_i hx hb hr (by first | rfl | decide | exact bz_nar _) true (⟨rfl, fun _ => (by refine ⟨fun h => absurd h (by decide), fun _ => ?_, fun h => absurd h (by decide), fun h => absurd h (by decide), fun h => absurd h (by decide), fun h => absurd h (by decide)⟩; first | exact Or.inl ⟨c_114, c_105⟩ | exact Or.inr ⟨c_121, c_130, c_139⟩)⟩) hP hD hS (Nat.le_of_ble_eq_true rfl) (Nat.le_of_ble_eq_true rfl) hlocks dL_canTell_147
  · skip
    refine lv_tableIn (tgt := 148) (off := 139) hx hb dL_canTell_9 (by decide) (by decide) (by decide) (by decide) ?_
    refine lv_aload_n hx hb dL_canTell_148 rfl (lv_at hl 1 rfl) ?_
    refine lv_aload_n hx hb dL_canTell_149 rfl (lv_at hl 2 rfl) ?_
    refine lv_iconst (v := 1) hx hb dL_canTell_150 (by decide) ?_
    refine va_iald hx hb hK hP 1 0 rfl rfl (vp_in_nI (n := 1) (by omega) (by omega)) dL_canTell_151 ?_
    refine tI (v := g 1) (congrArg g (nI_clamp (n := 1) (by omega))) ?_
    refine tI (v := nI a) g1 ?_
    refine va_iald hx hb hK hP 0 0 rfl rfl (vp_in_nI (n := a) (by omega) (by omega)) dL_canTell_152 ?_
    refine tI (v := kf a) (congrArg kf (nI_clamp (n := a) (by omega))) ?_
    refine tI (v := T 0 a) (hkf a ha6) ?_
    refine lv_iconst (v := 1) hx hb dL_canTell_153 (by decide) ?_
    refine lv_icmp_le (tgt := 186) hx hb dL_canTell_154 (by decide) (fun c_154 => ?_) (fun c_154 => ?_)
    · skip
      refine lv_iconst (v := 0) hx hb dL_canTell_186 (by decide) ?_
      exact ke_i hx hb hr (by first | rfl | decide | exact bz_nar _) false (⟨rfl, fun h => absurd h (by decide)⟩) hP hD hS (Nat.le_of_ble_eq_true rfl) (Nat.le_of_ble_eq_true rfl) hlocks dL_canTell_187
    · skip
      refine lv_iload_n hx hb dL_canTell_157 rfl (lv_at hl 0 rfl) ?_
      refine lv_iconst (v := 2) hx hb dL_canTell_158 (by decide) ?_
      refine lv_icmp_ge (tgt := 186) hx hb dL_canTell_159 (by decide) (fun c_159 => ?_) (fun c_159 => ?_)
      · skip
        refine lv_iconst (v := 0) hx hb dL_canTell_186 (by decide) ?_
        exact ke_i hx hb hr (by first | rfl | decide | exact bz_nar _) false (⟨rfl, fun h => absurd h (by decide)⟩) hP hD hS (Nat.le_of_ble_eq_true rfl) (Nat.le_of_ble_eq_true rfl) hlocks dL_canTell_187
      · skip
        refine lv_aload_n hx hb dL_canTell_162 rfl (lv_at hl 2 rfl) ?_
        refine lv_iconst (v := 3) hx hb dL_canTell_163 (by decide) ?_
        refine va_iald hx hb hK hP 1 0 rfl rfl (vp_in_nI (n := 3) (by omega) (by omega)) dL_canTell_164 ?_
        refine tI (v := g 3) (congrArg g (nI_clamp (n := 3) (by omega))) ?_
        refine tI (v := q) g3 ?_
        refine lv_iconst (v := (-1)) hx hb dL_canTell_165 (by decide) ?_
        refine lv_icmp_eq (tgt := 182) hx hb dL_canTell_166 (by decide) (fun c_166 => ?_) (fun c_166 => ?_)
        · skip
          refine lv_iconst (v := 1) hx hb dL_canTell_182 (by decide) ?_
          refine lv_goto (tgt := 187) hx hb dL_canTell_183 (by decide) ?_
          exact ke_i hx hb hr (by first | rfl | decide | exact bz_nar _) true (⟨rfl, fun _ => (by refine ⟨fun h => absurd h (by decide), fun h => absurd h (by decide), fun _ => ?_, fun h => absurd h (by decide), fun h => absurd h (by decide), fun h => absurd h (by decide)⟩; first | exact ⟨iL_gt hT ha6 c_154, Or.inl ⟨c_166, iL_nlt (Int32.not_le.mp c_159)⟩⟩ | exact ⟨iL_gt hT ha6 c_154, Or.inr c_179⟩)⟩) hP hD hS (Nat.le_of_ble_eq_true rfl) (Nat.le_of_ble_eq_true rfl) hlocks dL_canTell_187
        · skip
          refine lv_aload_n hx hb dL_canTell_169 rfl (lv_at hl 1 rfl) ?_
          refine lv_aload_n hx hb dL_canTell_170 rfl (lv_at hl 2 rfl) ?_
          refine lv_iconst (v := 2) hx hb dL_canTell_171 (by decide) ?_
          refine va_iald hx hb hK hP 1 0 rfl rfl (vp_in_nI (n := 2) (by omega) (by omega)) dL_canTell_172 ?_
          refine tI (v := g 2) (congrArg g (nI_clamp (n := 2) (by omega))) ?_
          refine tI (v := nI b) g2 ?_
          refine lv_aload_n hx hb dL_canTell_173 rfl (lv_at hl 2 rfl) ?_
          refine lv_iconst (v := 3) hx hb dL_canTell_174 (by decide) ?_
          refine va_iald hx hb hK hP 1 0 rfl rfl (vp_in_nI (n := 3) (by omega) (by omega)) dL_canTell_175 ?_
          refine tI (v := g 3) (congrArg g (nI_clamp (n := 3) (by omega))) ?_
          refine tI (v := q) g3 ?_
          refine kc_i (wr := [(rw, .inl (cI, 6, .inl g))]) (va_runS (As := [.ref kd, .int (nI b), .int q]) (rest := []) ⟨hx, hb, hml, hown, hts⟩ (k_isFieldL l D cI cJ cZ cR kd kf b q T _ hb6 hkf) (cwS 3 hts (gS q_769 q_767 q_768 q_63) rfl rfl rfl (by decide +kernel) ⟨Nat.le_of_ble_eq_true rfl, Nat.le_of_ble_eq_true rfl⟩) ⟨Pw.blind, Pw.mk_call hP hK hD hS hA hG [0] rfl (by decide)⟩ rfl rfl hl.1 rfl (lv_room (Nat.le_of_ble_eq_true rfl)) dL_canTell_176 ⟨Nat.le_of_ble_eq_true rfl, Nat.le_of_ble_eq_true rfl⟩) hP hD hS hA [0] [1] rfl rfl (by decide) (by decide) (fun r_7 u_8 H locs hw hP hD hS => ?_)
          obtain rfl : r_7 = bz (iFd T b q) := hw
          have hP : va_P D vwCl [(rw, .inl (cI, 6, .inl g)), (kd, .inl (cI, 6, .inl kf))] _ := hP
          have hD : va_D A [(rw, .inl (cI, 6, .inl g)), (kd, .inl (cI, 6, .inl kf))] := hD
          refine lv_if_eq (tgt := 186) hx hb dL_canTell_179 (by decide) (fun c_179 => ?_) (fun c_179 => ?_)
          · skip
            have c_179 : (iFd T b q) = false := bz_f c_179
            refine lv_iconst (v := 0) hx hb dL_canTell_186 (by decide) ?_
            have hP := hP.sub (ws' := [(kd, .inl (cI, 6, .inl kf)), (rw, .inl (cI, 6, .inl g))]) [1, 0] rfl
            have hD := hD.sub (ws' := [(kd, .inl (cI, 6, .inl kf)), (rw, .inl (cI, 6, .inl g))]) [1, 0] (by decide) rfl
            exact ke_i hx hb hr (by first | rfl | decide | exact bz_nar _) false (⟨rfl, fun h => absurd h (by decide)⟩) hP hD hS (Nat.le_of_ble_eq_true rfl) (Nat.le_of_ble_eq_true rfl) hlocks dL_canTell_187
          · skip
            have c_179 : (iFd T b q) = true := bz_t c_179
            refine lv_iconst (v := 1) hx hb dL_canTell_182 (by decide) ?_
            refine lv_goto (tgt := 187) hx hb dL_canTell_183 (by decide) ?_
            have hP := hP.sub (ws' := [(kd, .inl (cI, 6, .inl kf)), (rw, .inl (cI, 6, .inl g))]) [1, 0] rfl
            have hD := hD.sub (ws' := [(kd, .inl (cI, 6, .inl kf)), (rw, .inl (cI, 6, .inl g))]) [1, 0] (by decide) rfl
            exact ke_i hx hb hr (by first | rfl | decide | exact bz_nar _) true (⟨rfl, fun _ => (by refine ⟨fun h => absurd h (by decide), fun h => absurd h (by decide), fun _ => ?_, fun h => absurd h (by decide), fun h => absurd h (by decide), fun h => absurd h (by decide)⟩; first | exact ⟨iL_gt hT ha6 c_154, Or.inl ⟨c_166, iL_nlt (Int32.not_le.mp c_159)⟩⟩ | exact ⟨iL_gt hT ha6 c_154, Or.inr c_179⟩)⟩) hP hD hS (Nat.le_of_ble_eq_true rfl) (Nat.le_of_ble_eq_true rfl) hlocks dL_canTell_187
  · skip
    refine lv_tableIn (tgt := 188) (off := 179) hx hb dL_canTell_9 (by decide) (by decide) (by decide) (by decide) ?_
    refine lv_aload_n hx hb dL_canTell_188 rfl (lv_at hl 2 rfl) ?_
    refine lv_iconst (v := 1) hx hb dL_canTell_189 (by decide) ?_
    refine va_iald hx hb hK hP 1 0 rfl rfl (vp_in_nI (n := 1) (by omega) (by omega)) dL_canTell_190 ?_
    refine tI (v := g 1) (congrArg g (nI_clamp (n := 1) (by omega))) ?_
    refine tI (v := nI a) g1 ?_
    refine lv_aload_n hx hb dL_canTell_191 rfl (lv_at hl 2 rfl) ?_
    refine lv_iconst (v := 2) hx hb dL_canTell_192 (by decide) ?_
    refine va_iald hx hb hK hP 1 0 rfl rfl (vp_in_nI (n := 2) (by omega) (by omega)) dL_canTell_193 ?_
    refine tI (v := g 2) (congrArg g (nI_clamp (n := 2) (by omega))) ?_
    refine tI (v := nI b) g2 ?_
    refine lv_icmp_eq (tgt := 229) hx hb dL_canTell_194 (by decide) (fun c_194 => ?_) (fun c_194 => ?_)
    · skip
      have c_194 : a = b := (nI_eq (a := a) (b := b) (by omega) (by omega)).mp c_194
      refine lv_iconst (v := 0) hx hb dL_canTell_229 (by decide) ?_
      exact ke_i hx hb hr (by first | rfl | decide | exact bz_nar _) false (⟨rfl, fun h => absurd h (by decide)⟩) hP hD hS (Nat.le_of_ble_eq_true rfl) (Nat.le_of_ble_eq_true rfl) hlocks dL_canTell_230
    · skip
      have c_194 : ¬ a = b := (fun h9 => c_194 ((nI_eq (a := a) (b := b) (by omega) (by omega)).mpr h9))
      refine lv_aload_n hx hb dL_canTell_197 rfl (lv_at hl 1 rfl) ?_
      refine lv_aload_n hx hb dL_canTell_198 rfl (lv_at hl 2 rfl) ?_
      refine lv_iconst (v := 1) hx hb dL_canTell_199 (by decide) ?_
      refine va_iald hx hb hK hP 1 0 rfl rfl (vp_in_nI (n := 1) (by omega) (by omega)) dL_canTell_200 ?_
      refine tI (v := g 1) (congrArg g (nI_clamp (n := 1) (by omega))) ?_
      refine tI (v := nI a) g1 ?_
      refine va_iald hx hb hK hP 0 0 rfl rfl (vp_in_nI (n := a) (by omega) (by omega)) dL_canTell_201 ?_
      refine tI (v := kf a) (congrArg kf (nI_clamp (n := a) (by omega))) ?_
      refine tI (v := T 0 a) (hkf a ha6) ?_
      refine lv_iconst (v := 1) hx hb dL_canTell_202 (by decide) ?_
      refine lv_icmp_le (tgt := 229) hx hb dL_canTell_203 (by decide) (fun c_203 => ?_) (fun c_203 => ?_)
      · skip
        refine lv_iconst (v := 0) hx hb dL_canTell_229 (by decide) ?_
        exact ke_i hx hb hr (by first | rfl | decide | exact bz_nar _) false (⟨rfl, fun h => absurd h (by decide)⟩) hP hD hS (Nat.le_of_ble_eq_true rfl) (Nat.le_of_ble_eq_true rfl) hlocks dL_canTell_230
      · skip
        refine lv_iload_n hx hb dL_canTell_206 rfl (lv_at hl 0 rfl) ?_
        refine lv_iconst (v := 1) hx hb dL_canTell_207 (by decide) ?_
        refine lv_icmp_le (tgt := 229) hx hb dL_canTell_208 (by decide) (fun c_208 => ?_) (fun c_208 => ?_)
        · skip
          refine lv_iconst (v := 0) hx hb dL_canTell_229 (by decide) ?_
          exact ke_i hx hb hr (by first | rfl | decide | exact bz_nar _) false (⟨rfl, fun h => absurd h (by decide)⟩) hP hD hS (Nat.le_of_ble_eq_true rfl) (Nat.le_of_ble_eq_true rfl) hlocks dL_canTell_230
        · skip
          refine lv_aload_n hx hb dL_canTell_211 rfl (lv_at hl 1 rfl) ?_
          refine lv_aload_n hx hb dL_canTell_212 rfl (lv_at hl 2 rfl) ?_
          refine lv_iconst (v := 1) hx hb dL_canTell_213 (by decide) ?_
          refine va_iald hx hb hK hP 1 0 rfl rfl (vp_in_nI (n := 1) (by omega) (by omega)) dL_canTell_214 ?_
          refine tI (v := g 1) (congrArg g (nI_clamp (n := 1) (by omega))) ?_
          refine tI (v := nI a) g1 ?_
          refine va_iald hx hb hK hP 0 0 rfl rfl (vp_in_nI (n := a) (by omega) (by omega)) dL_canTell_215 ?_
          refine tI (v := kf a) (congrArg kf (nI_clamp (n := a) (by omega))) ?_
          refine tI (v := T 0 a) (hkf a ha6) ?_
          refine lv_iconst (v := 2) hx hb dL_canTell_216 (by decide) ?_
          refine lv_icmp_eq (tgt := 225) hx hb dL_canTell_217 (by decide) (fun c_217 => ?_) (fun c_217 => ?_)
          · skip
            refine lv_iconst (v := 1) hx hb dL_canTell_225 (by decide) ?_
            refine lv_goto (tgt := 230) hx hb dL_canTell_226 (by decide) ?_
            exact ke_i hx hb hr (by first | rfl | decide | exact bz_nar _) true (⟨rfl, fun _ => (by refine ⟨fun h => absurd h (by decide), fun h => absurd h (by decide), fun h => absurd h (by decide), fun _ => ?_, fun h => absurd h (by decide), fun h => absurd h (by decide)⟩; first | exact ⟨c_194, iL_gt hT ha6 c_203, iL_gt hT hb6 c_208, Or.inl c_217⟩ | exact ⟨c_194, iL_gt hT ha6 c_203, iL_gt hT hb6 c_208, Or.inr c_222⟩)⟩) hP hD hS (Nat.le_of_ble_eq_true rfl) (Nat.le_of_ble_eq_true rfl) hlocks dL_canTell_230
          · skip
            refine lv_iload_n hx hb dL_canTell_220 rfl (lv_at hl 0 rfl) ?_
            refine lv_iconst (v := 3) hx hb dL_canTell_221 (by decide) ?_
            refine lv_icmp_ne (tgt := 229) hx hb dL_canTell_222 (by decide) (fun c_222 => ?_) (fun c_222 => ?_)
            · skip
              refine lv_iconst (v := 0) hx hb dL_canTell_229 (by decide) ?_
              exact ke_i hx hb hr (by first | rfl | decide | exact bz_nar _) false (⟨rfl, fun h => absurd h (by decide)⟩) hP hD hS (Nat.le_of_ble_eq_true rfl) (Nat.le_of_ble_eq_true rfl) hlocks dL_canTell_230
            · skip
              refine lv_iconst (v := 1) hx hb dL_canTell_225 (by decide) ?_
              refine lv_goto (tgt := 230) hx hb dL_canTell_226 (by decide) ?_
              exact ke_i hx hb hr (by first | rfl | decide | exact bz_nar _) true (⟨rfl, fun _ => (by refine ⟨fun h => absurd h (by decide), fun h => absurd h (by decide), fun h => absurd h (by decide), fun _ => ?_, fun h => absurd h (by decide), fun h => absurd h (by decide)⟩; first | exact ⟨c_194, iL_gt hT ha6 c_203, iL_gt hT hb6 c_208, Or.inl c_217⟩ | exact ⟨c_194, iL_gt hT ha6 c_203, iL_gt hT hb6 c_208, Or.inr c_222⟩)⟩) hP hD hS (Nat.le_of_ble_eq_true rfl) (Nat.le_of_ble_eq_true rfl) hlocks dL_canTell_230
  · skip
    refine lv_tableIn (tgt := 231) (off := 222) hx hb dL_canTell_9 (by decide) (by decide) (by decide) (by decide) ?_
    refine lv_aload_n hx hb dL_canTell_231 rfl (lv_at hl 2 rfl) ?_
    refine lv_iconst (v := 3) hx hb dL_canTell_232 (by decide) ?_
    refine va_iald hx hb hK hP 1 0 rfl rfl (vp_in_nI (n := 3) (by omega) (by omega)) dL_canTell_233 ?_
    refine tI (v := g 3) (congrArg g (nI_clamp (n := 3) (by omega))) ?_
    refine tI (v := q) g3 ?_
    refine lv_iconst (v := (-1)) hx hb dL_canTell_234 (by decide) ?_
    refine lv_icmp_eq (tgt := 263) hx hb dL_canTell_235 (by decide) (fun c_235 => ?_) (fun c_235 => ?_)
    · skip
      refine lv_iconst (v := 1) hx hb dL_canTell_263 (by decide) ?_
      refine lv_goto (tgt := 268) hx hb dL_canTell_264 (by decide) ?_
      exact ke_i hx hb hr (by first | rfl | decide | exact bz_nar _) true (⟨rfl, fun _ => (by refine ⟨fun h => absurd h (by decide), fun h => absurd h (by decide), fun h => absurd h (by decide), fun h => absurd h (by decide), fun _ => ?_, fun h => absurd h (by decide)⟩; first | exact Or.inl c_235 | exact Or.inr (Or.inl c_248) | exact Or.inr (Or.inr ⟨c_255, iL_gt hT hb6 c_260⟩))⟩) hP hD hS (Nat.le_of_ble_eq_true rfl) (Nat.le_of_ble_eq_true rfl) hlocks dL_canTell_268
    · skip
      refine lv_aload_n hx hb dL_canTell_238 rfl (lv_at hl 1 rfl) ?_
      refine lv_aload_n hx hb dL_canTell_239 rfl (lv_at hl 2 rfl) ?_
      refine lv_iconst (v := 2) hx hb dL_canTell_240 (by decide) ?_
      refine va_iald hx hb hK hP 1 0 rfl rfl (vp_in_nI (n := 2) (by omega) (by omega)) dL_canTell_241 ?_
      refine tI (v := g 2) (congrArg g (nI_clamp (n := 2) (by omega))) ?_
      refine tI (v := nI b) g2 ?_
      refine lv_aload_n hx hb dL_canTell_242 rfl (lv_at hl 2 rfl) ?_
      refine lv_iconst (v := 3) hx hb dL_canTell_243 (by decide) ?_
      refine va_iald hx hb hK hP 1 0 rfl rfl (vp_in_nI (n := 3) (by omega) (by omega)) dL_canTell_244 ?_
      refine tI (v := g 3) (congrArg g (nI_clamp (n := 3) (by omega))) ?_
      refine tI (v := q) g3 ?_
      refine kc_i (wr := [(rw, .inl (cI, 6, .inl g))]) (va_runS (As := [.ref kd, .int (nI b), .int q]) (rest := []) ⟨hx, hb, hml, hown, hts⟩ (k_isFieldL l D cI cJ cZ cR kd kf b q T _ hb6 hkf) (cwS 3 hts (gS q_769 q_767 q_768 q_63) rfl rfl rfl (by decide +kernel) ⟨Nat.le_of_ble_eq_true rfl, Nat.le_of_ble_eq_true rfl⟩) ⟨Pw.blind, Pw.mk_call hP hK hD hS hA hG [0] rfl (by decide)⟩ rfl rfl hl.1 rfl (lv_room (Nat.le_of_ble_eq_true rfl)) dL_canTell_245 ⟨Nat.le_of_ble_eq_true rfl, Nat.le_of_ble_eq_true rfl⟩) hP hD hS hA [0] [1] rfl rfl (by decide) (by decide) (fun r_9 u_10 H locs hw hP hD hS => ?_)
      obtain rfl : r_9 = bz (iFd T b q) := hw
      have hP : va_P D vwCl [(rw, .inl (cI, 6, .inl g)), (kd, .inl (cI, 6, .inl kf))] _ := hP
      have hD : va_D A [(rw, .inl (cI, 6, .inl g)), (kd, .inl (cI, 6, .inl kf))] := hD
      refine lv_if_ne (tgt := 263) hx hb dL_canTell_248 (by decide) (fun c_248 => ?_) (fun c_248 => ?_)
      · skip
        have c_248 : (iFd T b q) = true := bz_t c_248
        refine lv_iconst (v := 1) hx hb dL_canTell_263 (by decide) ?_
        refine lv_goto (tgt := 268) hx hb dL_canTell_264 (by decide) ?_
        have hP := hP.sub (ws' := [(kd, .inl (cI, 6, .inl kf)), (rw, .inl (cI, 6, .inl g))]) [1, 0] rfl
        have hD := hD.sub (ws' := [(kd, .inl (cI, 6, .inl kf)), (rw, .inl (cI, 6, .inl g))]) [1, 0] (by decide) rfl
        exact ke_i hx hb hr (by first | rfl | decide | exact bz_nar _) true (⟨rfl, fun _ => (by refine ⟨fun h => absurd h (by decide), fun h => absurd h (by decide), fun h => absurd h (by decide), fun h => absurd h (by decide), fun _ => ?_, fun h => absurd h (by decide)⟩; first | exact Or.inl c_235 | exact Or.inr (Or.inl c_248) | exact Or.inr (Or.inr ⟨c_255, iL_gt hT hb6 c_260⟩))⟩) hP hD hS (Nat.le_of_ble_eq_true rfl) (Nat.le_of_ble_eq_true rfl) hlocks dL_canTell_268
      · skip
        have c_248 : (iFd T b q) = false := bz_f c_248
        refine lv_aload_n hx hb dL_canTell_251 rfl (lv_at hl 2 rfl) ?_
        refine lv_iconst (v := 3) hx hb dL_canTell_252 (by decide) ?_
        refine va_iald hx hb hK hP 0 0 rfl rfl (vp_in_nI (n := 3) (by omega) (by omega)) dL_canTell_253 ?_
        refine tI (v := g 3) (congrArg g (nI_clamp (n := 3) (by omega))) ?_
        refine tI (v := q) g3 ?_
        refine lv_iconst (v := 3) hx hb dL_canTell_254 (by decide) ?_
        refine lv_icmp_ne (tgt := 267) hx hb dL_canTell_255 (by decide) (fun c_255 => ?_) (fun c_255 => ?_)
        · skip
          refine lv_iconst (v := 0) hx hb dL_canTell_267 (by decide) ?_
          have hP := hP.sub (ws' := [(kd, .inl (cI, 6, .inl kf)), (rw, .inl (cI, 6, .inl g))]) [1, 0] rfl
          have hD := hD.sub (ws' := [(kd, .inl (cI, 6, .inl kf)), (rw, .inl (cI, 6, .inl g))]) [1, 0] (by decide) rfl
          exact ke_i hx hb hr (by first | rfl | decide | exact bz_nar _) false (⟨rfl, fun h => absurd h (by decide)⟩) hP hD hS (Nat.le_of_ble_eq_true rfl) (Nat.le_of_ble_eq_true rfl) hlocks dL_canTell_268
        · skip
          refine lv_iload_n hx hb dL_canTell_258 rfl (lv_at hl 0 rfl) ?_
          refine lv_iconst (v := 1) hx hb dL_canTell_259 (by decide) ?_
          refine lv_icmp_le (tgt := 267) hx hb dL_canTell_260 (by decide) (fun c_260 => ?_) (fun c_260 => ?_)
          · skip
            refine lv_iconst (v := 0) hx hb dL_canTell_267 (by decide) ?_
            have hP := hP.sub (ws' := [(kd, .inl (cI, 6, .inl kf)), (rw, .inl (cI, 6, .inl g))]) [1, 0] rfl
            have hD := hD.sub (ws' := [(kd, .inl (cI, 6, .inl kf)), (rw, .inl (cI, 6, .inl g))]) [1, 0] (by decide) rfl
            exact ke_i hx hb hr (by first | rfl | decide | exact bz_nar _) false (⟨rfl, fun h => absurd h (by decide)⟩) hP hD hS (Nat.le_of_ble_eq_true rfl) (Nat.le_of_ble_eq_true rfl) hlocks dL_canTell_268
          · skip
            refine lv_iconst (v := 1) hx hb dL_canTell_263 (by decide) ?_
            refine lv_goto (tgt := 268) hx hb dL_canTell_264 (by decide) ?_
            have hP := hP.sub (ws' := [(kd, .inl (cI, 6, .inl kf)), (rw, .inl (cI, 6, .inl g))]) [1, 0] rfl
            have hD := hD.sub (ws' := [(kd, .inl (cI, 6, .inl kf)), (rw, .inl (cI, 6, .inl g))]) [1, 0] (by decide) rfl
            exact ke_i hx hb hr (by first | rfl | decide | exact bz_nar _) true (⟨rfl, fun _ => (by refine ⟨fun h => absurd h (by decide), fun h => absurd h (by decide), fun h => absurd h (by decide), fun h => absurd h (by decide), fun _ => ?_, fun h => absurd h (by decide)⟩; first | exact Or.inl c_235 | exact Or.inr (Or.inl c_248) | exact Or.inr (Or.inr ⟨c_255, iL_gt hT hb6 c_260⟩))⟩) hP hD hS (Nat.le_of_ble_eq_true rfl) (Nat.le_of_ble_eq_true rfl) hlocks dL_canTell_268
  · skip
    refine lv_tableIn (tgt := 298) (off := 289) hx hb dL_canTell_9 (by decide) (by decide) (by decide) (by decide) ?_
    refine lv_iconst (v := 1) hx hb dL_canTell_298 (by decide) ?_
    exact ke_i hx hb hr (by first | rfl | decide | exact bz_nar _) true (⟨rfl, fun _ => ⟨fun h => absurd h (by decide), fun h => absurd h (by decide), fun h => absurd h (by decide), fun h => absurd h (by decide), fun h => absurd h (by decide), fun h => absurd h (by decide)⟩⟩) hP hD hS (Nat.le_of_ble_eq_true rfl) (Nat.le_of_ble_eq_true rfl) hlocks dL_canTell_299
  · skip
    refine lv_tableIn (tgt := 269) (off := 260) hx hb dL_canTell_9 (by decide) (by decide) (by decide) (by decide) ?_
    refine lv_aload_n hx hb dL_canTell_269 rfl (lv_at hl 2 rfl) ?_
    refine lv_iconst (v := 3) hx hb dL_canTell_270 (by decide) ?_
    refine va_iald hx hb hK hP 1 0 rfl rfl (vp_in_nI (n := 3) (by omega) (by omega)) dL_canTell_271 ?_
    refine tI (v := g 3) (congrArg g (nI_clamp (n := 3) (by omega))) ?_
    refine tI (v := q) g3 ?_
    refine lv_if_lt (tgt := 292) hx hb dL_canTell_272 (by decide) (fun c_272 => ?_) (fun c_272 => ?_)
    · skip
      refine lv_iconst (v := 1) hx hb dL_canTell_292 (by decide) ?_
      refine lv_goto (tgt := 297) hx hb dL_canTell_293 (by decide) ?_
      exact ke_i hx hb hr (by first | rfl | decide | exact bz_nar _) true (⟨rfl, fun _ => (by refine ⟨fun h => absurd h (by decide), fun h => absurd h (by decide), fun h => absurd h (by decide), fun h => absurd h (by decide), fun h => absurd h (by decide), fun _ => ?_⟩; first | exact Or.inl (hq.resolve_right (fun ⟨p, hp, e⟩ => absurd c_272 (by rw [e]; exact nI_pos (by omega)))) | exact (hq.imp_right (fun ⟨p, hp, e⟩ => ⟨p, by omega, e, fun h => c_289 (by rw [e, h])⟩)))⟩) hP hD hS (Nat.le_of_ble_eq_true rfl) (Nat.le_of_ble_eq_true rfl) hlocks dL_canTell_297
    · skip
      refine lv_aload_n hx hb dL_canTell_275 rfl (lv_at hl 2 rfl) ?_
      refine lv_iconst (v := 3) hx hb dL_canTell_276 (by decide) ?_
      refine va_iald hx hb hK hP 1 0 rfl rfl (vp_in_nI (n := 3) (by omega) (by omega)) dL_canTell_277 ?_
      refine tI (v := g 3) (congrArg g (nI_clamp (n := 3) (by omega))) ?_
      refine tI (v := q) g3 ?_
      refine lv_aload_n hx hb dL_canTell_278 rfl (lv_at hl 1 rfl) ?_
      refine va_alen (v := 6) hx hb hK hP 0 0 rfl rfl (show Int32.ofNat 6 = 6 by decide) dL_canTell_279 ?_
      refine lv_icmp_ge (tgt := 296) hx hb dL_canTell_280 (by decide) (fun c_280 => ?_) (fun c_280 => ?_)
      · skip
        refine lv_iconst (v := 0) hx hb dL_canTell_296 (by decide) ?_
        exact ke_i hx hb hr (by first | rfl | decide | exact bz_nar _) false (⟨rfl, fun h => absurd h (by decide)⟩) hP hD hS (Nat.le_of_ble_eq_true rfl) (Nat.le_of_ble_eq_true rfl) hlocks dL_canTell_297
      · skip
        refine lv_aload_n hx hb dL_canTell_283 rfl (lv_at hl 2 rfl) ?_
        refine lv_iconst (v := 3) hx hb dL_canTell_284 (by decide) ?_
        refine va_iald hx hb hK hP 1 0 rfl rfl (vp_in_nI (n := 3) (by omega) (by omega)) dL_canTell_285 ?_
        refine tI (v := g 3) (congrArg g (nI_clamp (n := 3) (by omega))) ?_
        refine tI (v := q) g3 ?_
        refine lv_aload_n hx hb dL_canTell_286 rfl (lv_at hl 2 rfl) ?_
        refine lv_iconst (v := 2) hx hb dL_canTell_287 (by decide) ?_
        refine va_iald hx hb hK hP 1 0 rfl rfl (vp_in_nI (n := 2) (by omega) (by omega)) dL_canTell_288 ?_
        refine tI (v := g 2) (congrArg g (nI_clamp (n := 2) (by omega))) ?_
        refine tI (v := nI b) g2 ?_
        refine lv_icmp_eq (tgt := 296) hx hb dL_canTell_289 (by decide) (fun c_289 => ?_) (fun c_289 => ?_)
        · skip
          refine lv_iconst (v := 0) hx hb dL_canTell_296 (by decide) ?_
          exact ke_i hx hb hr (by first | rfl | decide | exact bz_nar _) false (⟨rfl, fun h => absurd h (by decide)⟩) hP hD hS (Nat.le_of_ble_eq_true rfl) (Nat.le_of_ble_eq_true rfl) hlocks dL_canTell_297
        · skip
          refine lv_iconst (v := 1) hx hb dL_canTell_292 (by decide) ?_
          refine lv_goto (tgt := 297) hx hb dL_canTell_293 (by decide) ?_
          exact ke_i hx hb hr (by first | rfl | decide | exact bz_nar _) true (⟨rfl, fun _ => (by refine ⟨fun h => absurd h (by decide), fun h => absurd h (by decide), fun h => absurd h (by decide), fun h => absurd h (by decide), fun h => absurd h (by decide), fun _ => ?_⟩; first | exact Or.inl (hq.resolve_right (fun ⟨p, hp, e⟩ => absurd c_272 (by rw [e]; exact nI_pos (by omega)))) | exact (hq.imp_right (fun ⟨p, hp, e⟩ => ⟨p, by omega, e, fun h => c_289 (by rw [e, h])⟩)))⟩) hP hD hS (Nat.le_of_ble_eq_true rfl) (Nat.le_of_ble_eq_true rfl) hlocks dL_canTell_297
  · skip
    refine lv_tableOut (tgt := 298) hx hb dL_canTell_9 (by decide) (by decide) ?_
    refine lv_iconst (v := 1) hx hb dL_canTell_298 (by decide) ?_
    exact ke_i hx hb hr (by first | rfl | decide | exact bz_nar _) true (⟨rfl, fun _ => ⟨fun h => absurd h (by decide), fun h => absurd h (by decide), fun h => absurd h (by decide), fun h => absurd h (by decide), fun h => absurd h (by decide), fun h => absurd h (by decide)⟩⟩) hP hD hS (Nat.le_of_ble_eq_true rfl) (Nat.le_of_ble_eq_true rfl) hlocks dL_canTell_299
  · skip
    refine lv_tableOut (tgt := 298) hx hb dL_canTell_9 (by decide) (by decide) ?_
    refine lv_iconst (v := 1) hx hb dL_canTell_298 (by decide) ?_
    exact ke_i hx hb hr (by first | rfl | decide | exact bz_nar _) true (⟨rfl, fun _ => ⟨fun h => absurd h (by decide), fun h => absurd h (by decide), fun h => absurd h (by decide), fun h => absurd h (by decide), fun h => absurd h (by decide), fun h => absurd h (by decide)⟩⟩) hP hD hS (Nat.le_of_ble_eq_true rfl) (Nat.le_of_ble_eq_true rfl) hlocks dL_canTell_299
  · skip
    refine lv_tableOut (tgt := 298) hx hb dL_canTell_9 (by decide) (by decide) ?_
    refine lv_iconst (v := 1) hx hb dL_canTell_298 (by decide) ?_
    exact ke_i hx hb hr (by first | rfl | decide | exact bz_nar _) true (⟨rfl, fun _ => ⟨fun h => absurd h (by decide), fun h => absurd h (by decide), fun h => absurd h (by decide), fun h => absurd h (by decide), fun h => absurd h (by decide), fun h => absurd h (by decide)⟩⟩) hP hD hS (Nat.le_of_ble_eq_true rfl) (Nat.le_of_ble_eq_true rfl) hlocks dL_canTell_299

set_option maxHeartbeats 4000000 in
set_option maxRecDepth 100000 in
theorem k_tell (l : Launch) (D : va_G) (cI cJ cZ cR : ClassId) (ad : Nat → Nat) (po : Int64) (oc : Int64) (n : Nat) (T : Nat → Nat → Int32) (ob : Nat) (cd : Nat → Nat) (dd : Nat → Nat) (ch : Int32) (rw : Nat) (g : Nat → Int32) (c9 : Nat) (a : Nat) (b : Nat) (q : Int32) (tt : Nat) (tg : Nat) (sz : Nat) (hT : TI T n) (hn : n < 40) (hc : c9 < 10) (ha6 : a < 6) (hb6 : b < 6) (g0 : g 0 = nI c9) (g1 : g 1 = nI a) (g2 : g 2 = nI b) (g3 : g 3 = q) (g4 : g 4 = nI tt) (htt : tt < 4) (g5 : g 5 = nI tg) (htg : tg ≤ 40) (hok : okR T c9 a b q) : Met l yL_tell (wx (.code yL_tell cL_tell 2 (some .int))) ({ frames := 3, cells := 0, slots := 0, locals := 74 }) (va_Pc [.ref ob, .ref rw] (Pw D vwCl [(cI, .int), (cJ, .long), (cZ, .boolean), (cR, .array .int)] [(ob, .inr (5, [.ref (ad 1), .ref (cd 0), .ref (dd 0), .int ch])), (ad 1, .inr (3, [.ref (ad 10), .int 6, .long po, .long oc, .ref (ad 11), .ref (ad 12), .ref (ad 13), .ref (ad 14), .ref (ad 15), .int (nI n), .ref (ad 16), .ref (ad 17), .ref (ad 18)])), (ad 10, .inl (cI, 12, .inl (T 0))), (ad 11, .inl (cI, 40, .inl (T 1))), (ad 12, .inl (cI, 40, .inl (T 2))), (ad 13, .inl (cI, 40, .inl (T 3))), (ad 14, .inl (cI, 40, .inl (T 4))), (ad 15, .inl (cI, 40, .inl (T 5))), (ad 16, .inl (cI, 120, .inl (T 6))), (ad 17, .inl (cI, 120, .inl (T 7))), (ad 18, .inl (cI, 120, .inl (T 8))), (rw, .inl (cI, 6, .inl g))] sz)) (va_Qi (fun (r : Int32) (u : (Nat → Nat → Int32)) => r = nI n ∧ TI u (n + 1) ∧ u 0 = T 0) (Bw D vwCl (fun (u : (Nat → Nat → Int32)) => [(ob, .inr (5, [.ref (ad 1), .ref (cd 0), .ref (dd 0), .int 0])), (ad 1, .inr (3, [.ref (ad 10), .int 6, .long po, .long oc, .ref (ad 11), .ref (ad 12), .ref (ad 13), .ref (ad 14), .ref (ad 15), .int (nI (n + 1)), .ref (ad 16), .ref (ad 17), .ref (ad 18)])), (ad 10, .inl (cI, 12, .inl (u 0))), (ad 11, .inl (cI, 40, .inl (u 1))), (ad 12, .inl (cI, 40, .inl (u 2))), (ad 13, .inl (cI, 40, .inl (u 3))), (ad 14, .inl (cI, 40, .inl (u 4))), (ad 15, .inl (cI, 40, .inl (u 5))), (ad 16, .inl (cI, 120, .inl (u 6))), (ad 17, .inl (cI, 120, .inl (u 7))), (ad 18, .inl (cI, 120, .inl (u 8))), (rw, .inl (cI, 6, .inl g))]) (va_A [(ob, .inr (5, [.ref (ad 1), .ref (cd 0), .ref (dd 0), .int ch])), (ad 1, .inr (3, [.ref (ad 10), .int 6, .long po, .long oc, .ref (ad 11), .ref (ad 12), .ref (ad 13), .ref (ad 14), .ref (ad 15), .int (nI n), .ref (ad 16), .ref (ad 17), .ref (ad 18)])), (ad 10, .inl (cI, 12, .inl (T 0))), (ad 11, .inl (cI, 40, .inl (T 1))), (ad 12, .inl (cI, 40, .inl (T 2))), (ad 13, .inl (cI, 40, .inl (T 3))), (ad 14, .inl (cI, 40, .inl (T 4))), (ad 15, .inl (cI, 40, .inl (T 5))), (ad 16, .inl (cI, 120, .inl (T 6))), (ad 17, .inl (cI, 120, .inl (T 7))), (ad 18, .inl (cI, 120, .inl (T 8))), (rw, .inl (cI, 6, .inl g))] sz)) (va_A [(ob, .inr (5, [.ref (ad 1), .ref (cd 0), .ref (dd 0), .int ch])), (ad 1, .inr (3, [.ref (ad 10), .int 6, .long po, .long oc, .ref (ad 11), .ref (ad 12), .ref (ad 13), .ref (ad 14), .ref (ad 15), .int (nI n), .ref (ad 16), .ref (ad 17), .ref (ad 18)])), (ad 10, .inl (cI, 12, .inl (T 0))), (ad 11, .inl (cI, 40, .inl (T 1))), (ad 12, .inl (cI, 40, .inl (T 2))), (ad 13, .inl (cI, 40, .inl (T 3))), (ad 14, .inl (cI, 40, .inl (T 4))), (ad 15, .inl (cI, 40, .inl (T 5))), (ad 16, .inl (cI, 120, .inl (T 6))), (ad 17, .inl (cI, 120, .inl (T 7))), (ad 18, .inl (cI, 120, .inl (T 8))), (rw, .inl (cI, 6, .inl g))] sz)) 0 0 (va_A [(ob, .inr (5, [.ref (ad 1), .ref (cd 0), .ref (dd 0), .int ch])), (ad 1, .inr (3, [.ref (ad 10), .int 6, .long po, .long oc, .ref (ad 11), .ref (ad 12), .ref (ad 13), .ref (ad 14), .ref (ad 15), .int (nI n), .ref (ad 16), .ref (ad 17), .ref (ad 18)])), (ad 10, .inl (cI, 12, .inl (T 0))), (ad 11, .inl (cI, 40, .inl (T 1))), (ad 12, .inl (cI, 40, .inl (T 2))), (ad 13, .inl (cI, 40, .inl (T 3))), (ad 14, .inl (cI, 40, .inl (T 4))), (ad 15, .inl (cI, 40, .inl (T 5))), (ad 16, .inl (cI, 120, .inl (T 6))), (ad 17, .inl (cI, 120, .inl (T 7))), (ad 18, .inl (cI, 120, .inl (T 8))), (rw, .inl (cI, 6, .inl g))] sz) := by
  refine Met.ofW (cc := cL_tell) (maxL := 2) (ret := (some .int)) (by decide) rfl ?_
  intro p e s m args below meth c s₁ B hml hv9
  obtain ⟨rfl, hsz, hP, hK, hD0, hG⟩ := hv9
  have hx := B.exec
  have hb := B.bytes
  have hr := B.returns
  have hts := atoms_spec (ws := wx (.code yL_tell cL_tell 2 (some .int))) B.pre
  have hown : s.vm.findClass RL = some m.cls := findClass_of_methodNamed B.named
  have hlocks := B.notSynchronized
  subst hsz
  have hD := hD0.self (sz := s.heap.size)
  generalize hAe : va_A [(ob, .inr (5, [.ref (ad 1), .ref (cd 0), .ref (dd 0), .int ch])), (ad 1, .inr (3, [.ref (ad 10), .int 6, .long po, .long oc, .ref (ad 11), .ref (ad 12), .ref (ad 13), .ref (ad 14), .ref (ad 15), .int (nI n), .ref (ad 16), .ref (ad 17), .ref (ad 18)])), (ad 10, .inl (cI, 12, .inl (T 0))), (ad 11, .inl (cI, 40, .inl (T 1))), (ad 12, .inl (cI, 40, .inl (T 2))), (ad 13, .inl (cI, 40, .inl (T 3))), (ad 14, .inl (cI, 40, .inl (T 4))), (ad 15, .inl (cI, 40, .inl (T 5))), (ad 16, .inl (cI, 120, .inl (T 6))), (ad 17, .inl (cI, 120, .inl (T 7))), (ad 18, .inl (cI, 120, .inl (T 8))), (rw, .inl (cI, 6, .inl g))] s.heap.size = A at hD hG ⊢
  have hA : ∀ q : Nat, s.heap.size ≤ q → A q := fun q h => by rw [← hAe]; exact Or.inr h
  have hS : va_S A s.heap s.heap [] := va_S.rf
  have hP : va_P D vwCl [(ob, .inr (5, [.ref (ad 1), .ref (cd 0), .ref (dd 0), .int ch])), (ad 1, .inr (3, [.ref (ad 10), .int 6, .long po, .long oc, .ref (ad 11), .ref (ad 12), .ref (ad 13), .ref (ad 14), .ref (ad 15), .int (nI n), .ref (ad 16), .ref (ad 17), .ref (ad 18)])), (ad 10, .inl (cI, 12, .inl (T 0))), (ad 11, .inl (cI, 40, .inl (T 1))), (ad 12, .inl (cI, 40, .inl (T 2))), (ad 13, .inl (cI, 40, .inl (T 3))), (ad 14, .inl (cI, 40, .inl (T 4))), (ad 15, .inl (cI, 40, .inl (T 5))), (ad 16, .inl (cI, 120, .inl (T 6))), (ad 17, .inl (cI, 120, .inl (T 7))), (ad 18, .inl (cI, 120, .inl (T 8))), (rw, .inl (cI, 6, .inl g))] s.heap := hP
  have hl := lv_entry ([.ref ob, .ref rw]) (n := 2) (Nat.le_of_ble_eq_true rfl)
  rw [lg_entry_eq]
  generalize (lg_sl ([.ref ob, .ref rw]) ++ List.replicate (2 - (lg_sl ([.ref ob, .ref rw])).length) Slot.unset).toArray = ls at hl ⊢
  have hl : lv_has ls 2 [(0, .ref ob), (1, .ref rw)] := hl
  refine lv_aload_n hx hb dL_tell_0 rfl (lv_at hl 1 rfl) ?_
  refine lv_iconst (v := 0) hx hb dL_tell_1 (by decide) ?_
  refine va_iald hx hb hK hP 11 0 rfl rfl (vp_in_nI (n := 0) (by omega) (by omega)) dL_tell_2 ?_
  refine tI (v := g 0) (congrArg g (nI_clamp (n := 0) (by omega))) ?_
  refine tI (v := nI c9) g0 ?_
  rcases (show c9 = 0 ∨ c9 = 1 ∨ c9 = 2 ∨ c9 = 3 ∨ c9 = 4 ∨ c9 = 5 ∨ c9 = 6 ∨ c9 = 7 ∨ c9 = 8 ∨ c9 = 9 by omega) with rfl | rfl | rfl | rfl | rfl | rfl | rfl | rfl | rfl | rfl
  · skip
    refine lv_tableIn (tgt := 52) (off := 49) hx hb dL_tell_3 (by decide) (by decide) (by decide) (by decide) ?_
    rcases hok.1 rfl with ⟨rfl, h1⟩ | h1 | ⟨rfl, h1⟩
    · skip
      refine lv_aload_n hx hb dL_tell_52 rfl (lv_at hl 0 rfl) ?_
      refine lv_aload_n hx hb dL_tell_53 rfl (lv_at hl 1 rfl) ?_
      refine lv_iconst (v := 2) hx hb dL_tell_54 (by decide) ?_
      refine va_iald hx hb hK hP 11 0 rfl rfl (vp_in_nI (n := 2) (by omega) (by omega)) dL_tell_55 ?_
      refine tI (v := g 2) (congrArg g (nI_clamp (n := 2) (by omega))) ?_
      refine tI (v := nI b) g2 ?_
      refine lv_aload_n hx hb dL_tell_56 rfl (lv_at hl 1 rfl) ?_
      refine lv_iconst (v := 3) hx hb dL_tell_57 (by decide) ?_
      refine va_iald hx hb hK hP 11 0 rfl rfl (vp_in_nI (n := 3) (by omega) (by omega)) dL_tell_58 ?_
      refine tI (v := g 3) (congrArg g (nI_clamp (n := 3) (by omega))) ?_
      refine tI (v := (-1)) g3 ?_
      refine kc_i (wr := [(rw, .inl (cI, 6, .inl g))]) (va_runV (As := [.int (nI b), .int (-1)]) (rest := []) ⟨hx, hb, hml, hown, hts⟩ (k_writeW l D cI cJ cZ cR ad po oc n T ob cd dd ch b _ hT hn hb6 h1) (cwV 2 hts (gV q_776 q_773 q_774 q_775 q_64) rfl rfl rfl (by decide +kernel) ⟨Nat.le_of_ble_eq_true rfl, Nat.le_of_ble_eq_true rfl⟩) ⟨Pw.blind, va_recv hK hP (ci := 5) (q0 := 0) rfl rfl, Pw.mk_call hP hK hD hS hA hG [0, 1, 2, 3, 4, 5, 6, 7, 8, 9, 10] rfl (by decide)⟩ rfl rfl hl.1 rfl (lv_room (Nat.le_of_ble_eq_true rfl)) dL_tell_59 ⟨Nat.le_of_ble_eq_true rfl, Nat.le_of_ble_eq_true rfl⟩) hP hD hS hA [0, 1, 2, 3, 4, 5, 6, 7, 8, 9, 10] [11] rfl rfl (by decide) (by decide) (fun r_1 u_2 H locs hw hP hD hS => ?_)
      obtain ⟨T2_3, rfl⟩ : ∃ z, z = u_2 := ⟨_, rfl⟩
      obtain ⟨hw, hf_r_1⟩ := hw
      obtain rfl : r_1 = nI n := hw
      have hP : va_P D vwCl [(rw, .inl (cI, 6, .inl g)), (ob, .inr (5, [.ref (ad 1), .ref (cd 0), .ref (dd 0), .int 0])), (ad 1, .inr (3, [.ref (ad 10), .int 6, .long po, .long oc, .ref (ad 11), .ref (ad 12), .ref (ad 13), .ref (ad 14), .ref (ad 15), .int (nI (n + 1)), .ref (ad 16), .ref (ad 17), .ref (ad 18)])), (ad 10, .inl (cI, 12, .inl (T2_3 0))), (ad 11, .inl (cI, 40, .inl (T2_3 1))), (ad 12, .inl (cI, 40, .inl (T2_3 2))), (ad 13, .inl (cI, 40, .inl (T2_3 3))), (ad 14, .inl (cI, 40, .inl (T2_3 4))), (ad 15, .inl (cI, 40, .inl (T2_3 5))), (ad 16, .inl (cI, 120, .inl (T2_3 6))), (ad 17, .inl (cI, 120, .inl (T2_3 7))), (ad 18, .inl (cI, 120, .inl (T2_3 8)))] _ := hP
      have hD : va_D A [(rw, .inl (cI, 6, .inl g)), (ob, .inr (5, [.ref (ad 1), .ref (cd 0), .ref (dd 0), .int 0])), (ad 1, .inr (3, [.ref (ad 10), .int 6, .long po, .long oc, .ref (ad 11), .ref (ad 12), .ref (ad 13), .ref (ad 14), .ref (ad 15), .int (nI (n + 1)), .ref (ad 16), .ref (ad 17), .ref (ad 18)])), (ad 10, .inl (cI, 12, .inl (T2_3 0))), (ad 11, .inl (cI, 40, .inl (T2_3 1))), (ad 12, .inl (cI, 40, .inl (T2_3 2))), (ad 13, .inl (cI, 40, .inl (T2_3 3))), (ad 14, .inl (cI, 40, .inl (T2_3 4))), (ad 15, .inl (cI, 40, .inl (T2_3 5))), (ad 16, .inl (cI, 120, .inl (T2_3 6))), (ad 17, .inl (cI, 120, .inl (T2_3 7))), (ad 18, .inl (cI, 120, .inl (T2_3 8)))] := hD
      have hP := hP.sub (ws' := [(ob, .inr (5, [.ref (ad 1), .ref (cd 0), .ref (dd 0), .int 0])), (ad 1, .inr (3, [.ref (ad 10), .int 6, .long po, .long oc, .ref (ad 11), .ref (ad 12), .ref (ad 13), .ref (ad 14), .ref (ad 15), .int (nI (n + 1)), .ref (ad 16), .ref (ad 17), .ref (ad 18)])), (ad 10, .inl (cI, 12, .inl (T2_3 0))), (ad 11, .inl (cI, 40, .inl (T2_3 1))), (ad 12, .inl (cI, 40, .inl (T2_3 2))), (ad 13, .inl (cI, 40, .inl (T2_3 3))), (ad 14, .inl (cI, 40, .inl (T2_3 4))), (ad 15, .inl (cI, 40, .inl (T2_3 5))), (ad 16, .inl (cI, 120, .inl (T2_3 6))), (ad 17, .inl (cI, 120, .inl (T2_3 7))), (ad 18, .inl (cI, 120, .inl (T2_3 8))), (rw, .inl (cI, 6, .inl g))]) [1, 2, 3, 4, 5, 6, 7, 8, 9, 10, 11, 0] rfl
      have hD := hD.sub (ws' := [(ob, .inr (5, [.ref (ad 1), .ref (cd 0), .ref (dd 0), .int 0])), (ad 1, .inr (3, [.ref (ad 10), .int 6, .long po, .long oc, .ref (ad 11), .ref (ad 12), .ref (ad 13), .ref (ad 14), .ref (ad 15), .int (nI (n + 1)), .ref (ad 16), .ref (ad 17), .ref (ad 18)])), (ad 10, .inl (cI, 12, .inl (T2_3 0))), (ad 11, .inl (cI, 40, .inl (T2_3 1))), (ad 12, .inl (cI, 40, .inl (T2_3 2))), (ad 13, .inl (cI, 40, .inl (T2_3 3))), (ad 14, .inl (cI, 40, .inl (T2_3 4))), (ad 15, .inl (cI, 40, .inl (T2_3 5))), (ad 16, .inl (cI, 120, .inl (T2_3 6))), (ad 17, .inl (cI, 120, .inl (T2_3 7))), (ad 18, .inl (cI, 120, .inl (T2_3 8))), (rw, .inl (cI, 6, .inl g))]) [1, 2, 3, 4, 5, 6, 7, 8, 9, 10, 11, 0] (by decide) rfl
      exact ke_i hx hb hr (by first | rfl | decide | exact bz_nar _) T2_3 (⟨rfl, by assumption⟩) hP hD hS (Nat.le_of_ble_eq_true rfl) (Nat.le_of_ble_eq_true rfl) hlocks dL_tell_62
    · skip
      refine lv_aload_n hx hb dL_tell_52 rfl (lv_at hl 0 rfl) ?_
      refine lv_aload_n hx hb dL_tell_53 rfl (lv_at hl 1 rfl) ?_
      refine lv_iconst (v := 2) hx hb dL_tell_54 (by decide) ?_
      refine va_iald hx hb hK hP 11 0 rfl rfl (vp_in_nI (n := 2) (by omega) (by omega)) dL_tell_55 ?_
      refine tI (v := g 2) (congrArg g (nI_clamp (n := 2) (by omega))) ?_
      refine tI (v := nI b) g2 ?_
      refine lv_aload_n hx hb dL_tell_56 rfl (lv_at hl 1 rfl) ?_
      refine lv_iconst (v := 3) hx hb dL_tell_57 (by decide) ?_
      refine va_iald hx hb hK hP 11 0 rfl rfl (vp_in_nI (n := 3) (by omega) (by omega)) dL_tell_58 ?_
      refine tI (v := g 3) (congrArg g (nI_clamp (n := 3) (by omega))) ?_
      refine tI (v := q) g3 ?_
      refine kc_i (wr := [(rw, .inl (cI, 6, .inl g))]) (va_runV (As := [.int (nI b), .int q]) (rest := []) ⟨hx, hb, hml, hown, hts⟩ (k_writeF l D cI cJ cZ cR ad po oc n T ob cd dd ch b q _ hT hn hb6 h1) (cwV 2 hts (gV q_776 q_773 q_774 q_775 q_64) rfl rfl rfl (by decide +kernel) ⟨Nat.le_of_ble_eq_true rfl, Nat.le_of_ble_eq_true rfl⟩) ⟨Pw.blind, va_recv hK hP (ci := 5) (q0 := 0) rfl rfl, Pw.mk_call hP hK hD hS hA hG [0, 1, 2, 3, 4, 5, 6, 7, 8, 9, 10] rfl (by decide)⟩ rfl rfl hl.1 rfl (lv_room (Nat.le_of_ble_eq_true rfl)) dL_tell_59 ⟨Nat.le_of_ble_eq_true rfl, Nat.le_of_ble_eq_true rfl⟩) hP hD hS hA [0, 1, 2, 3, 4, 5, 6, 7, 8, 9, 10] [11] rfl rfl (by decide) (by decide) (fun r_4 u_5 H locs hw hP hD hS => ?_)
      obtain ⟨T2_6, rfl⟩ : ∃ z, z = u_5 := ⟨_, rfl⟩
      obtain ⟨hw, hf_r_4⟩ := hw
      obtain rfl : r_4 = nI n := hw
      have hP : va_P D vwCl [(rw, .inl (cI, 6, .inl g)), (ob, .inr (5, [.ref (ad 1), .ref (cd 0), .ref (dd 0), .int 0])), (ad 1, .inr (3, [.ref (ad 10), .int 6, .long po, .long oc, .ref (ad 11), .ref (ad 12), .ref (ad 13), .ref (ad 14), .ref (ad 15), .int (nI (n + 1)), .ref (ad 16), .ref (ad 17), .ref (ad 18)])), (ad 10, .inl (cI, 12, .inl (T2_6 0))), (ad 11, .inl (cI, 40, .inl (T2_6 1))), (ad 12, .inl (cI, 40, .inl (T2_6 2))), (ad 13, .inl (cI, 40, .inl (T2_6 3))), (ad 14, .inl (cI, 40, .inl (T2_6 4))), (ad 15, .inl (cI, 40, .inl (T2_6 5))), (ad 16, .inl (cI, 120, .inl (T2_6 6))), (ad 17, .inl (cI, 120, .inl (T2_6 7))), (ad 18, .inl (cI, 120, .inl (T2_6 8)))] _ := hP
      have hD : va_D A [(rw, .inl (cI, 6, .inl g)), (ob, .inr (5, [.ref (ad 1), .ref (cd 0), .ref (dd 0), .int 0])), (ad 1, .inr (3, [.ref (ad 10), .int 6, .long po, .long oc, .ref (ad 11), .ref (ad 12), .ref (ad 13), .ref (ad 14), .ref (ad 15), .int (nI (n + 1)), .ref (ad 16), .ref (ad 17), .ref (ad 18)])), (ad 10, .inl (cI, 12, .inl (T2_6 0))), (ad 11, .inl (cI, 40, .inl (T2_6 1))), (ad 12, .inl (cI, 40, .inl (T2_6 2))), (ad 13, .inl (cI, 40, .inl (T2_6 3))), (ad 14, .inl (cI, 40, .inl (T2_6 4))), (ad 15, .inl (cI, 40, .inl (T2_6 5))), (ad 16, .inl (cI, 120, .inl (T2_6 6))), (ad 17, .inl (cI, 120, .inl (T2_6 7))), (ad 18, .inl (cI, 120, .inl (T2_6 8)))] := hD
      have hP := hP.sub (ws' := [(ob, .inr (5, [.ref (ad 1), .ref (cd 0), .ref (dd 0), .int 0])), (ad 1, .inr (3, [.ref (ad 10), .int 6, .long po, .long oc, .ref (ad 11), .ref (ad 12), .ref (ad 13), .ref (ad 14), .ref (ad 15), .int (nI (n + 1)), .ref (ad 16), .ref (ad 17), .ref (ad 18)])), (ad 10, .inl (cI, 12, .inl (T2_6 0))), (ad 11, .inl (cI, 40, .inl (T2_6 1))), (ad 12, .inl (cI, 40, .inl (T2_6 2))), (ad 13, .inl (cI, 40, .inl (T2_6 3))), (ad 14, .inl (cI, 40, .inl (T2_6 4))), (ad 15, .inl (cI, 40, .inl (T2_6 5))), (ad 16, .inl (cI, 120, .inl (T2_6 6))), (ad 17, .inl (cI, 120, .inl (T2_6 7))), (ad 18, .inl (cI, 120, .inl (T2_6 8))), (rw, .inl (cI, 6, .inl g))]) [1, 2, 3, 4, 5, 6, 7, 8, 9, 10, 11, 0] rfl
      have hD := hD.sub (ws' := [(ob, .inr (5, [.ref (ad 1), .ref (cd 0), .ref (dd 0), .int 0])), (ad 1, .inr (3, [.ref (ad 10), .int 6, .long po, .long oc, .ref (ad 11), .ref (ad 12), .ref (ad 13), .ref (ad 14), .ref (ad 15), .int (nI (n + 1)), .ref (ad 16), .ref (ad 17), .ref (ad 18)])), (ad 10, .inl (cI, 12, .inl (T2_6 0))), (ad 11, .inl (cI, 40, .inl (T2_6 1))), (ad 12, .inl (cI, 40, .inl (T2_6 2))), (ad 13, .inl (cI, 40, .inl (T2_6 3))), (ad 14, .inl (cI, 40, .inl (T2_6 4))), (ad 15, .inl (cI, 40, .inl (T2_6 5))), (ad 16, .inl (cI, 120, .inl (T2_6 6))), (ad 17, .inl (cI, 120, .inl (T2_6 7))), (ad 18, .inl (cI, 120, .inl (T2_6 8))), (rw, .inl (cI, 6, .inl g))]) [1, 2, 3, 4, 5, 6, 7, 8, 9, 10, 11, 0] (by decide) rfl
      exact ke_i hx hb hr (by first | rfl | decide | exact bz_nar _) T2_6 (⟨rfl, by assumption⟩) hP hD hS (Nat.le_of_ble_eq_true rfl) (Nat.le_of_ble_eq_true rfl) hlocks dL_tell_62
    · skip
      refine lv_aload_n hx hb dL_tell_52 rfl (lv_at hl 0 rfl) ?_
      refine lv_aload_n hx hb dL_tell_53 rfl (lv_at hl 1 rfl) ?_
      refine lv_iconst (v := 2) hx hb dL_tell_54 (by decide) ?_
      refine va_iald hx hb hK hP 11 0 rfl rfl (vp_in_nI (n := 2) (by omega) (by omega)) dL_tell_55 ?_
      refine tI (v := g 2) (congrArg g (nI_clamp (n := 2) (by omega))) ?_
      refine tI (v := nI b) g2 ?_
      refine lv_aload_n hx hb dL_tell_56 rfl (lv_at hl 1 rfl) ?_
      refine lv_iconst (v := 3) hx hb dL_tell_57 (by decide) ?_
      refine va_iald hx hb hK hP 11 0 rfl rfl (vp_in_nI (n := 3) (by omega) (by omega)) dL_tell_58 ?_
      refine tI (v := g 3) (congrArg g (nI_clamp (n := 3) (by omega))) ?_
      refine tI (v := 3) g3 ?_
      refine kc_i (wr := [(rw, .inl (cI, 6, .inl g))]) (va_runV (As := [.int (nI b), .int 3]) (rest := []) ⟨hx, hb, hml, hown, hts⟩ (k_writeB l D cI cJ cZ cR ad po oc n T ob cd dd ch b _ hT hn hb6 h1) (cwV 2 hts (gV q_776 q_773 q_774 q_775 q_64) rfl rfl rfl (by decide +kernel) ⟨Nat.le_of_ble_eq_true rfl, Nat.le_of_ble_eq_true rfl⟩) ⟨Pw.blind, va_recv hK hP (ci := 5) (q0 := 0) rfl rfl, Pw.mk_call hP hK hD hS hA hG [0, 1, 2, 3, 4, 5, 6, 7, 8, 9, 10] rfl (by decide)⟩ rfl rfl hl.1 rfl (lv_room (Nat.le_of_ble_eq_true rfl)) dL_tell_59 ⟨Nat.le_of_ble_eq_true rfl, Nat.le_of_ble_eq_true rfl⟩) hP hD hS hA [0, 1, 2, 3, 4, 5, 6, 7, 8, 9, 10] [11] rfl rfl (by decide) (by decide) (fun r_7 u_8 H locs hw hP hD hS => ?_)
      obtain ⟨T2_9, rfl⟩ : ∃ z, z = u_8 := ⟨_, rfl⟩
      obtain ⟨hw, hf_r_7⟩ := hw
      obtain rfl : r_7 = nI n := hw
      have hP : va_P D vwCl [(rw, .inl (cI, 6, .inl g)), (ob, .inr (5, [.ref (ad 1), .ref (cd 0), .ref (dd 0), .int 0])), (ad 1, .inr (3, [.ref (ad 10), .int 6, .long po, .long oc, .ref (ad 11), .ref (ad 12), .ref (ad 13), .ref (ad 14), .ref (ad 15), .int (nI (n + 1)), .ref (ad 16), .ref (ad 17), .ref (ad 18)])), (ad 10, .inl (cI, 12, .inl (T2_9 0))), (ad 11, .inl (cI, 40, .inl (T2_9 1))), (ad 12, .inl (cI, 40, .inl (T2_9 2))), (ad 13, .inl (cI, 40, .inl (T2_9 3))), (ad 14, .inl (cI, 40, .inl (T2_9 4))), (ad 15, .inl (cI, 40, .inl (T2_9 5))), (ad 16, .inl (cI, 120, .inl (T2_9 6))), (ad 17, .inl (cI, 120, .inl (T2_9 7))), (ad 18, .inl (cI, 120, .inl (T2_9 8)))] _ := hP
      have hD : va_D A [(rw, .inl (cI, 6, .inl g)), (ob, .inr (5, [.ref (ad 1), .ref (cd 0), .ref (dd 0), .int 0])), (ad 1, .inr (3, [.ref (ad 10), .int 6, .long po, .long oc, .ref (ad 11), .ref (ad 12), .ref (ad 13), .ref (ad 14), .ref (ad 15), .int (nI (n + 1)), .ref (ad 16), .ref (ad 17), .ref (ad 18)])), (ad 10, .inl (cI, 12, .inl (T2_9 0))), (ad 11, .inl (cI, 40, .inl (T2_9 1))), (ad 12, .inl (cI, 40, .inl (T2_9 2))), (ad 13, .inl (cI, 40, .inl (T2_9 3))), (ad 14, .inl (cI, 40, .inl (T2_9 4))), (ad 15, .inl (cI, 40, .inl (T2_9 5))), (ad 16, .inl (cI, 120, .inl (T2_9 6))), (ad 17, .inl (cI, 120, .inl (T2_9 7))), (ad 18, .inl (cI, 120, .inl (T2_9 8)))] := hD
      have hP := hP.sub (ws' := [(ob, .inr (5, [.ref (ad 1), .ref (cd 0), .ref (dd 0), .int 0])), (ad 1, .inr (3, [.ref (ad 10), .int 6, .long po, .long oc, .ref (ad 11), .ref (ad 12), .ref (ad 13), .ref (ad 14), .ref (ad 15), .int (nI (n + 1)), .ref (ad 16), .ref (ad 17), .ref (ad 18)])), (ad 10, .inl (cI, 12, .inl (T2_9 0))), (ad 11, .inl (cI, 40, .inl (T2_9 1))), (ad 12, .inl (cI, 40, .inl (T2_9 2))), (ad 13, .inl (cI, 40, .inl (T2_9 3))), (ad 14, .inl (cI, 40, .inl (T2_9 4))), (ad 15, .inl (cI, 40, .inl (T2_9 5))), (ad 16, .inl (cI, 120, .inl (T2_9 6))), (ad 17, .inl (cI, 120, .inl (T2_9 7))), (ad 18, .inl (cI, 120, .inl (T2_9 8))), (rw, .inl (cI, 6, .inl g))]) [1, 2, 3, 4, 5, 6, 7, 8, 9, 10, 11, 0] rfl
      have hD := hD.sub (ws' := [(ob, .inr (5, [.ref (ad 1), .ref (cd 0), .ref (dd 0), .int 0])), (ad 1, .inr (3, [.ref (ad 10), .int 6, .long po, .long oc, .ref (ad 11), .ref (ad 12), .ref (ad 13), .ref (ad 14), .ref (ad 15), .int (nI (n + 1)), .ref (ad 16), .ref (ad 17), .ref (ad 18)])), (ad 10, .inl (cI, 12, .inl (T2_9 0))), (ad 11, .inl (cI, 40, .inl (T2_9 1))), (ad 12, .inl (cI, 40, .inl (T2_9 2))), (ad 13, .inl (cI, 40, .inl (T2_9 3))), (ad 14, .inl (cI, 40, .inl (T2_9 4))), (ad 15, .inl (cI, 40, .inl (T2_9 5))), (ad 16, .inl (cI, 120, .inl (T2_9 6))), (ad 17, .inl (cI, 120, .inl (T2_9 7))), (ad 18, .inl (cI, 120, .inl (T2_9 8))), (rw, .inl (cI, 6, .inl g))]) [1, 2, 3, 4, 5, 6, 7, 8, 9, 10, 11, 0] (by decide) rfl
      exact ke_i hx hb hr (by first | rfl | decide | exact bz_nar _) T2_9 (⟨rfl, by assumption⟩) hP hD hS (Nat.le_of_ble_eq_true rfl) (Nat.le_of_ble_eq_true rfl) hlocks dL_tell_62
  · skip
    refine lv_tableIn (tgt := 63) (off := 60) hx hb dL_tell_3 (by decide) (by decide) (by decide) (by decide) ?_
    rcases hok.2.1 rfl with ⟨h0, h1⟩ | ⟨rfl, h0, h1⟩
    · skip
      refine lv_aload_n hx hb dL_tell_63 rfl (lv_at hl 0 rfl) ?_
      refine lv_aload_n hx hb dL_tell_64 rfl (lv_at hl 1 rfl) ?_
      refine lv_iconst (v := 1) hx hb dL_tell_65 (by decide) ?_
      refine va_iald hx hb hK hP 11 0 rfl rfl (vp_in_nI (n := 1) (by omega) (by omega)) dL_tell_66 ?_
      refine tI (v := g 1) (congrArg g (nI_clamp (n := 1) (by omega))) ?_
      refine tI (v := nI a) g1 ?_
      refine lv_aload_n hx hb dL_tell_67 rfl (lv_at hl 1 rfl) ?_
      refine lv_iconst (v := 2) hx hb dL_tell_68 (by decide) ?_
      refine va_iald hx hb hK hP 11 0 rfl rfl (vp_in_nI (n := 2) (by omega) (by omega)) dL_tell_69 ?_
      refine tI (v := g 2) (congrArg g (nI_clamp (n := 2) (by omega))) ?_
      refine tI (v := nI b) g2 ?_
      refine lv_aload_n hx hb dL_tell_70 rfl (lv_at hl 1 rfl) ?_
      refine lv_iconst (v := 3) hx hb dL_tell_71 (by decide) ?_
      refine va_iald hx hb hK hP 11 0 rfl rfl (vp_in_nI (n := 3) (by omega) (by omega)) dL_tell_72 ?_
      refine tI (v := g 3) (congrArg g (nI_clamp (n := 3) (by omega))) ?_
      refine tI (v := q) g3 ?_
      refine kc_i (wr := [(rw, .inl (cI, 6, .inl g))]) (va_runV (As := [.int (nI a), .int (nI b), .int q]) (rest := []) ⟨hx, hb, hml, hown, hts⟩ (k_moveF l D cI cJ cZ cR ad po oc n T ob cd dd ch a b q _ hT hn ha6 hb6 h0 h1) (cwV 3 hts (gV q_804 q_801 q_802 q_803 q_64) rfl rfl rfl (by decide +kernel) ⟨Nat.le_of_ble_eq_true rfl, Nat.le_of_ble_eq_true rfl⟩) ⟨Pw.blind, va_recv hK hP (ci := 5) (q0 := 0) rfl rfl, Pw.mk_call hP hK hD hS hA hG [0, 1, 2, 3, 4, 5, 6, 7, 8, 9, 10] rfl (by decide)⟩ rfl rfl hl.1 rfl (lv_room (Nat.le_of_ble_eq_true rfl)) dL_tell_73 ⟨Nat.le_of_ble_eq_true rfl, Nat.le_of_ble_eq_true rfl⟩) hP hD hS hA [0, 1, 2, 3, 4, 5, 6, 7, 8, 9, 10] [11] rfl rfl (by decide) (by decide) (fun r_10 u_11 H locs hw hP hD hS => ?_)
      obtain ⟨T2_12, rfl⟩ : ∃ z, z = u_11 := ⟨_, rfl⟩
      obtain ⟨hw, hf_r_10⟩ := hw
      obtain rfl : r_10 = nI n := hw
      have hP : va_P D vwCl [(rw, .inl (cI, 6, .inl g)), (ob, .inr (5, [.ref (ad 1), .ref (cd 0), .ref (dd 0), .int 0])), (ad 1, .inr (3, [.ref (ad 10), .int 6, .long po, .long oc, .ref (ad 11), .ref (ad 12), .ref (ad 13), .ref (ad 14), .ref (ad 15), .int (nI (n + 1)), .ref (ad 16), .ref (ad 17), .ref (ad 18)])), (ad 10, .inl (cI, 12, .inl (T2_12 0))), (ad 11, .inl (cI, 40, .inl (T2_12 1))), (ad 12, .inl (cI, 40, .inl (T2_12 2))), (ad 13, .inl (cI, 40, .inl (T2_12 3))), (ad 14, .inl (cI, 40, .inl (T2_12 4))), (ad 15, .inl (cI, 40, .inl (T2_12 5))), (ad 16, .inl (cI, 120, .inl (T2_12 6))), (ad 17, .inl (cI, 120, .inl (T2_12 7))), (ad 18, .inl (cI, 120, .inl (T2_12 8)))] _ := hP
      have hD : va_D A [(rw, .inl (cI, 6, .inl g)), (ob, .inr (5, [.ref (ad 1), .ref (cd 0), .ref (dd 0), .int 0])), (ad 1, .inr (3, [.ref (ad 10), .int 6, .long po, .long oc, .ref (ad 11), .ref (ad 12), .ref (ad 13), .ref (ad 14), .ref (ad 15), .int (nI (n + 1)), .ref (ad 16), .ref (ad 17), .ref (ad 18)])), (ad 10, .inl (cI, 12, .inl (T2_12 0))), (ad 11, .inl (cI, 40, .inl (T2_12 1))), (ad 12, .inl (cI, 40, .inl (T2_12 2))), (ad 13, .inl (cI, 40, .inl (T2_12 3))), (ad 14, .inl (cI, 40, .inl (T2_12 4))), (ad 15, .inl (cI, 40, .inl (T2_12 5))), (ad 16, .inl (cI, 120, .inl (T2_12 6))), (ad 17, .inl (cI, 120, .inl (T2_12 7))), (ad 18, .inl (cI, 120, .inl (T2_12 8)))] := hD
      have hP := hP.sub (ws' := [(ob, .inr (5, [.ref (ad 1), .ref (cd 0), .ref (dd 0), .int 0])), (ad 1, .inr (3, [.ref (ad 10), .int 6, .long po, .long oc, .ref (ad 11), .ref (ad 12), .ref (ad 13), .ref (ad 14), .ref (ad 15), .int (nI (n + 1)), .ref (ad 16), .ref (ad 17), .ref (ad 18)])), (ad 10, .inl (cI, 12, .inl (T2_12 0))), (ad 11, .inl (cI, 40, .inl (T2_12 1))), (ad 12, .inl (cI, 40, .inl (T2_12 2))), (ad 13, .inl (cI, 40, .inl (T2_12 3))), (ad 14, .inl (cI, 40, .inl (T2_12 4))), (ad 15, .inl (cI, 40, .inl (T2_12 5))), (ad 16, .inl (cI, 120, .inl (T2_12 6))), (ad 17, .inl (cI, 120, .inl (T2_12 7))), (ad 18, .inl (cI, 120, .inl (T2_12 8))), (rw, .inl (cI, 6, .inl g))]) [1, 2, 3, 4, 5, 6, 7, 8, 9, 10, 11, 0] rfl
      have hD := hD.sub (ws' := [(ob, .inr (5, [.ref (ad 1), .ref (cd 0), .ref (dd 0), .int 0])), (ad 1, .inr (3, [.ref (ad 10), .int 6, .long po, .long oc, .ref (ad 11), .ref (ad 12), .ref (ad 13), .ref (ad 14), .ref (ad 15), .int (nI (n + 1)), .ref (ad 16), .ref (ad 17), .ref (ad 18)])), (ad 10, .inl (cI, 12, .inl (T2_12 0))), (ad 11, .inl (cI, 40, .inl (T2_12 1))), (ad 12, .inl (cI, 40, .inl (T2_12 2))), (ad 13, .inl (cI, 40, .inl (T2_12 3))), (ad 14, .inl (cI, 40, .inl (T2_12 4))), (ad 15, .inl (cI, 40, .inl (T2_12 5))), (ad 16, .inl (cI, 120, .inl (T2_12 6))), (ad 17, .inl (cI, 120, .inl (T2_12 7))), (ad 18, .inl (cI, 120, .inl (T2_12 8))), (rw, .inl (cI, 6, .inl g))]) [1, 2, 3, 4, 5, 6, 7, 8, 9, 10, 11, 0] (by decide) rfl
      exact ke_i hx hb hr (by first | rfl | decide | exact bz_nar _) T2_12 (⟨rfl, by assumption⟩) hP hD hS (Nat.le_of_ble_eq_true rfl) (Nat.le_of_ble_eq_true rfl) hlocks dL_tell_76
    · skip
      refine lv_aload_n hx hb dL_tell_63 rfl (lv_at hl 0 rfl) ?_
      refine lv_aload_n hx hb dL_tell_64 rfl (lv_at hl 1 rfl) ?_
      refine lv_iconst (v := 1) hx hb dL_tell_65 (by decide) ?_
      refine va_iald hx hb hK hP 11 0 rfl rfl (vp_in_nI (n := 1) (by omega) (by omega)) dL_tell_66 ?_
      refine tI (v := g 1) (congrArg g (nI_clamp (n := 1) (by omega))) ?_
      refine tI (v := nI a) g1 ?_
      refine lv_aload_n hx hb dL_tell_67 rfl (lv_at hl 1 rfl) ?_
      refine lv_iconst (v := 2) hx hb dL_tell_68 (by decide) ?_
      refine va_iald hx hb hK hP 11 0 rfl rfl (vp_in_nI (n := 2) (by omega) (by omega)) dL_tell_69 ?_
      refine tI (v := g 2) (congrArg g (nI_clamp (n := 2) (by omega))) ?_
      refine tI (v := nI b) g2 ?_
      refine lv_aload_n hx hb dL_tell_70 rfl (lv_at hl 1 rfl) ?_
      refine lv_iconst (v := 3) hx hb dL_tell_71 (by decide) ?_
      refine va_iald hx hb hK hP 11 0 rfl rfl (vp_in_nI (n := 3) (by omega) (by omega)) dL_tell_72 ?_
      refine tI (v := g 3) (congrArg g (nI_clamp (n := 3) (by omega))) ?_
      refine tI (v := (-1)) g3 ?_
      refine kc_i (wr := [(rw, .inl (cI, 6, .inl g))]) (va_runV (As := [.int (nI a), .int (nI b), .int (-1)]) (rest := []) ⟨hx, hb, hml, hown, hts⟩ (k_moveW l D cI cJ cZ cR ad po oc n T ob cd dd ch a b _ hT hn ha6 hb6 h0 h1) (cwV 3 hts (gV q_804 q_801 q_802 q_803 q_64) rfl rfl rfl (by decide +kernel) ⟨Nat.le_of_ble_eq_true rfl, Nat.le_of_ble_eq_true rfl⟩) ⟨Pw.blind, va_recv hK hP (ci := 5) (q0 := 0) rfl rfl, Pw.mk_call hP hK hD hS hA hG [0, 1, 2, 3, 4, 5, 6, 7, 8, 9, 10] rfl (by decide)⟩ rfl rfl hl.1 rfl (lv_room (Nat.le_of_ble_eq_true rfl)) dL_tell_73 ⟨Nat.le_of_ble_eq_true rfl, Nat.le_of_ble_eq_true rfl⟩) hP hD hS hA [0, 1, 2, 3, 4, 5, 6, 7, 8, 9, 10] [11] rfl rfl (by decide) (by decide) (fun r_13 u_14 H locs hw hP hD hS => ?_)
      obtain ⟨T2_15, rfl⟩ : ∃ z, z = u_14 := ⟨_, rfl⟩
      obtain ⟨hw, hf_r_13⟩ := hw
      obtain rfl : r_13 = nI n := hw
      have hP : va_P D vwCl [(rw, .inl (cI, 6, .inl g)), (ob, .inr (5, [.ref (ad 1), .ref (cd 0), .ref (dd 0), .int 0])), (ad 1, .inr (3, [.ref (ad 10), .int 6, .long po, .long oc, .ref (ad 11), .ref (ad 12), .ref (ad 13), .ref (ad 14), .ref (ad 15), .int (nI (n + 1)), .ref (ad 16), .ref (ad 17), .ref (ad 18)])), (ad 10, .inl (cI, 12, .inl (T2_15 0))), (ad 11, .inl (cI, 40, .inl (T2_15 1))), (ad 12, .inl (cI, 40, .inl (T2_15 2))), (ad 13, .inl (cI, 40, .inl (T2_15 3))), (ad 14, .inl (cI, 40, .inl (T2_15 4))), (ad 15, .inl (cI, 40, .inl (T2_15 5))), (ad 16, .inl (cI, 120, .inl (T2_15 6))), (ad 17, .inl (cI, 120, .inl (T2_15 7))), (ad 18, .inl (cI, 120, .inl (T2_15 8)))] _ := hP
      have hD : va_D A [(rw, .inl (cI, 6, .inl g)), (ob, .inr (5, [.ref (ad 1), .ref (cd 0), .ref (dd 0), .int 0])), (ad 1, .inr (3, [.ref (ad 10), .int 6, .long po, .long oc, .ref (ad 11), .ref (ad 12), .ref (ad 13), .ref (ad 14), .ref (ad 15), .int (nI (n + 1)), .ref (ad 16), .ref (ad 17), .ref (ad 18)])), (ad 10, .inl (cI, 12, .inl (T2_15 0))), (ad 11, .inl (cI, 40, .inl (T2_15 1))), (ad 12, .inl (cI, 40, .inl (T2_15 2))), (ad 13, .inl (cI, 40, .inl (T2_15 3))), (ad 14, .inl (cI, 40, .inl (T2_15 4))), (ad 15, .inl (cI, 40, .inl (T2_15 5))), (ad 16, .inl (cI, 120, .inl (T2_15 6))), (ad 17, .inl (cI, 120, .inl (T2_15 7))), (ad 18, .inl (cI, 120, .inl (T2_15 8)))] := hD
      have hP := hP.sub (ws' := [(ob, .inr (5, [.ref (ad 1), .ref (cd 0), .ref (dd 0), .int 0])), (ad 1, .inr (3, [.ref (ad 10), .int 6, .long po, .long oc, .ref (ad 11), .ref (ad 12), .ref (ad 13), .ref (ad 14), .ref (ad 15), .int (nI (n + 1)), .ref (ad 16), .ref (ad 17), .ref (ad 18)])), (ad 10, .inl (cI, 12, .inl (T2_15 0))), (ad 11, .inl (cI, 40, .inl (T2_15 1))), (ad 12, .inl (cI, 40, .inl (T2_15 2))), (ad 13, .inl (cI, 40, .inl (T2_15 3))), (ad 14, .inl (cI, 40, .inl (T2_15 4))), (ad 15, .inl (cI, 40, .inl (T2_15 5))), (ad 16, .inl (cI, 120, .inl (T2_15 6))), (ad 17, .inl (cI, 120, .inl (T2_15 7))), (ad 18, .inl (cI, 120, .inl (T2_15 8))), (rw, .inl (cI, 6, .inl g))]) [1, 2, 3, 4, 5, 6, 7, 8, 9, 10, 11, 0] rfl
      have hD := hD.sub (ws' := [(ob, .inr (5, [.ref (ad 1), .ref (cd 0), .ref (dd 0), .int 0])), (ad 1, .inr (3, [.ref (ad 10), .int 6, .long po, .long oc, .ref (ad 11), .ref (ad 12), .ref (ad 13), .ref (ad 14), .ref (ad 15), .int (nI (n + 1)), .ref (ad 16), .ref (ad 17), .ref (ad 18)])), (ad 10, .inl (cI, 12, .inl (T2_15 0))), (ad 11, .inl (cI, 40, .inl (T2_15 1))), (ad 12, .inl (cI, 40, .inl (T2_15 2))), (ad 13, .inl (cI, 40, .inl (T2_15 3))), (ad 14, .inl (cI, 40, .inl (T2_15 4))), (ad 15, .inl (cI, 40, .inl (T2_15 5))), (ad 16, .inl (cI, 120, .inl (T2_15 6))), (ad 17, .inl (cI, 120, .inl (T2_15 7))), (ad 18, .inl (cI, 120, .inl (T2_15 8))), (rw, .inl (cI, 6, .inl g))]) [1, 2, 3, 4, 5, 6, 7, 8, 9, 10, 11, 0] (by decide) rfl
      exact ke_i hx hb hr (by first | rfl | decide | exact bz_nar _) T2_15 (⟨rfl, by assumption⟩) hP hD hS (Nat.le_of_ble_eq_true rfl) (Nat.le_of_ble_eq_true rfl) hlocks dL_tell_76
  · skip
    refine lv_tableIn (tgt := 77) (off := 74) hx hb dL_tell_3 (by decide) (by decide) (by decide) (by decide) ?_
    rcases hok.2.2.1 rfl with ⟨h0, ⟨rfl, h1⟩ | h1⟩
    · skip
      refine lv_aload_n hx hb dL_tell_77 rfl (lv_at hl 0 rfl) ?_
      refine lv_aload_n hx hb dL_tell_78 rfl (lv_at hl 1 rfl) ?_
      refine lv_iconst (v := 1) hx hb dL_tell_79 (by decide) ?_
      refine va_iald hx hb hK hP 11 0 rfl rfl (vp_in_nI (n := 1) (by omega) (by omega)) dL_tell_80 ?_
      refine tI (v := g 1) (congrArg g (nI_clamp (n := 1) (by omega))) ?_
      refine tI (v := nI a) g1 ?_
      refine lv_aload_n hx hb dL_tell_81 rfl (lv_at hl 1 rfl) ?_
      refine lv_iconst (v := 2) hx hb dL_tell_82 (by decide) ?_
      refine va_iald hx hb hK hP 11 0 rfl rfl (vp_in_nI (n := 2) (by omega) (by omega)) dL_tell_83 ?_
      refine tI (v := g 2) (congrArg g (nI_clamp (n := 2) (by omega))) ?_
      refine tI (v := nI b) g2 ?_
      refine lv_aload_n hx hb dL_tell_84 rfl (lv_at hl 1 rfl) ?_
      refine lv_iconst (v := 3) hx hb dL_tell_85 (by decide) ?_
      refine va_iald hx hb hK hP 11 0 rfl rfl (vp_in_nI (n := 3) (by omega) (by omega)) dL_tell_86 ?_
      refine tI (v := g 3) (congrArg g (nI_clamp (n := 3) (by omega))) ?_
      refine tI (v := (-1)) g3 ?_
      refine kc_i (wr := [(rw, .inl (cI, 6, .inl g))]) (va_runV (As := [.int (nI a), .int (nI b), .int (-1)]) (rest := []) ⟨hx, hb, hml, hown, hts⟩ (k_lendW l D cI cJ cZ cR ad po oc n T ob cd dd ch a b _ hT hn ha6 hb6 h0 h1) (cwV 3 hts (gV q_813 q_810 q_811 q_812 q_64) rfl rfl rfl (by decide +kernel) ⟨Nat.le_of_ble_eq_true rfl, Nat.le_of_ble_eq_true rfl⟩) ⟨Pw.blind, va_recv hK hP (ci := 5) (q0 := 0) rfl rfl, Pw.mk_call hP hK hD hS hA hG [0, 1, 2, 3, 4, 5, 6, 7, 8, 9, 10] rfl (by decide)⟩ rfl rfl hl.1 rfl (lv_room (Nat.le_of_ble_eq_true rfl)) dL_tell_87 ⟨Nat.le_of_ble_eq_true rfl, Nat.le_of_ble_eq_true rfl⟩) hP hD hS hA [0, 1, 2, 3, 4, 5, 6, 7, 8, 9, 10] [11] rfl rfl (by decide) (by decide) (fun r_16 u_17 H locs hw hP hD hS => ?_)
      obtain ⟨T2_18, rfl⟩ : ∃ z, z = u_17 := ⟨_, rfl⟩
      obtain ⟨hw, hf_r_16⟩ := hw
      obtain rfl : r_16 = nI n := hw
      have hP : va_P D vwCl [(rw, .inl (cI, 6, .inl g)), (ob, .inr (5, [.ref (ad 1), .ref (cd 0), .ref (dd 0), .int 0])), (ad 1, .inr (3, [.ref (ad 10), .int 6, .long po, .long oc, .ref (ad 11), .ref (ad 12), .ref (ad 13), .ref (ad 14), .ref (ad 15), .int (nI (n + 1)), .ref (ad 16), .ref (ad 17), .ref (ad 18)])), (ad 10, .inl (cI, 12, .inl (T2_18 0))), (ad 11, .inl (cI, 40, .inl (T2_18 1))), (ad 12, .inl (cI, 40, .inl (T2_18 2))), (ad 13, .inl (cI, 40, .inl (T2_18 3))), (ad 14, .inl (cI, 40, .inl (T2_18 4))), (ad 15, .inl (cI, 40, .inl (T2_18 5))), (ad 16, .inl (cI, 120, .inl (T2_18 6))), (ad 17, .inl (cI, 120, .inl (T2_18 7))), (ad 18, .inl (cI, 120, .inl (T2_18 8)))] _ := hP
      have hD : va_D A [(rw, .inl (cI, 6, .inl g)), (ob, .inr (5, [.ref (ad 1), .ref (cd 0), .ref (dd 0), .int 0])), (ad 1, .inr (3, [.ref (ad 10), .int 6, .long po, .long oc, .ref (ad 11), .ref (ad 12), .ref (ad 13), .ref (ad 14), .ref (ad 15), .int (nI (n + 1)), .ref (ad 16), .ref (ad 17), .ref (ad 18)])), (ad 10, .inl (cI, 12, .inl (T2_18 0))), (ad 11, .inl (cI, 40, .inl (T2_18 1))), (ad 12, .inl (cI, 40, .inl (T2_18 2))), (ad 13, .inl (cI, 40, .inl (T2_18 3))), (ad 14, .inl (cI, 40, .inl (T2_18 4))), (ad 15, .inl (cI, 40, .inl (T2_18 5))), (ad 16, .inl (cI, 120, .inl (T2_18 6))), (ad 17, .inl (cI, 120, .inl (T2_18 7))), (ad 18, .inl (cI, 120, .inl (T2_18 8)))] := hD
      have hP := hP.sub (ws' := [(ob, .inr (5, [.ref (ad 1), .ref (cd 0), .ref (dd 0), .int 0])), (ad 1, .inr (3, [.ref (ad 10), .int 6, .long po, .long oc, .ref (ad 11), .ref (ad 12), .ref (ad 13), .ref (ad 14), .ref (ad 15), .int (nI (n + 1)), .ref (ad 16), .ref (ad 17), .ref (ad 18)])), (ad 10, .inl (cI, 12, .inl (T2_18 0))), (ad 11, .inl (cI, 40, .inl (T2_18 1))), (ad 12, .inl (cI, 40, .inl (T2_18 2))), (ad 13, .inl (cI, 40, .inl (T2_18 3))), (ad 14, .inl (cI, 40, .inl (T2_18 4))), (ad 15, .inl (cI, 40, .inl (T2_18 5))), (ad 16, .inl (cI, 120, .inl (T2_18 6))), (ad 17, .inl (cI, 120, .inl (T2_18 7))), (ad 18, .inl (cI, 120, .inl (T2_18 8))), (rw, .inl (cI, 6, .inl g))]) [1, 2, 3, 4, 5, 6, 7, 8, 9, 10, 11, 0] rfl
      have hD := hD.sub (ws' := [(ob, .inr (5, [.ref (ad 1), .ref (cd 0), .ref (dd 0), .int 0])), (ad 1, .inr (3, [.ref (ad 10), .int 6, .long po, .long oc, .ref (ad 11), .ref (ad 12), .ref (ad 13), .ref (ad 14), .ref (ad 15), .int (nI (n + 1)), .ref (ad 16), .ref (ad 17), .ref (ad 18)])), (ad 10, .inl (cI, 12, .inl (T2_18 0))), (ad 11, .inl (cI, 40, .inl (T2_18 1))), (ad 12, .inl (cI, 40, .inl (T2_18 2))), (ad 13, .inl (cI, 40, .inl (T2_18 3))), (ad 14, .inl (cI, 40, .inl (T2_18 4))), (ad 15, .inl (cI, 40, .inl (T2_18 5))), (ad 16, .inl (cI, 120, .inl (T2_18 6))), (ad 17, .inl (cI, 120, .inl (T2_18 7))), (ad 18, .inl (cI, 120, .inl (T2_18 8))), (rw, .inl (cI, 6, .inl g))]) [1, 2, 3, 4, 5, 6, 7, 8, 9, 10, 11, 0] (by decide) rfl
      exact ke_i hx hb hr (by first | rfl | decide | exact bz_nar _) T2_18 (⟨rfl, by assumption⟩) hP hD hS (Nat.le_of_ble_eq_true rfl) (Nat.le_of_ble_eq_true rfl) hlocks dL_tell_90
    · skip
      refine lv_aload_n hx hb dL_tell_77 rfl (lv_at hl 0 rfl) ?_
      refine lv_aload_n hx hb dL_tell_78 rfl (lv_at hl 1 rfl) ?_
      refine lv_iconst (v := 1) hx hb dL_tell_79 (by decide) ?_
      refine va_iald hx hb hK hP 11 0 rfl rfl (vp_in_nI (n := 1) (by omega) (by omega)) dL_tell_80 ?_
      refine tI (v := g 1) (congrArg g (nI_clamp (n := 1) (by omega))) ?_
      refine tI (v := nI a) g1 ?_
      refine lv_aload_n hx hb dL_tell_81 rfl (lv_at hl 1 rfl) ?_
      refine lv_iconst (v := 2) hx hb dL_tell_82 (by decide) ?_
      refine va_iald hx hb hK hP 11 0 rfl rfl (vp_in_nI (n := 2) (by omega) (by omega)) dL_tell_83 ?_
      refine tI (v := g 2) (congrArg g (nI_clamp (n := 2) (by omega))) ?_
      refine tI (v := nI b) g2 ?_
      refine lv_aload_n hx hb dL_tell_84 rfl (lv_at hl 1 rfl) ?_
      refine lv_iconst (v := 3) hx hb dL_tell_85 (by decide) ?_
      refine va_iald hx hb hK hP 11 0 rfl rfl (vp_in_nI (n := 3) (by omega) (by omega)) dL_tell_86 ?_
      refine tI (v := g 3) (congrArg g (nI_clamp (n := 3) (by omega))) ?_
      refine tI (v := q) g3 ?_
      refine kc_i (wr := [(rw, .inl (cI, 6, .inl g))]) (va_runV (As := [.int (nI a), .int (nI b), .int q]) (rest := []) ⟨hx, hb, hml, hown, hts⟩ (k_lendF l D cI cJ cZ cR ad po oc n T ob cd dd ch a b q _ hT hn ha6 hb6 h0 h1) (cwV 3 hts (gV q_813 q_810 q_811 q_812 q_64) rfl rfl rfl (by decide +kernel) ⟨Nat.le_of_ble_eq_true rfl, Nat.le_of_ble_eq_true rfl⟩) ⟨Pw.blind, va_recv hK hP (ci := 5) (q0 := 0) rfl rfl, Pw.mk_call hP hK hD hS hA hG [0, 1, 2, 3, 4, 5, 6, 7, 8, 9, 10] rfl (by decide)⟩ rfl rfl hl.1 rfl (lv_room (Nat.le_of_ble_eq_true rfl)) dL_tell_87 ⟨Nat.le_of_ble_eq_true rfl, Nat.le_of_ble_eq_true rfl⟩) hP hD hS hA [0, 1, 2, 3, 4, 5, 6, 7, 8, 9, 10] [11] rfl rfl (by decide) (by decide) (fun r_19 u_20 H locs hw hP hD hS => ?_)
      obtain ⟨T2_21, rfl⟩ : ∃ z, z = u_20 := ⟨_, rfl⟩
      obtain ⟨hw, hf_r_19⟩ := hw
      obtain rfl : r_19 = nI n := hw
      have hP : va_P D vwCl [(rw, .inl (cI, 6, .inl g)), (ob, .inr (5, [.ref (ad 1), .ref (cd 0), .ref (dd 0), .int 0])), (ad 1, .inr (3, [.ref (ad 10), .int 6, .long po, .long oc, .ref (ad 11), .ref (ad 12), .ref (ad 13), .ref (ad 14), .ref (ad 15), .int (nI (n + 1)), .ref (ad 16), .ref (ad 17), .ref (ad 18)])), (ad 10, .inl (cI, 12, .inl (T2_21 0))), (ad 11, .inl (cI, 40, .inl (T2_21 1))), (ad 12, .inl (cI, 40, .inl (T2_21 2))), (ad 13, .inl (cI, 40, .inl (T2_21 3))), (ad 14, .inl (cI, 40, .inl (T2_21 4))), (ad 15, .inl (cI, 40, .inl (T2_21 5))), (ad 16, .inl (cI, 120, .inl (T2_21 6))), (ad 17, .inl (cI, 120, .inl (T2_21 7))), (ad 18, .inl (cI, 120, .inl (T2_21 8)))] _ := hP
      have hD : va_D A [(rw, .inl (cI, 6, .inl g)), (ob, .inr (5, [.ref (ad 1), .ref (cd 0), .ref (dd 0), .int 0])), (ad 1, .inr (3, [.ref (ad 10), .int 6, .long po, .long oc, .ref (ad 11), .ref (ad 12), .ref (ad 13), .ref (ad 14), .ref (ad 15), .int (nI (n + 1)), .ref (ad 16), .ref (ad 17), .ref (ad 18)])), (ad 10, .inl (cI, 12, .inl (T2_21 0))), (ad 11, .inl (cI, 40, .inl (T2_21 1))), (ad 12, .inl (cI, 40, .inl (T2_21 2))), (ad 13, .inl (cI, 40, .inl (T2_21 3))), (ad 14, .inl (cI, 40, .inl (T2_21 4))), (ad 15, .inl (cI, 40, .inl (T2_21 5))), (ad 16, .inl (cI, 120, .inl (T2_21 6))), (ad 17, .inl (cI, 120, .inl (T2_21 7))), (ad 18, .inl (cI, 120, .inl (T2_21 8)))] := hD
      have hP := hP.sub (ws' := [(ob, .inr (5, [.ref (ad 1), .ref (cd 0), .ref (dd 0), .int 0])), (ad 1, .inr (3, [.ref (ad 10), .int 6, .long po, .long oc, .ref (ad 11), .ref (ad 12), .ref (ad 13), .ref (ad 14), .ref (ad 15), .int (nI (n + 1)), .ref (ad 16), .ref (ad 17), .ref (ad 18)])), (ad 10, .inl (cI, 12, .inl (T2_21 0))), (ad 11, .inl (cI, 40, .inl (T2_21 1))), (ad 12, .inl (cI, 40, .inl (T2_21 2))), (ad 13, .inl (cI, 40, .inl (T2_21 3))), (ad 14, .inl (cI, 40, .inl (T2_21 4))), (ad 15, .inl (cI, 40, .inl (T2_21 5))), (ad 16, .inl (cI, 120, .inl (T2_21 6))), (ad 17, .inl (cI, 120, .inl (T2_21 7))), (ad 18, .inl (cI, 120, .inl (T2_21 8))), (rw, .inl (cI, 6, .inl g))]) [1, 2, 3, 4, 5, 6, 7, 8, 9, 10, 11, 0] rfl
      have hD := hD.sub (ws' := [(ob, .inr (5, [.ref (ad 1), .ref (cd 0), .ref (dd 0), .int 0])), (ad 1, .inr (3, [.ref (ad 10), .int 6, .long po, .long oc, .ref (ad 11), .ref (ad 12), .ref (ad 13), .ref (ad 14), .ref (ad 15), .int (nI (n + 1)), .ref (ad 16), .ref (ad 17), .ref (ad 18)])), (ad 10, .inl (cI, 12, .inl (T2_21 0))), (ad 11, .inl (cI, 40, .inl (T2_21 1))), (ad 12, .inl (cI, 40, .inl (T2_21 2))), (ad 13, .inl (cI, 40, .inl (T2_21 3))), (ad 14, .inl (cI, 40, .inl (T2_21 4))), (ad 15, .inl (cI, 40, .inl (T2_21 5))), (ad 16, .inl (cI, 120, .inl (T2_21 6))), (ad 17, .inl (cI, 120, .inl (T2_21 7))), (ad 18, .inl (cI, 120, .inl (T2_21 8))), (rw, .inl (cI, 6, .inl g))]) [1, 2, 3, 4, 5, 6, 7, 8, 9, 10, 11, 0] (by decide) rfl
      exact ke_i hx hb hr (by first | rfl | decide | exact bz_nar _) T2_21 (⟨rfl, by assumption⟩) hP hD hS (Nat.le_of_ble_eq_true rfl) (Nat.le_of_ble_eq_true rfl) hlocks dL_tell_90
  · skip
    refine lv_tableIn (tgt := 91) (off := 88) hx hb dL_tell_3 (by decide) (by decide) (by decide) (by decide) ?_
    refine lv_aload_n hx hb dL_tell_91 rfl (lv_at hl 0 rfl) ?_
    refine lv_aload_n hx hb dL_tell_92 rfl (lv_at hl 1 rfl) ?_
    refine lv_iconst (v := 1) hx hb dL_tell_93 (by decide) ?_
    refine va_iald hx hb hK hP 11 0 rfl rfl (vp_in_nI (n := 1) (by omega) (by omega)) dL_tell_94 ?_
    refine tI (v := g 1) (congrArg g (nI_clamp (n := 1) (by omega))) ?_
    refine tI (v := nI a) g1 ?_
    refine lv_aload_n hx hb dL_tell_95 rfl (lv_at hl 1 rfl) ?_
    refine lv_iconst (v := 2) hx hb dL_tell_96 (by decide) ?_
    refine va_iald hx hb hK hP 11 0 rfl rfl (vp_in_nI (n := 2) (by omega) (by omega)) dL_tell_97 ?_
    refine tI (v := g 2) (congrArg g (nI_clamp (n := 2) (by omega))) ?_
    refine tI (v := nI b) g2 ?_
    refine kc_i (wr := [(rw, .inl (cI, 6, .inl g))]) (va_runV (As := [.int (nI a), .int (nI b)]) (rest := []) ⟨hx, hb, hml, hown, hts⟩ (k_relend l D cI cJ cZ cR ad po oc n T ob cd dd ch a b _ hT hn ha6 hb6 ((hok.2.2.2.1 rfl).1) ((hok.2.2.2.1 rfl).2.1) ((hok.2.2.2.1 rfl).2.2.1) ((hok.2.2.2.1 rfl).2.2.2)) (cwV 2 hts (gV q_822 q_819 q_820 q_821 q_64) rfl rfl rfl (by decide +kernel) ⟨Nat.le_of_ble_eq_true rfl, Nat.le_of_ble_eq_true rfl⟩) ⟨Pw.blind, va_recv hK hP (ci := 5) (q0 := 0) rfl rfl, Pw.mk_call hP hK hD hS hA hG [0, 1, 2, 3, 4, 5, 6, 7, 8, 9, 10] rfl (by decide)⟩ rfl rfl hl.1 rfl (lv_room (Nat.le_of_ble_eq_true rfl)) dL_tell_98 ⟨Nat.le_of_ble_eq_true rfl, Nat.le_of_ble_eq_true rfl⟩) hP hD hS hA [0, 1, 2, 3, 4, 5, 6, 7, 8, 9, 10] [11] rfl rfl (by decide) (by decide) (fun r_22 u_23 H locs hw hP hD hS => ?_)
    obtain ⟨T2_24, rfl⟩ : ∃ z, z = u_23 := ⟨_, rfl⟩
    obtain ⟨hw, hf_r_22⟩ := hw
    obtain rfl : r_22 = nI n := hw
    have hP : va_P D vwCl [(rw, .inl (cI, 6, .inl g)), (ob, .inr (5, [.ref (ad 1), .ref (cd 0), .ref (dd 0), .int 0])), (ad 1, .inr (3, [.ref (ad 10), .int 6, .long po, .long oc, .ref (ad 11), .ref (ad 12), .ref (ad 13), .ref (ad 14), .ref (ad 15), .int (nI (n + 1)), .ref (ad 16), .ref (ad 17), .ref (ad 18)])), (ad 10, .inl (cI, 12, .inl (T2_24 0))), (ad 11, .inl (cI, 40, .inl (T2_24 1))), (ad 12, .inl (cI, 40, .inl (T2_24 2))), (ad 13, .inl (cI, 40, .inl (T2_24 3))), (ad 14, .inl (cI, 40, .inl (T2_24 4))), (ad 15, .inl (cI, 40, .inl (T2_24 5))), (ad 16, .inl (cI, 120, .inl (T2_24 6))), (ad 17, .inl (cI, 120, .inl (T2_24 7))), (ad 18, .inl (cI, 120, .inl (T2_24 8)))] _ := hP
    have hD : va_D A [(rw, .inl (cI, 6, .inl g)), (ob, .inr (5, [.ref (ad 1), .ref (cd 0), .ref (dd 0), .int 0])), (ad 1, .inr (3, [.ref (ad 10), .int 6, .long po, .long oc, .ref (ad 11), .ref (ad 12), .ref (ad 13), .ref (ad 14), .ref (ad 15), .int (nI (n + 1)), .ref (ad 16), .ref (ad 17), .ref (ad 18)])), (ad 10, .inl (cI, 12, .inl (T2_24 0))), (ad 11, .inl (cI, 40, .inl (T2_24 1))), (ad 12, .inl (cI, 40, .inl (T2_24 2))), (ad 13, .inl (cI, 40, .inl (T2_24 3))), (ad 14, .inl (cI, 40, .inl (T2_24 4))), (ad 15, .inl (cI, 40, .inl (T2_24 5))), (ad 16, .inl (cI, 120, .inl (T2_24 6))), (ad 17, .inl (cI, 120, .inl (T2_24 7))), (ad 18, .inl (cI, 120, .inl (T2_24 8)))] := hD
    have hP := hP.sub (ws' := [(ob, .inr (5, [.ref (ad 1), .ref (cd 0), .ref (dd 0), .int 0])), (ad 1, .inr (3, [.ref (ad 10), .int 6, .long po, .long oc, .ref (ad 11), .ref (ad 12), .ref (ad 13), .ref (ad 14), .ref (ad 15), .int (nI (n + 1)), .ref (ad 16), .ref (ad 17), .ref (ad 18)])), (ad 10, .inl (cI, 12, .inl (T2_24 0))), (ad 11, .inl (cI, 40, .inl (T2_24 1))), (ad 12, .inl (cI, 40, .inl (T2_24 2))), (ad 13, .inl (cI, 40, .inl (T2_24 3))), (ad 14, .inl (cI, 40, .inl (T2_24 4))), (ad 15, .inl (cI, 40, .inl (T2_24 5))), (ad 16, .inl (cI, 120, .inl (T2_24 6))), (ad 17, .inl (cI, 120, .inl (T2_24 7))), (ad 18, .inl (cI, 120, .inl (T2_24 8))), (rw, .inl (cI, 6, .inl g))]) [1, 2, 3, 4, 5, 6, 7, 8, 9, 10, 11, 0] rfl
    have hD := hD.sub (ws' := [(ob, .inr (5, [.ref (ad 1), .ref (cd 0), .ref (dd 0), .int 0])), (ad 1, .inr (3, [.ref (ad 10), .int 6, .long po, .long oc, .ref (ad 11), .ref (ad 12), .ref (ad 13), .ref (ad 14), .ref (ad 15), .int (nI (n + 1)), .ref (ad 16), .ref (ad 17), .ref (ad 18)])), (ad 10, .inl (cI, 12, .inl (T2_24 0))), (ad 11, .inl (cI, 40, .inl (T2_24 1))), (ad 12, .inl (cI, 40, .inl (T2_24 2))), (ad 13, .inl (cI, 40, .inl (T2_24 3))), (ad 14, .inl (cI, 40, .inl (T2_24 4))), (ad 15, .inl (cI, 40, .inl (T2_24 5))), (ad 16, .inl (cI, 120, .inl (T2_24 6))), (ad 17, .inl (cI, 120, .inl (T2_24 7))), (ad 18, .inl (cI, 120, .inl (T2_24 8))), (rw, .inl (cI, 6, .inl g))]) [1, 2, 3, 4, 5, 6, 7, 8, 9, 10, 11, 0] (by decide) rfl
    exact ke_i hx hb hr (by first | rfl | decide | exact bz_nar _) T2_24 (⟨rfl, by assumption⟩) hP hD hS (Nat.le_of_ble_eq_true rfl) (Nat.le_of_ble_eq_true rfl) hlocks dL_tell_101
  · skip
    refine lv_tableIn (tgt := 102) (off := 99) hx hb dL_tell_3 (by decide) (by decide) (by decide) (by decide) ?_
    rcases hok.2.2.2.2.1 rfl with rfl | h1 | ⟨rfl, h1⟩
    · skip
      refine lv_aload_n hx hb dL_tell_102 rfl (lv_at hl 0 rfl) ?_
      refine lv_aload_n hx hb dL_tell_103 rfl (lv_at hl 1 rfl) ?_
      refine lv_iconst (v := 2) hx hb dL_tell_104 (by decide) ?_
      refine va_iald hx hb hK hP 11 0 rfl rfl (vp_in_nI (n := 2) (by omega) (by omega)) dL_tell_105 ?_
      refine tI (v := g 2) (congrArg g (nI_clamp (n := 2) (by omega))) ?_
      refine tI (v := nI b) g2 ?_
      refine lv_aload_n hx hb dL_tell_106 rfl (lv_at hl 1 rfl) ?_
      refine lv_iconst (v := 3) hx hb dL_tell_107 (by decide) ?_
      refine va_iald hx hb hK hP 11 0 rfl rfl (vp_in_nI (n := 3) (by omega) (by omega)) dL_tell_108 ?_
      refine tI (v := g 3) (congrArg g (nI_clamp (n := 3) (by omega))) ?_
      refine tI (v := (-1)) g3 ?_
      refine kc_i (wr := [(rw, .inl (cI, 6, .inl g))]) (va_runV (As := [.int (nI b), .int (-1)]) (rest := []) ⟨hx, hb, hml, hown, hts⟩ (k_readW l D cI cJ cZ cR ad po oc n T ob cd dd ch b _ hT hn hb6) (cwV 2 hts (gV q_828 q_825 q_826 q_827 q_64) rfl rfl rfl (by decide +kernel) ⟨Nat.le_of_ble_eq_true rfl, Nat.le_of_ble_eq_true rfl⟩) ⟨Pw.blind, va_recv hK hP (ci := 5) (q0 := 0) rfl rfl, Pw.mk_call hP hK hD hS hA hG [0, 1, 2, 3, 4, 5, 6, 7, 8, 9, 10] rfl (by decide)⟩ rfl rfl hl.1 rfl (lv_room (Nat.le_of_ble_eq_true rfl)) dL_tell_109 ⟨Nat.le_of_ble_eq_true rfl, Nat.le_of_ble_eq_true rfl⟩) hP hD hS hA [0, 1, 2, 3, 4, 5, 6, 7, 8, 9, 10] [11] rfl rfl (by decide) (by decide) (fun r_25 u_26 H locs hw hP hD hS => ?_)
      obtain ⟨T2_27, rfl⟩ : ∃ z, z = u_26 := ⟨_, rfl⟩
      obtain ⟨hw, hf_r_25⟩ := hw
      obtain rfl : r_25 = nI n := hw
      have hP : va_P D vwCl [(rw, .inl (cI, 6, .inl g)), (ob, .inr (5, [.ref (ad 1), .ref (cd 0), .ref (dd 0), .int 0])), (ad 1, .inr (3, [.ref (ad 10), .int 6, .long po, .long oc, .ref (ad 11), .ref (ad 12), .ref (ad 13), .ref (ad 14), .ref (ad 15), .int (nI (n + 1)), .ref (ad 16), .ref (ad 17), .ref (ad 18)])), (ad 10, .inl (cI, 12, .inl (T2_27 0))), (ad 11, .inl (cI, 40, .inl (T2_27 1))), (ad 12, .inl (cI, 40, .inl (T2_27 2))), (ad 13, .inl (cI, 40, .inl (T2_27 3))), (ad 14, .inl (cI, 40, .inl (T2_27 4))), (ad 15, .inl (cI, 40, .inl (T2_27 5))), (ad 16, .inl (cI, 120, .inl (T2_27 6))), (ad 17, .inl (cI, 120, .inl (T2_27 7))), (ad 18, .inl (cI, 120, .inl (T2_27 8)))] _ := hP
      have hD : va_D A [(rw, .inl (cI, 6, .inl g)), (ob, .inr (5, [.ref (ad 1), .ref (cd 0), .ref (dd 0), .int 0])), (ad 1, .inr (3, [.ref (ad 10), .int 6, .long po, .long oc, .ref (ad 11), .ref (ad 12), .ref (ad 13), .ref (ad 14), .ref (ad 15), .int (nI (n + 1)), .ref (ad 16), .ref (ad 17), .ref (ad 18)])), (ad 10, .inl (cI, 12, .inl (T2_27 0))), (ad 11, .inl (cI, 40, .inl (T2_27 1))), (ad 12, .inl (cI, 40, .inl (T2_27 2))), (ad 13, .inl (cI, 40, .inl (T2_27 3))), (ad 14, .inl (cI, 40, .inl (T2_27 4))), (ad 15, .inl (cI, 40, .inl (T2_27 5))), (ad 16, .inl (cI, 120, .inl (T2_27 6))), (ad 17, .inl (cI, 120, .inl (T2_27 7))), (ad 18, .inl (cI, 120, .inl (T2_27 8)))] := hD
      have hP := hP.sub (ws' := [(ob, .inr (5, [.ref (ad 1), .ref (cd 0), .ref (dd 0), .int 0])), (ad 1, .inr (3, [.ref (ad 10), .int 6, .long po, .long oc, .ref (ad 11), .ref (ad 12), .ref (ad 13), .ref (ad 14), .ref (ad 15), .int (nI (n + 1)), .ref (ad 16), .ref (ad 17), .ref (ad 18)])), (ad 10, .inl (cI, 12, .inl (T2_27 0))), (ad 11, .inl (cI, 40, .inl (T2_27 1))), (ad 12, .inl (cI, 40, .inl (T2_27 2))), (ad 13, .inl (cI, 40, .inl (T2_27 3))), (ad 14, .inl (cI, 40, .inl (T2_27 4))), (ad 15, .inl (cI, 40, .inl (T2_27 5))), (ad 16, .inl (cI, 120, .inl (T2_27 6))), (ad 17, .inl (cI, 120, .inl (T2_27 7))), (ad 18, .inl (cI, 120, .inl (T2_27 8))), (rw, .inl (cI, 6, .inl g))]) [1, 2, 3, 4, 5, 6, 7, 8, 9, 10, 11, 0] rfl
      have hD := hD.sub (ws' := [(ob, .inr (5, [.ref (ad 1), .ref (cd 0), .ref (dd 0), .int 0])), (ad 1, .inr (3, [.ref (ad 10), .int 6, .long po, .long oc, .ref (ad 11), .ref (ad 12), .ref (ad 13), .ref (ad 14), .ref (ad 15), .int (nI (n + 1)), .ref (ad 16), .ref (ad 17), .ref (ad 18)])), (ad 10, .inl (cI, 12, .inl (T2_27 0))), (ad 11, .inl (cI, 40, .inl (T2_27 1))), (ad 12, .inl (cI, 40, .inl (T2_27 2))), (ad 13, .inl (cI, 40, .inl (T2_27 3))), (ad 14, .inl (cI, 40, .inl (T2_27 4))), (ad 15, .inl (cI, 40, .inl (T2_27 5))), (ad 16, .inl (cI, 120, .inl (T2_27 6))), (ad 17, .inl (cI, 120, .inl (T2_27 7))), (ad 18, .inl (cI, 120, .inl (T2_27 8))), (rw, .inl (cI, 6, .inl g))]) [1, 2, 3, 4, 5, 6, 7, 8, 9, 10, 11, 0] (by decide) rfl
      exact ke_i hx hb hr (by first | rfl | decide | exact bz_nar _) T2_27 (⟨rfl, by assumption⟩) hP hD hS (Nat.le_of_ble_eq_true rfl) (Nat.le_of_ble_eq_true rfl) hlocks dL_tell_112
    · skip
      refine lv_aload_n hx hb dL_tell_102 rfl (lv_at hl 0 rfl) ?_
      refine lv_aload_n hx hb dL_tell_103 rfl (lv_at hl 1 rfl) ?_
      refine lv_iconst (v := 2) hx hb dL_tell_104 (by decide) ?_
      refine va_iald hx hb hK hP 11 0 rfl rfl (vp_in_nI (n := 2) (by omega) (by omega)) dL_tell_105 ?_
      refine tI (v := g 2) (congrArg g (nI_clamp (n := 2) (by omega))) ?_
      refine tI (v := nI b) g2 ?_
      refine lv_aload_n hx hb dL_tell_106 rfl (lv_at hl 1 rfl) ?_
      refine lv_iconst (v := 3) hx hb dL_tell_107 (by decide) ?_
      refine va_iald hx hb hK hP 11 0 rfl rfl (vp_in_nI (n := 3) (by omega) (by omega)) dL_tell_108 ?_
      refine tI (v := g 3) (congrArg g (nI_clamp (n := 3) (by omega))) ?_
      refine tI (v := q) g3 ?_
      refine kc_i (wr := [(rw, .inl (cI, 6, .inl g))]) (va_runV (As := [.int (nI b), .int q]) (rest := []) ⟨hx, hb, hml, hown, hts⟩ (k_readF l D cI cJ cZ cR ad po oc n T ob cd dd ch b q _ hT hn hb6 h1) (cwV 2 hts (gV q_828 q_825 q_826 q_827 q_64) rfl rfl rfl (by decide +kernel) ⟨Nat.le_of_ble_eq_true rfl, Nat.le_of_ble_eq_true rfl⟩) ⟨Pw.blind, va_recv hK hP (ci := 5) (q0 := 0) rfl rfl, Pw.mk_call hP hK hD hS hA hG [0, 1, 2, 3, 4, 5, 6, 7, 8, 9, 10] rfl (by decide)⟩ rfl rfl hl.1 rfl (lv_room (Nat.le_of_ble_eq_true rfl)) dL_tell_109 ⟨Nat.le_of_ble_eq_true rfl, Nat.le_of_ble_eq_true rfl⟩) hP hD hS hA [0, 1, 2, 3, 4, 5, 6, 7, 8, 9, 10] [11] rfl rfl (by decide) (by decide) (fun r_28 u_29 H locs hw hP hD hS => ?_)
      obtain ⟨T2_30, rfl⟩ : ∃ z, z = u_29 := ⟨_, rfl⟩
      obtain ⟨hw, hf_r_28⟩ := hw
      obtain rfl : r_28 = nI n := hw
      have hP : va_P D vwCl [(rw, .inl (cI, 6, .inl g)), (ob, .inr (5, [.ref (ad 1), .ref (cd 0), .ref (dd 0), .int 0])), (ad 1, .inr (3, [.ref (ad 10), .int 6, .long po, .long oc, .ref (ad 11), .ref (ad 12), .ref (ad 13), .ref (ad 14), .ref (ad 15), .int (nI (n + 1)), .ref (ad 16), .ref (ad 17), .ref (ad 18)])), (ad 10, .inl (cI, 12, .inl (T2_30 0))), (ad 11, .inl (cI, 40, .inl (T2_30 1))), (ad 12, .inl (cI, 40, .inl (T2_30 2))), (ad 13, .inl (cI, 40, .inl (T2_30 3))), (ad 14, .inl (cI, 40, .inl (T2_30 4))), (ad 15, .inl (cI, 40, .inl (T2_30 5))), (ad 16, .inl (cI, 120, .inl (T2_30 6))), (ad 17, .inl (cI, 120, .inl (T2_30 7))), (ad 18, .inl (cI, 120, .inl (T2_30 8)))] _ := hP
      have hD : va_D A [(rw, .inl (cI, 6, .inl g)), (ob, .inr (5, [.ref (ad 1), .ref (cd 0), .ref (dd 0), .int 0])), (ad 1, .inr (3, [.ref (ad 10), .int 6, .long po, .long oc, .ref (ad 11), .ref (ad 12), .ref (ad 13), .ref (ad 14), .ref (ad 15), .int (nI (n + 1)), .ref (ad 16), .ref (ad 17), .ref (ad 18)])), (ad 10, .inl (cI, 12, .inl (T2_30 0))), (ad 11, .inl (cI, 40, .inl (T2_30 1))), (ad 12, .inl (cI, 40, .inl (T2_30 2))), (ad 13, .inl (cI, 40, .inl (T2_30 3))), (ad 14, .inl (cI, 40, .inl (T2_30 4))), (ad 15, .inl (cI, 40, .inl (T2_30 5))), (ad 16, .inl (cI, 120, .inl (T2_30 6))), (ad 17, .inl (cI, 120, .inl (T2_30 7))), (ad 18, .inl (cI, 120, .inl (T2_30 8)))] := hD
      have hP := hP.sub (ws' := [(ob, .inr (5, [.ref (ad 1), .ref (cd 0), .ref (dd 0), .int 0])), (ad 1, .inr (3, [.ref (ad 10), .int 6, .long po, .long oc, .ref (ad 11), .ref (ad 12), .ref (ad 13), .ref (ad 14), .ref (ad 15), .int (nI (n + 1)), .ref (ad 16), .ref (ad 17), .ref (ad 18)])), (ad 10, .inl (cI, 12, .inl (T2_30 0))), (ad 11, .inl (cI, 40, .inl (T2_30 1))), (ad 12, .inl (cI, 40, .inl (T2_30 2))), (ad 13, .inl (cI, 40, .inl (T2_30 3))), (ad 14, .inl (cI, 40, .inl (T2_30 4))), (ad 15, .inl (cI, 40, .inl (T2_30 5))), (ad 16, .inl (cI, 120, .inl (T2_30 6))), (ad 17, .inl (cI, 120, .inl (T2_30 7))), (ad 18, .inl (cI, 120, .inl (T2_30 8))), (rw, .inl (cI, 6, .inl g))]) [1, 2, 3, 4, 5, 6, 7, 8, 9, 10, 11, 0] rfl
      have hD := hD.sub (ws' := [(ob, .inr (5, [.ref (ad 1), .ref (cd 0), .ref (dd 0), .int 0])), (ad 1, .inr (3, [.ref (ad 10), .int 6, .long po, .long oc, .ref (ad 11), .ref (ad 12), .ref (ad 13), .ref (ad 14), .ref (ad 15), .int (nI (n + 1)), .ref (ad 16), .ref (ad 17), .ref (ad 18)])), (ad 10, .inl (cI, 12, .inl (T2_30 0))), (ad 11, .inl (cI, 40, .inl (T2_30 1))), (ad 12, .inl (cI, 40, .inl (T2_30 2))), (ad 13, .inl (cI, 40, .inl (T2_30 3))), (ad 14, .inl (cI, 40, .inl (T2_30 4))), (ad 15, .inl (cI, 40, .inl (T2_30 5))), (ad 16, .inl (cI, 120, .inl (T2_30 6))), (ad 17, .inl (cI, 120, .inl (T2_30 7))), (ad 18, .inl (cI, 120, .inl (T2_30 8))), (rw, .inl (cI, 6, .inl g))]) [1, 2, 3, 4, 5, 6, 7, 8, 9, 10, 11, 0] (by decide) rfl
      exact ke_i hx hb hr (by first | rfl | decide | exact bz_nar _) T2_30 (⟨rfl, by assumption⟩) hP hD hS (Nat.le_of_ble_eq_true rfl) (Nat.le_of_ble_eq_true rfl) hlocks dL_tell_112
    · skip
      refine lv_aload_n hx hb dL_tell_102 rfl (lv_at hl 0 rfl) ?_
      refine lv_aload_n hx hb dL_tell_103 rfl (lv_at hl 1 rfl) ?_
      refine lv_iconst (v := 2) hx hb dL_tell_104 (by decide) ?_
      refine va_iald hx hb hK hP 11 0 rfl rfl (vp_in_nI (n := 2) (by omega) (by omega)) dL_tell_105 ?_
      refine tI (v := g 2) (congrArg g (nI_clamp (n := 2) (by omega))) ?_
      refine tI (v := nI b) g2 ?_
      refine lv_aload_n hx hb dL_tell_106 rfl (lv_at hl 1 rfl) ?_
      refine lv_iconst (v := 3) hx hb dL_tell_107 (by decide) ?_
      refine va_iald hx hb hK hP 11 0 rfl rfl (vp_in_nI (n := 3) (by omega) (by omega)) dL_tell_108 ?_
      refine tI (v := g 3) (congrArg g (nI_clamp (n := 3) (by omega))) ?_
      refine tI (v := 3) g3 ?_
      refine kc_i (wr := [(rw, .inl (cI, 6, .inl g))]) (va_runV (As := [.int (nI b), .int 3]) (rest := []) ⟨hx, hb, hml, hown, hts⟩ (k_readB l D cI cJ cZ cR ad po oc n T ob cd dd ch b _ hT hn hb6 h1) (cwV 2 hts (gV q_828 q_825 q_826 q_827 q_64) rfl rfl rfl (by decide +kernel) ⟨Nat.le_of_ble_eq_true rfl, Nat.le_of_ble_eq_true rfl⟩) ⟨Pw.blind, va_recv hK hP (ci := 5) (q0 := 0) rfl rfl, Pw.mk_call hP hK hD hS hA hG [0, 1, 2, 3, 4, 5, 6, 7, 8, 9, 10] rfl (by decide)⟩ rfl rfl hl.1 rfl (lv_room (Nat.le_of_ble_eq_true rfl)) dL_tell_109 ⟨Nat.le_of_ble_eq_true rfl, Nat.le_of_ble_eq_true rfl⟩) hP hD hS hA [0, 1, 2, 3, 4, 5, 6, 7, 8, 9, 10] [11] rfl rfl (by decide) (by decide) (fun r_31 u_32 H locs hw hP hD hS => ?_)
      obtain ⟨T2_33, rfl⟩ : ∃ z, z = u_32 := ⟨_, rfl⟩
      obtain ⟨hw, hf_r_31⟩ := hw
      obtain rfl : r_31 = nI n := hw
      have hP : va_P D vwCl [(rw, .inl (cI, 6, .inl g)), (ob, .inr (5, [.ref (ad 1), .ref (cd 0), .ref (dd 0), .int 0])), (ad 1, .inr (3, [.ref (ad 10), .int 6, .long po, .long oc, .ref (ad 11), .ref (ad 12), .ref (ad 13), .ref (ad 14), .ref (ad 15), .int (nI (n + 1)), .ref (ad 16), .ref (ad 17), .ref (ad 18)])), (ad 10, .inl (cI, 12, .inl (T2_33 0))), (ad 11, .inl (cI, 40, .inl (T2_33 1))), (ad 12, .inl (cI, 40, .inl (T2_33 2))), (ad 13, .inl (cI, 40, .inl (T2_33 3))), (ad 14, .inl (cI, 40, .inl (T2_33 4))), (ad 15, .inl (cI, 40, .inl (T2_33 5))), (ad 16, .inl (cI, 120, .inl (T2_33 6))), (ad 17, .inl (cI, 120, .inl (T2_33 7))), (ad 18, .inl (cI, 120, .inl (T2_33 8)))] _ := hP
      have hD : va_D A [(rw, .inl (cI, 6, .inl g)), (ob, .inr (5, [.ref (ad 1), .ref (cd 0), .ref (dd 0), .int 0])), (ad 1, .inr (3, [.ref (ad 10), .int 6, .long po, .long oc, .ref (ad 11), .ref (ad 12), .ref (ad 13), .ref (ad 14), .ref (ad 15), .int (nI (n + 1)), .ref (ad 16), .ref (ad 17), .ref (ad 18)])), (ad 10, .inl (cI, 12, .inl (T2_33 0))), (ad 11, .inl (cI, 40, .inl (T2_33 1))), (ad 12, .inl (cI, 40, .inl (T2_33 2))), (ad 13, .inl (cI, 40, .inl (T2_33 3))), (ad 14, .inl (cI, 40, .inl (T2_33 4))), (ad 15, .inl (cI, 40, .inl (T2_33 5))), (ad 16, .inl (cI, 120, .inl (T2_33 6))), (ad 17, .inl (cI, 120, .inl (T2_33 7))), (ad 18, .inl (cI, 120, .inl (T2_33 8)))] := hD
      have hP := hP.sub (ws' := [(ob, .inr (5, [.ref (ad 1), .ref (cd 0), .ref (dd 0), .int 0])), (ad 1, .inr (3, [.ref (ad 10), .int 6, .long po, .long oc, .ref (ad 11), .ref (ad 12), .ref (ad 13), .ref (ad 14), .ref (ad 15), .int (nI (n + 1)), .ref (ad 16), .ref (ad 17), .ref (ad 18)])), (ad 10, .inl (cI, 12, .inl (T2_33 0))), (ad 11, .inl (cI, 40, .inl (T2_33 1))), (ad 12, .inl (cI, 40, .inl (T2_33 2))), (ad 13, .inl (cI, 40, .inl (T2_33 3))), (ad 14, .inl (cI, 40, .inl (T2_33 4))), (ad 15, .inl (cI, 40, .inl (T2_33 5))), (ad 16, .inl (cI, 120, .inl (T2_33 6))), (ad 17, .inl (cI, 120, .inl (T2_33 7))), (ad 18, .inl (cI, 120, .inl (T2_33 8))), (rw, .inl (cI, 6, .inl g))]) [1, 2, 3, 4, 5, 6, 7, 8, 9, 10, 11, 0] rfl
      have hD := hD.sub (ws' := [(ob, .inr (5, [.ref (ad 1), .ref (cd 0), .ref (dd 0), .int 0])), (ad 1, .inr (3, [.ref (ad 10), .int 6, .long po, .long oc, .ref (ad 11), .ref (ad 12), .ref (ad 13), .ref (ad 14), .ref (ad 15), .int (nI (n + 1)), .ref (ad 16), .ref (ad 17), .ref (ad 18)])), (ad 10, .inl (cI, 12, .inl (T2_33 0))), (ad 11, .inl (cI, 40, .inl (T2_33 1))), (ad 12, .inl (cI, 40, .inl (T2_33 2))), (ad 13, .inl (cI, 40, .inl (T2_33 3))), (ad 14, .inl (cI, 40, .inl (T2_33 4))), (ad 15, .inl (cI, 40, .inl (T2_33 5))), (ad 16, .inl (cI, 120, .inl (T2_33 6))), (ad 17, .inl (cI, 120, .inl (T2_33 7))), (ad 18, .inl (cI, 120, .inl (T2_33 8))), (rw, .inl (cI, 6, .inl g))]) [1, 2, 3, 4, 5, 6, 7, 8, 9, 10, 11, 0] (by decide) rfl
      exact ke_i hx hb hr (by first | rfl | decide | exact bz_nar _) T2_33 (⟨rfl, by assumption⟩) hP hD hS (Nat.le_of_ble_eq_true rfl) (Nat.le_of_ble_eq_true rfl) hlocks dL_tell_112
  · skip
    refine lv_tableIn (tgt := 113) (off := 110) hx hb dL_tell_3 (by decide) (by decide) (by decide) (by decide) ?_
    refine lv_aload_n hx hb dL_tell_113 rfl (lv_at hl 0 rfl) ?_
    refine lv_aload_n hx hb dL_tell_114 rfl (lv_at hl 1 rfl) ?_
    refine lv_iconst (v := 2) hx hb dL_tell_115 (by decide) ?_
    refine va_iald hx hb hK hP 11 0 rfl rfl (vp_in_nI (n := 2) (by omega) (by omega)) dL_tell_116 ?_
    refine tI (v := g 2) (congrArg g (nI_clamp (n := 2) (by omega))) ?_
    refine tI (v := nI b) g2 ?_
    refine kc_i (wr := [(rw, .inl (cI, 6, .inl g))]) (va_runV (As := [.int (nI b)]) (rest := []) ⟨hx, hb, hml, hown, hts⟩ (k_drop l D cI cJ cZ cR ad po oc n T ob cd dd ch b _ hT hn hb6) (cwV 1 hts (gV q_833 q_830 q_831 q_832 q_64) rfl rfl rfl (by decide +kernel) ⟨Nat.le_of_ble_eq_true rfl, Nat.le_of_ble_eq_true rfl⟩) ⟨Pw.blind, va_recv hK hP (ci := 5) (q0 := 0) rfl rfl, Pw.mk_call hP hK hD hS hA hG [0, 1, 2, 3, 4, 5, 6, 7, 8, 9, 10] rfl (by decide)⟩ rfl rfl hl.1 rfl (lv_room (Nat.le_of_ble_eq_true rfl)) dL_tell_117 ⟨Nat.le_of_ble_eq_true rfl, Nat.le_of_ble_eq_true rfl⟩) hP hD hS hA [0, 1, 2, 3, 4, 5, 6, 7, 8, 9, 10] [11] rfl rfl (by decide) (by decide) (fun r_34 u_35 H locs hw hP hD hS => ?_)
    obtain ⟨T2_36, rfl⟩ : ∃ z, z = u_35 := ⟨_, rfl⟩
    obtain ⟨hw, hf_r_34⟩ := hw
    obtain rfl : r_34 = nI n := hw
    have hP : va_P D vwCl [(rw, .inl (cI, 6, .inl g)), (ob, .inr (5, [.ref (ad 1), .ref (cd 0), .ref (dd 0), .int 0])), (ad 1, .inr (3, [.ref (ad 10), .int 6, .long po, .long oc, .ref (ad 11), .ref (ad 12), .ref (ad 13), .ref (ad 14), .ref (ad 15), .int (nI (n + 1)), .ref (ad 16), .ref (ad 17), .ref (ad 18)])), (ad 10, .inl (cI, 12, .inl (T2_36 0))), (ad 11, .inl (cI, 40, .inl (T2_36 1))), (ad 12, .inl (cI, 40, .inl (T2_36 2))), (ad 13, .inl (cI, 40, .inl (T2_36 3))), (ad 14, .inl (cI, 40, .inl (T2_36 4))), (ad 15, .inl (cI, 40, .inl (T2_36 5))), (ad 16, .inl (cI, 120, .inl (T2_36 6))), (ad 17, .inl (cI, 120, .inl (T2_36 7))), (ad 18, .inl (cI, 120, .inl (T2_36 8)))] _ := hP
    have hD : va_D A [(rw, .inl (cI, 6, .inl g)), (ob, .inr (5, [.ref (ad 1), .ref (cd 0), .ref (dd 0), .int 0])), (ad 1, .inr (3, [.ref (ad 10), .int 6, .long po, .long oc, .ref (ad 11), .ref (ad 12), .ref (ad 13), .ref (ad 14), .ref (ad 15), .int (nI (n + 1)), .ref (ad 16), .ref (ad 17), .ref (ad 18)])), (ad 10, .inl (cI, 12, .inl (T2_36 0))), (ad 11, .inl (cI, 40, .inl (T2_36 1))), (ad 12, .inl (cI, 40, .inl (T2_36 2))), (ad 13, .inl (cI, 40, .inl (T2_36 3))), (ad 14, .inl (cI, 40, .inl (T2_36 4))), (ad 15, .inl (cI, 40, .inl (T2_36 5))), (ad 16, .inl (cI, 120, .inl (T2_36 6))), (ad 17, .inl (cI, 120, .inl (T2_36 7))), (ad 18, .inl (cI, 120, .inl (T2_36 8)))] := hD
    have hP := hP.sub (ws' := [(ob, .inr (5, [.ref (ad 1), .ref (cd 0), .ref (dd 0), .int 0])), (ad 1, .inr (3, [.ref (ad 10), .int 6, .long po, .long oc, .ref (ad 11), .ref (ad 12), .ref (ad 13), .ref (ad 14), .ref (ad 15), .int (nI (n + 1)), .ref (ad 16), .ref (ad 17), .ref (ad 18)])), (ad 10, .inl (cI, 12, .inl (T2_36 0))), (ad 11, .inl (cI, 40, .inl (T2_36 1))), (ad 12, .inl (cI, 40, .inl (T2_36 2))), (ad 13, .inl (cI, 40, .inl (T2_36 3))), (ad 14, .inl (cI, 40, .inl (T2_36 4))), (ad 15, .inl (cI, 40, .inl (T2_36 5))), (ad 16, .inl (cI, 120, .inl (T2_36 6))), (ad 17, .inl (cI, 120, .inl (T2_36 7))), (ad 18, .inl (cI, 120, .inl (T2_36 8))), (rw, .inl (cI, 6, .inl g))]) [1, 2, 3, 4, 5, 6, 7, 8, 9, 10, 11, 0] rfl
    have hD := hD.sub (ws' := [(ob, .inr (5, [.ref (ad 1), .ref (cd 0), .ref (dd 0), .int 0])), (ad 1, .inr (3, [.ref (ad 10), .int 6, .long po, .long oc, .ref (ad 11), .ref (ad 12), .ref (ad 13), .ref (ad 14), .ref (ad 15), .int (nI (n + 1)), .ref (ad 16), .ref (ad 17), .ref (ad 18)])), (ad 10, .inl (cI, 12, .inl (T2_36 0))), (ad 11, .inl (cI, 40, .inl (T2_36 1))), (ad 12, .inl (cI, 40, .inl (T2_36 2))), (ad 13, .inl (cI, 40, .inl (T2_36 3))), (ad 14, .inl (cI, 40, .inl (T2_36 4))), (ad 15, .inl (cI, 40, .inl (T2_36 5))), (ad 16, .inl (cI, 120, .inl (T2_36 6))), (ad 17, .inl (cI, 120, .inl (T2_36 7))), (ad 18, .inl (cI, 120, .inl (T2_36 8))), (rw, .inl (cI, 6, .inl g))]) [1, 2, 3, 4, 5, 6, 7, 8, 9, 10, 11, 0] (by decide) rfl
    exact ke_i hx hb hr (by first | rfl | decide | exact bz_nar _) T2_36 (⟨rfl, by assumption⟩) hP hD hS (Nat.le_of_ble_eq_true rfl) (Nat.le_of_ble_eq_true rfl) hlocks dL_tell_120
  · skip
    refine lv_tableIn (tgt := 121) (off := 118) hx hb dL_tell_3 (by decide) (by decide) (by decide) (by decide) ?_
    rcases hok.2.2.2.2.2 rfl with rfl | ⟨o, ho, rfl, h1⟩
    · skip
      refine lv_aload_n hx hb dL_tell_121 rfl (lv_at hl 0 rfl) ?_
      refine lv_aload_n hx hb dL_tell_122 rfl (lv_at hl 1 rfl) ?_
      refine lv_iconst (v := 1) hx hb dL_tell_123 (by decide) ?_
      refine va_iald hx hb hK hP 11 0 rfl rfl (vp_in_nI (n := 1) (by omega) (by omega)) dL_tell_124 ?_
      refine tI (v := g 1) (congrArg g (nI_clamp (n := 1) (by omega))) ?_
      refine tI (v := nI a) g1 ?_
      refine lv_aload_n hx hb dL_tell_125 rfl (lv_at hl 1 rfl) ?_
      refine lv_iconst (v := 2) hx hb dL_tell_126 (by decide) ?_
      refine va_iald hx hb hK hP 11 0 rfl rfl (vp_in_nI (n := 2) (by omega) (by omega)) dL_tell_127 ?_
      refine tI (v := g 2) (congrArg g (nI_clamp (n := 2) (by omega))) ?_
      refine tI (v := nI b) g2 ?_
      refine lv_aload_n hx hb dL_tell_128 rfl (lv_at hl 1 rfl) ?_
      refine lv_iconst (v := 3) hx hb dL_tell_129 (by decide) ?_
      refine va_iald hx hb hK hP 11 0 rfl rfl (vp_in_nI (n := 3) (by omega) (by omega)) dL_tell_130 ?_
      refine tI (v := g 3) (congrArg g (nI_clamp (n := 3) (by omega))) ?_
      refine tI (v := (-1)) g3 ?_
      refine lv_aload_n hx hb dL_tell_131 rfl (lv_at hl 1 rfl) ?_
      refine lv_iconst (v := 4) hx hb dL_tell_132 (by decide) ?_
      refine va_iald hx hb hK hP 11 0 rfl rfl (vp_in_nI (n := 4) (by omega) (by omega)) dL_tell_133 ?_
      refine tI (v := g 4) (congrArg g (nI_clamp (n := 4) (by omega))) ?_
      refine tI (v := nI tt) g4 ?_
      refine kc_i (wr := [(rw, .inl (cI, 6, .inl g))]) (va_runV (As := [.int (nI a), .int (nI b), .int (-1), .int (nI tt)]) (rest := []) ⟨hx, hb, hml, hown, hts⟩ (k_callA l D cI cJ cZ cR ad po oc n T ob cd dd ch a b tt _ hT hn ha6 hb6 htt) (cwV 4 hts (gV q_837 q_834 q_835 q_836 q_64) rfl rfl rfl (by decide +kernel) ⟨Nat.le_of_ble_eq_true rfl, Nat.le_of_ble_eq_true rfl⟩) ⟨Pw.blind, va_recv hK hP (ci := 5) (q0 := 0) rfl rfl, Pw.mk_call hP hK hD hS hA hG [0, 1, 2, 3, 4, 5, 6, 7, 8, 9, 10] rfl (by decide)⟩ rfl rfl hl.1 rfl (lv_room (Nat.le_of_ble_eq_true rfl)) dL_tell_134 ⟨Nat.le_of_ble_eq_true rfl, Nat.le_of_ble_eq_true rfl⟩) hP hD hS hA [0, 1, 2, 3, 4, 5, 6, 7, 8, 9, 10] [11] rfl rfl (by decide) (by decide) (fun r_37 u_38 H locs hw hP hD hS => ?_)
      obtain ⟨T2_39, rfl⟩ : ∃ z, z = u_38 := ⟨_, rfl⟩
      obtain ⟨hw, hf_r_37⟩ := hw
      obtain rfl : r_37 = nI n := hw
      have hP : va_P D vwCl [(rw, .inl (cI, 6, .inl g)), (ob, .inr (5, [.ref (ad 1), .ref (cd 0), .ref (dd 0), .int 0])), (ad 1, .inr (3, [.ref (ad 10), .int 6, .long po, .long oc, .ref (ad 11), .ref (ad 12), .ref (ad 13), .ref (ad 14), .ref (ad 15), .int (nI (n + 1)), .ref (ad 16), .ref (ad 17), .ref (ad 18)])), (ad 10, .inl (cI, 12, .inl (T2_39 0))), (ad 11, .inl (cI, 40, .inl (T2_39 1))), (ad 12, .inl (cI, 40, .inl (T2_39 2))), (ad 13, .inl (cI, 40, .inl (T2_39 3))), (ad 14, .inl (cI, 40, .inl (T2_39 4))), (ad 15, .inl (cI, 40, .inl (T2_39 5))), (ad 16, .inl (cI, 120, .inl (T2_39 6))), (ad 17, .inl (cI, 120, .inl (T2_39 7))), (ad 18, .inl (cI, 120, .inl (T2_39 8)))] _ := hP
      have hD : va_D A [(rw, .inl (cI, 6, .inl g)), (ob, .inr (5, [.ref (ad 1), .ref (cd 0), .ref (dd 0), .int 0])), (ad 1, .inr (3, [.ref (ad 10), .int 6, .long po, .long oc, .ref (ad 11), .ref (ad 12), .ref (ad 13), .ref (ad 14), .ref (ad 15), .int (nI (n + 1)), .ref (ad 16), .ref (ad 17), .ref (ad 18)])), (ad 10, .inl (cI, 12, .inl (T2_39 0))), (ad 11, .inl (cI, 40, .inl (T2_39 1))), (ad 12, .inl (cI, 40, .inl (T2_39 2))), (ad 13, .inl (cI, 40, .inl (T2_39 3))), (ad 14, .inl (cI, 40, .inl (T2_39 4))), (ad 15, .inl (cI, 40, .inl (T2_39 5))), (ad 16, .inl (cI, 120, .inl (T2_39 6))), (ad 17, .inl (cI, 120, .inl (T2_39 7))), (ad 18, .inl (cI, 120, .inl (T2_39 8)))] := hD
      have hP := hP.sub (ws' := [(ob, .inr (5, [.ref (ad 1), .ref (cd 0), .ref (dd 0), .int 0])), (ad 1, .inr (3, [.ref (ad 10), .int 6, .long po, .long oc, .ref (ad 11), .ref (ad 12), .ref (ad 13), .ref (ad 14), .ref (ad 15), .int (nI (n + 1)), .ref (ad 16), .ref (ad 17), .ref (ad 18)])), (ad 10, .inl (cI, 12, .inl (T2_39 0))), (ad 11, .inl (cI, 40, .inl (T2_39 1))), (ad 12, .inl (cI, 40, .inl (T2_39 2))), (ad 13, .inl (cI, 40, .inl (T2_39 3))), (ad 14, .inl (cI, 40, .inl (T2_39 4))), (ad 15, .inl (cI, 40, .inl (T2_39 5))), (ad 16, .inl (cI, 120, .inl (T2_39 6))), (ad 17, .inl (cI, 120, .inl (T2_39 7))), (ad 18, .inl (cI, 120, .inl (T2_39 8))), (rw, .inl (cI, 6, .inl g))]) [1, 2, 3, 4, 5, 6, 7, 8, 9, 10, 11, 0] rfl
      have hD := hD.sub (ws' := [(ob, .inr (5, [.ref (ad 1), .ref (cd 0), .ref (dd 0), .int 0])), (ad 1, .inr (3, [.ref (ad 10), .int 6, .long po, .long oc, .ref (ad 11), .ref (ad 12), .ref (ad 13), .ref (ad 14), .ref (ad 15), .int (nI (n + 1)), .ref (ad 16), .ref (ad 17), .ref (ad 18)])), (ad 10, .inl (cI, 12, .inl (T2_39 0))), (ad 11, .inl (cI, 40, .inl (T2_39 1))), (ad 12, .inl (cI, 40, .inl (T2_39 2))), (ad 13, .inl (cI, 40, .inl (T2_39 3))), (ad 14, .inl (cI, 40, .inl (T2_39 4))), (ad 15, .inl (cI, 40, .inl (T2_39 5))), (ad 16, .inl (cI, 120, .inl (T2_39 6))), (ad 17, .inl (cI, 120, .inl (T2_39 7))), (ad 18, .inl (cI, 120, .inl (T2_39 8))), (rw, .inl (cI, 6, .inl g))]) [1, 2, 3, 4, 5, 6, 7, 8, 9, 10, 11, 0] (by decide) rfl
      exact ke_i hx hb hr (by first | rfl | decide | exact bz_nar _) T2_39 (⟨rfl, by assumption⟩) hP hD hS (Nat.le_of_ble_eq_true rfl) (Nat.le_of_ble_eq_true rfl) hlocks dL_tell_137
    · skip
      refine lv_aload_n hx hb dL_tell_121 rfl (lv_at hl 0 rfl) ?_
      refine lv_aload_n hx hb dL_tell_122 rfl (lv_at hl 1 rfl) ?_
      refine lv_iconst (v := 1) hx hb dL_tell_123 (by decide) ?_
      refine va_iald hx hb hK hP 11 0 rfl rfl (vp_in_nI (n := 1) (by omega) (by omega)) dL_tell_124 ?_
      refine tI (v := g 1) (congrArg g (nI_clamp (n := 1) (by omega))) ?_
      refine tI (v := nI a) g1 ?_
      refine lv_aload_n hx hb dL_tell_125 rfl (lv_at hl 1 rfl) ?_
      refine lv_iconst (v := 2) hx hb dL_tell_126 (by decide) ?_
      refine va_iald hx hb hK hP 11 0 rfl rfl (vp_in_nI (n := 2) (by omega) (by omega)) dL_tell_127 ?_
      refine tI (v := g 2) (congrArg g (nI_clamp (n := 2) (by omega))) ?_
      refine tI (v := nI b) g2 ?_
      refine lv_aload_n hx hb dL_tell_128 rfl (lv_at hl 1 rfl) ?_
      refine lv_iconst (v := 3) hx hb dL_tell_129 (by decide) ?_
      refine va_iald hx hb hK hP 11 0 rfl rfl (vp_in_nI (n := 3) (by omega) (by omega)) dL_tell_130 ?_
      refine tI (v := g 3) (congrArg g (nI_clamp (n := 3) (by omega))) ?_
      refine tI (v := nI o) g3 ?_
      refine lv_aload_n hx hb dL_tell_131 rfl (lv_at hl 1 rfl) ?_
      refine lv_iconst (v := 4) hx hb dL_tell_132 (by decide) ?_
      refine va_iald hx hb hK hP 11 0 rfl rfl (vp_in_nI (n := 4) (by omega) (by omega)) dL_tell_133 ?_
      refine tI (v := g 4) (congrArg g (nI_clamp (n := 4) (by omega))) ?_
      refine tI (v := nI tt) g4 ?_
      refine kc_i (wr := [(rw, .inl (cI, 6, .inl g))]) (va_runV (As := [.int (nI a), .int (nI b), .int (nI o), .int (nI tt)]) (rest := []) ⟨hx, hb, hml, hown, hts⟩ (k_callB l D cI cJ cZ cR ad po oc n T ob cd dd ch a b o tt _ hT hn ha6 hb6 ho (fun h => h1 h.symm) htt) (cwV 4 hts (gV q_837 q_834 q_835 q_836 q_64) rfl rfl rfl (by decide +kernel) ⟨Nat.le_of_ble_eq_true rfl, Nat.le_of_ble_eq_true rfl⟩) ⟨Pw.blind, va_recv hK hP (ci := 5) (q0 := 0) rfl rfl, Pw.mk_call hP hK hD hS hA hG [0, 1, 2, 3, 4, 5, 6, 7, 8, 9, 10] rfl (by decide)⟩ rfl rfl hl.1 rfl (lv_room (Nat.le_of_ble_eq_true rfl)) dL_tell_134 ⟨Nat.le_of_ble_eq_true rfl, Nat.le_of_ble_eq_true rfl⟩) hP hD hS hA [0, 1, 2, 3, 4, 5, 6, 7, 8, 9, 10] [11] rfl rfl (by decide) (by decide) (fun r_40 u_41 H locs hw hP hD hS => ?_)
      obtain ⟨T2_42, rfl⟩ : ∃ z, z = u_41 := ⟨_, rfl⟩
      obtain ⟨hw, hf_r_40⟩ := hw
      obtain rfl : r_40 = nI n := hw
      have hP : va_P D vwCl [(rw, .inl (cI, 6, .inl g)), (ob, .inr (5, [.ref (ad 1), .ref (cd 0), .ref (dd 0), .int 0])), (ad 1, .inr (3, [.ref (ad 10), .int 6, .long po, .long oc, .ref (ad 11), .ref (ad 12), .ref (ad 13), .ref (ad 14), .ref (ad 15), .int (nI (n + 1)), .ref (ad 16), .ref (ad 17), .ref (ad 18)])), (ad 10, .inl (cI, 12, .inl (T2_42 0))), (ad 11, .inl (cI, 40, .inl (T2_42 1))), (ad 12, .inl (cI, 40, .inl (T2_42 2))), (ad 13, .inl (cI, 40, .inl (T2_42 3))), (ad 14, .inl (cI, 40, .inl (T2_42 4))), (ad 15, .inl (cI, 40, .inl (T2_42 5))), (ad 16, .inl (cI, 120, .inl (T2_42 6))), (ad 17, .inl (cI, 120, .inl (T2_42 7))), (ad 18, .inl (cI, 120, .inl (T2_42 8)))] _ := hP
      have hD : va_D A [(rw, .inl (cI, 6, .inl g)), (ob, .inr (5, [.ref (ad 1), .ref (cd 0), .ref (dd 0), .int 0])), (ad 1, .inr (3, [.ref (ad 10), .int 6, .long po, .long oc, .ref (ad 11), .ref (ad 12), .ref (ad 13), .ref (ad 14), .ref (ad 15), .int (nI (n + 1)), .ref (ad 16), .ref (ad 17), .ref (ad 18)])), (ad 10, .inl (cI, 12, .inl (T2_42 0))), (ad 11, .inl (cI, 40, .inl (T2_42 1))), (ad 12, .inl (cI, 40, .inl (T2_42 2))), (ad 13, .inl (cI, 40, .inl (T2_42 3))), (ad 14, .inl (cI, 40, .inl (T2_42 4))), (ad 15, .inl (cI, 40, .inl (T2_42 5))), (ad 16, .inl (cI, 120, .inl (T2_42 6))), (ad 17, .inl (cI, 120, .inl (T2_42 7))), (ad 18, .inl (cI, 120, .inl (T2_42 8)))] := hD
      have hP := hP.sub (ws' := [(ob, .inr (5, [.ref (ad 1), .ref (cd 0), .ref (dd 0), .int 0])), (ad 1, .inr (3, [.ref (ad 10), .int 6, .long po, .long oc, .ref (ad 11), .ref (ad 12), .ref (ad 13), .ref (ad 14), .ref (ad 15), .int (nI (n + 1)), .ref (ad 16), .ref (ad 17), .ref (ad 18)])), (ad 10, .inl (cI, 12, .inl (T2_42 0))), (ad 11, .inl (cI, 40, .inl (T2_42 1))), (ad 12, .inl (cI, 40, .inl (T2_42 2))), (ad 13, .inl (cI, 40, .inl (T2_42 3))), (ad 14, .inl (cI, 40, .inl (T2_42 4))), (ad 15, .inl (cI, 40, .inl (T2_42 5))), (ad 16, .inl (cI, 120, .inl (T2_42 6))), (ad 17, .inl (cI, 120, .inl (T2_42 7))), (ad 18, .inl (cI, 120, .inl (T2_42 8))), (rw, .inl (cI, 6, .inl g))]) [1, 2, 3, 4, 5, 6, 7, 8, 9, 10, 11, 0] rfl
      have hD := hD.sub (ws' := [(ob, .inr (5, [.ref (ad 1), .ref (cd 0), .ref (dd 0), .int 0])), (ad 1, .inr (3, [.ref (ad 10), .int 6, .long po, .long oc, .ref (ad 11), .ref (ad 12), .ref (ad 13), .ref (ad 14), .ref (ad 15), .int (nI (n + 1)), .ref (ad 16), .ref (ad 17), .ref (ad 18)])), (ad 10, .inl (cI, 12, .inl (T2_42 0))), (ad 11, .inl (cI, 40, .inl (T2_42 1))), (ad 12, .inl (cI, 40, .inl (T2_42 2))), (ad 13, .inl (cI, 40, .inl (T2_42 3))), (ad 14, .inl (cI, 40, .inl (T2_42 4))), (ad 15, .inl (cI, 40, .inl (T2_42 5))), (ad 16, .inl (cI, 120, .inl (T2_42 6))), (ad 17, .inl (cI, 120, .inl (T2_42 7))), (ad 18, .inl (cI, 120, .inl (T2_42 8))), (rw, .inl (cI, 6, .inl g))]) [1, 2, 3, 4, 5, 6, 7, 8, 9, 10, 11, 0] (by decide) rfl
      exact ke_i hx hb hr (by first | rfl | decide | exact bz_nar _) T2_42 (⟨rfl, by assumption⟩) hP hD hS (Nat.le_of_ble_eq_true rfl) (Nat.le_of_ble_eq_true rfl) hlocks dL_tell_137
  · skip
    refine lv_tableIn (tgt := 138) (off := 135) hx hb dL_tell_3 (by decide) (by decide) (by decide) (by decide) ?_
    refine lv_aload_n hx hb dL_tell_138 rfl (lv_at hl 0 rfl) ?_
    refine lv_aload_n hx hb dL_tell_139 rfl (lv_at hl 1 rfl) ?_
    refine lv_iconst (v := 0) hx hb dL_tell_140 (by decide) ?_
    refine va_iald hx hb hK hP 11 0 rfl rfl (vp_in_nI (n := 0) (by omega) (by omega)) dL_tell_141 ?_
    refine tI (v := g 0) (congrArg g (nI_clamp (n := 0) (by omega))) ?_
    refine tI (v := 7) g0 ?_
    refine lv_bipush (v := 8) hx hb dL_tell_142 (by decide) ?_
    refine lv_icmp_ne (tgt := 151) hx hb dL_tell_144 (by decide) (fun c_144 => ?_) (fun c_144 => absurd c_144 (by decide))
    refine lv_iconst (v := 0) hx hb dL_tell_151 (by decide) ?_
    refine lv_aload_n hx hb dL_tell_152 rfl (lv_at hl 1 rfl) ?_
    refine lv_iconst (v := 5) hx hb dL_tell_153 (by decide) ?_
    refine va_iald hx hb hK hP 11 0 rfl rfl (vp_in_nI (n := 5) (by omega) (by omega)) dL_tell_154 ?_
    refine tI (v := g 5) (congrArg g (nI_clamp (n := 5) (by omega))) ?_
    refine tI (v := nI tg) g5 ?_
    refine kc_i (wr := [(rw, .inl (cI, 6, .inl g))]) (va_runV (As := [.int 0, .int (nI tg)]) (rest := []) ⟨hx, hb, hml, hown, hts⟩ (k_branch l D cI cJ cZ cR ad po oc n T ob cd dd ch tg false _ hT hn (by omega)) (cwV 2 hts (gV q_847 q_844 q_845 q_846 q_64) rfl rfl rfl (by decide +kernel) ⟨Nat.le_of_ble_eq_true rfl, Nat.le_of_ble_eq_true rfl⟩) ⟨Pw.blind, va_recv hK hP (ci := 5) (q0 := 0) rfl rfl, Pw.mk_call hP hK hD hS hA hG [0, 1, 2, 3, 4, 5, 6, 7, 8, 9, 10] rfl (by decide)⟩ rfl rfl hl.1 rfl (lv_room (Nat.le_of_ble_eq_true rfl)) dL_tell_155 ⟨Nat.le_of_ble_eq_true rfl, Nat.le_of_ble_eq_true rfl⟩) hP hD hS hA [0, 1, 2, 3, 4, 5, 6, 7, 8, 9, 10] [11] rfl rfl (by decide) (by decide) (fun r_43 u_44 H locs hw hP hD hS => ?_)
    obtain ⟨T2_45, rfl⟩ : ∃ z, z = u_44 := ⟨_, rfl⟩
    obtain ⟨hw, hf_r_43⟩ := hw
    obtain rfl : r_43 = nI n := hw
    have hP : va_P D vwCl [(rw, .inl (cI, 6, .inl g)), (ob, .inr (5, [.ref (ad 1), .ref (cd 0), .ref (dd 0), .int 0])), (ad 1, .inr (3, [.ref (ad 10), .int 6, .long po, .long oc, .ref (ad 11), .ref (ad 12), .ref (ad 13), .ref (ad 14), .ref (ad 15), .int (nI (n + 1)), .ref (ad 16), .ref (ad 17), .ref (ad 18)])), (ad 10, .inl (cI, 12, .inl (T2_45 0))), (ad 11, .inl (cI, 40, .inl (T2_45 1))), (ad 12, .inl (cI, 40, .inl (T2_45 2))), (ad 13, .inl (cI, 40, .inl (T2_45 3))), (ad 14, .inl (cI, 40, .inl (T2_45 4))), (ad 15, .inl (cI, 40, .inl (T2_45 5))), (ad 16, .inl (cI, 120, .inl (T2_45 6))), (ad 17, .inl (cI, 120, .inl (T2_45 7))), (ad 18, .inl (cI, 120, .inl (T2_45 8)))] _ := hP
    have hD : va_D A [(rw, .inl (cI, 6, .inl g)), (ob, .inr (5, [.ref (ad 1), .ref (cd 0), .ref (dd 0), .int 0])), (ad 1, .inr (3, [.ref (ad 10), .int 6, .long po, .long oc, .ref (ad 11), .ref (ad 12), .ref (ad 13), .ref (ad 14), .ref (ad 15), .int (nI (n + 1)), .ref (ad 16), .ref (ad 17), .ref (ad 18)])), (ad 10, .inl (cI, 12, .inl (T2_45 0))), (ad 11, .inl (cI, 40, .inl (T2_45 1))), (ad 12, .inl (cI, 40, .inl (T2_45 2))), (ad 13, .inl (cI, 40, .inl (T2_45 3))), (ad 14, .inl (cI, 40, .inl (T2_45 4))), (ad 15, .inl (cI, 40, .inl (T2_45 5))), (ad 16, .inl (cI, 120, .inl (T2_45 6))), (ad 17, .inl (cI, 120, .inl (T2_45 7))), (ad 18, .inl (cI, 120, .inl (T2_45 8)))] := hD
    have hP := hP.sub (ws' := [(ob, .inr (5, [.ref (ad 1), .ref (cd 0), .ref (dd 0), .int 0])), (ad 1, .inr (3, [.ref (ad 10), .int 6, .long po, .long oc, .ref (ad 11), .ref (ad 12), .ref (ad 13), .ref (ad 14), .ref (ad 15), .int (nI (n + 1)), .ref (ad 16), .ref (ad 17), .ref (ad 18)])), (ad 10, .inl (cI, 12, .inl (T2_45 0))), (ad 11, .inl (cI, 40, .inl (T2_45 1))), (ad 12, .inl (cI, 40, .inl (T2_45 2))), (ad 13, .inl (cI, 40, .inl (T2_45 3))), (ad 14, .inl (cI, 40, .inl (T2_45 4))), (ad 15, .inl (cI, 40, .inl (T2_45 5))), (ad 16, .inl (cI, 120, .inl (T2_45 6))), (ad 17, .inl (cI, 120, .inl (T2_45 7))), (ad 18, .inl (cI, 120, .inl (T2_45 8))), (rw, .inl (cI, 6, .inl g))]) [1, 2, 3, 4, 5, 6, 7, 8, 9, 10, 11, 0] rfl
    have hD := hD.sub (ws' := [(ob, .inr (5, [.ref (ad 1), .ref (cd 0), .ref (dd 0), .int 0])), (ad 1, .inr (3, [.ref (ad 10), .int 6, .long po, .long oc, .ref (ad 11), .ref (ad 12), .ref (ad 13), .ref (ad 14), .ref (ad 15), .int (nI (n + 1)), .ref (ad 16), .ref (ad 17), .ref (ad 18)])), (ad 10, .inl (cI, 12, .inl (T2_45 0))), (ad 11, .inl (cI, 40, .inl (T2_45 1))), (ad 12, .inl (cI, 40, .inl (T2_45 2))), (ad 13, .inl (cI, 40, .inl (T2_45 3))), (ad 14, .inl (cI, 40, .inl (T2_45 4))), (ad 15, .inl (cI, 40, .inl (T2_45 5))), (ad 16, .inl (cI, 120, .inl (T2_45 6))), (ad 17, .inl (cI, 120, .inl (T2_45 7))), (ad 18, .inl (cI, 120, .inl (T2_45 8))), (rw, .inl (cI, 6, .inl g))]) [1, 2, 3, 4, 5, 6, 7, 8, 9, 10, 11, 0] (by decide) rfl
    exact ke_i hx hb hr (by first | rfl | decide | exact bz_nar _) T2_45 (⟨rfl, by assumption⟩) hP hD hS (Nat.le_of_ble_eq_true rfl) (Nat.le_of_ble_eq_true rfl) hlocks dL_tell_158
  · skip
    refine lv_tableIn (tgt := 138) (off := 135) hx hb dL_tell_3 (by decide) (by decide) (by decide) (by decide) ?_
    refine lv_aload_n hx hb dL_tell_138 rfl (lv_at hl 0 rfl) ?_
    refine lv_aload_n hx hb dL_tell_139 rfl (lv_at hl 1 rfl) ?_
    refine lv_iconst (v := 0) hx hb dL_tell_140 (by decide) ?_
    refine va_iald hx hb hK hP 11 0 rfl rfl (vp_in_nI (n := 0) (by omega) (by omega)) dL_tell_141 ?_
    refine tI (v := g 0) (congrArg g (nI_clamp (n := 0) (by omega))) ?_
    refine tI (v := 8) g0 ?_
    refine lv_bipush (v := 8) hx hb dL_tell_142 (by decide) ?_
    refine lv_icmp_ne (tgt := 151) hx hb dL_tell_144 (by decide) (fun c_144 => absurd (by decide) c_144) (fun c_144 => ?_)
    refine lv_iconst (v := 1) hx hb dL_tell_147 (by decide) ?_
    refine lv_goto (tgt := 152) hx hb dL_tell_148 (by decide) ?_
    refine lv_aload_n hx hb dL_tell_152 rfl (lv_at hl 1 rfl) ?_
    refine lv_iconst (v := 5) hx hb dL_tell_153 (by decide) ?_
    refine va_iald hx hb hK hP 11 0 rfl rfl (vp_in_nI (n := 5) (by omega) (by omega)) dL_tell_154 ?_
    refine tI (v := g 5) (congrArg g (nI_clamp (n := 5) (by omega))) ?_
    refine tI (v := nI tg) g5 ?_
    refine kc_i (wr := [(rw, .inl (cI, 6, .inl g))]) (va_runV (As := [.int 1, .int (nI tg)]) (rest := []) ⟨hx, hb, hml, hown, hts⟩ (k_branch l D cI cJ cZ cR ad po oc n T ob cd dd ch tg true _ hT hn (by omega)) (cwV 2 hts (gV q_847 q_844 q_845 q_846 q_64) rfl rfl rfl (by decide +kernel) ⟨Nat.le_of_ble_eq_true rfl, Nat.le_of_ble_eq_true rfl⟩) ⟨Pw.blind, va_recv hK hP (ci := 5) (q0 := 0) rfl rfl, Pw.mk_call hP hK hD hS hA hG [0, 1, 2, 3, 4, 5, 6, 7, 8, 9, 10] rfl (by decide)⟩ rfl rfl hl.1 rfl (lv_room (Nat.le_of_ble_eq_true rfl)) dL_tell_155 ⟨Nat.le_of_ble_eq_true rfl, Nat.le_of_ble_eq_true rfl⟩) hP hD hS hA [0, 1, 2, 3, 4, 5, 6, 7, 8, 9, 10] [11] rfl rfl (by decide) (by decide) (fun r_46 u_47 H locs hw hP hD hS => ?_)
    obtain ⟨T2_48, rfl⟩ : ∃ z, z = u_47 := ⟨_, rfl⟩
    obtain ⟨hw, hf_r_46⟩ := hw
    obtain rfl : r_46 = nI n := hw
    have hP : va_P D vwCl [(rw, .inl (cI, 6, .inl g)), (ob, .inr (5, [.ref (ad 1), .ref (cd 0), .ref (dd 0), .int 0])), (ad 1, .inr (3, [.ref (ad 10), .int 6, .long po, .long oc, .ref (ad 11), .ref (ad 12), .ref (ad 13), .ref (ad 14), .ref (ad 15), .int (nI (n + 1)), .ref (ad 16), .ref (ad 17), .ref (ad 18)])), (ad 10, .inl (cI, 12, .inl (T2_48 0))), (ad 11, .inl (cI, 40, .inl (T2_48 1))), (ad 12, .inl (cI, 40, .inl (T2_48 2))), (ad 13, .inl (cI, 40, .inl (T2_48 3))), (ad 14, .inl (cI, 40, .inl (T2_48 4))), (ad 15, .inl (cI, 40, .inl (T2_48 5))), (ad 16, .inl (cI, 120, .inl (T2_48 6))), (ad 17, .inl (cI, 120, .inl (T2_48 7))), (ad 18, .inl (cI, 120, .inl (T2_48 8)))] _ := hP
    have hD : va_D A [(rw, .inl (cI, 6, .inl g)), (ob, .inr (5, [.ref (ad 1), .ref (cd 0), .ref (dd 0), .int 0])), (ad 1, .inr (3, [.ref (ad 10), .int 6, .long po, .long oc, .ref (ad 11), .ref (ad 12), .ref (ad 13), .ref (ad 14), .ref (ad 15), .int (nI (n + 1)), .ref (ad 16), .ref (ad 17), .ref (ad 18)])), (ad 10, .inl (cI, 12, .inl (T2_48 0))), (ad 11, .inl (cI, 40, .inl (T2_48 1))), (ad 12, .inl (cI, 40, .inl (T2_48 2))), (ad 13, .inl (cI, 40, .inl (T2_48 3))), (ad 14, .inl (cI, 40, .inl (T2_48 4))), (ad 15, .inl (cI, 40, .inl (T2_48 5))), (ad 16, .inl (cI, 120, .inl (T2_48 6))), (ad 17, .inl (cI, 120, .inl (T2_48 7))), (ad 18, .inl (cI, 120, .inl (T2_48 8)))] := hD
    have hP := hP.sub (ws' := [(ob, .inr (5, [.ref (ad 1), .ref (cd 0), .ref (dd 0), .int 0])), (ad 1, .inr (3, [.ref (ad 10), .int 6, .long po, .long oc, .ref (ad 11), .ref (ad 12), .ref (ad 13), .ref (ad 14), .ref (ad 15), .int (nI (n + 1)), .ref (ad 16), .ref (ad 17), .ref (ad 18)])), (ad 10, .inl (cI, 12, .inl (T2_48 0))), (ad 11, .inl (cI, 40, .inl (T2_48 1))), (ad 12, .inl (cI, 40, .inl (T2_48 2))), (ad 13, .inl (cI, 40, .inl (T2_48 3))), (ad 14, .inl (cI, 40, .inl (T2_48 4))), (ad 15, .inl (cI, 40, .inl (T2_48 5))), (ad 16, .inl (cI, 120, .inl (T2_48 6))), (ad 17, .inl (cI, 120, .inl (T2_48 7))), (ad 18, .inl (cI, 120, .inl (T2_48 8))), (rw, .inl (cI, 6, .inl g))]) [1, 2, 3, 4, 5, 6, 7, 8, 9, 10, 11, 0] rfl
    have hD := hD.sub (ws' := [(ob, .inr (5, [.ref (ad 1), .ref (cd 0), .ref (dd 0), .int 0])), (ad 1, .inr (3, [.ref (ad 10), .int 6, .long po, .long oc, .ref (ad 11), .ref (ad 12), .ref (ad 13), .ref (ad 14), .ref (ad 15), .int (nI (n + 1)), .ref (ad 16), .ref (ad 17), .ref (ad 18)])), (ad 10, .inl (cI, 12, .inl (T2_48 0))), (ad 11, .inl (cI, 40, .inl (T2_48 1))), (ad 12, .inl (cI, 40, .inl (T2_48 2))), (ad 13, .inl (cI, 40, .inl (T2_48 3))), (ad 14, .inl (cI, 40, .inl (T2_48 4))), (ad 15, .inl (cI, 40, .inl (T2_48 5))), (ad 16, .inl (cI, 120, .inl (T2_48 6))), (ad 17, .inl (cI, 120, .inl (T2_48 7))), (ad 18, .inl (cI, 120, .inl (T2_48 8))), (rw, .inl (cI, 6, .inl g))]) [1, 2, 3, 4, 5, 6, 7, 8, 9, 10, 11, 0] (by decide) rfl
    exact ke_i hx hb hr (by first | rfl | decide | exact bz_nar _) T2_48 (⟨rfl, by assumption⟩) hP hD hS (Nat.le_of_ble_eq_true rfl) (Nat.le_of_ble_eq_true rfl) hlocks dL_tell_158
  · skip
    refine lv_tableOut (tgt := 159) hx hb dL_tell_3 (by decide) (by decide) ?_
    refine lv_aload_n hx hb dL_tell_159 rfl (lv_at hl 0 rfl) ?_
    refine lv_aload_n hx hb dL_tell_160 rfl (lv_at hl 1 rfl) ?_
    refine lv_iconst (v := 2) hx hb dL_tell_161 (by decide) ?_
    refine va_iald hx hb hK hP 11 0 rfl rfl (vp_in_nI (n := 2) (by omega) (by omega)) dL_tell_162 ?_
    refine tI (v := g 2) (congrArg g (nI_clamp (n := 2) (by omega))) ?_
    refine tI (v := nI b) g2 ?_
    refine kc_i (wr := [(rw, .inl (cI, 6, .inl g))]) (va_runV (As := [.int (nI b)]) (rest := []) ⟨hx, hb, hml, hown, hts⟩ (k_finish l D cI cJ cZ cR ad po oc n T ob cd dd ch b _ hT hn hb6) (cwV 1 hts (gV q_856 q_853 q_854 q_855 q_64) rfl rfl rfl (by decide +kernel) ⟨Nat.le_of_ble_eq_true rfl, Nat.le_of_ble_eq_true rfl⟩) ⟨Pw.blind, va_recv hK hP (ci := 5) (q0 := 0) rfl rfl, Pw.mk_call hP hK hD hS hA hG [0, 1, 2, 3, 4, 5, 6, 7, 8, 9, 10] rfl (by decide)⟩ rfl rfl hl.1 rfl (lv_room (Nat.le_of_ble_eq_true rfl)) dL_tell_163 ⟨Nat.le_of_ble_eq_true rfl, Nat.le_of_ble_eq_true rfl⟩) hP hD hS hA [0, 1, 2, 3, 4, 5, 6, 7, 8, 9, 10] [11] rfl rfl (by decide) (by decide) (fun r_49 u_50 H locs hw hP hD hS => ?_)
    obtain ⟨T2_51, rfl⟩ : ∃ z, z = u_50 := ⟨_, rfl⟩
    obtain ⟨hw, hf_r_49⟩ := hw
    obtain rfl : r_49 = nI n := hw
    have hP : va_P D vwCl [(rw, .inl (cI, 6, .inl g)), (ob, .inr (5, [.ref (ad 1), .ref (cd 0), .ref (dd 0), .int 0])), (ad 1, .inr (3, [.ref (ad 10), .int 6, .long po, .long oc, .ref (ad 11), .ref (ad 12), .ref (ad 13), .ref (ad 14), .ref (ad 15), .int (nI (n + 1)), .ref (ad 16), .ref (ad 17), .ref (ad 18)])), (ad 10, .inl (cI, 12, .inl (T2_51 0))), (ad 11, .inl (cI, 40, .inl (T2_51 1))), (ad 12, .inl (cI, 40, .inl (T2_51 2))), (ad 13, .inl (cI, 40, .inl (T2_51 3))), (ad 14, .inl (cI, 40, .inl (T2_51 4))), (ad 15, .inl (cI, 40, .inl (T2_51 5))), (ad 16, .inl (cI, 120, .inl (T2_51 6))), (ad 17, .inl (cI, 120, .inl (T2_51 7))), (ad 18, .inl (cI, 120, .inl (T2_51 8)))] _ := hP
    have hD : va_D A [(rw, .inl (cI, 6, .inl g)), (ob, .inr (5, [.ref (ad 1), .ref (cd 0), .ref (dd 0), .int 0])), (ad 1, .inr (3, [.ref (ad 10), .int 6, .long po, .long oc, .ref (ad 11), .ref (ad 12), .ref (ad 13), .ref (ad 14), .ref (ad 15), .int (nI (n + 1)), .ref (ad 16), .ref (ad 17), .ref (ad 18)])), (ad 10, .inl (cI, 12, .inl (T2_51 0))), (ad 11, .inl (cI, 40, .inl (T2_51 1))), (ad 12, .inl (cI, 40, .inl (T2_51 2))), (ad 13, .inl (cI, 40, .inl (T2_51 3))), (ad 14, .inl (cI, 40, .inl (T2_51 4))), (ad 15, .inl (cI, 40, .inl (T2_51 5))), (ad 16, .inl (cI, 120, .inl (T2_51 6))), (ad 17, .inl (cI, 120, .inl (T2_51 7))), (ad 18, .inl (cI, 120, .inl (T2_51 8)))] := hD
    have hP := hP.sub (ws' := [(ob, .inr (5, [.ref (ad 1), .ref (cd 0), .ref (dd 0), .int 0])), (ad 1, .inr (3, [.ref (ad 10), .int 6, .long po, .long oc, .ref (ad 11), .ref (ad 12), .ref (ad 13), .ref (ad 14), .ref (ad 15), .int (nI (n + 1)), .ref (ad 16), .ref (ad 17), .ref (ad 18)])), (ad 10, .inl (cI, 12, .inl (T2_51 0))), (ad 11, .inl (cI, 40, .inl (T2_51 1))), (ad 12, .inl (cI, 40, .inl (T2_51 2))), (ad 13, .inl (cI, 40, .inl (T2_51 3))), (ad 14, .inl (cI, 40, .inl (T2_51 4))), (ad 15, .inl (cI, 40, .inl (T2_51 5))), (ad 16, .inl (cI, 120, .inl (T2_51 6))), (ad 17, .inl (cI, 120, .inl (T2_51 7))), (ad 18, .inl (cI, 120, .inl (T2_51 8))), (rw, .inl (cI, 6, .inl g))]) [1, 2, 3, 4, 5, 6, 7, 8, 9, 10, 11, 0] rfl
    have hD := hD.sub (ws' := [(ob, .inr (5, [.ref (ad 1), .ref (cd 0), .ref (dd 0), .int 0])), (ad 1, .inr (3, [.ref (ad 10), .int 6, .long po, .long oc, .ref (ad 11), .ref (ad 12), .ref (ad 13), .ref (ad 14), .ref (ad 15), .int (nI (n + 1)), .ref (ad 16), .ref (ad 17), .ref (ad 18)])), (ad 10, .inl (cI, 12, .inl (T2_51 0))), (ad 11, .inl (cI, 40, .inl (T2_51 1))), (ad 12, .inl (cI, 40, .inl (T2_51 2))), (ad 13, .inl (cI, 40, .inl (T2_51 3))), (ad 14, .inl (cI, 40, .inl (T2_51 4))), (ad 15, .inl (cI, 40, .inl (T2_51 5))), (ad 16, .inl (cI, 120, .inl (T2_51 6))), (ad 17, .inl (cI, 120, .inl (T2_51 7))), (ad 18, .inl (cI, 120, .inl (T2_51 8))), (rw, .inl (cI, 6, .inl g))]) [1, 2, 3, 4, 5, 6, 7, 8, 9, 10, 11, 0] (by decide) rfl
    exact ke_i hx hb hr (by first | rfl | decide | exact bz_nar _) T2_51 (⟨rfl, by assumption⟩) hP hD hS (Nat.le_of_ble_eq_true rfl) (Nat.le_of_ble_eq_true rfl) hlocks dL_tell_166

set_option maxHeartbeats 4000000 in
set_option maxRecDepth 100000 in
theorem k_tellD (l : Launch) (D : va_G) (cI cJ cZ cR : ClassId) (ad : Nat → Nat) (po : Int64) (oc : Int64) (n : Nat) (T : Nat → Nat → Int32) (ob : Nat) (cd : Nat → Nat) (dd : Nat → Nat) (ch : Int32) (rw : Nat) (g : Nat → Int32) (b : Nat) (sz : Nat) (hT : TI T n) (hn : n < 40) (hb6 : b < 6) (g0 : g 0 = 5) (g2 : g 2 = nI b) : Met l yL_tell (wx (.code yL_tell cL_tell 2 (some .int))) ({ frames := 3, cells := 0, slots := 0, locals := 65 }) (va_Pc [.ref ob, .ref rw] (Pw D vwCl [(cI, .int), (cJ, .long), (cZ, .boolean), (cR, .array .int)] [(ob, .inr (5, [.ref (ad 1), .ref (cd 0), .ref (dd 0), .int ch])), (ad 1, .inr (3, [.ref (ad 10), .int 6, .long po, .long oc, .ref (ad 11), .ref (ad 12), .ref (ad 13), .ref (ad 14), .ref (ad 15), .int (nI n), .ref (ad 16), .ref (ad 17), .ref (ad 18)])), (ad 10, .inl (cI, 12, .inl (T 0))), (ad 11, .inl (cI, 40, .inl (T 1))), (ad 12, .inl (cI, 40, .inl (T 2))), (ad 13, .inl (cI, 40, .inl (T 3))), (ad 14, .inl (cI, 40, .inl (T 4))), (ad 15, .inl (cI, 40, .inl (T 5))), (ad 16, .inl (cI, 120, .inl (T 6))), (ad 17, .inl (cI, 120, .inl (T 7))), (ad 18, .inl (cI, 120, .inl (T 8))), (rw, .inl (cI, 6, .inl g))] sz)) (va_Qi (fun (r : Int32) (u : (Nat → Nat → Int32)) => r = nI n ∧ TI u (n + 1) ∧ u 0 = T 0) (Bw D vwCl (fun (u : (Nat → Nat → Int32)) => [(ob, .inr (5, [.ref (ad 1), .ref (cd 0), .ref (dd 0), .int 0])), (ad 1, .inr (3, [.ref (ad 10), .int 6, .long po, .long oc, .ref (ad 11), .ref (ad 12), .ref (ad 13), .ref (ad 14), .ref (ad 15), .int (nI (n + 1)), .ref (ad 16), .ref (ad 17), .ref (ad 18)])), (ad 10, .inl (cI, 12, .inl (u 0))), (ad 11, .inl (cI, 40, .inl (u 1))), (ad 12, .inl (cI, 40, .inl (u 2))), (ad 13, .inl (cI, 40, .inl (u 3))), (ad 14, .inl (cI, 40, .inl (u 4))), (ad 15, .inl (cI, 40, .inl (u 5))), (ad 16, .inl (cI, 120, .inl (u 6))), (ad 17, .inl (cI, 120, .inl (u 7))), (ad 18, .inl (cI, 120, .inl (u 8))), (rw, .inl (cI, 6, .inl g))]) (va_A [(ob, .inr (5, [.ref (ad 1), .ref (cd 0), .ref (dd 0), .int ch])), (ad 1, .inr (3, [.ref (ad 10), .int 6, .long po, .long oc, .ref (ad 11), .ref (ad 12), .ref (ad 13), .ref (ad 14), .ref (ad 15), .int (nI n), .ref (ad 16), .ref (ad 17), .ref (ad 18)])), (ad 10, .inl (cI, 12, .inl (T 0))), (ad 11, .inl (cI, 40, .inl (T 1))), (ad 12, .inl (cI, 40, .inl (T 2))), (ad 13, .inl (cI, 40, .inl (T 3))), (ad 14, .inl (cI, 40, .inl (T 4))), (ad 15, .inl (cI, 40, .inl (T 5))), (ad 16, .inl (cI, 120, .inl (T 6))), (ad 17, .inl (cI, 120, .inl (T 7))), (ad 18, .inl (cI, 120, .inl (T 8))), (rw, .inl (cI, 6, .inl g))] sz)) (va_A [(ob, .inr (5, [.ref (ad 1), .ref (cd 0), .ref (dd 0), .int ch])), (ad 1, .inr (3, [.ref (ad 10), .int 6, .long po, .long oc, .ref (ad 11), .ref (ad 12), .ref (ad 13), .ref (ad 14), .ref (ad 15), .int (nI n), .ref (ad 16), .ref (ad 17), .ref (ad 18)])), (ad 10, .inl (cI, 12, .inl (T 0))), (ad 11, .inl (cI, 40, .inl (T 1))), (ad 12, .inl (cI, 40, .inl (T 2))), (ad 13, .inl (cI, 40, .inl (T 3))), (ad 14, .inl (cI, 40, .inl (T 4))), (ad 15, .inl (cI, 40, .inl (T 5))), (ad 16, .inl (cI, 120, .inl (T 6))), (ad 17, .inl (cI, 120, .inl (T 7))), (ad 18, .inl (cI, 120, .inl (T 8))), (rw, .inl (cI, 6, .inl g))] sz)) 0 0 (va_A [(ob, .inr (5, [.ref (ad 1), .ref (cd 0), .ref (dd 0), .int ch])), (ad 1, .inr (3, [.ref (ad 10), .int 6, .long po, .long oc, .ref (ad 11), .ref (ad 12), .ref (ad 13), .ref (ad 14), .ref (ad 15), .int (nI n), .ref (ad 16), .ref (ad 17), .ref (ad 18)])), (ad 10, .inl (cI, 12, .inl (T 0))), (ad 11, .inl (cI, 40, .inl (T 1))), (ad 12, .inl (cI, 40, .inl (T 2))), (ad 13, .inl (cI, 40, .inl (T 3))), (ad 14, .inl (cI, 40, .inl (T 4))), (ad 15, .inl (cI, 40, .inl (T 5))), (ad 16, .inl (cI, 120, .inl (T 6))), (ad 17, .inl (cI, 120, .inl (T 7))), (ad 18, .inl (cI, 120, .inl (T 8))), (rw, .inl (cI, 6, .inl g))] sz) := by
  refine Met.ofW (cc := cL_tell) (maxL := 2) (ret := (some .int)) (by decide) rfl ?_
  intro p e s m args below meth c s₁ B hml hv9
  obtain ⟨rfl, hsz, hP, hK, hD0, hG⟩ := hv9
  have hx := B.exec
  have hb := B.bytes
  have hr := B.returns
  have hts := atoms_spec (ws := wx (.code yL_tell cL_tell 2 (some .int))) B.pre
  have hown : s.vm.findClass RL = some m.cls := findClass_of_methodNamed B.named
  have hlocks := B.notSynchronized
  subst hsz
  have hD := hD0.self (sz := s.heap.size)
  generalize hAe : va_A [(ob, .inr (5, [.ref (ad 1), .ref (cd 0), .ref (dd 0), .int ch])), (ad 1, .inr (3, [.ref (ad 10), .int 6, .long po, .long oc, .ref (ad 11), .ref (ad 12), .ref (ad 13), .ref (ad 14), .ref (ad 15), .int (nI n), .ref (ad 16), .ref (ad 17), .ref (ad 18)])), (ad 10, .inl (cI, 12, .inl (T 0))), (ad 11, .inl (cI, 40, .inl (T 1))), (ad 12, .inl (cI, 40, .inl (T 2))), (ad 13, .inl (cI, 40, .inl (T 3))), (ad 14, .inl (cI, 40, .inl (T 4))), (ad 15, .inl (cI, 40, .inl (T 5))), (ad 16, .inl (cI, 120, .inl (T 6))), (ad 17, .inl (cI, 120, .inl (T 7))), (ad 18, .inl (cI, 120, .inl (T 8))), (rw, .inl (cI, 6, .inl g))] s.heap.size = A at hD hG ⊢
  have hA : ∀ q : Nat, s.heap.size ≤ q → A q := fun q h => by rw [← hAe]; exact Or.inr h
  have hS : va_S A s.heap s.heap [] := va_S.rf
  have hP : va_P D vwCl [(ob, .inr (5, [.ref (ad 1), .ref (cd 0), .ref (dd 0), .int ch])), (ad 1, .inr (3, [.ref (ad 10), .int 6, .long po, .long oc, .ref (ad 11), .ref (ad 12), .ref (ad 13), .ref (ad 14), .ref (ad 15), .int (nI n), .ref (ad 16), .ref (ad 17), .ref (ad 18)])), (ad 10, .inl (cI, 12, .inl (T 0))), (ad 11, .inl (cI, 40, .inl (T 1))), (ad 12, .inl (cI, 40, .inl (T 2))), (ad 13, .inl (cI, 40, .inl (T 3))), (ad 14, .inl (cI, 40, .inl (T 4))), (ad 15, .inl (cI, 40, .inl (T 5))), (ad 16, .inl (cI, 120, .inl (T 6))), (ad 17, .inl (cI, 120, .inl (T 7))), (ad 18, .inl (cI, 120, .inl (T 8))), (rw, .inl (cI, 6, .inl g))] s.heap := hP
  have hl := lv_entry ([.ref ob, .ref rw]) (n := 2) (Nat.le_of_ble_eq_true rfl)
  rw [lg_entry_eq]
  generalize (lg_sl ([.ref ob, .ref rw]) ++ List.replicate (2 - (lg_sl ([.ref ob, .ref rw])).length) Slot.unset).toArray = ls at hl ⊢
  have hl : lv_has ls 2 [(0, .ref ob), (1, .ref rw)] := hl
  refine lv_aload_n hx hb dL_tell_0 rfl (lv_at hl 1 rfl) ?_
  refine lv_iconst (v := 0) hx hb dL_tell_1 (by decide) ?_
  refine va_iald hx hb hK hP 11 0 rfl rfl (vp_in_nI (n := 0) (by omega) (by omega)) dL_tell_2 ?_
  refine tI (v := g 0) (congrArg g (nI_clamp (n := 0) (by omega))) ?_
  refine tI (v := 5) g0 ?_
  refine lv_tableIn (tgt := 113) (off := 110) hx hb dL_tell_3 (by decide) (by decide) (by decide) (by decide) ?_
  refine lv_aload_n hx hb dL_tell_113 rfl (lv_at hl 0 rfl) ?_
  refine lv_aload_n hx hb dL_tell_114 rfl (lv_at hl 1 rfl) ?_
  refine lv_iconst (v := 2) hx hb dL_tell_115 (by decide) ?_
  refine va_iald hx hb hK hP 11 0 rfl rfl (vp_in_nI (n := 2) (by omega) (by omega)) dL_tell_116 ?_
  refine tI (v := g 2) (congrArg g (nI_clamp (n := 2) (by omega))) ?_
  refine tI (v := nI b) g2 ?_
  refine kc_i (wr := [(rw, .inl (cI, 6, .inl g))]) (va_runV (As := [.int (nI b)]) (rest := []) ⟨hx, hb, hml, hown, hts⟩ (k_drop l D cI cJ cZ cR ad po oc n T ob cd dd ch b _ hT hn hb6) (cwV 1 hts (gV q_833 q_830 q_831 q_832 q_64) rfl rfl rfl (by decide +kernel) ⟨Nat.le_of_ble_eq_true rfl, Nat.le_of_ble_eq_true rfl⟩) ⟨Pw.blind, va_recv hK hP (ci := 5) (q0 := 0) rfl rfl, Pw.mk_call hP hK hD hS hA hG [0, 1, 2, 3, 4, 5, 6, 7, 8, 9, 10] rfl (by decide)⟩ rfl rfl hl.1 rfl (lv_room (Nat.le_of_ble_eq_true rfl)) dL_tell_117 ⟨Nat.le_of_ble_eq_true rfl, Nat.le_of_ble_eq_true rfl⟩) hP hD hS hA [0, 1, 2, 3, 4, 5, 6, 7, 8, 9, 10] [11] rfl rfl (by decide) (by decide) (fun r_1 u_2 H locs hw hP hD hS => ?_)
  obtain ⟨T2_3, rfl⟩ : ∃ z, z = u_2 := ⟨_, rfl⟩
  obtain ⟨hw, hf_r_1⟩ := hw
  obtain rfl : r_1 = nI n := hw
  have hP : va_P D vwCl [(rw, .inl (cI, 6, .inl g)), (ob, .inr (5, [.ref (ad 1), .ref (cd 0), .ref (dd 0), .int 0])), (ad 1, .inr (3, [.ref (ad 10), .int 6, .long po, .long oc, .ref (ad 11), .ref (ad 12), .ref (ad 13), .ref (ad 14), .ref (ad 15), .int (nI (n + 1)), .ref (ad 16), .ref (ad 17), .ref (ad 18)])), (ad 10, .inl (cI, 12, .inl (T2_3 0))), (ad 11, .inl (cI, 40, .inl (T2_3 1))), (ad 12, .inl (cI, 40, .inl (T2_3 2))), (ad 13, .inl (cI, 40, .inl (T2_3 3))), (ad 14, .inl (cI, 40, .inl (T2_3 4))), (ad 15, .inl (cI, 40, .inl (T2_3 5))), (ad 16, .inl (cI, 120, .inl (T2_3 6))), (ad 17, .inl (cI, 120, .inl (T2_3 7))), (ad 18, .inl (cI, 120, .inl (T2_3 8)))] _ := hP
  have hD : va_D A [(rw, .inl (cI, 6, .inl g)), (ob, .inr (5, [.ref (ad 1), .ref (cd 0), .ref (dd 0), .int 0])), (ad 1, .inr (3, [.ref (ad 10), .int 6, .long po, .long oc, .ref (ad 11), .ref (ad 12), .ref (ad 13), .ref (ad 14), .ref (ad 15), .int (nI (n + 1)), .ref (ad 16), .ref (ad 17), .ref (ad 18)])), (ad 10, .inl (cI, 12, .inl (T2_3 0))), (ad 11, .inl (cI, 40, .inl (T2_3 1))), (ad 12, .inl (cI, 40, .inl (T2_3 2))), (ad 13, .inl (cI, 40, .inl (T2_3 3))), (ad 14, .inl (cI, 40, .inl (T2_3 4))), (ad 15, .inl (cI, 40, .inl (T2_3 5))), (ad 16, .inl (cI, 120, .inl (T2_3 6))), (ad 17, .inl (cI, 120, .inl (T2_3 7))), (ad 18, .inl (cI, 120, .inl (T2_3 8)))] := hD
  have hP := hP.sub (ws' := [(ob, .inr (5, [.ref (ad 1), .ref (cd 0), .ref (dd 0), .int 0])), (ad 1, .inr (3, [.ref (ad 10), .int 6, .long po, .long oc, .ref (ad 11), .ref (ad 12), .ref (ad 13), .ref (ad 14), .ref (ad 15), .int (nI (n + 1)), .ref (ad 16), .ref (ad 17), .ref (ad 18)])), (ad 10, .inl (cI, 12, .inl (T2_3 0))), (ad 11, .inl (cI, 40, .inl (T2_3 1))), (ad 12, .inl (cI, 40, .inl (T2_3 2))), (ad 13, .inl (cI, 40, .inl (T2_3 3))), (ad 14, .inl (cI, 40, .inl (T2_3 4))), (ad 15, .inl (cI, 40, .inl (T2_3 5))), (ad 16, .inl (cI, 120, .inl (T2_3 6))), (ad 17, .inl (cI, 120, .inl (T2_3 7))), (ad 18, .inl (cI, 120, .inl (T2_3 8))), (rw, .inl (cI, 6, .inl g))]) [1, 2, 3, 4, 5, 6, 7, 8, 9, 10, 11, 0] rfl
  have hD := hD.sub (ws' := [(ob, .inr (5, [.ref (ad 1), .ref (cd 0), .ref (dd 0), .int 0])), (ad 1, .inr (3, [.ref (ad 10), .int 6, .long po, .long oc, .ref (ad 11), .ref (ad 12), .ref (ad 13), .ref (ad 14), .ref (ad 15), .int (nI (n + 1)), .ref (ad 16), .ref (ad 17), .ref (ad 18)])), (ad 10, .inl (cI, 12, .inl (T2_3 0))), (ad 11, .inl (cI, 40, .inl (T2_3 1))), (ad 12, .inl (cI, 40, .inl (T2_3 2))), (ad 13, .inl (cI, 40, .inl (T2_3 3))), (ad 14, .inl (cI, 40, .inl (T2_3 4))), (ad 15, .inl (cI, 40, .inl (T2_3 5))), (ad 16, .inl (cI, 120, .inl (T2_3 6))), (ad 17, .inl (cI, 120, .inl (T2_3 7))), (ad 18, .inl (cI, 120, .inl (T2_3 8))), (rw, .inl (cI, 6, .inl g))]) [1, 2, 3, 4, 5, 6, 7, 8, 9, 10, 11, 0] (by decide) rfl
  exact ke_i hx hb hr (by first | rfl | decide | exact bz_nar _) T2_3 (⟨rfl, by assumption⟩) hP hD hS (Nat.le_of_ble_eq_true rfl) (Nat.le_of_ble_eq_true rfl) hlocks dL_tell_120

set_option maxHeartbeats 4000000 in
set_option maxRecDepth 100000 in
theorem k_addVariable (l : Launch) (D : va_G) (cI cJ cZ cR : ClassId) (mv : Nat) (ad : Nat → Nat) (po : Int64) (oc : Int64) (T : Nat → Nat → Int32) (kk : Nat) (pb : Bool) (sz : Nat) (hm : mv < 12) (hk4 : kk < 4) : Met l yX3_addVariable (wx (.code yX3_addVariable cX3_addVariable 6 (some .int))) ({ frames := 1, cells := 0, slots := 0, locals := 23 }) (va_Pc [.ref (ad 1), .int (nI kk), .int (bz pb)] (Pw D vwCl [(cI, .int), (cJ, .long), (cZ, .boolean), (cR, .array .int)] [(ad 1, .inr (3, [.ref (ad 10), .int (nI mv), .long po, .long oc, .ref (ad 11), .ref (ad 12), .ref (ad 13), .ref (ad 14), .ref (ad 15), .int 0, .ref (ad 16), .ref (ad 17), .ref (ad 18)])), (ad 10, .inl (cI, 12, .inl (T 0))), (ad 11, .inl (cI, 40, .inl (T 1))), (ad 12, .inl (cI, 40, .inl (T 2))), (ad 13, .inl (cI, 40, .inl (T 3))), (ad 14, .inl (cI, 40, .inl (T 4))), (ad 15, .inl (cI, 40, .inl (T 5))), (ad 16, .inl (cI, 120, .inl (T 6))), (ad 17, .inl (cI, 120, .inl (T 7))), (ad 18, .inl (cI, 120, .inl (T 8)))] sz)) (va_Qi (fun (r : Int32) (u : (Int64) × (Int64)) => r = nI mv ∧ u.1 ||| u.2 = po ||| oc ||| cO (tV T mv (nI kk)) mv (-1)) (Bw D vwCl (fun (u : (Int64) × (Int64)) => [(ad 1, .inr (3, [.ref (ad 10), .int (nI (mv + 1)), .long u.1, .long u.2, .ref (ad 11), .ref (ad 12), .ref (ad 13), .ref (ad 14), .ref (ad 15), .int 0, .ref (ad 16), .ref (ad 17), .ref (ad 18)])), (ad 10, .inl (cI, 12, .inl (tV T mv (nI kk) 0))), (ad 11, .inl (cI, 40, .inl (tV T mv (nI kk) 1))), (ad 12, .inl (cI, 40, .inl (tV T mv (nI kk) 2))), (ad 13, .inl (cI, 40, .inl (tV T mv (nI kk) 3))), (ad 14, .inl (cI, 40, .inl (tV T mv (nI kk) 4))), (ad 15, .inl (cI, 40, .inl (tV T mv (nI kk) 5))), (ad 16, .inl (cI, 120, .inl (tV T mv (nI kk) 6))), (ad 17, .inl (cI, 120, .inl (tV T mv (nI kk) 7))), (ad 18, .inl (cI, 120, .inl (tV T mv (nI kk) 8)))]) (va_A [(ad 1, .inr (3, [.ref (ad 10), .int (nI mv), .long po, .long oc, .ref (ad 11), .ref (ad 12), .ref (ad 13), .ref (ad 14), .ref (ad 15), .int 0, .ref (ad 16), .ref (ad 17), .ref (ad 18)])), (ad 10, .inl (cI, 12, .inl (T 0))), (ad 11, .inl (cI, 40, .inl (T 1))), (ad 12, .inl (cI, 40, .inl (T 2))), (ad 13, .inl (cI, 40, .inl (T 3))), (ad 14, .inl (cI, 40, .inl (T 4))), (ad 15, .inl (cI, 40, .inl (T 5))), (ad 16, .inl (cI, 120, .inl (T 6))), (ad 17, .inl (cI, 120, .inl (T 7))), (ad 18, .inl (cI, 120, .inl (T 8)))] sz)) (va_A [(ad 1, .inr (3, [.ref (ad 10), .int (nI mv), .long po, .long oc, .ref (ad 11), .ref (ad 12), .ref (ad 13), .ref (ad 14), .ref (ad 15), .int 0, .ref (ad 16), .ref (ad 17), .ref (ad 18)])), (ad 10, .inl (cI, 12, .inl (T 0))), (ad 11, .inl (cI, 40, .inl (T 1))), (ad 12, .inl (cI, 40, .inl (T 2))), (ad 13, .inl (cI, 40, .inl (T 3))), (ad 14, .inl (cI, 40, .inl (T 4))), (ad 15, .inl (cI, 40, .inl (T 5))), (ad 16, .inl (cI, 120, .inl (T 6))), (ad 17, .inl (cI, 120, .inl (T 7))), (ad 18, .inl (cI, 120, .inl (T 8)))] sz)) 0 0 (va_A [(ad 1, .inr (3, [.ref (ad 10), .int (nI mv), .long po, .long oc, .ref (ad 11), .ref (ad 12), .ref (ad 13), .ref (ad 14), .ref (ad 15), .int 0, .ref (ad 16), .ref (ad 17), .ref (ad 18)])), (ad 10, .inl (cI, 12, .inl (T 0))), (ad 11, .inl (cI, 40, .inl (T 1))), (ad 12, .inl (cI, 40, .inl (T 2))), (ad 13, .inl (cI, 40, .inl (T 3))), (ad 14, .inl (cI, 40, .inl (T 4))), (ad 15, .inl (cI, 40, .inl (T 5))), (ad 16, .inl (cI, 120, .inl (T 6))), (ad 17, .inl (cI, 120, .inl (T 7))), (ad 18, .inl (cI, 120, .inl (T 8)))] sz) := by
  refine Met.ofW (cc := cX3_addVariable) (maxL := 6) (ret := (some .int)) (by decide) rfl ?_
  intro p e s m args below meth c s₁ B hml hv9
  obtain ⟨rfl, hsz, hP, hK, hD0, hG⟩ := hv9
  have hx := B.exec
  have hb := B.bytes
  have hr := B.returns
  have hts := atoms_spec (ws := wx (.code yX3_addVariable cX3_addVariable 6 (some .int))) B.pre
  have hown : s.vm.findClass RX3 = some m.cls := findClass_of_methodNamed B.named
  have hlocks := B.notSynchronized
  subst hsz
  have hD := hD0.self (sz := s.heap.size)
  generalize hAe : va_A [(ad 1, .inr (3, [.ref (ad 10), .int (nI mv), .long po, .long oc, .ref (ad 11), .ref (ad 12), .ref (ad 13), .ref (ad 14), .ref (ad 15), .int 0, .ref (ad 16), .ref (ad 17), .ref (ad 18)])), (ad 10, .inl (cI, 12, .inl (T 0))), (ad 11, .inl (cI, 40, .inl (T 1))), (ad 12, .inl (cI, 40, .inl (T 2))), (ad 13, .inl (cI, 40, .inl (T 3))), (ad 14, .inl (cI, 40, .inl (T 4))), (ad 15, .inl (cI, 40, .inl (T 5))), (ad 16, .inl (cI, 120, .inl (T 6))), (ad 17, .inl (cI, 120, .inl (T 7))), (ad 18, .inl (cI, 120, .inl (T 8)))] s.heap.size = A at hD hG ⊢
  have hA : ∀ q : Nat, s.heap.size ≤ q → A q := fun q h => by rw [← hAe]; exact Or.inr h
  have hS : va_S A s.heap s.heap [] := va_S.rf
  have hP : va_P D vwCl [(ad 1, .inr (3, [.ref (ad 10), .int (nI mv), .long po, .long oc, .ref (ad 11), .ref (ad 12), .ref (ad 13), .ref (ad 14), .ref (ad 15), .int 0, .ref (ad 16), .ref (ad 17), .ref (ad 18)])), (ad 10, .inl (cI, 12, .inl (T 0))), (ad 11, .inl (cI, 40, .inl (T 1))), (ad 12, .inl (cI, 40, .inl (T 2))), (ad 13, .inl (cI, 40, .inl (T 3))), (ad 14, .inl (cI, 40, .inl (T 4))), (ad 15, .inl (cI, 40, .inl (T 5))), (ad 16, .inl (cI, 120, .inl (T 6))), (ad 17, .inl (cI, 120, .inl (T 7))), (ad 18, .inl (cI, 120, .inl (T 8)))] s.heap := hP
  have hl := lv_entry ([.ref (ad 1), .int (nI kk), .int (bz pb)]) (n := 6) (Nat.le_of_ble_eq_true rfl)
  rw [lg_entry_eq]
  generalize (lg_sl ([.ref (ad 1), .int (nI kk), .int (bz pb)]) ++ List.replicate (6 - (lg_sl ([.ref (ad 1), .int (nI kk), .int (bz pb)])).length) Slot.unset).toArray = ls at hl ⊢
  have hl : lv_has ls 6 [(0, .ref (ad 1)), (1, .int (nI kk)), (2, .int (bz pb))] := hl
  refine lv_aload_n hx hb dX3_addVariable_0 rfl (lv_at hl 0 rfl) ?_
  refine va_get (D := D) (ci := 3) (v := .int (nI mv)) (C := RX3) (T := TX3) (N := 13) (ref := "Ironwood$Told") hx hb hts in_RX3 hown hK hP 0 rfl rfl 1 (by decide) (hts _ (mc q_94)) (fun _ h9 => h9) rfl dX3_addVariable_1 ?_
  refine lv_istore_n (lv' := [(3, .int (nI mv)), (0, .ref (ad 1)), (1, .int (nI kk)), (2, .int (bz pb))]) hx hb dX3_addVariable_4 rfl hl (by decide) rfl (fun ls hl => ?_)
  refine lv_aload_n hx hb dX3_addVariable_5 rfl (lv_at hl 1 rfl) ?_
  refine va_get (D := D) (ci := 3) (v := .ref (ad 10)) (C := RX3) (T := TX3) (N := 13) (ref := "Ironwood$Told") hx hb hts in_RX3 hown hK hP 0 rfl rfl 0 (by decide) (hts _ (mc q_92)) (fun _ h9 => h9) rfl dX3_addVariable_6 ?_
  refine lv_iload_n hx hb dX3_addVariable_9 rfl (lv_at hl 0 rfl) ?_
  refine lv_iload_n hx hb dX3_addVariable_10 rfl (lv_at hl 2 rfl) ?_
  refine va_iast hx hb hK hP hD hS 1 0 rfl rfl (vp_in_nI (n := mv) (by omega) (by omega)) dX3_addVariable_11 (fun H locs hP hD hS => ?_)
  rw [nI_clamp (n := mv) (by omega)] at hP hD
  have hP : va_P D vwCl [(ad 1, .inr (3, [.ref (ad 10), .int (nI mv), .long po, .long oc, .ref (ad 11), .ref (ad 12), .ref (ad 13), .ref (ad 14), .ref (ad 15), .int 0, .ref (ad 16), .ref (ad 17), .ref (ad 18)])), (ad 10, .inl (cI, 12, .inl (upd (T 0) mv (nI kk)))), (ad 11, .inl (cI, 40, .inl (T 1))), (ad 12, .inl (cI, 40, .inl (T 2))), (ad 13, .inl (cI, 40, .inl (T 3))), (ad 14, .inl (cI, 40, .inl (T 4))), (ad 15, .inl (cI, 40, .inl (T 5))), (ad 16, .inl (cI, 120, .inl (T 6))), (ad 17, .inl (cI, 120, .inl (T 7))), (ad 18, .inl (cI, 120, .inl (T 8)))] _ := hP
  have hD : va_D A [(ad 1, .inr (3, [.ref (ad 10), .int (nI mv), .long po, .long oc, .ref (ad 11), .ref (ad 12), .ref (ad 13), .ref (ad 14), .ref (ad 15), .int 0, .ref (ad 16), .ref (ad 17), .ref (ad 18)])), (ad 10, .inl (cI, 12, .inl (upd (T 0) mv (nI kk)))), (ad 11, .inl (cI, 40, .inl (T 1))), (ad 12, .inl (cI, 40, .inl (T 2))), (ad 13, .inl (cI, 40, .inl (T 3))), (ad 14, .inl (cI, 40, .inl (T 4))), (ad 15, .inl (cI, 40, .inl (T 5))), (ad 16, .inl (cI, 120, .inl (T 6))), (ad 17, .inl (cI, 120, .inl (T 7))), (ad 18, .inl (cI, 120, .inl (T 8)))] := hD
  have hP : va_P D vwCl [(ad 1, .inr (3, [.ref (ad 10), .int (nI mv), .long po, .long oc, .ref (ad 11), .ref (ad 12), .ref (ad 13), .ref (ad 14), .ref (ad 15), .int 0, .ref (ad 16), .ref (ad 17), .ref (ad 18)])), (ad 10, .inl (cI, 12, .inl (tV T mv (nI kk) 0))), (ad 11, .inl (cI, 40, .inl (tV T mv (nI kk) 1))), (ad 12, .inl (cI, 40, .inl (tV T mv (nI kk) 2))), (ad 13, .inl (cI, 40, .inl (tV T mv (nI kk) 3))), (ad 14, .inl (cI, 40, .inl (tV T mv (nI kk) 4))), (ad 15, .inl (cI, 40, .inl (tV T mv (nI kk) 5))), (ad 16, .inl (cI, 120, .inl (tV T mv (nI kk) 6))), (ad 17, .inl (cI, 120, .inl (tV T mv (nI kk) 7))), (ad 18, .inl (cI, 120, .inl (tV T mv (nI kk) 8)))] _ := hP
  have hD : va_D A [(ad 1, .inr (3, [.ref (ad 10), .int (nI mv), .long po, .long oc, .ref (ad 11), .ref (ad 12), .ref (ad 13), .ref (ad 14), .ref (ad 15), .int 0, .ref (ad 16), .ref (ad 17), .ref (ad 18)])), (ad 10, .inl (cI, 12, .inl (tV T mv (nI kk) 0))), (ad 11, .inl (cI, 40, .inl (tV T mv (nI kk) 1))), (ad 12, .inl (cI, 40, .inl (tV T mv (nI kk) 2))), (ad 13, .inl (cI, 40, .inl (tV T mv (nI kk) 3))), (ad 14, .inl (cI, 40, .inl (tV T mv (nI kk) 4))), (ad 15, .inl (cI, 40, .inl (tV T mv (nI kk) 5))), (ad 16, .inl (cI, 120, .inl (tV T mv (nI kk) 6))), (ad 17, .inl (cI, 120, .inl (tV T mv (nI kk) 7))), (ad 18, .inl (cI, 120, .inl (tV T mv (nI kk) 8)))] := hD
  refine lv_aload_n hx hb dX3_addVariable_12 rfl (lv_at hl 1 rfl) ?_
  refine lv_dup hx hb dX3_addVariable_13 rfl ?_
  refine va_get (D := D) (ci := 3) (v := .int (nI mv)) (C := RX3) (T := TX3) (N := 13) (ref := "Ironwood$Told") hx hb hts in_RX3 hown hK hP 0 rfl rfl 1 (by decide) (hts _ (mc q_94)) (fun _ h9 => h9) rfl dX3_addVariable_14 ?_
  refine lv_iconst (v := 1) hx hb dX3_addVariable_17 (by decide) ?_
  refine lv_iadd hx hb dX3_addVariable_18 ?_
  refine tI (v := nI (mv + 1)) (nI_add mv 1) ?_
  refine va_put (D := D) (ci := 3) (v := .int (nI (mv + 1))) (ty := .int) (C := RX3) (T := TX3) (N := 13) (ref := "Ironwood$Told") hx hb hts in_RX3 tyX3 tyX3_ok nmX3 hown hK hP hD hS 0 rfl rfl 1 (by decide) (hts _ (mc q_94)) (fun _ h9 => h9) rfl (by decide +kernel) rfl rfl (Nat.le_of_ble_eq_true rfl) dX3_addVariable_19 (fun H locs hP hD hS => ?_)
  have hP : va_P D vwCl [(ad 1, .inr (3, [.ref (ad 10), .int (nI (mv + 1)), .long po, .long oc, .ref (ad 11), .ref (ad 12), .ref (ad 13), .ref (ad 14), .ref (ad 15), .int 0, .ref (ad 16), .ref (ad 17), .ref (ad 18)])), (ad 10, .inl (cI, 12, .inl (tV T mv (nI kk) 0))), (ad 11, .inl (cI, 40, .inl (tV T mv (nI kk) 1))), (ad 12, .inl (cI, 40, .inl (tV T mv (nI kk) 2))), (ad 13, .inl (cI, 40, .inl (tV T mv (nI kk) 3))), (ad 14, .inl (cI, 40, .inl (tV T mv (nI kk) 4))), (ad 15, .inl (cI, 40, .inl (tV T mv (nI kk) 5))), (ad 16, .inl (cI, 120, .inl (tV T mv (nI kk) 6))), (ad 17, .inl (cI, 120, .inl (tV T mv (nI kk) 7))), (ad 18, .inl (cI, 120, .inl (tV T mv (nI kk) 8)))] _ := hP
  have hD : va_D A [(ad 1, .inr (3, [.ref (ad 10), .int (nI (mv + 1)), .long po, .long oc, .ref (ad 11), .ref (ad 12), .ref (ad 13), .ref (ad 14), .ref (ad 15), .int 0, .ref (ad 16), .ref (ad 17), .ref (ad 18)])), (ad 10, .inl (cI, 12, .inl (tV T mv (nI kk) 0))), (ad 11, .inl (cI, 40, .inl (tV T mv (nI kk) 1))), (ad 12, .inl (cI, 40, .inl (tV T mv (nI kk) 2))), (ad 13, .inl (cI, 40, .inl (tV T mv (nI kk) 3))), (ad 14, .inl (cI, 40, .inl (tV T mv (nI kk) 4))), (ad 15, .inl (cI, 40, .inl (tV T mv (nI kk) 5))), (ad 16, .inl (cI, 120, .inl (tV T mv (nI kk) 6))), (ad 17, .inl (cI, 120, .inl (tV T mv (nI kk) 7))), (ad 18, .inl (cI, 120, .inl (tV T mv (nI kk) 8)))] := hD
  refine lv_aload_n hx hb dX3_addVariable_22 rfl (lv_at hl 1 rfl) ?_
  refine lv_iload_n hx hb dX3_addVariable_23 rfl (lv_at hl 0 rfl) ?_
  refine lv_iconst (v := (-1)) hx hb dX3_addVariable_24 (by decide) ?_
  refine kc_l (wr := [(ad 11, .inl (cI, 40, .inl (tV T mv (nI kk) 1))), (ad 12, .inl (cI, 40, .inl (tV T mv (nI kk) 2))), (ad 13, .inl (cI, 40, .inl (tV T mv (nI kk) 3))), (ad 14, .inl (cI, 40, .inl (tV T mv (nI kk) 4))), (ad 15, .inl (cI, 40, .inl (tV T mv (nI kk) 5))), (ad 16, .inl (cI, 120, .inl (tV T mv (nI kk) 6))), (ad 17, .inl (cI, 120, .inl (tV T mv (nI kk) 7))), (ad 18, .inl (cI, 120, .inl (tV T mv (nI kk) 8)))]) (va_runV (As := [.int (nI mv), .int (-1)]) (rest := []) ⟨hx, hb, hml, hown, hts⟩ (k_cellsOf l D cI cJ cZ cR ad (nI (mv + 1)) 0 po oc (tV T mv (nI kk)) mv (-1) _ hm) (cwV 2 hts (gV q_452 q_531 q_451 q_13 q_65) rfl rfl rfl (by decide +kernel) ⟨Nat.le_of_ble_eq_true rfl, Nat.le_of_ble_eq_true rfl⟩) ⟨Pw.blind, va_recv hK hP (ci := 3) (q0 := 0) rfl rfl, Pw.mk_call hP hK hD hS hA hG [0, 1] rfl (by decide)⟩ rfl rfl hl.1 rfl (lv_room (Nat.le_of_ble_eq_true rfl)) dX3_addVariable_25 ⟨Nat.le_of_ble_eq_true rfl, Nat.le_of_ble_eq_true rfl⟩) hP hD hS hA [0, 1] [2, 3, 4, 5, 6, 7, 8, 9] rfl rfl (by decide) (by decide) (fun r_1 u_2 H locs hw hP hD hS => ?_)
  obtain rfl : r_1 = cO (tV T mv (nI kk)) mv (-1) := hw
  have hP : va_P D vwCl [(ad 11, .inl (cI, 40, .inl (tV T mv (nI kk) 1))), (ad 12, .inl (cI, 40, .inl (tV T mv (nI kk) 2))), (ad 13, .inl (cI, 40, .inl (tV T mv (nI kk) 3))), (ad 14, .inl (cI, 40, .inl (tV T mv (nI kk) 4))), (ad 15, .inl (cI, 40, .inl (tV T mv (nI kk) 5))), (ad 16, .inl (cI, 120, .inl (tV T mv (nI kk) 6))), (ad 17, .inl (cI, 120, .inl (tV T mv (nI kk) 7))), (ad 18, .inl (cI, 120, .inl (tV T mv (nI kk) 8))), (ad 1, .inr (3, [.ref (ad 10), .int (nI (mv + 1)), .long po, .long oc, .ref (ad 11), .ref (ad 12), .ref (ad 13), .ref (ad 14), .ref (ad 15), .int 0, .ref (ad 16), .ref (ad 17), .ref (ad 18)])), (ad 10, .inl (cI, 12, .inl ((tV T mv (nI kk)) 0)))] _ := hP
  have hD : va_D A [(ad 11, .inl (cI, 40, .inl (tV T mv (nI kk) 1))), (ad 12, .inl (cI, 40, .inl (tV T mv (nI kk) 2))), (ad 13, .inl (cI, 40, .inl (tV T mv (nI kk) 3))), (ad 14, .inl (cI, 40, .inl (tV T mv (nI kk) 4))), (ad 15, .inl (cI, 40, .inl (tV T mv (nI kk) 5))), (ad 16, .inl (cI, 120, .inl (tV T mv (nI kk) 6))), (ad 17, .inl (cI, 120, .inl (tV T mv (nI kk) 7))), (ad 18, .inl (cI, 120, .inl (tV T mv (nI kk) 8))), (ad 1, .inr (3, [.ref (ad 10), .int (nI (mv + 1)), .long po, .long oc, .ref (ad 11), .ref (ad 12), .ref (ad 13), .ref (ad 14), .ref (ad 15), .int 0, .ref (ad 16), .ref (ad 17), .ref (ad 18)])), (ad 10, .inl (cI, 12, .inl ((tV T mv (nI kk)) 0)))] := hD
  refine lv_lstore (lv' := [(4, .long (cO (tV T mv (nI kk)) mv (-1))), (3, .int (nI mv)), (0, .ref (ad 1)), (1, .int (nI kk)), (2, .int (bz pb))]) hx hb dX3_addVariable_28 hl (by decide) rfl (fun ls hl => ?_)
  refine lv_iload_n hx hb dX3_addVariable_30 rfl (lv_at hl 4 rfl) ?_
  refine lv_if_eq (tgt := 48) hx hb dX3_addVariable_31 (by decide) (fun c_31 => ?_) (fun c_31 => ?_)
  · skip
    have c_31 : pb = false := bz_f c_31
    refine lv_aload_n hx hb dX3_addVariable_48 rfl (lv_at hl 2 rfl) ?_
    refine lv_dup hx hb dX3_addVariable_49 rfl ?_
    refine va_get (D := D) (ci := 3) (v := .long oc) (C := RX3) (T := TX3) (N := 13) (ref := "Ironwood$Told") hx hb hts in_RX3 hown hK hP 8 rfl rfl 3 (by decide) (hts _ (mc q_99)) (fun _ h9 => h9) rfl dX3_addVariable_50 ?_
    refine lv_lload hx hb dX3_addVariable_53 (lv_at hl 0 rfl) ?_
    refine lv_lor hx hb dX3_addVariable_55 ?_
    refine va_put (D := D) (ci := 3) (v := .long (oc ||| (cO (tV T mv (nI kk)) mv (-1)))) (ty := .long) (C := RX3) (T := TX3) (N := 13) (ref := "Ironwood$Told") hx hb hts in_RX3 tyX3 tyX3_ok nmX3 hown hK hP hD hS 8 rfl rfl 3 (by decide) (hts _ (mc q_99)) (fun _ h9 => h9) rfl (by decide +kernel) rfl rfl (Nat.le_of_ble_eq_true rfl) dX3_addVariable_56 (fun H locs hP hD hS => ?_)
    have hP : va_P D vwCl [(ad 11, .inl (cI, 40, .inl (tV T mv (nI kk) 1))), (ad 12, .inl (cI, 40, .inl (tV T mv (nI kk) 2))), (ad 13, .inl (cI, 40, .inl (tV T mv (nI kk) 3))), (ad 14, .inl (cI, 40, .inl (tV T mv (nI kk) 4))), (ad 15, .inl (cI, 40, .inl (tV T mv (nI kk) 5))), (ad 16, .inl (cI, 120, .inl (tV T mv (nI kk) 6))), (ad 17, .inl (cI, 120, .inl (tV T mv (nI kk) 7))), (ad 18, .inl (cI, 120, .inl (tV T mv (nI kk) 8))), (ad 1, .inr (3, [.ref (ad 10), .int (nI (mv + 1)), .long po, .long (oc ||| (cO (tV T mv (nI kk)) mv (-1))), .ref (ad 11), .ref (ad 12), .ref (ad 13), .ref (ad 14), .ref (ad 15), .int 0, .ref (ad 16), .ref (ad 17), .ref (ad 18)])), (ad 10, .inl (cI, 12, .inl ((tV T mv (nI kk)) 0)))] _ := hP
    have hD : va_D A [(ad 11, .inl (cI, 40, .inl (tV T mv (nI kk) 1))), (ad 12, .inl (cI, 40, .inl (tV T mv (nI kk) 2))), (ad 13, .inl (cI, 40, .inl (tV T mv (nI kk) 3))), (ad 14, .inl (cI, 40, .inl (tV T mv (nI kk) 4))), (ad 15, .inl (cI, 40, .inl (tV T mv (nI kk) 5))), (ad 16, .inl (cI, 120, .inl (tV T mv (nI kk) 6))), (ad 17, .inl (cI, 120, .inl (tV T mv (nI kk) 7))), (ad 18, .inl (cI, 120, .inl (tV T mv (nI kk) 8))), (ad 1, .inr (3, [.ref (ad 10), .int (nI (mv + 1)), .long po, .long (oc ||| (cO (tV T mv (nI kk)) mv (-1))), .ref (ad 11), .ref (ad 12), .ref (ad 13), .ref (ad 14), .ref (ad 15), .int 0, .ref (ad 16), .ref (ad 17), .ref (ad 18)])), (ad 10, .inl (cI, 12, .inl ((tV T mv (nI kk)) 0)))] := hD
    refine lv_iload_n hx hb dX3_addVariable_59 rfl (lv_at hl 1 rfl) ?_
    have e_3 : ((tV T mv (nI kk)) 0 : Nat → Int32) = tV T mv (nI kk) 0 := by first | (simp [upd_upd, vpl_upd, upd_id, vpl_id, c_31]; done) | (simp [upd_upd, vpl_upd, upd_id, vpl_id, if_neg (bnt c_31)]; done) | rfl | (simp [upd_upd, vpl_upd, upd_id, vpl_id, c_31]; omega)
    have eW : ([(ad 11, .inl (cI, 40, .inl (tV T mv (nI kk) 1))), (ad 12, .inl (cI, 40, .inl (tV T mv (nI kk) 2))), (ad 13, .inl (cI, 40, .inl (tV T mv (nI kk) 3))), (ad 14, .inl (cI, 40, .inl (tV T mv (nI kk) 4))), (ad 15, .inl (cI, 40, .inl (tV T mv (nI kk) 5))), (ad 16, .inl (cI, 120, .inl (tV T mv (nI kk) 6))), (ad 17, .inl (cI, 120, .inl (tV T mv (nI kk) 7))), (ad 18, .inl (cI, 120, .inl (tV T mv (nI kk) 8))), (ad 1, .inr (3, [.ref (ad 10), .int (nI (mv + 1)), .long po, .long (oc ||| (cO (tV T mv (nI kk)) mv (-1))), .ref (ad 11), .ref (ad 12), .ref (ad 13), .ref (ad 14), .ref (ad 15), .int 0, .ref (ad 16), .ref (ad 17), .ref (ad 18)])), (ad 10, .inl (cI, 12, .inl ((tV T mv (nI kk)) 0)))] : va_W) = [(ad 11, .inl (cI, 40, .inl (tV T mv (nI kk) 1))), (ad 12, .inl (cI, 40, .inl (tV T mv (nI kk) 2))), (ad 13, .inl (cI, 40, .inl (tV T mv (nI kk) 3))), (ad 14, .inl (cI, 40, .inl (tV T mv (nI kk) 4))), (ad 15, .inl (cI, 40, .inl (tV T mv (nI kk) 5))), (ad 16, .inl (cI, 120, .inl (tV T mv (nI kk) 6))), (ad 17, .inl (cI, 120, .inl (tV T mv (nI kk) 7))), (ad 18, .inl (cI, 120, .inl (tV T mv (nI kk) 8))), (ad 1, .inr (3, [.ref (ad 10), .int (nI (mv + 1)), .long po, .long (oc ||| (cO (tV T mv (nI kk)) mv (-1))), .ref (ad 11), .ref (ad 12), .ref (ad 13), .ref (ad 14), .ref (ad 15), .int 0, .ref (ad 16), .ref (ad 17), .ref (ad 18)])), (ad 10, .inl (cI, 12, .inl (tV T mv (nI kk) 0)))] := by first | rfl | (rw [← e_3]) | (simp only [← e_3])
    rw [eW] at hP hD
    have hP := hP.sub (ws' := [(ad 1, .inr (3, [.ref (ad 10), .int (nI (mv + 1)), .long po, .long (oc ||| (cO (tV T mv (nI kk)) mv (-1))), .ref (ad 11), .ref (ad 12), .ref (ad 13), .ref (ad 14), .ref (ad 15), .int 0, .ref (ad 16), .ref (ad 17), .ref (ad 18)])), (ad 10, .inl (cI, 12, .inl (tV T mv (nI kk) 0))), (ad 11, .inl (cI, 40, .inl (tV T mv (nI kk) 1))), (ad 12, .inl (cI, 40, .inl (tV T mv (nI kk) 2))), (ad 13, .inl (cI, 40, .inl (tV T mv (nI kk) 3))), (ad 14, .inl (cI, 40, .inl (tV T mv (nI kk) 4))), (ad 15, .inl (cI, 40, .inl (tV T mv (nI kk) 5))), (ad 16, .inl (cI, 120, .inl (tV T mv (nI kk) 6))), (ad 17, .inl (cI, 120, .inl (tV T mv (nI kk) 7))), (ad 18, .inl (cI, 120, .inl (tV T mv (nI kk) 8)))]) [8, 9, 0, 1, 2, 3, 4, 5, 6, 7] rfl
    have hD := hD.sub (ws' := [(ad 1, .inr (3, [.ref (ad 10), .int (nI (mv + 1)), .long po, .long (oc ||| (cO (tV T mv (nI kk)) mv (-1))), .ref (ad 11), .ref (ad 12), .ref (ad 13), .ref (ad 14), .ref (ad 15), .int 0, .ref (ad 16), .ref (ad 17), .ref (ad 18)])), (ad 10, .inl (cI, 12, .inl (tV T mv (nI kk) 0))), (ad 11, .inl (cI, 40, .inl (tV T mv (nI kk) 1))), (ad 12, .inl (cI, 40, .inl (tV T mv (nI kk) 2))), (ad 13, .inl (cI, 40, .inl (tV T mv (nI kk) 3))), (ad 14, .inl (cI, 40, .inl (tV T mv (nI kk) 4))), (ad 15, .inl (cI, 40, .inl (tV T mv (nI kk) 5))), (ad 16, .inl (cI, 120, .inl (tV T mv (nI kk) 6))), (ad 17, .inl (cI, 120, .inl (tV T mv (nI kk) 7))), (ad 18, .inl (cI, 120, .inl (tV T mv (nI kk) 8)))]) [8, 9, 0, 1, 2, 3, 4, 5, 6, 7] (by decide) rfl
    exact ke_i hx hb hr (by first | rfl | decide | exact bz_nar _) (po, oc ||| (cO (tV T mv (nI kk)) mv (-1))) (⟨rfl, by first | exact orL1 _ _ _ | exact orL2 _ _ _⟩) hP hD hS (Nat.le_of_ble_eq_true rfl) (Nat.le_of_ble_eq_true rfl) hlocks dX3_addVariable_60
  · skip
    have c_31 : pb = true := bz_t c_31
    refine lv_aload_n hx hb dX3_addVariable_34 rfl (lv_at hl 2 rfl) ?_
    refine lv_dup hx hb dX3_addVariable_35 rfl ?_
    refine va_get (D := D) (ci := 3) (v := .long po) (C := RX3) (T := TX3) (N := 13) (ref := "Ironwood$Told") hx hb hts in_RX3 hown hK hP 8 rfl rfl 2 (by decide) (hts _ (mc q_97)) (fun _ h9 => h9) rfl dX3_addVariable_36 ?_
    refine lv_lload hx hb dX3_addVariable_39 (lv_at hl 0 rfl) ?_
    refine lv_lor hx hb dX3_addVariable_41 ?_
    refine va_put (D := D) (ci := 3) (v := .long (po ||| (cO (tV T mv (nI kk)) mv (-1)))) (ty := .long) (C := RX3) (T := TX3) (N := 13) (ref := "Ironwood$Told") hx hb hts in_RX3 tyX3 tyX3_ok nmX3 hown hK hP hD hS 8 rfl rfl 2 (by decide) (hts _ (mc q_97)) (fun _ h9 => h9) rfl (by decide +kernel) rfl rfl (Nat.le_of_ble_eq_true rfl) dX3_addVariable_42 (fun H locs hP hD hS => ?_)
    have hP : va_P D vwCl [(ad 11, .inl (cI, 40, .inl (tV T mv (nI kk) 1))), (ad 12, .inl (cI, 40, .inl (tV T mv (nI kk) 2))), (ad 13, .inl (cI, 40, .inl (tV T mv (nI kk) 3))), (ad 14, .inl (cI, 40, .inl (tV T mv (nI kk) 4))), (ad 15, .inl (cI, 40, .inl (tV T mv (nI kk) 5))), (ad 16, .inl (cI, 120, .inl (tV T mv (nI kk) 6))), (ad 17, .inl (cI, 120, .inl (tV T mv (nI kk) 7))), (ad 18, .inl (cI, 120, .inl (tV T mv (nI kk) 8))), (ad 1, .inr (3, [.ref (ad 10), .int (nI (mv + 1)), .long (po ||| (cO (tV T mv (nI kk)) mv (-1))), .long oc, .ref (ad 11), .ref (ad 12), .ref (ad 13), .ref (ad 14), .ref (ad 15), .int 0, .ref (ad 16), .ref (ad 17), .ref (ad 18)])), (ad 10, .inl (cI, 12, .inl ((tV T mv (nI kk)) 0)))] _ := hP
    have hD : va_D A [(ad 11, .inl (cI, 40, .inl (tV T mv (nI kk) 1))), (ad 12, .inl (cI, 40, .inl (tV T mv (nI kk) 2))), (ad 13, .inl (cI, 40, .inl (tV T mv (nI kk) 3))), (ad 14, .inl (cI, 40, .inl (tV T mv (nI kk) 4))), (ad 15, .inl (cI, 40, .inl (tV T mv (nI kk) 5))), (ad 16, .inl (cI, 120, .inl (tV T mv (nI kk) 6))), (ad 17, .inl (cI, 120, .inl (tV T mv (nI kk) 7))), (ad 18, .inl (cI, 120, .inl (tV T mv (nI kk) 8))), (ad 1, .inr (3, [.ref (ad 10), .int (nI (mv + 1)), .long (po ||| (cO (tV T mv (nI kk)) mv (-1))), .long oc, .ref (ad 11), .ref (ad 12), .ref (ad 13), .ref (ad 14), .ref (ad 15), .int 0, .ref (ad 16), .ref (ad 17), .ref (ad 18)])), (ad 10, .inl (cI, 12, .inl ((tV T mv (nI kk)) 0)))] := hD
    refine lv_goto (tgt := 59) hx hb dX3_addVariable_45 (by decide) ?_
    refine lv_iload_n hx hb dX3_addVariable_59 rfl (lv_at hl 1 rfl) ?_
    have e_4 : ((tV T mv (nI kk)) 0 : Nat → Int32) = tV T mv (nI kk) 0 := by first | (simp [upd_upd, vpl_upd, upd_id, vpl_id, c_31]; done) | (simp [upd_upd, vpl_upd, upd_id, vpl_id, if_pos c_31]; done) | rfl | (simp [upd_upd, vpl_upd, upd_id, vpl_id, c_31]; omega)
    have eW : ([(ad 11, .inl (cI, 40, .inl (tV T mv (nI kk) 1))), (ad 12, .inl (cI, 40, .inl (tV T mv (nI kk) 2))), (ad 13, .inl (cI, 40, .inl (tV T mv (nI kk) 3))), (ad 14, .inl (cI, 40, .inl (tV T mv (nI kk) 4))), (ad 15, .inl (cI, 40, .inl (tV T mv (nI kk) 5))), (ad 16, .inl (cI, 120, .inl (tV T mv (nI kk) 6))), (ad 17, .inl (cI, 120, .inl (tV T mv (nI kk) 7))), (ad 18, .inl (cI, 120, .inl (tV T mv (nI kk) 8))), (ad 1, .inr (3, [.ref (ad 10), .int (nI (mv + 1)), .long (po ||| (cO (tV T mv (nI kk)) mv (-1))), .long oc, .ref (ad 11), .ref (ad 12), .ref (ad 13), .ref (ad 14), .ref (ad 15), .int 0, .ref (ad 16), .ref (ad 17), .ref (ad 18)])), (ad 10, .inl (cI, 12, .inl ((tV T mv (nI kk)) 0)))] : va_W) = [(ad 11, .inl (cI, 40, .inl (tV T mv (nI kk) 1))), (ad 12, .inl (cI, 40, .inl (tV T mv (nI kk) 2))), (ad 13, .inl (cI, 40, .inl (tV T mv (nI kk) 3))), (ad 14, .inl (cI, 40, .inl (tV T mv (nI kk) 4))), (ad 15, .inl (cI, 40, .inl (tV T mv (nI kk) 5))), (ad 16, .inl (cI, 120, .inl (tV T mv (nI kk) 6))), (ad 17, .inl (cI, 120, .inl (tV T mv (nI kk) 7))), (ad 18, .inl (cI, 120, .inl (tV T mv (nI kk) 8))), (ad 1, .inr (3, [.ref (ad 10), .int (nI (mv + 1)), .long (po ||| (cO (tV T mv (nI kk)) mv (-1))), .long oc, .ref (ad 11), .ref (ad 12), .ref (ad 13), .ref (ad 14), .ref (ad 15), .int 0, .ref (ad 16), .ref (ad 17), .ref (ad 18)])), (ad 10, .inl (cI, 12, .inl (tV T mv (nI kk) 0)))] := by first | rfl | (rw [← e_4]) | (simp only [← e_4])
    rw [eW] at hP hD
    have hP := hP.sub (ws' := [(ad 1, .inr (3, [.ref (ad 10), .int (nI (mv + 1)), .long (po ||| (cO (tV T mv (nI kk)) mv (-1))), .long oc, .ref (ad 11), .ref (ad 12), .ref (ad 13), .ref (ad 14), .ref (ad 15), .int 0, .ref (ad 16), .ref (ad 17), .ref (ad 18)])), (ad 10, .inl (cI, 12, .inl (tV T mv (nI kk) 0))), (ad 11, .inl (cI, 40, .inl (tV T mv (nI kk) 1))), (ad 12, .inl (cI, 40, .inl (tV T mv (nI kk) 2))), (ad 13, .inl (cI, 40, .inl (tV T mv (nI kk) 3))), (ad 14, .inl (cI, 40, .inl (tV T mv (nI kk) 4))), (ad 15, .inl (cI, 40, .inl (tV T mv (nI kk) 5))), (ad 16, .inl (cI, 120, .inl (tV T mv (nI kk) 6))), (ad 17, .inl (cI, 120, .inl (tV T mv (nI kk) 7))), (ad 18, .inl (cI, 120, .inl (tV T mv (nI kk) 8)))]) [8, 9, 0, 1, 2, 3, 4, 5, 6, 7] rfl
    have hD := hD.sub (ws' := [(ad 1, .inr (3, [.ref (ad 10), .int (nI (mv + 1)), .long (po ||| (cO (tV T mv (nI kk)) mv (-1))), .long oc, .ref (ad 11), .ref (ad 12), .ref (ad 13), .ref (ad 14), .ref (ad 15), .int 0, .ref (ad 16), .ref (ad 17), .ref (ad 18)])), (ad 10, .inl (cI, 12, .inl (tV T mv (nI kk) 0))), (ad 11, .inl (cI, 40, .inl (tV T mv (nI kk) 1))), (ad 12, .inl (cI, 40, .inl (tV T mv (nI kk) 2))), (ad 13, .inl (cI, 40, .inl (tV T mv (nI kk) 3))), (ad 14, .inl (cI, 40, .inl (tV T mv (nI kk) 4))), (ad 15, .inl (cI, 40, .inl (tV T mv (nI kk) 5))), (ad 16, .inl (cI, 120, .inl (tV T mv (nI kk) 6))), (ad 17, .inl (cI, 120, .inl (tV T mv (nI kk) 7))), (ad 18, .inl (cI, 120, .inl (tV T mv (nI kk) 8)))]) [8, 9, 0, 1, 2, 3, 4, 5, 6, 7] (by decide) rfl
    exact ke_i hx hb hr (by first | rfl | decide | exact bz_nar _) (po ||| (cO (tV T mv (nI kk)) mv (-1)), oc) (⟨rfl, by first | exact orL1 _ _ _ | exact orL2 _ _ _⟩) hP hD hS (Nat.le_of_ble_eq_true rfl) (Nat.le_of_ble_eq_true rfl) hlocks dX3_addVariable_60

set_option maxHeartbeats 4000000 in
set_option maxRecDepth 100000 in
theorem k_variable (l : Launch) (D : va_G) (cI cJ cZ cR : ClassId) (mv : Nat) (ad : Nat → Nat) (po : Int64) (oc : Int64) (T : Nat → Nat → Int32) (ob : Nat) (cd : Nat → Nat) (dd : Nat → Nat) (ch : Int32) (kk : Nat) (pb : Bool) (sz : Nat) (hm : mv < 12) (hk4 : kk < 4) : Met l yX5_variable (wx (.code yX5_variable cX5_variable 3 (some .int))) ({ frames := 2, cells := 0, slots := 0, locals := 48 }) (va_Pc [.ref ob, .int (nI kk), .int (bz pb)] (Pw D vwCl [(cI, .int), (cJ, .long), (cZ, .boolean), (cR, .array .int)] [(ob, .inr (5, [.ref (ad 1), .ref (cd 0), .ref (dd 0), .int ch])), (ad 1, .inr (3, [.ref (ad 10), .int (nI mv), .long po, .long oc, .ref (ad 11), .ref (ad 12), .ref (ad 13), .ref (ad 14), .ref (ad 15), .int 0, .ref (ad 16), .ref (ad 17), .ref (ad 18)])), (ad 10, .inl (cI, 12, .inl (T 0))), (ad 11, .inl (cI, 40, .inl (T 1))), (ad 12, .inl (cI, 40, .inl (T 2))), (ad 13, .inl (cI, 40, .inl (T 3))), (ad 14, .inl (cI, 40, .inl (T 4))), (ad 15, .inl (cI, 40, .inl (T 5))), (ad 16, .inl (cI, 120, .inl (T 6))), (ad 17, .inl (cI, 120, .inl (T 7))), (ad 18, .inl (cI, 120, .inl (T 8)))] sz)) (va_Qi (fun (r : Int32) (u : (Int64) × (Int64)) => r = nI mv ∧ u.1 ||| u.2 = po ||| oc ||| cO (tV T mv (nI kk)) mv (-1)) (Bw D vwCl (fun (u : (Int64) × (Int64)) => [(ob, .inr (5, [.ref (ad 1), .ref (cd 0), .ref (dd 0), .int 0])), (ad 1, .inr (3, [.ref (ad 10), .int (nI (mv + 1)), .long u.1, .long u.2, .ref (ad 11), .ref (ad 12), .ref (ad 13), .ref (ad 14), .ref (ad 15), .int 0, .ref (ad 16), .ref (ad 17), .ref (ad 18)])), (ad 10, .inl (cI, 12, .inl (tV T mv (nI kk) 0))), (ad 11, .inl (cI, 40, .inl (tV T mv (nI kk) 1))), (ad 12, .inl (cI, 40, .inl (tV T mv (nI kk) 2))), (ad 13, .inl (cI, 40, .inl (tV T mv (nI kk) 3))), (ad 14, .inl (cI, 40, .inl (tV T mv (nI kk) 4))), (ad 15, .inl (cI, 40, .inl (tV T mv (nI kk) 5))), (ad 16, .inl (cI, 120, .inl (tV T mv (nI kk) 6))), (ad 17, .inl (cI, 120, .inl (tV T mv (nI kk) 7))), (ad 18, .inl (cI, 120, .inl (tV T mv (nI kk) 8)))]) (va_A [(ob, .inr (5, [.ref (ad 1), .ref (cd 0), .ref (dd 0), .int ch])), (ad 1, .inr (3, [.ref (ad 10), .int (nI mv), .long po, .long oc, .ref (ad 11), .ref (ad 12), .ref (ad 13), .ref (ad 14), .ref (ad 15), .int 0, .ref (ad 16), .ref (ad 17), .ref (ad 18)])), (ad 10, .inl (cI, 12, .inl (T 0))), (ad 11, .inl (cI, 40, .inl (T 1))), (ad 12, .inl (cI, 40, .inl (T 2))), (ad 13, .inl (cI, 40, .inl (T 3))), (ad 14, .inl (cI, 40, .inl (T 4))), (ad 15, .inl (cI, 40, .inl (T 5))), (ad 16, .inl (cI, 120, .inl (T 6))), (ad 17, .inl (cI, 120, .inl (T 7))), (ad 18, .inl (cI, 120, .inl (T 8)))] sz)) (va_A [(ob, .inr (5, [.ref (ad 1), .ref (cd 0), .ref (dd 0), .int ch])), (ad 1, .inr (3, [.ref (ad 10), .int (nI mv), .long po, .long oc, .ref (ad 11), .ref (ad 12), .ref (ad 13), .ref (ad 14), .ref (ad 15), .int 0, .ref (ad 16), .ref (ad 17), .ref (ad 18)])), (ad 10, .inl (cI, 12, .inl (T 0))), (ad 11, .inl (cI, 40, .inl (T 1))), (ad 12, .inl (cI, 40, .inl (T 2))), (ad 13, .inl (cI, 40, .inl (T 3))), (ad 14, .inl (cI, 40, .inl (T 4))), (ad 15, .inl (cI, 40, .inl (T 5))), (ad 16, .inl (cI, 120, .inl (T 6))), (ad 17, .inl (cI, 120, .inl (T 7))), (ad 18, .inl (cI, 120, .inl (T 8)))] sz)) 0 0 (va_A [(ob, .inr (5, [.ref (ad 1), .ref (cd 0), .ref (dd 0), .int ch])), (ad 1, .inr (3, [.ref (ad 10), .int (nI mv), .long po, .long oc, .ref (ad 11), .ref (ad 12), .ref (ad 13), .ref (ad 14), .ref (ad 15), .int 0, .ref (ad 16), .ref (ad 17), .ref (ad 18)])), (ad 10, .inl (cI, 12, .inl (T 0))), (ad 11, .inl (cI, 40, .inl (T 1))), (ad 12, .inl (cI, 40, .inl (T 2))), (ad 13, .inl (cI, 40, .inl (T 3))), (ad 14, .inl (cI, 40, .inl (T 4))), (ad 15, .inl (cI, 40, .inl (T 5))), (ad 16, .inl (cI, 120, .inl (T 6))), (ad 17, .inl (cI, 120, .inl (T 7))), (ad 18, .inl (cI, 120, .inl (T 8)))] sz) := by
  refine Met.ofW (cc := cX5_variable) (maxL := 3) (ret := (some .int)) (by decide) rfl ?_
  intro p e s m args below meth c s₁ B hml hv9
  obtain ⟨rfl, hsz, hP, hK, hD0, hG⟩ := hv9
  have hx := B.exec
  have hb := B.bytes
  have hr := B.returns
  have hts := atoms_spec (ws := wx (.code yX5_variable cX5_variable 3 (some .int))) B.pre
  have hown : s.vm.findClass RX5 = some m.cls := findClass_of_methodNamed B.named
  have hlocks := B.notSynchronized
  subst hsz
  have hD := hD0.self (sz := s.heap.size)
  generalize hAe : va_A [(ob, .inr (5, [.ref (ad 1), .ref (cd 0), .ref (dd 0), .int ch])), (ad 1, .inr (3, [.ref (ad 10), .int (nI mv), .long po, .long oc, .ref (ad 11), .ref (ad 12), .ref (ad 13), .ref (ad 14), .ref (ad 15), .int 0, .ref (ad 16), .ref (ad 17), .ref (ad 18)])), (ad 10, .inl (cI, 12, .inl (T 0))), (ad 11, .inl (cI, 40, .inl (T 1))), (ad 12, .inl (cI, 40, .inl (T 2))), (ad 13, .inl (cI, 40, .inl (T 3))), (ad 14, .inl (cI, 40, .inl (T 4))), (ad 15, .inl (cI, 40, .inl (T 5))), (ad 16, .inl (cI, 120, .inl (T 6))), (ad 17, .inl (cI, 120, .inl (T 7))), (ad 18, .inl (cI, 120, .inl (T 8)))] s.heap.size = A at hD hG ⊢
  have hA : ∀ q : Nat, s.heap.size ≤ q → A q := fun q h => by rw [← hAe]; exact Or.inr h
  have hS : va_S A s.heap s.heap [] := va_S.rf
  have hP : va_P D vwCl [(ob, .inr (5, [.ref (ad 1), .ref (cd 0), .ref (dd 0), .int ch])), (ad 1, .inr (3, [.ref (ad 10), .int (nI mv), .long po, .long oc, .ref (ad 11), .ref (ad 12), .ref (ad 13), .ref (ad 14), .ref (ad 15), .int 0, .ref (ad 16), .ref (ad 17), .ref (ad 18)])), (ad 10, .inl (cI, 12, .inl (T 0))), (ad 11, .inl (cI, 40, .inl (T 1))), (ad 12, .inl (cI, 40, .inl (T 2))), (ad 13, .inl (cI, 40, .inl (T 3))), (ad 14, .inl (cI, 40, .inl (T 4))), (ad 15, .inl (cI, 40, .inl (T 5))), (ad 16, .inl (cI, 120, .inl (T 6))), (ad 17, .inl (cI, 120, .inl (T 7))), (ad 18, .inl (cI, 120, .inl (T 8)))] s.heap := hP
  have hl := lv_entry ([.ref ob, .int (nI kk), .int (bz pb)]) (n := 3) (Nat.le_of_ble_eq_true rfl)
  rw [lg_entry_eq]
  generalize (lg_sl ([.ref ob, .int (nI kk), .int (bz pb)]) ++ List.replicate (3 - (lg_sl ([.ref ob, .int (nI kk), .int (bz pb)])).length) Slot.unset).toArray = ls at hl ⊢
  have hl : lv_has ls 3 [(0, .ref ob), (1, .int (nI kk)), (2, .int (bz pb))] := hl
  refine lv_iload_n hx hb dX5_variable_0 rfl (lv_at hl 1 rfl) ?_
  refine lv_if_lt (tgt := 9) hx hb dX5_variable_1 (by decide) (fun c_1 => by
      have c_1 : kk < 0 := (nI_ltI (a := kk) (b := 0) (by omega) (by omega)).mp c_1
      exact absurd c_1 (Nat.not_lt_zero _)) (fun c_1 => ?_)
  have c_1 : 0 ≤ kk := Nat.le_of_not_lt (fun h9 => c_1 ((nI_ltI (a := kk) (b := 0) (by omega) (by omega)).mpr h9))
  refine lv_iload_n hx hb dX5_variable_4 rfl (lv_at hl 1 rfl) ?_
  refine lv_iconst (v := 3) hx hb dX5_variable_5 (by decide) ?_
  refine lv_icmp_le (tgt := 19) hx hb dX5_variable_6 (by decide) (fun c_6 => ?_) (fun c_6 => by
      have c_6 : 3 < kk := Nat.lt_of_not_le (fun h9 => c_6 ((nI_leI (a := kk) (b := 3) (by omega) (by omega)).mpr h9))
      exact absurd c_6 (by omega))
  have c_6 : kk ≤ 3 := (nI_leI (a := kk) (b := 3) (by omega) (by omega)).mp c_6
  refine lv_aload_n hx hb dX5_variable_19 rfl (lv_at hl 0 rfl) ?_
  refine va_get (D := D) (ci := 5) (v := .ref (ad 1)) (C := RX5) (T := TX5) (N := 4) (ref := "Ironwood") hx hb hts in_RX5 hown hK hP 0 rfl rfl 0 (by decide) (hts _ (mc q_288)) (fun _ h9 => h9) rfl dX5_variable_20 ?_
  refine va_getN (D := D) (ci := 3) (v := .int (nI mv)) (C := RX3) (T := TX3) (N := 13) (ref := "Ironwood$Told") (host := "Ironwood") hx hb hts in_RX3 hown hK hP 1 rfl rfl 1 (by decide) (hG.1.get 1 rfl) (fun _ h9 => h9) rfl dX5_variable_23 ?_
  refine lv_bipush (v := 12) hx hb dX5_variable_26 (by decide) ?_
  refine lv_icmp_lt (tgt := 41) hx hb dX5_variable_28 (by decide) (fun c_28 => ?_) (fun c_28 => by
      have c_28 : 12 ≤ mv := Nat.le_of_not_lt (fun h9 => c_28 ((nI_ltI (a := mv) (b := 12) (by omega) (by omega)).mpr h9))
      exact absurd c_28 (by omega))
  have c_28 : mv < 12 := (nI_ltI (a := mv) (b := 12) (by omega) (by omega)).mp c_28
  refine lv_aload_n hx hb dX5_variable_41 rfl (lv_at hl 0 rfl) ?_
  refine lv_iconst (v := 0) hx hb dX5_variable_42 (by decide) ?_
  refine va_put (D := D) (ci := 5) (v := .int 0) (ty := .boolean) (C := RX5) (T := TX5) (N := 4) (ref := "Ironwood") hx hb hts in_RX5 tyX5 tyX5_ok nmX5 hown hK hP hD hS 0 rfl rfl 3 (by decide) (hts _ (mc q_291)) (fun _ h9 => h9) rfl (by decide +kernel) rfl rfl (Nat.le_of_ble_eq_true rfl) dX5_variable_43 (fun H locs hP hD hS => ?_)
  have hP : va_P D vwCl [(ob, .inr (5, [.ref (ad 1), .ref (cd 0), .ref (dd 0), .int 0])), (ad 1, .inr (3, [.ref (ad 10), .int (nI mv), .long po, .long oc, .ref (ad 11), .ref (ad 12), .ref (ad 13), .ref (ad 14), .ref (ad 15), .int 0, .ref (ad 16), .ref (ad 17), .ref (ad 18)])), (ad 10, .inl (cI, 12, .inl (T 0))), (ad 11, .inl (cI, 40, .inl (T 1))), (ad 12, .inl (cI, 40, .inl (T 2))), (ad 13, .inl (cI, 40, .inl (T 3))), (ad 14, .inl (cI, 40, .inl (T 4))), (ad 15, .inl (cI, 40, .inl (T 5))), (ad 16, .inl (cI, 120, .inl (T 6))), (ad 17, .inl (cI, 120, .inl (T 7))), (ad 18, .inl (cI, 120, .inl (T 8)))] _ := hP
  have hD : va_D A [(ob, .inr (5, [.ref (ad 1), .ref (cd 0), .ref (dd 0), .int 0])), (ad 1, .inr (3, [.ref (ad 10), .int (nI mv), .long po, .long oc, .ref (ad 11), .ref (ad 12), .ref (ad 13), .ref (ad 14), .ref (ad 15), .int 0, .ref (ad 16), .ref (ad 17), .ref (ad 18)])), (ad 10, .inl (cI, 12, .inl (T 0))), (ad 11, .inl (cI, 40, .inl (T 1))), (ad 12, .inl (cI, 40, .inl (T 2))), (ad 13, .inl (cI, 40, .inl (T 3))), (ad 14, .inl (cI, 40, .inl (T 4))), (ad 15, .inl (cI, 40, .inl (T 5))), (ad 16, .inl (cI, 120, .inl (T 6))), (ad 17, .inl (cI, 120, .inl (T 7))), (ad 18, .inl (cI, 120, .inl (T 8)))] := hD
  refine lv_aload_n hx hb dX5_variable_46 rfl (lv_at hl 0 rfl) ?_
  refine va_get (D := D) (ci := 5) (v := .ref (ad 1)) (C := RX5) (T := TX5) (N := 4) (ref := "Ironwood") hx hb hts in_RX5 hown hK hP 0 rfl rfl 0 (by decide) (hts _ (mc q_288)) (fun _ h9 => h9) rfl dX5_variable_47 ?_
  refine lv_iload_n hx hb dX5_variable_50 rfl (lv_at hl 1 rfl) ?_
  refine lv_iload_n hx hb dX5_variable_51 rfl (lv_at hl 2 rfl) ?_
  refine kc_i (wr := [(ob, .inr (5, [.ref (ad 1), .ref (cd 0), .ref (dd 0), .int 0]))]) (va_runVN (As := [.int (nI kk), .int (bz pb)]) (rest := []) (host := "Ironwood") ⟨hx, hb, hml, hown, hts⟩ (k_addVariable l D cI cJ cZ cR mv ad po oc T kk pb _ hm hk4) ⟨va_cnB 2 hts (gB q_761) rfl rfl rfl (hG.1.nw 93 rfl) (hts _ (mc q_65)) (by decide +kernel) ⟨Nat.le_of_ble_eq_true rfl, Nat.le_of_ble_eq_true rfl⟩, hts _ (mc q_760), hts _ (mc q_53)⟩ ⟨Pw.blind, va_recv hK hP (ci := 3) (q0 := 1) rfl rfl, Pw.mk_call hP hK hD hS hA hG [1, 2, 3, 4, 5, 6, 7, 8, 9, 10] rfl (by decide)⟩ rfl rfl hl.1 rfl (lv_room (Nat.le_of_ble_eq_true rfl)) dX5_variable_52 ⟨Nat.le_of_ble_eq_true rfl, Nat.le_of_ble_eq_true rfl⟩) hP hD hS hA [1, 2, 3, 4, 5, 6, 7, 8, 9, 10] [0] rfl rfl (by decide) (by decide) (fun r_1 u_2 H locs hw hP hD hS => ?_)
  obtain ⟨po2_3, oc2_4⟩ := u_2
  obtain ⟨hw, hf_r_1⟩ := hw
  obtain rfl : r_1 = nI mv := hw
  have hP : va_P D vwCl [(ob, .inr (5, [.ref (ad 1), .ref (cd 0), .ref (dd 0), .int 0])), (ad 1, .inr (3, [.ref (ad 10), .int (nI (mv + 1)), .long po2_3, .long oc2_4, .ref (ad 11), .ref (ad 12), .ref (ad 13), .ref (ad 14), .ref (ad 15), .int 0, .ref (ad 16), .ref (ad 17), .ref (ad 18)])), (ad 10, .inl (cI, 12, .inl (tV T mv (nI kk) 0))), (ad 11, .inl (cI, 40, .inl (tV T mv (nI kk) 1))), (ad 12, .inl (cI, 40, .inl (tV T mv (nI kk) 2))), (ad 13, .inl (cI, 40, .inl (tV T mv (nI kk) 3))), (ad 14, .inl (cI, 40, .inl (tV T mv (nI kk) 4))), (ad 15, .inl (cI, 40, .inl (tV T mv (nI kk) 5))), (ad 16, .inl (cI, 120, .inl (tV T mv (nI kk) 6))), (ad 17, .inl (cI, 120, .inl (tV T mv (nI kk) 7))), (ad 18, .inl (cI, 120, .inl (tV T mv (nI kk) 8)))] _ := hP
  have hD : va_D A [(ob, .inr (5, [.ref (ad 1), .ref (cd 0), .ref (dd 0), .int 0])), (ad 1, .inr (3, [.ref (ad 10), .int (nI (mv + 1)), .long po2_3, .long oc2_4, .ref (ad 11), .ref (ad 12), .ref (ad 13), .ref (ad 14), .ref (ad 15), .int 0, .ref (ad 16), .ref (ad 17), .ref (ad 18)])), (ad 10, .inl (cI, 12, .inl (tV T mv (nI kk) 0))), (ad 11, .inl (cI, 40, .inl (tV T mv (nI kk) 1))), (ad 12, .inl (cI, 40, .inl (tV T mv (nI kk) 2))), (ad 13, .inl (cI, 40, .inl (tV T mv (nI kk) 3))), (ad 14, .inl (cI, 40, .inl (tV T mv (nI kk) 4))), (ad 15, .inl (cI, 40, .inl (tV T mv (nI kk) 5))), (ad 16, .inl (cI, 120, .inl (tV T mv (nI kk) 6))), (ad 17, .inl (cI, 120, .inl (tV T mv (nI kk) 7))), (ad 18, .inl (cI, 120, .inl (tV T mv (nI kk) 8)))] := hD
  exact ke_i hx hb hr (by first | rfl | decide | exact bz_nar _) (po2_3, oc2_4) (⟨rfl, by assumption⟩) hP hD hS (Nat.le_of_ble_eq_true rfl) (Nat.le_of_ble_eq_true rfl) hlocks dX5_variable_55

set_option maxHeartbeats 4000000 in
set_option maxRecDepth 100000 in
theorem k_build (l : Launch) (D : va_G) (cI cJ cZ cR : ClassId) (ad : Nat → Nat) (T : Nat → Nat → Int32) (ob : Nat) (cd : Nat → Nat) (dd : Nat → Nat) (kd : Nat) (k0 : Nat → Int32) (pz : Nat) (p0 : Nat → Int32) (sb : Nat) (sL : Nat) (sx : Nat → Int32) (mm : Nat) (sz : Nat) (hm1 : 1 ≤ mm) (hm2 : mm ≤ 20) (hL : sL ≤ 260) : Met l yL_build (wx (.code yL_build cL_build 10 (some (.array (.array .int))))) ({ frames := 4, cells := 1000, slots := 1000, locals := 95 }) (va_Pc [.ref ob, .ref sb, .int (nI mm), .ref kd, .ref pz] (Pw2 D vwCl [(cI, .int), (cJ, .long), (cZ, .boolean), (cR, .array .int)] sb sL sx [(ob, .inr (5, [.ref (ad 1), .ref (cd 0), .ref (dd 0), .int 0])), (ad 1, .inr (3, [.ref (ad 10), .int 0, .long 0, .long 0, .ref (ad 11), .ref (ad 12), .ref (ad 13), .ref (ad 14), .ref (ad 15), .int 0, .ref (ad 16), .ref (ad 17), .ref (ad 18)])), (ad 10, .inl (cI, 12, .inl (T 0))), (ad 11, .inl (cI, 40, .inl (T 1))), (ad 12, .inl (cI, 40, .inl (T 2))), (ad 13, .inl (cI, 40, .inl (T 3))), (ad 14, .inl (cI, 40, .inl (T 4))), (ad 15, .inl (cI, 40, .inl (T 5))), (ad 16, .inl (cI, 120, .inl (T 6))), (ad 17, .inl (cI, 120, .inl (T 7))), (ad 18, .inl (cI, 120, .inl (T 8))), (kd, .inl (cI, 6, .inl k0)), (pz, .inl (cZ, 6, .inl p0))] sz)) (va_Qr (fun (u : (Nat → Nat → Int32) × (Nat → Int32) × (Nat → Int32) × (Int64) × (Int64) × (Nat)) => TI u.1 mm ∧ BI 6 u.1 u.2.1 u.2.2.2.1 u.2.2.2.2.1) (fun (u : (Nat → Nat → Int32) × (Nat → Int32) × (Nat → Int32) × (Int64) × (Int64) × (Nat)) ra t9 => ra = u.2.2.2.2.2 ∧ Bw D vwCl (fun (u : (Nat → Nat → Int32) × (Nat → Int32) × (Nat → Int32) × (Int64) × (Int64) × (Nat)) => [(ob, .inr (5, [.ref (ad 1), .ref (cd 0), .ref (dd 0), .int 0])), (ad 1, .inr (3, [.ref (ad 10), .int 6, .long u.2.2.2.1, .long u.2.2.2.2.1, .ref (ad 11), .ref (ad 12), .ref (ad 13), .ref (ad 14), .ref (ad 15), .int (nI mm), .ref (ad 16), .ref (ad 17), .ref (ad 18)])), (ad 10, .inl (cI, 12, .inl (u.1 0))), (ad 11, .inl (cI, 40, .inl (u.1 1))), (ad 12, .inl (cI, 40, .inl (u.1 2))), (ad 13, .inl (cI, 40, .inl (u.1 3))), (ad 14, .inl (cI, 40, .inl (u.1 4))), (ad 15, .inl (cI, 40, .inl (u.1 5))), (ad 16, .inl (cI, 120, .inl (u.1 6))), (ad 17, .inl (cI, 120, .inl (u.1 7))), (ad 18, .inl (cI, 120, .inl (u.1 8))), (kd, .inl (cI, 6, .inl u.2.1)), (pz, .inl (cZ, 6, .inl u.2.2.1))]) (va_A [(ob, .inr (5, [.ref (ad 1), .ref (cd 0), .ref (dd 0), .int 0])), (ad 1, .inr (3, [.ref (ad 10), .int 0, .long 0, .long 0, .ref (ad 11), .ref (ad 12), .ref (ad 13), .ref (ad 14), .ref (ad 15), .int 0, .ref (ad 16), .ref (ad 17), .ref (ad 18)])), (ad 10, .inl (cI, 12, .inl (T 0))), (ad 11, .inl (cI, 40, .inl (T 1))), (ad 12, .inl (cI, 40, .inl (T 2))), (ad 13, .inl (cI, 40, .inl (T 3))), (ad 14, .inl (cI, 40, .inl (T 4))), (ad 15, .inl (cI, 40, .inl (T 5))), (ad 16, .inl (cI, 120, .inl (T 6))), (ad 17, .inl (cI, 120, .inl (T 7))), (ad 18, .inl (cI, 120, .inl (T 8))), (kd, .inl (cI, 6, .inl k0)), (pz, .inl (cZ, 6, .inl p0))] sz) u t9) (va_A [(ob, .inr (5, [.ref (ad 1), .ref (cd 0), .ref (dd 0), .int 0])), (ad 1, .inr (3, [.ref (ad 10), .int 0, .long 0, .long 0, .ref (ad 11), .ref (ad 12), .ref (ad 13), .ref (ad 14), .ref (ad 15), .int 0, .ref (ad 16), .ref (ad 17), .ref (ad 18)])), (ad 10, .inl (cI, 12, .inl (T 0))), (ad 11, .inl (cI, 40, .inl (T 1))), (ad 12, .inl (cI, 40, .inl (T 2))), (ad 13, .inl (cI, 40, .inl (T 3))), (ad 14, .inl (cI, 40, .inl (T 4))), (ad 15, .inl (cI, 40, .inl (T 5))), (ad 16, .inl (cI, 120, .inl (T 6))), (ad 17, .inl (cI, 120, .inl (T 7))), (ad 18, .inl (cI, 120, .inl (T 8))), (kd, .inl (cI, 6, .inl k0)), (pz, .inl (cZ, 6, .inl p0))] sz)) 1000 1000 (va_A [(ob, .inr (5, [.ref (ad 1), .ref (cd 0), .ref (dd 0), .int 0])), (ad 1, .inr (3, [.ref (ad 10), .int 0, .long 0, .long 0, .ref (ad 11), .ref (ad 12), .ref (ad 13), .ref (ad 14), .ref (ad 15), .int 0, .ref (ad 16), .ref (ad 17), .ref (ad 18)])), (ad 10, .inl (cI, 12, .inl (T 0))), (ad 11, .inl (cI, 40, .inl (T 1))), (ad 12, .inl (cI, 40, .inl (T 2))), (ad 13, .inl (cI, 40, .inl (T 3))), (ad 14, .inl (cI, 40, .inl (T 4))), (ad 15, .inl (cI, 40, .inl (T 5))), (ad 16, .inl (cI, 120, .inl (T 6))), (ad 17, .inl (cI, 120, .inl (T 7))), (ad 18, .inl (cI, 120, .inl (T 8))), (kd, .inl (cI, 6, .inl k0)), (pz, .inl (cZ, 6, .inl p0))] sz) := by
  refine Met.ofW (cc := cL_build) (maxL := 10) (ret := (some (.array (.array .int)))) (by decide) rfl ?_
  intro p e s m args below meth c s₁ B hml hv9
  obtain ⟨rfl, ⟨hsz, hP, hK, hD0, hG⟩, hX, hAO⟩ := hv9
  have hx := B.exec
  have hb := B.bytes
  have hr := B.returns
  have hts := atoms_spec (ws := wx (.code yL_build cL_build 10 (some (.array (.array .int))))) B.pre
  have hown : s.vm.findClass RL = some m.cls := findClass_of_methodNamed B.named
  have hlocks := B.notSynchronized
  subst hsz
  have hD := hD0.self (sz := s.heap.size)
  generalize hAe : va_A [(ob, .inr (5, [.ref (ad 1), .ref (cd 0), .ref (dd 0), .int 0])), (ad 1, .inr (3, [.ref (ad 10), .int 0, .long 0, .long 0, .ref (ad 11), .ref (ad 12), .ref (ad 13), .ref (ad 14), .ref (ad 15), .int 0, .ref (ad 16), .ref (ad 17), .ref (ad 18)])), (ad 10, .inl (cI, 12, .inl (T 0))), (ad 11, .inl (cI, 40, .inl (T 1))), (ad 12, .inl (cI, 40, .inl (T 2))), (ad 13, .inl (cI, 40, .inl (T 3))), (ad 14, .inl (cI, 40, .inl (T 4))), (ad 15, .inl (cI, 40, .inl (T 5))), (ad 16, .inl (cI, 120, .inl (T 6))), (ad 17, .inl (cI, 120, .inl (T 7))), (ad 18, .inl (cI, 120, .inl (T 8))), (kd, .inl (cI, 6, .inl k0)), (pz, .inl (cZ, 6, .inl p0))] s.heap.size = A at hD hG hX ⊢
  have hA : ∀ q : Nat, s.heap.size ≤ q → A q := fun q h => by rw [← hAe]; exact Or.inr h
  have hS : va_S A s.heap s.heap [] := va_S.rf
  have hP : va_P D vwCl [(ob, .inr (5, [.ref (ad 1), .ref (cd 0), .ref (dd 0), .int 0])), (ad 1, .inr (3, [.ref (ad 10), .int 0, .long 0, .long 0, .ref (ad 11), .ref (ad 12), .ref (ad 13), .ref (ad 14), .ref (ad 15), .int 0, .ref (ad 16), .ref (ad 17), .ref (ad 18)])), (ad 10, .inl (cI, 12, .inl (T 0))), (ad 11, .inl (cI, 40, .inl (T 1))), (ad 12, .inl (cI, 40, .inl (T 2))), (ad 13, .inl (cI, 40, .inl (T 3))), (ad 14, .inl (cI, 40, .inl (T 4))), (ad 15, .inl (cI, 40, .inl (T 5))), (ad 16, .inl (cI, 120, .inl (T 6))), (ad 17, .inl (cI, 120, .inl (T 7))), (ad 18, .inl (cI, 120, .inl (T 8))), (kd, .inl (cI, 6, .inl k0)), (pz, .inl (cZ, 6, .inl p0))] s.heap := hP
  have hl := lv_entry ([.ref ob, .ref sb, .int (nI mm), .ref kd, .ref pz]) (n := 10) (Nat.le_of_ble_eq_true rfl)
  rw [lg_entry_eq]
  generalize (lg_sl ([.ref ob, .ref sb, .int (nI mm), .ref kd, .ref pz]) ++ List.replicate (10 - (lg_sl ([.ref ob, .ref sb, .int (nI mm), .ref kd, .ref pz])).length) Slot.unset).toArray = ls at hl ⊢
  have hl : lv_has ls 10 [(0, .ref ob), (1, .ref sb), (2, .int (nI mm)), (3, .ref kd), (4, .ref pz)] := hl
  refine lv_iconst (v := 0) hx hb dL_build_0 (by decide) ?_
  refine lv_istore (lv' := [(5, .int 0), (0, .ref ob), (1, .ref sb), (2, .int (nI mm)), (3, .ref kd), (4, .ref pz)]) hx hb dL_build_1 hl (by decide) rfl (fun ls hl => ?_)
  refine W_loop (σ := (Nat) × (Nat → Nat → Int32) × (Nat → Int32) × (Nat → Int32) × (Int64) × (Int64)) (fun ⟨v, T1, kf, pf, po1, oc1⟩ => 6 - v) (fun ⟨v, T1, kf, pf, po1, oc1⟩ ls H locs => (v ≤ 6) ∧ (BI v T1 kf po1 oc1) ∧ lv_has ls 10 [(5, .int (nI v)), (0, .ref ob), (1, .ref sb), (2, .int (nI mm)), (3, .ref kd), (4, .ref pz)] ∧ va_P D vwCl [(ob, .inr (5, [.ref (ad 1), .ref (cd 0), .ref (dd 0), .int 0])), (ad 1, .inr (3, [.ref (ad 10), .int (nI v), .long po1, .long oc1, .ref (ad 11), .ref (ad 12), .ref (ad 13), .ref (ad 14), .ref (ad 15), .int 0, .ref (ad 16), .ref (ad 17), .ref (ad 18)])), (ad 10, .inl (cI, 12, .inl (T1 0))), (ad 11, .inl (cI, 40, .inl (T1 1))), (ad 12, .inl (cI, 40, .inl (T1 2))), (ad 13, .inl (cI, 40, .inl (T1 3))), (ad 14, .inl (cI, 40, .inl (T1 4))), (ad 15, .inl (cI, 40, .inl (T1 5))), (ad 16, .inl (cI, 120, .inl (T1 6))), (ad 17, .inl (cI, 120, .inl (T1 7))), (ad 18, .inl (cI, 120, .inl (T1 8))), (kd, .inl (cI, 6, .inl kf)), (pz, .inl (cZ, 6, .inl pf))] H ∧ va_D A [(ob, .inr (5, [.ref (ad 1), .ref (cd 0), .ref (dd 0), .int 0])), (ad 1, .inr (3, [.ref (ad 10), .int (nI v), .long po1, .long oc1, .ref (ad 11), .ref (ad 12), .ref (ad 13), .ref (ad 14), .ref (ad 15), .int 0, .ref (ad 16), .ref (ad 17), .ref (ad 18)])), (ad 10, .inl (cI, 12, .inl (T1 0))), (ad 11, .inl (cI, 40, .inl (T1 1))), (ad 12, .inl (cI, 40, .inl (T1 2))), (ad 13, .inl (cI, 40, .inl (T1 3))), (ad 14, .inl (cI, 40, .inl (T1 4))), (ad 15, .inl (cI, 40, .inl (T1 5))), (ad 16, .inl (cI, 120, .inl (T1 6))), (ad 17, .inl (cI, 120, .inl (T1 7))), (ad 18, .inl (cI, 120, .inl (T1 8))), (kd, .inl (cI, 6, .inl kf)), (pz, .inl (cZ, 6, .inl pf))] ∧ va_S A s.heap H locs) ?_ (0, T, k0, p0, 0, 0) _ _ _ ⟨Nat.zero_le _, BI_0, lv_sub hl (l' := [(5, .int 0), (0, .ref ob), (1, .ref sb), (2, .int (nI mm)), (3, .ref kd), (4, .ref pz)]) [0, 1, 2, 3, 4, 5] rfl, hP, hD, hS⟩
  rintro ⟨v, T1, kf, pf, po1, oc1⟩ ls H locs ⟨hv, hBI, hl, hP, hD, hS⟩ ih
  have hv : v ≤ 6 := hv
  have hBI : BI v T1 kf po1 oc1 := hBI
  have hl : lv_has ls 10 [(5, .int (nI v)), (0, .ref ob), (1, .ref sb), (2, .int (nI mm)), (3, .ref kd), (4, .ref pz)] := hl
  have hP : va_P D vwCl [(ob, .inr (5, [.ref (ad 1), .ref (cd 0), .ref (dd 0), .int 0])), (ad 1, .inr (3, [.ref (ad 10), .int (nI v), .long po1, .long oc1, .ref (ad 11), .ref (ad 12), .ref (ad 13), .ref (ad 14), .ref (ad 15), .int 0, .ref (ad 16), .ref (ad 17), .ref (ad 18)])), (ad 10, .inl (cI, 12, .inl (T1 0))), (ad 11, .inl (cI, 40, .inl (T1 1))), (ad 12, .inl (cI, 40, .inl (T1 2))), (ad 13, .inl (cI, 40, .inl (T1 3))), (ad 14, .inl (cI, 40, .inl (T1 4))), (ad 15, .inl (cI, 40, .inl (T1 5))), (ad 16, .inl (cI, 120, .inl (T1 6))), (ad 17, .inl (cI, 120, .inl (T1 7))), (ad 18, .inl (cI, 120, .inl (T1 8))), (kd, .inl (cI, 6, .inl kf)), (pz, .inl (cZ, 6, .inl pf))] _ := hP
  have hD : va_D A [(ob, .inr (5, [.ref (ad 1), .ref (cd 0), .ref (dd 0), .int 0])), (ad 1, .inr (3, [.ref (ad 10), .int (nI v), .long po1, .long oc1, .ref (ad 11), .ref (ad 12), .ref (ad 13), .ref (ad 14), .ref (ad 15), .int 0, .ref (ad 16), .ref (ad 17), .ref (ad 18)])), (ad 10, .inl (cI, 12, .inl (T1 0))), (ad 11, .inl (cI, 40, .inl (T1 1))), (ad 12, .inl (cI, 40, .inl (T1 2))), (ad 13, .inl (cI, 40, .inl (T1 3))), (ad 14, .inl (cI, 40, .inl (T1 4))), (ad 15, .inl (cI, 40, .inl (T1 5))), (ad 16, .inl (cI, 120, .inl (T1 6))), (ad 17, .inl (cI, 120, .inl (T1 7))), (ad 18, .inl (cI, 120, .inl (T1 8))), (kd, .inl (cI, 6, .inl kf)), (pz, .inl (cZ, 6, .inl pf))] := hD
  have ih_3 := ih
  refine lv_iload hx hb dL_build_3 (lv_at hl 0 rfl) ?_
  refine lv_aload_n hx hb dL_build_5 rfl (lv_at hl 4 rfl) ?_
  refine va_alen (v := 6) hx hb hK hP 11 0 rfl rfl (show Int32.ofNat 6 = 6 by decide) dL_build_6 ?_
  refine lv_icmp_ge (tgt := 82) hx hb dL_build_7 (by decide) (fun c_7 => ?_) (fun c_7 => ?_)
  · skip
    have c_7 : 6 ≤ v := (nI_leI (a := 6) (b := v) (by omega) (by omega)).mp c_7
    have hv6 : v = 6 := by omega
    subst hv6
    have hP : va_P D vwCl [(ob, .inr (5, [.ref (ad 1), .ref (cd 0), .ref (dd 0), .int 0])), (ad 1, .inr (3, [.ref (ad 10), .int 6, .long po1, .long oc1, .ref (ad 11), .ref (ad 12), .ref (ad 13), .ref (ad 14), .ref (ad 15), .int 0, .ref (ad 16), .ref (ad 17), .ref (ad 18)])), (ad 10, .inl (cI, 12, .inl (T1 0))), (ad 11, .inl (cI, 40, .inl (T1 1))), (ad 12, .inl (cI, 40, .inl (T1 2))), (ad 13, .inl (cI, 40, .inl (T1 3))), (ad 14, .inl (cI, 40, .inl (T1 4))), (ad 15, .inl (cI, 40, .inl (T1 5))), (ad 16, .inl (cI, 120, .inl (T1 6))), (ad 17, .inl (cI, 120, .inl (T1 7))), (ad 18, .inl (cI, 120, .inl (T1 8))), (kd, .inl (cI, 6, .inl kf)), (pz, .inl (cZ, 6, .inl pf))] _ := hP
    have hD : va_D A [(ob, .inr (5, [.ref (ad 1), .ref (cd 0), .ref (dd 0), .int 0])), (ad 1, .inr (3, [.ref (ad 10), .int 6, .long po1, .long oc1, .ref (ad 11), .ref (ad 12), .ref (ad 13), .ref (ad 14), .ref (ad 15), .int 0, .ref (ad 16), .ref (ad 17), .ref (ad 18)])), (ad 10, .inl (cI, 12, .inl (T1 0))), (ad 11, .inl (cI, 40, .inl (T1 1))), (ad 12, .inl (cI, 40, .inl (T1 2))), (ad 13, .inl (cI, 40, .inl (T1 3))), (ad 14, .inl (cI, 40, .inl (T1 4))), (ad 15, .inl (cI, 40, .inl (T1 5))), (ad 16, .inl (cI, 120, .inl (T1 6))), (ad 17, .inl (cI, 120, .inl (T1 7))), (ad 18, .inl (cI, 120, .inl (T1 8))), (kd, .inl (cI, 6, .inl kf)), (pz, .inl (cZ, 6, .inl pf))] := hD
    have hl : lv_has ls 10 [(5, .int 6), (0, .ref ob), (1, .ref sb), (2, .int (nI mm)), (3, .ref kd), (4, .ref pz)] := hl
    refine lv_iload_n hx hb dL_build_82 rfl (lv_at hl 3 rfl) ?_
    refine va_newqI (n := nI mm) (N' := mm) hx hb hown (hts _ (mc q_762)) hAO hK hP hD hS hA (nI_pos (by omega)) (nI_clamp (by omega)) (by omega) (Nat.le_trans (m := 1000) (by omega) (Nat.le_of_ble_eq_true rfl)) (Nat.le_trans (m := 1000) (by omega) (Nat.le_of_ble_eq_true rfl)) dL_build_83 (fun made cA9 H hK9 hP hD hS => ?_)
    obtain rfl : cR = cA9 := K_same hK9 (i := 3) (j := 4) (ty := .array .int) rfl rfl
    have hP : va_P D vwCl [(ob, .inr (5, [.ref (ad 1), .ref (cd 0), .ref (dd 0), .int 0])), (ad 1, .inr (3, [.ref (ad 10), .int 6, .long po1, .long oc1, .ref (ad 11), .ref (ad 12), .ref (ad 13), .ref (ad 14), .ref (ad 15), .int 0, .ref (ad 16), .ref (ad 17), .ref (ad 18)])), (ad 10, .inl (cI, 12, .inl (T1 0))), (ad 11, .inl (cI, 40, .inl (T1 1))), (ad 12, .inl (cI, 40, .inl (T1 2))), (ad 13, .inl (cI, 40, .inl (T1 3))), (ad 14, .inl (cI, 40, .inl (T1 4))), (ad 15, .inl (cI, 40, .inl (T1 5))), (ad 16, .inl (cI, 120, .inl (T1 6))), (ad 17, .inl (cI, 120, .inl (T1 7))), (ad 18, .inl (cI, 120, .inl (T1 8))), (kd, .inl (cI, 6, .inl kf)), (pz, .inl (cZ, 6, .inl pf)), (made, .inl (cR, mm, .inr (.inr (.inr (.inr (fun _ => none))))))] _ := hP
    have hD : va_D A [(ob, .inr (5, [.ref (ad 1), .ref (cd 0), .ref (dd 0), .int 0])), (ad 1, .inr (3, [.ref (ad 10), .int 6, .long po1, .long oc1, .ref (ad 11), .ref (ad 12), .ref (ad 13), .ref (ad 14), .ref (ad 15), .int 0, .ref (ad 16), .ref (ad 17), .ref (ad 18)])), (ad 10, .inl (cI, 12, .inl (T1 0))), (ad 11, .inl (cI, 40, .inl (T1 1))), (ad 12, .inl (cI, 40, .inl (T1 2))), (ad 13, .inl (cI, 40, .inl (T1 3))), (ad 14, .inl (cI, 40, .inl (T1 4))), (ad 15, .inl (cI, 40, .inl (T1 5))), (ad 16, .inl (cI, 120, .inl (T1 6))), (ad 17, .inl (cI, 120, .inl (T1 7))), (ad 18, .inl (cI, 120, .inl (T1 8))), (kd, .inl (cI, 6, .inl kf)), (pz, .inl (cZ, 6, .inl pf)), (made, .inl (cR, mm, .inr (.inr (.inr (.inr (fun _ => none))))))] := hD
    refine lv_astore (lv' := [(5, .ref made), (0, .ref ob), (1, .ref sb), (2, .int (nI mm)), (3, .ref kd), (4, .ref pz)]) hx hb dL_build_86 hl (by decide) rfl (fun ls hl => ?_)
    refine lv_iconst (v := 0) hx hb dL_build_88 (by decide) ?_
    refine lv_istore (lv' := [(6, .int 0), (5, .ref made), (0, .ref ob), (1, .ref sb), (2, .int (nI mm)), (3, .ref kd), (4, .ref pz)]) hx hb dL_build_89 hl (by decide) rfl (fun ls hl => ?_)
    refine lv_iconst (v := 0) hx hb dL_build_91 (by decide) ?_
    refine lv_istore (lv' := [(7, .int 0), (6, .int 0), (5, .ref made), (0, .ref ob), (1, .ref sb), (2, .int (nI mm)), (3, .ref kd), (4, .ref pz)]) hx hb dL_build_92 hl (by decide) rfl (fun ls hl => ?_)
    refine W.widen (k := 1 + 0) (n := 20 + 6 * 0) (by omega) (by omega) ?_
    refine W_loopC (σ := (Nat) × (Nat) × (Nat → Nat → Int32) × (Nat → Option Nat)) (fun ⟨i, k, T3, fm⟩ => 6 * mm - k) (fun ⟨i, k, T3, fm⟩ => 1 + k) (fun ⟨i, k, T3, fm⟩ => 20 + 6 * k) (fun ⟨i, k, T3, fm⟩ ls H locs => (i ≤ mm) ∧ (k ≤ 6 * mm) ∧ (TI T3 i) ∧ (T3 0 = T1 0) ∧ lv_has ls 10 [(7, .int (nI k)), (6, .int (nI i)), (5, .ref made), (0, .ref ob), (1, .ref sb), (2, .int (nI mm)), (3, .ref kd), (4, .ref pz)] ∧ va_P D vwCl [(ob, .inr (5, [.ref (ad 1), .ref (cd 0), .ref (dd 0), .int 0])), (ad 1, .inr (3, [.ref (ad 10), .int 6, .long po1, .long oc1, .ref (ad 11), .ref (ad 12), .ref (ad 13), .ref (ad 14), .ref (ad 15), .int (nI i), .ref (ad 16), .ref (ad 17), .ref (ad 18)])), (ad 10, .inl (cI, 12, .inl (T3 0))), (ad 11, .inl (cI, 40, .inl (T3 1))), (ad 12, .inl (cI, 40, .inl (T3 2))), (ad 13, .inl (cI, 40, .inl (T3 3))), (ad 14, .inl (cI, 40, .inl (T3 4))), (ad 15, .inl (cI, 40, .inl (T3 5))), (ad 16, .inl (cI, 120, .inl (T3 6))), (ad 17, .inl (cI, 120, .inl (T3 7))), (ad 18, .inl (cI, 120, .inl (T3 8))), (kd, .inl (cI, 6, .inl kf)), (pz, .inl (cZ, 6, .inl pf)), (made, .inl (cR, mm, .inr (.inr (.inr (.inr fm)))))] H ∧ va_D A [(ob, .inr (5, [.ref (ad 1), .ref (cd 0), .ref (dd 0), .int 0])), (ad 1, .inr (3, [.ref (ad 10), .int 6, .long po1, .long oc1, .ref (ad 11), .ref (ad 12), .ref (ad 13), .ref (ad 14), .ref (ad 15), .int (nI i), .ref (ad 16), .ref (ad 17), .ref (ad 18)])), (ad 10, .inl (cI, 12, .inl (T3 0))), (ad 11, .inl (cI, 40, .inl (T3 1))), (ad 12, .inl (cI, 40, .inl (T3 2))), (ad 13, .inl (cI, 40, .inl (T3 3))), (ad 14, .inl (cI, 40, .inl (T3 4))), (ad 15, .inl (cI, 40, .inl (T3 5))), (ad 16, .inl (cI, 120, .inl (T3 6))), (ad 17, .inl (cI, 120, .inl (T3 7))), (ad 18, .inl (cI, 120, .inl (T3 8))), (kd, .inl (cI, 6, .inl kf)), (pz, .inl (cZ, 6, .inl pf)), (made, .inl (cR, mm, .inr (.inr (.inr (.inr fm)))))] ∧ va_S A s.heap H locs) ?_ (0, 0, T1, fun _ => none) _ _ _ ⟨Nat.zero_le _, Nat.zero_le _, BI_TI hBI, rfl, lv_sub hl (l' := [(7, .int 0), (6, .int 0), (5, .ref made), (0, .ref ob), (1, .ref sb), (2, .int (nI mm)), (3, .ref kd), (4, .ref pz)]) [0, 1, 2, 3, 4, 5, 6, 7] rfl, hP, hD, hS⟩
    rintro ⟨i, k, T3, fm⟩ ls H locs ⟨hi, hk, hT3, h30, hl, hP, hD, hS⟩ ih
    have hi : i ≤ mm := hi
    have hk : k ≤ 6 * mm := hk
    have hT3 : TI T3 i := hT3
    have h30 : T3 0 = T1 0 := h30
    have hl : lv_has ls 10 [(7, .int (nI k)), (6, .int (nI i)), (5, .ref made), (0, .ref ob), (1, .ref sb), (2, .int (nI mm)), (3, .ref kd), (4, .ref pz)] := hl
    refine W.widen (k := 1 + k) (n := 20 + 6 * k) (Nat.le_of_eq rfl) (Nat.le_of_eq rfl) ?_
    have hP : va_P D vwCl [(ob, .inr (5, [.ref (ad 1), .ref (cd 0), .ref (dd 0), .int 0])), (ad 1, .inr (3, [.ref (ad 10), .int 6, .long po1, .long oc1, .ref (ad 11), .ref (ad 12), .ref (ad 13), .ref (ad 14), .ref (ad 15), .int (nI i), .ref (ad 16), .ref (ad 17), .ref (ad 18)])), (ad 10, .inl (cI, 12, .inl (T3 0))), (ad 11, .inl (cI, 40, .inl (T3 1))), (ad 12, .inl (cI, 40, .inl (T3 2))), (ad 13, .inl (cI, 40, .inl (T3 3))), (ad 14, .inl (cI, 40, .inl (T3 4))), (ad 15, .inl (cI, 40, .inl (T3 5))), (ad 16, .inl (cI, 120, .inl (T3 6))), (ad 17, .inl (cI, 120, .inl (T3 7))), (ad 18, .inl (cI, 120, .inl (T3 8))), (kd, .inl (cI, 6, .inl kf)), (pz, .inl (cZ, 6, .inl pf)), (made, .inl (cR, mm, .inr (.inr (.inr (.inr fm)))))] _ := hP
    have hD : va_D A [(ob, .inr (5, [.ref (ad 1), .ref (cd 0), .ref (dd 0), .int 0])), (ad 1, .inr (3, [.ref (ad 10), .int 6, .long po1, .long oc1, .ref (ad 11), .ref (ad 12), .ref (ad 13), .ref (ad 14), .ref (ad 15), .int (nI i), .ref (ad 16), .ref (ad 17), .ref (ad 18)])), (ad 10, .inl (cI, 12, .inl (T3 0))), (ad 11, .inl (cI, 40, .inl (T3 1))), (ad 12, .inl (cI, 40, .inl (T3 2))), (ad 13, .inl (cI, 40, .inl (T3 3))), (ad 14, .inl (cI, 40, .inl (T3 4))), (ad 15, .inl (cI, 40, .inl (T3 5))), (ad 16, .inl (cI, 120, .inl (T3 6))), (ad 17, .inl (cI, 120, .inl (T3 7))), (ad 18, .inl (cI, 120, .inl (T3 8))), (kd, .inl (cI, 6, .inl kf)), (pz, .inl (cZ, 6, .inl pf)), (made, .inl (cR, mm, .inr (.inr (.inr (.inr fm)))))] := hD
    have ih_94 := ih
    refine lv_iload hx hb dL_build_94 (lv_at hl 1 rfl) ?_
    refine lv_iload_n hx hb dL_build_96 rfl (lv_at hl 5 rfl) ?_
    refine lv_icmp_ge (tgt := 247) hx hb dL_build_97 (by decide) (fun c_97 => ?_) (fun c_97 => ?_)
    · skip
      have c_97 : mm ≤ i := (nI_leI (a := mm) (b := i) (by omega) (by omega)).mp c_97
      refine W.widen (k := 121 + i) (n := 740 + 6 * i) (by omega) (by omega) ?_
      refine W_loopC (σ := (Nat) × (Nat → Nat → Int32) × (Nat → Option Nat)) (fun ⟨i2, T4, fm2⟩ => mm - i2) (fun ⟨i2, T4, fm2⟩ => 121 + i2) (fun ⟨i2, T4, fm2⟩ => 740 + 6 * i2) (fun ⟨i2, T4, fm2⟩ ls H locs => (i2 ≤ mm) ∧ (TI T4 i2) ∧ (T4 0 = T1 0) ∧ lv_has ls 10 [(6, .int (nI i2)), (5, .ref made), (0, .ref ob), (1, .ref sb), (2, .int (nI mm)), (3, .ref kd), (4, .ref pz)] ∧ va_P D vwCl [(ob, .inr (5, [.ref (ad 1), .ref (cd 0), .ref (dd 0), .int 0])), (ad 1, .inr (3, [.ref (ad 10), .int 6, .long po1, .long oc1, .ref (ad 11), .ref (ad 12), .ref (ad 13), .ref (ad 14), .ref (ad 15), .int (nI i2), .ref (ad 16), .ref (ad 17), .ref (ad 18)])), (ad 10, .inl (cI, 12, .inl (T4 0))), (ad 11, .inl (cI, 40, .inl (T4 1))), (ad 12, .inl (cI, 40, .inl (T4 2))), (ad 13, .inl (cI, 40, .inl (T4 3))), (ad 14, .inl (cI, 40, .inl (T4 4))), (ad 15, .inl (cI, 40, .inl (T4 5))), (ad 16, .inl (cI, 120, .inl (T4 6))), (ad 17, .inl (cI, 120, .inl (T4 7))), (ad 18, .inl (cI, 120, .inl (T4 8))), (kd, .inl (cI, 6, .inl kf)), (pz, .inl (cZ, 6, .inl pf)), (made, .inl (cR, mm, .inr (.inr (.inr (.inr fm2)))))] H ∧ va_D A [(ob, .inr (5, [.ref (ad 1), .ref (cd 0), .ref (dd 0), .int 0])), (ad 1, .inr (3, [.ref (ad 10), .int 6, .long po1, .long oc1, .ref (ad 11), .ref (ad 12), .ref (ad 13), .ref (ad 14), .ref (ad 15), .int (nI i2), .ref (ad 16), .ref (ad 17), .ref (ad 18)])), (ad 10, .inl (cI, 12, .inl (T4 0))), (ad 11, .inl (cI, 40, .inl (T4 1))), (ad 12, .inl (cI, 40, .inl (T4 2))), (ad 13, .inl (cI, 40, .inl (T4 3))), (ad 14, .inl (cI, 40, .inl (T4 4))), (ad 15, .inl (cI, 40, .inl (T4 5))), (ad 16, .inl (cI, 120, .inl (T4 6))), (ad 17, .inl (cI, 120, .inl (T4 7))), (ad 18, .inl (cI, 120, .inl (T4 8))), (kd, .inl (cI, 6, .inl kf)), (pz, .inl (cZ, 6, .inl pf)), (made, .inl (cR, mm, .inr (.inr (.inr (.inr fm2)))))] ∧ va_S A s.heap H locs) ?_ (i, T3, fm) _ _ _ ⟨hi, hT3, h30, lv_sub hl (l' := [(6, .int (nI i)), (5, .ref made), (0, .ref ob), (1, .ref sb), (2, .int (nI mm)), (3, .ref kd), (4, .ref pz)]) [1, 2, 3, 4, 5, 6, 7] rfl, hP, hD, hS⟩
      rintro ⟨i2, T4, fm2⟩ ls H locs ⟨hi2, hT4, h40, hl, hP, hD, hS⟩ ih
      have hi2 : i2 ≤ mm := hi2
      have hT4 : TI T4 i2 := hT4
      have h40 : T4 0 = T1 0 := h40
      have hl : lv_has ls 10 [(6, .int (nI i2)), (5, .ref made), (0, .ref ob), (1, .ref sb), (2, .int (nI mm)), (3, .ref kd), (4, .ref pz)] := hl
      refine W.widen (k := 121 + i2) (n := 740 + 6 * i2) (Nat.le_of_eq rfl) (Nat.le_of_eq rfl) ?_
      have hP : va_P D vwCl [(ob, .inr (5, [.ref (ad 1), .ref (cd 0), .ref (dd 0), .int 0])), (ad 1, .inr (3, [.ref (ad 10), .int 6, .long po1, .long oc1, .ref (ad 11), .ref (ad 12), .ref (ad 13), .ref (ad 14), .ref (ad 15), .int (nI i2), .ref (ad 16), .ref (ad 17), .ref (ad 18)])), (ad 10, .inl (cI, 12, .inl (T4 0))), (ad 11, .inl (cI, 40, .inl (T4 1))), (ad 12, .inl (cI, 40, .inl (T4 2))), (ad 13, .inl (cI, 40, .inl (T4 3))), (ad 14, .inl (cI, 40, .inl (T4 4))), (ad 15, .inl (cI, 40, .inl (T4 5))), (ad 16, .inl (cI, 120, .inl (T4 6))), (ad 17, .inl (cI, 120, .inl (T4 7))), (ad 18, .inl (cI, 120, .inl (T4 8))), (kd, .inl (cI, 6, .inl kf)), (pz, .inl (cZ, 6, .inl pf)), (made, .inl (cR, mm, .inr (.inr (.inr (.inr fm2)))))] _ := hP
      have hD : va_D A [(ob, .inr (5, [.ref (ad 1), .ref (cd 0), .ref (dd 0), .int 0])), (ad 1, .inr (3, [.ref (ad 10), .int 6, .long po1, .long oc1, .ref (ad 11), .ref (ad 12), .ref (ad 13), .ref (ad 14), .ref (ad 15), .int (nI i2), .ref (ad 16), .ref (ad 17), .ref (ad 18)])), (ad 10, .inl (cI, 12, .inl (T4 0))), (ad 11, .inl (cI, 40, .inl (T4 1))), (ad 12, .inl (cI, 40, .inl (T4 2))), (ad 13, .inl (cI, 40, .inl (T4 3))), (ad 14, .inl (cI, 40, .inl (T4 4))), (ad 15, .inl (cI, 40, .inl (T4 5))), (ad 16, .inl (cI, 120, .inl (T4 6))), (ad 17, .inl (cI, 120, .inl (T4 7))), (ad 18, .inl (cI, 120, .inl (T4 8))), (kd, .inl (cI, 6, .inl kf)), (pz, .inl (cZ, 6, .inl pf)), (made, .inl (cR, mm, .inr (.inr (.inr (.inr fm2)))))] := hD
      have ih_247 := ih
      refine lv_iload hx hb dL_build_247 (lv_at hl 0 rfl) ?_
      refine lv_iload_n hx hb dL_build_249 rfl (lv_at hl 4 rfl) ?_
      refine lv_icmp_ge (tgt := 307) hx hb dL_build_250 (by decide) (fun c_250 => ?_) (fun c_250 => ?_)
      · skip
        have c_250 : mm ≤ i2 := (nI_leI (a := mm) (b := i2) (by omega) (by omega)).mp c_250
        have hi9 : i2 = mm := by omega
        rw [hi9] at hl hP hD hT4
        have hP : va_P D vwCl [(ob, .inr (5, [.ref (ad 1), .ref (cd 0), .ref (dd 0), .int 0])), (ad 1, .inr (3, [.ref (ad 10), .int 6, .long po1, .long oc1, .ref (ad 11), .ref (ad 12), .ref (ad 13), .ref (ad 14), .ref (ad 15), .int (nI mm), .ref (ad 16), .ref (ad 17), .ref (ad 18)])), (ad 10, .inl (cI, 12, .inl (T4 0))), (ad 11, .inl (cI, 40, .inl (T4 1))), (ad 12, .inl (cI, 40, .inl (T4 2))), (ad 13, .inl (cI, 40, .inl (T4 3))), (ad 14, .inl (cI, 40, .inl (T4 4))), (ad 15, .inl (cI, 40, .inl (T4 5))), (ad 16, .inl (cI, 120, .inl (T4 6))), (ad 17, .inl (cI, 120, .inl (T4 7))), (ad 18, .inl (cI, 120, .inl (T4 8))), (kd, .inl (cI, 6, .inl kf)), (pz, .inl (cZ, 6, .inl pf)), (made, .inl (cR, mm, .inr (.inr (.inr (.inr fm2)))))] _ := hP
        have hD : va_D A [(ob, .inr (5, [.ref (ad 1), .ref (cd 0), .ref (dd 0), .int 0])), (ad 1, .inr (3, [.ref (ad 10), .int 6, .long po1, .long oc1, .ref (ad 11), .ref (ad 12), .ref (ad 13), .ref (ad 14), .ref (ad 15), .int (nI mm), .ref (ad 16), .ref (ad 17), .ref (ad 18)])), (ad 10, .inl (cI, 12, .inl (T4 0))), (ad 11, .inl (cI, 40, .inl (T4 1))), (ad 12, .inl (cI, 40, .inl (T4 2))), (ad 13, .inl (cI, 40, .inl (T4 3))), (ad 14, .inl (cI, 40, .inl (T4 4))), (ad 15, .inl (cI, 40, .inl (T4 5))), (ad 16, .inl (cI, 120, .inl (T4 6))), (ad 17, .inl (cI, 120, .inl (T4 7))), (ad 18, .inl (cI, 120, .inl (T4 8))), (kd, .inl (cI, 6, .inl kf)), (pz, .inl (cZ, 6, .inl pf)), (made, .inl (cR, mm, .inr (.inr (.inr (.inr fm2)))))] := hD
        have hl : lv_has ls 10 [(6, .int (nI mm)), (5, .ref made), (0, .ref ob), (1, .ref sb), (2, .int (nI mm)), (3, .ref kd), (4, .ref pz)] := hl
        refine lv_aload hx hb dL_build_307 (lv_at hl 1 rfl) ?_
        have hP := hP.sub (ws' := [(ob, .inr (5, [.ref (ad 1), .ref (cd 0), .ref (dd 0), .int 0])), (ad 1, .inr (3, [.ref (ad 10), .int 6, .long po1, .long oc1, .ref (ad 11), .ref (ad 12), .ref (ad 13), .ref (ad 14), .ref (ad 15), .int (nI mm), .ref (ad 16), .ref (ad 17), .ref (ad 18)])), (ad 10, .inl (cI, 12, .inl (T4 0))), (ad 11, .inl (cI, 40, .inl (T4 1))), (ad 12, .inl (cI, 40, .inl (T4 2))), (ad 13, .inl (cI, 40, .inl (T4 3))), (ad 14, .inl (cI, 40, .inl (T4 4))), (ad 15, .inl (cI, 40, .inl (T4 5))), (ad 16, .inl (cI, 120, .inl (T4 6))), (ad 17, .inl (cI, 120, .inl (T4 7))), (ad 18, .inl (cI, 120, .inl (T4 8))), (kd, .inl (cI, 6, .inl kf)), (pz, .inl (cZ, 6, .inl pf))]) [0, 1, 2, 3, 4, 5, 6, 7, 8, 9, 10, 11, 12] rfl
        have hD := hD.sub (ws' := [(ob, .inr (5, [.ref (ad 1), .ref (cd 0), .ref (dd 0), .int 0])), (ad 1, .inr (3, [.ref (ad 10), .int 6, .long po1, .long oc1, .ref (ad 11), .ref (ad 12), .ref (ad 13), .ref (ad 14), .ref (ad 15), .int (nI mm), .ref (ad 16), .ref (ad 17), .ref (ad 18)])), (ad 10, .inl (cI, 12, .inl (T4 0))), (ad 11, .inl (cI, 40, .inl (T4 1))), (ad 12, .inl (cI, 40, .inl (T4 2))), (ad 13, .inl (cI, 40, .inl (T4 3))), (ad 14, .inl (cI, 40, .inl (T4 4))), (ad 15, .inl (cI, 40, .inl (T4 5))), (ad 16, .inl (cI, 120, .inl (T4 6))), (ad 17, .inl (cI, 120, .inl (T4 7))), (ad 18, .inl (cI, 120, .inl (T4 8))), (kd, .inl (cI, 6, .inl kf)), (pz, .inl (cZ, 6, .inl pf))]) [0, 1, 2, 3, 4, 5, 6, 7, 8, 9, 10, 11, 12] (by decide) rfl
        exact ke_r hx hb hr (by first | exact Or.inl ⟨_, rfl⟩ | exact Or.inr ⟨_, rfl⟩) (T4, kf, pf, po1, oc1, made) rfl (⟨hT4, BI_cg hBI h40⟩) hP hD hS (by omega) (by omega) hlocks dL_build_309
      · skip
        have c_250 : i2 < mm := Nat.lt_of_not_le (fun h9 => c_250 ((nI_leI (a := mm) (b := i2) (by omega) (by omega)).mpr h9))
        refine lv_bipush (v := 6) hx hb dL_build_253 (by decide) ?_
        refine va_newa (atype := .int) (ty := .int) (N' := 6) (a0 := (6, .inl (fun _ => 0))) hx hb (hts _ (mc q_156)) rfl hK hP hD hS hA (fun _ => rfl) (by decide) (by decide) (by decide) (Nat.le_trans (m := 1000) (by omega) (Nat.le_of_ble_eq_true rfl)) (Nat.le_trans (m := 1000) (by omega) (Nat.le_of_ble_eq_true rfl)) dL_build_255 (fun q_4 cA9 H hK9 hP hD hS => ?_)
        obtain rfl : cI = cA9 := K_same hK9 (i := 0) (j := 4) (ty := .int) rfl rfl
        have hP : va_P D vwCl [(ob, .inr (5, [.ref (ad 1), .ref (cd 0), .ref (dd 0), .int 0])), (ad 1, .inr (3, [.ref (ad 10), .int 6, .long po1, .long oc1, .ref (ad 11), .ref (ad 12), .ref (ad 13), .ref (ad 14), .ref (ad 15), .int (nI i2), .ref (ad 16), .ref (ad 17), .ref (ad 18)])), (ad 10, .inl (cI, 12, .inl (T4 0))), (ad 11, .inl (cI, 40, .inl (T4 1))), (ad 12, .inl (cI, 40, .inl (T4 2))), (ad 13, .inl (cI, 40, .inl (T4 3))), (ad 14, .inl (cI, 40, .inl (T4 4))), (ad 15, .inl (cI, 40, .inl (T4 5))), (ad 16, .inl (cI, 120, .inl (T4 6))), (ad 17, .inl (cI, 120, .inl (T4 7))), (ad 18, .inl (cI, 120, .inl (T4 8))), (kd, .inl (cI, 6, .inl kf)), (pz, .inl (cZ, 6, .inl pf)), (made, .inl (cR, mm, .inr (.inr (.inr (.inr fm2))))), (q_4, .inl (cI, 6, .inl (fun _ => 0)))] _ := hP
        have hD : va_D A [(ob, .inr (5, [.ref (ad 1), .ref (cd 0), .ref (dd 0), .int 0])), (ad 1, .inr (3, [.ref (ad 10), .int 6, .long po1, .long oc1, .ref (ad 11), .ref (ad 12), .ref (ad 13), .ref (ad 14), .ref (ad 15), .int (nI i2), .ref (ad 16), .ref (ad 17), .ref (ad 18)])), (ad 10, .inl (cI, 12, .inl (T4 0))), (ad 11, .inl (cI, 40, .inl (T4 1))), (ad 12, .inl (cI, 40, .inl (T4 2))), (ad 13, .inl (cI, 40, .inl (T4 3))), (ad 14, .inl (cI, 40, .inl (T4 4))), (ad 15, .inl (cI, 40, .inl (T4 5))), (ad 16, .inl (cI, 120, .inl (T4 6))), (ad 17, .inl (cI, 120, .inl (T4 7))), (ad 18, .inl (cI, 120, .inl (T4 8))), (kd, .inl (cI, 6, .inl kf)), (pz, .inl (cZ, 6, .inl pf)), (made, .inl (cR, mm, .inr (.inr (.inr (.inr fm2))))), (q_4, .inl (cI, 6, .inl (fun _ => 0)))] := hD
        refine lv_dup hx hb dL_build_257 rfl ?_
        refine lv_iconst (v := 0) hx hb dL_build_258 (by decide) ?_
        refine lv_iconst (v := 5) hx hb dL_build_259 (by decide) ?_
        refine va_iast hx hb hK hP hD hS 14 0 rfl rfl (vp_in_nI (n := 0) (by omega) (by omega)) dL_build_260 (fun H locs hP hD hS => ?_)
        rw [show Int32.toNatClampNeg 0 = 0 from by decide] at hP hD
        have hP : va_P D vwCl [(ob, .inr (5, [.ref (ad 1), .ref (cd 0), .ref (dd 0), .int 0])), (ad 1, .inr (3, [.ref (ad 10), .int 6, .long po1, .long oc1, .ref (ad 11), .ref (ad 12), .ref (ad 13), .ref (ad 14), .ref (ad 15), .int (nI i2), .ref (ad 16), .ref (ad 17), .ref (ad 18)])), (ad 10, .inl (cI, 12, .inl (T4 0))), (ad 11, .inl (cI, 40, .inl (T4 1))), (ad 12, .inl (cI, 40, .inl (T4 2))), (ad 13, .inl (cI, 40, .inl (T4 3))), (ad 14, .inl (cI, 40, .inl (T4 4))), (ad 15, .inl (cI, 40, .inl (T4 5))), (ad 16, .inl (cI, 120, .inl (T4 6))), (ad 17, .inl (cI, 120, .inl (T4 7))), (ad 18, .inl (cI, 120, .inl (T4 8))), (kd, .inl (cI, 6, .inl kf)), (pz, .inl (cZ, 6, .inl pf)), (made, .inl (cR, mm, .inr (.inr (.inr (.inr fm2))))), (q_4, .inl (cI, 6, .inl (upd (fun _ => 0) 0 5)))] _ := hP
        have hD : va_D A [(ob, .inr (5, [.ref (ad 1), .ref (cd 0), .ref (dd 0), .int 0])), (ad 1, .inr (3, [.ref (ad 10), .int 6, .long po1, .long oc1, .ref (ad 11), .ref (ad 12), .ref (ad 13), .ref (ad 14), .ref (ad 15), .int (nI i2), .ref (ad 16), .ref (ad 17), .ref (ad 18)])), (ad 10, .inl (cI, 12, .inl (T4 0))), (ad 11, .inl (cI, 40, .inl (T4 1))), (ad 12, .inl (cI, 40, .inl (T4 2))), (ad 13, .inl (cI, 40, .inl (T4 3))), (ad 14, .inl (cI, 40, .inl (T4 4))), (ad 15, .inl (cI, 40, .inl (T4 5))), (ad 16, .inl (cI, 120, .inl (T4 6))), (ad 17, .inl (cI, 120, .inl (T4 7))), (ad 18, .inl (cI, 120, .inl (T4 8))), (kd, .inl (cI, 6, .inl kf)), (pz, .inl (cZ, 6, .inl pf)), (made, .inl (cR, mm, .inr (.inr (.inr (.inr fm2))))), (q_4, .inl (cI, 6, .inl (upd (fun _ => 0) 0 5)))] := hD
        refine lv_dup hx hb dL_build_261 rfl ?_
        refine lv_iconst (v := 1) hx hb dL_build_262 (by decide) ?_
        refine lv_iconst (v := (-1)) hx hb dL_build_263 (by decide) ?_
        refine va_iast hx hb hK hP hD hS 14 0 rfl rfl (vp_in_nI (n := 1) (by omega) (by omega)) dL_build_264 (fun H locs hP hD hS => ?_)
        rw [show Int32.toNatClampNeg 1 = 1 from by decide] at hP hD
        have hP : va_P D vwCl [(ob, .inr (5, [.ref (ad 1), .ref (cd 0), .ref (dd 0), .int 0])), (ad 1, .inr (3, [.ref (ad 10), .int 6, .long po1, .long oc1, .ref (ad 11), .ref (ad 12), .ref (ad 13), .ref (ad 14), .ref (ad 15), .int (nI i2), .ref (ad 16), .ref (ad 17), .ref (ad 18)])), (ad 10, .inl (cI, 12, .inl (T4 0))), (ad 11, .inl (cI, 40, .inl (T4 1))), (ad 12, .inl (cI, 40, .inl (T4 2))), (ad 13, .inl (cI, 40, .inl (T4 3))), (ad 14, .inl (cI, 40, .inl (T4 4))), (ad 15, .inl (cI, 40, .inl (T4 5))), (ad 16, .inl (cI, 120, .inl (T4 6))), (ad 17, .inl (cI, 120, .inl (T4 7))), (ad 18, .inl (cI, 120, .inl (T4 8))), (kd, .inl (cI, 6, .inl kf)), (pz, .inl (cZ, 6, .inl pf)), (made, .inl (cR, mm, .inr (.inr (.inr (.inr fm2))))), (q_4, .inl (cI, 6, .inl (upd (upd (fun _ => 0) 0 5) 1 (-1))))] _ := hP
        have hD : va_D A [(ob, .inr (5, [.ref (ad 1), .ref (cd 0), .ref (dd 0), .int 0])), (ad 1, .inr (3, [.ref (ad 10), .int 6, .long po1, .long oc1, .ref (ad 11), .ref (ad 12), .ref (ad 13), .ref (ad 14), .ref (ad 15), .int (nI i2), .ref (ad 16), .ref (ad 17), .ref (ad 18)])), (ad 10, .inl (cI, 12, .inl (T4 0))), (ad 11, .inl (cI, 40, .inl (T4 1))), (ad 12, .inl (cI, 40, .inl (T4 2))), (ad 13, .inl (cI, 40, .inl (T4 3))), (ad 14, .inl (cI, 40, .inl (T4 4))), (ad 15, .inl (cI, 40, .inl (T4 5))), (ad 16, .inl (cI, 120, .inl (T4 6))), (ad 17, .inl (cI, 120, .inl (T4 7))), (ad 18, .inl (cI, 120, .inl (T4 8))), (kd, .inl (cI, 6, .inl kf)), (pz, .inl (cZ, 6, .inl pf)), (made, .inl (cR, mm, .inr (.inr (.inr (.inr fm2))))), (q_4, .inl (cI, 6, .inl (upd (upd (fun _ => 0) 0 5) 1 (-1))))] := hD
        refine lv_dup hx hb dL_build_265 rfl ?_
        refine lv_iconst (v := 2) hx hb dL_build_266 (by decide) ?_
        refine lv_iload hx hb dL_build_267 (lv_at hl 0 rfl) ?_
        refine lv_aload_n hx hb dL_build_269 rfl (lv_at hl 5 rfl) ?_
        refine va_alen (v := 6) hx hb hK hP 11 0 rfl rfl (show Int32.ofNat 6 = 6 by decide) dL_build_270 ?_
        refine lv_irem hx hb dL_build_271 (by decide) ?_
        refine tI (v := nI (i2 % 6)) ((pk_rem (a := i2) (d := 6) (by omega) (by omega) (by omega))) ?_
        refine va_iast hx hb hK hP hD hS 14 0 rfl rfl (vp_in_nI (n := 2) (by omega) (by omega)) dL_build_272 (fun H locs hP hD hS => ?_)
        rw [show Int32.toNatClampNeg 2 = 2 from by decide] at hP hD
        have hP : va_P D vwCl [(ob, .inr (5, [.ref (ad 1), .ref (cd 0), .ref (dd 0), .int 0])), (ad 1, .inr (3, [.ref (ad 10), .int 6, .long po1, .long oc1, .ref (ad 11), .ref (ad 12), .ref (ad 13), .ref (ad 14), .ref (ad 15), .int (nI i2), .ref (ad 16), .ref (ad 17), .ref (ad 18)])), (ad 10, .inl (cI, 12, .inl (T4 0))), (ad 11, .inl (cI, 40, .inl (T4 1))), (ad 12, .inl (cI, 40, .inl (T4 2))), (ad 13, .inl (cI, 40, .inl (T4 3))), (ad 14, .inl (cI, 40, .inl (T4 4))), (ad 15, .inl (cI, 40, .inl (T4 5))), (ad 16, .inl (cI, 120, .inl (T4 6))), (ad 17, .inl (cI, 120, .inl (T4 7))), (ad 18, .inl (cI, 120, .inl (T4 8))), (kd, .inl (cI, 6, .inl kf)), (pz, .inl (cZ, 6, .inl pf)), (made, .inl (cR, mm, .inr (.inr (.inr (.inr fm2))))), (q_4, .inl (cI, 6, .inl (upd (upd (upd (fun _ => 0) 0 5) 1 (-1)) 2 (nI (i2 % 6)))))] _ := hP
        have hD : va_D A [(ob, .inr (5, [.ref (ad 1), .ref (cd 0), .ref (dd 0), .int 0])), (ad 1, .inr (3, [.ref (ad 10), .int 6, .long po1, .long oc1, .ref (ad 11), .ref (ad 12), .ref (ad 13), .ref (ad 14), .ref (ad 15), .int (nI i2), .ref (ad 16), .ref (ad 17), .ref (ad 18)])), (ad 10, .inl (cI, 12, .inl (T4 0))), (ad 11, .inl (cI, 40, .inl (T4 1))), (ad 12, .inl (cI, 40, .inl (T4 2))), (ad 13, .inl (cI, 40, .inl (T4 3))), (ad 14, .inl (cI, 40, .inl (T4 4))), (ad 15, .inl (cI, 40, .inl (T4 5))), (ad 16, .inl (cI, 120, .inl (T4 6))), (ad 17, .inl (cI, 120, .inl (T4 7))), (ad 18, .inl (cI, 120, .inl (T4 8))), (kd, .inl (cI, 6, .inl kf)), (pz, .inl (cZ, 6, .inl pf)), (made, .inl (cR, mm, .inr (.inr (.inr (.inr fm2))))), (q_4, .inl (cI, 6, .inl (upd (upd (upd (fun _ => 0) 0 5) 1 (-1)) 2 (nI (i2 % 6)))))] := hD
        refine lv_dup hx hb dL_build_273 rfl ?_
        refine lv_iconst (v := 3) hx hb dL_build_274 (by decide) ?_
        refine lv_iconst (v := (-1)) hx hb dL_build_275 (by decide) ?_
        refine va_iast hx hb hK hP hD hS 14 0 rfl rfl (vp_in_nI (n := 3) (by omega) (by omega)) dL_build_276 (fun H locs hP hD hS => ?_)
        rw [show Int32.toNatClampNeg 3 = 3 from by decide] at hP hD
        have hP : va_P D vwCl [(ob, .inr (5, [.ref (ad 1), .ref (cd 0), .ref (dd 0), .int 0])), (ad 1, .inr (3, [.ref (ad 10), .int 6, .long po1, .long oc1, .ref (ad 11), .ref (ad 12), .ref (ad 13), .ref (ad 14), .ref (ad 15), .int (nI i2), .ref (ad 16), .ref (ad 17), .ref (ad 18)])), (ad 10, .inl (cI, 12, .inl (T4 0))), (ad 11, .inl (cI, 40, .inl (T4 1))), (ad 12, .inl (cI, 40, .inl (T4 2))), (ad 13, .inl (cI, 40, .inl (T4 3))), (ad 14, .inl (cI, 40, .inl (T4 4))), (ad 15, .inl (cI, 40, .inl (T4 5))), (ad 16, .inl (cI, 120, .inl (T4 6))), (ad 17, .inl (cI, 120, .inl (T4 7))), (ad 18, .inl (cI, 120, .inl (T4 8))), (kd, .inl (cI, 6, .inl kf)), (pz, .inl (cZ, 6, .inl pf)), (made, .inl (cR, mm, .inr (.inr (.inr (.inr fm2))))), (q_4, .inl (cI, 6, .inl (upd (upd (upd (upd (fun _ => 0) 0 5) 1 (-1)) 2 (nI (i2 % 6))) 3 (-1))))] _ := hP
        have hD : va_D A [(ob, .inr (5, [.ref (ad 1), .ref (cd 0), .ref (dd 0), .int 0])), (ad 1, .inr (3, [.ref (ad 10), .int 6, .long po1, .long oc1, .ref (ad 11), .ref (ad 12), .ref (ad 13), .ref (ad 14), .ref (ad 15), .int (nI i2), .ref (ad 16), .ref (ad 17), .ref (ad 18)])), (ad 10, .inl (cI, 12, .inl (T4 0))), (ad 11, .inl (cI, 40, .inl (T4 1))), (ad 12, .inl (cI, 40, .inl (T4 2))), (ad 13, .inl (cI, 40, .inl (T4 3))), (ad 14, .inl (cI, 40, .inl (T4 4))), (ad 15, .inl (cI, 40, .inl (T4 5))), (ad 16, .inl (cI, 120, .inl (T4 6))), (ad 17, .inl (cI, 120, .inl (T4 7))), (ad 18, .inl (cI, 120, .inl (T4 8))), (kd, .inl (cI, 6, .inl kf)), (pz, .inl (cZ, 6, .inl pf)), (made, .inl (cR, mm, .inr (.inr (.inr (.inr fm2))))), (q_4, .inl (cI, 6, .inl (upd (upd (upd (upd (fun _ => 0) 0 5) 1 (-1)) 2 (nI (i2 % 6))) 3 (-1))))] := hD
        refine lv_dup hx hb dL_build_277 rfl ?_
        refine lv_iconst (v := 4) hx hb dL_build_278 (by decide) ?_
        refine lv_iconst (v := 0) hx hb dL_build_279 (by decide) ?_
        refine va_iast hx hb hK hP hD hS 14 0 rfl rfl (vp_in_nI (n := 4) (by omega) (by omega)) dL_build_280 (fun H locs hP hD hS => ?_)
        rw [show Int32.toNatClampNeg 4 = 4 from by decide] at hP hD
        have hP : va_P D vwCl [(ob, .inr (5, [.ref (ad 1), .ref (cd 0), .ref (dd 0), .int 0])), (ad 1, .inr (3, [.ref (ad 10), .int 6, .long po1, .long oc1, .ref (ad 11), .ref (ad 12), .ref (ad 13), .ref (ad 14), .ref (ad 15), .int (nI i2), .ref (ad 16), .ref (ad 17), .ref (ad 18)])), (ad 10, .inl (cI, 12, .inl (T4 0))), (ad 11, .inl (cI, 40, .inl (T4 1))), (ad 12, .inl (cI, 40, .inl (T4 2))), (ad 13, .inl (cI, 40, .inl (T4 3))), (ad 14, .inl (cI, 40, .inl (T4 4))), (ad 15, .inl (cI, 40, .inl (T4 5))), (ad 16, .inl (cI, 120, .inl (T4 6))), (ad 17, .inl (cI, 120, .inl (T4 7))), (ad 18, .inl (cI, 120, .inl (T4 8))), (kd, .inl (cI, 6, .inl kf)), (pz, .inl (cZ, 6, .inl pf)), (made, .inl (cR, mm, .inr (.inr (.inr (.inr fm2))))), (q_4, .inl (cI, 6, .inl (upd (upd (upd (upd (upd (fun _ => 0) 0 5) 1 (-1)) 2 (nI (i2 % 6))) 3 (-1)) 4 0)))] _ := hP
        have hD : va_D A [(ob, .inr (5, [.ref (ad 1), .ref (cd 0), .ref (dd 0), .int 0])), (ad 1, .inr (3, [.ref (ad 10), .int 6, .long po1, .long oc1, .ref (ad 11), .ref (ad 12), .ref (ad 13), .ref (ad 14), .ref (ad 15), .int (nI i2), .ref (ad 16), .ref (ad 17), .ref (ad 18)])), (ad 10, .inl (cI, 12, .inl (T4 0))), (ad 11, .inl (cI, 40, .inl (T4 1))), (ad 12, .inl (cI, 40, .inl (T4 2))), (ad 13, .inl (cI, 40, .inl (T4 3))), (ad 14, .inl (cI, 40, .inl (T4 4))), (ad 15, .inl (cI, 40, .inl (T4 5))), (ad 16, .inl (cI, 120, .inl (T4 6))), (ad 17, .inl (cI, 120, .inl (T4 7))), (ad 18, .inl (cI, 120, .inl (T4 8))), (kd, .inl (cI, 6, .inl kf)), (pz, .inl (cZ, 6, .inl pf)), (made, .inl (cR, mm, .inr (.inr (.inr (.inr fm2))))), (q_4, .inl (cI, 6, .inl (upd (upd (upd (upd (upd (fun _ => 0) 0 5) 1 (-1)) 2 (nI (i2 % 6))) 3 (-1)) 4 0)))] := hD
        refine lv_dup hx hb dL_build_281 rfl ?_
        refine lv_iconst (v := 5) hx hb dL_build_282 (by decide) ?_
        refine lv_iconst (v := 0) hx hb dL_build_283 (by decide) ?_
        refine va_iast hx hb hK hP hD hS 14 0 rfl rfl (vp_in_nI (n := 5) (by omega) (by omega)) dL_build_284 (fun H locs hP hD hS => ?_)
        rw [show Int32.toNatClampNeg 5 = 5 from by decide] at hP hD
        have hP : va_P D vwCl [(ob, .inr (5, [.ref (ad 1), .ref (cd 0), .ref (dd 0), .int 0])), (ad 1, .inr (3, [.ref (ad 10), .int 6, .long po1, .long oc1, .ref (ad 11), .ref (ad 12), .ref (ad 13), .ref (ad 14), .ref (ad 15), .int (nI i2), .ref (ad 16), .ref (ad 17), .ref (ad 18)])), (ad 10, .inl (cI, 12, .inl (T4 0))), (ad 11, .inl (cI, 40, .inl (T4 1))), (ad 12, .inl (cI, 40, .inl (T4 2))), (ad 13, .inl (cI, 40, .inl (T4 3))), (ad 14, .inl (cI, 40, .inl (T4 4))), (ad 15, .inl (cI, 40, .inl (T4 5))), (ad 16, .inl (cI, 120, .inl (T4 6))), (ad 17, .inl (cI, 120, .inl (T4 7))), (ad 18, .inl (cI, 120, .inl (T4 8))), (kd, .inl (cI, 6, .inl kf)), (pz, .inl (cZ, 6, .inl pf)), (made, .inl (cR, mm, .inr (.inr (.inr (.inr fm2))))), (q_4, .inl (cI, 6, .inl (upd (upd (upd (upd (upd (upd (fun _ => 0) 0 5) 1 (-1)) 2 (nI (i2 % 6))) 3 (-1)) 4 0) 5 0)))] _ := hP
        have hD : va_D A [(ob, .inr (5, [.ref (ad 1), .ref (cd 0), .ref (dd 0), .int 0])), (ad 1, .inr (3, [.ref (ad 10), .int 6, .long po1, .long oc1, .ref (ad 11), .ref (ad 12), .ref (ad 13), .ref (ad 14), .ref (ad 15), .int (nI i2), .ref (ad 16), .ref (ad 17), .ref (ad 18)])), (ad 10, .inl (cI, 12, .inl (T4 0))), (ad 11, .inl (cI, 40, .inl (T4 1))), (ad 12, .inl (cI, 40, .inl (T4 2))), (ad 13, .inl (cI, 40, .inl (T4 3))), (ad 14, .inl (cI, 40, .inl (T4 4))), (ad 15, .inl (cI, 40, .inl (T4 5))), (ad 16, .inl (cI, 120, .inl (T4 6))), (ad 17, .inl (cI, 120, .inl (T4 7))), (ad 18, .inl (cI, 120, .inl (T4 8))), (kd, .inl (cI, 6, .inl kf)), (pz, .inl (cZ, 6, .inl pf)), (made, .inl (cR, mm, .inr (.inr (.inr (.inr fm2))))), (q_4, .inl (cI, 6, .inl (upd (upd (upd (upd (upd (upd (fun _ => 0) 0 5) 1 (-1)) 2 (nI (i2 % 6))) 3 (-1)) 4 0) 5 0)))] := hD
        refine lv_astore (lv' := [(7, .ref q_4), (6, .int (nI i2)), (5, .ref made), (0, .ref ob), (1, .ref sb), (2, .int (nI mm)), (3, .ref kd), (4, .ref pz)]) hx hb dL_build_285 hl (by decide) rfl (fun ls hl => ?_)
        refine lv_aload_n hx hb dL_build_287 rfl (lv_at hl 3 rfl) ?_
        refine lv_aload hx hb dL_build_288 (lv_at hl 0 rfl) ?_
        refine kc_i (wr := [(kd, .inl (cI, 6, .inl kf)), (pz, .inl (cZ, 6, .inl pf)), (made, .inl (cR, mm, .inr (.inr (.inr (.inr fm2)))))]) (va_runS (As := [.ref ob, .ref q_4]) (rest := []) ⟨hx, hb, hml, hown, hts⟩ (k_tellD l D cI cJ cZ cR ad po1 oc1 i2 T4 ob cd dd 0 q_4 (upd (upd (upd (upd (upd (upd (fun _ => 0) 0 5) 1 (-1)) 2 (nI (i2 % 6))) 3 (-1)) 4 0) 5 0) (i2 % 6) _ hT4 (by omega) (Nat.mod_lt _ (by decide)) (by simp [upd]) (by simp [upd])) (cwS 2 hts (gS q_772 q_770 q_771 q_63) rfl rfl rfl (by decide +kernel) ⟨Nat.le_of_ble_eq_true rfl, Nat.le_of_ble_eq_true rfl⟩) ⟨Pw.blind, Pw.mk_call hP hK hD hS hA hG [0, 1, 2, 3, 4, 5, 6, 7, 8, 9, 10, 14] rfl (by decide)⟩ rfl rfl hl.1 rfl (lv_room (Nat.le_of_ble_eq_true rfl)) dL_build_290 ⟨Nat.le_trans (m := 1000) (by omega) (Nat.le_of_ble_eq_true rfl), Nat.le_trans (m := 1000) (by omega) (Nat.le_of_ble_eq_true rfl)⟩) hP hD hS hA [0, 1, 2, 3, 4, 5, 6, 7, 8, 9, 10, 14] [11, 12, 13] rfl rfl (by decide) (by decide) (fun r_5 u_6 H locs hw hP hD hS => ?_)
        obtain ⟨T2_7, rfl⟩ : ∃ z, z = u_6 := ⟨_, rfl⟩
        obtain ⟨hw, hf_r_5⟩ := hw
        obtain rfl : r_5 = nI i2 := hw
        have hP : va_P D vwCl [(kd, .inl (cI, 6, .inl kf)), (pz, .inl (cZ, 6, .inl pf)), (made, .inl (cR, mm, .inr (.inr (.inr (.inr fm2))))), (ob, .inr (5, [.ref (ad 1), .ref (cd 0), .ref (dd 0), .int 0])), (ad 1, .inr (3, [.ref (ad 10), .int 6, .long po1, .long oc1, .ref (ad 11), .ref (ad 12), .ref (ad 13), .ref (ad 14), .ref (ad 15), .int (nI (i2 + 1)), .ref (ad 16), .ref (ad 17), .ref (ad 18)])), (ad 10, .inl (cI, 12, .inl (T2_7 0))), (ad 11, .inl (cI, 40, .inl (T2_7 1))), (ad 12, .inl (cI, 40, .inl (T2_7 2))), (ad 13, .inl (cI, 40, .inl (T2_7 3))), (ad 14, .inl (cI, 40, .inl (T2_7 4))), (ad 15, .inl (cI, 40, .inl (T2_7 5))), (ad 16, .inl (cI, 120, .inl (T2_7 6))), (ad 17, .inl (cI, 120, .inl (T2_7 7))), (ad 18, .inl (cI, 120, .inl (T2_7 8))), (q_4, .inl (cI, 6, .inl (upd (upd (upd (upd (upd (upd (fun _ => 0) 0 5) 1 (-1)) 2 (nI (i2 % 6))) 3 (-1)) 4 0) 5 0)))] _ := hP
        have hD : va_D A [(kd, .inl (cI, 6, .inl kf)), (pz, .inl (cZ, 6, .inl pf)), (made, .inl (cR, mm, .inr (.inr (.inr (.inr fm2))))), (ob, .inr (5, [.ref (ad 1), .ref (cd 0), .ref (dd 0), .int 0])), (ad 1, .inr (3, [.ref (ad 10), .int 6, .long po1, .long oc1, .ref (ad 11), .ref (ad 12), .ref (ad 13), .ref (ad 14), .ref (ad 15), .int (nI (i2 + 1)), .ref (ad 16), .ref (ad 17), .ref (ad 18)])), (ad 10, .inl (cI, 12, .inl (T2_7 0))), (ad 11, .inl (cI, 40, .inl (T2_7 1))), (ad 12, .inl (cI, 40, .inl (T2_7 2))), (ad 13, .inl (cI, 40, .inl (T2_7 3))), (ad 14, .inl (cI, 40, .inl (T2_7 4))), (ad 15, .inl (cI, 40, .inl (T2_7 5))), (ad 16, .inl (cI, 120, .inl (T2_7 6))), (ad 17, .inl (cI, 120, .inl (T2_7 7))), (ad 18, .inl (cI, 120, .inl (T2_7 8))), (q_4, .inl (cI, 6, .inl (upd (upd (upd (upd (upd (upd (fun _ => 0) 0 5) 1 (-1)) 2 (nI (i2 % 6))) 3 (-1)) 4 0) 5 0)))] := hD
        refine lv_pop hx hb dL_build_293 rfl ?_
        refine lv_aload hx hb dL_build_294 (lv_at hl 2 rfl) ?_
        refine lv_iload hx hb dL_build_296 (lv_at hl 1 rfl) ?_
        refine lv_iinc (v := nI (i2 + 1)) (lv' := [(6, .int (nI (i2 + 1))), (7, .ref q_4), (5, .ref made), (0, .ref ob), (1, .ref sb), (2, .int (nI mm)), (3, .ref kd), (4, .ref pz)]) hx hb dL_build_298 hl (k := 1) rfl (nI_add i2 1) (by decide) rfl (fun ls hl => ?_)
        refine lv_aload hx hb dL_build_301 (lv_at hl 1 rfl) ?_
        refine va_astqI hx hb hK hP hD hS hAO 2 3 14 0 rfl rfl rfl rfl (vp_in_nI (n := i2) (by omega) (by omega)) dL_build_303 (fun H locs hP hD hS => ?_)
        rw [nI_clamp (n := i2) (by omega)] at hP hD
        have hP : va_P D vwCl [(kd, .inl (cI, 6, .inl kf)), (pz, .inl (cZ, 6, .inl pf)), (made, .inl (cR, mm, .inr (.inr (.inr (.inr (va_up fm2 i2 (some q_4))))))), (ob, .inr (5, [.ref (ad 1), .ref (cd 0), .ref (dd 0), .int 0])), (ad 1, .inr (3, [.ref (ad 10), .int 6, .long po1, .long oc1, .ref (ad 11), .ref (ad 12), .ref (ad 13), .ref (ad 14), .ref (ad 15), .int (nI (i2 + 1)), .ref (ad 16), .ref (ad 17), .ref (ad 18)])), (ad 10, .inl (cI, 12, .inl (T2_7 0))), (ad 11, .inl (cI, 40, .inl (T2_7 1))), (ad 12, .inl (cI, 40, .inl (T2_7 2))), (ad 13, .inl (cI, 40, .inl (T2_7 3))), (ad 14, .inl (cI, 40, .inl (T2_7 4))), (ad 15, .inl (cI, 40, .inl (T2_7 5))), (ad 16, .inl (cI, 120, .inl (T2_7 6))), (ad 17, .inl (cI, 120, .inl (T2_7 7))), (ad 18, .inl (cI, 120, .inl (T2_7 8))), (q_4, .inl (cI, 6, .inl (upd (upd (upd (upd (upd (upd (fun _ => 0) 0 5) 1 (-1)) 2 (nI (i2 % 6))) 3 (-1)) 4 0) 5 0)))] _ := hP
        have hD : va_D A [(kd, .inl (cI, 6, .inl kf)), (pz, .inl (cZ, 6, .inl pf)), (made, .inl (cR, mm, .inr (.inr (.inr (.inr (va_up fm2 i2 (some q_4))))))), (ob, .inr (5, [.ref (ad 1), .ref (cd 0), .ref (dd 0), .int 0])), (ad 1, .inr (3, [.ref (ad 10), .int 6, .long po1, .long oc1, .ref (ad 11), .ref (ad 12), .ref (ad 13), .ref (ad 14), .ref (ad 15), .int (nI (i2 + 1)), .ref (ad 16), .ref (ad 17), .ref (ad 18)])), (ad 10, .inl (cI, 12, .inl (T2_7 0))), (ad 11, .inl (cI, 40, .inl (T2_7 1))), (ad 12, .inl (cI, 40, .inl (T2_7 2))), (ad 13, .inl (cI, 40, .inl (T2_7 3))), (ad 14, .inl (cI, 40, .inl (T2_7 4))), (ad 15, .inl (cI, 40, .inl (T2_7 5))), (ad 16, .inl (cI, 120, .inl (T2_7 6))), (ad 17, .inl (cI, 120, .inl (T2_7 7))), (ad 18, .inl (cI, 120, .inl (T2_7 8))), (q_4, .inl (cI, 6, .inl (upd (upd (upd (upd (upd (upd (fun _ => 0) 0 5) 1 (-1)) 2 (nI (i2 % 6))) 3 (-1)) 4 0) 5 0)))] := hD
        refine lv_goto (tgt := 247) hx hb dL_build_304 (by decide) ?_
        have hP := hP.sub (ws' := [(ob, .inr (5, [.ref (ad 1), .ref (cd 0), .ref (dd 0), .int 0])), (ad 1, .inr (3, [.ref (ad 10), .int 6, .long po1, .long oc1, .ref (ad 11), .ref (ad 12), .ref (ad 13), .ref (ad 14), .ref (ad 15), .int (nI (i2 + 1)), .ref (ad 16), .ref (ad 17), .ref (ad 18)])), (ad 10, .inl (cI, 12, .inl (T2_7 0))), (ad 11, .inl (cI, 40, .inl (T2_7 1))), (ad 12, .inl (cI, 40, .inl (T2_7 2))), (ad 13, .inl (cI, 40, .inl (T2_7 3))), (ad 14, .inl (cI, 40, .inl (T2_7 4))), (ad 15, .inl (cI, 40, .inl (T2_7 5))), (ad 16, .inl (cI, 120, .inl (T2_7 6))), (ad 17, .inl (cI, 120, .inl (T2_7 7))), (ad 18, .inl (cI, 120, .inl (T2_7 8))), (kd, .inl (cI, 6, .inl kf)), (pz, .inl (cZ, 6, .inl pf)), (made, .inl (cR, mm, .inr (.inr (.inr (.inr (va_up fm2 i2 (some q_4)))))))]) [3, 4, 5, 6, 7, 8, 9, 10, 11, 12, 13, 0, 1, 2] rfl
        have hD := hD.sub (ws' := [(ob, .inr (5, [.ref (ad 1), .ref (cd 0), .ref (dd 0), .int 0])), (ad 1, .inr (3, [.ref (ad 10), .int 6, .long po1, .long oc1, .ref (ad 11), .ref (ad 12), .ref (ad 13), .ref (ad 14), .ref (ad 15), .int (nI (i2 + 1)), .ref (ad 16), .ref (ad 17), .ref (ad 18)])), (ad 10, .inl (cI, 12, .inl (T2_7 0))), (ad 11, .inl (cI, 40, .inl (T2_7 1))), (ad 12, .inl (cI, 40, .inl (T2_7 2))), (ad 13, .inl (cI, 40, .inl (T2_7 3))), (ad 14, .inl (cI, 40, .inl (T2_7 4))), (ad 15, .inl (cI, 40, .inl (T2_7 5))), (ad 16, .inl (cI, 120, .inl (T2_7 6))), (ad 17, .inl (cI, 120, .inl (T2_7 7))), (ad 18, .inl (cI, 120, .inl (T2_7 8))), (kd, .inl (cI, 6, .inl kf)), (pz, .inl (cZ, 6, .inl pf)), (made, .inl (cR, mm, .inr (.inr (.inr (.inr (va_up fm2 i2 (some q_4)))))))]) [3, 4, 5, 6, 7, 8, 9, 10, 11, 12, 13, 0, 1, 2] (by decide) rfl
        refine W.widen (k := 121 + (i2 + 1)) (n := 740 + 6 * (i2 + 1)) (by omega) (by omega) ?_
        exact ih_247 (i2 + 1, T2_7, va_up fm2 i2 (some q_4)) _ _ _ (by show mm - (i2 + 1) < mm - i2; omega) ⟨by show _ ≤ _; omega, hf_r_5.1, hf_r_5.2.trans h40, lv_sub hl [0, 2, 3, 4, 5, 6, 7] rfl, hP, hD, hS⟩
    · skip
      have c_97 : i < mm := Nat.lt_of_not_le (fun h9 => c_97 ((nI_leI (a := mm) (b := i) (by omega) (by omega)).mpr h9))
      refine lv_iload hx hb dL_build_100 (lv_at hl 0 rfl) ?_
      refine lv_bipush (v := 6) hx hb dL_build_102 (by decide) ?_
      refine lv_iload_n hx hb dL_build_104 rfl (lv_at hl 5 rfl) ?_
      refine lv_imul hx hb dL_build_105 ?_
      refine tI (v := nI (6 * mm)) (pk_mul 6 mm) ?_
      refine lv_icmp_ge (tgt := 247) hx hb dL_build_106 (by decide) (fun c_106 => ?_) (fun c_106 => ?_)
      · skip
        have c_106 : (6 * mm) ≤ k := (nI_leI (a := 6 * mm) (b := k) (by omega) (by omega)).mp c_106
        refine W.widen (k := 121 + i) (n := 740 + 6 * i) (by omega) (by omega) ?_
        refine W_loopC (σ := (Nat) × (Nat → Nat → Int32) × (Nat → Option Nat)) (fun ⟨i2, T4, fm2⟩ => mm - i2) (fun ⟨i2, T4, fm2⟩ => 121 + i2) (fun ⟨i2, T4, fm2⟩ => 740 + 6 * i2) (fun ⟨i2, T4, fm2⟩ ls H locs => (i2 ≤ mm) ∧ (TI T4 i2) ∧ (T4 0 = T1 0) ∧ lv_has ls 10 [(6, .int (nI i2)), (5, .ref made), (0, .ref ob), (1, .ref sb), (2, .int (nI mm)), (3, .ref kd), (4, .ref pz)] ∧ va_P D vwCl [(ob, .inr (5, [.ref (ad 1), .ref (cd 0), .ref (dd 0), .int 0])), (ad 1, .inr (3, [.ref (ad 10), .int 6, .long po1, .long oc1, .ref (ad 11), .ref (ad 12), .ref (ad 13), .ref (ad 14), .ref (ad 15), .int (nI i2), .ref (ad 16), .ref (ad 17), .ref (ad 18)])), (ad 10, .inl (cI, 12, .inl (T4 0))), (ad 11, .inl (cI, 40, .inl (T4 1))), (ad 12, .inl (cI, 40, .inl (T4 2))), (ad 13, .inl (cI, 40, .inl (T4 3))), (ad 14, .inl (cI, 40, .inl (T4 4))), (ad 15, .inl (cI, 40, .inl (T4 5))), (ad 16, .inl (cI, 120, .inl (T4 6))), (ad 17, .inl (cI, 120, .inl (T4 7))), (ad 18, .inl (cI, 120, .inl (T4 8))), (kd, .inl (cI, 6, .inl kf)), (pz, .inl (cZ, 6, .inl pf)), (made, .inl (cR, mm, .inr (.inr (.inr (.inr fm2)))))] H ∧ va_D A [(ob, .inr (5, [.ref (ad 1), .ref (cd 0), .ref (dd 0), .int 0])), (ad 1, .inr (3, [.ref (ad 10), .int 6, .long po1, .long oc1, .ref (ad 11), .ref (ad 12), .ref (ad 13), .ref (ad 14), .ref (ad 15), .int (nI i2), .ref (ad 16), .ref (ad 17), .ref (ad 18)])), (ad 10, .inl (cI, 12, .inl (T4 0))), (ad 11, .inl (cI, 40, .inl (T4 1))), (ad 12, .inl (cI, 40, .inl (T4 2))), (ad 13, .inl (cI, 40, .inl (T4 3))), (ad 14, .inl (cI, 40, .inl (T4 4))), (ad 15, .inl (cI, 40, .inl (T4 5))), (ad 16, .inl (cI, 120, .inl (T4 6))), (ad 17, .inl (cI, 120, .inl (T4 7))), (ad 18, .inl (cI, 120, .inl (T4 8))), (kd, .inl (cI, 6, .inl kf)), (pz, .inl (cZ, 6, .inl pf)), (made, .inl (cR, mm, .inr (.inr (.inr (.inr fm2)))))] ∧ va_S A s.heap H locs) ?_ (i, T3, fm) _ _ _ ⟨hi, hT3, h30, lv_sub hl (l' := [(6, .int (nI i)), (5, .ref made), (0, .ref ob), (1, .ref sb), (2, .int (nI mm)), (3, .ref kd), (4, .ref pz)]) [1, 2, 3, 4, 5, 6, 7] rfl, hP, hD, hS⟩
        rintro ⟨i2, T4, fm2⟩ ls H locs ⟨hi2, hT4, h40, hl, hP, hD, hS⟩ ih
        have hi2 : i2 ≤ mm := hi2
        have hT4 : TI T4 i2 := hT4
        have h40 : T4 0 = T1 0 := h40
        have hl : lv_has ls 10 [(6, .int (nI i2)), (5, .ref made), (0, .ref ob), (1, .ref sb), (2, .int (nI mm)), (3, .ref kd), (4, .ref pz)] := hl
        refine W.widen (k := 121 + i2) (n := 740 + 6 * i2) (Nat.le_of_eq rfl) (Nat.le_of_eq rfl) ?_
        have hP : va_P D vwCl [(ob, .inr (5, [.ref (ad 1), .ref (cd 0), .ref (dd 0), .int 0])), (ad 1, .inr (3, [.ref (ad 10), .int 6, .long po1, .long oc1, .ref (ad 11), .ref (ad 12), .ref (ad 13), .ref (ad 14), .ref (ad 15), .int (nI i2), .ref (ad 16), .ref (ad 17), .ref (ad 18)])), (ad 10, .inl (cI, 12, .inl (T4 0))), (ad 11, .inl (cI, 40, .inl (T4 1))), (ad 12, .inl (cI, 40, .inl (T4 2))), (ad 13, .inl (cI, 40, .inl (T4 3))), (ad 14, .inl (cI, 40, .inl (T4 4))), (ad 15, .inl (cI, 40, .inl (T4 5))), (ad 16, .inl (cI, 120, .inl (T4 6))), (ad 17, .inl (cI, 120, .inl (T4 7))), (ad 18, .inl (cI, 120, .inl (T4 8))), (kd, .inl (cI, 6, .inl kf)), (pz, .inl (cZ, 6, .inl pf)), (made, .inl (cR, mm, .inr (.inr (.inr (.inr fm2)))))] _ := hP
        have hD : va_D A [(ob, .inr (5, [.ref (ad 1), .ref (cd 0), .ref (dd 0), .int 0])), (ad 1, .inr (3, [.ref (ad 10), .int 6, .long po1, .long oc1, .ref (ad 11), .ref (ad 12), .ref (ad 13), .ref (ad 14), .ref (ad 15), .int (nI i2), .ref (ad 16), .ref (ad 17), .ref (ad 18)])), (ad 10, .inl (cI, 12, .inl (T4 0))), (ad 11, .inl (cI, 40, .inl (T4 1))), (ad 12, .inl (cI, 40, .inl (T4 2))), (ad 13, .inl (cI, 40, .inl (T4 3))), (ad 14, .inl (cI, 40, .inl (T4 4))), (ad 15, .inl (cI, 40, .inl (T4 5))), (ad 16, .inl (cI, 120, .inl (T4 6))), (ad 17, .inl (cI, 120, .inl (T4 7))), (ad 18, .inl (cI, 120, .inl (T4 8))), (kd, .inl (cI, 6, .inl kf)), (pz, .inl (cZ, 6, .inl pf)), (made, .inl (cR, mm, .inr (.inr (.inr (.inr fm2)))))] := hD
        have ih_247 := ih
        refine lv_iload hx hb dL_build_247 (lv_at hl 0 rfl) ?_
        refine lv_iload_n hx hb dL_build_249 rfl (lv_at hl 4 rfl) ?_
        refine lv_icmp_ge (tgt := 307) hx hb dL_build_250 (by decide) (fun c_250 => ?_) (fun c_250 => ?_)
        · skip
          have c_250 : mm ≤ i2 := (nI_leI (a := mm) (b := i2) (by omega) (by omega)).mp c_250
          have hi9 : i2 = mm := by omega
          rw [hi9] at hl hP hD hT4
          have hP : va_P D vwCl [(ob, .inr (5, [.ref (ad 1), .ref (cd 0), .ref (dd 0), .int 0])), (ad 1, .inr (3, [.ref (ad 10), .int 6, .long po1, .long oc1, .ref (ad 11), .ref (ad 12), .ref (ad 13), .ref (ad 14), .ref (ad 15), .int (nI mm), .ref (ad 16), .ref (ad 17), .ref (ad 18)])), (ad 10, .inl (cI, 12, .inl (T4 0))), (ad 11, .inl (cI, 40, .inl (T4 1))), (ad 12, .inl (cI, 40, .inl (T4 2))), (ad 13, .inl (cI, 40, .inl (T4 3))), (ad 14, .inl (cI, 40, .inl (T4 4))), (ad 15, .inl (cI, 40, .inl (T4 5))), (ad 16, .inl (cI, 120, .inl (T4 6))), (ad 17, .inl (cI, 120, .inl (T4 7))), (ad 18, .inl (cI, 120, .inl (T4 8))), (kd, .inl (cI, 6, .inl kf)), (pz, .inl (cZ, 6, .inl pf)), (made, .inl (cR, mm, .inr (.inr (.inr (.inr fm2)))))] _ := hP
          have hD : va_D A [(ob, .inr (5, [.ref (ad 1), .ref (cd 0), .ref (dd 0), .int 0])), (ad 1, .inr (3, [.ref (ad 10), .int 6, .long po1, .long oc1, .ref (ad 11), .ref (ad 12), .ref (ad 13), .ref (ad 14), .ref (ad 15), .int (nI mm), .ref (ad 16), .ref (ad 17), .ref (ad 18)])), (ad 10, .inl (cI, 12, .inl (T4 0))), (ad 11, .inl (cI, 40, .inl (T4 1))), (ad 12, .inl (cI, 40, .inl (T4 2))), (ad 13, .inl (cI, 40, .inl (T4 3))), (ad 14, .inl (cI, 40, .inl (T4 4))), (ad 15, .inl (cI, 40, .inl (T4 5))), (ad 16, .inl (cI, 120, .inl (T4 6))), (ad 17, .inl (cI, 120, .inl (T4 7))), (ad 18, .inl (cI, 120, .inl (T4 8))), (kd, .inl (cI, 6, .inl kf)), (pz, .inl (cZ, 6, .inl pf)), (made, .inl (cR, mm, .inr (.inr (.inr (.inr fm2)))))] := hD
          have hl : lv_has ls 10 [(6, .int (nI mm)), (5, .ref made), (0, .ref ob), (1, .ref sb), (2, .int (nI mm)), (3, .ref kd), (4, .ref pz)] := hl
          refine lv_aload hx hb dL_build_307 (lv_at hl 1 rfl) ?_
          have hP := hP.sub (ws' := [(ob, .inr (5, [.ref (ad 1), .ref (cd 0), .ref (dd 0), .int 0])), (ad 1, .inr (3, [.ref (ad 10), .int 6, .long po1, .long oc1, .ref (ad 11), .ref (ad 12), .ref (ad 13), .ref (ad 14), .ref (ad 15), .int (nI mm), .ref (ad 16), .ref (ad 17), .ref (ad 18)])), (ad 10, .inl (cI, 12, .inl (T4 0))), (ad 11, .inl (cI, 40, .inl (T4 1))), (ad 12, .inl (cI, 40, .inl (T4 2))), (ad 13, .inl (cI, 40, .inl (T4 3))), (ad 14, .inl (cI, 40, .inl (T4 4))), (ad 15, .inl (cI, 40, .inl (T4 5))), (ad 16, .inl (cI, 120, .inl (T4 6))), (ad 17, .inl (cI, 120, .inl (T4 7))), (ad 18, .inl (cI, 120, .inl (T4 8))), (kd, .inl (cI, 6, .inl kf)), (pz, .inl (cZ, 6, .inl pf))]) [0, 1, 2, 3, 4, 5, 6, 7, 8, 9, 10, 11, 12] rfl
          have hD := hD.sub (ws' := [(ob, .inr (5, [.ref (ad 1), .ref (cd 0), .ref (dd 0), .int 0])), (ad 1, .inr (3, [.ref (ad 10), .int 6, .long po1, .long oc1, .ref (ad 11), .ref (ad 12), .ref (ad 13), .ref (ad 14), .ref (ad 15), .int (nI mm), .ref (ad 16), .ref (ad 17), .ref (ad 18)])), (ad 10, .inl (cI, 12, .inl (T4 0))), (ad 11, .inl (cI, 40, .inl (T4 1))), (ad 12, .inl (cI, 40, .inl (T4 2))), (ad 13, .inl (cI, 40, .inl (T4 3))), (ad 14, .inl (cI, 40, .inl (T4 4))), (ad 15, .inl (cI, 40, .inl (T4 5))), (ad 16, .inl (cI, 120, .inl (T4 6))), (ad 17, .inl (cI, 120, .inl (T4 7))), (ad 18, .inl (cI, 120, .inl (T4 8))), (kd, .inl (cI, 6, .inl kf)), (pz, .inl (cZ, 6, .inl pf))]) [0, 1, 2, 3, 4, 5, 6, 7, 8, 9, 10, 11, 12] (by decide) rfl
          exact ke_r hx hb hr (by first | exact Or.inl ⟨_, rfl⟩ | exact Or.inr ⟨_, rfl⟩) (T4, kf, pf, po1, oc1, made) rfl (⟨hT4, BI_cg hBI h40⟩) hP hD hS (by omega) (by omega) hlocks dL_build_309
        · skip
          have c_250 : i2 < mm := Nat.lt_of_not_le (fun h9 => c_250 ((nI_leI (a := mm) (b := i2) (by omega) (by omega)).mpr h9))
          refine lv_bipush (v := 6) hx hb dL_build_253 (by decide) ?_
          refine va_newa (atype := .int) (ty := .int) (N' := 6) (a0 := (6, .inl (fun _ => 0))) hx hb (hts _ (mc q_156)) rfl hK hP hD hS hA (fun _ => rfl) (by decide) (by decide) (by decide) (Nat.le_trans (m := 1000) (by omega) (Nat.le_of_ble_eq_true rfl)) (Nat.le_trans (m := 1000) (by omega) (Nat.le_of_ble_eq_true rfl)) dL_build_255 (fun q_9 cA9 H hK9 hP hD hS => ?_)
          obtain rfl : cI = cA9 := K_same hK9 (i := 0) (j := 4) (ty := .int) rfl rfl
          have hP : va_P D vwCl [(ob, .inr (5, [.ref (ad 1), .ref (cd 0), .ref (dd 0), .int 0])), (ad 1, .inr (3, [.ref (ad 10), .int 6, .long po1, .long oc1, .ref (ad 11), .ref (ad 12), .ref (ad 13), .ref (ad 14), .ref (ad 15), .int (nI i2), .ref (ad 16), .ref (ad 17), .ref (ad 18)])), (ad 10, .inl (cI, 12, .inl (T4 0))), (ad 11, .inl (cI, 40, .inl (T4 1))), (ad 12, .inl (cI, 40, .inl (T4 2))), (ad 13, .inl (cI, 40, .inl (T4 3))), (ad 14, .inl (cI, 40, .inl (T4 4))), (ad 15, .inl (cI, 40, .inl (T4 5))), (ad 16, .inl (cI, 120, .inl (T4 6))), (ad 17, .inl (cI, 120, .inl (T4 7))), (ad 18, .inl (cI, 120, .inl (T4 8))), (kd, .inl (cI, 6, .inl kf)), (pz, .inl (cZ, 6, .inl pf)), (made, .inl (cR, mm, .inr (.inr (.inr (.inr fm2))))), (q_9, .inl (cI, 6, .inl (fun _ => 0)))] _ := hP
          have hD : va_D A [(ob, .inr (5, [.ref (ad 1), .ref (cd 0), .ref (dd 0), .int 0])), (ad 1, .inr (3, [.ref (ad 10), .int 6, .long po1, .long oc1, .ref (ad 11), .ref (ad 12), .ref (ad 13), .ref (ad 14), .ref (ad 15), .int (nI i2), .ref (ad 16), .ref (ad 17), .ref (ad 18)])), (ad 10, .inl (cI, 12, .inl (T4 0))), (ad 11, .inl (cI, 40, .inl (T4 1))), (ad 12, .inl (cI, 40, .inl (T4 2))), (ad 13, .inl (cI, 40, .inl (T4 3))), (ad 14, .inl (cI, 40, .inl (T4 4))), (ad 15, .inl (cI, 40, .inl (T4 5))), (ad 16, .inl (cI, 120, .inl (T4 6))), (ad 17, .inl (cI, 120, .inl (T4 7))), (ad 18, .inl (cI, 120, .inl (T4 8))), (kd, .inl (cI, 6, .inl kf)), (pz, .inl (cZ, 6, .inl pf)), (made, .inl (cR, mm, .inr (.inr (.inr (.inr fm2))))), (q_9, .inl (cI, 6, .inl (fun _ => 0)))] := hD
          refine lv_dup hx hb dL_build_257 rfl ?_
          refine lv_iconst (v := 0) hx hb dL_build_258 (by decide) ?_
          refine lv_iconst (v := 5) hx hb dL_build_259 (by decide) ?_
          refine va_iast hx hb hK hP hD hS 14 0 rfl rfl (vp_in_nI (n := 0) (by omega) (by omega)) dL_build_260 (fun H locs hP hD hS => ?_)
          rw [show Int32.toNatClampNeg 0 = 0 from by decide] at hP hD
          have hP : va_P D vwCl [(ob, .inr (5, [.ref (ad 1), .ref (cd 0), .ref (dd 0), .int 0])), (ad 1, .inr (3, [.ref (ad 10), .int 6, .long po1, .long oc1, .ref (ad 11), .ref (ad 12), .ref (ad 13), .ref (ad 14), .ref (ad 15), .int (nI i2), .ref (ad 16), .ref (ad 17), .ref (ad 18)])), (ad 10, .inl (cI, 12, .inl (T4 0))), (ad 11, .inl (cI, 40, .inl (T4 1))), (ad 12, .inl (cI, 40, .inl (T4 2))), (ad 13, .inl (cI, 40, .inl (T4 3))), (ad 14, .inl (cI, 40, .inl (T4 4))), (ad 15, .inl (cI, 40, .inl (T4 5))), (ad 16, .inl (cI, 120, .inl (T4 6))), (ad 17, .inl (cI, 120, .inl (T4 7))), (ad 18, .inl (cI, 120, .inl (T4 8))), (kd, .inl (cI, 6, .inl kf)), (pz, .inl (cZ, 6, .inl pf)), (made, .inl (cR, mm, .inr (.inr (.inr (.inr fm2))))), (q_9, .inl (cI, 6, .inl (upd (fun _ => 0) 0 5)))] _ := hP
          have hD : va_D A [(ob, .inr (5, [.ref (ad 1), .ref (cd 0), .ref (dd 0), .int 0])), (ad 1, .inr (3, [.ref (ad 10), .int 6, .long po1, .long oc1, .ref (ad 11), .ref (ad 12), .ref (ad 13), .ref (ad 14), .ref (ad 15), .int (nI i2), .ref (ad 16), .ref (ad 17), .ref (ad 18)])), (ad 10, .inl (cI, 12, .inl (T4 0))), (ad 11, .inl (cI, 40, .inl (T4 1))), (ad 12, .inl (cI, 40, .inl (T4 2))), (ad 13, .inl (cI, 40, .inl (T4 3))), (ad 14, .inl (cI, 40, .inl (T4 4))), (ad 15, .inl (cI, 40, .inl (T4 5))), (ad 16, .inl (cI, 120, .inl (T4 6))), (ad 17, .inl (cI, 120, .inl (T4 7))), (ad 18, .inl (cI, 120, .inl (T4 8))), (kd, .inl (cI, 6, .inl kf)), (pz, .inl (cZ, 6, .inl pf)), (made, .inl (cR, mm, .inr (.inr (.inr (.inr fm2))))), (q_9, .inl (cI, 6, .inl (upd (fun _ => 0) 0 5)))] := hD
          refine lv_dup hx hb dL_build_261 rfl ?_
          refine lv_iconst (v := 1) hx hb dL_build_262 (by decide) ?_
          refine lv_iconst (v := (-1)) hx hb dL_build_263 (by decide) ?_
          refine va_iast hx hb hK hP hD hS 14 0 rfl rfl (vp_in_nI (n := 1) (by omega) (by omega)) dL_build_264 (fun H locs hP hD hS => ?_)
          rw [show Int32.toNatClampNeg 1 = 1 from by decide] at hP hD
          have hP : va_P D vwCl [(ob, .inr (5, [.ref (ad 1), .ref (cd 0), .ref (dd 0), .int 0])), (ad 1, .inr (3, [.ref (ad 10), .int 6, .long po1, .long oc1, .ref (ad 11), .ref (ad 12), .ref (ad 13), .ref (ad 14), .ref (ad 15), .int (nI i2), .ref (ad 16), .ref (ad 17), .ref (ad 18)])), (ad 10, .inl (cI, 12, .inl (T4 0))), (ad 11, .inl (cI, 40, .inl (T4 1))), (ad 12, .inl (cI, 40, .inl (T4 2))), (ad 13, .inl (cI, 40, .inl (T4 3))), (ad 14, .inl (cI, 40, .inl (T4 4))), (ad 15, .inl (cI, 40, .inl (T4 5))), (ad 16, .inl (cI, 120, .inl (T4 6))), (ad 17, .inl (cI, 120, .inl (T4 7))), (ad 18, .inl (cI, 120, .inl (T4 8))), (kd, .inl (cI, 6, .inl kf)), (pz, .inl (cZ, 6, .inl pf)), (made, .inl (cR, mm, .inr (.inr (.inr (.inr fm2))))), (q_9, .inl (cI, 6, .inl (upd (upd (fun _ => 0) 0 5) 1 (-1))))] _ := hP
          have hD : va_D A [(ob, .inr (5, [.ref (ad 1), .ref (cd 0), .ref (dd 0), .int 0])), (ad 1, .inr (3, [.ref (ad 10), .int 6, .long po1, .long oc1, .ref (ad 11), .ref (ad 12), .ref (ad 13), .ref (ad 14), .ref (ad 15), .int (nI i2), .ref (ad 16), .ref (ad 17), .ref (ad 18)])), (ad 10, .inl (cI, 12, .inl (T4 0))), (ad 11, .inl (cI, 40, .inl (T4 1))), (ad 12, .inl (cI, 40, .inl (T4 2))), (ad 13, .inl (cI, 40, .inl (T4 3))), (ad 14, .inl (cI, 40, .inl (T4 4))), (ad 15, .inl (cI, 40, .inl (T4 5))), (ad 16, .inl (cI, 120, .inl (T4 6))), (ad 17, .inl (cI, 120, .inl (T4 7))), (ad 18, .inl (cI, 120, .inl (T4 8))), (kd, .inl (cI, 6, .inl kf)), (pz, .inl (cZ, 6, .inl pf)), (made, .inl (cR, mm, .inr (.inr (.inr (.inr fm2))))), (q_9, .inl (cI, 6, .inl (upd (upd (fun _ => 0) 0 5) 1 (-1))))] := hD
          refine lv_dup hx hb dL_build_265 rfl ?_
          refine lv_iconst (v := 2) hx hb dL_build_266 (by decide) ?_
          refine lv_iload hx hb dL_build_267 (lv_at hl 0 rfl) ?_
          refine lv_aload_n hx hb dL_build_269 rfl (lv_at hl 5 rfl) ?_
          refine va_alen (v := 6) hx hb hK hP 11 0 rfl rfl (show Int32.ofNat 6 = 6 by decide) dL_build_270 ?_
          refine lv_irem hx hb dL_build_271 (by decide) ?_
          refine tI (v := nI (i2 % 6)) ((pk_rem (a := i2) (d := 6) (by omega) (by omega) (by omega))) ?_
          refine va_iast hx hb hK hP hD hS 14 0 rfl rfl (vp_in_nI (n := 2) (by omega) (by omega)) dL_build_272 (fun H locs hP hD hS => ?_)
          rw [show Int32.toNatClampNeg 2 = 2 from by decide] at hP hD
          have hP : va_P D vwCl [(ob, .inr (5, [.ref (ad 1), .ref (cd 0), .ref (dd 0), .int 0])), (ad 1, .inr (3, [.ref (ad 10), .int 6, .long po1, .long oc1, .ref (ad 11), .ref (ad 12), .ref (ad 13), .ref (ad 14), .ref (ad 15), .int (nI i2), .ref (ad 16), .ref (ad 17), .ref (ad 18)])), (ad 10, .inl (cI, 12, .inl (T4 0))), (ad 11, .inl (cI, 40, .inl (T4 1))), (ad 12, .inl (cI, 40, .inl (T4 2))), (ad 13, .inl (cI, 40, .inl (T4 3))), (ad 14, .inl (cI, 40, .inl (T4 4))), (ad 15, .inl (cI, 40, .inl (T4 5))), (ad 16, .inl (cI, 120, .inl (T4 6))), (ad 17, .inl (cI, 120, .inl (T4 7))), (ad 18, .inl (cI, 120, .inl (T4 8))), (kd, .inl (cI, 6, .inl kf)), (pz, .inl (cZ, 6, .inl pf)), (made, .inl (cR, mm, .inr (.inr (.inr (.inr fm2))))), (q_9, .inl (cI, 6, .inl (upd (upd (upd (fun _ => 0) 0 5) 1 (-1)) 2 (nI (i2 % 6)))))] _ := hP
          have hD : va_D A [(ob, .inr (5, [.ref (ad 1), .ref (cd 0), .ref (dd 0), .int 0])), (ad 1, .inr (3, [.ref (ad 10), .int 6, .long po1, .long oc1, .ref (ad 11), .ref (ad 12), .ref (ad 13), .ref (ad 14), .ref (ad 15), .int (nI i2), .ref (ad 16), .ref (ad 17), .ref (ad 18)])), (ad 10, .inl (cI, 12, .inl (T4 0))), (ad 11, .inl (cI, 40, .inl (T4 1))), (ad 12, .inl (cI, 40, .inl (T4 2))), (ad 13, .inl (cI, 40, .inl (T4 3))), (ad 14, .inl (cI, 40, .inl (T4 4))), (ad 15, .inl (cI, 40, .inl (T4 5))), (ad 16, .inl (cI, 120, .inl (T4 6))), (ad 17, .inl (cI, 120, .inl (T4 7))), (ad 18, .inl (cI, 120, .inl (T4 8))), (kd, .inl (cI, 6, .inl kf)), (pz, .inl (cZ, 6, .inl pf)), (made, .inl (cR, mm, .inr (.inr (.inr (.inr fm2))))), (q_9, .inl (cI, 6, .inl (upd (upd (upd (fun _ => 0) 0 5) 1 (-1)) 2 (nI (i2 % 6)))))] := hD
          refine lv_dup hx hb dL_build_273 rfl ?_
          refine lv_iconst (v := 3) hx hb dL_build_274 (by decide) ?_
          refine lv_iconst (v := (-1)) hx hb dL_build_275 (by decide) ?_
          refine va_iast hx hb hK hP hD hS 14 0 rfl rfl (vp_in_nI (n := 3) (by omega) (by omega)) dL_build_276 (fun H locs hP hD hS => ?_)
          rw [show Int32.toNatClampNeg 3 = 3 from by decide] at hP hD
          have hP : va_P D vwCl [(ob, .inr (5, [.ref (ad 1), .ref (cd 0), .ref (dd 0), .int 0])), (ad 1, .inr (3, [.ref (ad 10), .int 6, .long po1, .long oc1, .ref (ad 11), .ref (ad 12), .ref (ad 13), .ref (ad 14), .ref (ad 15), .int (nI i2), .ref (ad 16), .ref (ad 17), .ref (ad 18)])), (ad 10, .inl (cI, 12, .inl (T4 0))), (ad 11, .inl (cI, 40, .inl (T4 1))), (ad 12, .inl (cI, 40, .inl (T4 2))), (ad 13, .inl (cI, 40, .inl (T4 3))), (ad 14, .inl (cI, 40, .inl (T4 4))), (ad 15, .inl (cI, 40, .inl (T4 5))), (ad 16, .inl (cI, 120, .inl (T4 6))), (ad 17, .inl (cI, 120, .inl (T4 7))), (ad 18, .inl (cI, 120, .inl (T4 8))), (kd, .inl (cI, 6, .inl kf)), (pz, .inl (cZ, 6, .inl pf)), (made, .inl (cR, mm, .inr (.inr (.inr (.inr fm2))))), (q_9, .inl (cI, 6, .inl (upd (upd (upd (upd (fun _ => 0) 0 5) 1 (-1)) 2 (nI (i2 % 6))) 3 (-1))))] _ := hP
          have hD : va_D A [(ob, .inr (5, [.ref (ad 1), .ref (cd 0), .ref (dd 0), .int 0])), (ad 1, .inr (3, [.ref (ad 10), .int 6, .long po1, .long oc1, .ref (ad 11), .ref (ad 12), .ref (ad 13), .ref (ad 14), .ref (ad 15), .int (nI i2), .ref (ad 16), .ref (ad 17), .ref (ad 18)])), (ad 10, .inl (cI, 12, .inl (T4 0))), (ad 11, .inl (cI, 40, .inl (T4 1))), (ad 12, .inl (cI, 40, .inl (T4 2))), (ad 13, .inl (cI, 40, .inl (T4 3))), (ad 14, .inl (cI, 40, .inl (T4 4))), (ad 15, .inl (cI, 40, .inl (T4 5))), (ad 16, .inl (cI, 120, .inl (T4 6))), (ad 17, .inl (cI, 120, .inl (T4 7))), (ad 18, .inl (cI, 120, .inl (T4 8))), (kd, .inl (cI, 6, .inl kf)), (pz, .inl (cZ, 6, .inl pf)), (made, .inl (cR, mm, .inr (.inr (.inr (.inr fm2))))), (q_9, .inl (cI, 6, .inl (upd (upd (upd (upd (fun _ => 0) 0 5) 1 (-1)) 2 (nI (i2 % 6))) 3 (-1))))] := hD
          refine lv_dup hx hb dL_build_277 rfl ?_
          refine lv_iconst (v := 4) hx hb dL_build_278 (by decide) ?_
          refine lv_iconst (v := 0) hx hb dL_build_279 (by decide) ?_
          refine va_iast hx hb hK hP hD hS 14 0 rfl rfl (vp_in_nI (n := 4) (by omega) (by omega)) dL_build_280 (fun H locs hP hD hS => ?_)
          rw [show Int32.toNatClampNeg 4 = 4 from by decide] at hP hD
          have hP : va_P D vwCl [(ob, .inr (5, [.ref (ad 1), .ref (cd 0), .ref (dd 0), .int 0])), (ad 1, .inr (3, [.ref (ad 10), .int 6, .long po1, .long oc1, .ref (ad 11), .ref (ad 12), .ref (ad 13), .ref (ad 14), .ref (ad 15), .int (nI i2), .ref (ad 16), .ref (ad 17), .ref (ad 18)])), (ad 10, .inl (cI, 12, .inl (T4 0))), (ad 11, .inl (cI, 40, .inl (T4 1))), (ad 12, .inl (cI, 40, .inl (T4 2))), (ad 13, .inl (cI, 40, .inl (T4 3))), (ad 14, .inl (cI, 40, .inl (T4 4))), (ad 15, .inl (cI, 40, .inl (T4 5))), (ad 16, .inl (cI, 120, .inl (T4 6))), (ad 17, .inl (cI, 120, .inl (T4 7))), (ad 18, .inl (cI, 120, .inl (T4 8))), (kd, .inl (cI, 6, .inl kf)), (pz, .inl (cZ, 6, .inl pf)), (made, .inl (cR, mm, .inr (.inr (.inr (.inr fm2))))), (q_9, .inl (cI, 6, .inl (upd (upd (upd (upd (upd (fun _ => 0) 0 5) 1 (-1)) 2 (nI (i2 % 6))) 3 (-1)) 4 0)))] _ := hP
          have hD : va_D A [(ob, .inr (5, [.ref (ad 1), .ref (cd 0), .ref (dd 0), .int 0])), (ad 1, .inr (3, [.ref (ad 10), .int 6, .long po1, .long oc1, .ref (ad 11), .ref (ad 12), .ref (ad 13), .ref (ad 14), .ref (ad 15), .int (nI i2), .ref (ad 16), .ref (ad 17), .ref (ad 18)])), (ad 10, .inl (cI, 12, .inl (T4 0))), (ad 11, .inl (cI, 40, .inl (T4 1))), (ad 12, .inl (cI, 40, .inl (T4 2))), (ad 13, .inl (cI, 40, .inl (T4 3))), (ad 14, .inl (cI, 40, .inl (T4 4))), (ad 15, .inl (cI, 40, .inl (T4 5))), (ad 16, .inl (cI, 120, .inl (T4 6))), (ad 17, .inl (cI, 120, .inl (T4 7))), (ad 18, .inl (cI, 120, .inl (T4 8))), (kd, .inl (cI, 6, .inl kf)), (pz, .inl (cZ, 6, .inl pf)), (made, .inl (cR, mm, .inr (.inr (.inr (.inr fm2))))), (q_9, .inl (cI, 6, .inl (upd (upd (upd (upd (upd (fun _ => 0) 0 5) 1 (-1)) 2 (nI (i2 % 6))) 3 (-1)) 4 0)))] := hD
          refine lv_dup hx hb dL_build_281 rfl ?_
          refine lv_iconst (v := 5) hx hb dL_build_282 (by decide) ?_
          refine lv_iconst (v := 0) hx hb dL_build_283 (by decide) ?_
          refine va_iast hx hb hK hP hD hS 14 0 rfl rfl (vp_in_nI (n := 5) (by omega) (by omega)) dL_build_284 (fun H locs hP hD hS => ?_)
          rw [show Int32.toNatClampNeg 5 = 5 from by decide] at hP hD
          have hP : va_P D vwCl [(ob, .inr (5, [.ref (ad 1), .ref (cd 0), .ref (dd 0), .int 0])), (ad 1, .inr (3, [.ref (ad 10), .int 6, .long po1, .long oc1, .ref (ad 11), .ref (ad 12), .ref (ad 13), .ref (ad 14), .ref (ad 15), .int (nI i2), .ref (ad 16), .ref (ad 17), .ref (ad 18)])), (ad 10, .inl (cI, 12, .inl (T4 0))), (ad 11, .inl (cI, 40, .inl (T4 1))), (ad 12, .inl (cI, 40, .inl (T4 2))), (ad 13, .inl (cI, 40, .inl (T4 3))), (ad 14, .inl (cI, 40, .inl (T4 4))), (ad 15, .inl (cI, 40, .inl (T4 5))), (ad 16, .inl (cI, 120, .inl (T4 6))), (ad 17, .inl (cI, 120, .inl (T4 7))), (ad 18, .inl (cI, 120, .inl (T4 8))), (kd, .inl (cI, 6, .inl kf)), (pz, .inl (cZ, 6, .inl pf)), (made, .inl (cR, mm, .inr (.inr (.inr (.inr fm2))))), (q_9, .inl (cI, 6, .inl (upd (upd (upd (upd (upd (upd (fun _ => 0) 0 5) 1 (-1)) 2 (nI (i2 % 6))) 3 (-1)) 4 0) 5 0)))] _ := hP
          have hD : va_D A [(ob, .inr (5, [.ref (ad 1), .ref (cd 0), .ref (dd 0), .int 0])), (ad 1, .inr (3, [.ref (ad 10), .int 6, .long po1, .long oc1, .ref (ad 11), .ref (ad 12), .ref (ad 13), .ref (ad 14), .ref (ad 15), .int (nI i2), .ref (ad 16), .ref (ad 17), .ref (ad 18)])), (ad 10, .inl (cI, 12, .inl (T4 0))), (ad 11, .inl (cI, 40, .inl (T4 1))), (ad 12, .inl (cI, 40, .inl (T4 2))), (ad 13, .inl (cI, 40, .inl (T4 3))), (ad 14, .inl (cI, 40, .inl (T4 4))), (ad 15, .inl (cI, 40, .inl (T4 5))), (ad 16, .inl (cI, 120, .inl (T4 6))), (ad 17, .inl (cI, 120, .inl (T4 7))), (ad 18, .inl (cI, 120, .inl (T4 8))), (kd, .inl (cI, 6, .inl kf)), (pz, .inl (cZ, 6, .inl pf)), (made, .inl (cR, mm, .inr (.inr (.inr (.inr fm2))))), (q_9, .inl (cI, 6, .inl (upd (upd (upd (upd (upd (upd (fun _ => 0) 0 5) 1 (-1)) 2 (nI (i2 % 6))) 3 (-1)) 4 0) 5 0)))] := hD
          refine lv_astore (lv' := [(7, .ref q_9), (6, .int (nI i2)), (5, .ref made), (0, .ref ob), (1, .ref sb), (2, .int (nI mm)), (3, .ref kd), (4, .ref pz)]) hx hb dL_build_285 hl (by decide) rfl (fun ls hl => ?_)
          refine lv_aload_n hx hb dL_build_287 rfl (lv_at hl 3 rfl) ?_
          refine lv_aload hx hb dL_build_288 (lv_at hl 0 rfl) ?_
          refine kc_i (wr := [(kd, .inl (cI, 6, .inl kf)), (pz, .inl (cZ, 6, .inl pf)), (made, .inl (cR, mm, .inr (.inr (.inr (.inr fm2)))))]) (va_runS (As := [.ref ob, .ref q_9]) (rest := []) ⟨hx, hb, hml, hown, hts⟩ (k_tellD l D cI cJ cZ cR ad po1 oc1 i2 T4 ob cd dd 0 q_9 (upd (upd (upd (upd (upd (upd (fun _ => 0) 0 5) 1 (-1)) 2 (nI (i2 % 6))) 3 (-1)) 4 0) 5 0) (i2 % 6) _ hT4 (by omega) (Nat.mod_lt _ (by decide)) (by simp [upd]) (by simp [upd])) (cwS 2 hts (gS q_772 q_770 q_771 q_63) rfl rfl rfl (by decide +kernel) ⟨Nat.le_of_ble_eq_true rfl, Nat.le_of_ble_eq_true rfl⟩) ⟨Pw.blind, Pw.mk_call hP hK hD hS hA hG [0, 1, 2, 3, 4, 5, 6, 7, 8, 9, 10, 14] rfl (by decide)⟩ rfl rfl hl.1 rfl (lv_room (Nat.le_of_ble_eq_true rfl)) dL_build_290 ⟨Nat.le_trans (m := 1000) (by omega) (Nat.le_of_ble_eq_true rfl), Nat.le_trans (m := 1000) (by omega) (Nat.le_of_ble_eq_true rfl)⟩) hP hD hS hA [0, 1, 2, 3, 4, 5, 6, 7, 8, 9, 10, 14] [11, 12, 13] rfl rfl (by decide) (by decide) (fun r_10 u_11 H locs hw hP hD hS => ?_)
          obtain ⟨T2_12, rfl⟩ : ∃ z, z = u_11 := ⟨_, rfl⟩
          obtain ⟨hw, hf_r_10⟩ := hw
          obtain rfl : r_10 = nI i2 := hw
          have hP : va_P D vwCl [(kd, .inl (cI, 6, .inl kf)), (pz, .inl (cZ, 6, .inl pf)), (made, .inl (cR, mm, .inr (.inr (.inr (.inr fm2))))), (ob, .inr (5, [.ref (ad 1), .ref (cd 0), .ref (dd 0), .int 0])), (ad 1, .inr (3, [.ref (ad 10), .int 6, .long po1, .long oc1, .ref (ad 11), .ref (ad 12), .ref (ad 13), .ref (ad 14), .ref (ad 15), .int (nI (i2 + 1)), .ref (ad 16), .ref (ad 17), .ref (ad 18)])), (ad 10, .inl (cI, 12, .inl (T2_12 0))), (ad 11, .inl (cI, 40, .inl (T2_12 1))), (ad 12, .inl (cI, 40, .inl (T2_12 2))), (ad 13, .inl (cI, 40, .inl (T2_12 3))), (ad 14, .inl (cI, 40, .inl (T2_12 4))), (ad 15, .inl (cI, 40, .inl (T2_12 5))), (ad 16, .inl (cI, 120, .inl (T2_12 6))), (ad 17, .inl (cI, 120, .inl (T2_12 7))), (ad 18, .inl (cI, 120, .inl (T2_12 8))), (q_9, .inl (cI, 6, .inl (upd (upd (upd (upd (upd (upd (fun _ => 0) 0 5) 1 (-1)) 2 (nI (i2 % 6))) 3 (-1)) 4 0) 5 0)))] _ := hP
          have hD : va_D A [(kd, .inl (cI, 6, .inl kf)), (pz, .inl (cZ, 6, .inl pf)), (made, .inl (cR, mm, .inr (.inr (.inr (.inr fm2))))), (ob, .inr (5, [.ref (ad 1), .ref (cd 0), .ref (dd 0), .int 0])), (ad 1, .inr (3, [.ref (ad 10), .int 6, .long po1, .long oc1, .ref (ad 11), .ref (ad 12), .ref (ad 13), .ref (ad 14), .ref (ad 15), .int (nI (i2 + 1)), .ref (ad 16), .ref (ad 17), .ref (ad 18)])), (ad 10, .inl (cI, 12, .inl (T2_12 0))), (ad 11, .inl (cI, 40, .inl (T2_12 1))), (ad 12, .inl (cI, 40, .inl (T2_12 2))), (ad 13, .inl (cI, 40, .inl (T2_12 3))), (ad 14, .inl (cI, 40, .inl (T2_12 4))), (ad 15, .inl (cI, 40, .inl (T2_12 5))), (ad 16, .inl (cI, 120, .inl (T2_12 6))), (ad 17, .inl (cI, 120, .inl (T2_12 7))), (ad 18, .inl (cI, 120, .inl (T2_12 8))), (q_9, .inl (cI, 6, .inl (upd (upd (upd (upd (upd (upd (fun _ => 0) 0 5) 1 (-1)) 2 (nI (i2 % 6))) 3 (-1)) 4 0) 5 0)))] := hD
          refine lv_pop hx hb dL_build_293 rfl ?_
          refine lv_aload hx hb dL_build_294 (lv_at hl 2 rfl) ?_
          refine lv_iload hx hb dL_build_296 (lv_at hl 1 rfl) ?_
          refine lv_iinc (v := nI (i2 + 1)) (lv' := [(6, .int (nI (i2 + 1))), (7, .ref q_9), (5, .ref made), (0, .ref ob), (1, .ref sb), (2, .int (nI mm)), (3, .ref kd), (4, .ref pz)]) hx hb dL_build_298 hl (k := 1) rfl (nI_add i2 1) (by decide) rfl (fun ls hl => ?_)
          refine lv_aload hx hb dL_build_301 (lv_at hl 1 rfl) ?_
          refine va_astqI hx hb hK hP hD hS hAO 2 3 14 0 rfl rfl rfl rfl (vp_in_nI (n := i2) (by omega) (by omega)) dL_build_303 (fun H locs hP hD hS => ?_)
          rw [nI_clamp (n := i2) (by omega)] at hP hD
          have hP : va_P D vwCl [(kd, .inl (cI, 6, .inl kf)), (pz, .inl (cZ, 6, .inl pf)), (made, .inl (cR, mm, .inr (.inr (.inr (.inr (va_up fm2 i2 (some q_9))))))), (ob, .inr (5, [.ref (ad 1), .ref (cd 0), .ref (dd 0), .int 0])), (ad 1, .inr (3, [.ref (ad 10), .int 6, .long po1, .long oc1, .ref (ad 11), .ref (ad 12), .ref (ad 13), .ref (ad 14), .ref (ad 15), .int (nI (i2 + 1)), .ref (ad 16), .ref (ad 17), .ref (ad 18)])), (ad 10, .inl (cI, 12, .inl (T2_12 0))), (ad 11, .inl (cI, 40, .inl (T2_12 1))), (ad 12, .inl (cI, 40, .inl (T2_12 2))), (ad 13, .inl (cI, 40, .inl (T2_12 3))), (ad 14, .inl (cI, 40, .inl (T2_12 4))), (ad 15, .inl (cI, 40, .inl (T2_12 5))), (ad 16, .inl (cI, 120, .inl (T2_12 6))), (ad 17, .inl (cI, 120, .inl (T2_12 7))), (ad 18, .inl (cI, 120, .inl (T2_12 8))), (q_9, .inl (cI, 6, .inl (upd (upd (upd (upd (upd (upd (fun _ => 0) 0 5) 1 (-1)) 2 (nI (i2 % 6))) 3 (-1)) 4 0) 5 0)))] _ := hP
          have hD : va_D A [(kd, .inl (cI, 6, .inl kf)), (pz, .inl (cZ, 6, .inl pf)), (made, .inl (cR, mm, .inr (.inr (.inr (.inr (va_up fm2 i2 (some q_9))))))), (ob, .inr (5, [.ref (ad 1), .ref (cd 0), .ref (dd 0), .int 0])), (ad 1, .inr (3, [.ref (ad 10), .int 6, .long po1, .long oc1, .ref (ad 11), .ref (ad 12), .ref (ad 13), .ref (ad 14), .ref (ad 15), .int (nI (i2 + 1)), .ref (ad 16), .ref (ad 17), .ref (ad 18)])), (ad 10, .inl (cI, 12, .inl (T2_12 0))), (ad 11, .inl (cI, 40, .inl (T2_12 1))), (ad 12, .inl (cI, 40, .inl (T2_12 2))), (ad 13, .inl (cI, 40, .inl (T2_12 3))), (ad 14, .inl (cI, 40, .inl (T2_12 4))), (ad 15, .inl (cI, 40, .inl (T2_12 5))), (ad 16, .inl (cI, 120, .inl (T2_12 6))), (ad 17, .inl (cI, 120, .inl (T2_12 7))), (ad 18, .inl (cI, 120, .inl (T2_12 8))), (q_9, .inl (cI, 6, .inl (upd (upd (upd (upd (upd (upd (fun _ => 0) 0 5) 1 (-1)) 2 (nI (i2 % 6))) 3 (-1)) 4 0) 5 0)))] := hD
          refine lv_goto (tgt := 247) hx hb dL_build_304 (by decide) ?_
          have hP := hP.sub (ws' := [(ob, .inr (5, [.ref (ad 1), .ref (cd 0), .ref (dd 0), .int 0])), (ad 1, .inr (3, [.ref (ad 10), .int 6, .long po1, .long oc1, .ref (ad 11), .ref (ad 12), .ref (ad 13), .ref (ad 14), .ref (ad 15), .int (nI (i2 + 1)), .ref (ad 16), .ref (ad 17), .ref (ad 18)])), (ad 10, .inl (cI, 12, .inl (T2_12 0))), (ad 11, .inl (cI, 40, .inl (T2_12 1))), (ad 12, .inl (cI, 40, .inl (T2_12 2))), (ad 13, .inl (cI, 40, .inl (T2_12 3))), (ad 14, .inl (cI, 40, .inl (T2_12 4))), (ad 15, .inl (cI, 40, .inl (T2_12 5))), (ad 16, .inl (cI, 120, .inl (T2_12 6))), (ad 17, .inl (cI, 120, .inl (T2_12 7))), (ad 18, .inl (cI, 120, .inl (T2_12 8))), (kd, .inl (cI, 6, .inl kf)), (pz, .inl (cZ, 6, .inl pf)), (made, .inl (cR, mm, .inr (.inr (.inr (.inr (va_up fm2 i2 (some q_9)))))))]) [3, 4, 5, 6, 7, 8, 9, 10, 11, 12, 13, 0, 1, 2] rfl
          have hD := hD.sub (ws' := [(ob, .inr (5, [.ref (ad 1), .ref (cd 0), .ref (dd 0), .int 0])), (ad 1, .inr (3, [.ref (ad 10), .int 6, .long po1, .long oc1, .ref (ad 11), .ref (ad 12), .ref (ad 13), .ref (ad 14), .ref (ad 15), .int (nI (i2 + 1)), .ref (ad 16), .ref (ad 17), .ref (ad 18)])), (ad 10, .inl (cI, 12, .inl (T2_12 0))), (ad 11, .inl (cI, 40, .inl (T2_12 1))), (ad 12, .inl (cI, 40, .inl (T2_12 2))), (ad 13, .inl (cI, 40, .inl (T2_12 3))), (ad 14, .inl (cI, 40, .inl (T2_12 4))), (ad 15, .inl (cI, 40, .inl (T2_12 5))), (ad 16, .inl (cI, 120, .inl (T2_12 6))), (ad 17, .inl (cI, 120, .inl (T2_12 7))), (ad 18, .inl (cI, 120, .inl (T2_12 8))), (kd, .inl (cI, 6, .inl kf)), (pz, .inl (cZ, 6, .inl pf)), (made, .inl (cR, mm, .inr (.inr (.inr (.inr (va_up fm2 i2 (some q_9)))))))]) [3, 4, 5, 6, 7, 8, 9, 10, 11, 12, 13, 0, 1, 2] (by decide) rfl
          refine W.widen (k := 121 + (i2 + 1)) (n := 740 + 6 * (i2 + 1)) (by omega) (by omega) ?_
          exact ih_247 (i2 + 1, T2_12, va_up fm2 i2 (some q_9)) _ _ _ (by show mm - (i2 + 1) < mm - i2; omega) ⟨by show _ ≤ _; omega, hf_r_10.1, hf_r_10.2.trans h40, lv_sub hl [0, 2, 3, 4, 5, 6, 7] rfl, hP, hD, hS⟩
      · skip
        have c_106 : k < (6 * mm) := Nat.lt_of_not_le (fun h9 => c_106 ((nI_leI (a := 6 * mm) (b := k) (by omega) (by omega)).mpr h9))
        refine lv_aload_n hx hb dL_build_109 rfl (lv_at hl 4 rfl) ?_
        refine lv_iconst (v := 2) hx hb dL_build_110 (by decide) ?_
        refine lv_iload hx hb dL_build_111 (lv_at hl 0 rfl) ?_
        refine lv_bipush (v := 14) hx hb dL_build_113 (by decide) ?_
        refine lv_irem hx hb dL_build_115 (by decide) ?_
        refine tI (v := nI (k % 14)) ((pk_rem (a := k) (d := 14) (by omega) (by omega) (by omega))) ?_
        refine lv_iadd hx hb dL_build_116 ?_
        refine tI (v := nI (2 + (k % 14))) (nI_add 2 (k % 14)) ?_
        refine kc_i (wr := [(ob, .inr (5, [.ref (ad 1), .ref (cd 0), .ref (dd 0), .int 0])), (ad 1, .inr (3, [.ref (ad 10), .int 6, .long po1, .long oc1, .ref (ad 11), .ref (ad 12), .ref (ad 13), .ref (ad 14), .ref (ad 15), .int (nI i), .ref (ad 16), .ref (ad 17), .ref (ad 18)])), (ad 10, .inl (cI, 12, .inl (T3 0))), (ad 11, .inl (cI, 40, .inl (T3 1))), (ad 12, .inl (cI, 40, .inl (T3 2))), (ad 13, .inl (cI, 40, .inl (T3 3))), (ad 14, .inl (cI, 40, .inl (T3 4))), (ad 15, .inl (cI, 40, .inl (T3 5))), (ad 16, .inl (cI, 120, .inl (T3 6))), (ad 17, .inl (cI, 120, .inl (T3 7))), (ad 18, .inl (cI, 120, .inl (T3 8))), (kd, .inl (cI, 6, .inl kf)), (pz, .inl (cZ, 6, .inl pf)), (made, .inl (cR, mm, .inr (.inr (.inr (.inr fm)))))]) (va_runS (As := [.ref sb, .int (nI (2 + (k % 14)))]) (rest := []) ⟨hx, hb, hml, hown, hts⟩ (k_cell l D cI cJ cZ cR sb sL sx (2 + (k % 14)) _ (by omega) hL) (cwS 2 hts (gS q_747 q_745 q_746 q_63) rfl rfl rfl (by decide +kernel) ⟨Nat.le_of_ble_eq_true rfl, Nat.le_of_ble_eq_true rfl⟩) ⟨Pw2.blind, Pw2.mk_call hP hK hD hS hA hG hX hAO [] rfl (by decide)⟩ rfl rfl hl.1 rfl (lv_room (Nat.le_of_ble_eq_true rfl)) dL_build_117 ⟨Nat.le_trans (m := 1000) (by omega) (Nat.le_of_ble_eq_true rfl), Nat.le_trans (m := 1000) (by omega) (Nat.le_of_ble_eq_true rfl)⟩) hP hD hS hA [] [0, 1, 2, 3, 4, 5, 6, 7, 8, 9, 10, 11, 12, 13] rfl rfl (by decide) (by decide) (fun r_13 u_14 H locs hw hP hD hS => ?_)
        have hw_r_13 := hw
        have hP : va_P D vwCl [(ob, .inr (5, [.ref (ad 1), .ref (cd 0), .ref (dd 0), .int 0])), (ad 1, .inr (3, [.ref (ad 10), .int 6, .long po1, .long oc1, .ref (ad 11), .ref (ad 12), .ref (ad 13), .ref (ad 14), .ref (ad 15), .int (nI i), .ref (ad 16), .ref (ad 17), .ref (ad 18)])), (ad 10, .inl (cI, 12, .inl (T3 0))), (ad 11, .inl (cI, 40, .inl (T3 1))), (ad 12, .inl (cI, 40, .inl (T3 2))), (ad 13, .inl (cI, 40, .inl (T3 3))), (ad 14, .inl (cI, 40, .inl (T3 4))), (ad 15, .inl (cI, 40, .inl (T3 5))), (ad 16, .inl (cI, 120, .inl (T3 6))), (ad 17, .inl (cI, 120, .inl (T3 7))), (ad 18, .inl (cI, 120, .inl (T3 8))), (kd, .inl (cI, 6, .inl kf)), (pz, .inl (cZ, 6, .inl pf)), (made, .inl (cR, mm, .inr (.inr (.inr (.inr fm)))))] _ := hP
        have hD : va_D A [(ob, .inr (5, [.ref (ad 1), .ref (cd 0), .ref (dd 0), .int 0])), (ad 1, .inr (3, [.ref (ad 10), .int 6, .long po1, .long oc1, .ref (ad 11), .ref (ad 12), .ref (ad 13), .ref (ad 14), .ref (ad 15), .int (nI i), .ref (ad 16), .ref (ad 17), .ref (ad 18)])), (ad 10, .inl (cI, 12, .inl (T3 0))), (ad 11, .inl (cI, 40, .inl (T3 1))), (ad 12, .inl (cI, 40, .inl (T3 2))), (ad 13, .inl (cI, 40, .inl (T3 3))), (ad 14, .inl (cI, 40, .inl (T3 4))), (ad 15, .inl (cI, 40, .inl (T3 5))), (ad 16, .inl (cI, 120, .inl (T3 6))), (ad 17, .inl (cI, 120, .inl (T3 7))), (ad 18, .inl (cI, 120, .inl (T3 8))), (kd, .inl (cI, 6, .inl kf)), (pz, .inl (cZ, 6, .inl pf)), (made, .inl (cR, mm, .inr (.inr (.inr (.inr fm)))))] := hD
        refine lv_iload hx hb dL_build_120 (lv_at hl 0 rfl) ?_
        refine lv_bipush (v := 14) hx hb dL_build_122 (by decide) ?_
        refine lv_idiv hx hb dL_build_124 (by decide) ?_
        refine tI (v := nI (k / 14)) ((pk_div (a := k) (d := 14) (by omega) (by omega) (by omega))) ?_
        refine lv_iconst (v := 2) hx hb dL_build_125 (by decide) ?_
        refine lv_imul hx hb dL_build_126 ?_
        refine tI (v := nI ((k / 14) * 2)) (pk_mul (k / 14) 2) ?_
        refine lv_ishr hx hb dL_build_127 ?_
        refine lv_iconst (v := 5) hx hb dL_build_128 (by decide) ?_
        refine lv_iload hx hb dL_build_129 (lv_at hl 0 rfl) ?_
        refine lv_imul hx hb dL_build_131 ?_
        refine tI (v := nI (5 * k)) (pk_mul 5 k) ?_
        refine lv_iadd hx hb dL_build_132 ?_
        refine lv_topi (fun x8 ex8 => ?_)
        refine lv_istore (lv' := [(8, .int x8), (7, .int (nI k)), (6, .int (nI i)), (5, .ref made), (0, .ref ob), (1, .ref sb), (2, .int (nI mm)), (3, .ref kd), (4, .ref pz)]) hx hb dL_build_133 hl (by decide) rfl (fun ls hl => ?_)
        refine lv_bipush (v := 6) hx hb dL_build_135 (by decide) ?_
        refine va_newa (atype := .int) (ty := .int) (N' := 6) (a0 := (6, .inl (fun _ => 0))) hx hb (hts _ (mc q_156)) rfl hK hP hD hS hA (fun _ => rfl) (by decide) (by decide) (by decide) (Nat.le_trans (m := 1000) (by omega) (Nat.le_of_ble_eq_true rfl)) (Nat.le_trans (m := 1000) (by omega) (Nat.le_of_ble_eq_true rfl)) dL_build_137 (fun q_15 cA9 H hK9 hP hD hS => ?_)
        obtain rfl : cI = cA9 := K_same hK9 (i := 0) (j := 4) (ty := .int) rfl rfl
        have hP : va_P D vwCl [(ob, .inr (5, [.ref (ad 1), .ref (cd 0), .ref (dd 0), .int 0])), (ad 1, .inr (3, [.ref (ad 10), .int 6, .long po1, .long oc1, .ref (ad 11), .ref (ad 12), .ref (ad 13), .ref (ad 14), .ref (ad 15), .int (nI i), .ref (ad 16), .ref (ad 17), .ref (ad 18)])), (ad 10, .inl (cI, 12, .inl (T3 0))), (ad 11, .inl (cI, 40, .inl (T3 1))), (ad 12, .inl (cI, 40, .inl (T3 2))), (ad 13, .inl (cI, 40, .inl (T3 3))), (ad 14, .inl (cI, 40, .inl (T3 4))), (ad 15, .inl (cI, 40, .inl (T3 5))), (ad 16, .inl (cI, 120, .inl (T3 6))), (ad 17, .inl (cI, 120, .inl (T3 7))), (ad 18, .inl (cI, 120, .inl (T3 8))), (kd, .inl (cI, 6, .inl kf)), (pz, .inl (cZ, 6, .inl pf)), (made, .inl (cR, mm, .inr (.inr (.inr (.inr fm))))), (q_15, .inl (cI, 6, .inl (fun _ => 0)))] _ := hP
        have hD : va_D A [(ob, .inr (5, [.ref (ad 1), .ref (cd 0), .ref (dd 0), .int 0])), (ad 1, .inr (3, [.ref (ad 10), .int 6, .long po1, .long oc1, .ref (ad 11), .ref (ad 12), .ref (ad 13), .ref (ad 14), .ref (ad 15), .int (nI i), .ref (ad 16), .ref (ad 17), .ref (ad 18)])), (ad 10, .inl (cI, 12, .inl (T3 0))), (ad 11, .inl (cI, 40, .inl (T3 1))), (ad 12, .inl (cI, 40, .inl (T3 2))), (ad 13, .inl (cI, 40, .inl (T3 3))), (ad 14, .inl (cI, 40, .inl (T3 4))), (ad 15, .inl (cI, 40, .inl (T3 5))), (ad 16, .inl (cI, 120, .inl (T3 6))), (ad 17, .inl (cI, 120, .inl (T3 7))), (ad 18, .inl (cI, 120, .inl (T3 8))), (kd, .inl (cI, 6, .inl kf)), (pz, .inl (cZ, 6, .inl pf)), (made, .inl (cR, mm, .inr (.inr (.inr (.inr fm))))), (q_15, .inl (cI, 6, .inl (fun _ => 0)))] := hD
        refine lv_dup hx hb dL_build_139 rfl ?_
        refine lv_iconst (v := 0) hx hb dL_build_140 (by decide) ?_
        refine lv_iload hx hb dL_build_141 (lv_at hl 0 rfl) ?_
        refine lv_bipush (v := 10) hx hb dL_build_143 (by decide) ?_
        refine kc_i (wr := [(ob, .inr (5, [.ref (ad 1), .ref (cd 0), .ref (dd 0), .int 0])), (ad 1, .inr (3, [.ref (ad 10), .int 6, .long po1, .long oc1, .ref (ad 11), .ref (ad 12), .ref (ad 13), .ref (ad 14), .ref (ad 15), .int (nI i), .ref (ad 16), .ref (ad 17), .ref (ad 18)])), (ad 10, .inl (cI, 12, .inl (T3 0))), (ad 11, .inl (cI, 40, .inl (T3 1))), (ad 12, .inl (cI, 40, .inl (T3 2))), (ad 13, .inl (cI, 40, .inl (T3 3))), (ad 14, .inl (cI, 40, .inl (T3 4))), (ad 15, .inl (cI, 40, .inl (T3 5))), (ad 16, .inl (cI, 120, .inl (T3 6))), (ad 17, .inl (cI, 120, .inl (T3 7))), (ad 18, .inl (cI, 120, .inl (T3 8))), (kd, .inl (cI, 6, .inl kf)), (pz, .inl (cZ, 6, .inl pf)), (made, .inl (cR, mm, .inr (.inr (.inr (.inr fm))))), (q_15, .inl (cI, 6, .inl (fun _ => 0)))]) (va_runS (As := [.int x8, .int 10]) (rest := [.int 0, .ref q_15, .ref q_15]) ⟨hx, hb, hml, hown, hts⟩ (k_below l D cI cJ cZ cR x8 10 _ (by decide) (by decide)) (cwS 2 hts (gS q_743 q_741 q_742 q_63) rfl rfl rfl (by decide +kernel) ⟨Nat.le_of_ble_eq_true rfl, Nat.le_of_ble_eq_true rfl⟩) ⟨Pw.blind, Pw.mk_call hP hK hD hS hA hG [] rfl (by decide)⟩ rfl rfl hl.1 rfl (lv_room (Nat.le_of_ble_eq_true rfl)) dL_build_145 ⟨Nat.le_trans (m := 1000) (by omega) (Nat.le_of_ble_eq_true rfl), Nat.le_trans (m := 1000) (by omega) (Nat.le_of_ble_eq_true rfl)⟩) hP hD hS hA [] [0, 1, 2, 3, 4, 5, 6, 7, 8, 9, 10, 11, 12, 13, 14] rfl rfl (by decide) (by decide) (fun r_16 u_17 H locs hw hP hD hS => ?_)
        obtain rfl : r_16 = nI (bwO x8 10) := hw
        have hP : va_P D vwCl [(ob, .inr (5, [.ref (ad 1), .ref (cd 0), .ref (dd 0), .int 0])), (ad 1, .inr (3, [.ref (ad 10), .int 6, .long po1, .long oc1, .ref (ad 11), .ref (ad 12), .ref (ad 13), .ref (ad 14), .ref (ad 15), .int (nI i), .ref (ad 16), .ref (ad 17), .ref (ad 18)])), (ad 10, .inl (cI, 12, .inl (T3 0))), (ad 11, .inl (cI, 40, .inl (T3 1))), (ad 12, .inl (cI, 40, .inl (T3 2))), (ad 13, .inl (cI, 40, .inl (T3 3))), (ad 14, .inl (cI, 40, .inl (T3 4))), (ad 15, .inl (cI, 40, .inl (T3 5))), (ad 16, .inl (cI, 120, .inl (T3 6))), (ad 17, .inl (cI, 120, .inl (T3 7))), (ad 18, .inl (cI, 120, .inl (T3 8))), (kd, .inl (cI, 6, .inl kf)), (pz, .inl (cZ, 6, .inl pf)), (made, .inl (cR, mm, .inr (.inr (.inr (.inr fm))))), (q_15, .inl (cI, 6, .inl (fun _ => 0)))] _ := hP
        have hD : va_D A [(ob, .inr (5, [.ref (ad 1), .ref (cd 0), .ref (dd 0), .int 0])), (ad 1, .inr (3, [.ref (ad 10), .int 6, .long po1, .long oc1, .ref (ad 11), .ref (ad 12), .ref (ad 13), .ref (ad 14), .ref (ad 15), .int (nI i), .ref (ad 16), .ref (ad 17), .ref (ad 18)])), (ad 10, .inl (cI, 12, .inl (T3 0))), (ad 11, .inl (cI, 40, .inl (T3 1))), (ad 12, .inl (cI, 40, .inl (T3 2))), (ad 13, .inl (cI, 40, .inl (T3 3))), (ad 14, .inl (cI, 40, .inl (T3 4))), (ad 15, .inl (cI, 40, .inl (T3 5))), (ad 16, .inl (cI, 120, .inl (T3 6))), (ad 17, .inl (cI, 120, .inl (T3 7))), (ad 18, .inl (cI, 120, .inl (T3 8))), (kd, .inl (cI, 6, .inl kf)), (pz, .inl (cZ, 6, .inl pf)), (made, .inl (cR, mm, .inr (.inr (.inr (.inr fm))))), (q_15, .inl (cI, 6, .inl (fun _ => 0)))] := hD
        refine va_iast hx hb hK hP hD hS 14 0 rfl rfl (vp_in_nI (n := 0) (by omega) (by omega)) dL_build_148 (fun H locs hP hD hS => ?_)
        rw [show Int32.toNatClampNeg 0 = 0 from by decide] at hP hD
        have hP : va_P D vwCl [(ob, .inr (5, [.ref (ad 1), .ref (cd 0), .ref (dd 0), .int 0])), (ad 1, .inr (3, [.ref (ad 10), .int 6, .long po1, .long oc1, .ref (ad 11), .ref (ad 12), .ref (ad 13), .ref (ad 14), .ref (ad 15), .int (nI i), .ref (ad 16), .ref (ad 17), .ref (ad 18)])), (ad 10, .inl (cI, 12, .inl (T3 0))), (ad 11, .inl (cI, 40, .inl (T3 1))), (ad 12, .inl (cI, 40, .inl (T3 2))), (ad 13, .inl (cI, 40, .inl (T3 3))), (ad 14, .inl (cI, 40, .inl (T3 4))), (ad 15, .inl (cI, 40, .inl (T3 5))), (ad 16, .inl (cI, 120, .inl (T3 6))), (ad 17, .inl (cI, 120, .inl (T3 7))), (ad 18, .inl (cI, 120, .inl (T3 8))), (kd, .inl (cI, 6, .inl kf)), (pz, .inl (cZ, 6, .inl pf)), (made, .inl (cR, mm, .inr (.inr (.inr (.inr fm))))), (q_15, .inl (cI, 6, .inl (upd (fun _ => 0) 0 (nI (bwO x8 10)))))] _ := hP
        have hD : va_D A [(ob, .inr (5, [.ref (ad 1), .ref (cd 0), .ref (dd 0), .int 0])), (ad 1, .inr (3, [.ref (ad 10), .int 6, .long po1, .long oc1, .ref (ad 11), .ref (ad 12), .ref (ad 13), .ref (ad 14), .ref (ad 15), .int (nI i), .ref (ad 16), .ref (ad 17), .ref (ad 18)])), (ad 10, .inl (cI, 12, .inl (T3 0))), (ad 11, .inl (cI, 40, .inl (T3 1))), (ad 12, .inl (cI, 40, .inl (T3 2))), (ad 13, .inl (cI, 40, .inl (T3 3))), (ad 14, .inl (cI, 40, .inl (T3 4))), (ad 15, .inl (cI, 40, .inl (T3 5))), (ad 16, .inl (cI, 120, .inl (T3 6))), (ad 17, .inl (cI, 120, .inl (T3 7))), (ad 18, .inl (cI, 120, .inl (T3 8))), (kd, .inl (cI, 6, .inl kf)), (pz, .inl (cZ, 6, .inl pf)), (made, .inl (cR, mm, .inr (.inr (.inr (.inr fm))))), (q_15, .inl (cI, 6, .inl (upd (fun _ => 0) 0 (nI (bwO x8 10)))))] := hD
        refine lv_dup hx hb dL_build_149 rfl ?_
        refine lv_iconst (v := 1) hx hb dL_build_150 (by decide) ?_
        refine lv_iload hx hb dL_build_151 (lv_at hl 0 rfl) ?_
        refine lv_iconst (v := 2) hx hb dL_build_153 (by decide) ?_
        refine lv_ishr hx hb dL_build_154 ?_
        refine lv_aload_n hx hb dL_build_155 rfl (lv_at hl 7 rfl) ?_
        refine va_alen (v := 6) hx hb hK hP 11 0 rfl rfl (show Int32.ofNat 6 = 6 by decide) dL_build_156 ?_
        refine kc_i (wr := [(ob, .inr (5, [.ref (ad 1), .ref (cd 0), .ref (dd 0), .int 0])), (ad 1, .inr (3, [.ref (ad 10), .int 6, .long po1, .long oc1, .ref (ad 11), .ref (ad 12), .ref (ad 13), .ref (ad 14), .ref (ad 15), .int (nI i), .ref (ad 16), .ref (ad 17), .ref (ad 18)])), (ad 10, .inl (cI, 12, .inl (T3 0))), (ad 11, .inl (cI, 40, .inl (T3 1))), (ad 12, .inl (cI, 40, .inl (T3 2))), (ad 13, .inl (cI, 40, .inl (T3 3))), (ad 14, .inl (cI, 40, .inl (T3 4))), (ad 15, .inl (cI, 40, .inl (T3 5))), (ad 16, .inl (cI, 120, .inl (T3 6))), (ad 17, .inl (cI, 120, .inl (T3 7))), (ad 18, .inl (cI, 120, .inl (T3 8))), (kd, .inl (cI, 6, .inl kf)), (pz, .inl (cZ, 6, .inl pf)), (made, .inl (cR, mm, .inr (.inr (.inr (.inr fm))))), (q_15, .inl (cI, 6, .inl (upd (fun _ => 0) 0 (nI (bwO x8 10)))))]) (va_runS (As := [.int (x8 >>> (2 &&& 31)), .int 6]) (rest := [.int 1, .ref q_15, .ref q_15]) ⟨hx, hb, hml, hown, hts⟩ (k_below l D cI cJ cZ cR (x8 >>> (2 &&& 31)) 6 _ (by decide) (by decide)) (cwS 2 hts (gS q_743 q_741 q_742 q_63) rfl rfl rfl (by decide +kernel) ⟨Nat.le_of_ble_eq_true rfl, Nat.le_of_ble_eq_true rfl⟩) ⟨Pw.blind, Pw.mk_call hP hK hD hS hA hG [] rfl (by decide)⟩ rfl rfl hl.1 rfl (lv_room (Nat.le_of_ble_eq_true rfl)) dL_build_157 ⟨Nat.le_trans (m := 1000) (by omega) (Nat.le_of_ble_eq_true rfl), Nat.le_trans (m := 1000) (by omega) (Nat.le_of_ble_eq_true rfl)⟩) hP hD hS hA [] [0, 1, 2, 3, 4, 5, 6, 7, 8, 9, 10, 11, 12, 13, 14] rfl rfl (by decide) (by decide) (fun r_18 u_19 H locs hw hP hD hS => ?_)
        obtain rfl : r_18 = nI (bwO (x8 >>> (2 &&& 31)) 6) := hw
        have hP : va_P D vwCl [(ob, .inr (5, [.ref (ad 1), .ref (cd 0), .ref (dd 0), .int 0])), (ad 1, .inr (3, [.ref (ad 10), .int 6, .long po1, .long oc1, .ref (ad 11), .ref (ad 12), .ref (ad 13), .ref (ad 14), .ref (ad 15), .int (nI i), .ref (ad 16), .ref (ad 17), .ref (ad 18)])), (ad 10, .inl (cI, 12, .inl (T3 0))), (ad 11, .inl (cI, 40, .inl (T3 1))), (ad 12, .inl (cI, 40, .inl (T3 2))), (ad 13, .inl (cI, 40, .inl (T3 3))), (ad 14, .inl (cI, 40, .inl (T3 4))), (ad 15, .inl (cI, 40, .inl (T3 5))), (ad 16, .inl (cI, 120, .inl (T3 6))), (ad 17, .inl (cI, 120, .inl (T3 7))), (ad 18, .inl (cI, 120, .inl (T3 8))), (kd, .inl (cI, 6, .inl kf)), (pz, .inl (cZ, 6, .inl pf)), (made, .inl (cR, mm, .inr (.inr (.inr (.inr fm))))), (q_15, .inl (cI, 6, .inl (upd (fun _ => 0) 0 (nI (bwO x8 10)))))] _ := hP
        have hD : va_D A [(ob, .inr (5, [.ref (ad 1), .ref (cd 0), .ref (dd 0), .int 0])), (ad 1, .inr (3, [.ref (ad 10), .int 6, .long po1, .long oc1, .ref (ad 11), .ref (ad 12), .ref (ad 13), .ref (ad 14), .ref (ad 15), .int (nI i), .ref (ad 16), .ref (ad 17), .ref (ad 18)])), (ad 10, .inl (cI, 12, .inl (T3 0))), (ad 11, .inl (cI, 40, .inl (T3 1))), (ad 12, .inl (cI, 40, .inl (T3 2))), (ad 13, .inl (cI, 40, .inl (T3 3))), (ad 14, .inl (cI, 40, .inl (T3 4))), (ad 15, .inl (cI, 40, .inl (T3 5))), (ad 16, .inl (cI, 120, .inl (T3 6))), (ad 17, .inl (cI, 120, .inl (T3 7))), (ad 18, .inl (cI, 120, .inl (T3 8))), (kd, .inl (cI, 6, .inl kf)), (pz, .inl (cZ, 6, .inl pf)), (made, .inl (cR, mm, .inr (.inr (.inr (.inr fm))))), (q_15, .inl (cI, 6, .inl (upd (fun _ => 0) 0 (nI (bwO x8 10)))))] := hD
        refine va_iast hx hb hK hP hD hS 14 0 rfl rfl (vp_in_nI (n := 1) (by omega) (by omega)) dL_build_160 (fun H locs hP hD hS => ?_)
        rw [show Int32.toNatClampNeg 1 = 1 from by decide] at hP hD
        have hP : va_P D vwCl [(ob, .inr (5, [.ref (ad 1), .ref (cd 0), .ref (dd 0), .int 0])), (ad 1, .inr (3, [.ref (ad 10), .int 6, .long po1, .long oc1, .ref (ad 11), .ref (ad 12), .ref (ad 13), .ref (ad 14), .ref (ad 15), .int (nI i), .ref (ad 16), .ref (ad 17), .ref (ad 18)])), (ad 10, .inl (cI, 12, .inl (T3 0))), (ad 11, .inl (cI, 40, .inl (T3 1))), (ad 12, .inl (cI, 40, .inl (T3 2))), (ad 13, .inl (cI, 40, .inl (T3 3))), (ad 14, .inl (cI, 40, .inl (T3 4))), (ad 15, .inl (cI, 40, .inl (T3 5))), (ad 16, .inl (cI, 120, .inl (T3 6))), (ad 17, .inl (cI, 120, .inl (T3 7))), (ad 18, .inl (cI, 120, .inl (T3 8))), (kd, .inl (cI, 6, .inl kf)), (pz, .inl (cZ, 6, .inl pf)), (made, .inl (cR, mm, .inr (.inr (.inr (.inr fm))))), (q_15, .inl (cI, 6, .inl (upd (upd (fun _ => 0) 0 (nI (bwO x8 10))) 1 (nI (bwO (x8 >>> (2 &&& 31)) 6)))))] _ := hP
        have hD : va_D A [(ob, .inr (5, [.ref (ad 1), .ref (cd 0), .ref (dd 0), .int 0])), (ad 1, .inr (3, [.ref (ad 10), .int 6, .long po1, .long oc1, .ref (ad 11), .ref (ad 12), .ref (ad 13), .ref (ad 14), .ref (ad 15), .int (nI i), .ref (ad 16), .ref (ad 17), .ref (ad 18)])), (ad 10, .inl (cI, 12, .inl (T3 0))), (ad 11, .inl (cI, 40, .inl (T3 1))), (ad 12, .inl (cI, 40, .inl (T3 2))), (ad 13, .inl (cI, 40, .inl (T3 3))), (ad 14, .inl (cI, 40, .inl (T3 4))), (ad 15, .inl (cI, 40, .inl (T3 5))), (ad 16, .inl (cI, 120, .inl (T3 6))), (ad 17, .inl (cI, 120, .inl (T3 7))), (ad 18, .inl (cI, 120, .inl (T3 8))), (kd, .inl (cI, 6, .inl kf)), (pz, .inl (cZ, 6, .inl pf)), (made, .inl (cR, mm, .inr (.inr (.inr (.inr fm))))), (q_15, .inl (cI, 6, .inl (upd (upd (fun _ => 0) 0 (nI (bwO x8 10))) 1 (nI (bwO (x8 >>> (2 &&& 31)) 6)))))] := hD
        refine lv_dup hx hb dL_build_161 rfl ?_
        refine lv_iconst (v := 2) hx hb dL_build_162 (by decide) ?_
        refine lv_iload hx hb dL_build_163 (lv_at hl 0 rfl) ?_
        refine lv_iconst (v := 4) hx hb dL_build_165 (by decide) ?_
        refine lv_ishr hx hb dL_build_166 ?_
        refine lv_aload_n hx hb dL_build_167 rfl (lv_at hl 7 rfl) ?_
        refine va_alen (v := 6) hx hb hK hP 11 0 rfl rfl (show Int32.ofNat 6 = 6 by decide) dL_build_168 ?_
        refine kc_i (wr := [(ob, .inr (5, [.ref (ad 1), .ref (cd 0), .ref (dd 0), .int 0])), (ad 1, .inr (3, [.ref (ad 10), .int 6, .long po1, .long oc1, .ref (ad 11), .ref (ad 12), .ref (ad 13), .ref (ad 14), .ref (ad 15), .int (nI i), .ref (ad 16), .ref (ad 17), .ref (ad 18)])), (ad 10, .inl (cI, 12, .inl (T3 0))), (ad 11, .inl (cI, 40, .inl (T3 1))), (ad 12, .inl (cI, 40, .inl (T3 2))), (ad 13, .inl (cI, 40, .inl (T3 3))), (ad 14, .inl (cI, 40, .inl (T3 4))), (ad 15, .inl (cI, 40, .inl (T3 5))), (ad 16, .inl (cI, 120, .inl (T3 6))), (ad 17, .inl (cI, 120, .inl (T3 7))), (ad 18, .inl (cI, 120, .inl (T3 8))), (kd, .inl (cI, 6, .inl kf)), (pz, .inl (cZ, 6, .inl pf)), (made, .inl (cR, mm, .inr (.inr (.inr (.inr fm))))), (q_15, .inl (cI, 6, .inl (upd (upd (fun _ => 0) 0 (nI (bwO x8 10))) 1 (nI (bwO (x8 >>> (2 &&& 31)) 6)))))]) (va_runS (As := [.int (x8 >>> (4 &&& 31)), .int 6]) (rest := [.int 2, .ref q_15, .ref q_15]) ⟨hx, hb, hml, hown, hts⟩ (k_below l D cI cJ cZ cR (x8 >>> (4 &&& 31)) 6 _ (by decide) (by decide)) (cwS 2 hts (gS q_743 q_741 q_742 q_63) rfl rfl rfl (by decide +kernel) ⟨Nat.le_of_ble_eq_true rfl, Nat.le_of_ble_eq_true rfl⟩) ⟨Pw.blind, Pw.mk_call hP hK hD hS hA hG [] rfl (by decide)⟩ rfl rfl hl.1 rfl (lv_room (Nat.le_of_ble_eq_true rfl)) dL_build_169 ⟨Nat.le_trans (m := 1000) (by omega) (Nat.le_of_ble_eq_true rfl), Nat.le_trans (m := 1000) (by omega) (Nat.le_of_ble_eq_true rfl)⟩) hP hD hS hA [] [0, 1, 2, 3, 4, 5, 6, 7, 8, 9, 10, 11, 12, 13, 14] rfl rfl (by decide) (by decide) (fun r_20 u_21 H locs hw hP hD hS => ?_)
        obtain rfl : r_20 = nI (bwO (x8 >>> (4 &&& 31)) 6) := hw
        have hP : va_P D vwCl [(ob, .inr (5, [.ref (ad 1), .ref (cd 0), .ref (dd 0), .int 0])), (ad 1, .inr (3, [.ref (ad 10), .int 6, .long po1, .long oc1, .ref (ad 11), .ref (ad 12), .ref (ad 13), .ref (ad 14), .ref (ad 15), .int (nI i), .ref (ad 16), .ref (ad 17), .ref (ad 18)])), (ad 10, .inl (cI, 12, .inl (T3 0))), (ad 11, .inl (cI, 40, .inl (T3 1))), (ad 12, .inl (cI, 40, .inl (T3 2))), (ad 13, .inl (cI, 40, .inl (T3 3))), (ad 14, .inl (cI, 40, .inl (T3 4))), (ad 15, .inl (cI, 40, .inl (T3 5))), (ad 16, .inl (cI, 120, .inl (T3 6))), (ad 17, .inl (cI, 120, .inl (T3 7))), (ad 18, .inl (cI, 120, .inl (T3 8))), (kd, .inl (cI, 6, .inl kf)), (pz, .inl (cZ, 6, .inl pf)), (made, .inl (cR, mm, .inr (.inr (.inr (.inr fm))))), (q_15, .inl (cI, 6, .inl (upd (upd (fun _ => 0) 0 (nI (bwO x8 10))) 1 (nI (bwO (x8 >>> (2 &&& 31)) 6)))))] _ := hP
        have hD : va_D A [(ob, .inr (5, [.ref (ad 1), .ref (cd 0), .ref (dd 0), .int 0])), (ad 1, .inr (3, [.ref (ad 10), .int 6, .long po1, .long oc1, .ref (ad 11), .ref (ad 12), .ref (ad 13), .ref (ad 14), .ref (ad 15), .int (nI i), .ref (ad 16), .ref (ad 17), .ref (ad 18)])), (ad 10, .inl (cI, 12, .inl (T3 0))), (ad 11, .inl (cI, 40, .inl (T3 1))), (ad 12, .inl (cI, 40, .inl (T3 2))), (ad 13, .inl (cI, 40, .inl (T3 3))), (ad 14, .inl (cI, 40, .inl (T3 4))), (ad 15, .inl (cI, 40, .inl (T3 5))), (ad 16, .inl (cI, 120, .inl (T3 6))), (ad 17, .inl (cI, 120, .inl (T3 7))), (ad 18, .inl (cI, 120, .inl (T3 8))), (kd, .inl (cI, 6, .inl kf)), (pz, .inl (cZ, 6, .inl pf)), (made, .inl (cR, mm, .inr (.inr (.inr (.inr fm))))), (q_15, .inl (cI, 6, .inl (upd (upd (fun _ => 0) 0 (nI (bwO x8 10))) 1 (nI (bwO (x8 >>> (2 &&& 31)) 6)))))] := hD
        refine va_iast hx hb hK hP hD hS 14 0 rfl rfl (vp_in_nI (n := 2) (by omega) (by omega)) dL_build_172 (fun H locs hP hD hS => ?_)
        rw [show Int32.toNatClampNeg 2 = 2 from by decide] at hP hD
        have hP : va_P D vwCl [(ob, .inr (5, [.ref (ad 1), .ref (cd 0), .ref (dd 0), .int 0])), (ad 1, .inr (3, [.ref (ad 10), .int 6, .long po1, .long oc1, .ref (ad 11), .ref (ad 12), .ref (ad 13), .ref (ad 14), .ref (ad 15), .int (nI i), .ref (ad 16), .ref (ad 17), .ref (ad 18)])), (ad 10, .inl (cI, 12, .inl (T3 0))), (ad 11, .inl (cI, 40, .inl (T3 1))), (ad 12, .inl (cI, 40, .inl (T3 2))), (ad 13, .inl (cI, 40, .inl (T3 3))), (ad 14, .inl (cI, 40, .inl (T3 4))), (ad 15, .inl (cI, 40, .inl (T3 5))), (ad 16, .inl (cI, 120, .inl (T3 6))), (ad 17, .inl (cI, 120, .inl (T3 7))), (ad 18, .inl (cI, 120, .inl (T3 8))), (kd, .inl (cI, 6, .inl kf)), (pz, .inl (cZ, 6, .inl pf)), (made, .inl (cR, mm, .inr (.inr (.inr (.inr fm))))), (q_15, .inl (cI, 6, .inl (upd (upd (upd (fun _ => 0) 0 (nI (bwO x8 10))) 1 (nI (bwO (x8 >>> (2 &&& 31)) 6))) 2 (nI (bwO (x8 >>> (4 &&& 31)) 6)))))] _ := hP
        have hD : va_D A [(ob, .inr (5, [.ref (ad 1), .ref (cd 0), .ref (dd 0), .int 0])), (ad 1, .inr (3, [.ref (ad 10), .int 6, .long po1, .long oc1, .ref (ad 11), .ref (ad 12), .ref (ad 13), .ref (ad 14), .ref (ad 15), .int (nI i), .ref (ad 16), .ref (ad 17), .ref (ad 18)])), (ad 10, .inl (cI, 12, .inl (T3 0))), (ad 11, .inl (cI, 40, .inl (T3 1))), (ad 12, .inl (cI, 40, .inl (T3 2))), (ad 13, .inl (cI, 40, .inl (T3 3))), (ad 14, .inl (cI, 40, .inl (T3 4))), (ad 15, .inl (cI, 40, .inl (T3 5))), (ad 16, .inl (cI, 120, .inl (T3 6))), (ad 17, .inl (cI, 120, .inl (T3 7))), (ad 18, .inl (cI, 120, .inl (T3 8))), (kd, .inl (cI, 6, .inl kf)), (pz, .inl (cZ, 6, .inl pf)), (made, .inl (cR, mm, .inr (.inr (.inr (.inr fm))))), (q_15, .inl (cI, 6, .inl (upd (upd (upd (fun _ => 0) 0 (nI (bwO x8 10))) 1 (nI (bwO (x8 >>> (2 &&& 31)) 6))) 2 (nI (bwO (x8 >>> (4 &&& 31)) 6)))))] := hD
        refine lv_dup hx hb dL_build_173 rfl ?_
        refine lv_iconst (v := 3) hx hb dL_build_174 (by decide) ?_
        refine lv_iload hx hb dL_build_175 (lv_at hl 0 rfl) ?_
        refine lv_iconst (v := 1) hx hb dL_build_177 (by decide) ?_
        refine lv_ishr hx hb dL_build_178 ?_
        refine lv_iconst (v := 5) hx hb dL_build_179 (by decide) ?_
        refine kc_i (wr := [(ob, .inr (5, [.ref (ad 1), .ref (cd 0), .ref (dd 0), .int 0])), (ad 1, .inr (3, [.ref (ad 10), .int 6, .long po1, .long oc1, .ref (ad 11), .ref (ad 12), .ref (ad 13), .ref (ad 14), .ref (ad 15), .int (nI i), .ref (ad 16), .ref (ad 17), .ref (ad 18)])), (ad 10, .inl (cI, 12, .inl (T3 0))), (ad 11, .inl (cI, 40, .inl (T3 1))), (ad 12, .inl (cI, 40, .inl (T3 2))), (ad 13, .inl (cI, 40, .inl (T3 3))), (ad 14, .inl (cI, 40, .inl (T3 4))), (ad 15, .inl (cI, 40, .inl (T3 5))), (ad 16, .inl (cI, 120, .inl (T3 6))), (ad 17, .inl (cI, 120, .inl (T3 7))), (ad 18, .inl (cI, 120, .inl (T3 8))), (kd, .inl (cI, 6, .inl kf)), (pz, .inl (cZ, 6, .inl pf)), (made, .inl (cR, mm, .inr (.inr (.inr (.inr fm))))), (q_15, .inl (cI, 6, .inl (upd (upd (upd (fun _ => 0) 0 (nI (bwO x8 10))) 1 (nI (bwO (x8 >>> (2 &&& 31)) 6))) 2 (nI (bwO (x8 >>> (4 &&& 31)) 6)))))]) (va_runS (As := [.int (x8 >>> (1 &&& 31)), .int 5]) (rest := [.int 3, .ref q_15, .ref q_15]) ⟨hx, hb, hml, hown, hts⟩ (k_below l D cI cJ cZ cR (x8 >>> (1 &&& 31)) 5 _ (by decide) (by decide)) (cwS 2 hts (gS q_743 q_741 q_742 q_63) rfl rfl rfl (by decide +kernel) ⟨Nat.le_of_ble_eq_true rfl, Nat.le_of_ble_eq_true rfl⟩) ⟨Pw.blind, Pw.mk_call hP hK hD hS hA hG [] rfl (by decide)⟩ rfl rfl hl.1 rfl (lv_room (Nat.le_of_ble_eq_true rfl)) dL_build_180 ⟨Nat.le_trans (m := 1000) (by omega) (Nat.le_of_ble_eq_true rfl), Nat.le_trans (m := 1000) (by omega) (Nat.le_of_ble_eq_true rfl)⟩) hP hD hS hA [] [0, 1, 2, 3, 4, 5, 6, 7, 8, 9, 10, 11, 12, 13, 14] rfl rfl (by decide) (by decide) (fun r_22 u_23 H locs hw hP hD hS => ?_)
        obtain rfl : r_22 = nI (bwO (x8 >>> (1 &&& 31)) 5) := hw
        have hP : va_P D vwCl [(ob, .inr (5, [.ref (ad 1), .ref (cd 0), .ref (dd 0), .int 0])), (ad 1, .inr (3, [.ref (ad 10), .int 6, .long po1, .long oc1, .ref (ad 11), .ref (ad 12), .ref (ad 13), .ref (ad 14), .ref (ad 15), .int (nI i), .ref (ad 16), .ref (ad 17), .ref (ad 18)])), (ad 10, .inl (cI, 12, .inl (T3 0))), (ad 11, .inl (cI, 40, .inl (T3 1))), (ad 12, .inl (cI, 40, .inl (T3 2))), (ad 13, .inl (cI, 40, .inl (T3 3))), (ad 14, .inl (cI, 40, .inl (T3 4))), (ad 15, .inl (cI, 40, .inl (T3 5))), (ad 16, .inl (cI, 120, .inl (T3 6))), (ad 17, .inl (cI, 120, .inl (T3 7))), (ad 18, .inl (cI, 120, .inl (T3 8))), (kd, .inl (cI, 6, .inl kf)), (pz, .inl (cZ, 6, .inl pf)), (made, .inl (cR, mm, .inr (.inr (.inr (.inr fm))))), (q_15, .inl (cI, 6, .inl (upd (upd (upd (fun _ => 0) 0 (nI (bwO x8 10))) 1 (nI (bwO (x8 >>> (2 &&& 31)) 6))) 2 (nI (bwO (x8 >>> (4 &&& 31)) 6)))))] _ := hP
        have hD : va_D A [(ob, .inr (5, [.ref (ad 1), .ref (cd 0), .ref (dd 0), .int 0])), (ad 1, .inr (3, [.ref (ad 10), .int 6, .long po1, .long oc1, .ref (ad 11), .ref (ad 12), .ref (ad 13), .ref (ad 14), .ref (ad 15), .int (nI i), .ref (ad 16), .ref (ad 17), .ref (ad 18)])), (ad 10, .inl (cI, 12, .inl (T3 0))), (ad 11, .inl (cI, 40, .inl (T3 1))), (ad 12, .inl (cI, 40, .inl (T3 2))), (ad 13, .inl (cI, 40, .inl (T3 3))), (ad 14, .inl (cI, 40, .inl (T3 4))), (ad 15, .inl (cI, 40, .inl (T3 5))), (ad 16, .inl (cI, 120, .inl (T3 6))), (ad 17, .inl (cI, 120, .inl (T3 7))), (ad 18, .inl (cI, 120, .inl (T3 8))), (kd, .inl (cI, 6, .inl kf)), (pz, .inl (cZ, 6, .inl pf)), (made, .inl (cR, mm, .inr (.inr (.inr (.inr fm))))), (q_15, .inl (cI, 6, .inl (upd (upd (upd (fun _ => 0) 0 (nI (bwO x8 10))) 1 (nI (bwO (x8 >>> (2 &&& 31)) 6))) 2 (nI (bwO (x8 >>> (4 &&& 31)) 6)))))] := hD
        refine lv_iconst (v := 1) hx hb dL_build_183 (by decide) ?_
        refine lv_isub hx hb dL_build_184 ?_
        refine va_iast hx hb hK hP hD hS 14 0 rfl rfl (vp_in_nI (n := 3) (by omega) (by omega)) dL_build_185 (fun H locs hP hD hS => ?_)
        rw [show Int32.toNatClampNeg 3 = 3 from by decide] at hP hD
        have hP : va_P D vwCl [(ob, .inr (5, [.ref (ad 1), .ref (cd 0), .ref (dd 0), .int 0])), (ad 1, .inr (3, [.ref (ad 10), .int 6, .long po1, .long oc1, .ref (ad 11), .ref (ad 12), .ref (ad 13), .ref (ad 14), .ref (ad 15), .int (nI i), .ref (ad 16), .ref (ad 17), .ref (ad 18)])), (ad 10, .inl (cI, 12, .inl (T3 0))), (ad 11, .inl (cI, 40, .inl (T3 1))), (ad 12, .inl (cI, 40, .inl (T3 2))), (ad 13, .inl (cI, 40, .inl (T3 3))), (ad 14, .inl (cI, 40, .inl (T3 4))), (ad 15, .inl (cI, 40, .inl (T3 5))), (ad 16, .inl (cI, 120, .inl (T3 6))), (ad 17, .inl (cI, 120, .inl (T3 7))), (ad 18, .inl (cI, 120, .inl (T3 8))), (kd, .inl (cI, 6, .inl kf)), (pz, .inl (cZ, 6, .inl pf)), (made, .inl (cR, mm, .inr (.inr (.inr (.inr fm))))), (q_15, .inl (cI, 6, .inl (upd (upd (upd (upd (fun _ => 0) 0 (nI (bwO x8 10))) 1 (nI (bwO (x8 >>> (2 &&& 31)) 6))) 2 (nI (bwO (x8 >>> (4 &&& 31)) 6))) 3 ((nI (bwO (x8 >>> (1 &&& 31)) 5)) - 1))))] _ := hP
        have hD : va_D A [(ob, .inr (5, [.ref (ad 1), .ref (cd 0), .ref (dd 0), .int 0])), (ad 1, .inr (3, [.ref (ad 10), .int 6, .long po1, .long oc1, .ref (ad 11), .ref (ad 12), .ref (ad 13), .ref (ad 14), .ref (ad 15), .int (nI i), .ref (ad 16), .ref (ad 17), .ref (ad 18)])), (ad 10, .inl (cI, 12, .inl (T3 0))), (ad 11, .inl (cI, 40, .inl (T3 1))), (ad 12, .inl (cI, 40, .inl (T3 2))), (ad 13, .inl (cI, 40, .inl (T3 3))), (ad 14, .inl (cI, 40, .inl (T3 4))), (ad 15, .inl (cI, 40, .inl (T3 5))), (ad 16, .inl (cI, 120, .inl (T3 6))), (ad 17, .inl (cI, 120, .inl (T3 7))), (ad 18, .inl (cI, 120, .inl (T3 8))), (kd, .inl (cI, 6, .inl kf)), (pz, .inl (cZ, 6, .inl pf)), (made, .inl (cR, mm, .inr (.inr (.inr (.inr fm))))), (q_15, .inl (cI, 6, .inl (upd (upd (upd (upd (fun _ => 0) 0 (nI (bwO x8 10))) 1 (nI (bwO (x8 >>> (2 &&& 31)) 6))) 2 (nI (bwO (x8 >>> (4 &&& 31)) 6))) 3 ((nI (bwO (x8 >>> (1 &&& 31)) 5)) - 1))))] := hD
        refine lv_dup hx hb dL_build_186 rfl ?_
        refine lv_iconst (v := 4) hx hb dL_build_187 (by decide) ?_
        refine lv_iload hx hb dL_build_188 (lv_at hl 0 rfl) ?_
        refine lv_iconst (v := 3) hx hb dL_build_190 (by decide) ?_
        refine lv_ishr hx hb dL_build_191 ?_
        refine lv_iconst (v := 4) hx hb dL_build_192 (by decide) ?_
        refine kc_i (wr := [(ob, .inr (5, [.ref (ad 1), .ref (cd 0), .ref (dd 0), .int 0])), (ad 1, .inr (3, [.ref (ad 10), .int 6, .long po1, .long oc1, .ref (ad 11), .ref (ad 12), .ref (ad 13), .ref (ad 14), .ref (ad 15), .int (nI i), .ref (ad 16), .ref (ad 17), .ref (ad 18)])), (ad 10, .inl (cI, 12, .inl (T3 0))), (ad 11, .inl (cI, 40, .inl (T3 1))), (ad 12, .inl (cI, 40, .inl (T3 2))), (ad 13, .inl (cI, 40, .inl (T3 3))), (ad 14, .inl (cI, 40, .inl (T3 4))), (ad 15, .inl (cI, 40, .inl (T3 5))), (ad 16, .inl (cI, 120, .inl (T3 6))), (ad 17, .inl (cI, 120, .inl (T3 7))), (ad 18, .inl (cI, 120, .inl (T3 8))), (kd, .inl (cI, 6, .inl kf)), (pz, .inl (cZ, 6, .inl pf)), (made, .inl (cR, mm, .inr (.inr (.inr (.inr fm))))), (q_15, .inl (cI, 6, .inl (upd (upd (upd (upd (fun _ => 0) 0 (nI (bwO x8 10))) 1 (nI (bwO (x8 >>> (2 &&& 31)) 6))) 2 (nI (bwO (x8 >>> (4 &&& 31)) 6))) 3 ((nI (bwO (x8 >>> (1 &&& 31)) 5)) - 1))))]) (va_runS (As := [.int (x8 >>> (3 &&& 31)), .int 4]) (rest := [.int 4, .ref q_15, .ref q_15]) ⟨hx, hb, hml, hown, hts⟩ (k_below l D cI cJ cZ cR (x8 >>> (3 &&& 31)) 4 _ (by decide) (by decide)) (cwS 2 hts (gS q_743 q_741 q_742 q_63) rfl rfl rfl (by decide +kernel) ⟨Nat.le_of_ble_eq_true rfl, Nat.le_of_ble_eq_true rfl⟩) ⟨Pw.blind, Pw.mk_call hP hK hD hS hA hG [] rfl (by decide)⟩ rfl rfl hl.1 rfl (lv_room (Nat.le_of_ble_eq_true rfl)) dL_build_193 ⟨Nat.le_trans (m := 1000) (by omega) (Nat.le_of_ble_eq_true rfl), Nat.le_trans (m := 1000) (by omega) (Nat.le_of_ble_eq_true rfl)⟩) hP hD hS hA [] [0, 1, 2, 3, 4, 5, 6, 7, 8, 9, 10, 11, 12, 13, 14] rfl rfl (by decide) (by decide) (fun r_24 u_25 H locs hw hP hD hS => ?_)
        obtain rfl : r_24 = nI (bwO (x8 >>> (3 &&& 31)) 4) := hw
        have hP : va_P D vwCl [(ob, .inr (5, [.ref (ad 1), .ref (cd 0), .ref (dd 0), .int 0])), (ad 1, .inr (3, [.ref (ad 10), .int 6, .long po1, .long oc1, .ref (ad 11), .ref (ad 12), .ref (ad 13), .ref (ad 14), .ref (ad 15), .int (nI i), .ref (ad 16), .ref (ad 17), .ref (ad 18)])), (ad 10, .inl (cI, 12, .inl (T3 0))), (ad 11, .inl (cI, 40, .inl (T3 1))), (ad 12, .inl (cI, 40, .inl (T3 2))), (ad 13, .inl (cI, 40, .inl (T3 3))), (ad 14, .inl (cI, 40, .inl (T3 4))), (ad 15, .inl (cI, 40, .inl (T3 5))), (ad 16, .inl (cI, 120, .inl (T3 6))), (ad 17, .inl (cI, 120, .inl (T3 7))), (ad 18, .inl (cI, 120, .inl (T3 8))), (kd, .inl (cI, 6, .inl kf)), (pz, .inl (cZ, 6, .inl pf)), (made, .inl (cR, mm, .inr (.inr (.inr (.inr fm))))), (q_15, .inl (cI, 6, .inl (upd (upd (upd (upd (fun _ => 0) 0 (nI (bwO x8 10))) 1 (nI (bwO (x8 >>> (2 &&& 31)) 6))) 2 (nI (bwO (x8 >>> (4 &&& 31)) 6))) 3 ((nI (bwO (x8 >>> (1 &&& 31)) 5)) - 1))))] _ := hP
        have hD : va_D A [(ob, .inr (5, [.ref (ad 1), .ref (cd 0), .ref (dd 0), .int 0])), (ad 1, .inr (3, [.ref (ad 10), .int 6, .long po1, .long oc1, .ref (ad 11), .ref (ad 12), .ref (ad 13), .ref (ad 14), .ref (ad 15), .int (nI i), .ref (ad 16), .ref (ad 17), .ref (ad 18)])), (ad 10, .inl (cI, 12, .inl (T3 0))), (ad 11, .inl (cI, 40, .inl (T3 1))), (ad 12, .inl (cI, 40, .inl (T3 2))), (ad 13, .inl (cI, 40, .inl (T3 3))), (ad 14, .inl (cI, 40, .inl (T3 4))), (ad 15, .inl (cI, 40, .inl (T3 5))), (ad 16, .inl (cI, 120, .inl (T3 6))), (ad 17, .inl (cI, 120, .inl (T3 7))), (ad 18, .inl (cI, 120, .inl (T3 8))), (kd, .inl (cI, 6, .inl kf)), (pz, .inl (cZ, 6, .inl pf)), (made, .inl (cR, mm, .inr (.inr (.inr (.inr fm))))), (q_15, .inl (cI, 6, .inl (upd (upd (upd (upd (fun _ => 0) 0 (nI (bwO x8 10))) 1 (nI (bwO (x8 >>> (2 &&& 31)) 6))) 2 (nI (bwO (x8 >>> (4 &&& 31)) 6))) 3 ((nI (bwO (x8 >>> (1 &&& 31)) 5)) - 1))))] := hD
        refine va_iast hx hb hK hP hD hS 14 0 rfl rfl (vp_in_nI (n := 4) (by omega) (by omega)) dL_build_196 (fun H locs hP hD hS => ?_)
        rw [show Int32.toNatClampNeg 4 = 4 from by decide] at hP hD
        have hP : va_P D vwCl [(ob, .inr (5, [.ref (ad 1), .ref (cd 0), .ref (dd 0), .int 0])), (ad 1, .inr (3, [.ref (ad 10), .int 6, .long po1, .long oc1, .ref (ad 11), .ref (ad 12), .ref (ad 13), .ref (ad 14), .ref (ad 15), .int (nI i), .ref (ad 16), .ref (ad 17), .ref (ad 18)])), (ad 10, .inl (cI, 12, .inl (T3 0))), (ad 11, .inl (cI, 40, .inl (T3 1))), (ad 12, .inl (cI, 40, .inl (T3 2))), (ad 13, .inl (cI, 40, .inl (T3 3))), (ad 14, .inl (cI, 40, .inl (T3 4))), (ad 15, .inl (cI, 40, .inl (T3 5))), (ad 16, .inl (cI, 120, .inl (T3 6))), (ad 17, .inl (cI, 120, .inl (T3 7))), (ad 18, .inl (cI, 120, .inl (T3 8))), (kd, .inl (cI, 6, .inl kf)), (pz, .inl (cZ, 6, .inl pf)), (made, .inl (cR, mm, .inr (.inr (.inr (.inr fm))))), (q_15, .inl (cI, 6, .inl (upd (upd (upd (upd (upd (fun _ => 0) 0 (nI (bwO x8 10))) 1 (nI (bwO (x8 >>> (2 &&& 31)) 6))) 2 (nI (bwO (x8 >>> (4 &&& 31)) 6))) 3 ((nI (bwO (x8 >>> (1 &&& 31)) 5)) - 1)) 4 (nI (bwO (x8 >>> (3 &&& 31)) 4)))))] _ := hP
        have hD : va_D A [(ob, .inr (5, [.ref (ad 1), .ref (cd 0), .ref (dd 0), .int 0])), (ad 1, .inr (3, [.ref (ad 10), .int 6, .long po1, .long oc1, .ref (ad 11), .ref (ad 12), .ref (ad 13), .ref (ad 14), .ref (ad 15), .int (nI i), .ref (ad 16), .ref (ad 17), .ref (ad 18)])), (ad 10, .inl (cI, 12, .inl (T3 0))), (ad 11, .inl (cI, 40, .inl (T3 1))), (ad 12, .inl (cI, 40, .inl (T3 2))), (ad 13, .inl (cI, 40, .inl (T3 3))), (ad 14, .inl (cI, 40, .inl (T3 4))), (ad 15, .inl (cI, 40, .inl (T3 5))), (ad 16, .inl (cI, 120, .inl (T3 6))), (ad 17, .inl (cI, 120, .inl (T3 7))), (ad 18, .inl (cI, 120, .inl (T3 8))), (kd, .inl (cI, 6, .inl kf)), (pz, .inl (cZ, 6, .inl pf)), (made, .inl (cR, mm, .inr (.inr (.inr (.inr fm))))), (q_15, .inl (cI, 6, .inl (upd (upd (upd (upd (upd (fun _ => 0) 0 (nI (bwO x8 10))) 1 (nI (bwO (x8 >>> (2 &&& 31)) 6))) 2 (nI (bwO (x8 >>> (4 &&& 31)) 6))) 3 ((nI (bwO (x8 >>> (1 &&& 31)) 5)) - 1)) 4 (nI (bwO (x8 >>> (3 &&& 31)) 4)))))] := hD
        refine lv_dup hx hb dL_build_197 rfl ?_
        refine lv_iconst (v := 5) hx hb dL_build_198 (by decide) ?_
        refine lv_iload hx hb dL_build_199 (lv_at hl 0 rfl) ?_
        refine lv_iconst (v := 3) hx hb dL_build_201 (by decide) ?_
        refine lv_ishr hx hb dL_build_202 ?_
        refine lv_iload_n hx hb dL_build_203 rfl (lv_at hl 6 rfl) ?_
        refine lv_iconst (v := 2) hx hb dL_build_204 (by decide) ?_
        refine lv_iadd hx hb dL_build_205 ?_
        refine tI (v := nI (mm + 2)) (nI_add mm 2) ?_
        refine kc_i (wr := [(ob, .inr (5, [.ref (ad 1), .ref (cd 0), .ref (dd 0), .int 0])), (ad 1, .inr (3, [.ref (ad 10), .int 6, .long po1, .long oc1, .ref (ad 11), .ref (ad 12), .ref (ad 13), .ref (ad 14), .ref (ad 15), .int (nI i), .ref (ad 16), .ref (ad 17), .ref (ad 18)])), (ad 10, .inl (cI, 12, .inl (T3 0))), (ad 11, .inl (cI, 40, .inl (T3 1))), (ad 12, .inl (cI, 40, .inl (T3 2))), (ad 13, .inl (cI, 40, .inl (T3 3))), (ad 14, .inl (cI, 40, .inl (T3 4))), (ad 15, .inl (cI, 40, .inl (T3 5))), (ad 16, .inl (cI, 120, .inl (T3 6))), (ad 17, .inl (cI, 120, .inl (T3 7))), (ad 18, .inl (cI, 120, .inl (T3 8))), (kd, .inl (cI, 6, .inl kf)), (pz, .inl (cZ, 6, .inl pf)), (made, .inl (cR, mm, .inr (.inr (.inr (.inr fm))))), (q_15, .inl (cI, 6, .inl (upd (upd (upd (upd (upd (fun _ => 0) 0 (nI (bwO x8 10))) 1 (nI (bwO (x8 >>> (2 &&& 31)) 6))) 2 (nI (bwO (x8 >>> (4 &&& 31)) 6))) 3 ((nI (bwO (x8 >>> (1 &&& 31)) 5)) - 1)) 4 (nI (bwO (x8 >>> (3 &&& 31)) 4)))))]) (va_runS (As := [.int (x8 >>> (3 &&& 31)), .int (nI (mm + 2))]) (rest := [.int 5, .ref q_15, .ref q_15]) ⟨hx, hb, hml, hown, hts⟩ (k_below l D cI cJ cZ cR (x8 >>> (3 &&& 31)) (mm + 2) _ (by omega) (by omega)) (cwS 2 hts (gS q_743 q_741 q_742 q_63) rfl rfl rfl (by decide +kernel) ⟨Nat.le_of_ble_eq_true rfl, Nat.le_of_ble_eq_true rfl⟩) ⟨Pw.blind, Pw.mk_call hP hK hD hS hA hG [] rfl (by decide)⟩ rfl rfl hl.1 rfl (lv_room (Nat.le_of_ble_eq_true rfl)) dL_build_206 ⟨Nat.le_trans (m := 1000) (by omega) (Nat.le_of_ble_eq_true rfl), Nat.le_trans (m := 1000) (by omega) (Nat.le_of_ble_eq_true rfl)⟩) hP hD hS hA [] [0, 1, 2, 3, 4, 5, 6, 7, 8, 9, 10, 11, 12, 13, 14] rfl rfl (by decide) (by decide) (fun r_26 u_27 H locs hw hP hD hS => ?_)
        obtain rfl : r_26 = nI (bwO (x8 >>> (3 &&& 31)) (mm + 2)) := hw
        have hP : va_P D vwCl [(ob, .inr (5, [.ref (ad 1), .ref (cd 0), .ref (dd 0), .int 0])), (ad 1, .inr (3, [.ref (ad 10), .int 6, .long po1, .long oc1, .ref (ad 11), .ref (ad 12), .ref (ad 13), .ref (ad 14), .ref (ad 15), .int (nI i), .ref (ad 16), .ref (ad 17), .ref (ad 18)])), (ad 10, .inl (cI, 12, .inl (T3 0))), (ad 11, .inl (cI, 40, .inl (T3 1))), (ad 12, .inl (cI, 40, .inl (T3 2))), (ad 13, .inl (cI, 40, .inl (T3 3))), (ad 14, .inl (cI, 40, .inl (T3 4))), (ad 15, .inl (cI, 40, .inl (T3 5))), (ad 16, .inl (cI, 120, .inl (T3 6))), (ad 17, .inl (cI, 120, .inl (T3 7))), (ad 18, .inl (cI, 120, .inl (T3 8))), (kd, .inl (cI, 6, .inl kf)), (pz, .inl (cZ, 6, .inl pf)), (made, .inl (cR, mm, .inr (.inr (.inr (.inr fm))))), (q_15, .inl (cI, 6, .inl (upd (upd (upd (upd (upd (fun _ => 0) 0 (nI (bwO x8 10))) 1 (nI (bwO (x8 >>> (2 &&& 31)) 6))) 2 (nI (bwO (x8 >>> (4 &&& 31)) 6))) 3 ((nI (bwO (x8 >>> (1 &&& 31)) 5)) - 1)) 4 (nI (bwO (x8 >>> (3 &&& 31)) 4)))))] _ := hP
        have hD : va_D A [(ob, .inr (5, [.ref (ad 1), .ref (cd 0), .ref (dd 0), .int 0])), (ad 1, .inr (3, [.ref (ad 10), .int 6, .long po1, .long oc1, .ref (ad 11), .ref (ad 12), .ref (ad 13), .ref (ad 14), .ref (ad 15), .int (nI i), .ref (ad 16), .ref (ad 17), .ref (ad 18)])), (ad 10, .inl (cI, 12, .inl (T3 0))), (ad 11, .inl (cI, 40, .inl (T3 1))), (ad 12, .inl (cI, 40, .inl (T3 2))), (ad 13, .inl (cI, 40, .inl (T3 3))), (ad 14, .inl (cI, 40, .inl (T3 4))), (ad 15, .inl (cI, 40, .inl (T3 5))), (ad 16, .inl (cI, 120, .inl (T3 6))), (ad 17, .inl (cI, 120, .inl (T3 7))), (ad 18, .inl (cI, 120, .inl (T3 8))), (kd, .inl (cI, 6, .inl kf)), (pz, .inl (cZ, 6, .inl pf)), (made, .inl (cR, mm, .inr (.inr (.inr (.inr fm))))), (q_15, .inl (cI, 6, .inl (upd (upd (upd (upd (upd (fun _ => 0) 0 (nI (bwO x8 10))) 1 (nI (bwO (x8 >>> (2 &&& 31)) 6))) 2 (nI (bwO (x8 >>> (4 &&& 31)) 6))) 3 ((nI (bwO (x8 >>> (1 &&& 31)) 5)) - 1)) 4 (nI (bwO (x8 >>> (3 &&& 31)) 4)))))] := hD
        refine va_iast hx hb hK hP hD hS 14 0 rfl rfl (vp_in_nI (n := 5) (by omega) (by omega)) dL_build_209 (fun H locs hP hD hS => ?_)
        rw [show Int32.toNatClampNeg 5 = 5 from by decide] at hP hD
        have hP : va_P D vwCl [(ob, .inr (5, [.ref (ad 1), .ref (cd 0), .ref (dd 0), .int 0])), (ad 1, .inr (3, [.ref (ad 10), .int 6, .long po1, .long oc1, .ref (ad 11), .ref (ad 12), .ref (ad 13), .ref (ad 14), .ref (ad 15), .int (nI i), .ref (ad 16), .ref (ad 17), .ref (ad 18)])), (ad 10, .inl (cI, 12, .inl (T3 0))), (ad 11, .inl (cI, 40, .inl (T3 1))), (ad 12, .inl (cI, 40, .inl (T3 2))), (ad 13, .inl (cI, 40, .inl (T3 3))), (ad 14, .inl (cI, 40, .inl (T3 4))), (ad 15, .inl (cI, 40, .inl (T3 5))), (ad 16, .inl (cI, 120, .inl (T3 6))), (ad 17, .inl (cI, 120, .inl (T3 7))), (ad 18, .inl (cI, 120, .inl (T3 8))), (kd, .inl (cI, 6, .inl kf)), (pz, .inl (cZ, 6, .inl pf)), (made, .inl (cR, mm, .inr (.inr (.inr (.inr fm))))), (q_15, .inl (cI, 6, .inl (upd (upd (upd (upd (upd (upd (fun _ => 0) 0 (nI (bwO x8 10))) 1 (nI (bwO (x8 >>> (2 &&& 31)) 6))) 2 (nI (bwO (x8 >>> (4 &&& 31)) 6))) 3 ((nI (bwO (x8 >>> (1 &&& 31)) 5)) - 1)) 4 (nI (bwO (x8 >>> (3 &&& 31)) 4))) 5 (nI (bwO (x8 >>> (3 &&& 31)) (mm + 2))))))] _ := hP
        have hD : va_D A [(ob, .inr (5, [.ref (ad 1), .ref (cd 0), .ref (dd 0), .int 0])), (ad 1, .inr (3, [.ref (ad 10), .int 6, .long po1, .long oc1, .ref (ad 11), .ref (ad 12), .ref (ad 13), .ref (ad 14), .ref (ad 15), .int (nI i), .ref (ad 16), .ref (ad 17), .ref (ad 18)])), (ad 10, .inl (cI, 12, .inl (T3 0))), (ad 11, .inl (cI, 40, .inl (T3 1))), (ad 12, .inl (cI, 40, .inl (T3 2))), (ad 13, .inl (cI, 40, .inl (T3 3))), (ad 14, .inl (cI, 40, .inl (T3 4))), (ad 15, .inl (cI, 40, .inl (T3 5))), (ad 16, .inl (cI, 120, .inl (T3 6))), (ad 17, .inl (cI, 120, .inl (T3 7))), (ad 18, .inl (cI, 120, .inl (T3 8))), (kd, .inl (cI, 6, .inl kf)), (pz, .inl (cZ, 6, .inl pf)), (made, .inl (cR, mm, .inr (.inr (.inr (.inr fm))))), (q_15, .inl (cI, 6, .inl (upd (upd (upd (upd (upd (upd (fun _ => 0) 0 (nI (bwO x8 10))) 1 (nI (bwO (x8 >>> (2 &&& 31)) 6))) 2 (nI (bwO (x8 >>> (4 &&& 31)) 6))) 3 ((nI (bwO (x8 >>> (1 &&& 31)) 5)) - 1)) 4 (nI (bwO (x8 >>> (3 &&& 31)) 4))) 5 (nI (bwO (x8 >>> (3 &&& 31)) (mm + 2))))))] := hD
        refine lv_astore (lv' := [(9, .ref q_15), (8, .int x8), (7, .int (nI k)), (6, .int (nI i)), (5, .ref made), (0, .ref ob), (1, .ref sb), (2, .int (nI mm)), (3, .ref kd), (4, .ref pz)]) hx hb dL_build_210 hl (by decide) rfl (fun ls hl => ?_)
        refine lv_aload_n hx hb dL_build_212 rfl (lv_at hl 8 rfl) ?_
        refine lv_aload hx hb dL_build_213 (lv_at hl 0 rfl) ?_
        refine kc_i (wr := [(ob, .inr (5, [.ref (ad 1), .ref (cd 0), .ref (dd 0), .int 0])), (ad 1, .inr (3, [.ref (ad 10), .int 6, .long po1, .long oc1, .ref (ad 11), .ref (ad 12), .ref (ad 13), .ref (ad 14), .ref (ad 15), .int (nI i), .ref (ad 16), .ref (ad 17), .ref (ad 18)])), (ad 10, .inl (cI, 12, .inl (T3 0))), (ad 11, .inl (cI, 40, .inl (T3 1))), (ad 12, .inl (cI, 40, .inl (T3 2))), (ad 13, .inl (cI, 40, .inl (T3 3))), (ad 14, .inl (cI, 40, .inl (T3 4))), (ad 15, .inl (cI, 40, .inl (T3 5))), (ad 16, .inl (cI, 120, .inl (T3 6))), (ad 17, .inl (cI, 120, .inl (T3 7))), (ad 18, .inl (cI, 120, .inl (T3 8))), (pz, .inl (cZ, 6, .inl pf)), (made, .inl (cR, mm, .inr (.inr (.inr (.inr fm)))))]) (va_runS (As := [.ref kd, .ref q_15]) (rest := []) ⟨hx, hb, hml, hown, hts⟩ (k_canTell l D cI cJ cZ cR kd kf q_15 (upd (upd (upd (upd (upd (upd (fun _ => 0) 0 (nI (bwO x8 10))) 1 (nI (bwO (x8 >>> (2 &&& 31)) 6))) 2 (nI (bwO (x8 >>> (4 &&& 31)) 6))) 3 ((nI (bwO (x8 >>> (1 &&& 31)) 5)) - 1)) 4 (nI (bwO (x8 >>> (3 &&& 31)) 4))) 5 (nI (bwO (x8 >>> (3 &&& 31)) (mm + 2)))) (bwO x8 10) (bwO (x8 >>> (2 &&& 31)) 6) (bwO (x8 >>> (4 &&& 31)) 6) (nI (bwO (x8 >>> (1 &&& 31)) 5) - 1) T3 i _ hT3 (bwO_lt (by decide)) (bwO_lt (by decide)) (bwO_lt (by decide)) (by simp [upd]) (by simp [upd]) (by simp [upd]) (by simp [upd]) (fun v hv => by rw [h30]; exact (hBI.1 v hv).1) (qm (bwO_lt (by decide)))) (cwS 2 hts (gS q_766 q_764 q_765 q_63) rfl rfl rfl (by decide +kernel) ⟨Nat.le_of_ble_eq_true rfl, Nat.le_of_ble_eq_true rfl⟩) ⟨Pw.blind, Pw.mk_call hP hK hD hS hA hG [11, 14] rfl (by decide)⟩ rfl rfl hl.1 rfl (lv_room (Nat.le_of_ble_eq_true rfl)) dL_build_215 ⟨Nat.le_trans (m := 1000) (by omega) (Nat.le_of_ble_eq_true rfl), Nat.le_trans (m := 1000) (by omega) (Nat.le_of_ble_eq_true rfl)⟩) hP hD hS hA [11, 14] [0, 1, 2, 3, 4, 5, 6, 7, 8, 9, 10, 12, 13] rfl rfl (by decide) (by decide) (fun r_28 u_29 H locs hw hP hD hS => ?_)
        obtain ⟨r9_30, rfl⟩ : ∃ z, z = u_29 := ⟨_, rfl⟩
        obtain ⟨hw, hf_r_28⟩ := hw
        obtain rfl : r_28 = bz r9_30 := hw
        have hP : va_P D vwCl [(ob, .inr (5, [.ref (ad 1), .ref (cd 0), .ref (dd 0), .int 0])), (ad 1, .inr (3, [.ref (ad 10), .int 6, .long po1, .long oc1, .ref (ad 11), .ref (ad 12), .ref (ad 13), .ref (ad 14), .ref (ad 15), .int (nI i), .ref (ad 16), .ref (ad 17), .ref (ad 18)])), (ad 10, .inl (cI, 12, .inl (T3 0))), (ad 11, .inl (cI, 40, .inl (T3 1))), (ad 12, .inl (cI, 40, .inl (T3 2))), (ad 13, .inl (cI, 40, .inl (T3 3))), (ad 14, .inl (cI, 40, .inl (T3 4))), (ad 15, .inl (cI, 40, .inl (T3 5))), (ad 16, .inl (cI, 120, .inl (T3 6))), (ad 17, .inl (cI, 120, .inl (T3 7))), (ad 18, .inl (cI, 120, .inl (T3 8))), (pz, .inl (cZ, 6, .inl pf)), (made, .inl (cR, mm, .inr (.inr (.inr (.inr fm))))), (kd, .inl (cI, 6, .inl kf)), (q_15, .inl (cI, 6, .inl (upd (upd (upd (upd (upd (upd (fun _ => 0) 0 (nI (bwO x8 10))) 1 (nI (bwO (x8 >>> (2 &&& 31)) 6))) 2 (nI (bwO (x8 >>> (4 &&& 31)) 6))) 3 ((nI (bwO (x8 >>> (1 &&& 31)) 5)) - 1)) 4 (nI (bwO (x8 >>> (3 &&& 31)) 4))) 5 (nI (bwO (x8 >>> (3 &&& 31)) (mm + 2))))))] _ := hP
        have hD : va_D A [(ob, .inr (5, [.ref (ad 1), .ref (cd 0), .ref (dd 0), .int 0])), (ad 1, .inr (3, [.ref (ad 10), .int 6, .long po1, .long oc1, .ref (ad 11), .ref (ad 12), .ref (ad 13), .ref (ad 14), .ref (ad 15), .int (nI i), .ref (ad 16), .ref (ad 17), .ref (ad 18)])), (ad 10, .inl (cI, 12, .inl (T3 0))), (ad 11, .inl (cI, 40, .inl (T3 1))), (ad 12, .inl (cI, 40, .inl (T3 2))), (ad 13, .inl (cI, 40, .inl (T3 3))), (ad 14, .inl (cI, 40, .inl (T3 4))), (ad 15, .inl (cI, 40, .inl (T3 5))), (ad 16, .inl (cI, 120, .inl (T3 6))), (ad 17, .inl (cI, 120, .inl (T3 7))), (ad 18, .inl (cI, 120, .inl (T3 8))), (pz, .inl (cZ, 6, .inl pf)), (made, .inl (cR, mm, .inr (.inr (.inr (.inr fm))))), (kd, .inl (cI, 6, .inl kf)), (q_15, .inl (cI, 6, .inl (upd (upd (upd (upd (upd (upd (fun _ => 0) 0 (nI (bwO x8 10))) 1 (nI (bwO (x8 >>> (2 &&& 31)) 6))) 2 (nI (bwO (x8 >>> (4 &&& 31)) 6))) 3 ((nI (bwO (x8 >>> (1 &&& 31)) 5)) - 1)) 4 (nI (bwO (x8 >>> (3 &&& 31)) 4))) 5 (nI (bwO (x8 >>> (3 &&& 31)) (mm + 2))))))] := hD
        refine lv_if_ne (tgt := 224) hx hb dL_build_218 (by decide) (fun c_218 => ?_) (fun c_218 => ?_)
        · skip
          have c_218 : r9_30 = true := bz_t c_218
          refine lv_aload_n hx hb dL_build_224 rfl (lv_at hl 5 rfl) ?_
          refine lv_aload hx hb dL_build_225 (lv_at hl 0 rfl) ?_
          refine kc_i (wr := [(pz, .inl (cZ, 6, .inl pf)), (made, .inl (cR, mm, .inr (.inr (.inr (.inr fm))))), (kd, .inl (cI, 6, .inl kf))]) (va_runS (As := [.ref ob, .ref q_15]) (rest := []) ⟨hx, hb, hml, hown, hts⟩ (k_tell l D cI cJ cZ cR ad po1 oc1 i T3 ob cd dd 0 q_15 (upd (upd (upd (upd (upd (upd (fun _ => 0) 0 (nI (bwO x8 10))) 1 (nI (bwO (x8 >>> (2 &&& 31)) 6))) 2 (nI (bwO (x8 >>> (4 &&& 31)) 6))) 3 ((nI (bwO (x8 >>> (1 &&& 31)) 5)) - 1)) 4 (nI (bwO (x8 >>> (3 &&& 31)) 4))) 5 (nI (bwO (x8 >>> (3 &&& 31)) (mm + 2)))) (bwO x8 10) (bwO (x8 >>> (2 &&& 31)) 6) (bwO (x8 >>> (4 &&& 31)) 6) (nI (bwO (x8 >>> (1 &&& 31)) 5) - 1) (bwO (x8 >>> (3 &&& 31)) 4) (bwO (x8 >>> (3 &&& 31)) (mm + 2)) _ hT3 (by omega) (bwO_lt (by decide)) (bwO_lt (by decide)) (bwO_lt (by decide)) (by simp [upd]) (by simp [upd]) (by simp [upd]) (by simp [upd]) (by simp [upd]) (bwO_lt (by decide)) (by simp [upd]) (by have := bwO_lt (v := x8 >>> (3 &&& 31)) (d := mm + 2) (by omega); omega) (hf_r_28 c_218)) (cwS 2 hts (gS q_772 q_770 q_771 q_63) rfl rfl rfl (by decide +kernel) ⟨Nat.le_of_ble_eq_true rfl, Nat.le_of_ble_eq_true rfl⟩) ⟨Pw.blind, Pw.mk_call hP hK hD hS hA hG [0, 1, 2, 3, 4, 5, 6, 7, 8, 9, 10, 14] rfl (by decide)⟩ rfl rfl hl.1 rfl (lv_room (Nat.le_of_ble_eq_true rfl)) dL_build_227 ⟨Nat.le_trans (m := 1000) (by omega) (Nat.le_of_ble_eq_true rfl), Nat.le_trans (m := 1000) (by omega) (Nat.le_of_ble_eq_true rfl)⟩) hP hD hS hA [0, 1, 2, 3, 4, 5, 6, 7, 8, 9, 10, 14] [11, 12, 13] rfl rfl (by decide) (by decide) (fun r_31 u_32 H locs hw hP hD hS => ?_)
          obtain ⟨T2_33, rfl⟩ : ∃ z, z = u_32 := ⟨_, rfl⟩
          obtain ⟨hw, hf_r_31⟩ := hw
          obtain rfl : r_31 = nI i := hw
          have hP : va_P D vwCl [(pz, .inl (cZ, 6, .inl pf)), (made, .inl (cR, mm, .inr (.inr (.inr (.inr fm))))), (kd, .inl (cI, 6, .inl kf)), (ob, .inr (5, [.ref (ad 1), .ref (cd 0), .ref (dd 0), .int 0])), (ad 1, .inr (3, [.ref (ad 10), .int 6, .long po1, .long oc1, .ref (ad 11), .ref (ad 12), .ref (ad 13), .ref (ad 14), .ref (ad 15), .int (nI (i + 1)), .ref (ad 16), .ref (ad 17), .ref (ad 18)])), (ad 10, .inl (cI, 12, .inl (T2_33 0))), (ad 11, .inl (cI, 40, .inl (T2_33 1))), (ad 12, .inl (cI, 40, .inl (T2_33 2))), (ad 13, .inl (cI, 40, .inl (T2_33 3))), (ad 14, .inl (cI, 40, .inl (T2_33 4))), (ad 15, .inl (cI, 40, .inl (T2_33 5))), (ad 16, .inl (cI, 120, .inl (T2_33 6))), (ad 17, .inl (cI, 120, .inl (T2_33 7))), (ad 18, .inl (cI, 120, .inl (T2_33 8))), (q_15, .inl (cI, 6, .inl (upd (upd (upd (upd (upd (upd (fun _ => 0) 0 (nI (bwO x8 10))) 1 (nI (bwO (x8 >>> (2 &&& 31)) 6))) 2 (nI (bwO (x8 >>> (4 &&& 31)) 6))) 3 ((nI (bwO (x8 >>> (1 &&& 31)) 5)) - 1)) 4 (nI (bwO (x8 >>> (3 &&& 31)) 4))) 5 (nI (bwO (x8 >>> (3 &&& 31)) (mm + 2))))))] _ := hP
          have hD : va_D A [(pz, .inl (cZ, 6, .inl pf)), (made, .inl (cR, mm, .inr (.inr (.inr (.inr fm))))), (kd, .inl (cI, 6, .inl kf)), (ob, .inr (5, [.ref (ad 1), .ref (cd 0), .ref (dd 0), .int 0])), (ad 1, .inr (3, [.ref (ad 10), .int 6, .long po1, .long oc1, .ref (ad 11), .ref (ad 12), .ref (ad 13), .ref (ad 14), .ref (ad 15), .int (nI (i + 1)), .ref (ad 16), .ref (ad 17), .ref (ad 18)])), (ad 10, .inl (cI, 12, .inl (T2_33 0))), (ad 11, .inl (cI, 40, .inl (T2_33 1))), (ad 12, .inl (cI, 40, .inl (T2_33 2))), (ad 13, .inl (cI, 40, .inl (T2_33 3))), (ad 14, .inl (cI, 40, .inl (T2_33 4))), (ad 15, .inl (cI, 40, .inl (T2_33 5))), (ad 16, .inl (cI, 120, .inl (T2_33 6))), (ad 17, .inl (cI, 120, .inl (T2_33 7))), (ad 18, .inl (cI, 120, .inl (T2_33 8))), (q_15, .inl (cI, 6, .inl (upd (upd (upd (upd (upd (upd (fun _ => 0) 0 (nI (bwO x8 10))) 1 (nI (bwO (x8 >>> (2 &&& 31)) 6))) 2 (nI (bwO (x8 >>> (4 &&& 31)) 6))) 3 ((nI (bwO (x8 >>> (1 &&& 31)) 5)) - 1)) 4 (nI (bwO (x8 >>> (3 &&& 31)) 4))) 5 (nI (bwO (x8 >>> (3 &&& 31)) (mm + 2))))))] := hD
          refine lv_pop hx hb dL_build_230 rfl ?_
          refine lv_aload hx hb dL_build_231 (lv_at hl 4 rfl) ?_
          refine lv_iload hx hb dL_build_233 (lv_at hl 3 rfl) ?_
          refine lv_iinc (v := nI (i + 1)) (lv' := [(6, .int (nI (i + 1))), (9, .ref q_15), (8, .int x8), (7, .int (nI k)), (5, .ref made), (0, .ref ob), (1, .ref sb), (2, .int (nI mm)), (3, .ref kd), (4, .ref pz)]) hx hb dL_build_235 hl (k := 3) rfl (nI_add i 1) (by decide) rfl (fun ls hl => ?_)
          refine lv_aload hx hb dL_build_238 (lv_at hl 1 rfl) ?_
          refine va_astqI hx hb hK hP hD hS hAO 1 3 14 0 rfl rfl rfl rfl (vp_in_nI (n := i) (by omega) (by omega)) dL_build_240 (fun H locs hP hD hS => ?_)
          rw [nI_clamp (n := i) (by omega)] at hP hD
          have hP : va_P D vwCl [(pz, .inl (cZ, 6, .inl pf)), (made, .inl (cR, mm, .inr (.inr (.inr (.inr (va_up fm i (some q_15))))))), (kd, .inl (cI, 6, .inl kf)), (ob, .inr (5, [.ref (ad 1), .ref (cd 0), .ref (dd 0), .int 0])), (ad 1, .inr (3, [.ref (ad 10), .int 6, .long po1, .long oc1, .ref (ad 11), .ref (ad 12), .ref (ad 13), .ref (ad 14), .ref (ad 15), .int (nI (i + 1)), .ref (ad 16), .ref (ad 17), .ref (ad 18)])), (ad 10, .inl (cI, 12, .inl (T2_33 0))), (ad 11, .inl (cI, 40, .inl (T2_33 1))), (ad 12, .inl (cI, 40, .inl (T2_33 2))), (ad 13, .inl (cI, 40, .inl (T2_33 3))), (ad 14, .inl (cI, 40, .inl (T2_33 4))), (ad 15, .inl (cI, 40, .inl (T2_33 5))), (ad 16, .inl (cI, 120, .inl (T2_33 6))), (ad 17, .inl (cI, 120, .inl (T2_33 7))), (ad 18, .inl (cI, 120, .inl (T2_33 8))), (q_15, .inl (cI, 6, .inl (upd (upd (upd (upd (upd (upd (fun _ => 0) 0 (nI (bwO x8 10))) 1 (nI (bwO (x8 >>> (2 &&& 31)) 6))) 2 (nI (bwO (x8 >>> (4 &&& 31)) 6))) 3 ((nI (bwO (x8 >>> (1 &&& 31)) 5)) - 1)) 4 (nI (bwO (x8 >>> (3 &&& 31)) 4))) 5 (nI (bwO (x8 >>> (3 &&& 31)) (mm + 2))))))] _ := hP
          have hD : va_D A [(pz, .inl (cZ, 6, .inl pf)), (made, .inl (cR, mm, .inr (.inr (.inr (.inr (va_up fm i (some q_15))))))), (kd, .inl (cI, 6, .inl kf)), (ob, .inr (5, [.ref (ad 1), .ref (cd 0), .ref (dd 0), .int 0])), (ad 1, .inr (3, [.ref (ad 10), .int 6, .long po1, .long oc1, .ref (ad 11), .ref (ad 12), .ref (ad 13), .ref (ad 14), .ref (ad 15), .int (nI (i + 1)), .ref (ad 16), .ref (ad 17), .ref (ad 18)])), (ad 10, .inl (cI, 12, .inl (T2_33 0))), (ad 11, .inl (cI, 40, .inl (T2_33 1))), (ad 12, .inl (cI, 40, .inl (T2_33 2))), (ad 13, .inl (cI, 40, .inl (T2_33 3))), (ad 14, .inl (cI, 40, .inl (T2_33 4))), (ad 15, .inl (cI, 40, .inl (T2_33 5))), (ad 16, .inl (cI, 120, .inl (T2_33 6))), (ad 17, .inl (cI, 120, .inl (T2_33 7))), (ad 18, .inl (cI, 120, .inl (T2_33 8))), (q_15, .inl (cI, 6, .inl (upd (upd (upd (upd (upd (upd (fun _ => 0) 0 (nI (bwO x8 10))) 1 (nI (bwO (x8 >>> (2 &&& 31)) 6))) 2 (nI (bwO (x8 >>> (4 &&& 31)) 6))) 3 ((nI (bwO (x8 >>> (1 &&& 31)) 5)) - 1)) 4 (nI (bwO (x8 >>> (3 &&& 31)) 4))) 5 (nI (bwO (x8 >>> (3 &&& 31)) (mm + 2))))))] := hD
          refine lv_iinc (v := nI (k + 1)) (lv' := [(7, .int (nI (k + 1))), (6, .int (nI (i + 1))), (9, .ref q_15), (8, .int x8), (5, .ref made), (0, .ref ob), (1, .ref sb), (2, .int (nI mm)), (3, .ref kd), (4, .ref pz)]) hx hb dL_build_241 hl (k := 3) rfl (nI_add k 1) (by decide) rfl (fun ls hl => ?_)
          refine lv_goto (tgt := 94) hx hb dL_build_244 (by decide) ?_
          have hP := hP.sub (ws' := [(ob, .inr (5, [.ref (ad 1), .ref (cd 0), .ref (dd 0), .int 0])), (ad 1, .inr (3, [.ref (ad 10), .int 6, .long po1, .long oc1, .ref (ad 11), .ref (ad 12), .ref (ad 13), .ref (ad 14), .ref (ad 15), .int (nI (i + 1)), .ref (ad 16), .ref (ad 17), .ref (ad 18)])), (ad 10, .inl (cI, 12, .inl (T2_33 0))), (ad 11, .inl (cI, 40, .inl (T2_33 1))), (ad 12, .inl (cI, 40, .inl (T2_33 2))), (ad 13, .inl (cI, 40, .inl (T2_33 3))), (ad 14, .inl (cI, 40, .inl (T2_33 4))), (ad 15, .inl (cI, 40, .inl (T2_33 5))), (ad 16, .inl (cI, 120, .inl (T2_33 6))), (ad 17, .inl (cI, 120, .inl (T2_33 7))), (ad 18, .inl (cI, 120, .inl (T2_33 8))), (kd, .inl (cI, 6, .inl kf)), (pz, .inl (cZ, 6, .inl pf)), (made, .inl (cR, mm, .inr (.inr (.inr (.inr (va_up fm i (some q_15)))))))]) [3, 4, 5, 6, 7, 8, 9, 10, 11, 12, 13, 2, 0, 1] rfl
          have hD := hD.sub (ws' := [(ob, .inr (5, [.ref (ad 1), .ref (cd 0), .ref (dd 0), .int 0])), (ad 1, .inr (3, [.ref (ad 10), .int 6, .long po1, .long oc1, .ref (ad 11), .ref (ad 12), .ref (ad 13), .ref (ad 14), .ref (ad 15), .int (nI (i + 1)), .ref (ad 16), .ref (ad 17), .ref (ad 18)])), (ad 10, .inl (cI, 12, .inl (T2_33 0))), (ad 11, .inl (cI, 40, .inl (T2_33 1))), (ad 12, .inl (cI, 40, .inl (T2_33 2))), (ad 13, .inl (cI, 40, .inl (T2_33 3))), (ad 14, .inl (cI, 40, .inl (T2_33 4))), (ad 15, .inl (cI, 40, .inl (T2_33 5))), (ad 16, .inl (cI, 120, .inl (T2_33 6))), (ad 17, .inl (cI, 120, .inl (T2_33 7))), (ad 18, .inl (cI, 120, .inl (T2_33 8))), (kd, .inl (cI, 6, .inl kf)), (pz, .inl (cZ, 6, .inl pf)), (made, .inl (cR, mm, .inr (.inr (.inr (.inr (va_up fm i (some q_15)))))))]) [3, 4, 5, 6, 7, 8, 9, 10, 11, 12, 13, 2, 0, 1] (by decide) rfl
          refine W.widen (k := 1 + (k + 1)) (n := 20 + 6 * (k + 1)) (by omega) (by omega) ?_
          exact ih_94 (i + 1, k + 1, T2_33, va_up fm i (some q_15)) _ _ _ (by show 6 * mm - (k + 1) < 6 * mm - k; omega) ⟨by show _ ≤ _; omega, by show _ ≤ _; omega, by first | exact hT3 | exact hf_r_31.1, by first | exact h30 | exact hf_r_31.2.trans h30, lv_sub hl [0, 1, 4, 5, 6, 7, 8, 9] rfl, hP, hD, hS⟩
        · skip
          have c_218 : r9_30 = false := bz_f c_218
          refine lv_goto (tgt := 241) hx hb dL_build_221 (by decide) ?_
          refine lv_iinc (v := nI (k + 1)) (lv' := [(7, .int (nI (k + 1))), (9, .ref q_15), (8, .int x8), (6, .int (nI i)), (5, .ref made), (0, .ref ob), (1, .ref sb), (2, .int (nI mm)), (3, .ref kd), (4, .ref pz)]) hx hb dL_build_241 hl (k := 2) rfl (nI_add k 1) (by decide) rfl (fun ls hl => ?_)
          refine lv_goto (tgt := 94) hx hb dL_build_244 (by decide) ?_
          have hP := hP.sub (ws' := [(ob, .inr (5, [.ref (ad 1), .ref (cd 0), .ref (dd 0), .int 0])), (ad 1, .inr (3, [.ref (ad 10), .int 6, .long po1, .long oc1, .ref (ad 11), .ref (ad 12), .ref (ad 13), .ref (ad 14), .ref (ad 15), .int (nI i), .ref (ad 16), .ref (ad 17), .ref (ad 18)])), (ad 10, .inl (cI, 12, .inl (T3 0))), (ad 11, .inl (cI, 40, .inl (T3 1))), (ad 12, .inl (cI, 40, .inl (T3 2))), (ad 13, .inl (cI, 40, .inl (T3 3))), (ad 14, .inl (cI, 40, .inl (T3 4))), (ad 15, .inl (cI, 40, .inl (T3 5))), (ad 16, .inl (cI, 120, .inl (T3 6))), (ad 17, .inl (cI, 120, .inl (T3 7))), (ad 18, .inl (cI, 120, .inl (T3 8))), (kd, .inl (cI, 6, .inl kf)), (pz, .inl (cZ, 6, .inl pf)), (made, .inl (cR, mm, .inr (.inr (.inr (.inr fm)))))]) [0, 1, 2, 3, 4, 5, 6, 7, 8, 9, 10, 13, 11, 12] rfl
          have hD := hD.sub (ws' := [(ob, .inr (5, [.ref (ad 1), .ref (cd 0), .ref (dd 0), .int 0])), (ad 1, .inr (3, [.ref (ad 10), .int 6, .long po1, .long oc1, .ref (ad 11), .ref (ad 12), .ref (ad 13), .ref (ad 14), .ref (ad 15), .int (nI i), .ref (ad 16), .ref (ad 17), .ref (ad 18)])), (ad 10, .inl (cI, 12, .inl (T3 0))), (ad 11, .inl (cI, 40, .inl (T3 1))), (ad 12, .inl (cI, 40, .inl (T3 2))), (ad 13, .inl (cI, 40, .inl (T3 3))), (ad 14, .inl (cI, 40, .inl (T3 4))), (ad 15, .inl (cI, 40, .inl (T3 5))), (ad 16, .inl (cI, 120, .inl (T3 6))), (ad 17, .inl (cI, 120, .inl (T3 7))), (ad 18, .inl (cI, 120, .inl (T3 8))), (kd, .inl (cI, 6, .inl kf)), (pz, .inl (cZ, 6, .inl pf)), (made, .inl (cR, mm, .inr (.inr (.inr (.inr fm)))))]) [0, 1, 2, 3, 4, 5, 6, 7, 8, 9, 10, 13, 11, 12] (by decide) rfl
          refine W.widen (k := 1 + (k + 1)) (n := 20 + 6 * (k + 1)) (by omega) (by omega) ?_
          exact ih_94 (i, k + 1, T3, fm) _ _ _ (by show 6 * mm - (k + 1) < 6 * mm - k; omega) ⟨by show _ ≤ _; omega, by show _ ≤ _; omega, by first | exact hT3 | exact hf_r_28.1, by first | exact h30 | exact hf_r_28.2.trans h30, lv_sub hl [0, 3, 4, 5, 6, 7, 8, 9] rfl, hP, hD, hS⟩
  · skip
    have c_7 : v < 6 := Nat.lt_of_not_le (fun h9 => c_7 ((nI_leI (a := 6) (b := v) (by omega) (by omega)).mpr h9))
    refine lv_aload_n hx hb dL_build_10 rfl (lv_at hl 4 rfl) ?_
    refine lv_iload hx hb dL_build_11 (lv_at hl 0 rfl) ?_
    refine lv_iload hx hb dL_build_13 (lv_at hl 0 rfl) ?_
    refine lv_iconst (v := 4) hx hb dL_build_15 (by decide) ?_
    refine lv_icmp_ge (tgt := 24) hx hb dL_build_16 (by decide) (fun c_16 => ?_) (fun c_16 => ?_)
    · skip
      have c_16 : 4 ≤ v := (nI_leI (a := 4) (b := v) (by omega) (by omega)).mp c_16
      refine lv_aload_n hx hb dL_build_24 rfl (lv_at hl 2 rfl) ?_
      refine lv_iconst (v := 0) hx hb dL_build_25 (by decide) ?_
      refine kc_i (wr := [(ob, .inr (5, [.ref (ad 1), .ref (cd 0), .ref (dd 0), .int 0])), (ad 1, .inr (3, [.ref (ad 10), .int (nI v), .long po1, .long oc1, .ref (ad 11), .ref (ad 12), .ref (ad 13), .ref (ad 14), .ref (ad 15), .int 0, .ref (ad 16), .ref (ad 17), .ref (ad 18)])), (ad 10, .inl (cI, 12, .inl (T1 0))), (ad 11, .inl (cI, 40, .inl (T1 1))), (ad 12, .inl (cI, 40, .inl (T1 2))), (ad 13, .inl (cI, 40, .inl (T1 3))), (ad 14, .inl (cI, 40, .inl (T1 4))), (ad 15, .inl (cI, 40, .inl (T1 5))), (ad 16, .inl (cI, 120, .inl (T1 6))), (ad 17, .inl (cI, 120, .inl (T1 7))), (ad 18, .inl (cI, 120, .inl (T1 8))), (kd, .inl (cI, 6, .inl kf)), (pz, .inl (cZ, 6, .inl pf))]) (va_runS (As := [.ref sb, .int 0]) (rest := [.int (nI v), .ref kd]) ⟨hx, hb, hml, hown, hts⟩ (k_cell l D cI cJ cZ cR sb sL sx 0 _ (by omega) hL) (cwS 2 hts (gS q_747 q_745 q_746 q_63) rfl rfl rfl (by decide +kernel) ⟨Nat.le_of_ble_eq_true rfl, Nat.le_of_ble_eq_true rfl⟩) ⟨Pw2.blind, Pw2.mk_call hP hK hD hS hA hG hX hAO [] rfl (by decide)⟩ rfl rfl hl.1 rfl (lv_room (Nat.le_of_ble_eq_true rfl)) dL_build_26 ⟨Nat.le_of_ble_eq_true rfl, Nat.le_of_ble_eq_true rfl⟩) hP hD hS hA [] [0, 1, 2, 3, 4, 5, 6, 7, 8, 9, 10, 11, 12] rfl rfl (by decide) (by decide) (fun r_34 u_35 H locs hw hP hD hS => ?_)
      have hw_r_34 := hw
      have hP : va_P D vwCl [(ob, .inr (5, [.ref (ad 1), .ref (cd 0), .ref (dd 0), .int 0])), (ad 1, .inr (3, [.ref (ad 10), .int (nI v), .long po1, .long oc1, .ref (ad 11), .ref (ad 12), .ref (ad 13), .ref (ad 14), .ref (ad 15), .int 0, .ref (ad 16), .ref (ad 17), .ref (ad 18)])), (ad 10, .inl (cI, 12, .inl (T1 0))), (ad 11, .inl (cI, 40, .inl (T1 1))), (ad 12, .inl (cI, 40, .inl (T1 2))), (ad 13, .inl (cI, 40, .inl (T1 3))), (ad 14, .inl (cI, 40, .inl (T1 4))), (ad 15, .inl (cI, 40, .inl (T1 5))), (ad 16, .inl (cI, 120, .inl (T1 6))), (ad 17, .inl (cI, 120, .inl (T1 7))), (ad 18, .inl (cI, 120, .inl (T1 8))), (kd, .inl (cI, 6, .inl kf)), (pz, .inl (cZ, 6, .inl pf))] _ := hP
      have hD : va_D A [(ob, .inr (5, [.ref (ad 1), .ref (cd 0), .ref (dd 0), .int 0])), (ad 1, .inr (3, [.ref (ad 10), .int (nI v), .long po1, .long oc1, .ref (ad 11), .ref (ad 12), .ref (ad 13), .ref (ad 14), .ref (ad 15), .int 0, .ref (ad 16), .ref (ad 17), .ref (ad 18)])), (ad 10, .inl (cI, 12, .inl (T1 0))), (ad 11, .inl (cI, 40, .inl (T1 1))), (ad 12, .inl (cI, 40, .inl (T1 2))), (ad 13, .inl (cI, 40, .inl (T1 3))), (ad 14, .inl (cI, 40, .inl (T1 4))), (ad 15, .inl (cI, 40, .inl (T1 5))), (ad 16, .inl (cI, 120, .inl (T1 6))), (ad 17, .inl (cI, 120, .inl (T1 7))), (ad 18, .inl (cI, 120, .inl (T1 8))), (kd, .inl (cI, 6, .inl kf)), (pz, .inl (cZ, 6, .inl pf))] := hD
      refine lv_iload hx hb dL_build_29 (lv_at hl 0 rfl) ?_
      refine lv_ishr hx hb dL_build_31 ?_
      refine lv_iconst (v := 4) hx hb dL_build_32 (by decide) ?_
      refine kc_i (wr := [(ob, .inr (5, [.ref (ad 1), .ref (cd 0), .ref (dd 0), .int 0])), (ad 1, .inr (3, [.ref (ad 10), .int (nI v), .long po1, .long oc1, .ref (ad 11), .ref (ad 12), .ref (ad 13), .ref (ad 14), .ref (ad 15), .int 0, .ref (ad 16), .ref (ad 17), .ref (ad 18)])), (ad 10, .inl (cI, 12, .inl (T1 0))), (ad 11, .inl (cI, 40, .inl (T1 1))), (ad 12, .inl (cI, 40, .inl (T1 2))), (ad 13, .inl (cI, 40, .inl (T1 3))), (ad 14, .inl (cI, 40, .inl (T1 4))), (ad 15, .inl (cI, 40, .inl (T1 5))), (ad 16, .inl (cI, 120, .inl (T1 6))), (ad 17, .inl (cI, 120, .inl (T1 7))), (ad 18, .inl (cI, 120, .inl (T1 8))), (kd, .inl (cI, 6, .inl kf)), (pz, .inl (cZ, 6, .inl pf))]) (va_runS (As := [.int (r_34 >>> ((nI v) &&& 31)), .int 4]) (rest := [.int (nI v), .ref kd]) ⟨hx, hb, hml, hown, hts⟩ (k_below l D cI cJ cZ cR (r_34 >>> ((nI v) &&& 31)) 4 _ (by decide) (by decide)) (cwS 2 hts (gS q_743 q_741 q_742 q_63) rfl rfl rfl (by decide +kernel) ⟨Nat.le_of_ble_eq_true rfl, Nat.le_of_ble_eq_true rfl⟩) ⟨Pw.blind, Pw.mk_call hP hK hD hS hA hG [] rfl (by decide)⟩ rfl rfl hl.1 rfl (lv_room (Nat.le_of_ble_eq_true rfl)) dL_build_33 ⟨Nat.le_of_ble_eq_true rfl, Nat.le_of_ble_eq_true rfl⟩) hP hD hS hA [] [0, 1, 2, 3, 4, 5, 6, 7, 8, 9, 10, 11, 12] rfl rfl (by decide) (by decide) (fun r_36 u_37 H locs hw hP hD hS => ?_)
      obtain rfl : r_36 = nI (bwO (r_34 >>> ((nI v) &&& 31)) 4) := hw
      have hP : va_P D vwCl [(ob, .inr (5, [.ref (ad 1), .ref (cd 0), .ref (dd 0), .int 0])), (ad 1, .inr (3, [.ref (ad 10), .int (nI v), .long po1, .long oc1, .ref (ad 11), .ref (ad 12), .ref (ad 13), .ref (ad 14), .ref (ad 15), .int 0, .ref (ad 16), .ref (ad 17), .ref (ad 18)])), (ad 10, .inl (cI, 12, .inl (T1 0))), (ad 11, .inl (cI, 40, .inl (T1 1))), (ad 12, .inl (cI, 40, .inl (T1 2))), (ad 13, .inl (cI, 40, .inl (T1 3))), (ad 14, .inl (cI, 40, .inl (T1 4))), (ad 15, .inl (cI, 40, .inl (T1 5))), (ad 16, .inl (cI, 120, .inl (T1 6))), (ad 17, .inl (cI, 120, .inl (T1 7))), (ad 18, .inl (cI, 120, .inl (T1 8))), (kd, .inl (cI, 6, .inl kf)), (pz, .inl (cZ, 6, .inl pf))] _ := hP
      have hD : va_D A [(ob, .inr (5, [.ref (ad 1), .ref (cd 0), .ref (dd 0), .int 0])), (ad 1, .inr (3, [.ref (ad 10), .int (nI v), .long po1, .long oc1, .ref (ad 11), .ref (ad 12), .ref (ad 13), .ref (ad 14), .ref (ad 15), .int 0, .ref (ad 16), .ref (ad 17), .ref (ad 18)])), (ad 10, .inl (cI, 12, .inl (T1 0))), (ad 11, .inl (cI, 40, .inl (T1 1))), (ad 12, .inl (cI, 40, .inl (T1 2))), (ad 13, .inl (cI, 40, .inl (T1 3))), (ad 14, .inl (cI, 40, .inl (T1 4))), (ad 15, .inl (cI, 40, .inl (T1 5))), (ad 16, .inl (cI, 120, .inl (T1 6))), (ad 17, .inl (cI, 120, .inl (T1 7))), (ad 18, .inl (cI, 120, .inl (T1 8))), (kd, .inl (cI, 6, .inl kf)), (pz, .inl (cZ, 6, .inl pf))] := hD
      refine va_iast hx hb hK hP hD hS 11 0 rfl rfl (vp_in_nI (n := v) (by omega) (by omega)) dL_build_36 (fun H locs hP hD hS => ?_)
      rw [nI_clamp (n := v) (by omega)] at hP hD
      have hP : va_P D vwCl [(ob, .inr (5, [.ref (ad 1), .ref (cd 0), .ref (dd 0), .int 0])), (ad 1, .inr (3, [.ref (ad 10), .int (nI v), .long po1, .long oc1, .ref (ad 11), .ref (ad 12), .ref (ad 13), .ref (ad 14), .ref (ad 15), .int 0, .ref (ad 16), .ref (ad 17), .ref (ad 18)])), (ad 10, .inl (cI, 12, .inl (T1 0))), (ad 11, .inl (cI, 40, .inl (T1 1))), (ad 12, .inl (cI, 40, .inl (T1 2))), (ad 13, .inl (cI, 40, .inl (T1 3))), (ad 14, .inl (cI, 40, .inl (T1 4))), (ad 15, .inl (cI, 40, .inl (T1 5))), (ad 16, .inl (cI, 120, .inl (T1 6))), (ad 17, .inl (cI, 120, .inl (T1 7))), (ad 18, .inl (cI, 120, .inl (T1 8))), (kd, .inl (cI, 6, .inl (upd kf v (nI (bwO (r_34 >>> ((nI v) &&& 31)) 4))))), (pz, .inl (cZ, 6, .inl pf))] _ := hP
      have hD : va_D A [(ob, .inr (5, [.ref (ad 1), .ref (cd 0), .ref (dd 0), .int 0])), (ad 1, .inr (3, [.ref (ad 10), .int (nI v), .long po1, .long oc1, .ref (ad 11), .ref (ad 12), .ref (ad 13), .ref (ad 14), .ref (ad 15), .int 0, .ref (ad 16), .ref (ad 17), .ref (ad 18)])), (ad 10, .inl (cI, 12, .inl (T1 0))), (ad 11, .inl (cI, 40, .inl (T1 1))), (ad 12, .inl (cI, 40, .inl (T1 2))), (ad 13, .inl (cI, 40, .inl (T1 3))), (ad 14, .inl (cI, 40, .inl (T1 4))), (ad 15, .inl (cI, 40, .inl (T1 5))), (ad 16, .inl (cI, 120, .inl (T1 6))), (ad 17, .inl (cI, 120, .inl (T1 7))), (ad 18, .inl (cI, 120, .inl (T1 8))), (kd, .inl (cI, 6, .inl (upd kf v (nI (bwO (r_34 >>> ((nI v) &&& 31)) 4))))), (pz, .inl (cZ, 6, .inl pf))] := hD
      refine lv_aload hx hb dL_build_37 (lv_at hl 5 rfl) ?_
      refine lv_iload hx hb dL_build_39 (lv_at hl 0 rfl) ?_
      refine lv_aload_n hx hb dL_build_41 rfl (lv_at hl 2 rfl) ?_
      refine lv_iconst (v := 1) hx hb dL_build_42 (by decide) ?_
      refine kc_i (wr := [(ob, .inr (5, [.ref (ad 1), .ref (cd 0), .ref (dd 0), .int 0])), (ad 1, .inr (3, [.ref (ad 10), .int (nI v), .long po1, .long oc1, .ref (ad 11), .ref (ad 12), .ref (ad 13), .ref (ad 14), .ref (ad 15), .int 0, .ref (ad 16), .ref (ad 17), .ref (ad 18)])), (ad 10, .inl (cI, 12, .inl (T1 0))), (ad 11, .inl (cI, 40, .inl (T1 1))), (ad 12, .inl (cI, 40, .inl (T1 2))), (ad 13, .inl (cI, 40, .inl (T1 3))), (ad 14, .inl (cI, 40, .inl (T1 4))), (ad 15, .inl (cI, 40, .inl (T1 5))), (ad 16, .inl (cI, 120, .inl (T1 6))), (ad 17, .inl (cI, 120, .inl (T1 7))), (ad 18, .inl (cI, 120, .inl (T1 8))), (kd, .inl (cI, 6, .inl (upd kf v (nI (bwO (r_34 >>> ((nI v) &&& 31)) 4))))), (pz, .inl (cZ, 6, .inl pf))]) (va_runS (As := [.ref sb, .int 1]) (rest := [.int (nI v), .ref pz]) ⟨hx, hb, hml, hown, hts⟩ (k_cell l D cI cJ cZ cR sb sL sx 1 _ (by omega) hL) (cwS 2 hts (gS q_747 q_745 q_746 q_63) rfl rfl rfl (by decide +kernel) ⟨Nat.le_of_ble_eq_true rfl, Nat.le_of_ble_eq_true rfl⟩) ⟨Pw2.blind, Pw2.mk_call hP hK hD hS hA hG hX hAO [] rfl (by decide)⟩ rfl rfl hl.1 rfl (lv_room (Nat.le_of_ble_eq_true rfl)) dL_build_43 ⟨Nat.le_of_ble_eq_true rfl, Nat.le_of_ble_eq_true rfl⟩) hP hD hS hA [] [0, 1, 2, 3, 4, 5, 6, 7, 8, 9, 10, 11, 12] rfl rfl (by decide) (by decide) (fun r_38 u_39 H locs hw hP hD hS => ?_)
      have hw_r_38 := hw
      have hP : va_P D vwCl [(ob, .inr (5, [.ref (ad 1), .ref (cd 0), .ref (dd 0), .int 0])), (ad 1, .inr (3, [.ref (ad 10), .int (nI v), .long po1, .long oc1, .ref (ad 11), .ref (ad 12), .ref (ad 13), .ref (ad 14), .ref (ad 15), .int 0, .ref (ad 16), .ref (ad 17), .ref (ad 18)])), (ad 10, .inl (cI, 12, .inl (T1 0))), (ad 11, .inl (cI, 40, .inl (T1 1))), (ad 12, .inl (cI, 40, .inl (T1 2))), (ad 13, .inl (cI, 40, .inl (T1 3))), (ad 14, .inl (cI, 40, .inl (T1 4))), (ad 15, .inl (cI, 40, .inl (T1 5))), (ad 16, .inl (cI, 120, .inl (T1 6))), (ad 17, .inl (cI, 120, .inl (T1 7))), (ad 18, .inl (cI, 120, .inl (T1 8))), (kd, .inl (cI, 6, .inl (upd kf v (nI (bwO (r_34 >>> ((nI v) &&& 31)) 4))))), (pz, .inl (cZ, 6, .inl pf))] _ := hP
      have hD : va_D A [(ob, .inr (5, [.ref (ad 1), .ref (cd 0), .ref (dd 0), .int 0])), (ad 1, .inr (3, [.ref (ad 10), .int (nI v), .long po1, .long oc1, .ref (ad 11), .ref (ad 12), .ref (ad 13), .ref (ad 14), .ref (ad 15), .int 0, .ref (ad 16), .ref (ad 17), .ref (ad 18)])), (ad 10, .inl (cI, 12, .inl (T1 0))), (ad 11, .inl (cI, 40, .inl (T1 1))), (ad 12, .inl (cI, 40, .inl (T1 2))), (ad 13, .inl (cI, 40, .inl (T1 3))), (ad 14, .inl (cI, 40, .inl (T1 4))), (ad 15, .inl (cI, 40, .inl (T1 5))), (ad 16, .inl (cI, 120, .inl (T1 6))), (ad 17, .inl (cI, 120, .inl (T1 7))), (ad 18, .inl (cI, 120, .inl (T1 8))), (kd, .inl (cI, 6, .inl (upd kf v (nI (bwO (r_34 >>> ((nI v) &&& 31)) 4))))), (pz, .inl (cZ, 6, .inl pf))] := hD
      refine lv_iload hx hb dL_build_46 (lv_at hl 0 rfl) ?_
      refine lv_ishr hx hb dL_build_48 ?_
      refine lv_iconst (v := 2) hx hb dL_build_49 (by decide) ?_
      refine kc_i (wr := [(ob, .inr (5, [.ref (ad 1), .ref (cd 0), .ref (dd 0), .int 0])), (ad 1, .inr (3, [.ref (ad 10), .int (nI v), .long po1, .long oc1, .ref (ad 11), .ref (ad 12), .ref (ad 13), .ref (ad 14), .ref (ad 15), .int 0, .ref (ad 16), .ref (ad 17), .ref (ad 18)])), (ad 10, .inl (cI, 12, .inl (T1 0))), (ad 11, .inl (cI, 40, .inl (T1 1))), (ad 12, .inl (cI, 40, .inl (T1 2))), (ad 13, .inl (cI, 40, .inl (T1 3))), (ad 14, .inl (cI, 40, .inl (T1 4))), (ad 15, .inl (cI, 40, .inl (T1 5))), (ad 16, .inl (cI, 120, .inl (T1 6))), (ad 17, .inl (cI, 120, .inl (T1 7))), (ad 18, .inl (cI, 120, .inl (T1 8))), (kd, .inl (cI, 6, .inl (upd kf v (nI (bwO (r_34 >>> ((nI v) &&& 31)) 4))))), (pz, .inl (cZ, 6, .inl pf))]) (va_runS (As := [.int (r_38 >>> ((nI v) &&& 31)), .int 2]) (rest := [.int (nI v), .ref pz]) ⟨hx, hb, hml, hown, hts⟩ (k_below l D cI cJ cZ cR (r_38 >>> ((nI v) &&& 31)) 2 _ (by decide) (by decide)) (cwS 2 hts (gS q_743 q_741 q_742 q_63) rfl rfl rfl (by decide +kernel) ⟨Nat.le_of_ble_eq_true rfl, Nat.le_of_ble_eq_true rfl⟩) ⟨Pw.blind, Pw.mk_call hP hK hD hS hA hG [] rfl (by decide)⟩ rfl rfl hl.1 rfl (lv_room (Nat.le_of_ble_eq_true rfl)) dL_build_50 ⟨Nat.le_of_ble_eq_true rfl, Nat.le_of_ble_eq_true rfl⟩) hP hD hS hA [] [0, 1, 2, 3, 4, 5, 6, 7, 8, 9, 10, 11, 12] rfl rfl (by decide) (by decide) (fun r_40 u_41 H locs hw hP hD hS => ?_)
      obtain rfl : r_40 = nI (bwO (r_38 >>> ((nI v) &&& 31)) 2) := hw
      have hP : va_P D vwCl [(ob, .inr (5, [.ref (ad 1), .ref (cd 0), .ref (dd 0), .int 0])), (ad 1, .inr (3, [.ref (ad 10), .int (nI v), .long po1, .long oc1, .ref (ad 11), .ref (ad 12), .ref (ad 13), .ref (ad 14), .ref (ad 15), .int 0, .ref (ad 16), .ref (ad 17), .ref (ad 18)])), (ad 10, .inl (cI, 12, .inl (T1 0))), (ad 11, .inl (cI, 40, .inl (T1 1))), (ad 12, .inl (cI, 40, .inl (T1 2))), (ad 13, .inl (cI, 40, .inl (T1 3))), (ad 14, .inl (cI, 40, .inl (T1 4))), (ad 15, .inl (cI, 40, .inl (T1 5))), (ad 16, .inl (cI, 120, .inl (T1 6))), (ad 17, .inl (cI, 120, .inl (T1 7))), (ad 18, .inl (cI, 120, .inl (T1 8))), (kd, .inl (cI, 6, .inl (upd kf v (nI (bwO (r_34 >>> ((nI v) &&& 31)) 4))))), (pz, .inl (cZ, 6, .inl pf))] _ := hP
      have hD : va_D A [(ob, .inr (5, [.ref (ad 1), .ref (cd 0), .ref (dd 0), .int 0])), (ad 1, .inr (3, [.ref (ad 10), .int (nI v), .long po1, .long oc1, .ref (ad 11), .ref (ad 12), .ref (ad 13), .ref (ad 14), .ref (ad 15), .int 0, .ref (ad 16), .ref (ad 17), .ref (ad 18)])), (ad 10, .inl (cI, 12, .inl (T1 0))), (ad 11, .inl (cI, 40, .inl (T1 1))), (ad 12, .inl (cI, 40, .inl (T1 2))), (ad 13, .inl (cI, 40, .inl (T1 3))), (ad 14, .inl (cI, 40, .inl (T1 4))), (ad 15, .inl (cI, 40, .inl (T1 5))), (ad 16, .inl (cI, 120, .inl (T1 6))), (ad 17, .inl (cI, 120, .inl (T1 7))), (ad 18, .inl (cI, 120, .inl (T1 8))), (kd, .inl (cI, 6, .inl (upd kf v (nI (bwO (r_34 >>> ((nI v) &&& 31)) 4))))), (pz, .inl (cZ, 6, .inl pf))] := hD
      refine lv_topi (fun y53 ey53 => ?_)
      refine lv_if_ne (tgt := 60) hx hb dL_build_53 (by decide) (fun c_53 => ?_) (fun c_53 => ?_)
      · skip
        refine lv_iconst (v := 0) hx hb dL_build_60 (by decide) ?_
        refine va_zast hx hb hK hP hD hS 12 2 rfl rfl (vp_in_nI (n := v) (by omega) (by omega)) dL_build_61 (fun H locs hP hD hS => ?_)
        rw [nI_clamp (n := v) (by omega), show vp_nar .boolean 0 = 0 by decide] at hP hD
        have hP : va_P D vwCl [(ob, .inr (5, [.ref (ad 1), .ref (cd 0), .ref (dd 0), .int 0])), (ad 1, .inr (3, [.ref (ad 10), .int (nI v), .long po1, .long oc1, .ref (ad 11), .ref (ad 12), .ref (ad 13), .ref (ad 14), .ref (ad 15), .int 0, .ref (ad 16), .ref (ad 17), .ref (ad 18)])), (ad 10, .inl (cI, 12, .inl (T1 0))), (ad 11, .inl (cI, 40, .inl (T1 1))), (ad 12, .inl (cI, 40, .inl (T1 2))), (ad 13, .inl (cI, 40, .inl (T1 3))), (ad 14, .inl (cI, 40, .inl (T1 4))), (ad 15, .inl (cI, 40, .inl (T1 5))), (ad 16, .inl (cI, 120, .inl (T1 6))), (ad 17, .inl (cI, 120, .inl (T1 7))), (ad 18, .inl (cI, 120, .inl (T1 8))), (kd, .inl (cI, 6, .inl (upd kf v (nI (bwO (r_34 >>> ((nI v) &&& 31)) 4))))), (pz, .inl (cZ, 6, .inl (upd pf v 0)))] _ := hP
        have hD : va_D A [(ob, .inr (5, [.ref (ad 1), .ref (cd 0), .ref (dd 0), .int 0])), (ad 1, .inr (3, [.ref (ad 10), .int (nI v), .long po1, .long oc1, .ref (ad 11), .ref (ad 12), .ref (ad 13), .ref (ad 14), .ref (ad 15), .int 0, .ref (ad 16), .ref (ad 17), .ref (ad 18)])), (ad 10, .inl (cI, 12, .inl (T1 0))), (ad 11, .inl (cI, 40, .inl (T1 1))), (ad 12, .inl (cI, 40, .inl (T1 2))), (ad 13, .inl (cI, 40, .inl (T1 3))), (ad 14, .inl (cI, 40, .inl (T1 4))), (ad 15, .inl (cI, 40, .inl (T1 5))), (ad 16, .inl (cI, 120, .inl (T1 6))), (ad 17, .inl (cI, 120, .inl (T1 7))), (ad 18, .inl (cI, 120, .inl (T1 8))), (kd, .inl (cI, 6, .inl (upd kf v (nI (bwO (r_34 >>> ((nI v) &&& 31)) 4))))), (pz, .inl (cZ, 6, .inl (upd pf v 0)))] := hD
        refine lv_aload_n hx hb dL_build_62 rfl (lv_at hl 1 rfl) ?_
        refine lv_aload_n hx hb dL_build_63 rfl (lv_at hl 4 rfl) ?_
        refine lv_iload hx hb dL_build_64 (lv_at hl 0 rfl) ?_
        refine va_iald hx hb hK hP 11 0 rfl rfl (vp_in_nI (n := v) (by omega) (by omega)) dL_build_66 ?_
        refine tI (v := nI (bwO (r_34 >>> ((nI v) &&& 31)) 4)) ((congrArg (upd kf v (nI (bwO (r_34 >>> ((nI v) &&& 31)) 4))) (nI_clamp (n := v) (by omega))).trans (upd_same _ _ _)) ?_
        refine lv_aload hx hb dL_build_67 (lv_at hl 5 rfl) ?_
        refine lv_iload hx hb dL_build_69 (lv_at hl 0 rfl) ?_
        refine va_zald hx hb hK hP 12 2 rfl rfl (vp_in_nI (n := v) (by omega) (by omega)) dL_build_71 ?_
        refine tI (v := 0) ((congrArg (upd pf v 0) (nI_clamp (n := v) (by omega))).trans (upd_same _ _ _)) ?_
        refine kc_i (wr := [(kd, .inl (cI, 6, .inl (upd kf v (nI (bwO (r_34 >>> ((nI v) &&& 31)) 4))))), (pz, .inl (cZ, 6, .inl (upd pf v 0)))]) (va_runV (As := [.int (nI (bwO (r_34 >>> ((nI v) &&& 31)) 4)), .int 0]) (rest := []) ⟨hx, hb, hml, hown, hts⟩ (k_variable l D cI cJ cZ cR v ad po1 oc1 T1 ob cd dd 0 (bwO (r_34 >>> ((nI v) &&& 31)) 4) false _ (by omega) (by first | omega | exact bwO_lt (by decide))) (cwV 2 hts (gV q_755 q_752 q_753 q_754 q_64) rfl rfl rfl (by decide +kernel) ⟨Nat.le_of_ble_eq_true rfl, Nat.le_of_ble_eq_true rfl⟩) ⟨Pw.blind, va_recv hK hP (ci := 5) (q0 := 0) rfl rfl, Pw.mk_call hP hK hD hS hA hG [0, 1, 2, 3, 4, 5, 6, 7, 8, 9, 10] rfl (by decide)⟩ rfl rfl hl.1 rfl (lv_room (Nat.le_of_ble_eq_true rfl)) dL_build_72 ⟨Nat.le_of_ble_eq_true rfl, Nat.le_of_ble_eq_true rfl⟩) hP hD hS hA [0, 1, 2, 3, 4, 5, 6, 7, 8, 9, 10] [11, 12] rfl rfl (by decide) (by decide) (fun r_42 u_43 H locs hw hP hD hS => ?_)
        obtain ⟨po2_44, oc2_45⟩ := u_43
        obtain ⟨hw, hf_r_42⟩ := hw
        obtain rfl : r_42 = nI v := hw
        have hP : va_P D vwCl [(kd, .inl (cI, 6, .inl (upd kf v (nI (bwO (r_34 >>> ((nI v) &&& 31)) 4))))), (pz, .inl (cZ, 6, .inl (upd pf v 0))), (ob, .inr (5, [.ref (ad 1), .ref (cd 0), .ref (dd 0), .int 0])), (ad 1, .inr (3, [.ref (ad 10), .int (nI (v + 1)), .long po2_44, .long oc2_45, .ref (ad 11), .ref (ad 12), .ref (ad 13), .ref (ad 14), .ref (ad 15), .int 0, .ref (ad 16), .ref (ad 17), .ref (ad 18)])), (ad 10, .inl (cI, 12, .inl (tV T1 v (nI (bwO (r_34 >>> ((nI v) &&& 31)) 4)) 0))), (ad 11, .inl (cI, 40, .inl (tV T1 v (nI (bwO (r_34 >>> ((nI v) &&& 31)) 4)) 1))), (ad 12, .inl (cI, 40, .inl (tV T1 v (nI (bwO (r_34 >>> ((nI v) &&& 31)) 4)) 2))), (ad 13, .inl (cI, 40, .inl (tV T1 v (nI (bwO (r_34 >>> ((nI v) &&& 31)) 4)) 3))), (ad 14, .inl (cI, 40, .inl (tV T1 v (nI (bwO (r_34 >>> ((nI v) &&& 31)) 4)) 4))), (ad 15, .inl (cI, 40, .inl (tV T1 v (nI (bwO (r_34 >>> ((nI v) &&& 31)) 4)) 5))), (ad 16, .inl (cI, 120, .inl (tV T1 v (nI (bwO (r_34 >>> ((nI v) &&& 31)) 4)) 6))), (ad 17, .inl (cI, 120, .inl (tV T1 v (nI (bwO (r_34 >>> ((nI v) &&& 31)) 4)) 7))), (ad 18, .inl (cI, 120, .inl (tV T1 v (nI (bwO (r_34 >>> ((nI v) &&& 31)) 4)) 8)))] _ := hP
        have hD : va_D A [(kd, .inl (cI, 6, .inl (upd kf v (nI (bwO (r_34 >>> ((nI v) &&& 31)) 4))))), (pz, .inl (cZ, 6, .inl (upd pf v 0))), (ob, .inr (5, [.ref (ad 1), .ref (cd 0), .ref (dd 0), .int 0])), (ad 1, .inr (3, [.ref (ad 10), .int (nI (v + 1)), .long po2_44, .long oc2_45, .ref (ad 11), .ref (ad 12), .ref (ad 13), .ref (ad 14), .ref (ad 15), .int 0, .ref (ad 16), .ref (ad 17), .ref (ad 18)])), (ad 10, .inl (cI, 12, .inl (tV T1 v (nI (bwO (r_34 >>> ((nI v) &&& 31)) 4)) 0))), (ad 11, .inl (cI, 40, .inl (tV T1 v (nI (bwO (r_34 >>> ((nI v) &&& 31)) 4)) 1))), (ad 12, .inl (cI, 40, .inl (tV T1 v (nI (bwO (r_34 >>> ((nI v) &&& 31)) 4)) 2))), (ad 13, .inl (cI, 40, .inl (tV T1 v (nI (bwO (r_34 >>> ((nI v) &&& 31)) 4)) 3))), (ad 14, .inl (cI, 40, .inl (tV T1 v (nI (bwO (r_34 >>> ((nI v) &&& 31)) 4)) 4))), (ad 15, .inl (cI, 40, .inl (tV T1 v (nI (bwO (r_34 >>> ((nI v) &&& 31)) 4)) 5))), (ad 16, .inl (cI, 120, .inl (tV T1 v (nI (bwO (r_34 >>> ((nI v) &&& 31)) 4)) 6))), (ad 17, .inl (cI, 120, .inl (tV T1 v (nI (bwO (r_34 >>> ((nI v) &&& 31)) 4)) 7))), (ad 18, .inl (cI, 120, .inl (tV T1 v (nI (bwO (r_34 >>> ((nI v) &&& 31)) 4)) 8)))] := hD
        refine lv_pop hx hb dL_build_75 rfl ?_
        refine lv_iinc (v := nI (v + 1)) (lv' := [(5, .int (nI (v + 1))), (0, .ref ob), (1, .ref sb), (2, .int (nI mm)), (3, .ref kd), (4, .ref pz)]) hx hb dL_build_76 hl (k := 0) rfl (nI_add v 1) (by decide) rfl (fun ls hl => ?_)
        refine lv_goto (tgt := 3) hx hb dL_build_79 (by decide) ?_
        have hP := hP.sub (ws' := [(ob, .inr (5, [.ref (ad 1), .ref (cd 0), .ref (dd 0), .int 0])), (ad 1, .inr (3, [.ref (ad 10), .int (nI (v + 1)), .long po2_44, .long oc2_45, .ref (ad 11), .ref (ad 12), .ref (ad 13), .ref (ad 14), .ref (ad 15), .int 0, .ref (ad 16), .ref (ad 17), .ref (ad 18)])), (ad 10, .inl (cI, 12, .inl (tV T1 v (nI (bwO (r_34 >>> ((nI v) &&& 31)) 4)) 0))), (ad 11, .inl (cI, 40, .inl (tV T1 v (nI (bwO (r_34 >>> ((nI v) &&& 31)) 4)) 1))), (ad 12, .inl (cI, 40, .inl (tV T1 v (nI (bwO (r_34 >>> ((nI v) &&& 31)) 4)) 2))), (ad 13, .inl (cI, 40, .inl (tV T1 v (nI (bwO (r_34 >>> ((nI v) &&& 31)) 4)) 3))), (ad 14, .inl (cI, 40, .inl (tV T1 v (nI (bwO (r_34 >>> ((nI v) &&& 31)) 4)) 4))), (ad 15, .inl (cI, 40, .inl (tV T1 v (nI (bwO (r_34 >>> ((nI v) &&& 31)) 4)) 5))), (ad 16, .inl (cI, 120, .inl (tV T1 v (nI (bwO (r_34 >>> ((nI v) &&& 31)) 4)) 6))), (ad 17, .inl (cI, 120, .inl (tV T1 v (nI (bwO (r_34 >>> ((nI v) &&& 31)) 4)) 7))), (ad 18, .inl (cI, 120, .inl (tV T1 v (nI (bwO (r_34 >>> ((nI v) &&& 31)) 4)) 8))), (kd, .inl (cI, 6, .inl (upd kf v (nI (bwO (r_34 >>> ((nI v) &&& 31)) 4))))), (pz, .inl (cZ, 6, .inl (upd pf v 0)))]) [2, 3, 4, 5, 6, 7, 8, 9, 10, 11, 12, 0, 1] rfl
        have hD := hD.sub (ws' := [(ob, .inr (5, [.ref (ad 1), .ref (cd 0), .ref (dd 0), .int 0])), (ad 1, .inr (3, [.ref (ad 10), .int (nI (v + 1)), .long po2_44, .long oc2_45, .ref (ad 11), .ref (ad 12), .ref (ad 13), .ref (ad 14), .ref (ad 15), .int 0, .ref (ad 16), .ref (ad 17), .ref (ad 18)])), (ad 10, .inl (cI, 12, .inl (tV T1 v (nI (bwO (r_34 >>> ((nI v) &&& 31)) 4)) 0))), (ad 11, .inl (cI, 40, .inl (tV T1 v (nI (bwO (r_34 >>> ((nI v) &&& 31)) 4)) 1))), (ad 12, .inl (cI, 40, .inl (tV T1 v (nI (bwO (r_34 >>> ((nI v) &&& 31)) 4)) 2))), (ad 13, .inl (cI, 40, .inl (tV T1 v (nI (bwO (r_34 >>> ((nI v) &&& 31)) 4)) 3))), (ad 14, .inl (cI, 40, .inl (tV T1 v (nI (bwO (r_34 >>> ((nI v) &&& 31)) 4)) 4))), (ad 15, .inl (cI, 40, .inl (tV T1 v (nI (bwO (r_34 >>> ((nI v) &&& 31)) 4)) 5))), (ad 16, .inl (cI, 120, .inl (tV T1 v (nI (bwO (r_34 >>> ((nI v) &&& 31)) 4)) 6))), (ad 17, .inl (cI, 120, .inl (tV T1 v (nI (bwO (r_34 >>> ((nI v) &&& 31)) 4)) 7))), (ad 18, .inl (cI, 120, .inl (tV T1 v (nI (bwO (r_34 >>> ((nI v) &&& 31)) 4)) 8))), (kd, .inl (cI, 6, .inl (upd kf v (nI (bwO (r_34 >>> ((nI v) &&& 31)) 4))))), (pz, .inl (cZ, 6, .inl (upd pf v 0)))]) [2, 3, 4, 5, 6, 7, 8, 9, 10, 11, 12, 0, 1] (by decide) rfl
        exact ih_3 (v + 1, tV T1 v (nI (bwO (r_34 >>> ((nI v) &&& 31)) 4)), upd kf v (nI (bwO (r_34 >>> ((nI v) &&& 31)) 4)), upd pf v 0, po2_44, oc2_45) _ _ _ (by show 6 - (v + 1) < 6 - v; omega) ⟨by show _ ≤ _; omega, BI_step hBI (by first | omega | exact bwO_lt (by decide)) hf_r_42, lv_sub hl [0, 1, 2, 3, 4, 5] rfl, hP, hD, hS⟩
      · skip
        refine lv_iconst (v := 1) hx hb dL_build_56 (by decide) ?_
        refine lv_goto (tgt := 61) hx hb dL_build_57 (by decide) ?_
        refine va_zast hx hb hK hP hD hS 12 2 rfl rfl (vp_in_nI (n := v) (by omega) (by omega)) dL_build_61 (fun H locs hP hD hS => ?_)
        rw [nI_clamp (n := v) (by omega), show vp_nar .boolean 1 = 1 by decide] at hP hD
        have hP : va_P D vwCl [(ob, .inr (5, [.ref (ad 1), .ref (cd 0), .ref (dd 0), .int 0])), (ad 1, .inr (3, [.ref (ad 10), .int (nI v), .long po1, .long oc1, .ref (ad 11), .ref (ad 12), .ref (ad 13), .ref (ad 14), .ref (ad 15), .int 0, .ref (ad 16), .ref (ad 17), .ref (ad 18)])), (ad 10, .inl (cI, 12, .inl (T1 0))), (ad 11, .inl (cI, 40, .inl (T1 1))), (ad 12, .inl (cI, 40, .inl (T1 2))), (ad 13, .inl (cI, 40, .inl (T1 3))), (ad 14, .inl (cI, 40, .inl (T1 4))), (ad 15, .inl (cI, 40, .inl (T1 5))), (ad 16, .inl (cI, 120, .inl (T1 6))), (ad 17, .inl (cI, 120, .inl (T1 7))), (ad 18, .inl (cI, 120, .inl (T1 8))), (kd, .inl (cI, 6, .inl (upd kf v (nI (bwO (r_34 >>> ((nI v) &&& 31)) 4))))), (pz, .inl (cZ, 6, .inl (upd pf v 1)))] _ := hP
        have hD : va_D A [(ob, .inr (5, [.ref (ad 1), .ref (cd 0), .ref (dd 0), .int 0])), (ad 1, .inr (3, [.ref (ad 10), .int (nI v), .long po1, .long oc1, .ref (ad 11), .ref (ad 12), .ref (ad 13), .ref (ad 14), .ref (ad 15), .int 0, .ref (ad 16), .ref (ad 17), .ref (ad 18)])), (ad 10, .inl (cI, 12, .inl (T1 0))), (ad 11, .inl (cI, 40, .inl (T1 1))), (ad 12, .inl (cI, 40, .inl (T1 2))), (ad 13, .inl (cI, 40, .inl (T1 3))), (ad 14, .inl (cI, 40, .inl (T1 4))), (ad 15, .inl (cI, 40, .inl (T1 5))), (ad 16, .inl (cI, 120, .inl (T1 6))), (ad 17, .inl (cI, 120, .inl (T1 7))), (ad 18, .inl (cI, 120, .inl (T1 8))), (kd, .inl (cI, 6, .inl (upd kf v (nI (bwO (r_34 >>> ((nI v) &&& 31)) 4))))), (pz, .inl (cZ, 6, .inl (upd pf v 1)))] := hD
        refine lv_aload_n hx hb dL_build_62 rfl (lv_at hl 1 rfl) ?_
        refine lv_aload_n hx hb dL_build_63 rfl (lv_at hl 4 rfl) ?_
        refine lv_iload hx hb dL_build_64 (lv_at hl 0 rfl) ?_
        refine va_iald hx hb hK hP 11 0 rfl rfl (vp_in_nI (n := v) (by omega) (by omega)) dL_build_66 ?_
        refine tI (v := nI (bwO (r_34 >>> ((nI v) &&& 31)) 4)) ((congrArg (upd kf v (nI (bwO (r_34 >>> ((nI v) &&& 31)) 4))) (nI_clamp (n := v) (by omega))).trans (upd_same _ _ _)) ?_
        refine lv_aload hx hb dL_build_67 (lv_at hl 5 rfl) ?_
        refine lv_iload hx hb dL_build_69 (lv_at hl 0 rfl) ?_
        refine va_zald hx hb hK hP 12 2 rfl rfl (vp_in_nI (n := v) (by omega) (by omega)) dL_build_71 ?_
        refine tI (v := 1) ((congrArg (upd pf v 1) (nI_clamp (n := v) (by omega))).trans (upd_same _ _ _)) ?_
        refine kc_i (wr := [(kd, .inl (cI, 6, .inl (upd kf v (nI (bwO (r_34 >>> ((nI v) &&& 31)) 4))))), (pz, .inl (cZ, 6, .inl (upd pf v 1)))]) (va_runV (As := [.int (nI (bwO (r_34 >>> ((nI v) &&& 31)) 4)), .int 1]) (rest := []) ⟨hx, hb, hml, hown, hts⟩ (k_variable l D cI cJ cZ cR v ad po1 oc1 T1 ob cd dd 0 (bwO (r_34 >>> ((nI v) &&& 31)) 4) true _ (by omega) (by first | omega | exact bwO_lt (by decide))) (cwV 2 hts (gV q_755 q_752 q_753 q_754 q_64) rfl rfl rfl (by decide +kernel) ⟨Nat.le_of_ble_eq_true rfl, Nat.le_of_ble_eq_true rfl⟩) ⟨Pw.blind, va_recv hK hP (ci := 5) (q0 := 0) rfl rfl, Pw.mk_call hP hK hD hS hA hG [0, 1, 2, 3, 4, 5, 6, 7, 8, 9, 10] rfl (by decide)⟩ rfl rfl hl.1 rfl (lv_room (Nat.le_of_ble_eq_true rfl)) dL_build_72 ⟨Nat.le_of_ble_eq_true rfl, Nat.le_of_ble_eq_true rfl⟩) hP hD hS hA [0, 1, 2, 3, 4, 5, 6, 7, 8, 9, 10] [11, 12] rfl rfl (by decide) (by decide) (fun r_46 u_47 H locs hw hP hD hS => ?_)
        obtain ⟨po2_48, oc2_49⟩ := u_47
        obtain ⟨hw, hf_r_46⟩ := hw
        obtain rfl : r_46 = nI v := hw
        have hP : va_P D vwCl [(kd, .inl (cI, 6, .inl (upd kf v (nI (bwO (r_34 >>> ((nI v) &&& 31)) 4))))), (pz, .inl (cZ, 6, .inl (upd pf v 1))), (ob, .inr (5, [.ref (ad 1), .ref (cd 0), .ref (dd 0), .int 0])), (ad 1, .inr (3, [.ref (ad 10), .int (nI (v + 1)), .long po2_48, .long oc2_49, .ref (ad 11), .ref (ad 12), .ref (ad 13), .ref (ad 14), .ref (ad 15), .int 0, .ref (ad 16), .ref (ad 17), .ref (ad 18)])), (ad 10, .inl (cI, 12, .inl (tV T1 v (nI (bwO (r_34 >>> ((nI v) &&& 31)) 4)) 0))), (ad 11, .inl (cI, 40, .inl (tV T1 v (nI (bwO (r_34 >>> ((nI v) &&& 31)) 4)) 1))), (ad 12, .inl (cI, 40, .inl (tV T1 v (nI (bwO (r_34 >>> ((nI v) &&& 31)) 4)) 2))), (ad 13, .inl (cI, 40, .inl (tV T1 v (nI (bwO (r_34 >>> ((nI v) &&& 31)) 4)) 3))), (ad 14, .inl (cI, 40, .inl (tV T1 v (nI (bwO (r_34 >>> ((nI v) &&& 31)) 4)) 4))), (ad 15, .inl (cI, 40, .inl (tV T1 v (nI (bwO (r_34 >>> ((nI v) &&& 31)) 4)) 5))), (ad 16, .inl (cI, 120, .inl (tV T1 v (nI (bwO (r_34 >>> ((nI v) &&& 31)) 4)) 6))), (ad 17, .inl (cI, 120, .inl (tV T1 v (nI (bwO (r_34 >>> ((nI v) &&& 31)) 4)) 7))), (ad 18, .inl (cI, 120, .inl (tV T1 v (nI (bwO (r_34 >>> ((nI v) &&& 31)) 4)) 8)))] _ := hP
        have hD : va_D A [(kd, .inl (cI, 6, .inl (upd kf v (nI (bwO (r_34 >>> ((nI v) &&& 31)) 4))))), (pz, .inl (cZ, 6, .inl (upd pf v 1))), (ob, .inr (5, [.ref (ad 1), .ref (cd 0), .ref (dd 0), .int 0])), (ad 1, .inr (3, [.ref (ad 10), .int (nI (v + 1)), .long po2_48, .long oc2_49, .ref (ad 11), .ref (ad 12), .ref (ad 13), .ref (ad 14), .ref (ad 15), .int 0, .ref (ad 16), .ref (ad 17), .ref (ad 18)])), (ad 10, .inl (cI, 12, .inl (tV T1 v (nI (bwO (r_34 >>> ((nI v) &&& 31)) 4)) 0))), (ad 11, .inl (cI, 40, .inl (tV T1 v (nI (bwO (r_34 >>> ((nI v) &&& 31)) 4)) 1))), (ad 12, .inl (cI, 40, .inl (tV T1 v (nI (bwO (r_34 >>> ((nI v) &&& 31)) 4)) 2))), (ad 13, .inl (cI, 40, .inl (tV T1 v (nI (bwO (r_34 >>> ((nI v) &&& 31)) 4)) 3))), (ad 14, .inl (cI, 40, .inl (tV T1 v (nI (bwO (r_34 >>> ((nI v) &&& 31)) 4)) 4))), (ad 15, .inl (cI, 40, .inl (tV T1 v (nI (bwO (r_34 >>> ((nI v) &&& 31)) 4)) 5))), (ad 16, .inl (cI, 120, .inl (tV T1 v (nI (bwO (r_34 >>> ((nI v) &&& 31)) 4)) 6))), (ad 17, .inl (cI, 120, .inl (tV T1 v (nI (bwO (r_34 >>> ((nI v) &&& 31)) 4)) 7))), (ad 18, .inl (cI, 120, .inl (tV T1 v (nI (bwO (r_34 >>> ((nI v) &&& 31)) 4)) 8)))] := hD
        refine lv_pop hx hb dL_build_75 rfl ?_
        refine lv_iinc (v := nI (v + 1)) (lv' := [(5, .int (nI (v + 1))), (0, .ref ob), (1, .ref sb), (2, .int (nI mm)), (3, .ref kd), (4, .ref pz)]) hx hb dL_build_76 hl (k := 0) rfl (nI_add v 1) (by decide) rfl (fun ls hl => ?_)
        refine lv_goto (tgt := 3) hx hb dL_build_79 (by decide) ?_
        have hP := hP.sub (ws' := [(ob, .inr (5, [.ref (ad 1), .ref (cd 0), .ref (dd 0), .int 0])), (ad 1, .inr (3, [.ref (ad 10), .int (nI (v + 1)), .long po2_48, .long oc2_49, .ref (ad 11), .ref (ad 12), .ref (ad 13), .ref (ad 14), .ref (ad 15), .int 0, .ref (ad 16), .ref (ad 17), .ref (ad 18)])), (ad 10, .inl (cI, 12, .inl (tV T1 v (nI (bwO (r_34 >>> ((nI v) &&& 31)) 4)) 0))), (ad 11, .inl (cI, 40, .inl (tV T1 v (nI (bwO (r_34 >>> ((nI v) &&& 31)) 4)) 1))), (ad 12, .inl (cI, 40, .inl (tV T1 v (nI (bwO (r_34 >>> ((nI v) &&& 31)) 4)) 2))), (ad 13, .inl (cI, 40, .inl (tV T1 v (nI (bwO (r_34 >>> ((nI v) &&& 31)) 4)) 3))), (ad 14, .inl (cI, 40, .inl (tV T1 v (nI (bwO (r_34 >>> ((nI v) &&& 31)) 4)) 4))), (ad 15, .inl (cI, 40, .inl (tV T1 v (nI (bwO (r_34 >>> ((nI v) &&& 31)) 4)) 5))), (ad 16, .inl (cI, 120, .inl (tV T1 v (nI (bwO (r_34 >>> ((nI v) &&& 31)) 4)) 6))), (ad 17, .inl (cI, 120, .inl (tV T1 v (nI (bwO (r_34 >>> ((nI v) &&& 31)) 4)) 7))), (ad 18, .inl (cI, 120, .inl (tV T1 v (nI (bwO (r_34 >>> ((nI v) &&& 31)) 4)) 8))), (kd, .inl (cI, 6, .inl (upd kf v (nI (bwO (r_34 >>> ((nI v) &&& 31)) 4))))), (pz, .inl (cZ, 6, .inl (upd pf v 1)))]) [2, 3, 4, 5, 6, 7, 8, 9, 10, 11, 12, 0, 1] rfl
        have hD := hD.sub (ws' := [(ob, .inr (5, [.ref (ad 1), .ref (cd 0), .ref (dd 0), .int 0])), (ad 1, .inr (3, [.ref (ad 10), .int (nI (v + 1)), .long po2_48, .long oc2_49, .ref (ad 11), .ref (ad 12), .ref (ad 13), .ref (ad 14), .ref (ad 15), .int 0, .ref (ad 16), .ref (ad 17), .ref (ad 18)])), (ad 10, .inl (cI, 12, .inl (tV T1 v (nI (bwO (r_34 >>> ((nI v) &&& 31)) 4)) 0))), (ad 11, .inl (cI, 40, .inl (tV T1 v (nI (bwO (r_34 >>> ((nI v) &&& 31)) 4)) 1))), (ad 12, .inl (cI, 40, .inl (tV T1 v (nI (bwO (r_34 >>> ((nI v) &&& 31)) 4)) 2))), (ad 13, .inl (cI, 40, .inl (tV T1 v (nI (bwO (r_34 >>> ((nI v) &&& 31)) 4)) 3))), (ad 14, .inl (cI, 40, .inl (tV T1 v (nI (bwO (r_34 >>> ((nI v) &&& 31)) 4)) 4))), (ad 15, .inl (cI, 40, .inl (tV T1 v (nI (bwO (r_34 >>> ((nI v) &&& 31)) 4)) 5))), (ad 16, .inl (cI, 120, .inl (tV T1 v (nI (bwO (r_34 >>> ((nI v) &&& 31)) 4)) 6))), (ad 17, .inl (cI, 120, .inl (tV T1 v (nI (bwO (r_34 >>> ((nI v) &&& 31)) 4)) 7))), (ad 18, .inl (cI, 120, .inl (tV T1 v (nI (bwO (r_34 >>> ((nI v) &&& 31)) 4)) 8))), (kd, .inl (cI, 6, .inl (upd kf v (nI (bwO (r_34 >>> ((nI v) &&& 31)) 4))))), (pz, .inl (cZ, 6, .inl (upd pf v 1)))]) [2, 3, 4, 5, 6, 7, 8, 9, 10, 11, 12, 0, 1] (by decide) rfl
        exact ih_3 (v + 1, tV T1 v (nI (bwO (r_34 >>> ((nI v) &&& 31)) 4)), upd kf v (nI (bwO (r_34 >>> ((nI v) &&& 31)) 4)), upd pf v 1, po2_48, oc2_49) _ _ _ (by show 6 - (v + 1) < 6 - v; omega) ⟨by show _ ≤ _; omega, BI_step hBI (by first | omega | exact bwO_lt (by decide)) hf_r_46, lv_sub hl [0, 1, 2, 3, 4, 5] rfl, hP, hD, hS⟩
    · skip
      have c_16 : v < 4 := Nat.lt_of_not_le (fun h9 => c_16 ((nI_leI (a := 4) (b := v) (by omega) (by omega)).mpr h9))
      refine lv_iload hx hb dL_build_19 (lv_at hl 0 rfl) ?_
      refine lv_goto (tgt := 36) hx hb dL_build_21 (by decide) ?_
      refine va_iast hx hb hK hP hD hS 11 0 rfl rfl (vp_in_nI (n := v) (by omega) (by omega)) dL_build_36 (fun H locs hP hD hS => ?_)
      rw [nI_clamp (n := v) (by omega)] at hP hD
      have hP : va_P D vwCl [(ob, .inr (5, [.ref (ad 1), .ref (cd 0), .ref (dd 0), .int 0])), (ad 1, .inr (3, [.ref (ad 10), .int (nI v), .long po1, .long oc1, .ref (ad 11), .ref (ad 12), .ref (ad 13), .ref (ad 14), .ref (ad 15), .int 0, .ref (ad 16), .ref (ad 17), .ref (ad 18)])), (ad 10, .inl (cI, 12, .inl (T1 0))), (ad 11, .inl (cI, 40, .inl (T1 1))), (ad 12, .inl (cI, 40, .inl (T1 2))), (ad 13, .inl (cI, 40, .inl (T1 3))), (ad 14, .inl (cI, 40, .inl (T1 4))), (ad 15, .inl (cI, 40, .inl (T1 5))), (ad 16, .inl (cI, 120, .inl (T1 6))), (ad 17, .inl (cI, 120, .inl (T1 7))), (ad 18, .inl (cI, 120, .inl (T1 8))), (kd, .inl (cI, 6, .inl (upd kf v (nI v)))), (pz, .inl (cZ, 6, .inl pf))] _ := hP
      have hD : va_D A [(ob, .inr (5, [.ref (ad 1), .ref (cd 0), .ref (dd 0), .int 0])), (ad 1, .inr (3, [.ref (ad 10), .int (nI v), .long po1, .long oc1, .ref (ad 11), .ref (ad 12), .ref (ad 13), .ref (ad 14), .ref (ad 15), .int 0, .ref (ad 16), .ref (ad 17), .ref (ad 18)])), (ad 10, .inl (cI, 12, .inl (T1 0))), (ad 11, .inl (cI, 40, .inl (T1 1))), (ad 12, .inl (cI, 40, .inl (T1 2))), (ad 13, .inl (cI, 40, .inl (T1 3))), (ad 14, .inl (cI, 40, .inl (T1 4))), (ad 15, .inl (cI, 40, .inl (T1 5))), (ad 16, .inl (cI, 120, .inl (T1 6))), (ad 17, .inl (cI, 120, .inl (T1 7))), (ad 18, .inl (cI, 120, .inl (T1 8))), (kd, .inl (cI, 6, .inl (upd kf v (nI v)))), (pz, .inl (cZ, 6, .inl pf))] := hD
      refine lv_aload hx hb dL_build_37 (lv_at hl 5 rfl) ?_
      refine lv_iload hx hb dL_build_39 (lv_at hl 0 rfl) ?_
      refine lv_aload_n hx hb dL_build_41 rfl (lv_at hl 2 rfl) ?_
      refine lv_iconst (v := 1) hx hb dL_build_42 (by decide) ?_
      refine kc_i (wr := [(ob, .inr (5, [.ref (ad 1), .ref (cd 0), .ref (dd 0), .int 0])), (ad 1, .inr (3, [.ref (ad 10), .int (nI v), .long po1, .long oc1, .ref (ad 11), .ref (ad 12), .ref (ad 13), .ref (ad 14), .ref (ad 15), .int 0, .ref (ad 16), .ref (ad 17), .ref (ad 18)])), (ad 10, .inl (cI, 12, .inl (T1 0))), (ad 11, .inl (cI, 40, .inl (T1 1))), (ad 12, .inl (cI, 40, .inl (T1 2))), (ad 13, .inl (cI, 40, .inl (T1 3))), (ad 14, .inl (cI, 40, .inl (T1 4))), (ad 15, .inl (cI, 40, .inl (T1 5))), (ad 16, .inl (cI, 120, .inl (T1 6))), (ad 17, .inl (cI, 120, .inl (T1 7))), (ad 18, .inl (cI, 120, .inl (T1 8))), (kd, .inl (cI, 6, .inl (upd kf v (nI v)))), (pz, .inl (cZ, 6, .inl pf))]) (va_runS (As := [.ref sb, .int 1]) (rest := [.int (nI v), .ref pz]) ⟨hx, hb, hml, hown, hts⟩ (k_cell l D cI cJ cZ cR sb sL sx 1 _ (by omega) hL) (cwS 2 hts (gS q_747 q_745 q_746 q_63) rfl rfl rfl (by decide +kernel) ⟨Nat.le_of_ble_eq_true rfl, Nat.le_of_ble_eq_true rfl⟩) ⟨Pw2.blind, Pw2.mk_call hP hK hD hS hA hG hX hAO [] rfl (by decide)⟩ rfl rfl hl.1 rfl (lv_room (Nat.le_of_ble_eq_true rfl)) dL_build_43 ⟨Nat.le_of_ble_eq_true rfl, Nat.le_of_ble_eq_true rfl⟩) hP hD hS hA [] [0, 1, 2, 3, 4, 5, 6, 7, 8, 9, 10, 11, 12] rfl rfl (by decide) (by decide) (fun r_50 u_51 H locs hw hP hD hS => ?_)
      have hw_r_50 := hw
      have hP : va_P D vwCl [(ob, .inr (5, [.ref (ad 1), .ref (cd 0), .ref (dd 0), .int 0])), (ad 1, .inr (3, [.ref (ad 10), .int (nI v), .long po1, .long oc1, .ref (ad 11), .ref (ad 12), .ref (ad 13), .ref (ad 14), .ref (ad 15), .int 0, .ref (ad 16), .ref (ad 17), .ref (ad 18)])), (ad 10, .inl (cI, 12, .inl (T1 0))), (ad 11, .inl (cI, 40, .inl (T1 1))), (ad 12, .inl (cI, 40, .inl (T1 2))), (ad 13, .inl (cI, 40, .inl (T1 3))), (ad 14, .inl (cI, 40, .inl (T1 4))), (ad 15, .inl (cI, 40, .inl (T1 5))), (ad 16, .inl (cI, 120, .inl (T1 6))), (ad 17, .inl (cI, 120, .inl (T1 7))), (ad 18, .inl (cI, 120, .inl (T1 8))), (kd, .inl (cI, 6, .inl (upd kf v (nI v)))), (pz, .inl (cZ, 6, .inl pf))] _ := hP
      have hD : va_D A [(ob, .inr (5, [.ref (ad 1), .ref (cd 0), .ref (dd 0), .int 0])), (ad 1, .inr (3, [.ref (ad 10), .int (nI v), .long po1, .long oc1, .ref (ad 11), .ref (ad 12), .ref (ad 13), .ref (ad 14), .ref (ad 15), .int 0, .ref (ad 16), .ref (ad 17), .ref (ad 18)])), (ad 10, .inl (cI, 12, .inl (T1 0))), (ad 11, .inl (cI, 40, .inl (T1 1))), (ad 12, .inl (cI, 40, .inl (T1 2))), (ad 13, .inl (cI, 40, .inl (T1 3))), (ad 14, .inl (cI, 40, .inl (T1 4))), (ad 15, .inl (cI, 40, .inl (T1 5))), (ad 16, .inl (cI, 120, .inl (T1 6))), (ad 17, .inl (cI, 120, .inl (T1 7))), (ad 18, .inl (cI, 120, .inl (T1 8))), (kd, .inl (cI, 6, .inl (upd kf v (nI v)))), (pz, .inl (cZ, 6, .inl pf))] := hD
      refine lv_iload hx hb dL_build_46 (lv_at hl 0 rfl) ?_
      refine lv_ishr hx hb dL_build_48 ?_
      refine lv_iconst (v := 2) hx hb dL_build_49 (by decide) ?_
      refine kc_i (wr := [(ob, .inr (5, [.ref (ad 1), .ref (cd 0), .ref (dd 0), .int 0])), (ad 1, .inr (3, [.ref (ad 10), .int (nI v), .long po1, .long oc1, .ref (ad 11), .ref (ad 12), .ref (ad 13), .ref (ad 14), .ref (ad 15), .int 0, .ref (ad 16), .ref (ad 17), .ref (ad 18)])), (ad 10, .inl (cI, 12, .inl (T1 0))), (ad 11, .inl (cI, 40, .inl (T1 1))), (ad 12, .inl (cI, 40, .inl (T1 2))), (ad 13, .inl (cI, 40, .inl (T1 3))), (ad 14, .inl (cI, 40, .inl (T1 4))), (ad 15, .inl (cI, 40, .inl (T1 5))), (ad 16, .inl (cI, 120, .inl (T1 6))), (ad 17, .inl (cI, 120, .inl (T1 7))), (ad 18, .inl (cI, 120, .inl (T1 8))), (kd, .inl (cI, 6, .inl (upd kf v (nI v)))), (pz, .inl (cZ, 6, .inl pf))]) (va_runS (As := [.int (r_50 >>> ((nI v) &&& 31)), .int 2]) (rest := [.int (nI v), .ref pz]) ⟨hx, hb, hml, hown, hts⟩ (k_below l D cI cJ cZ cR (r_50 >>> ((nI v) &&& 31)) 2 _ (by decide) (by decide)) (cwS 2 hts (gS q_743 q_741 q_742 q_63) rfl rfl rfl (by decide +kernel) ⟨Nat.le_of_ble_eq_true rfl, Nat.le_of_ble_eq_true rfl⟩) ⟨Pw.blind, Pw.mk_call hP hK hD hS hA hG [] rfl (by decide)⟩ rfl rfl hl.1 rfl (lv_room (Nat.le_of_ble_eq_true rfl)) dL_build_50 ⟨Nat.le_of_ble_eq_true rfl, Nat.le_of_ble_eq_true rfl⟩) hP hD hS hA [] [0, 1, 2, 3, 4, 5, 6, 7, 8, 9, 10, 11, 12] rfl rfl (by decide) (by decide) (fun r_52 u_53 H locs hw hP hD hS => ?_)
      obtain rfl : r_52 = nI (bwO (r_50 >>> ((nI v) &&& 31)) 2) := hw
      have hP : va_P D vwCl [(ob, .inr (5, [.ref (ad 1), .ref (cd 0), .ref (dd 0), .int 0])), (ad 1, .inr (3, [.ref (ad 10), .int (nI v), .long po1, .long oc1, .ref (ad 11), .ref (ad 12), .ref (ad 13), .ref (ad 14), .ref (ad 15), .int 0, .ref (ad 16), .ref (ad 17), .ref (ad 18)])), (ad 10, .inl (cI, 12, .inl (T1 0))), (ad 11, .inl (cI, 40, .inl (T1 1))), (ad 12, .inl (cI, 40, .inl (T1 2))), (ad 13, .inl (cI, 40, .inl (T1 3))), (ad 14, .inl (cI, 40, .inl (T1 4))), (ad 15, .inl (cI, 40, .inl (T1 5))), (ad 16, .inl (cI, 120, .inl (T1 6))), (ad 17, .inl (cI, 120, .inl (T1 7))), (ad 18, .inl (cI, 120, .inl (T1 8))), (kd, .inl (cI, 6, .inl (upd kf v (nI v)))), (pz, .inl (cZ, 6, .inl pf))] _ := hP
      have hD : va_D A [(ob, .inr (5, [.ref (ad 1), .ref (cd 0), .ref (dd 0), .int 0])), (ad 1, .inr (3, [.ref (ad 10), .int (nI v), .long po1, .long oc1, .ref (ad 11), .ref (ad 12), .ref (ad 13), .ref (ad 14), .ref (ad 15), .int 0, .ref (ad 16), .ref (ad 17), .ref (ad 18)])), (ad 10, .inl (cI, 12, .inl (T1 0))), (ad 11, .inl (cI, 40, .inl (T1 1))), (ad 12, .inl (cI, 40, .inl (T1 2))), (ad 13, .inl (cI, 40, .inl (T1 3))), (ad 14, .inl (cI, 40, .inl (T1 4))), (ad 15, .inl (cI, 40, .inl (T1 5))), (ad 16, .inl (cI, 120, .inl (T1 6))), (ad 17, .inl (cI, 120, .inl (T1 7))), (ad 18, .inl (cI, 120, .inl (T1 8))), (kd, .inl (cI, 6, .inl (upd kf v (nI v)))), (pz, .inl (cZ, 6, .inl pf))] := hD
      refine lv_topi (fun y53 ey53 => ?_)
      refine lv_if_ne (tgt := 60) hx hb dL_build_53 (by decide) (fun c_53 => ?_) (fun c_53 => ?_)
      · skip
        refine lv_iconst (v := 0) hx hb dL_build_60 (by decide) ?_
        refine va_zast hx hb hK hP hD hS 12 2 rfl rfl (vp_in_nI (n := v) (by omega) (by omega)) dL_build_61 (fun H locs hP hD hS => ?_)
        rw [nI_clamp (n := v) (by omega), show vp_nar .boolean 0 = 0 by decide] at hP hD
        have hP : va_P D vwCl [(ob, .inr (5, [.ref (ad 1), .ref (cd 0), .ref (dd 0), .int 0])), (ad 1, .inr (3, [.ref (ad 10), .int (nI v), .long po1, .long oc1, .ref (ad 11), .ref (ad 12), .ref (ad 13), .ref (ad 14), .ref (ad 15), .int 0, .ref (ad 16), .ref (ad 17), .ref (ad 18)])), (ad 10, .inl (cI, 12, .inl (T1 0))), (ad 11, .inl (cI, 40, .inl (T1 1))), (ad 12, .inl (cI, 40, .inl (T1 2))), (ad 13, .inl (cI, 40, .inl (T1 3))), (ad 14, .inl (cI, 40, .inl (T1 4))), (ad 15, .inl (cI, 40, .inl (T1 5))), (ad 16, .inl (cI, 120, .inl (T1 6))), (ad 17, .inl (cI, 120, .inl (T1 7))), (ad 18, .inl (cI, 120, .inl (T1 8))), (kd, .inl (cI, 6, .inl (upd kf v (nI v)))), (pz, .inl (cZ, 6, .inl (upd pf v 0)))] _ := hP
        have hD : va_D A [(ob, .inr (5, [.ref (ad 1), .ref (cd 0), .ref (dd 0), .int 0])), (ad 1, .inr (3, [.ref (ad 10), .int (nI v), .long po1, .long oc1, .ref (ad 11), .ref (ad 12), .ref (ad 13), .ref (ad 14), .ref (ad 15), .int 0, .ref (ad 16), .ref (ad 17), .ref (ad 18)])), (ad 10, .inl (cI, 12, .inl (T1 0))), (ad 11, .inl (cI, 40, .inl (T1 1))), (ad 12, .inl (cI, 40, .inl (T1 2))), (ad 13, .inl (cI, 40, .inl (T1 3))), (ad 14, .inl (cI, 40, .inl (T1 4))), (ad 15, .inl (cI, 40, .inl (T1 5))), (ad 16, .inl (cI, 120, .inl (T1 6))), (ad 17, .inl (cI, 120, .inl (T1 7))), (ad 18, .inl (cI, 120, .inl (T1 8))), (kd, .inl (cI, 6, .inl (upd kf v (nI v)))), (pz, .inl (cZ, 6, .inl (upd pf v 0)))] := hD
        refine lv_aload_n hx hb dL_build_62 rfl (lv_at hl 1 rfl) ?_
        refine lv_aload_n hx hb dL_build_63 rfl (lv_at hl 4 rfl) ?_
        refine lv_iload hx hb dL_build_64 (lv_at hl 0 rfl) ?_
        refine va_iald hx hb hK hP 11 0 rfl rfl (vp_in_nI (n := v) (by omega) (by omega)) dL_build_66 ?_
        refine tI (v := nI v) ((congrArg (upd kf v (nI v)) (nI_clamp (n := v) (by omega))).trans (upd_same _ _ _)) ?_
        refine lv_aload hx hb dL_build_67 (lv_at hl 5 rfl) ?_
        refine lv_iload hx hb dL_build_69 (lv_at hl 0 rfl) ?_
        refine va_zald hx hb hK hP 12 2 rfl rfl (vp_in_nI (n := v) (by omega) (by omega)) dL_build_71 ?_
        refine tI (v := 0) ((congrArg (upd pf v 0) (nI_clamp (n := v) (by omega))).trans (upd_same _ _ _)) ?_
        refine kc_i (wr := [(kd, .inl (cI, 6, .inl (upd kf v (nI v)))), (pz, .inl (cZ, 6, .inl (upd pf v 0)))]) (va_runV (As := [.int (nI v), .int 0]) (rest := []) ⟨hx, hb, hml, hown, hts⟩ (k_variable l D cI cJ cZ cR v ad po1 oc1 T1 ob cd dd 0 v false _ (by omega) (by first | omega | exact bwO_lt (by decide))) (cwV 2 hts (gV q_755 q_752 q_753 q_754 q_64) rfl rfl rfl (by decide +kernel) ⟨Nat.le_of_ble_eq_true rfl, Nat.le_of_ble_eq_true rfl⟩) ⟨Pw.blind, va_recv hK hP (ci := 5) (q0 := 0) rfl rfl, Pw.mk_call hP hK hD hS hA hG [0, 1, 2, 3, 4, 5, 6, 7, 8, 9, 10] rfl (by decide)⟩ rfl rfl hl.1 rfl (lv_room (Nat.le_of_ble_eq_true rfl)) dL_build_72 ⟨Nat.le_of_ble_eq_true rfl, Nat.le_of_ble_eq_true rfl⟩) hP hD hS hA [0, 1, 2, 3, 4, 5, 6, 7, 8, 9, 10] [11, 12] rfl rfl (by decide) (by decide) (fun r_54 u_55 H locs hw hP hD hS => ?_)
        obtain ⟨po2_56, oc2_57⟩ := u_55
        obtain ⟨hw, hf_r_54⟩ := hw
        obtain rfl : r_54 = nI v := hw
        have hP : va_P D vwCl [(kd, .inl (cI, 6, .inl (upd kf v (nI v)))), (pz, .inl (cZ, 6, .inl (upd pf v 0))), (ob, .inr (5, [.ref (ad 1), .ref (cd 0), .ref (dd 0), .int 0])), (ad 1, .inr (3, [.ref (ad 10), .int (nI (v + 1)), .long po2_56, .long oc2_57, .ref (ad 11), .ref (ad 12), .ref (ad 13), .ref (ad 14), .ref (ad 15), .int 0, .ref (ad 16), .ref (ad 17), .ref (ad 18)])), (ad 10, .inl (cI, 12, .inl (tV T1 v (nI v) 0))), (ad 11, .inl (cI, 40, .inl (tV T1 v (nI v) 1))), (ad 12, .inl (cI, 40, .inl (tV T1 v (nI v) 2))), (ad 13, .inl (cI, 40, .inl (tV T1 v (nI v) 3))), (ad 14, .inl (cI, 40, .inl (tV T1 v (nI v) 4))), (ad 15, .inl (cI, 40, .inl (tV T1 v (nI v) 5))), (ad 16, .inl (cI, 120, .inl (tV T1 v (nI v) 6))), (ad 17, .inl (cI, 120, .inl (tV T1 v (nI v) 7))), (ad 18, .inl (cI, 120, .inl (tV T1 v (nI v) 8)))] _ := hP
        have hD : va_D A [(kd, .inl (cI, 6, .inl (upd kf v (nI v)))), (pz, .inl (cZ, 6, .inl (upd pf v 0))), (ob, .inr (5, [.ref (ad 1), .ref (cd 0), .ref (dd 0), .int 0])), (ad 1, .inr (3, [.ref (ad 10), .int (nI (v + 1)), .long po2_56, .long oc2_57, .ref (ad 11), .ref (ad 12), .ref (ad 13), .ref (ad 14), .ref (ad 15), .int 0, .ref (ad 16), .ref (ad 17), .ref (ad 18)])), (ad 10, .inl (cI, 12, .inl (tV T1 v (nI v) 0))), (ad 11, .inl (cI, 40, .inl (tV T1 v (nI v) 1))), (ad 12, .inl (cI, 40, .inl (tV T1 v (nI v) 2))), (ad 13, .inl (cI, 40, .inl (tV T1 v (nI v) 3))), (ad 14, .inl (cI, 40, .inl (tV T1 v (nI v) 4))), (ad 15, .inl (cI, 40, .inl (tV T1 v (nI v) 5))), (ad 16, .inl (cI, 120, .inl (tV T1 v (nI v) 6))), (ad 17, .inl (cI, 120, .inl (tV T1 v (nI v) 7))), (ad 18, .inl (cI, 120, .inl (tV T1 v (nI v) 8)))] := hD
        refine lv_pop hx hb dL_build_75 rfl ?_
        refine lv_iinc (v := nI (v + 1)) (lv' := [(5, .int (nI (v + 1))), (0, .ref ob), (1, .ref sb), (2, .int (nI mm)), (3, .ref kd), (4, .ref pz)]) hx hb dL_build_76 hl (k := 0) rfl (nI_add v 1) (by decide) rfl (fun ls hl => ?_)
        refine lv_goto (tgt := 3) hx hb dL_build_79 (by decide) ?_
        have hP := hP.sub (ws' := [(ob, .inr (5, [.ref (ad 1), .ref (cd 0), .ref (dd 0), .int 0])), (ad 1, .inr (3, [.ref (ad 10), .int (nI (v + 1)), .long po2_56, .long oc2_57, .ref (ad 11), .ref (ad 12), .ref (ad 13), .ref (ad 14), .ref (ad 15), .int 0, .ref (ad 16), .ref (ad 17), .ref (ad 18)])), (ad 10, .inl (cI, 12, .inl (tV T1 v (nI v) 0))), (ad 11, .inl (cI, 40, .inl (tV T1 v (nI v) 1))), (ad 12, .inl (cI, 40, .inl (tV T1 v (nI v) 2))), (ad 13, .inl (cI, 40, .inl (tV T1 v (nI v) 3))), (ad 14, .inl (cI, 40, .inl (tV T1 v (nI v) 4))), (ad 15, .inl (cI, 40, .inl (tV T1 v (nI v) 5))), (ad 16, .inl (cI, 120, .inl (tV T1 v (nI v) 6))), (ad 17, .inl (cI, 120, .inl (tV T1 v (nI v) 7))), (ad 18, .inl (cI, 120, .inl (tV T1 v (nI v) 8))), (kd, .inl (cI, 6, .inl (upd kf v (nI v)))), (pz, .inl (cZ, 6, .inl (upd pf v 0)))]) [2, 3, 4, 5, 6, 7, 8, 9, 10, 11, 12, 0, 1] rfl
        have hD := hD.sub (ws' := [(ob, .inr (5, [.ref (ad 1), .ref (cd 0), .ref (dd 0), .int 0])), (ad 1, .inr (3, [.ref (ad 10), .int (nI (v + 1)), .long po2_56, .long oc2_57, .ref (ad 11), .ref (ad 12), .ref (ad 13), .ref (ad 14), .ref (ad 15), .int 0, .ref (ad 16), .ref (ad 17), .ref (ad 18)])), (ad 10, .inl (cI, 12, .inl (tV T1 v (nI v) 0))), (ad 11, .inl (cI, 40, .inl (tV T1 v (nI v) 1))), (ad 12, .inl (cI, 40, .inl (tV T1 v (nI v) 2))), (ad 13, .inl (cI, 40, .inl (tV T1 v (nI v) 3))), (ad 14, .inl (cI, 40, .inl (tV T1 v (nI v) 4))), (ad 15, .inl (cI, 40, .inl (tV T1 v (nI v) 5))), (ad 16, .inl (cI, 120, .inl (tV T1 v (nI v) 6))), (ad 17, .inl (cI, 120, .inl (tV T1 v (nI v) 7))), (ad 18, .inl (cI, 120, .inl (tV T1 v (nI v) 8))), (kd, .inl (cI, 6, .inl (upd kf v (nI v)))), (pz, .inl (cZ, 6, .inl (upd pf v 0)))]) [2, 3, 4, 5, 6, 7, 8, 9, 10, 11, 12, 0, 1] (by decide) rfl
        exact ih_3 (v + 1, tV T1 v (nI v), upd kf v (nI v), upd pf v 0, po2_56, oc2_57) _ _ _ (by show 6 - (v + 1) < 6 - v; omega) ⟨by show _ ≤ _; omega, BI_step hBI (by first | omega | exact bwO_lt (by decide)) hf_r_54, lv_sub hl [0, 1, 2, 3, 4, 5] rfl, hP, hD, hS⟩
      · skip
        refine lv_iconst (v := 1) hx hb dL_build_56 (by decide) ?_
        refine lv_goto (tgt := 61) hx hb dL_build_57 (by decide) ?_
        refine va_zast hx hb hK hP hD hS 12 2 rfl rfl (vp_in_nI (n := v) (by omega) (by omega)) dL_build_61 (fun H locs hP hD hS => ?_)
        rw [nI_clamp (n := v) (by omega), show vp_nar .boolean 1 = 1 by decide] at hP hD
        have hP : va_P D vwCl [(ob, .inr (5, [.ref (ad 1), .ref (cd 0), .ref (dd 0), .int 0])), (ad 1, .inr (3, [.ref (ad 10), .int (nI v), .long po1, .long oc1, .ref (ad 11), .ref (ad 12), .ref (ad 13), .ref (ad 14), .ref (ad 15), .int 0, .ref (ad 16), .ref (ad 17), .ref (ad 18)])), (ad 10, .inl (cI, 12, .inl (T1 0))), (ad 11, .inl (cI, 40, .inl (T1 1))), (ad 12, .inl (cI, 40, .inl (T1 2))), (ad 13, .inl (cI, 40, .inl (T1 3))), (ad 14, .inl (cI, 40, .inl (T1 4))), (ad 15, .inl (cI, 40, .inl (T1 5))), (ad 16, .inl (cI, 120, .inl (T1 6))), (ad 17, .inl (cI, 120, .inl (T1 7))), (ad 18, .inl (cI, 120, .inl (T1 8))), (kd, .inl (cI, 6, .inl (upd kf v (nI v)))), (pz, .inl (cZ, 6, .inl (upd pf v 1)))] _ := hP
        have hD : va_D A [(ob, .inr (5, [.ref (ad 1), .ref (cd 0), .ref (dd 0), .int 0])), (ad 1, .inr (3, [.ref (ad 10), .int (nI v), .long po1, .long oc1, .ref (ad 11), .ref (ad 12), .ref (ad 13), .ref (ad 14), .ref (ad 15), .int 0, .ref (ad 16), .ref (ad 17), .ref (ad 18)])), (ad 10, .inl (cI, 12, .inl (T1 0))), (ad 11, .inl (cI, 40, .inl (T1 1))), (ad 12, .inl (cI, 40, .inl (T1 2))), (ad 13, .inl (cI, 40, .inl (T1 3))), (ad 14, .inl (cI, 40, .inl (T1 4))), (ad 15, .inl (cI, 40, .inl (T1 5))), (ad 16, .inl (cI, 120, .inl (T1 6))), (ad 17, .inl (cI, 120, .inl (T1 7))), (ad 18, .inl (cI, 120, .inl (T1 8))), (kd, .inl (cI, 6, .inl (upd kf v (nI v)))), (pz, .inl (cZ, 6, .inl (upd pf v 1)))] := hD
        refine lv_aload_n hx hb dL_build_62 rfl (lv_at hl 1 rfl) ?_
        refine lv_aload_n hx hb dL_build_63 rfl (lv_at hl 4 rfl) ?_
        refine lv_iload hx hb dL_build_64 (lv_at hl 0 rfl) ?_
        refine va_iald hx hb hK hP 11 0 rfl rfl (vp_in_nI (n := v) (by omega) (by omega)) dL_build_66 ?_
        refine tI (v := nI v) ((congrArg (upd kf v (nI v)) (nI_clamp (n := v) (by omega))).trans (upd_same _ _ _)) ?_
        refine lv_aload hx hb dL_build_67 (lv_at hl 5 rfl) ?_
        refine lv_iload hx hb dL_build_69 (lv_at hl 0 rfl) ?_
        refine va_zald hx hb hK hP 12 2 rfl rfl (vp_in_nI (n := v) (by omega) (by omega)) dL_build_71 ?_
        refine tI (v := 1) ((congrArg (upd pf v 1) (nI_clamp (n := v) (by omega))).trans (upd_same _ _ _)) ?_
        refine kc_i (wr := [(kd, .inl (cI, 6, .inl (upd kf v (nI v)))), (pz, .inl (cZ, 6, .inl (upd pf v 1)))]) (va_runV (As := [.int (nI v), .int 1]) (rest := []) ⟨hx, hb, hml, hown, hts⟩ (k_variable l D cI cJ cZ cR v ad po1 oc1 T1 ob cd dd 0 v true _ (by omega) (by first | omega | exact bwO_lt (by decide))) (cwV 2 hts (gV q_755 q_752 q_753 q_754 q_64) rfl rfl rfl (by decide +kernel) ⟨Nat.le_of_ble_eq_true rfl, Nat.le_of_ble_eq_true rfl⟩) ⟨Pw.blind, va_recv hK hP (ci := 5) (q0 := 0) rfl rfl, Pw.mk_call hP hK hD hS hA hG [0, 1, 2, 3, 4, 5, 6, 7, 8, 9, 10] rfl (by decide)⟩ rfl rfl hl.1 rfl (lv_room (Nat.le_of_ble_eq_true rfl)) dL_build_72 ⟨Nat.le_of_ble_eq_true rfl, Nat.le_of_ble_eq_true rfl⟩) hP hD hS hA [0, 1, 2, 3, 4, 5, 6, 7, 8, 9, 10] [11, 12] rfl rfl (by decide) (by decide) (fun r_58 u_59 H locs hw hP hD hS => ?_)
        obtain ⟨po2_60, oc2_61⟩ := u_59
        obtain ⟨hw, hf_r_58⟩ := hw
        obtain rfl : r_58 = nI v := hw
        have hP : va_P D vwCl [(kd, .inl (cI, 6, .inl (upd kf v (nI v)))), (pz, .inl (cZ, 6, .inl (upd pf v 1))), (ob, .inr (5, [.ref (ad 1), .ref (cd 0), .ref (dd 0), .int 0])), (ad 1, .inr (3, [.ref (ad 10), .int (nI (v + 1)), .long po2_60, .long oc2_61, .ref (ad 11), .ref (ad 12), .ref (ad 13), .ref (ad 14), .ref (ad 15), .int 0, .ref (ad 16), .ref (ad 17), .ref (ad 18)])), (ad 10, .inl (cI, 12, .inl (tV T1 v (nI v) 0))), (ad 11, .inl (cI, 40, .inl (tV T1 v (nI v) 1))), (ad 12, .inl (cI, 40, .inl (tV T1 v (nI v) 2))), (ad 13, .inl (cI, 40, .inl (tV T1 v (nI v) 3))), (ad 14, .inl (cI, 40, .inl (tV T1 v (nI v) 4))), (ad 15, .inl (cI, 40, .inl (tV T1 v (nI v) 5))), (ad 16, .inl (cI, 120, .inl (tV T1 v (nI v) 6))), (ad 17, .inl (cI, 120, .inl (tV T1 v (nI v) 7))), (ad 18, .inl (cI, 120, .inl (tV T1 v (nI v) 8)))] _ := hP
        have hD : va_D A [(kd, .inl (cI, 6, .inl (upd kf v (nI v)))), (pz, .inl (cZ, 6, .inl (upd pf v 1))), (ob, .inr (5, [.ref (ad 1), .ref (cd 0), .ref (dd 0), .int 0])), (ad 1, .inr (3, [.ref (ad 10), .int (nI (v + 1)), .long po2_60, .long oc2_61, .ref (ad 11), .ref (ad 12), .ref (ad 13), .ref (ad 14), .ref (ad 15), .int 0, .ref (ad 16), .ref (ad 17), .ref (ad 18)])), (ad 10, .inl (cI, 12, .inl (tV T1 v (nI v) 0))), (ad 11, .inl (cI, 40, .inl (tV T1 v (nI v) 1))), (ad 12, .inl (cI, 40, .inl (tV T1 v (nI v) 2))), (ad 13, .inl (cI, 40, .inl (tV T1 v (nI v) 3))), (ad 14, .inl (cI, 40, .inl (tV T1 v (nI v) 4))), (ad 15, .inl (cI, 40, .inl (tV T1 v (nI v) 5))), (ad 16, .inl (cI, 120, .inl (tV T1 v (nI v) 6))), (ad 17, .inl (cI, 120, .inl (tV T1 v (nI v) 7))), (ad 18, .inl (cI, 120, .inl (tV T1 v (nI v) 8)))] := hD
        refine lv_pop hx hb dL_build_75 rfl ?_
        refine lv_iinc (v := nI (v + 1)) (lv' := [(5, .int (nI (v + 1))), (0, .ref ob), (1, .ref sb), (2, .int (nI mm)), (3, .ref kd), (4, .ref pz)]) hx hb dL_build_76 hl (k := 0) rfl (nI_add v 1) (by decide) rfl (fun ls hl => ?_)
        refine lv_goto (tgt := 3) hx hb dL_build_79 (by decide) ?_
        have hP := hP.sub (ws' := [(ob, .inr (5, [.ref (ad 1), .ref (cd 0), .ref (dd 0), .int 0])), (ad 1, .inr (3, [.ref (ad 10), .int (nI (v + 1)), .long po2_60, .long oc2_61, .ref (ad 11), .ref (ad 12), .ref (ad 13), .ref (ad 14), .ref (ad 15), .int 0, .ref (ad 16), .ref (ad 17), .ref (ad 18)])), (ad 10, .inl (cI, 12, .inl (tV T1 v (nI v) 0))), (ad 11, .inl (cI, 40, .inl (tV T1 v (nI v) 1))), (ad 12, .inl (cI, 40, .inl (tV T1 v (nI v) 2))), (ad 13, .inl (cI, 40, .inl (tV T1 v (nI v) 3))), (ad 14, .inl (cI, 40, .inl (tV T1 v (nI v) 4))), (ad 15, .inl (cI, 40, .inl (tV T1 v (nI v) 5))), (ad 16, .inl (cI, 120, .inl (tV T1 v (nI v) 6))), (ad 17, .inl (cI, 120, .inl (tV T1 v (nI v) 7))), (ad 18, .inl (cI, 120, .inl (tV T1 v (nI v) 8))), (kd, .inl (cI, 6, .inl (upd kf v (nI v)))), (pz, .inl (cZ, 6, .inl (upd pf v 1)))]) [2, 3, 4, 5, 6, 7, 8, 9, 10, 11, 12, 0, 1] rfl
        have hD := hD.sub (ws' := [(ob, .inr (5, [.ref (ad 1), .ref (cd 0), .ref (dd 0), .int 0])), (ad 1, .inr (3, [.ref (ad 10), .int (nI (v + 1)), .long po2_60, .long oc2_61, .ref (ad 11), .ref (ad 12), .ref (ad 13), .ref (ad 14), .ref (ad 15), .int 0, .ref (ad 16), .ref (ad 17), .ref (ad 18)])), (ad 10, .inl (cI, 12, .inl (tV T1 v (nI v) 0))), (ad 11, .inl (cI, 40, .inl (tV T1 v (nI v) 1))), (ad 12, .inl (cI, 40, .inl (tV T1 v (nI v) 2))), (ad 13, .inl (cI, 40, .inl (tV T1 v (nI v) 3))), (ad 14, .inl (cI, 40, .inl (tV T1 v (nI v) 4))), (ad 15, .inl (cI, 40, .inl (tV T1 v (nI v) 5))), (ad 16, .inl (cI, 120, .inl (tV T1 v (nI v) 6))), (ad 17, .inl (cI, 120, .inl (tV T1 v (nI v) 7))), (ad 18, .inl (cI, 120, .inl (tV T1 v (nI v) 8))), (kd, .inl (cI, 6, .inl (upd kf v (nI v)))), (pz, .inl (cZ, 6, .inl (upd pf v 1)))]) [2, 3, 4, 5, 6, 7, 8, 9, 10, 11, 12, 0, 1] (by decide) rfl
        exact ih_3 (v + 1, tV T1 v (nI v), upd kf v (nI v), upd pf v 1, po2_60, oc2_61) _ _ _ (by show 6 - (v + 1) < 6 - v; omega) ⟨by show _ ≤ _; omega, BI_step hBI (by first | omega | exact bwO_lt (by decide)) hf_r_58, lv_sub hl [0, 1, 2, 3, 4, 5] rfl, hP, hD, hS⟩
