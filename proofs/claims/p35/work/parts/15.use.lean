/-- the first of n, from i on, of which p says yes -/
def schR (p : Nat → Bool) (n : Nat) : Nat → Int32
  | 0 => -1
  | k + 1 => if p (n - (k + 1)) = true then nI (n - (k + 1)) else schR p n k
def sch (p : Nat → Bool) (n i : Nat) : Int32 := schR p n (n - i)
theorem sch_step {p : Nat → Bool} {n i : Nat} (h : i < n) : sch p n i = if p i = true then nI i else sch p n (i + 1) := by
  unfold sch
  rw [show n - i = (n - (i + 1)) + 1 by omega]
  show (if p (n - (n - (i + 1) + 1)) = true then nI (n - (n - (i + 1) + 1)) else schR p n (n - (i + 1))) = _
  rw [show n - (n - (i + 1) + 1) = i by omega]
theorem sch_hit {p : Nat → Bool} {n i : Nat} (h : i < n) (hp : p i = true) : sch p n i = nI i := (sch_step h).trans (if_pos hp)
theorem sch_no {p : Nat → Bool} {n i : Nat} (h : i < n) (hp : p i = false) : sch p n i = sch p n (i + 1) := (sch_step h).trans (if_neg (bnt hp))
theorem sch_ge {p : Nat → Bool} {n i : Nat} (h : n ≤ i) : sch p n i = -1 := by
  unfold sch; rw [show n - i = 0 by omega]; rfl
def hoP (aw : Nat → Int32) (Hd : Nat → Nat → Int64) (j : Nat) (lo : Int32) (v : Nat) : Bool := bI (aw j).toInt64 (nI v) && bI (Hd j v) lo
def hoF (aw : Nat → Int32) (Hd : Nat → Nat → Int64) (j : Nat) (lo : Int32) : Int32 := sch (hoP aw Hd j lo) 6 0
def bO (x : Int32) : Int64 := if x = -1 then 0 else (1 : Int64) <<< (x.toInt64 &&& 63)
def nuB (Si : Nat → Nat → Int32) (v : Int32) (k : Nat) (c : Int64) : Int64 := if bI c (nI k) = true then (if bI (Si 3 k).toInt64 v = true then c else c ||| (bO (Si 0 k) ||| bO (Si 1 k))) else c
def nuR (n : Nat) (Si : Nat → Nat → Int32) (v : Int32) (c : Int64) : Int64 × Bool := (itF (nuB Si v) n 0 c, decide (¬ itF (nuB Si v) n 0 c = c))
def nuC (n : Nat) (Si : Nat → Nat → Int32) (j : Nat) (v : Int32) : Int64 := fxr (nuR n Si v) 1000000 (b1 j) (decide (¬ b1 j = 0))
def nuP (Si : Nat → Nat → Int32) (v : Int32) (c : Int64) (k : Nat) : Bool := bI c (nI k) && bI (Si 2 k).toInt64 v
def nuF (n : Nat) (Si : Nat → Nat → Int32) (j : Nat) (v : Int32) : Int32 := sch (nuP Si v (nuC n Si j v)) n 0
def askA (A : Nat → Int64) (x : Int32) : Int64 := if x = -1 then 0 else A (nn x)
def smH (Si : Nat → Nat → Int32) (A : Nat → Int64) (e : Nat) : Int64 := askA A (Si 0 e) ||| askA A (Si 1 e)
def smK (Si : Nat → Nat → Int32) (Sj : Nat → Nat → Int64) (A : Nat → Int64) (e : Nat) : Int64 := smH Si A e &&& (Sj 0 e ^^^ (-1))
def smM (Si : Nat → Nat → Int32) (Sj : Nat → Nat → Int64) (rr : Int64) (A : Nat → Int64) (mv : Int64) (e : Nat) : Int64 :=
  if bI rr (nI e) = true then (if smH Si A e &&& Sj 3 e = 0 then mv else mv ||| b1 e) else mv
abbrev SM : Type := (Nat → Int64) × Int64
def smB (n : Nat) (Si : Nat → Nat → Int32) (Sj : Nat → Nat → Int64) (rr : Int64) (k : Nat) (x : SM × Bool) : SM × Bool :=
  ((vp_updL x.1.1 (n - (k + 1)) (x.1.1 (n - (k + 1)) ||| smK Si Sj x.1.1 (n - (k + 1))), smM Si Sj rr x.1.1 x.1.2 (n - (k + 1))), x.2 || adB (x.1.1 (n - (k + 1))) (smK Si Sj x.1.1 (n - (k + 1))))
def smR (n : Nat) (Si : Nat → Nat → Int32) (Sj : Nat → Nat → Int64) (rr : Int64) (w : SM) : SM × Bool := itF (smB n Si Sj rr) n 0 (w, false)
def smW (n : Nat) (Si : Nat → Nat → Int32) (Sj : Nat → Nat → Int64) (rr : Int64) (j : Nat) (x : Int64) : SM := fxr (smR n Si Sj rr) 1000000 (vp_updL (fun _ => 0) j x, 0) true
def bcA (i : Int64) : Int64 := i - ((i.toUInt64 >>> ((1 : Int32).toInt64.toUInt64 &&& Int64.toUInt64 63)).toInt64 &&& 6148914691236517205)
def bcB (i : Int64) : Int64 := (i &&& 3689348814741910323) + ((i.toUInt64 >>> ((2 : Int32).toInt64.toUInt64 &&& Int64.toUInt64 63)).toInt64 &&& 3689348814741910323)
def bcC (i : Int64) : Int64 := (i + (i.toUInt64 >>> ((4 : Int32).toInt64.toUInt64 &&& Int64.toUInt64 63)).toInt64) &&& 1085102592571150095
def bcD (i : Int64) : Int64 := i + (i.toUInt64 >>> ((8 : Int32).toInt64.toUInt64 &&& Int64.toUInt64 63)).toInt64
def bcE (i : Int64) : Int64 := i + (i.toUInt64 >>> ((16 : Int32).toInt64.toUInt64 &&& Int64.toUInt64 63)).toInt64
def bcG (i : Int64) : Int64 := i + (i.toUInt64 >>> ((32 : Int32).toInt64.toUInt64 &&& Int64.toUInt64 63)).toInt64
/-- Long.bitCount -/
def bcF (i : Int64) : Int32 := (bcG (bcE (bcD (bcC (bcB (bcA i)))))).toInt32 &&& 127
def smI (x : Int64) : Int32 := if x = 0 then -1 else bcF ((x &&& (-x)) - 1)
def smF (n : Nat) (Si : Nat → Nat → Int32) (Sj : Nat → Nat → Int64) (rr : Int64) (j : Nat) (x : Int64) : Int32 := smI (smW n Si Sj rr j x).2
theorem q_44 : .selects RX4 yX4_askedAt yX4_askedAt ∈ BW := mB 44 (by decide +kernel) rfl
theorem q_76 : .initialized RJ13 ∈ BW := mB 76 (by decide +kernel) rfl
theorem q_233 : .fieldLink RX4 34 "Ironwood$Ways" "asked" "[J" ∈ BW := mB 233 (by decide +kernel) rfl
theorem q_598 : .methodLink RX5 155 yJ13_bitCount_95d88 ∈ BW := mB 598 (by decide +kernel) rfl
theorem q_599 : .static yJ13_bitCount_95d88 ∈ BW := mB 599 (by decide +kernel) rfl
theorem q_600 : .code yJ13_bitCount_95d88 cJ13_bitCount_95d88 2 (some .int) ∈ BW := mB 600 (by decide +kernel) rfl
theorem q_601 : .constantLong RJ13 314 6148914691236517205 ∈ BW := mB 601 (by decide +kernel) rfl
theorem q_602 : .constantLong RJ13 316 3689348814741910323 ∈ BW := mB 602 (by decide +kernel) rfl
theorem q_603 : .constantLong RJ13 318 1085102592571150095 ∈ BW := mB 603 (by decide +kernel) rfl
theorem q_667 : .methodLink RX4 134 yX4_askedAt ∈ BW := mB 667 (by decide +kernel) rfl
theorem q_669 : .instanceMethod yX4_askedAt ∈ BW := mB 669 (by decide +kernel) rfl
theorem q_670 : .code yX4_askedAt cX4_askedAt 2 (some .long) ∈ BW := mB 670 (by decide +kernel) rfl
theorem q_672 : .static yX5_smallestIn ∈ BW := mB 672 (by decide +kernel) rfl
theorem q_673 : .code yX5_smallestIn cX5_smallestIn 2 (some .int) ∈ BW := mB 673 (by decide +kernel) rfl
theorem q_690 : .methodLink RX4 130 yX4_bitOf ∈ BW := mB 690 (by decide +kernel) rfl
theorem q_691 : .static yX4_bitOf ∈ BW := mB 691 (by decide +kernel) rfl
theorem q_692 : .code yX4_bitOf cX4_bitOf 1 (some .long) ∈ BW := mB 692 (by decide +kernel) rfl
set_option maxHeartbeats 4000000 in
set_option maxRecDepth 100000 in
theorem k_holderOfW (l : Launch) (D : va_G) (cI cJ cZ cR : ClassId) (n : Nat) (aw : Nat → Int32) (ya : Nat → Int32) (Hd : Nat → Nat → Int64) (yh : Nat → Int64) (ad : Nat → Nat) (sc : Int32) (po : Int64) (oc : Int64) (cd : Nat → Nat) (rr : Int64) (j : Nat) (lo : Int32) (sz : Nat) (hn : n ≤ 40) (hj : j < n) : Met l yX4_holderOf (wx (.code yX4_holderOf cX4_holderOf 5 (some .int))) ({ frames := 1, cells := 0, slots := 0, locals := 22 }) (va_Pc [.ref (cd 2), .ref (ad 1), .int (nI j), .int lo] (Pw D vwCl [(cI, .int), (cJ, .long), (cZ, .boolean), (cR, .array .int)] [(ad 1, .inr (3, [.ref (ad 10), .int 6, .long po, .long oc, .ref (ad 11), .ref (ad 12), .ref (ad 13), .ref (ad 14), .ref (ad 15), .int sc, .ref (ad 16), .ref (ad 17), .ref (ad 18)])), (cd 2, .inr (4, [.long rr, .ref (cd 20), .ref (cd 21), .ref (cd 22), .ref (cd 23), .ref (cd 24), .ref (cd 25), .ref (cd 26), .ref (cd 27)])), (cd 23, .inl (cJ, 480, .inr (.inl (fih n Hd yh)))), (cd 24, .inl (cI, 40, .inl (fil n aw ya)))] sz)) (va_Qi (fun (r : Int32) (u : Unit) => r = hoF aw Hd j lo) (Bw D vwCl (fun (u : Unit) => [(ad 1, .inr (3, [.ref (ad 10), .int 6, .long po, .long oc, .ref (ad 11), .ref (ad 12), .ref (ad 13), .ref (ad 14), .ref (ad 15), .int sc, .ref (ad 16), .ref (ad 17), .ref (ad 18)])), (cd 2, .inr (4, [.long rr, .ref (cd 20), .ref (cd 21), .ref (cd 22), .ref (cd 23), .ref (cd 24), .ref (cd 25), .ref (cd 26), .ref (cd 27)])), (cd 23, .inl (cJ, 480, .inr (.inl (fih n Hd yh)))), (cd 24, .inl (cI, 40, .inl (fil n aw ya)))]) (va_A [(ad 1, .inr (3, [.ref (ad 10), .int 6, .long po, .long oc, .ref (ad 11), .ref (ad 12), .ref (ad 13), .ref (ad 14), .ref (ad 15), .int sc, .ref (ad 16), .ref (ad 17), .ref (ad 18)])), (cd 2, .inr (4, [.long rr, .ref (cd 20), .ref (cd 21), .ref (cd 22), .ref (cd 23), .ref (cd 24), .ref (cd 25), .ref (cd 26), .ref (cd 27)])), (cd 23, .inl (cJ, 480, .inr (.inl (fih n Hd yh)))), (cd 24, .inl (cI, 40, .inl (fil n aw ya)))] sz)) (va_A [(ad 1, .inr (3, [.ref (ad 10), .int 6, .long po, .long oc, .ref (ad 11), .ref (ad 12), .ref (ad 13), .ref (ad 14), .ref (ad 15), .int sc, .ref (ad 16), .ref (ad 17), .ref (ad 18)])), (cd 2, .inr (4, [.long rr, .ref (cd 20), .ref (cd 21), .ref (cd 22), .ref (cd 23), .ref (cd 24), .ref (cd 25), .ref (cd 26), .ref (cd 27)])), (cd 23, .inl (cJ, 480, .inr (.inl (fih n Hd yh)))), (cd 24, .inl (cI, 40, .inl (fil n aw ya)))] sz)) 0 0 (va_A [(ad 1, .inr (3, [.ref (ad 10), .int 6, .long po, .long oc, .ref (ad 11), .ref (ad 12), .ref (ad 13), .ref (ad 14), .ref (ad 15), .int sc, .ref (ad 16), .ref (ad 17), .ref (ad 18)])), (cd 2, .inr (4, [.long rr, .ref (cd 20), .ref (cd 21), .ref (cd 22), .ref (cd 23), .ref (cd 24), .ref (cd 25), .ref (cd 26), .ref (cd 27)])), (cd 23, .inl (cJ, 480, .inr (.inl (fih n Hd yh)))), (cd 24, .inl (cI, 40, .inl (fil n aw ya)))] sz) := by
  refine Met.ofW (cc := cX4_holderOf) (maxL := 5) (ret := (some .int)) (by decide) rfl ?_
  intro p e s m args below meth c s₁ B hml hv9
  obtain ⟨rfl, hsz, hP, hK, hD0, hG⟩ := hv9
  have hx := B.exec
  have hb := B.bytes
  have hr := B.returns
  have hts := atoms_spec (ws := wx (.code yX4_holderOf cX4_holderOf 5 (some .int))) B.pre
  have hown : s.vm.findClass RX4 = some m.cls := findClass_of_methodNamed B.named
  have hlocks := B.notSynchronized
  subst hsz
  have hD := hD0.self (sz := s.heap.size)
  generalize hAe : va_A [(ad 1, .inr (3, [.ref (ad 10), .int 6, .long po, .long oc, .ref (ad 11), .ref (ad 12), .ref (ad 13), .ref (ad 14), .ref (ad 15), .int sc, .ref (ad 16), .ref (ad 17), .ref (ad 18)])), (cd 2, .inr (4, [.long rr, .ref (cd 20), .ref (cd 21), .ref (cd 22), .ref (cd 23), .ref (cd 24), .ref (cd 25), .ref (cd 26), .ref (cd 27)])), (cd 23, .inl (cJ, 480, .inr (.inl (fih n Hd yh)))), (cd 24, .inl (cI, 40, .inl (fil n aw ya)))] s.heap.size = A at hD hG ⊢
  have hA : ∀ q : Nat, s.heap.size ≤ q → A q := fun q h => by rw [← hAe]; exact Or.inr h
  have hS : va_S A s.heap s.heap [] := va_S.rf
  have hP : va_P D vwCl [(ad 1, .inr (3, [.ref (ad 10), .int 6, .long po, .long oc, .ref (ad 11), .ref (ad 12), .ref (ad 13), .ref (ad 14), .ref (ad 15), .int sc, .ref (ad 16), .ref (ad 17), .ref (ad 18)])), (cd 2, .inr (4, [.long rr, .ref (cd 20), .ref (cd 21), .ref (cd 22), .ref (cd 23), .ref (cd 24), .ref (cd 25), .ref (cd 26), .ref (cd 27)])), (cd 23, .inl (cJ, 480, .inr (.inl (fih n Hd yh)))), (cd 24, .inl (cI, 40, .inl (fil n aw ya)))] s.heap := hP
  have hl := lv_entry ([.ref (cd 2), .ref (ad 1), .int (nI j), .int lo]) (n := 5) (Nat.le_of_ble_eq_true rfl)
  rw [lg_entry_eq]
  generalize (lg_sl ([.ref (cd 2), .ref (ad 1), .int (nI j), .int lo]) ++ List.replicate (5 - (lg_sl ([.ref (cd 2), .ref (ad 1), .int (nI j), .int lo])).length) Slot.unset).toArray = ls at hl ⊢
  have hl : lv_has ls 5 [(0, .ref (cd 2)), (1, .ref (ad 1)), (2, .int (nI j)), (3, .int lo)] := hl
  refine lv_iconst (v := 0) hx hb dX4_holderOf_0 (by decide) ?_
  refine lv_istore (lv' := [(4, .int 0), (0, .ref (cd 2)), (1, .ref (ad 1)), (2, .int (nI j)), (3, .int lo)]) hx hb dX4_holderOf_1 hl (by decide) rfl (fun ls hl => ?_)
  refine W_loop (σ := (Nat)) (fun v => 6 - v) (fun v ls H locs => (v ≤ 6) ∧ (hoF aw Hd j lo = sch (hoP aw Hd j lo) 6 v) ∧ lv_has ls 5 [(4, .int (nI v)), (0, .ref (cd 2)), (1, .ref (ad 1)), (2, .int (nI j)), (3, .int lo)] ∧ va_P D vwCl [(ad 1, .inr (3, [.ref (ad 10), .int 6, .long po, .long oc, .ref (ad 11), .ref (ad 12), .ref (ad 13), .ref (ad 14), .ref (ad 15), .int sc, .ref (ad 16), .ref (ad 17), .ref (ad 18)])), (cd 2, .inr (4, [.long rr, .ref (cd 20), .ref (cd 21), .ref (cd 22), .ref (cd 23), .ref (cd 24), .ref (cd 25), .ref (cd 26), .ref (cd 27)])), (cd 23, .inl (cJ, 480, .inr (.inl (fih n Hd yh)))), (cd 24, .inl (cI, 40, .inl (fil n aw ya)))] H ∧ va_D A [(ad 1, .inr (3, [.ref (ad 10), .int 6, .long po, .long oc, .ref (ad 11), .ref (ad 12), .ref (ad 13), .ref (ad 14), .ref (ad 15), .int sc, .ref (ad 16), .ref (ad 17), .ref (ad 18)])), (cd 2, .inr (4, [.long rr, .ref (cd 20), .ref (cd 21), .ref (cd 22), .ref (cd 23), .ref (cd 24), .ref (cd 25), .ref (cd 26), .ref (cd 27)])), (cd 23, .inl (cJ, 480, .inr (.inl (fih n Hd yh)))), (cd 24, .inl (cI, 40, .inl (fil n aw ya)))] ∧ va_S A s.heap H locs) ?_ (0) _ _ _ ⟨Nat.zero_le _, rfl, lv_sub hl (l' := [(4, .int 0), (0, .ref (cd 2)), (1, .ref (ad 1)), (2, .int (nI j)), (3, .int lo)]) [0, 1, 2, 3, 4] rfl, hP, hD, hS⟩
  rintro v ls H locs ⟨hv, hf, hl, hP, hD, hS⟩ ih
  have hv : v ≤ 6 := hv
  have hf : hoF aw Hd j lo = sch (hoP aw Hd j lo) 6 v := hf
  have hl : lv_has ls 5 [(4, .int (nI v)), (0, .ref (cd 2)), (1, .ref (ad 1)), (2, .int (nI j)), (3, .int lo)] := hl
  have hP : va_P D vwCl [(ad 1, .inr (3, [.ref (ad 10), .int 6, .long po, .long oc, .ref (ad 11), .ref (ad 12), .ref (ad 13), .ref (ad 14), .ref (ad 15), .int sc, .ref (ad 16), .ref (ad 17), .ref (ad 18)])), (cd 2, .inr (4, [.long rr, .ref (cd 20), .ref (cd 21), .ref (cd 22), .ref (cd 23), .ref (cd 24), .ref (cd 25), .ref (cd 26), .ref (cd 27)])), (cd 23, .inl (cJ, 480, .inr (.inl (fih n Hd yh)))), (cd 24, .inl (cI, 40, .inl (fil n aw ya)))] _ := hP
  have hD : va_D A [(ad 1, .inr (3, [.ref (ad 10), .int 6, .long po, .long oc, .ref (ad 11), .ref (ad 12), .ref (ad 13), .ref (ad 14), .ref (ad 15), .int sc, .ref (ad 16), .ref (ad 17), .ref (ad 18)])), (cd 2, .inr (4, [.long rr, .ref (cd 20), .ref (cd 21), .ref (cd 22), .ref (cd 23), .ref (cd 24), .ref (cd 25), .ref (cd 26), .ref (cd 27)])), (cd 23, .inl (cJ, 480, .inr (.inl (fih n Hd yh)))), (cd 24, .inl (cI, 40, .inl (fil n aw ya)))] := hD
  have ih_3 := ih
  refine lv_iload hx hb dX4_holderOf_3 (lv_at hl 0 rfl) ?_
  refine lv_aload_n hx hb dX4_holderOf_5 rfl (lv_at hl 2 rfl) ?_
  refine va_getN (D := D) (ci := 3) (v := .int 6) (C := RX3) (T := TX3) (N := 13) (ref := "Ironwood$Told") (host := "Ironwood") hx hb hts in_RX3 hown hK hP 0 rfl rfl 1 (by decide) (hG.1.get 2 rfl) (fun _ h9 => h9) rfl dX4_holderOf_6 ?_
  refine lv_icmp_ge (tgt := 50) hx hb dX4_holderOf_9 (by decide) (fun c_9 => ?_) (fun c_9 => ?_)
  · skip
    have c_9 : 6 ≤ v := (nI_leI (a := 6) (b := v) (by omega) (by omega)).mp c_9
    refine lv_iconst (v := (-1)) hx hb dX4_holderOf_50 (by decide) ?_
    exact ke_i hx hb hr (by first | rfl | decide | exact bz_nar _) () ((hf.trans (sch_ge (by omega))).symm) hP hD hS (Nat.le_of_ble_eq_true rfl) (Nat.le_of_ble_eq_true rfl) hlocks dX4_holderOf_51
  · skip
    have c_9 : v < 6 := Nat.lt_of_not_le (fun h9 => c_9 ((nI_leI (a := 6) (b := v) (by omega) (by omega)).mpr h9))
    refine lv_aload_n hx hb dX4_holderOf_12 rfl (lv_at hl 1 rfl) ?_
    refine va_get (D := D) (ci := 4) (v := .ref (cd 24)) (C := RX4) (T := TX4) (N := 9) (ref := "Ironwood$Ways") hx hb hts in_RX4 hown hK hP 1 rfl rfl 5 (by decide) (hts _ (mc q_226)) (fun _ h9 => h9) rfl dX4_holderOf_13 ?_
    refine lv_iload_n hx hb dX4_holderOf_16 rfl (lv_at hl 3 rfl) ?_
    refine va_iald hx hb hK hP 3 0 rfl rfl (vp_in_nI (n := j) (by omega) (by omega)) dX4_holderOf_17 ?_
    refine tI (v := aw j) ((congrArg (fil n aw ya) (nI_clamp (n := j) (by omega))).trans (fil_lt (by omega))) ?_
    refine lv_i2l (v := (aw j).toInt64) hx hb dX4_holderOf_18 rfl ?_
    refine lv_iload hx hb dX4_holderOf_19 (lv_at hl 0 rfl) ?_
    refine kc_i (wr := [(ad 1, .inr (3, [.ref (ad 10), .int 6, .long po, .long oc, .ref (ad 11), .ref (ad 12), .ref (ad 13), .ref (ad 14), .ref (ad 15), .int sc, .ref (ad 16), .ref (ad 17), .ref (ad 18)])), (cd 2, .inr (4, [.long rr, .ref (cd 20), .ref (cd 21), .ref (cd 22), .ref (cd 23), .ref (cd 24), .ref (cd 25), .ref (cd 26), .ref (cd 27)])), (cd 23, .inl (cJ, 480, .inr (.inl (fih n Hd yh)))), (cd 24, .inl (cI, 40, .inl (fil n aw ya)))]) (va_runSN (As := [.long ((aw j).toInt64), .int (nI v)]) (rest := []) (host := "Ironwood") ⟨hx, hb, hml, hown, hts⟩ (k_isIn l D cI cJ cZ cR ((aw j).toInt64) (nI v) _) ⟨va_cnB 2 hts (gB q_470) rfl rfl rfl (hG.1.nw 57 rfl) (hts _ (mc q_64)) (by decide +kernel) ⟨Nat.le_of_ble_eq_true rfl, Nat.le_of_ble_eq_true rfl⟩, hts _ (mc q_469), trivial⟩ ⟨Pw.blind, Pw.mk_call hP hK hD hS hA hG [] rfl (by decide)⟩ rfl rfl hl.1 rfl (lv_room (Nat.le_of_ble_eq_true rfl)) dX4_holderOf_21 ⟨Nat.le_of_ble_eq_true rfl, Nat.le_of_ble_eq_true rfl⟩) hP hD hS hA [] [0, 1, 2, 3] rfl rfl (by decide) (by decide) (fun r_2 u_3 H locs hw hP hD hS => ?_)
    obtain rfl : r_2 = bz (bI ((aw j).toInt64) (nI v)) := hw
    have hP : va_P D vwCl [(ad 1, .inr (3, [.ref (ad 10), .int 6, .long po, .long oc, .ref (ad 11), .ref (ad 12), .ref (ad 13), .ref (ad 14), .ref (ad 15), .int sc, .ref (ad 16), .ref (ad 17), .ref (ad 18)])), (cd 2, .inr (4, [.long rr, .ref (cd 20), .ref (cd 21), .ref (cd 22), .ref (cd 23), .ref (cd 24), .ref (cd 25), .ref (cd 26), .ref (cd 27)])), (cd 23, .inl (cJ, 480, .inr (.inl (fih n Hd yh)))), (cd 24, .inl (cI, 40, .inl (fil n aw ya)))] _ := hP
    have hD : va_D A [(ad 1, .inr (3, [.ref (ad 10), .int 6, .long po, .long oc, .ref (ad 11), .ref (ad 12), .ref (ad 13), .ref (ad 14), .ref (ad 15), .int sc, .ref (ad 16), .ref (ad 17), .ref (ad 18)])), (cd 2, .inr (4, [.long rr, .ref (cd 20), .ref (cd 21), .ref (cd 22), .ref (cd 23), .ref (cd 24), .ref (cd 25), .ref (cd 26), .ref (cd 27)])), (cd 23, .inl (cJ, 480, .inr (.inl (fih n Hd yh)))), (cd 24, .inl (cI, 40, .inl (fil n aw ya)))] := hD
    refine lv_if_eq (tgt := 44) hx hb dX4_holderOf_24 (by decide) (fun c_24 => ?_) (fun c_24 => ?_)
    · skip
      have c_24 : (bI ((aw j).toInt64) (nI v)) = false := bz_f c_24
      refine lv_iinc (v := nI (v + 1)) (lv' := [(4, .int (nI (v + 1))), (0, .ref (cd 2)), (1, .ref (ad 1)), (2, .int (nI j)), (3, .int lo)]) hx hb dX4_holderOf_44 hl (k := 0) rfl (nI_add v 1) (by decide) rfl (fun ls hl => ?_)
      refine lv_goto (tgt := 3) hx hb dX4_holderOf_47 (by decide) ?_
      exact ih_3 (v + 1) _ _ _ (by show 6 - (v + 1) < 6 - v; omega) ⟨by show _ ≤ _; omega, hf.trans (sch_no (by omega) (by first | (simp [hoP, c_9, (Nat.not_le.mpr c_9), c_24]; done) | (simp [hoP, if_pos c_9, if_neg (Nat.not_le.mpr c_9), if_neg (bnt c_24)]; done) | rfl | (simp [hoP, c_9, (Nat.not_le.mpr c_9), c_24]; omega))), lv_sub hl [0, 1, 2, 3, 4] rfl, hP, hD, hS⟩
    · skip
      have c_24 : (bI ((aw j).toInt64) (nI v)) = true := bz_t c_24
      refine lv_aload_n hx hb dX4_holderOf_27 rfl (lv_at hl 1 rfl) ?_
      refine lv_iload_n hx hb dX4_holderOf_28 rfl (lv_at hl 3 rfl) ?_
      refine lv_iload hx hb dX4_holderOf_29 (lv_at hl 0 rfl) ?_
      refine kc_l (wr := [(ad 1, .inr (3, [.ref (ad 10), .int 6, .long po, .long oc, .ref (ad 11), .ref (ad 12), .ref (ad 13), .ref (ad 14), .ref (ad 15), .int sc, .ref (ad 16), .ref (ad 17), .ref (ad 18)])), (cd 24, .inl (cI, 40, .inl (fil n aw ya)))]) (va_runV (As := [.int (nI j), .int (nI v)]) (rest := []) ⟨hx, hb, hml, hown, hts⟩ (k_loansIn l D cI cJ cZ cR cd rr n j v Hd yh _ hn hj (by omega)) (cwV 2 hts (gV q_490 q_487 q_489 q_21 q_68) rfl rfl rfl (by decide +kernel) ⟨Nat.le_of_ble_eq_true rfl, Nat.le_of_ble_eq_true rfl⟩) ⟨Pw.blind, va_recv hK hP (ci := 4) (q0 := 1) rfl rfl, Pw.mk_call hP hK hD hS hA hG [1, 2] rfl (by decide)⟩ rfl rfl hl.1 rfl (lv_room (Nat.le_of_ble_eq_true rfl)) dX4_holderOf_31 ⟨Nat.le_of_ble_eq_true rfl, Nat.le_of_ble_eq_true rfl⟩) hP hD hS hA [1, 2] [0, 3] rfl rfl (by decide) (by decide) (fun r_4 u_5 H locs hw hP hD hS => ?_)
      obtain rfl : r_4 = Hd j v := hw
      have hP : va_P D vwCl [(ad 1, .inr (3, [.ref (ad 10), .int 6, .long po, .long oc, .ref (ad 11), .ref (ad 12), .ref (ad 13), .ref (ad 14), .ref (ad 15), .int sc, .ref (ad 16), .ref (ad 17), .ref (ad 18)])), (cd 24, .inl (cI, 40, .inl (fil n aw ya))), (cd 2, .inr (4, [.long rr, .ref (cd 20), .ref (cd 21), .ref (cd 22), .ref (cd 23), .ref (cd 24), .ref (cd 25), .ref (cd 26), .ref (cd 27)])), (cd 23, .inl (cJ, 480, .inr (.inl (fih n Hd yh))))] _ := hP
      have hD : va_D A [(ad 1, .inr (3, [.ref (ad 10), .int 6, .long po, .long oc, .ref (ad 11), .ref (ad 12), .ref (ad 13), .ref (ad 14), .ref (ad 15), .int sc, .ref (ad 16), .ref (ad 17), .ref (ad 18)])), (cd 24, .inl (cI, 40, .inl (fil n aw ya))), (cd 2, .inr (4, [.long rr, .ref (cd 20), .ref (cd 21), .ref (cd 22), .ref (cd 23), .ref (cd 24), .ref (cd 25), .ref (cd 26), .ref (cd 27)])), (cd 23, .inl (cJ, 480, .inr (.inl (fih n Hd yh))))] := hD
      refine lv_iload_n hx hb dX4_holderOf_34 rfl (lv_at hl 4 rfl) ?_
      refine kc_i (wr := [(ad 1, .inr (3, [.ref (ad 10), .int 6, .long po, .long oc, .ref (ad 11), .ref (ad 12), .ref (ad 13), .ref (ad 14), .ref (ad 15), .int sc, .ref (ad 16), .ref (ad 17), .ref (ad 18)])), (cd 24, .inl (cI, 40, .inl (fil n aw ya))), (cd 2, .inr (4, [.long rr, .ref (cd 20), .ref (cd 21), .ref (cd 22), .ref (cd 23), .ref (cd 24), .ref (cd 25), .ref (cd 26), .ref (cd 27)])), (cd 23, .inl (cJ, 480, .inr (.inl (fih n Hd yh))))]) (va_runSN (As := [.long (Hd j v), .int lo]) (rest := []) (host := "Ironwood") ⟨hx, hb, hml, hown, hts⟩ (k_isIn l D cI cJ cZ cR (Hd j v) lo _) ⟨va_cnB 2 hts (gB q_470) rfl rfl rfl (hG.1.nw 57 rfl) (hts _ (mc q_64)) (by decide +kernel) ⟨Nat.le_of_ble_eq_true rfl, Nat.le_of_ble_eq_true rfl⟩, hts _ (mc q_469), trivial⟩ ⟨Pw.blind, Pw.mk_call hP hK hD hS hA hG [] rfl (by decide)⟩ rfl rfl hl.1 rfl (lv_room (Nat.le_of_ble_eq_true rfl)) dX4_holderOf_35 ⟨Nat.le_of_ble_eq_true rfl, Nat.le_of_ble_eq_true rfl⟩) hP hD hS hA [] [0, 1, 2, 3] rfl rfl (by decide) (by decide) (fun r_6 u_7 H locs hw hP hD hS => ?_)
      obtain rfl : r_6 = bz (bI (Hd j v) lo) := hw
      have hP : va_P D vwCl [(ad 1, .inr (3, [.ref (ad 10), .int 6, .long po, .long oc, .ref (ad 11), .ref (ad 12), .ref (ad 13), .ref (ad 14), .ref (ad 15), .int sc, .ref (ad 16), .ref (ad 17), .ref (ad 18)])), (cd 24, .inl (cI, 40, .inl (fil n aw ya))), (cd 2, .inr (4, [.long rr, .ref (cd 20), .ref (cd 21), .ref (cd 22), .ref (cd 23), .ref (cd 24), .ref (cd 25), .ref (cd 26), .ref (cd 27)])), (cd 23, .inl (cJ, 480, .inr (.inl (fih n Hd yh))))] _ := hP
      have hD : va_D A [(ad 1, .inr (3, [.ref (ad 10), .int 6, .long po, .long oc, .ref (ad 11), .ref (ad 12), .ref (ad 13), .ref (ad 14), .ref (ad 15), .int sc, .ref (ad 16), .ref (ad 17), .ref (ad 18)])), (cd 24, .inl (cI, 40, .inl (fil n aw ya))), (cd 2, .inr (4, [.long rr, .ref (cd 20), .ref (cd 21), .ref (cd 22), .ref (cd 23), .ref (cd 24), .ref (cd 25), .ref (cd 26), .ref (cd 27)])), (cd 23, .inl (cJ, 480, .inr (.inl (fih n Hd yh))))] := hD
      refine lv_if_eq (tgt := 44) hx hb dX4_holderOf_38 (by decide) (fun c_38 => ?_) (fun c_38 => ?_)
      · skip
        have c_38 : (bI (Hd j v) lo) = false := bz_f c_38
        refine lv_iinc (v := nI (v + 1)) (lv' := [(4, .int (nI (v + 1))), (0, .ref (cd 2)), (1, .ref (ad 1)), (2, .int (nI j)), (3, .int lo)]) hx hb dX4_holderOf_44 hl (k := 0) rfl (nI_add v 1) (by decide) rfl (fun ls hl => ?_)
        refine lv_goto (tgt := 3) hx hb dX4_holderOf_47 (by decide) ?_
        have hP := hP.sub (ws' := [(ad 1, .inr (3, [.ref (ad 10), .int 6, .long po, .long oc, .ref (ad 11), .ref (ad 12), .ref (ad 13), .ref (ad 14), .ref (ad 15), .int sc, .ref (ad 16), .ref (ad 17), .ref (ad 18)])), (cd 2, .inr (4, [.long rr, .ref (cd 20), .ref (cd 21), .ref (cd 22), .ref (cd 23), .ref (cd 24), .ref (cd 25), .ref (cd 26), .ref (cd 27)])), (cd 23, .inl (cJ, 480, .inr (.inl (fih n Hd yh)))), (cd 24, .inl (cI, 40, .inl (fil n aw ya)))]) [0, 2, 3, 1] rfl
        have hD := hD.sub (ws' := [(ad 1, .inr (3, [.ref (ad 10), .int 6, .long po, .long oc, .ref (ad 11), .ref (ad 12), .ref (ad 13), .ref (ad 14), .ref (ad 15), .int sc, .ref (ad 16), .ref (ad 17), .ref (ad 18)])), (cd 2, .inr (4, [.long rr, .ref (cd 20), .ref (cd 21), .ref (cd 22), .ref (cd 23), .ref (cd 24), .ref (cd 25), .ref (cd 26), .ref (cd 27)])), (cd 23, .inl (cJ, 480, .inr (.inl (fih n Hd yh)))), (cd 24, .inl (cI, 40, .inl (fil n aw ya)))]) [0, 2, 3, 1] (by decide) rfl
        exact ih_3 (v + 1) _ _ _ (by show 6 - (v + 1) < 6 - v; omega) ⟨by show _ ≤ _; omega, hf.trans (sch_no (by omega) (by first | (simp [hoP, c_9, (Nat.not_le.mpr c_9), c_24, c_38]; done) | (simp [hoP, if_pos c_9, if_neg (Nat.not_le.mpr c_9), if_pos c_24, if_neg (bnt c_38)]; done) | rfl | (simp [hoP, c_9, (Nat.not_le.mpr c_9), c_24, c_38]; omega))), lv_sub hl [0, 1, 2, 3, 4] rfl, hP, hD, hS⟩
      · skip
        have c_38 : (bI (Hd j v) lo) = true := bz_t c_38
        refine lv_iload hx hb dX4_holderOf_41 (lv_at hl 0 rfl) ?_
        have hP := hP.sub (ws' := [(ad 1, .inr (3, [.ref (ad 10), .int 6, .long po, .long oc, .ref (ad 11), .ref (ad 12), .ref (ad 13), .ref (ad 14), .ref (ad 15), .int sc, .ref (ad 16), .ref (ad 17), .ref (ad 18)])), (cd 2, .inr (4, [.long rr, .ref (cd 20), .ref (cd 21), .ref (cd 22), .ref (cd 23), .ref (cd 24), .ref (cd 25), .ref (cd 26), .ref (cd 27)])), (cd 23, .inl (cJ, 480, .inr (.inl (fih n Hd yh)))), (cd 24, .inl (cI, 40, .inl (fil n aw ya)))]) [0, 2, 3, 1] rfl
        have hD := hD.sub (ws' := [(ad 1, .inr (3, [.ref (ad 10), .int 6, .long po, .long oc, .ref (ad 11), .ref (ad 12), .ref (ad 13), .ref (ad 14), .ref (ad 15), .int sc, .ref (ad 16), .ref (ad 17), .ref (ad 18)])), (cd 2, .inr (4, [.long rr, .ref (cd 20), .ref (cd 21), .ref (cd 22), .ref (cd 23), .ref (cd 24), .ref (cd 25), .ref (cd 26), .ref (cd 27)])), (cd 23, .inl (cJ, 480, .inr (.inl (fih n Hd yh)))), (cd 24, .inl (cI, 40, .inl (fil n aw ya)))]) [0, 2, 3, 1] (by decide) rfl
        exact ke_i hx hb hr (by first | rfl | decide | exact bz_nar _) () ((hf.trans (sch_hit (by omega) (by simp [hoP, c_24, c_38]))).symm) hP hD hS (Nat.le_of_ble_eq_true rfl) (Nat.le_of_ble_eq_true rfl) hlocks dX4_holderOf_43

set_option maxHeartbeats 4000000 in
set_option maxRecDepth 100000 in
theorem k_bitOf (l : Launch) (D : va_G) (cI cJ cZ cR : ClassId) (x : Int32) (sz : Nat)  : Met l yX4_bitOf (wx (.code yX4_bitOf cX4_bitOf 1 (some .long))) ({ frames := 0, cells := 0, slots := 0, locals := 0 }) (va_Pc [.int x] (Pw D vwCl [(cI, .int), (cJ, .long), (cZ, .boolean), (cR, .array .int)] [] sz)) (va_Ql (fun (r : Int64) (u : Unit) => r = bO x) (Bw D vwCl (fun (u : Unit) => []) (va_A [] sz)) (va_A [] sz)) 0 0 (va_A [] sz) := by
  refine Met.ofW (cc := cX4_bitOf) (maxL := 1) (ret := (some .long)) (by decide) rfl ?_
  intro p e s m args below meth c s₁ B hml hv9
  obtain ⟨rfl, hsz, hP, hK, hD0, hG⟩ := hv9
  have hx := B.exec
  have hb := B.bytes
  have hr := B.returns
  have hts := atoms_spec (ws := wx (.code yX4_bitOf cX4_bitOf 1 (some .long))) B.pre
  have hown : s.vm.findClass RX4 = some m.cls := findClass_of_methodNamed B.named
  have hlocks := B.notSynchronized
  subst hsz
  have hD := hD0.self (sz := s.heap.size)
  generalize hAe : va_A [] s.heap.size = A at hD hG ⊢
  have hA : ∀ q : Nat, s.heap.size ≤ q → A q := fun q h => by rw [← hAe]; exact Or.inr h
  have hS : va_S A s.heap s.heap [] := va_S.rf
  have hP : va_P D vwCl [] s.heap := hP
  have hl := lv_entry ([.int x]) (n := 1) (Nat.le_of_ble_eq_true rfl)
  rw [lg_entry_eq]
  generalize (lg_sl ([.int x]) ++ List.replicate (1 - (lg_sl ([.int x])).length) Slot.unset).toArray = ls at hl ⊢
  have hl : lv_has ls 1 [(0, .int x)] := hl
  refine lv_iload_n hx hb dX4_bitOf_0 rfl (lv_at hl 0 rfl) ?_
  refine lv_iconst (v := (-1)) hx hb dX4_bitOf_1 (by decide) ?_
  refine lv_icmp_ne (tgt := 9) hx hb dX4_bitOf_2 (by decide) (fun c_2 => ?_) (fun c_2 => ?_)
  · skip
    refine lv_lconst (v := 1) hx hb dX4_bitOf_9 (by decide) ?_
    refine lv_iload_n hx hb dX4_bitOf_10 rfl (lv_at hl 0 rfl) ?_
    refine lv_lshl (v := 1 <<< (x.toInt64 &&& 63)) hx hb dX4_bitOf_11 rfl ?_
    exact ke_l hx hb hr () (by first | (simp [bO, c_2]; done) | (simp [bO, if_neg c_2]; done) | rfl | (simp [bO, c_2]; omega)) hP hD hS (Nat.le_of_ble_eq_true rfl) (Nat.le_of_ble_eq_true rfl) hlocks dX4_bitOf_12
  · skip
    refine lv_lconst (v := 0) hx hb dX4_bitOf_5 (by decide) ?_
    refine lv_goto (tgt := 12) hx hb dX4_bitOf_6 (by decide) ?_
    exact ke_l hx hb hr () (by first | (simp [bO, c_2]; done) | (simp [bO, if_pos c_2]; done) | rfl | (simp [bO, c_2]; omega)) hP hD hS (Nat.le_of_ble_eq_true rfl) (Nat.le_of_ble_eq_true rfl) hlocks dX4_bitOf_12

set_option maxHeartbeats 4000000 in
set_option maxRecDepth 100000 in
theorem k_nextUse (l : Launch) (D : va_G) (cI cJ cZ cR : ClassId) (n : Nat) (Si : Nat → Nat → Int32) (ze0 : Nat → Int32) (ze1 : Nat → Int32) (ze2 : Nat → Int32) (ze3 : Nat → Int32) (cd : Nat → Nat) (sk : Int32) (cp : Int32) (rr : Int64) (j : Nat) (v : Int32) (sz : Nat) (hn : n ≤ 40) (hj : j < n) : Met l yX4_nextUse (wx (.code yX4_nextUse cX4_nextUse 10 (some .int))) ({ frames := 1, cells := 0, slots := 0, locals := 22 }) (va_Pc [.ref (cd 2), .ref (cd 1), .int (nI j), .int v] (Pw D vwCl [(cI, .int), (cJ, .long), (cZ, .boolean), (cR, .array .int)] [(cd 1, .inr (2, [.ref (cd 10), .ref (cd 11), .ref (cd 12), .ref (cd 13), .ref (cd 14), .ref (cd 15), .ref (cd 16), .ref (cd 17), .int (nI n), .int sk, .int cp])), (cd 10, .inl (cI, 40, .inl (fil n (Si 0) ze0))), (cd 11, .inl (cI, 40, .inl (fil n (Si 1) ze1))), (cd 12, .inl (cI, 40, .inl (fil n (Si 2) ze2))), (cd 13, .inl (cI, 40, .inl (fil n (Si 3) ze3))), (cd 2, .inr (4, [.long rr, .ref (cd 20), .ref (cd 21), .ref (cd 22), .ref (cd 23), .ref (cd 24), .ref (cd 25), .ref (cd 26), .ref (cd 27)]))] sz)) (va_Qi (fun (r : Int32) (u : Unit) => r = nuF n Si j v) (Bw D vwCl (fun (u : Unit) => [(cd 1, .inr (2, [.ref (cd 10), .ref (cd 11), .ref (cd 12), .ref (cd 13), .ref (cd 14), .ref (cd 15), .ref (cd 16), .ref (cd 17), .int (nI n), .int sk, .int cp])), (cd 10, .inl (cI, 40, .inl (fil n (Si 0) ze0))), (cd 11, .inl (cI, 40, .inl (fil n (Si 1) ze1))), (cd 12, .inl (cI, 40, .inl (fil n (Si 2) ze2))), (cd 13, .inl (cI, 40, .inl (fil n (Si 3) ze3))), (cd 2, .inr (4, [.long rr, .ref (cd 20), .ref (cd 21), .ref (cd 22), .ref (cd 23), .ref (cd 24), .ref (cd 25), .ref (cd 26), .ref (cd 27)]))]) (va_A [(cd 1, .inr (2, [.ref (cd 10), .ref (cd 11), .ref (cd 12), .ref (cd 13), .ref (cd 14), .ref (cd 15), .ref (cd 16), .ref (cd 17), .int (nI n), .int sk, .int cp])), (cd 10, .inl (cI, 40, .inl (fil n (Si 0) ze0))), (cd 11, .inl (cI, 40, .inl (fil n (Si 1) ze1))), (cd 12, .inl (cI, 40, .inl (fil n (Si 2) ze2))), (cd 13, .inl (cI, 40, .inl (fil n (Si 3) ze3))), (cd 2, .inr (4, [.long rr, .ref (cd 20), .ref (cd 21), .ref (cd 22), .ref (cd 23), .ref (cd 24), .ref (cd 25), .ref (cd 26), .ref (cd 27)]))] sz)) (va_A [(cd 1, .inr (2, [.ref (cd 10), .ref (cd 11), .ref (cd 12), .ref (cd 13), .ref (cd 14), .ref (cd 15), .ref (cd 16), .ref (cd 17), .int (nI n), .int sk, .int cp])), (cd 10, .inl (cI, 40, .inl (fil n (Si 0) ze0))), (cd 11, .inl (cI, 40, .inl (fil n (Si 1) ze1))), (cd 12, .inl (cI, 40, .inl (fil n (Si 2) ze2))), (cd 13, .inl (cI, 40, .inl (fil n (Si 3) ze3))), (cd 2, .inr (4, [.long rr, .ref (cd 20), .ref (cd 21), .ref (cd 22), .ref (cd 23), .ref (cd 24), .ref (cd 25), .ref (cd 26), .ref (cd 27)]))] sz)) 0 0 (va_A [(cd 1, .inr (2, [.ref (cd 10), .ref (cd 11), .ref (cd 12), .ref (cd 13), .ref (cd 14), .ref (cd 15), .ref (cd 16), .ref (cd 17), .int (nI n), .int sk, .int cp])), (cd 10, .inl (cI, 40, .inl (fil n (Si 0) ze0))), (cd 11, .inl (cI, 40, .inl (fil n (Si 1) ze1))), (cd 12, .inl (cI, 40, .inl (fil n (Si 2) ze2))), (cd 13, .inl (cI, 40, .inl (fil n (Si 3) ze3))), (cd 2, .inr (4, [.long rr, .ref (cd 20), .ref (cd 21), .ref (cd 22), .ref (cd 23), .ref (cd 24), .ref (cd 25), .ref (cd 26), .ref (cd 27)]))] sz) := by
  refine Met.ofW (cc := cX4_nextUse) (maxL := 10) (ret := (some .int)) (by decide) rfl ?_
  intro p e s m args below meth c s₁ B hml hv9
  obtain ⟨rfl, hsz, hP, hK, hD0, hG⟩ := hv9
  have hx := B.exec
  have hb := B.bytes
  have hr := B.returns
  have hts := atoms_spec (ws := wx (.code yX4_nextUse cX4_nextUse 10 (some .int))) B.pre
  have hown : s.vm.findClass RX4 = some m.cls := findClass_of_methodNamed B.named
  have hlocks := B.notSynchronized
  subst hsz
  have hD := hD0.self (sz := s.heap.size)
  generalize hAe : va_A [(cd 1, .inr (2, [.ref (cd 10), .ref (cd 11), .ref (cd 12), .ref (cd 13), .ref (cd 14), .ref (cd 15), .ref (cd 16), .ref (cd 17), .int (nI n), .int sk, .int cp])), (cd 10, .inl (cI, 40, .inl (fil n (Si 0) ze0))), (cd 11, .inl (cI, 40, .inl (fil n (Si 1) ze1))), (cd 12, .inl (cI, 40, .inl (fil n (Si 2) ze2))), (cd 13, .inl (cI, 40, .inl (fil n (Si 3) ze3))), (cd 2, .inr (4, [.long rr, .ref (cd 20), .ref (cd 21), .ref (cd 22), .ref (cd 23), .ref (cd 24), .ref (cd 25), .ref (cd 26), .ref (cd 27)]))] s.heap.size = A at hD hG ⊢
  have hA : ∀ q : Nat, s.heap.size ≤ q → A q := fun q h => by rw [← hAe]; exact Or.inr h
  have hS : va_S A s.heap s.heap [] := va_S.rf
  have hP : va_P D vwCl [(cd 1, .inr (2, [.ref (cd 10), .ref (cd 11), .ref (cd 12), .ref (cd 13), .ref (cd 14), .ref (cd 15), .ref (cd 16), .ref (cd 17), .int (nI n), .int sk, .int cp])), (cd 10, .inl (cI, 40, .inl (fil n (Si 0) ze0))), (cd 11, .inl (cI, 40, .inl (fil n (Si 1) ze1))), (cd 12, .inl (cI, 40, .inl (fil n (Si 2) ze2))), (cd 13, .inl (cI, 40, .inl (fil n (Si 3) ze3))), (cd 2, .inr (4, [.long rr, .ref (cd 20), .ref (cd 21), .ref (cd 22), .ref (cd 23), .ref (cd 24), .ref (cd 25), .ref (cd 26), .ref (cd 27)]))] s.heap := hP
  have hl := lv_entry ([.ref (cd 2), .ref (cd 1), .int (nI j), .int v]) (n := 10) (Nat.le_of_ble_eq_true rfl)
  rw [lg_entry_eq]
  generalize (lg_sl ([.ref (cd 2), .ref (cd 1), .int (nI j), .int v]) ++ List.replicate (10 - (lg_sl ([.ref (cd 2), .ref (cd 1), .int (nI j), .int v])).length) Slot.unset).toArray = ls at hl ⊢
  have hl : lv_has ls 10 [(0, .ref (cd 2)), (1, .ref (cd 1)), (2, .int (nI j)), (3, .int v)] := hl
  refine lv_lconst (v := 1) hx hb dX4_nextUse_0 (by decide) ?_
  refine lv_iload_n hx hb dX4_nextUse_1 rfl (lv_at hl 2 rfl) ?_
  refine lv_lshl (v := 1 <<< ((nI j).toInt64 &&& 63)) hx hb dX4_nextUse_2 rfl ?_
  refine tJ (v := b1 j) rfl ?_
  refine lv_lstore (lv' := [(4, .long (b1 j)), (0, .ref (cd 2)), (1, .ref (cd 1)), (2, .int (nI j)), (3, .int v)]) hx hb dX4_nextUse_3 hl (by decide) rfl (fun ls hl => ?_)
  refine lv_lconst (v := 0) hx hb dX4_nextUse_5 (by decide) ?_
  refine lv_lstore (lv' := [(6, .long 0), (4, .long (b1 j)), (0, .ref (cd 2)), (1, .ref (cd 1)), (2, .int (nI j)), (3, .int v)]) hx hb dX4_nextUse_6 hl (by decide) rfl (fun ls hl => ?_)
  refine lv_iconst (v := 0) hx hb dX4_nextUse_8 (by decide) ?_
  refine lv_istore (lv' := [(8, .int 0), (6, .long 0), (4, .long (b1 j)), (0, .ref (cd 2)), (1, .ref (cd 1)), (2, .int (nI j)), (3, .int v)]) hx hb dX4_nextUse_9 hl (by decide) rfl (fun ls hl => ?_)
  refine W_loop (σ := (Nat) × (Int64) × (Int64)) (fun ⟨r, cA, cB⟩ => 1000000 - r) (fun ⟨r, cA, cB⟩ ls H locs => (r ≤ 1000000) ∧ (nuC n Si j v = fxr (nuR n Si v) (1000000 - r) cA (decide (¬ cA = cB))) ∧ lv_has ls 10 [(8, .int (nI r)), (6, .long cB), (4, .long cA), (0, .ref (cd 2)), (1, .ref (cd 1)), (2, .int (nI j)), (3, .int v)] ∧ va_P D vwCl [(cd 1, .inr (2, [.ref (cd 10), .ref (cd 11), .ref (cd 12), .ref (cd 13), .ref (cd 14), .ref (cd 15), .ref (cd 16), .ref (cd 17), .int (nI n), .int sk, .int cp])), (cd 10, .inl (cI, 40, .inl (fil n (Si 0) ze0))), (cd 11, .inl (cI, 40, .inl (fil n (Si 1) ze1))), (cd 12, .inl (cI, 40, .inl (fil n (Si 2) ze2))), (cd 13, .inl (cI, 40, .inl (fil n (Si 3) ze3))), (cd 2, .inr (4, [.long rr, .ref (cd 20), .ref (cd 21), .ref (cd 22), .ref (cd 23), .ref (cd 24), .ref (cd 25), .ref (cd 26), .ref (cd 27)]))] H ∧ va_D A [(cd 1, .inr (2, [.ref (cd 10), .ref (cd 11), .ref (cd 12), .ref (cd 13), .ref (cd 14), .ref (cd 15), .ref (cd 16), .ref (cd 17), .int (nI n), .int sk, .int cp])), (cd 10, .inl (cI, 40, .inl (fil n (Si 0) ze0))), (cd 11, .inl (cI, 40, .inl (fil n (Si 1) ze1))), (cd 12, .inl (cI, 40, .inl (fil n (Si 2) ze2))), (cd 13, .inl (cI, 40, .inl (fil n (Si 3) ze3))), (cd 2, .inr (4, [.long rr, .ref (cd 20), .ref (cd 21), .ref (cd 22), .ref (cd 23), .ref (cd 24), .ref (cd 25), .ref (cd 26), .ref (cd 27)]))] ∧ va_S A s.heap H locs) ?_ (0, b1 j, 0) _ _ _ ⟨Nat.zero_le _, rfl, lv_sub hl (l' := [(8, .int 0), (6, .long 0), (4, .long (b1 j)), (0, .ref (cd 2)), (1, .ref (cd 1)), (2, .int (nI j)), (3, .int v)]) [0, 1, 2, 3, 4, 5, 6] rfl, hP, hD, hS⟩
  rintro ⟨r, cA, cB⟩ ls H locs ⟨hr9, hf, hl, hP, hD, hS⟩ ih
  have hr9 : r ≤ 1000000 := hr9
  have hf : nuC n Si j v = fxr (nuR n Si v) (1000000 - r) cA (decide (¬ cA = cB)) := hf
  have hl : lv_has ls 10 [(8, .int (nI r)), (6, .long cB), (4, .long cA), (0, .ref (cd 2)), (1, .ref (cd 1)), (2, .int (nI j)), (3, .int v)] := hl
  have hP : va_P D vwCl [(cd 1, .inr (2, [.ref (cd 10), .ref (cd 11), .ref (cd 12), .ref (cd 13), .ref (cd 14), .ref (cd 15), .ref (cd 16), .ref (cd 17), .int (nI n), .int sk, .int cp])), (cd 10, .inl (cI, 40, .inl (fil n (Si 0) ze0))), (cd 11, .inl (cI, 40, .inl (fil n (Si 1) ze1))), (cd 12, .inl (cI, 40, .inl (fil n (Si 2) ze2))), (cd 13, .inl (cI, 40, .inl (fil n (Si 3) ze3))), (cd 2, .inr (4, [.long rr, .ref (cd 20), .ref (cd 21), .ref (cd 22), .ref (cd 23), .ref (cd 24), .ref (cd 25), .ref (cd 26), .ref (cd 27)]))] _ := hP
  have hD : va_D A [(cd 1, .inr (2, [.ref (cd 10), .ref (cd 11), .ref (cd 12), .ref (cd 13), .ref (cd 14), .ref (cd 15), .ref (cd 16), .ref (cd 17), .int (nI n), .int sk, .int cp])), (cd 10, .inl (cI, 40, .inl (fil n (Si 0) ze0))), (cd 11, .inl (cI, 40, .inl (fil n (Si 1) ze1))), (cd 12, .inl (cI, 40, .inl (fil n (Si 2) ze2))), (cd 13, .inl (cI, 40, .inl (fil n (Si 3) ze3))), (cd 2, .inr (4, [.long rr, .ref (cd 20), .ref (cd 21), .ref (cd 22), .ref (cd 23), .ref (cd 24), .ref (cd 25), .ref (cd 26), .ref (cd 27)]))] := hD
  have ih_11 := ih
  refine lv_iload hx hb dX4_nextUse_11 (lv_at hl 0 rfl) ?_
  refine lv_ldc (v := 1000000) hx hb hown (hts _ (mc q_463)) dX4_nextUse_13 ?_
  refine lv_icmp_ge (tgt := 105) hx hb dX4_nextUse_15 (by decide) (fun c_15 => ?_) (fun c_15 => ?_)
  · skip
    have c_15 : 1000000 ≤ r := (nI_leI (a := 1000000) (b := r) (by omega) (by omega)).mp c_15
    have hfe : cA = nuC n Si j v := (hf.trans (fxr_end (Or.inl (by omega)))).symm
    rw [hfe] at hl
    have hP : va_P D vwCl [(cd 1, .inr (2, [.ref (cd 10), .ref (cd 11), .ref (cd 12), .ref (cd 13), .ref (cd 14), .ref (cd 15), .ref (cd 16), .ref (cd 17), .int (nI n), .int sk, .int cp])), (cd 10, .inl (cI, 40, .inl (fil n (Si 0) ze0))), (cd 11, .inl (cI, 40, .inl (fil n (Si 1) ze1))), (cd 12, .inl (cI, 40, .inl (fil n (Si 2) ze2))), (cd 13, .inl (cI, 40, .inl (fil n (Si 3) ze3))), (cd 2, .inr (4, [.long rr, .ref (cd 20), .ref (cd 21), .ref (cd 22), .ref (cd 23), .ref (cd 24), .ref (cd 25), .ref (cd 26), .ref (cd 27)]))] _ := hP
    have hD : va_D A [(cd 1, .inr (2, [.ref (cd 10), .ref (cd 11), .ref (cd 12), .ref (cd 13), .ref (cd 14), .ref (cd 15), .ref (cd 16), .ref (cd 17), .int (nI n), .int sk, .int cp])), (cd 10, .inl (cI, 40, .inl (fil n (Si 0) ze0))), (cd 11, .inl (cI, 40, .inl (fil n (Si 1) ze1))), (cd 12, .inl (cI, 40, .inl (fil n (Si 2) ze2))), (cd 13, .inl (cI, 40, .inl (fil n (Si 3) ze3))), (cd 2, .inr (4, [.long rr, .ref (cd 20), .ref (cd 21), .ref (cd 22), .ref (cd 23), .ref (cd 24), .ref (cd 25), .ref (cd 26), .ref (cd 27)]))] := hD
    have hl : lv_has ls 10 [(8, .int (nI r)), (6, .long cB), (4, .long (nuC n Si j v)), (0, .ref (cd 2)), (1, .ref (cd 1)), (2, .int (nI j)), (3, .int v)] := hl
    refine lv_iconst (v := 0) hx hb dX4_nextUse_105 (by decide) ?_
    refine lv_istore (lv' := [(8, .int 0), (6, .long cB), (4, .long (nuC n Si j v)), (0, .ref (cd 2)), (1, .ref (cd 1)), (2, .int (nI j)), (3, .int v)]) hx hb dX4_nextUse_106 hl (by decide) rfl (fun ls hl => ?_)
    refine W_loop (σ := (Nat)) (fun i => n - i) (fun i ls H locs => (i ≤ n) ∧ (nuF n Si j v = sch (nuP Si v (nuC n Si j v)) n i) ∧ lv_has ls 10 [(8, .int (nI i)), (6, .long cB), (4, .long (nuC n Si j v)), (0, .ref (cd 2)), (1, .ref (cd 1)), (2, .int (nI j)), (3, .int v)] ∧ va_P D vwCl [(cd 1, .inr (2, [.ref (cd 10), .ref (cd 11), .ref (cd 12), .ref (cd 13), .ref (cd 14), .ref (cd 15), .ref (cd 16), .ref (cd 17), .int (nI n), .int sk, .int cp])), (cd 10, .inl (cI, 40, .inl (fil n (Si 0) ze0))), (cd 11, .inl (cI, 40, .inl (fil n (Si 1) ze1))), (cd 12, .inl (cI, 40, .inl (fil n (Si 2) ze2))), (cd 13, .inl (cI, 40, .inl (fil n (Si 3) ze3))), (cd 2, .inr (4, [.long rr, .ref (cd 20), .ref (cd 21), .ref (cd 22), .ref (cd 23), .ref (cd 24), .ref (cd 25), .ref (cd 26), .ref (cd 27)]))] H ∧ va_D A [(cd 1, .inr (2, [.ref (cd 10), .ref (cd 11), .ref (cd 12), .ref (cd 13), .ref (cd 14), .ref (cd 15), .ref (cd 16), .ref (cd 17), .int (nI n), .int sk, .int cp])), (cd 10, .inl (cI, 40, .inl (fil n (Si 0) ze0))), (cd 11, .inl (cI, 40, .inl (fil n (Si 1) ze1))), (cd 12, .inl (cI, 40, .inl (fil n (Si 2) ze2))), (cd 13, .inl (cI, 40, .inl (fil n (Si 3) ze3))), (cd 2, .inr (4, [.long rr, .ref (cd 20), .ref (cd 21), .ref (cd 22), .ref (cd 23), .ref (cd 24), .ref (cd 25), .ref (cd 26), .ref (cd 27)]))] ∧ va_S A s.heap H locs) ?_ (0) _ _ _ ⟨Nat.zero_le _, rfl, lv_sub hl (l' := [(8, .int 0), (6, .long cB), (4, .long (nuC n Si j v)), (0, .ref (cd 2)), (1, .ref (cd 1)), (2, .int (nI j)), (3, .int v)]) [0, 1, 2, 3, 4, 5, 6] rfl, hP, hD, hS⟩
    rintro i ls H locs ⟨hi, hs, hl, hP, hD, hS⟩ ih
    have hi : i ≤ n := hi
    have hs : nuF n Si j v = sch (nuP Si v (nuC n Si j v)) n i := hs
    have hl : lv_has ls 10 [(8, .int (nI i)), (6, .long cB), (4, .long (nuC n Si j v)), (0, .ref (cd 2)), (1, .ref (cd 1)), (2, .int (nI j)), (3, .int v)] := hl
    have hP : va_P D vwCl [(cd 1, .inr (2, [.ref (cd 10), .ref (cd 11), .ref (cd 12), .ref (cd 13), .ref (cd 14), .ref (cd 15), .ref (cd 16), .ref (cd 17), .int (nI n), .int sk, .int cp])), (cd 10, .inl (cI, 40, .inl (fil n (Si 0) ze0))), (cd 11, .inl (cI, 40, .inl (fil n (Si 1) ze1))), (cd 12, .inl (cI, 40, .inl (fil n (Si 2) ze2))), (cd 13, .inl (cI, 40, .inl (fil n (Si 3) ze3))), (cd 2, .inr (4, [.long rr, .ref (cd 20), .ref (cd 21), .ref (cd 22), .ref (cd 23), .ref (cd 24), .ref (cd 25), .ref (cd 26), .ref (cd 27)]))] _ := hP
    have hD : va_D A [(cd 1, .inr (2, [.ref (cd 10), .ref (cd 11), .ref (cd 12), .ref (cd 13), .ref (cd 14), .ref (cd 15), .ref (cd 16), .ref (cd 17), .int (nI n), .int sk, .int cp])), (cd 10, .inl (cI, 40, .inl (fil n (Si 0) ze0))), (cd 11, .inl (cI, 40, .inl (fil n (Si 1) ze1))), (cd 12, .inl (cI, 40, .inl (fil n (Si 2) ze2))), (cd 13, .inl (cI, 40, .inl (fil n (Si 3) ze3))), (cd 2, .inr (4, [.long rr, .ref (cd 20), .ref (cd 21), .ref (cd 22), .ref (cd 23), .ref (cd 24), .ref (cd 25), .ref (cd 26), .ref (cd 27)]))] := hD
    have ih_108 := ih
    refine lv_iload hx hb dX4_nextUse_108 (lv_at hl 0 rfl) ?_
    refine lv_aload_n hx hb dX4_nextUse_110 rfl (lv_at hl 4 rfl) ?_
    refine va_getN (D := D) (ci := 2) (v := .int (nI n)) (C := RX2) (T := TX2) (N := 11) (ref := "Ironwood$Steps") (host := "Ironwood") hx hb hts in_RX2 hown hK hP 0 rfl rfl 8 (by decide) (hG.1.get 32 rfl) (fun _ h9 => h9) rfl dX4_nextUse_111 ?_
    refine lv_icmp_ge (tgt := 151) hx hb dX4_nextUse_114 (by decide) (fun c_114 => ?_) (fun c_114 => ?_)
    · skip
      have c_114 : n ≤ i := (nI_leI (a := n) (b := i) (by omega) (by omega)).mp c_114
      refine lv_iconst (v := (-1)) hx hb dX4_nextUse_151 (by decide) ?_
      exact ke_i hx hb hr (by first | rfl | decide | exact bz_nar _) () ((hs.trans (sch_ge (by omega))).symm) hP hD hS (Nat.le_of_ble_eq_true rfl) (Nat.le_of_ble_eq_true rfl) hlocks dX4_nextUse_152
    · skip
      have c_114 : i < n := Nat.lt_of_not_le (fun h9 => c_114 ((nI_leI (a := n) (b := i) (by omega) (by omega)).mpr h9))
      refine lv_lload hx hb dX4_nextUse_117 (lv_at hl 2 rfl) ?_
      refine lv_iload hx hb dX4_nextUse_119 (lv_at hl 0 rfl) ?_
      refine kc_i (wr := [(cd 1, .inr (2, [.ref (cd 10), .ref (cd 11), .ref (cd 12), .ref (cd 13), .ref (cd 14), .ref (cd 15), .ref (cd 16), .ref (cd 17), .int (nI n), .int sk, .int cp])), (cd 10, .inl (cI, 40, .inl (fil n (Si 0) ze0))), (cd 11, .inl (cI, 40, .inl (fil n (Si 1) ze1))), (cd 12, .inl (cI, 40, .inl (fil n (Si 2) ze2))), (cd 13, .inl (cI, 40, .inl (fil n (Si 3) ze3))), (cd 2, .inr (4, [.long rr, .ref (cd 20), .ref (cd 21), .ref (cd 22), .ref (cd 23), .ref (cd 24), .ref (cd 25), .ref (cd 26), .ref (cd 27)]))]) (va_runSN (As := [.long (nuC n Si j v), .int (nI i)]) (rest := []) (host := "Ironwood") ⟨hx, hb, hml, hown, hts⟩ (k_isIn l D cI cJ cZ cR (nuC n Si j v) (nI i) _) ⟨va_cnB 2 hts (gB q_470) rfl rfl rfl (hG.1.nw 57 rfl) (hts _ (mc q_64)) (by decide +kernel) ⟨Nat.le_of_ble_eq_true rfl, Nat.le_of_ble_eq_true rfl⟩, hts _ (mc q_469), trivial⟩ ⟨Pw.blind, Pw.mk_call hP hK hD hS hA hG [] rfl (by decide)⟩ rfl rfl hl.1 rfl (lv_room (Nat.le_of_ble_eq_true rfl)) dX4_nextUse_121 ⟨Nat.le_of_ble_eq_true rfl, Nat.le_of_ble_eq_true rfl⟩) hP hD hS hA [] [0, 1, 2, 3, 4, 5] rfl rfl (by decide) (by decide) (fun r_3 u_4 H locs hw hP hD hS => ?_)
      obtain rfl : r_3 = bz (bI (nuC n Si j v) (nI i)) := hw
      have hP : va_P D vwCl [(cd 1, .inr (2, [.ref (cd 10), .ref (cd 11), .ref (cd 12), .ref (cd 13), .ref (cd 14), .ref (cd 15), .ref (cd 16), .ref (cd 17), .int (nI n), .int sk, .int cp])), (cd 10, .inl (cI, 40, .inl (fil n (Si 0) ze0))), (cd 11, .inl (cI, 40, .inl (fil n (Si 1) ze1))), (cd 12, .inl (cI, 40, .inl (fil n (Si 2) ze2))), (cd 13, .inl (cI, 40, .inl (fil n (Si 3) ze3))), (cd 2, .inr (4, [.long rr, .ref (cd 20), .ref (cd 21), .ref (cd 22), .ref (cd 23), .ref (cd 24), .ref (cd 25), .ref (cd 26), .ref (cd 27)]))] _ := hP
      have hD : va_D A [(cd 1, .inr (2, [.ref (cd 10), .ref (cd 11), .ref (cd 12), .ref (cd 13), .ref (cd 14), .ref (cd 15), .ref (cd 16), .ref (cd 17), .int (nI n), .int sk, .int cp])), (cd 10, .inl (cI, 40, .inl (fil n (Si 0) ze0))), (cd 11, .inl (cI, 40, .inl (fil n (Si 1) ze1))), (cd 12, .inl (cI, 40, .inl (fil n (Si 2) ze2))), (cd 13, .inl (cI, 40, .inl (fil n (Si 3) ze3))), (cd 2, .inr (4, [.long rr, .ref (cd 20), .ref (cd 21), .ref (cd 22), .ref (cd 23), .ref (cd 24), .ref (cd 25), .ref (cd 26), .ref (cd 27)]))] := hD
      refine lv_if_eq (tgt := 145) hx hb dX4_nextUse_124 (by decide) (fun c_124 => ?_) (fun c_124 => ?_)
      · skip
        have c_124 : (bI (nuC n Si j v) (nI i)) = false := bz_f c_124
        refine lv_iinc (v := nI (i + 1)) (lv' := [(8, .int (nI (i + 1))), (6, .long cB), (4, .long (nuC n Si j v)), (0, .ref (cd 2)), (1, .ref (cd 1)), (2, .int (nI j)), (3, .int v)]) hx hb dX4_nextUse_145 hl (k := 0) rfl (nI_add i 1) (by decide) rfl (fun ls hl => ?_)
        refine lv_goto (tgt := 108) hx hb dX4_nextUse_148 (by decide) ?_
        exact ih_108 (i + 1) _ _ _ (by show n - (i + 1) < n - i; omega) ⟨by show _ ≤ _; omega, hs.trans (sch_no (by omega) (by first | (simp [nuB, nuP, c_15, (Nat.not_lt.mpr c_15), c_114, (Nat.not_le.mpr c_114), c_124]; done) | (simp [nuB, nuP, if_pos c_15, if_neg (Nat.not_lt.mpr c_15), if_pos c_114, if_neg (Nat.not_le.mpr c_114), if_neg (bnt c_124)]; done) | rfl | (simp [nuB, nuP, c_15, (Nat.not_lt.mpr c_15), c_114, (Nat.not_le.mpr c_114), c_124]; omega))), lv_sub hl [0, 1, 2, 3, 4, 5, 6] rfl, hP, hD, hS⟩
      · skip
        have c_124 : (bI (nuC n Si j v) (nI i)) = true := bz_t c_124
        refine lv_aload_n hx hb dX4_nextUse_127 rfl (lv_at hl 4 rfl) ?_
        refine va_getN (D := D) (ci := 2) (v := .ref (cd 12)) (C := RX2) (T := TX2) (N := 11) (ref := "Ironwood$Steps") (host := "Ironwood") hx hb hts in_RX2 hown hK hP 0 rfl rfl 2 (by decide) (hG.1.get 26 rfl) (fun _ h9 => h9) rfl dX4_nextUse_128 ?_
        refine lv_iload hx hb dX4_nextUse_131 (lv_at hl 0 rfl) ?_
        refine va_iald hx hb hK hP 3 0 rfl rfl (vp_in_nI (n := i) (by omega) (by omega)) dX4_nextUse_133 ?_
        refine tI (v := Si 2 i) ((congrArg (fil n (Si 2) ze2) (nI_clamp (n := i) (by omega))).trans (fil_lt (by omega))) ?_
        refine lv_i2l (v := (Si 2 i).toInt64) hx hb dX4_nextUse_134 rfl ?_
        refine lv_iload_n hx hb dX4_nextUse_135 rfl (lv_at hl 6 rfl) ?_
        refine kc_i (wr := [(cd 1, .inr (2, [.ref (cd 10), .ref (cd 11), .ref (cd 12), .ref (cd 13), .ref (cd 14), .ref (cd 15), .ref (cd 16), .ref (cd 17), .int (nI n), .int sk, .int cp])), (cd 10, .inl (cI, 40, .inl (fil n (Si 0) ze0))), (cd 11, .inl (cI, 40, .inl (fil n (Si 1) ze1))), (cd 12, .inl (cI, 40, .inl (fil n (Si 2) ze2))), (cd 13, .inl (cI, 40, .inl (fil n (Si 3) ze3))), (cd 2, .inr (4, [.long rr, .ref (cd 20), .ref (cd 21), .ref (cd 22), .ref (cd 23), .ref (cd 24), .ref (cd 25), .ref (cd 26), .ref (cd 27)]))]) (va_runSN (As := [.long ((Si 2 i).toInt64), .int v]) (rest := []) (host := "Ironwood") ⟨hx, hb, hml, hown, hts⟩ (k_isIn l D cI cJ cZ cR ((Si 2 i).toInt64) v _) ⟨va_cnB 2 hts (gB q_470) rfl rfl rfl (hG.1.nw 57 rfl) (hts _ (mc q_64)) (by decide +kernel) ⟨Nat.le_of_ble_eq_true rfl, Nat.le_of_ble_eq_true rfl⟩, hts _ (mc q_469), trivial⟩ ⟨Pw.blind, Pw.mk_call hP hK hD hS hA hG [] rfl (by decide)⟩ rfl rfl hl.1 rfl (lv_room (Nat.le_of_ble_eq_true rfl)) dX4_nextUse_136 ⟨Nat.le_of_ble_eq_true rfl, Nat.le_of_ble_eq_true rfl⟩) hP hD hS hA [] [0, 1, 2, 3, 4, 5] rfl rfl (by decide) (by decide) (fun r_5 u_6 H locs hw hP hD hS => ?_)
        obtain rfl : r_5 = bz (bI ((Si 2 i).toInt64) v) := hw
        have hP : va_P D vwCl [(cd 1, .inr (2, [.ref (cd 10), .ref (cd 11), .ref (cd 12), .ref (cd 13), .ref (cd 14), .ref (cd 15), .ref (cd 16), .ref (cd 17), .int (nI n), .int sk, .int cp])), (cd 10, .inl (cI, 40, .inl (fil n (Si 0) ze0))), (cd 11, .inl (cI, 40, .inl (fil n (Si 1) ze1))), (cd 12, .inl (cI, 40, .inl (fil n (Si 2) ze2))), (cd 13, .inl (cI, 40, .inl (fil n (Si 3) ze3))), (cd 2, .inr (4, [.long rr, .ref (cd 20), .ref (cd 21), .ref (cd 22), .ref (cd 23), .ref (cd 24), .ref (cd 25), .ref (cd 26), .ref (cd 27)]))] _ := hP
        have hD : va_D A [(cd 1, .inr (2, [.ref (cd 10), .ref (cd 11), .ref (cd 12), .ref (cd 13), .ref (cd 14), .ref (cd 15), .ref (cd 16), .ref (cd 17), .int (nI n), .int sk, .int cp])), (cd 10, .inl (cI, 40, .inl (fil n (Si 0) ze0))), (cd 11, .inl (cI, 40, .inl (fil n (Si 1) ze1))), (cd 12, .inl (cI, 40, .inl (fil n (Si 2) ze2))), (cd 13, .inl (cI, 40, .inl (fil n (Si 3) ze3))), (cd 2, .inr (4, [.long rr, .ref (cd 20), .ref (cd 21), .ref (cd 22), .ref (cd 23), .ref (cd 24), .ref (cd 25), .ref (cd 26), .ref (cd 27)]))] := hD
        refine lv_if_eq (tgt := 145) hx hb dX4_nextUse_139 (by decide) (fun c_139 => ?_) (fun c_139 => ?_)
        · skip
          have c_139 : (bI ((Si 2 i).toInt64) v) = false := bz_f c_139
          refine lv_iinc (v := nI (i + 1)) (lv' := [(8, .int (nI (i + 1))), (6, .long cB), (4, .long (nuC n Si j v)), (0, .ref (cd 2)), (1, .ref (cd 1)), (2, .int (nI j)), (3, .int v)]) hx hb dX4_nextUse_145 hl (k := 0) rfl (nI_add i 1) (by decide) rfl (fun ls hl => ?_)
          refine lv_goto (tgt := 108) hx hb dX4_nextUse_148 (by decide) ?_
          exact ih_108 (i + 1) _ _ _ (by show n - (i + 1) < n - i; omega) ⟨by show _ ≤ _; omega, hs.trans (sch_no (by omega) (by first | (simp [nuB, nuP, c_15, (Nat.not_lt.mpr c_15), c_114, (Nat.not_le.mpr c_114), c_124, c_139]; done) | (simp [nuB, nuP, if_pos c_15, if_neg (Nat.not_lt.mpr c_15), if_pos c_114, if_neg (Nat.not_le.mpr c_114), if_pos c_124, if_neg (bnt c_139)]; done) | rfl | (simp [nuB, nuP, c_15, (Nat.not_lt.mpr c_15), c_114, (Nat.not_le.mpr c_114), c_124, c_139]; omega))), lv_sub hl [0, 1, 2, 3, 4, 5, 6] rfl, hP, hD, hS⟩
        · skip
          have c_139 : (bI ((Si 2 i).toInt64) v) = true := bz_t c_139
          refine lv_iload hx hb dX4_nextUse_142 (lv_at hl 0 rfl) ?_
          exact ke_i hx hb hr (by first | rfl | decide | exact bz_nar _) () ((hs.trans (sch_hit (by omega) (by simp [nuP, c_124, c_139]))).symm) hP hD hS (Nat.le_of_ble_eq_true rfl) (Nat.le_of_ble_eq_true rfl) hlocks dX4_nextUse_144
  · skip
    have c_15 : r < 1000000 := Nat.lt_of_not_le (fun h9 => c_15 ((nI_leI (a := 1000000) (b := r) (by omega) (by omega)).mpr h9))
    refine lv_lload hx hb dX4_nextUse_18 (lv_at hl 2 rfl) ?_
    refine lv_lload hx hb dX4_nextUse_20 (lv_at hl 1 rfl) ?_
    refine W.lcmp hx hb dX4_nextUse_22 ?_
    refine tI (v := lg_cmp cA cB) rfl ?_
    refine lv_if_eq (tgt := 105) hx hb dX4_nextUse_23 (by decide) (fun c_23 => ?_) (fun c_23 => ?_)
    · skip
      have c_23 : cA = cB := (lg_cmp_eq _ _).mp c_23
      have hfe : cA = nuC n Si j v := (hf.trans (fxr_end (Or.inr (decide_eq_false (fun h => h c_23))))).symm
      rw [hfe] at hl
      have hP : va_P D vwCl [(cd 1, .inr (2, [.ref (cd 10), .ref (cd 11), .ref (cd 12), .ref (cd 13), .ref (cd 14), .ref (cd 15), .ref (cd 16), .ref (cd 17), .int (nI n), .int sk, .int cp])), (cd 10, .inl (cI, 40, .inl (fil n (Si 0) ze0))), (cd 11, .inl (cI, 40, .inl (fil n (Si 1) ze1))), (cd 12, .inl (cI, 40, .inl (fil n (Si 2) ze2))), (cd 13, .inl (cI, 40, .inl (fil n (Si 3) ze3))), (cd 2, .inr (4, [.long rr, .ref (cd 20), .ref (cd 21), .ref (cd 22), .ref (cd 23), .ref (cd 24), .ref (cd 25), .ref (cd 26), .ref (cd 27)]))] _ := hP
      have hD : va_D A [(cd 1, .inr (2, [.ref (cd 10), .ref (cd 11), .ref (cd 12), .ref (cd 13), .ref (cd 14), .ref (cd 15), .ref (cd 16), .ref (cd 17), .int (nI n), .int sk, .int cp])), (cd 10, .inl (cI, 40, .inl (fil n (Si 0) ze0))), (cd 11, .inl (cI, 40, .inl (fil n (Si 1) ze1))), (cd 12, .inl (cI, 40, .inl (fil n (Si 2) ze2))), (cd 13, .inl (cI, 40, .inl (fil n (Si 3) ze3))), (cd 2, .inr (4, [.long rr, .ref (cd 20), .ref (cd 21), .ref (cd 22), .ref (cd 23), .ref (cd 24), .ref (cd 25), .ref (cd 26), .ref (cd 27)]))] := hD
      have hl : lv_has ls 10 [(8, .int (nI r)), (6, .long cB), (4, .long (nuC n Si j v)), (0, .ref (cd 2)), (1, .ref (cd 1)), (2, .int (nI j)), (3, .int v)] := hl
      refine lv_iconst (v := 0) hx hb dX4_nextUse_105 (by decide) ?_
      refine lv_istore (lv' := [(8, .int 0), (6, .long cB), (4, .long (nuC n Si j v)), (0, .ref (cd 2)), (1, .ref (cd 1)), (2, .int (nI j)), (3, .int v)]) hx hb dX4_nextUse_106 hl (by decide) rfl (fun ls hl => ?_)
      refine W_loop (σ := (Nat)) (fun i => n - i) (fun i ls H locs => (i ≤ n) ∧ (nuF n Si j v = sch (nuP Si v (nuC n Si j v)) n i) ∧ lv_has ls 10 [(8, .int (nI i)), (6, .long cB), (4, .long (nuC n Si j v)), (0, .ref (cd 2)), (1, .ref (cd 1)), (2, .int (nI j)), (3, .int v)] ∧ va_P D vwCl [(cd 1, .inr (2, [.ref (cd 10), .ref (cd 11), .ref (cd 12), .ref (cd 13), .ref (cd 14), .ref (cd 15), .ref (cd 16), .ref (cd 17), .int (nI n), .int sk, .int cp])), (cd 10, .inl (cI, 40, .inl (fil n (Si 0) ze0))), (cd 11, .inl (cI, 40, .inl (fil n (Si 1) ze1))), (cd 12, .inl (cI, 40, .inl (fil n (Si 2) ze2))), (cd 13, .inl (cI, 40, .inl (fil n (Si 3) ze3))), (cd 2, .inr (4, [.long rr, .ref (cd 20), .ref (cd 21), .ref (cd 22), .ref (cd 23), .ref (cd 24), .ref (cd 25), .ref (cd 26), .ref (cd 27)]))] H ∧ va_D A [(cd 1, .inr (2, [.ref (cd 10), .ref (cd 11), .ref (cd 12), .ref (cd 13), .ref (cd 14), .ref (cd 15), .ref (cd 16), .ref (cd 17), .int (nI n), .int sk, .int cp])), (cd 10, .inl (cI, 40, .inl (fil n (Si 0) ze0))), (cd 11, .inl (cI, 40, .inl (fil n (Si 1) ze1))), (cd 12, .inl (cI, 40, .inl (fil n (Si 2) ze2))), (cd 13, .inl (cI, 40, .inl (fil n (Si 3) ze3))), (cd 2, .inr (4, [.long rr, .ref (cd 20), .ref (cd 21), .ref (cd 22), .ref (cd 23), .ref (cd 24), .ref (cd 25), .ref (cd 26), .ref (cd 27)]))] ∧ va_S A s.heap H locs) ?_ (0) _ _ _ ⟨Nat.zero_le _, rfl, lv_sub hl (l' := [(8, .int 0), (6, .long cB), (4, .long (nuC n Si j v)), (0, .ref (cd 2)), (1, .ref (cd 1)), (2, .int (nI j)), (3, .int v)]) [0, 1, 2, 3, 4, 5, 6] rfl, hP, hD, hS⟩
      rintro i ls H locs ⟨hi, hs, hl, hP, hD, hS⟩ ih
      have hi : i ≤ n := hi
      have hs : nuF n Si j v = sch (nuP Si v (nuC n Si j v)) n i := hs
      have hl : lv_has ls 10 [(8, .int (nI i)), (6, .long cB), (4, .long (nuC n Si j v)), (0, .ref (cd 2)), (1, .ref (cd 1)), (2, .int (nI j)), (3, .int v)] := hl
      have hP : va_P D vwCl [(cd 1, .inr (2, [.ref (cd 10), .ref (cd 11), .ref (cd 12), .ref (cd 13), .ref (cd 14), .ref (cd 15), .ref (cd 16), .ref (cd 17), .int (nI n), .int sk, .int cp])), (cd 10, .inl (cI, 40, .inl (fil n (Si 0) ze0))), (cd 11, .inl (cI, 40, .inl (fil n (Si 1) ze1))), (cd 12, .inl (cI, 40, .inl (fil n (Si 2) ze2))), (cd 13, .inl (cI, 40, .inl (fil n (Si 3) ze3))), (cd 2, .inr (4, [.long rr, .ref (cd 20), .ref (cd 21), .ref (cd 22), .ref (cd 23), .ref (cd 24), .ref (cd 25), .ref (cd 26), .ref (cd 27)]))] _ := hP
      have hD : va_D A [(cd 1, .inr (2, [.ref (cd 10), .ref (cd 11), .ref (cd 12), .ref (cd 13), .ref (cd 14), .ref (cd 15), .ref (cd 16), .ref (cd 17), .int (nI n), .int sk, .int cp])), (cd 10, .inl (cI, 40, .inl (fil n (Si 0) ze0))), (cd 11, .inl (cI, 40, .inl (fil n (Si 1) ze1))), (cd 12, .inl (cI, 40, .inl (fil n (Si 2) ze2))), (cd 13, .inl (cI, 40, .inl (fil n (Si 3) ze3))), (cd 2, .inr (4, [.long rr, .ref (cd 20), .ref (cd 21), .ref (cd 22), .ref (cd 23), .ref (cd 24), .ref (cd 25), .ref (cd 26), .ref (cd 27)]))] := hD
      have ih_108 := ih
      refine lv_iload hx hb dX4_nextUse_108 (lv_at hl 0 rfl) ?_
      refine lv_aload_n hx hb dX4_nextUse_110 rfl (lv_at hl 4 rfl) ?_
      refine va_getN (D := D) (ci := 2) (v := .int (nI n)) (C := RX2) (T := TX2) (N := 11) (ref := "Ironwood$Steps") (host := "Ironwood") hx hb hts in_RX2 hown hK hP 0 rfl rfl 8 (by decide) (hG.1.get 32 rfl) (fun _ h9 => h9) rfl dX4_nextUse_111 ?_
      refine lv_icmp_ge (tgt := 151) hx hb dX4_nextUse_114 (by decide) (fun c_114 => ?_) (fun c_114 => ?_)
      · skip
        have c_114 : n ≤ i := (nI_leI (a := n) (b := i) (by omega) (by omega)).mp c_114
        refine lv_iconst (v := (-1)) hx hb dX4_nextUse_151 (by decide) ?_
        exact ke_i hx hb hr (by first | rfl | decide | exact bz_nar _) () ((hs.trans (sch_ge (by omega))).symm) hP hD hS (Nat.le_of_ble_eq_true rfl) (Nat.le_of_ble_eq_true rfl) hlocks dX4_nextUse_152
      · skip
        have c_114 : i < n := Nat.lt_of_not_le (fun h9 => c_114 ((nI_leI (a := n) (b := i) (by omega) (by omega)).mpr h9))
        refine lv_lload hx hb dX4_nextUse_117 (lv_at hl 2 rfl) ?_
        refine lv_iload hx hb dX4_nextUse_119 (lv_at hl 0 rfl) ?_
        refine kc_i (wr := [(cd 1, .inr (2, [.ref (cd 10), .ref (cd 11), .ref (cd 12), .ref (cd 13), .ref (cd 14), .ref (cd 15), .ref (cd 16), .ref (cd 17), .int (nI n), .int sk, .int cp])), (cd 10, .inl (cI, 40, .inl (fil n (Si 0) ze0))), (cd 11, .inl (cI, 40, .inl (fil n (Si 1) ze1))), (cd 12, .inl (cI, 40, .inl (fil n (Si 2) ze2))), (cd 13, .inl (cI, 40, .inl (fil n (Si 3) ze3))), (cd 2, .inr (4, [.long rr, .ref (cd 20), .ref (cd 21), .ref (cd 22), .ref (cd 23), .ref (cd 24), .ref (cd 25), .ref (cd 26), .ref (cd 27)]))]) (va_runSN (As := [.long (nuC n Si j v), .int (nI i)]) (rest := []) (host := "Ironwood") ⟨hx, hb, hml, hown, hts⟩ (k_isIn l D cI cJ cZ cR (nuC n Si j v) (nI i) _) ⟨va_cnB 2 hts (gB q_470) rfl rfl rfl (hG.1.nw 57 rfl) (hts _ (mc q_64)) (by decide +kernel) ⟨Nat.le_of_ble_eq_true rfl, Nat.le_of_ble_eq_true rfl⟩, hts _ (mc q_469), trivial⟩ ⟨Pw.blind, Pw.mk_call hP hK hD hS hA hG [] rfl (by decide)⟩ rfl rfl hl.1 rfl (lv_room (Nat.le_of_ble_eq_true rfl)) dX4_nextUse_121 ⟨Nat.le_of_ble_eq_true rfl, Nat.le_of_ble_eq_true rfl⟩) hP hD hS hA [] [0, 1, 2, 3, 4, 5] rfl rfl (by decide) (by decide) (fun r_8 u_9 H locs hw hP hD hS => ?_)
        obtain rfl : r_8 = bz (bI (nuC n Si j v) (nI i)) := hw
        have hP : va_P D vwCl [(cd 1, .inr (2, [.ref (cd 10), .ref (cd 11), .ref (cd 12), .ref (cd 13), .ref (cd 14), .ref (cd 15), .ref (cd 16), .ref (cd 17), .int (nI n), .int sk, .int cp])), (cd 10, .inl (cI, 40, .inl (fil n (Si 0) ze0))), (cd 11, .inl (cI, 40, .inl (fil n (Si 1) ze1))), (cd 12, .inl (cI, 40, .inl (fil n (Si 2) ze2))), (cd 13, .inl (cI, 40, .inl (fil n (Si 3) ze3))), (cd 2, .inr (4, [.long rr, .ref (cd 20), .ref (cd 21), .ref (cd 22), .ref (cd 23), .ref (cd 24), .ref (cd 25), .ref (cd 26), .ref (cd 27)]))] _ := hP
        have hD : va_D A [(cd 1, .inr (2, [.ref (cd 10), .ref (cd 11), .ref (cd 12), .ref (cd 13), .ref (cd 14), .ref (cd 15), .ref (cd 16), .ref (cd 17), .int (nI n), .int sk, .int cp])), (cd 10, .inl (cI, 40, .inl (fil n (Si 0) ze0))), (cd 11, .inl (cI, 40, .inl (fil n (Si 1) ze1))), (cd 12, .inl (cI, 40, .inl (fil n (Si 2) ze2))), (cd 13, .inl (cI, 40, .inl (fil n (Si 3) ze3))), (cd 2, .inr (4, [.long rr, .ref (cd 20), .ref (cd 21), .ref (cd 22), .ref (cd 23), .ref (cd 24), .ref (cd 25), .ref (cd 26), .ref (cd 27)]))] := hD
        refine lv_if_eq (tgt := 145) hx hb dX4_nextUse_124 (by decide) (fun c_124 => ?_) (fun c_124 => ?_)
        · skip
          have c_124 : (bI (nuC n Si j v) (nI i)) = false := bz_f c_124
          refine lv_iinc (v := nI (i + 1)) (lv' := [(8, .int (nI (i + 1))), (6, .long cB), (4, .long (nuC n Si j v)), (0, .ref (cd 2)), (1, .ref (cd 1)), (2, .int (nI j)), (3, .int v)]) hx hb dX4_nextUse_145 hl (k := 0) rfl (nI_add i 1) (by decide) rfl (fun ls hl => ?_)
          refine lv_goto (tgt := 108) hx hb dX4_nextUse_148 (by decide) ?_
          exact ih_108 (i + 1) _ _ _ (by show n - (i + 1) < n - i; omega) ⟨by show _ ≤ _; omega, hs.trans (sch_no (by omega) (by first | (simp [nuB, nuP, c_15, (Nat.not_le.mpr c_15), c_23, c_114, (Nat.not_le.mpr c_114), c_124]; done) | (simp [nuB, nuP, if_pos c_15, if_neg (Nat.not_le.mpr c_15), if_pos c_23, if_pos c_114, if_neg (Nat.not_le.mpr c_114), if_neg (bnt c_124)]; done) | rfl | (simp [nuB, nuP, c_15, (Nat.not_le.mpr c_15), c_23, c_114, (Nat.not_le.mpr c_114), c_124]; omega))), lv_sub hl [0, 1, 2, 3, 4, 5, 6] rfl, hP, hD, hS⟩
        · skip
          have c_124 : (bI (nuC n Si j v) (nI i)) = true := bz_t c_124
          refine lv_aload_n hx hb dX4_nextUse_127 rfl (lv_at hl 4 rfl) ?_
          refine va_getN (D := D) (ci := 2) (v := .ref (cd 12)) (C := RX2) (T := TX2) (N := 11) (ref := "Ironwood$Steps") (host := "Ironwood") hx hb hts in_RX2 hown hK hP 0 rfl rfl 2 (by decide) (hG.1.get 26 rfl) (fun _ h9 => h9) rfl dX4_nextUse_128 ?_
          refine lv_iload hx hb dX4_nextUse_131 (lv_at hl 0 rfl) ?_
          refine va_iald hx hb hK hP 3 0 rfl rfl (vp_in_nI (n := i) (by omega) (by omega)) dX4_nextUse_133 ?_
          refine tI (v := Si 2 i) ((congrArg (fil n (Si 2) ze2) (nI_clamp (n := i) (by omega))).trans (fil_lt (by omega))) ?_
          refine lv_i2l (v := (Si 2 i).toInt64) hx hb dX4_nextUse_134 rfl ?_
          refine lv_iload_n hx hb dX4_nextUse_135 rfl (lv_at hl 6 rfl) ?_
          refine kc_i (wr := [(cd 1, .inr (2, [.ref (cd 10), .ref (cd 11), .ref (cd 12), .ref (cd 13), .ref (cd 14), .ref (cd 15), .ref (cd 16), .ref (cd 17), .int (nI n), .int sk, .int cp])), (cd 10, .inl (cI, 40, .inl (fil n (Si 0) ze0))), (cd 11, .inl (cI, 40, .inl (fil n (Si 1) ze1))), (cd 12, .inl (cI, 40, .inl (fil n (Si 2) ze2))), (cd 13, .inl (cI, 40, .inl (fil n (Si 3) ze3))), (cd 2, .inr (4, [.long rr, .ref (cd 20), .ref (cd 21), .ref (cd 22), .ref (cd 23), .ref (cd 24), .ref (cd 25), .ref (cd 26), .ref (cd 27)]))]) (va_runSN (As := [.long ((Si 2 i).toInt64), .int v]) (rest := []) (host := "Ironwood") ⟨hx, hb, hml, hown, hts⟩ (k_isIn l D cI cJ cZ cR ((Si 2 i).toInt64) v _) ⟨va_cnB 2 hts (gB q_470) rfl rfl rfl (hG.1.nw 57 rfl) (hts _ (mc q_64)) (by decide +kernel) ⟨Nat.le_of_ble_eq_true rfl, Nat.le_of_ble_eq_true rfl⟩, hts _ (mc q_469), trivial⟩ ⟨Pw.blind, Pw.mk_call hP hK hD hS hA hG [] rfl (by decide)⟩ rfl rfl hl.1 rfl (lv_room (Nat.le_of_ble_eq_true rfl)) dX4_nextUse_136 ⟨Nat.le_of_ble_eq_true rfl, Nat.le_of_ble_eq_true rfl⟩) hP hD hS hA [] [0, 1, 2, 3, 4, 5] rfl rfl (by decide) (by decide) (fun r_10 u_11 H locs hw hP hD hS => ?_)
          obtain rfl : r_10 = bz (bI ((Si 2 i).toInt64) v) := hw
          have hP : va_P D vwCl [(cd 1, .inr (2, [.ref (cd 10), .ref (cd 11), .ref (cd 12), .ref (cd 13), .ref (cd 14), .ref (cd 15), .ref (cd 16), .ref (cd 17), .int (nI n), .int sk, .int cp])), (cd 10, .inl (cI, 40, .inl (fil n (Si 0) ze0))), (cd 11, .inl (cI, 40, .inl (fil n (Si 1) ze1))), (cd 12, .inl (cI, 40, .inl (fil n (Si 2) ze2))), (cd 13, .inl (cI, 40, .inl (fil n (Si 3) ze3))), (cd 2, .inr (4, [.long rr, .ref (cd 20), .ref (cd 21), .ref (cd 22), .ref (cd 23), .ref (cd 24), .ref (cd 25), .ref (cd 26), .ref (cd 27)]))] _ := hP
          have hD : va_D A [(cd 1, .inr (2, [.ref (cd 10), .ref (cd 11), .ref (cd 12), .ref (cd 13), .ref (cd 14), .ref (cd 15), .ref (cd 16), .ref (cd 17), .int (nI n), .int sk, .int cp])), (cd 10, .inl (cI, 40, .inl (fil n (Si 0) ze0))), (cd 11, .inl (cI, 40, .inl (fil n (Si 1) ze1))), (cd 12, .inl (cI, 40, .inl (fil n (Si 2) ze2))), (cd 13, .inl (cI, 40, .inl (fil n (Si 3) ze3))), (cd 2, .inr (4, [.long rr, .ref (cd 20), .ref (cd 21), .ref (cd 22), .ref (cd 23), .ref (cd 24), .ref (cd 25), .ref (cd 26), .ref (cd 27)]))] := hD
          refine lv_if_eq (tgt := 145) hx hb dX4_nextUse_139 (by decide) (fun c_139 => ?_) (fun c_139 => ?_)
          · skip
            have c_139 : (bI ((Si 2 i).toInt64) v) = false := bz_f c_139
            refine lv_iinc (v := nI (i + 1)) (lv' := [(8, .int (nI (i + 1))), (6, .long cB), (4, .long (nuC n Si j v)), (0, .ref (cd 2)), (1, .ref (cd 1)), (2, .int (nI j)), (3, .int v)]) hx hb dX4_nextUse_145 hl (k := 0) rfl (nI_add i 1) (by decide) rfl (fun ls hl => ?_)
            refine lv_goto (tgt := 108) hx hb dX4_nextUse_148 (by decide) ?_
            exact ih_108 (i + 1) _ _ _ (by show n - (i + 1) < n - i; omega) ⟨by show _ ≤ _; omega, hs.trans (sch_no (by omega) (by first | (simp [nuB, nuP, c_15, (Nat.not_le.mpr c_15), c_23, c_114, (Nat.not_le.mpr c_114), c_124, c_139]; done) | (simp [nuB, nuP, if_pos c_15, if_neg (Nat.not_le.mpr c_15), if_pos c_23, if_pos c_114, if_neg (Nat.not_le.mpr c_114), if_pos c_124, if_neg (bnt c_139)]; done) | rfl | (simp [nuB, nuP, c_15, (Nat.not_le.mpr c_15), c_23, c_114, (Nat.not_le.mpr c_114), c_124, c_139]; omega))), lv_sub hl [0, 1, 2, 3, 4, 5, 6] rfl, hP, hD, hS⟩
          · skip
            have c_139 : (bI ((Si 2 i).toInt64) v) = true := bz_t c_139
            refine lv_iload hx hb dX4_nextUse_142 (lv_at hl 0 rfl) ?_
            exact ke_i hx hb hr (by first | rfl | decide | exact bz_nar _) () ((hs.trans (sch_hit (by omega) (by simp [nuP, c_124, c_139]))).symm) hP hD hS (Nat.le_of_ble_eq_true rfl) (Nat.le_of_ble_eq_true rfl) hlocks dX4_nextUse_144
    · skip
      have c_23 : ¬ cA = cB := fun h9 => c_23 ((lg_cmp_eq _ _).mpr h9)
      have hf2 := hf.trans ((congrArg (fun z => fxr (nuR n Si v) (1000000 - r) cA z) (decide_eq_true c_23)).trans (fxr_go1 (by omega)))
      refine lv_lload hx hb dX4_nextUse_26 (lv_at hl 2 rfl) ?_
      refine lv_lstore (lv' := [(6, .long cA), (8, .int (nI r)), (4, .long cA), (0, .ref (cd 2)), (1, .ref (cd 1)), (2, .int (nI j)), (3, .int v)]) hx hb dX4_nextUse_28 hl (by decide) rfl (fun ls hl => ?_)
      refine lv_iconst (v := 0) hx hb dX4_nextUse_30 (by decide) ?_
      refine lv_istore (lv' := [(9, .int 0), (6, .long cA), (8, .int (nI r)), (4, .long cA), (0, .ref (cd 2)), (1, .ref (cd 1)), (2, .int (nI j)), (3, .int v)]) hx hb dX4_nextUse_31 hl (by decide) rfl (fun ls hl => ?_)
      refine W_loop (σ := (Nat) × (Int64)) (fun ⟨k, cC⟩ => n - k) (fun ⟨k, cC⟩ ls H locs => (k ≤ n) ∧ (itF (nuB Si v) n 0 cA = itF (nuB Si v) n k cC) ∧ lv_has ls 10 [(9, .int (nI k)), (6, .long cA), (8, .int (nI r)), (4, .long cC), (0, .ref (cd 2)), (1, .ref (cd 1)), (2, .int (nI j)), (3, .int v)] ∧ va_P D vwCl [(cd 1, .inr (2, [.ref (cd 10), .ref (cd 11), .ref (cd 12), .ref (cd 13), .ref (cd 14), .ref (cd 15), .ref (cd 16), .ref (cd 17), .int (nI n), .int sk, .int cp])), (cd 10, .inl (cI, 40, .inl (fil n (Si 0) ze0))), (cd 11, .inl (cI, 40, .inl (fil n (Si 1) ze1))), (cd 12, .inl (cI, 40, .inl (fil n (Si 2) ze2))), (cd 13, .inl (cI, 40, .inl (fil n (Si 3) ze3))), (cd 2, .inr (4, [.long rr, .ref (cd 20), .ref (cd 21), .ref (cd 22), .ref (cd 23), .ref (cd 24), .ref (cd 25), .ref (cd 26), .ref (cd 27)]))] H ∧ va_D A [(cd 1, .inr (2, [.ref (cd 10), .ref (cd 11), .ref (cd 12), .ref (cd 13), .ref (cd 14), .ref (cd 15), .ref (cd 16), .ref (cd 17), .int (nI n), .int sk, .int cp])), (cd 10, .inl (cI, 40, .inl (fil n (Si 0) ze0))), (cd 11, .inl (cI, 40, .inl (fil n (Si 1) ze1))), (cd 12, .inl (cI, 40, .inl (fil n (Si 2) ze2))), (cd 13, .inl (cI, 40, .inl (fil n (Si 3) ze3))), (cd 2, .inr (4, [.long rr, .ref (cd 20), .ref (cd 21), .ref (cd 22), .ref (cd 23), .ref (cd 24), .ref (cd 25), .ref (cd 26), .ref (cd 27)]))] ∧ va_S A s.heap H locs) ?_ (0, cA) _ _ _ ⟨Nat.zero_le _, rfl, lv_sub hl (l' := [(9, .int 0), (6, .long cA), (8, .int (nI r)), (4, .long cA), (0, .ref (cd 2)), (1, .ref (cd 1)), (2, .int (nI j)), (3, .int v)]) [0, 1, 2, 3, 4, 5, 6, 7] rfl, hP, hD, hS⟩
      rintro ⟨k, cC⟩ ls H locs ⟨hk, hfj, hl, hP, hD, hS⟩ ih
      have hk : k ≤ n := hk
      have hfj : itF (nuB Si v) n 0 cA = itF (nuB Si v) n k cC := hfj
      have hl : lv_has ls 10 [(9, .int (nI k)), (6, .long cA), (8, .int (nI r)), (4, .long cC), (0, .ref (cd 2)), (1, .ref (cd 1)), (2, .int (nI j)), (3, .int v)] := hl
      have hP : va_P D vwCl [(cd 1, .inr (2, [.ref (cd 10), .ref (cd 11), .ref (cd 12), .ref (cd 13), .ref (cd 14), .ref (cd 15), .ref (cd 16), .ref (cd 17), .int (nI n), .int sk, .int cp])), (cd 10, .inl (cI, 40, .inl (fil n (Si 0) ze0))), (cd 11, .inl (cI, 40, .inl (fil n (Si 1) ze1))), (cd 12, .inl (cI, 40, .inl (fil n (Si 2) ze2))), (cd 13, .inl (cI, 40, .inl (fil n (Si 3) ze3))), (cd 2, .inr (4, [.long rr, .ref (cd 20), .ref (cd 21), .ref (cd 22), .ref (cd 23), .ref (cd 24), .ref (cd 25), .ref (cd 26), .ref (cd 27)]))] _ := hP
      have hD : va_D A [(cd 1, .inr (2, [.ref (cd 10), .ref (cd 11), .ref (cd 12), .ref (cd 13), .ref (cd 14), .ref (cd 15), .ref (cd 16), .ref (cd 17), .int (nI n), .int sk, .int cp])), (cd 10, .inl (cI, 40, .inl (fil n (Si 0) ze0))), (cd 11, .inl (cI, 40, .inl (fil n (Si 1) ze1))), (cd 12, .inl (cI, 40, .inl (fil n (Si 2) ze2))), (cd 13, .inl (cI, 40, .inl (fil n (Si 3) ze3))), (cd 2, .inr (4, [.long rr, .ref (cd 20), .ref (cd 21), .ref (cd 22), .ref (cd 23), .ref (cd 24), .ref (cd 25), .ref (cd 26), .ref (cd 27)]))] := hD
      have ih_33 := ih
      refine lv_iload hx hb dX4_nextUse_33 (lv_at hl 0 rfl) ?_
      refine lv_aload_n hx hb dX4_nextUse_35 rfl (lv_at hl 5 rfl) ?_
      refine va_getN (D := D) (ci := 2) (v := .int (nI n)) (C := RX2) (T := TX2) (N := 11) (ref := "Ironwood$Steps") (host := "Ironwood") hx hb hts in_RX2 hown hK hP 0 rfl rfl 8 (by decide) (hG.1.get 32 rfl) (fun _ h9 => h9) rfl dX4_nextUse_36 ?_
      refine lv_icmp_ge (tgt := 99) hx hb dX4_nextUse_39 (by decide) (fun c_39 => ?_) (fun c_39 => ?_)
      · skip
        have c_39 : n ≤ k := (nI_leI (a := n) (b := k) (by omega) (by omega)).mp c_39
        have hfi := hfj.trans (itF_ge (by omega))
        refine lv_iinc (v := nI (r + 1)) (lv' := [(8, .int (nI (r + 1))), (9, .int (nI k)), (6, .long cA), (4, .long cC), (0, .ref (cd 2)), (1, .ref (cd 1)), (2, .int (nI j)), (3, .int v)]) hx hb dX4_nextUse_99 hl (k := 2) rfl (nI_add r 1) (by decide) rfl (fun ls hl => ?_)
        refine lv_goto (tgt := 11) hx hb dX4_nextUse_102 (by decide) ?_
        exact ih_11 (r + 1, cC, cA) _ _ _ (by show 1000000 - (r + 1) < 1000000 - r; omega) ⟨by show _ ≤ _; omega, hf2.trans (by rw [show 1000000 - (r + 1) = 1000000 - r - 1 by omega]; simp only [nuR]; rw [hfi]), lv_sub hl [0, 2, 3, 4, 5, 6, 7] rfl, hP, hD, hS⟩
      · skip
        have c_39 : k < n := Nat.lt_of_not_le (fun h9 => c_39 ((nI_leI (a := n) (b := k) (by omega) (by omega)).mpr h9))
        refine lv_lload hx hb dX4_nextUse_42 (lv_at hl 3 rfl) ?_
        refine lv_iload hx hb dX4_nextUse_44 (lv_at hl 0 rfl) ?_
        refine kc_i (wr := [(cd 1, .inr (2, [.ref (cd 10), .ref (cd 11), .ref (cd 12), .ref (cd 13), .ref (cd 14), .ref (cd 15), .ref (cd 16), .ref (cd 17), .int (nI n), .int sk, .int cp])), (cd 10, .inl (cI, 40, .inl (fil n (Si 0) ze0))), (cd 11, .inl (cI, 40, .inl (fil n (Si 1) ze1))), (cd 12, .inl (cI, 40, .inl (fil n (Si 2) ze2))), (cd 13, .inl (cI, 40, .inl (fil n (Si 3) ze3))), (cd 2, .inr (4, [.long rr, .ref (cd 20), .ref (cd 21), .ref (cd 22), .ref (cd 23), .ref (cd 24), .ref (cd 25), .ref (cd 26), .ref (cd 27)]))]) (va_runSN (As := [.long cC, .int (nI k)]) (rest := []) (host := "Ironwood") ⟨hx, hb, hml, hown, hts⟩ (k_isIn l D cI cJ cZ cR cC (nI k) _) ⟨va_cnB 2 hts (gB q_470) rfl rfl rfl (hG.1.nw 57 rfl) (hts _ (mc q_64)) (by decide +kernel) ⟨Nat.le_of_ble_eq_true rfl, Nat.le_of_ble_eq_true rfl⟩, hts _ (mc q_469), trivial⟩ ⟨Pw.blind, Pw.mk_call hP hK hD hS hA hG [] rfl (by decide)⟩ rfl rfl hl.1 rfl (lv_room (Nat.le_of_ble_eq_true rfl)) dX4_nextUse_46 ⟨Nat.le_of_ble_eq_true rfl, Nat.le_of_ble_eq_true rfl⟩) hP hD hS hA [] [0, 1, 2, 3, 4, 5] rfl rfl (by decide) (by decide) (fun r_13 u_14 H locs hw hP hD hS => ?_)
        obtain rfl : r_13 = bz (bI cC (nI k)) := hw
        have hP : va_P D vwCl [(cd 1, .inr (2, [.ref (cd 10), .ref (cd 11), .ref (cd 12), .ref (cd 13), .ref (cd 14), .ref (cd 15), .ref (cd 16), .ref (cd 17), .int (nI n), .int sk, .int cp])), (cd 10, .inl (cI, 40, .inl (fil n (Si 0) ze0))), (cd 11, .inl (cI, 40, .inl (fil n (Si 1) ze1))), (cd 12, .inl (cI, 40, .inl (fil n (Si 2) ze2))), (cd 13, .inl (cI, 40, .inl (fil n (Si 3) ze3))), (cd 2, .inr (4, [.long rr, .ref (cd 20), .ref (cd 21), .ref (cd 22), .ref (cd 23), .ref (cd 24), .ref (cd 25), .ref (cd 26), .ref (cd 27)]))] _ := hP
        have hD : va_D A [(cd 1, .inr (2, [.ref (cd 10), .ref (cd 11), .ref (cd 12), .ref (cd 13), .ref (cd 14), .ref (cd 15), .ref (cd 16), .ref (cd 17), .int (nI n), .int sk, .int cp])), (cd 10, .inl (cI, 40, .inl (fil n (Si 0) ze0))), (cd 11, .inl (cI, 40, .inl (fil n (Si 1) ze1))), (cd 12, .inl (cI, 40, .inl (fil n (Si 2) ze2))), (cd 13, .inl (cI, 40, .inl (fil n (Si 3) ze3))), (cd 2, .inr (4, [.long rr, .ref (cd 20), .ref (cd 21), .ref (cd 22), .ref (cd 23), .ref (cd 24), .ref (cd 25), .ref (cd 26), .ref (cd 27)]))] := hD
        refine lv_if_eq (tgt := 93) hx hb dX4_nextUse_49 (by decide) (fun c_49 => ?_) (fun c_49 => ?_)
        · skip
          have c_49 : (bI cC (nI k)) = false := bz_f c_49
          refine lv_iinc (v := nI (k + 1)) (lv' := [(9, .int (nI (k + 1))), (6, .long cA), (8, .int (nI r)), (4, .long cC), (0, .ref (cd 2)), (1, .ref (cd 1)), (2, .int (nI j)), (3, .int v)]) hx hb dX4_nextUse_93 hl (k := 0) rfl (nI_add k 1) (by decide) rfl (fun ls hl => ?_)
          refine lv_goto (tgt := 33) hx hb dX4_nextUse_96 (by decide) ?_
          exact ih_33 (k + 1, cC) _ _ _ (by show n - (k + 1) < n - k; omega) ⟨by show _ ≤ _; omega, hfj.trans ((itF_lt (by omega)).trans (congrArg _ (by first | (simp [nuB, nuP, c_15, (Nat.not_le.mpr c_15), c_23, c_39, (Nat.not_le.mpr c_39), c_49]; done) | (simp [nuB, nuP, if_pos c_15, if_neg (Nat.not_le.mpr c_15), if_neg c_23, if_pos c_39, if_neg (Nat.not_le.mpr c_39), if_neg (bnt c_49)]; done) | rfl | (simp [nuB, nuP, c_15, (Nat.not_le.mpr c_15), c_23, c_39, (Nat.not_le.mpr c_39), c_49]; omega)))), lv_sub hl [0, 1, 2, 3, 4, 5, 6, 7] rfl, hP, hD, hS⟩
        · skip
          have c_49 : (bI cC (nI k)) = true := bz_t c_49
          refine lv_aload_n hx hb dX4_nextUse_52 rfl (lv_at hl 5 rfl) ?_
          refine va_getN (D := D) (ci := 2) (v := .ref (cd 13)) (C := RX2) (T := TX2) (N := 11) (ref := "Ironwood$Steps") (host := "Ironwood") hx hb hts in_RX2 hown hK hP 0 rfl rfl 3 (by decide) (hG.1.get 27 rfl) (fun _ h9 => h9) rfl dX4_nextUse_53 ?_
          refine lv_iload hx hb dX4_nextUse_56 (lv_at hl 0 rfl) ?_
          refine va_iald hx hb hK hP 4 0 rfl rfl (vp_in_nI (n := k) (by omega) (by omega)) dX4_nextUse_58 ?_
          refine tI (v := Si 3 k) ((congrArg (fil n (Si 3) ze3) (nI_clamp (n := k) (by omega))).trans (fil_lt (by omega))) ?_
          refine lv_i2l (v := (Si 3 k).toInt64) hx hb dX4_nextUse_59 rfl ?_
          refine lv_iload_n hx hb dX4_nextUse_60 rfl (lv_at hl 7 rfl) ?_
          refine kc_i (wr := [(cd 1, .inr (2, [.ref (cd 10), .ref (cd 11), .ref (cd 12), .ref (cd 13), .ref (cd 14), .ref (cd 15), .ref (cd 16), .ref (cd 17), .int (nI n), .int sk, .int cp])), (cd 10, .inl (cI, 40, .inl (fil n (Si 0) ze0))), (cd 11, .inl (cI, 40, .inl (fil n (Si 1) ze1))), (cd 12, .inl (cI, 40, .inl (fil n (Si 2) ze2))), (cd 13, .inl (cI, 40, .inl (fil n (Si 3) ze3))), (cd 2, .inr (4, [.long rr, .ref (cd 20), .ref (cd 21), .ref (cd 22), .ref (cd 23), .ref (cd 24), .ref (cd 25), .ref (cd 26), .ref (cd 27)]))]) (va_runSN (As := [.long ((Si 3 k).toInt64), .int v]) (rest := []) (host := "Ironwood") ⟨hx, hb, hml, hown, hts⟩ (k_isIn l D cI cJ cZ cR ((Si 3 k).toInt64) v _) ⟨va_cnB 2 hts (gB q_470) rfl rfl rfl (hG.1.nw 57 rfl) (hts _ (mc q_64)) (by decide +kernel) ⟨Nat.le_of_ble_eq_true rfl, Nat.le_of_ble_eq_true rfl⟩, hts _ (mc q_469), trivial⟩ ⟨Pw.blind, Pw.mk_call hP hK hD hS hA hG [] rfl (by decide)⟩ rfl rfl hl.1 rfl (lv_room (Nat.le_of_ble_eq_true rfl)) dX4_nextUse_61 ⟨Nat.le_of_ble_eq_true rfl, Nat.le_of_ble_eq_true rfl⟩) hP hD hS hA [] [0, 1, 2, 3, 4, 5] rfl rfl (by decide) (by decide) (fun r_15 u_16 H locs hw hP hD hS => ?_)
          obtain rfl : r_15 = bz (bI ((Si 3 k).toInt64) v) := hw
          have hP : va_P D vwCl [(cd 1, .inr (2, [.ref (cd 10), .ref (cd 11), .ref (cd 12), .ref (cd 13), .ref (cd 14), .ref (cd 15), .ref (cd 16), .ref (cd 17), .int (nI n), .int sk, .int cp])), (cd 10, .inl (cI, 40, .inl (fil n (Si 0) ze0))), (cd 11, .inl (cI, 40, .inl (fil n (Si 1) ze1))), (cd 12, .inl (cI, 40, .inl (fil n (Si 2) ze2))), (cd 13, .inl (cI, 40, .inl (fil n (Si 3) ze3))), (cd 2, .inr (4, [.long rr, .ref (cd 20), .ref (cd 21), .ref (cd 22), .ref (cd 23), .ref (cd 24), .ref (cd 25), .ref (cd 26), .ref (cd 27)]))] _ := hP
          have hD : va_D A [(cd 1, .inr (2, [.ref (cd 10), .ref (cd 11), .ref (cd 12), .ref (cd 13), .ref (cd 14), .ref (cd 15), .ref (cd 16), .ref (cd 17), .int (nI n), .int sk, .int cp])), (cd 10, .inl (cI, 40, .inl (fil n (Si 0) ze0))), (cd 11, .inl (cI, 40, .inl (fil n (Si 1) ze1))), (cd 12, .inl (cI, 40, .inl (fil n (Si 2) ze2))), (cd 13, .inl (cI, 40, .inl (fil n (Si 3) ze3))), (cd 2, .inr (4, [.long rr, .ref (cd 20), .ref (cd 21), .ref (cd 22), .ref (cd 23), .ref (cd 24), .ref (cd 25), .ref (cd 26), .ref (cd 27)]))] := hD
          refine lv_if_ne (tgt := 93) hx hb dX4_nextUse_64 (by decide) (fun c_64 => ?_) (fun c_64 => ?_)
          · skip
            have c_64 : (bI ((Si 3 k).toInt64) v) = true := bz_t c_64
            refine lv_iinc (v := nI (k + 1)) (lv' := [(9, .int (nI (k + 1))), (6, .long cA), (8, .int (nI r)), (4, .long cC), (0, .ref (cd 2)), (1, .ref (cd 1)), (2, .int (nI j)), (3, .int v)]) hx hb dX4_nextUse_93 hl (k := 0) rfl (nI_add k 1) (by decide) rfl (fun ls hl => ?_)
            refine lv_goto (tgt := 33) hx hb dX4_nextUse_96 (by decide) ?_
            exact ih_33 (k + 1, cC) _ _ _ (by show n - (k + 1) < n - k; omega) ⟨by show _ ≤ _; omega, hfj.trans ((itF_lt (by omega)).trans (congrArg _ (by first | (simp [nuB, nuP, c_15, (Nat.not_le.mpr c_15), c_23, c_39, (Nat.not_le.mpr c_39), c_49, c_64]; done) | (simp [nuB, nuP, if_pos c_15, if_neg (Nat.not_le.mpr c_15), if_neg c_23, if_pos c_39, if_neg (Nat.not_le.mpr c_39), if_pos c_49, if_pos c_64]; done) | rfl | (simp [nuB, nuP, c_15, (Nat.not_le.mpr c_15), c_23, c_39, (Nat.not_le.mpr c_39), c_49, c_64]; omega)))), lv_sub hl [0, 1, 2, 3, 4, 5, 6, 7] rfl, hP, hD, hS⟩
          · skip
            have c_64 : (bI ((Si 3 k).toInt64) v) = false := bz_f c_64
            refine lv_lload hx hb dX4_nextUse_67 (lv_at hl 3 rfl) ?_
            refine lv_aload_n hx hb dX4_nextUse_69 rfl (lv_at hl 5 rfl) ?_
            refine va_getN (D := D) (ci := 2) (v := .ref (cd 10)) (C := RX2) (T := TX2) (N := 11) (ref := "Ironwood$Steps") (host := "Ironwood") hx hb hts in_RX2 hown hK hP 0 rfl rfl 0 (by decide) (hG.1.get 24 rfl) (fun _ h9 => h9) rfl dX4_nextUse_70 ?_
            refine lv_iload hx hb dX4_nextUse_73 (lv_at hl 0 rfl) ?_
            refine va_iald hx hb hK hP 1 0 rfl rfl (vp_in_nI (n := k) (by omega) (by omega)) dX4_nextUse_75 ?_
            refine tI (v := Si 0 k) ((congrArg (fil n (Si 0) ze0) (nI_clamp (n := k) (by omega))).trans (fil_lt (by omega))) ?_
            refine kc_l (wr := [(cd 1, .inr (2, [.ref (cd 10), .ref (cd 11), .ref (cd 12), .ref (cd 13), .ref (cd 14), .ref (cd 15), .ref (cd 16), .ref (cd 17), .int (nI n), .int sk, .int cp])), (cd 10, .inl (cI, 40, .inl (fil n (Si 0) ze0))), (cd 11, .inl (cI, 40, .inl (fil n (Si 1) ze1))), (cd 12, .inl (cI, 40, .inl (fil n (Si 2) ze2))), (cd 13, .inl (cI, 40, .inl (fil n (Si 3) ze3))), (cd 2, .inr (4, [.long rr, .ref (cd 20), .ref (cd 21), .ref (cd 22), .ref (cd 23), .ref (cd 24), .ref (cd 25), .ref (cd 26), .ref (cd 27)]))]) (va_runS (As := [.int (Si 0 k)]) (rest := [.long cC]) ⟨hx, hb, hml, hown, hts⟩ (k_bitOf l D cI cJ cZ cR (Si 0 k) _) (cwS 1 hts (gS q_692 q_690 q_691 q_68) rfl rfl rfl (by decide +kernel) ⟨Nat.le_of_ble_eq_true rfl, Nat.le_of_ble_eq_true rfl⟩) ⟨Pw.blind, Pw.mk_call hP hK hD hS hA hG [] rfl (by decide)⟩ rfl rfl hl.1 rfl (lv_room (Nat.le_of_ble_eq_true rfl)) dX4_nextUse_76 ⟨Nat.le_of_ble_eq_true rfl, Nat.le_of_ble_eq_true rfl⟩) hP hD hS hA [] [0, 1, 2, 3, 4, 5] rfl rfl (by decide) (by decide) (fun r_17 u_18 H locs hw hP hD hS => ?_)
            obtain rfl : r_17 = bO (Si 0 k) := hw
            have hP : va_P D vwCl [(cd 1, .inr (2, [.ref (cd 10), .ref (cd 11), .ref (cd 12), .ref (cd 13), .ref (cd 14), .ref (cd 15), .ref (cd 16), .ref (cd 17), .int (nI n), .int sk, .int cp])), (cd 10, .inl (cI, 40, .inl (fil n (Si 0) ze0))), (cd 11, .inl (cI, 40, .inl (fil n (Si 1) ze1))), (cd 12, .inl (cI, 40, .inl (fil n (Si 2) ze2))), (cd 13, .inl (cI, 40, .inl (fil n (Si 3) ze3))), (cd 2, .inr (4, [.long rr, .ref (cd 20), .ref (cd 21), .ref (cd 22), .ref (cd 23), .ref (cd 24), .ref (cd 25), .ref (cd 26), .ref (cd 27)]))] _ := hP
            have hD : va_D A [(cd 1, .inr (2, [.ref (cd 10), .ref (cd 11), .ref (cd 12), .ref (cd 13), .ref (cd 14), .ref (cd 15), .ref (cd 16), .ref (cd 17), .int (nI n), .int sk, .int cp])), (cd 10, .inl (cI, 40, .inl (fil n (Si 0) ze0))), (cd 11, .inl (cI, 40, .inl (fil n (Si 1) ze1))), (cd 12, .inl (cI, 40, .inl (fil n (Si 2) ze2))), (cd 13, .inl (cI, 40, .inl (fil n (Si 3) ze3))), (cd 2, .inr (4, [.long rr, .ref (cd 20), .ref (cd 21), .ref (cd 22), .ref (cd 23), .ref (cd 24), .ref (cd 25), .ref (cd 26), .ref (cd 27)]))] := hD
            refine lv_aload_n hx hb dX4_nextUse_79 rfl (lv_at hl 5 rfl) ?_
            refine va_getN (D := D) (ci := 2) (v := .ref (cd 11)) (C := RX2) (T := TX2) (N := 11) (ref := "Ironwood$Steps") (host := "Ironwood") hx hb hts in_RX2 hown hK hP 0 rfl rfl 1 (by decide) (hG.1.get 25 rfl) (fun _ h9 => h9) rfl dX4_nextUse_80 ?_
            refine lv_iload hx hb dX4_nextUse_83 (lv_at hl 0 rfl) ?_
            refine va_iald hx hb hK hP 2 0 rfl rfl (vp_in_nI (n := k) (by omega) (by omega)) dX4_nextUse_85 ?_
            refine tI (v := Si 1 k) ((congrArg (fil n (Si 1) ze1) (nI_clamp (n := k) (by omega))).trans (fil_lt (by omega))) ?_
            refine kc_l (wr := [(cd 1, .inr (2, [.ref (cd 10), .ref (cd 11), .ref (cd 12), .ref (cd 13), .ref (cd 14), .ref (cd 15), .ref (cd 16), .ref (cd 17), .int (nI n), .int sk, .int cp])), (cd 10, .inl (cI, 40, .inl (fil n (Si 0) ze0))), (cd 11, .inl (cI, 40, .inl (fil n (Si 1) ze1))), (cd 12, .inl (cI, 40, .inl (fil n (Si 2) ze2))), (cd 13, .inl (cI, 40, .inl (fil n (Si 3) ze3))), (cd 2, .inr (4, [.long rr, .ref (cd 20), .ref (cd 21), .ref (cd 22), .ref (cd 23), .ref (cd 24), .ref (cd 25), .ref (cd 26), .ref (cd 27)]))]) (va_runS (As := [.int (Si 1 k)]) (rest := [.long (bO (Si 0 k)), .long cC]) ⟨hx, hb, hml, hown, hts⟩ (k_bitOf l D cI cJ cZ cR (Si 1 k) _) (cwS 1 hts (gS q_692 q_690 q_691 q_68) rfl rfl rfl (by decide +kernel) ⟨Nat.le_of_ble_eq_true rfl, Nat.le_of_ble_eq_true rfl⟩) ⟨Pw.blind, Pw.mk_call hP hK hD hS hA hG [] rfl (by decide)⟩ rfl rfl hl.1 rfl (lv_room (Nat.le_of_ble_eq_true rfl)) dX4_nextUse_86 ⟨Nat.le_of_ble_eq_true rfl, Nat.le_of_ble_eq_true rfl⟩) hP hD hS hA [] [0, 1, 2, 3, 4, 5] rfl rfl (by decide) (by decide) (fun r_19 u_20 H locs hw hP hD hS => ?_)
            obtain rfl : r_19 = bO (Si 1 k) := hw
            have hP : va_P D vwCl [(cd 1, .inr (2, [.ref (cd 10), .ref (cd 11), .ref (cd 12), .ref (cd 13), .ref (cd 14), .ref (cd 15), .ref (cd 16), .ref (cd 17), .int (nI n), .int sk, .int cp])), (cd 10, .inl (cI, 40, .inl (fil n (Si 0) ze0))), (cd 11, .inl (cI, 40, .inl (fil n (Si 1) ze1))), (cd 12, .inl (cI, 40, .inl (fil n (Si 2) ze2))), (cd 13, .inl (cI, 40, .inl (fil n (Si 3) ze3))), (cd 2, .inr (4, [.long rr, .ref (cd 20), .ref (cd 21), .ref (cd 22), .ref (cd 23), .ref (cd 24), .ref (cd 25), .ref (cd 26), .ref (cd 27)]))] _ := hP
            have hD : va_D A [(cd 1, .inr (2, [.ref (cd 10), .ref (cd 11), .ref (cd 12), .ref (cd 13), .ref (cd 14), .ref (cd 15), .ref (cd 16), .ref (cd 17), .int (nI n), .int sk, .int cp])), (cd 10, .inl (cI, 40, .inl (fil n (Si 0) ze0))), (cd 11, .inl (cI, 40, .inl (fil n (Si 1) ze1))), (cd 12, .inl (cI, 40, .inl (fil n (Si 2) ze2))), (cd 13, .inl (cI, 40, .inl (fil n (Si 3) ze3))), (cd 2, .inr (4, [.long rr, .ref (cd 20), .ref (cd 21), .ref (cd 22), .ref (cd 23), .ref (cd 24), .ref (cd 25), .ref (cd 26), .ref (cd 27)]))] := hD
            refine lv_lor hx hb dX4_nextUse_89 ?_
            refine lv_lor hx hb dX4_nextUse_90 ?_
            refine lv_lstore (lv' := [(4, .long (cC ||| ((bO (Si 0 k)) ||| (bO (Si 1 k))))), (9, .int (nI k)), (6, .long cA), (8, .int (nI r)), (0, .ref (cd 2)), (1, .ref (cd 1)), (2, .int (nI j)), (3, .int v)]) hx hb dX4_nextUse_91 hl (by decide) rfl (fun ls hl => ?_)
            refine lv_iinc (v := nI (k + 1)) (lv' := [(9, .int (nI (k + 1))), (4, .long (cC ||| ((bO (Si 0 k)) ||| (bO (Si 1 k))))), (6, .long cA), (8, .int (nI r)), (0, .ref (cd 2)), (1, .ref (cd 1)), (2, .int (nI j)), (3, .int v)]) hx hb dX4_nextUse_93 hl (k := 1) rfl (nI_add k 1) (by decide) rfl (fun ls hl => ?_)
            refine lv_goto (tgt := 33) hx hb dX4_nextUse_96 (by decide) ?_
            exact ih_33 (k + 1, cC ||| ((bO (Si 0 k)) ||| (bO (Si 1 k)))) _ _ _ (by show n - (k + 1) < n - k; omega) ⟨by show _ ≤ _; omega, hfj.trans ((itF_lt (by omega)).trans (congrArg _ (by first | (simp [nuB, nuP, c_15, (Nat.not_le.mpr c_15), c_23, c_39, (Nat.not_le.mpr c_39), c_49, c_64]; done) | (simp [nuB, nuP, if_pos c_15, if_neg (Nat.not_le.mpr c_15), if_neg c_23, if_pos c_39, if_neg (Nat.not_le.mpr c_39), if_pos c_49, if_neg (bnt c_64)]; done) | rfl | (simp [nuB, nuP, c_15, (Nat.not_le.mpr c_15), c_23, c_39, (Nat.not_le.mpr c_39), c_49, c_64]; omega)))), lv_sub hl [0, 2, 3, 1, 4, 5, 6, 7] rfl, hP, hD, hS⟩

set_option maxHeartbeats 4000000 in
set_option maxRecDepth 100000 in
theorem k_bitCount (l : Launch) (D : va_G) (cI cJ cZ cR : ClassId) (x : Int64) (sz : Nat)  : Met l yJ13_bitCount_95d88 (wx (.code yJ13_bitCount_95d88 cJ13_bitCount_95d88 2 (some .int))) ({ frames := 0, cells := 0, slots := 0, locals := 0 }) (va_Pc [.long x] (Pw D vwCl [(cI, .int), (cJ, .long), (cZ, .boolean), (cR, .array .int)] [] sz)) (va_Qi (fun (r : Int32) (u : Unit) => r = bcF x) (Bw D vwCl (fun (u : Unit) => []) (va_A [] sz)) (va_A [] sz)) 0 0 (va_A [] sz) := by
  refine Met.ofW (cc := cJ13_bitCount_95d88) (maxL := 2) (ret := (some .int)) (by decide) rfl ?_
  intro p e s m args below meth c s₁ B hml hv9
  obtain ⟨rfl, hsz, hP, hK, hD0, hG⟩ := hv9
  have hx := B.exec
  have hb := B.bytes
  have hr := B.returns
  have hts := atoms_spec (ws := wx (.code yJ13_bitCount_95d88 cJ13_bitCount_95d88 2 (some .int))) B.pre
  have hown : s.vm.findClass RJ13 = some m.cls := findClass_of_methodNamed B.named
  have hlocks := B.notSynchronized
  subst hsz
  have hD := hD0.self (sz := s.heap.size)
  generalize hAe : va_A [] s.heap.size = A at hD hG ⊢
  have hA : ∀ q : Nat, s.heap.size ≤ q → A q := fun q h => by rw [← hAe]; exact Or.inr h
  have hS : va_S A s.heap s.heap [] := va_S.rf
  have hP : va_P D vwCl [] s.heap := hP
  have hl := lv_entry ([.long x]) (n := 2) (Nat.le_of_ble_eq_true rfl)
  rw [lg_entry_eq]
  generalize (lg_sl ([.long x]) ++ List.replicate (2 - (lg_sl ([.long x])).length) Slot.unset).toArray = ls at hl ⊢
  have hl : lv_has ls 2 [(0, .long x)] := hl
  refine lv_lload_n hx hb dJ13_bitCount_95d88_0 rfl (lv_at hl 0 rfl) ?_
  refine lv_lload_n hx hb dJ13_bitCount_95d88_1 rfl (lv_at hl 0 rfl) ?_
  refine lv_iconst (v := 1) hx hb dJ13_bitCount_95d88_2 (by decide) ?_
  refine lv_lushr (v := (x.toUInt64 >>> ((1 : Int32).toInt64.toUInt64 &&& Int64.toUInt64 63)).toInt64) hx hb dJ13_bitCount_95d88_3 rfl ?_
  refine lv_ldc2 (v := 6148914691236517205) hx hb hown (hts _ (mc q_601)) dJ13_bitCount_95d88_4 ?_
  refine lv_land hx hb dJ13_bitCount_95d88_7 ?_
  refine lv_lsub hx hb dJ13_bitCount_95d88_8 ?_
  refine tJ (v := bcA x) rfl ?_
  refine lv_lstore_n (lv' := [(0, .long (bcA x))]) hx hb dJ13_bitCount_95d88_9 rfl hl (by decide) rfl (fun ls hl => ?_)
  refine lv_lload_n hx hb dJ13_bitCount_95d88_10 rfl (lv_at hl 0 rfl) ?_
  refine lv_ldc2 (v := 3689348814741910323) hx hb hown (hts _ (mc q_602)) dJ13_bitCount_95d88_11 ?_
  refine lv_land hx hb dJ13_bitCount_95d88_14 ?_
  refine lv_lload_n hx hb dJ13_bitCount_95d88_15 rfl (lv_at hl 0 rfl) ?_
  refine lv_iconst (v := 2) hx hb dJ13_bitCount_95d88_16 (by decide) ?_
  refine lv_lushr (v := ((bcA x).toUInt64 >>> ((2 : Int32).toInt64.toUInt64 &&& Int64.toUInt64 63)).toInt64) hx hb dJ13_bitCount_95d88_17 rfl ?_
  refine lv_ldc2 (v := 3689348814741910323) hx hb hown (hts _ (mc q_602)) dJ13_bitCount_95d88_18 ?_
  refine lv_land hx hb dJ13_bitCount_95d88_21 ?_
  refine lv_ladd hx hb dJ13_bitCount_95d88_22 ?_
  refine tJ (v := bcB (bcA x)) rfl ?_
  refine lv_lstore_n (lv' := [(0, .long (bcB (bcA x)))]) hx hb dJ13_bitCount_95d88_23 rfl hl (by decide) rfl (fun ls hl => ?_)
  refine lv_lload_n hx hb dJ13_bitCount_95d88_24 rfl (lv_at hl 0 rfl) ?_
  refine lv_lload_n hx hb dJ13_bitCount_95d88_25 rfl (lv_at hl 0 rfl) ?_
  refine lv_iconst (v := 4) hx hb dJ13_bitCount_95d88_26 (by decide) ?_
  refine lv_lushr (v := ((bcB (bcA x)).toUInt64 >>> ((4 : Int32).toInt64.toUInt64 &&& Int64.toUInt64 63)).toInt64) hx hb dJ13_bitCount_95d88_27 rfl ?_
  refine lv_ladd hx hb dJ13_bitCount_95d88_28 ?_
  refine lv_ldc2 (v := 1085102592571150095) hx hb hown (hts _ (mc q_603)) dJ13_bitCount_95d88_29 ?_
  refine lv_land hx hb dJ13_bitCount_95d88_32 ?_
  refine tJ (v := bcC (bcB (bcA x))) rfl ?_
  refine lv_lstore_n (lv' := [(0, .long (bcC (bcB (bcA x))))]) hx hb dJ13_bitCount_95d88_33 rfl hl (by decide) rfl (fun ls hl => ?_)
  refine lv_lload_n hx hb dJ13_bitCount_95d88_34 rfl (lv_at hl 0 rfl) ?_
  refine lv_lload_n hx hb dJ13_bitCount_95d88_35 rfl (lv_at hl 0 rfl) ?_
  refine lv_bipush (v := 8) hx hb dJ13_bitCount_95d88_36 (by decide) ?_
  refine lv_lushr (v := ((bcC (bcB (bcA x))).toUInt64 >>> ((8 : Int32).toInt64.toUInt64 &&& Int64.toUInt64 63)).toInt64) hx hb dJ13_bitCount_95d88_38 rfl ?_
  refine lv_ladd hx hb dJ13_bitCount_95d88_39 ?_
  refine tJ (v := bcD (bcC (bcB (bcA x)))) rfl ?_
  refine lv_lstore_n (lv' := [(0, .long (bcD (bcC (bcB (bcA x)))))]) hx hb dJ13_bitCount_95d88_40 rfl hl (by decide) rfl (fun ls hl => ?_)
  refine lv_lload_n hx hb dJ13_bitCount_95d88_41 rfl (lv_at hl 0 rfl) ?_
  refine lv_lload_n hx hb dJ13_bitCount_95d88_42 rfl (lv_at hl 0 rfl) ?_
  refine lv_bipush (v := 16) hx hb dJ13_bitCount_95d88_43 (by decide) ?_
  refine lv_lushr (v := ((bcD (bcC (bcB (bcA x)))).toUInt64 >>> ((16 : Int32).toInt64.toUInt64 &&& Int64.toUInt64 63)).toInt64) hx hb dJ13_bitCount_95d88_45 rfl ?_
  refine lv_ladd hx hb dJ13_bitCount_95d88_46 ?_
  refine tJ (v := bcE (bcD (bcC (bcB (bcA x))))) rfl ?_
  refine lv_lstore_n (lv' := [(0, .long (bcE (bcD (bcC (bcB (bcA x))))))]) hx hb dJ13_bitCount_95d88_47 rfl hl (by decide) rfl (fun ls hl => ?_)
  refine lv_lload_n hx hb dJ13_bitCount_95d88_48 rfl (lv_at hl 0 rfl) ?_
  refine lv_lload_n hx hb dJ13_bitCount_95d88_49 rfl (lv_at hl 0 rfl) ?_
  refine lv_bipush (v := 32) hx hb dJ13_bitCount_95d88_50 (by decide) ?_
  refine lv_lushr (v := ((bcE (bcD (bcC (bcB (bcA x))))).toUInt64 >>> ((32 : Int32).toInt64.toUInt64 &&& Int64.toUInt64 63)).toInt64) hx hb dJ13_bitCount_95d88_52 rfl ?_
  refine lv_ladd hx hb dJ13_bitCount_95d88_53 ?_
  refine tJ (v := bcG (bcE (bcD (bcC (bcB (bcA x)))))) rfl ?_
  refine lv_lstore_n (lv' := [(0, .long (bcG (bcE (bcD (bcC (bcB (bcA x)))))))]) hx hb dJ13_bitCount_95d88_54 rfl hl (by decide) rfl (fun ls hl => ?_)
  refine lv_lload_n hx hb dJ13_bitCount_95d88_55 rfl (lv_at hl 0 rfl) ?_
  refine lv_l2i (v := (bcG (bcE (bcD (bcC (bcB (bcA x)))))).toInt32) hx hb dJ13_bitCount_95d88_56 rfl ?_
  refine lv_bipush (v := 127) hx hb dJ13_bitCount_95d88_57 (by decide) ?_
  refine lv_iand hx hb dJ13_bitCount_95d88_59 ?_
  exact ke_i hx hb hr (by first | rfl | decide | exact bz_nar _) () (by first | (simp []; done) | (simp []; done) | rfl | (simp []; omega)) hP hD hS (Nat.le_of_ble_eq_true rfl) (Nat.le_of_ble_eq_true rfl) hlocks dJ13_bitCount_95d88_60

set_option maxHeartbeats 4000000 in
set_option maxRecDepth 100000 in
theorem k_smallestIn (l : Launch) (D : va_G) (cI cJ cZ cR : ClassId) (x : Int64) (sz : Nat)  : Met l yX5_smallestIn (wx (.code yX5_smallestIn cX5_smallestIn 2 (some .int))) ({ frames := 1, cells := 0, slots := 0, locals := 21 }) (va_Pc [.long x] (Pw D vwCl [(cI, .int), (cJ, .long), (cZ, .boolean), (cR, .array .int)] [] sz)) (va_Qi (fun (r : Int32) (u : Unit) => r = smI x) (Bw D vwCl (fun (u : Unit) => []) (va_A [] sz)) (va_A [] sz)) 0 0 (va_A [] sz) := by
  refine Met.ofW (cc := cX5_smallestIn) (maxL := 2) (ret := (some .int)) (by decide) rfl ?_
  intro p e s m args below meth c s₁ B hml hv9
  obtain ⟨rfl, hsz, hP, hK, hD0, hG⟩ := hv9
  have hx := B.exec
  have hb := B.bytes
  have hr := B.returns
  have hts := atoms_spec (ws := wx (.code yX5_smallestIn cX5_smallestIn 2 (some .int))) B.pre
  have hown : s.vm.findClass RX5 = some m.cls := findClass_of_methodNamed B.named
  have hlocks := B.notSynchronized
  subst hsz
  have hD := hD0.self (sz := s.heap.size)
  generalize hAe : va_A [] s.heap.size = A at hD hG ⊢
  have hA : ∀ q : Nat, s.heap.size ≤ q → A q := fun q h => by rw [← hAe]; exact Or.inr h
  have hS : va_S A s.heap s.heap [] := va_S.rf
  have hP : va_P D vwCl [] s.heap := hP
  have hl := lv_entry ([.long x]) (n := 2) (Nat.le_of_ble_eq_true rfl)
  rw [lg_entry_eq]
  generalize (lg_sl ([.long x]) ++ List.replicate (2 - (lg_sl ([.long x])).length) Slot.unset).toArray = ls at hl ⊢
  have hl : lv_has ls 2 [(0, .long x)] := hl
  refine lv_lload_n hx hb dX5_smallestIn_0 rfl (lv_at hl 0 rfl) ?_
  refine lv_lconst (v := 0) hx hb dX5_smallestIn_1 (by decide) ?_
  refine W.lcmp hx hb dX5_smallestIn_2 ?_
  refine tI (v := lg_cmp x 0) rfl ?_
  refine lv_if_ne (tgt := 10) hx hb dX5_smallestIn_3 (by decide) (fun c_3 => ?_) (fun c_3 => ?_)
  · skip
    have c_3 : ¬ x = 0 := fun h9 => c_3 ((lg_cmp_eq _ _).mpr h9)
    refine lv_lload_n hx hb dX5_smallestIn_10 rfl (lv_at hl 0 rfl) ?_
    refine lv_lload_n hx hb dX5_smallestIn_11 rfl (lv_at hl 0 rfl) ?_
    refine lv_lneg hx hb dX5_smallestIn_12 ?_
    refine lv_land hx hb dX5_smallestIn_13 ?_
    refine lv_lconst (v := 1) hx hb dX5_smallestIn_14 (by decide) ?_
    refine lv_lsub hx hb dX5_smallestIn_15 ?_
    refine kc_i (wr := []) (va_runS (As := [.long ((x &&& (-x)) - 1)]) (rest := []) ⟨hx, hb, hml, hown, hts⟩ (k_bitCount l D cI cJ cZ cR ((x &&& (-x)) - 1) _) (va_cwS 1 hts (gT q_600 q_598 q_599 q_76) rfl rfl rfl (by decide +kernel) ⟨Nat.le_of_ble_eq_true rfl, Nat.le_of_ble_eq_true rfl⟩) ⟨Pw.blind, Pw.mk_call hP hK hD hS hA hG [] rfl (by decide)⟩ rfl rfl hl.1 rfl (lv_room (Nat.le_of_ble_eq_true rfl)) dX5_smallestIn_16 ⟨Nat.le_of_ble_eq_true rfl, Nat.le_of_ble_eq_true rfl⟩) hP hD hS hA [] [] rfl rfl (by decide) (by decide) (fun r_1 u_2 H locs hw hP hD hS => ?_)
    obtain rfl : r_1 = bcF ((x &&& (-x)) - 1) := hw
    have hP : va_P D vwCl [] _ := hP
    have hD : va_D A [] := hD
    exact ke_i hx hb hr (by first | rfl | decide | exact bz_nar _) () (by first | (simp [smI, c_3]; done) | (simp [smI, if_neg c_3]; done) | rfl | (simp [smI, c_3]; omega)) hP hD hS (Nat.le_of_ble_eq_true rfl) (Nat.le_of_ble_eq_true rfl) hlocks dX5_smallestIn_19
  · skip
    have c_3 : x = 0 := (lg_cmp_eq _ _).mp c_3
    refine lv_iconst (v := (-1)) hx hb dX5_smallestIn_6 (by decide) ?_
    refine lv_goto (tgt := 19) hx hb dX5_smallestIn_7 (by decide) ?_
    exact ke_i hx hb hr (by first | rfl | decide | exact bz_nar _) () (by first | (simp [smI, c_3]; done) | (simp [smI, if_pos c_3]; done) | rfl | (simp [smI, c_3]; omega)) hP hD hS (Nat.le_of_ble_eq_true rfl) (Nat.le_of_ble_eq_true rfl) hlocks dX5_smallestIn_19

set_option maxHeartbeats 4000000 in
set_option maxRecDepth 100000 in
theorem k_askedAt (l : Launch) (D : va_G) (cI cJ cZ cR : ClassId) (n : Nat) (A9 : Nat → Int64) (ak : Nat → Int64) (cd : Nat → Nat) (rr : Int64) (tt : Int32) (sz : Nat) (hn : n ≤ 40) (htt : okS n tt) : Met l yX4_askedAt (wx (.code yX4_askedAt cX4_askedAt 2 (some .long))) ({ frames := 0, cells := 0, slots := 0, locals := 0 }) (va_Pc [.ref (cd 2), .int tt] (Pw D vwCl [(cI, .int), (cJ, .long), (cZ, .boolean), (cR, .array .int)] [(cd 2, .inr (4, [.long rr, .ref (cd 20), .ref (cd 21), .ref (cd 22), .ref (cd 23), .ref (cd 24), .ref (cd 25), .ref (cd 26), .ref (cd 27)])), (cd 27, .inl (cJ, 40, .inr (.inl (fil n A9 ak))))] sz)) (va_Ql (fun (r : Int64) (u : Unit) => r = askA A9 tt) (Bw D vwCl (fun (u : Unit) => [(cd 2, .inr (4, [.long rr, .ref (cd 20), .ref (cd 21), .ref (cd 22), .ref (cd 23), .ref (cd 24), .ref (cd 25), .ref (cd 26), .ref (cd 27)])), (cd 27, .inl (cJ, 40, .inr (.inl (fil n A9 ak))))]) (va_A [(cd 2, .inr (4, [.long rr, .ref (cd 20), .ref (cd 21), .ref (cd 22), .ref (cd 23), .ref (cd 24), .ref (cd 25), .ref (cd 26), .ref (cd 27)])), (cd 27, .inl (cJ, 40, .inr (.inl (fil n A9 ak))))] sz)) (va_A [(cd 2, .inr (4, [.long rr, .ref (cd 20), .ref (cd 21), .ref (cd 22), .ref (cd 23), .ref (cd 24), .ref (cd 25), .ref (cd 26), .ref (cd 27)])), (cd 27, .inl (cJ, 40, .inr (.inl (fil n A9 ak))))] sz)) 0 0 (va_A [(cd 2, .inr (4, [.long rr, .ref (cd 20), .ref (cd 21), .ref (cd 22), .ref (cd 23), .ref (cd 24), .ref (cd 25), .ref (cd 26), .ref (cd 27)])), (cd 27, .inl (cJ, 40, .inr (.inl (fil n A9 ak))))] sz) := by
  refine Met.ofW (cc := cX4_askedAt) (maxL := 2) (ret := (some .long)) (by decide) rfl ?_
  intro p e s m args below meth c s₁ B hml hv9
  obtain ⟨rfl, hsz, hP, hK, hD0, hG⟩ := hv9
  have hx := B.exec
  have hb := B.bytes
  have hr := B.returns
  have hts := atoms_spec (ws := wx (.code yX4_askedAt cX4_askedAt 2 (some .long))) B.pre
  have hown : s.vm.findClass RX4 = some m.cls := findClass_of_methodNamed B.named
  have hlocks := B.notSynchronized
  subst hsz
  have hD := hD0.self (sz := s.heap.size)
  generalize hAe : va_A [(cd 2, .inr (4, [.long rr, .ref (cd 20), .ref (cd 21), .ref (cd 22), .ref (cd 23), .ref (cd 24), .ref (cd 25), .ref (cd 26), .ref (cd 27)])), (cd 27, .inl (cJ, 40, .inr (.inl (fil n A9 ak))))] s.heap.size = A at hD hG ⊢
  have hA : ∀ q : Nat, s.heap.size ≤ q → A q := fun q h => by rw [← hAe]; exact Or.inr h
  have hS : va_S A s.heap s.heap [] := va_S.rf
  have hP : va_P D vwCl [(cd 2, .inr (4, [.long rr, .ref (cd 20), .ref (cd 21), .ref (cd 22), .ref (cd 23), .ref (cd 24), .ref (cd 25), .ref (cd 26), .ref (cd 27)])), (cd 27, .inl (cJ, 40, .inr (.inl (fil n A9 ak))))] s.heap := hP
  have hl := lv_entry ([.ref (cd 2), .int tt]) (n := 2) (Nat.le_of_ble_eq_true rfl)
  rw [lg_entry_eq]
  generalize (lg_sl ([.ref (cd 2), .int tt]) ++ List.replicate (2 - (lg_sl ([.ref (cd 2), .int tt])).length) Slot.unset).toArray = ls at hl ⊢
  have hl : lv_has ls 2 [(0, .ref (cd 2)), (1, .int tt)] := hl
  refine lv_iload_n hx hb dX4_askedAt_0 rfl (lv_at hl 1 rfl) ?_
  refine lv_iconst (v := (-1)) hx hb dX4_askedAt_1 (by decide) ?_
  refine lv_icmp_ne (tgt := 9) hx hb dX4_askedAt_2 (by decide) (fun c_2 => ?_) (fun c_2 => ?_)
  · skip
    have htt2 := htt.resolve_left c_2
    have htt3 := htt2.2
    rw [htt2.1] at hl
    have hP : va_P D vwCl [(cd 2, .inr (4, [.long rr, .ref (cd 20), .ref (cd 21), .ref (cd 22), .ref (cd 23), .ref (cd 24), .ref (cd 25), .ref (cd 26), .ref (cd 27)])), (cd 27, .inl (cJ, 40, .inr (.inl (fil n A9 ak))))] _ := hP
    have hD : va_D A [(cd 2, .inr (4, [.long rr, .ref (cd 20), .ref (cd 21), .ref (cd 22), .ref (cd 23), .ref (cd 24), .ref (cd 25), .ref (cd 26), .ref (cd 27)])), (cd 27, .inl (cJ, 40, .inr (.inl (fil n A9 ak))))] := hD
    have hl : lv_has ls 2 [(0, .ref (cd 2)), (1, .int (nI (nn tt)))] := hl
    refine lv_aload_n hx hb dX4_askedAt_9 rfl (lv_at hl 0 rfl) ?_
    refine va_get (D := D) (ci := 4) (v := .ref (cd 27)) (C := RX4) (T := TX4) (N := 9) (ref := "Ironwood$Ways") hx hb hts in_RX4 hown hK hP 0 rfl rfl 8 (by decide) (hts _ (mc q_233)) (fun _ h9 => h9) rfl dX4_askedAt_10 ?_
    refine lv_iload_n hx hb dX4_askedAt_13 rfl (lv_at hl 1 rfl) ?_
    refine va_lald hx hb hK hP 1 1 rfl rfl (vp_in_nI (n := nn tt) (by omega) (by omega)) dX4_askedAt_14 ?_
    refine tJ (v := A9 (nn tt)) ((congrArg (fil n A9 ak) (nI_clamp (n := nn tt) (by omega))).trans (fil_lt (by omega))) ?_
    exact ke_l hx hb hr () (by first | (simp [askA, c_2]; done) | (simp [askA, if_neg c_2]; done) | rfl | (simp [askA, c_2]; omega)) hP hD hS (Nat.le_of_ble_eq_true rfl) (Nat.le_of_ble_eq_true rfl) hlocks dX4_askedAt_15
  · skip
    refine lv_lconst (v := 0) hx hb dX4_askedAt_5 (by decide) ?_
    refine lv_goto (tgt := 15) hx hb dX4_askedAt_6 (by decide) ?_
    exact ke_l hx hb hr () (by first | (simp [askA, c_2]; done) | (simp [askA, if_pos c_2]; done) | rfl | (simp [askA, c_2]; omega)) hP hD hS (Nat.le_of_ble_eq_true rfl) (Nat.le_of_ble_eq_true rfl) hlocks dX4_askedAt_15

set_option maxHeartbeats 4000000 in
set_option maxRecDepth 100000 in
theorem k_smallestMover (l : Launch) (D : va_G) (cI cJ cZ cR : ClassId) (n : Nat) (Si : Nat → Nat → Int32) (Sj : Nat → Nat → Int64) (ze0 : Nat → Int32) (ze1 : Nat → Int32) (zf0 : Nat → Int64) (zf3 : Nat → Int64) (cd : Nat → Nat) (sk : Int32) (cp : Int32) (rr : Int64) (ak : Nat → Int64) (j : Nat) (x : Int64) (sz : Nat) (hn : n ≤ 40) (hj : j < n) (hSi : ∀ i, i < n → okS n (Si 0 i) ∧ okS n (Si 1 i)) : Met l yX4_smallestMover (wx (.code yX4_smallestMover cX4_smallestMover 12 (some .int))) ({ frames := 2, cells := 0, slots := 0, locals := 43 }) (va_Pc [.ref (cd 2), .ref (cd 1), .int (nI j), .long x] (Pw D vwCl [(cI, .int), (cJ, .long), (cZ, .boolean), (cR, .array .int)] [(cd 1, .inr (2, [.ref (cd 10), .ref (cd 11), .ref (cd 12), .ref (cd 13), .ref (cd 14), .ref (cd 15), .ref (cd 16), .ref (cd 17), .int (nI n), .int sk, .int cp])), (cd 10, .inl (cI, 40, .inl (fil n (Si 0) ze0))), (cd 11, .inl (cI, 40, .inl (fil n (Si 1) ze1))), (cd 14, .inl (cJ, 40, .inr (.inl (fil n (Sj 0) zf0)))), (cd 17, .inl (cJ, 40, .inr (.inl (fil n (Sj 3) zf3)))), (cd 2, .inr (4, [.long rr, .ref (cd 20), .ref (cd 21), .ref (cd 22), .ref (cd 23), .ref (cd 24), .ref (cd 25), .ref (cd 26), .ref (cd 27)])), (cd 27, .inl (cJ, 40, .inr (.inl ak)))] sz)) (va_Qi (fun (r : Int32) (u : (Nat → Int64)) => r = smF n Si Sj rr j x) (Bw D vwCl (fun (u : (Nat → Int64)) => [(cd 1, .inr (2, [.ref (cd 10), .ref (cd 11), .ref (cd 12), .ref (cd 13), .ref (cd 14), .ref (cd 15), .ref (cd 16), .ref (cd 17), .int (nI n), .int sk, .int cp])), (cd 10, .inl (cI, 40, .inl (fil n (Si 0) ze0))), (cd 11, .inl (cI, 40, .inl (fil n (Si 1) ze1))), (cd 14, .inl (cJ, 40, .inr (.inl (fil n (Sj 0) zf0)))), (cd 17, .inl (cJ, 40, .inr (.inl (fil n (Sj 3) zf3)))), (cd 2, .inr (4, [.long rr, .ref (cd 20), .ref (cd 21), .ref (cd 22), .ref (cd 23), .ref (cd 24), .ref (cd 25), .ref (cd 26), .ref (cd 27)])), (cd 27, .inl (cJ, 40, .inr (.inl u)))]) (va_A [(cd 1, .inr (2, [.ref (cd 10), .ref (cd 11), .ref (cd 12), .ref (cd 13), .ref (cd 14), .ref (cd 15), .ref (cd 16), .ref (cd 17), .int (nI n), .int sk, .int cp])), (cd 10, .inl (cI, 40, .inl (fil n (Si 0) ze0))), (cd 11, .inl (cI, 40, .inl (fil n (Si 1) ze1))), (cd 14, .inl (cJ, 40, .inr (.inl (fil n (Sj 0) zf0)))), (cd 17, .inl (cJ, 40, .inr (.inl (fil n (Sj 3) zf3)))), (cd 2, .inr (4, [.long rr, .ref (cd 20), .ref (cd 21), .ref (cd 22), .ref (cd 23), .ref (cd 24), .ref (cd 25), .ref (cd 26), .ref (cd 27)])), (cd 27, .inl (cJ, 40, .inr (.inl ak)))] sz)) (va_A [(cd 1, .inr (2, [.ref (cd 10), .ref (cd 11), .ref (cd 12), .ref (cd 13), .ref (cd 14), .ref (cd 15), .ref (cd 16), .ref (cd 17), .int (nI n), .int sk, .int cp])), (cd 10, .inl (cI, 40, .inl (fil n (Si 0) ze0))), (cd 11, .inl (cI, 40, .inl (fil n (Si 1) ze1))), (cd 14, .inl (cJ, 40, .inr (.inl (fil n (Sj 0) zf0)))), (cd 17, .inl (cJ, 40, .inr (.inl (fil n (Sj 3) zf3)))), (cd 2, .inr (4, [.long rr, .ref (cd 20), .ref (cd 21), .ref (cd 22), .ref (cd 23), .ref (cd 24), .ref (cd 25), .ref (cd 26), .ref (cd 27)])), (cd 27, .inl (cJ, 40, .inr (.inl ak)))] sz)) 0 0 (va_A [(cd 1, .inr (2, [.ref (cd 10), .ref (cd 11), .ref (cd 12), .ref (cd 13), .ref (cd 14), .ref (cd 15), .ref (cd 16), .ref (cd 17), .int (nI n), .int sk, .int cp])), (cd 10, .inl (cI, 40, .inl (fil n (Si 0) ze0))), (cd 11, .inl (cI, 40, .inl (fil n (Si 1) ze1))), (cd 14, .inl (cJ, 40, .inr (.inl (fil n (Sj 0) zf0)))), (cd 17, .inl (cJ, 40, .inr (.inl (fil n (Sj 3) zf3)))), (cd 2, .inr (4, [.long rr, .ref (cd 20), .ref (cd 21), .ref (cd 22), .ref (cd 23), .ref (cd 24), .ref (cd 25), .ref (cd 26), .ref (cd 27)])), (cd 27, .inl (cJ, 40, .inr (.inl ak)))] sz) := by
  refine Met.ofW (cc := cX4_smallestMover) (maxL := 12) (ret := (some .int)) (by decide) rfl ?_
  intro p e s m args below meth c s₁ B hml hv9
  obtain ⟨rfl, hsz, hP, hK, hD0, hG⟩ := hv9
  have hx := B.exec
  have hb := B.bytes
  have hr := B.returns
  have hts := atoms_spec (ws := wx (.code yX4_smallestMover cX4_smallestMover 12 (some .int))) B.pre
  have hown : s.vm.findClass RX4 = some m.cls := findClass_of_methodNamed B.named
  have hlocks := B.notSynchronized
  subst hsz
  have hD := hD0.self (sz := s.heap.size)
  generalize hAe : va_A [(cd 1, .inr (2, [.ref (cd 10), .ref (cd 11), .ref (cd 12), .ref (cd 13), .ref (cd 14), .ref (cd 15), .ref (cd 16), .ref (cd 17), .int (nI n), .int sk, .int cp])), (cd 10, .inl (cI, 40, .inl (fil n (Si 0) ze0))), (cd 11, .inl (cI, 40, .inl (fil n (Si 1) ze1))), (cd 14, .inl (cJ, 40, .inr (.inl (fil n (Sj 0) zf0)))), (cd 17, .inl (cJ, 40, .inr (.inl (fil n (Sj 3) zf3)))), (cd 2, .inr (4, [.long rr, .ref (cd 20), .ref (cd 21), .ref (cd 22), .ref (cd 23), .ref (cd 24), .ref (cd 25), .ref (cd 26), .ref (cd 27)])), (cd 27, .inl (cJ, 40, .inr (.inl ak)))] s.heap.size = A at hD hG ⊢
  have hA : ∀ q : Nat, s.heap.size ≤ q → A q := fun q h => by rw [← hAe]; exact Or.inr h
  have hS : va_S A s.heap s.heap [] := va_S.rf
  have hP : va_P D vwCl [(cd 1, .inr (2, [.ref (cd 10), .ref (cd 11), .ref (cd 12), .ref (cd 13), .ref (cd 14), .ref (cd 15), .ref (cd 16), .ref (cd 17), .int (nI n), .int sk, .int cp])), (cd 10, .inl (cI, 40, .inl (fil n (Si 0) ze0))), (cd 11, .inl (cI, 40, .inl (fil n (Si 1) ze1))), (cd 14, .inl (cJ, 40, .inr (.inl (fil n (Sj 0) zf0)))), (cd 17, .inl (cJ, 40, .inr (.inl (fil n (Sj 3) zf3)))), (cd 2, .inr (4, [.long rr, .ref (cd 20), .ref (cd 21), .ref (cd 22), .ref (cd 23), .ref (cd 24), .ref (cd 25), .ref (cd 26), .ref (cd 27)])), (cd 27, .inl (cJ, 40, .inr (.inl ak)))] s.heap := hP
  have hl := lv_entry ([.ref (cd 2), .ref (cd 1), .int (nI j), .long x]) (n := 12) (Nat.le_of_ble_eq_true rfl)
  rw [lg_entry_eq]
  generalize (lg_sl ([.ref (cd 2), .ref (cd 1), .int (nI j), .long x]) ++ List.replicate (12 - (lg_sl ([.ref (cd 2), .ref (cd 1), .int (nI j), .long x])).length) Slot.unset).toArray = ls at hl ⊢
  have hl : lv_has ls 12 [(0, .ref (cd 2)), (1, .ref (cd 1)), (2, .int (nI j)), (3, .long x)] := hl
  refine lv_iconst (v := 0) hx hb dX4_smallestMover_0 (by decide) ?_
  refine lv_istore (lv' := [(5, .int 0), (0, .ref (cd 2)), (1, .ref (cd 1)), (2, .int (nI j)), (3, .long x)]) hx hb dX4_smallestMover_1 hl (by decide) rfl (fun ls hl => ?_)
  rw [← fil_0 (fun _ => 0) ak] at hP hD
  refine W_loop (σ := (Nat)) (fun i => n - i) (fun i ls H locs => (i ≤ n) ∧ lv_has ls 12 [(5, .int (nI i)), (0, .ref (cd 2)), (1, .ref (cd 1)), (2, .int (nI j)), (3, .long x)] ∧ va_P D vwCl [(cd 1, .inr (2, [.ref (cd 10), .ref (cd 11), .ref (cd 12), .ref (cd 13), .ref (cd 14), .ref (cd 15), .ref (cd 16), .ref (cd 17), .int (nI n), .int sk, .int cp])), (cd 10, .inl (cI, 40, .inl (fil n (Si 0) ze0))), (cd 11, .inl (cI, 40, .inl (fil n (Si 1) ze1))), (cd 14, .inl (cJ, 40, .inr (.inl (fil n (Sj 0) zf0)))), (cd 17, .inl (cJ, 40, .inr (.inl (fil n (Sj 3) zf3)))), (cd 2, .inr (4, [.long rr, .ref (cd 20), .ref (cd 21), .ref (cd 22), .ref (cd 23), .ref (cd 24), .ref (cd 25), .ref (cd 26), .ref (cd 27)])), (cd 27, .inl (cJ, 40, .inr (.inl (fil i (fun _ => 0) ak))))] H ∧ va_D A [(cd 1, .inr (2, [.ref (cd 10), .ref (cd 11), .ref (cd 12), .ref (cd 13), .ref (cd 14), .ref (cd 15), .ref (cd 16), .ref (cd 17), .int (nI n), .int sk, .int cp])), (cd 10, .inl (cI, 40, .inl (fil n (Si 0) ze0))), (cd 11, .inl (cI, 40, .inl (fil n (Si 1) ze1))), (cd 14, .inl (cJ, 40, .inr (.inl (fil n (Sj 0) zf0)))), (cd 17, .inl (cJ, 40, .inr (.inl (fil n (Sj 3) zf3)))), (cd 2, .inr (4, [.long rr, .ref (cd 20), .ref (cd 21), .ref (cd 22), .ref (cd 23), .ref (cd 24), .ref (cd 25), .ref (cd 26), .ref (cd 27)])), (cd 27, .inl (cJ, 40, .inr (.inl (fil i (fun _ => 0) ak))))] ∧ va_S A s.heap H locs) ?_ (0) _ _ _ ⟨Nat.zero_le _, lv_sub hl (l' := [(5, .int 0), (0, .ref (cd 2)), (1, .ref (cd 1)), (2, .int (nI j)), (3, .long x)]) [0, 1, 2, 3, 4] rfl, hP, hD, hS⟩
  rintro i ls H locs ⟨hi, hl, hP, hD, hS⟩ ih
  have hi : i ≤ n := hi
  have hl : lv_has ls 12 [(5, .int (nI i)), (0, .ref (cd 2)), (1, .ref (cd 1)), (2, .int (nI j)), (3, .long x)] := hl
  have hP : va_P D vwCl [(cd 1, .inr (2, [.ref (cd 10), .ref (cd 11), .ref (cd 12), .ref (cd 13), .ref (cd 14), .ref (cd 15), .ref (cd 16), .ref (cd 17), .int (nI n), .int sk, .int cp])), (cd 10, .inl (cI, 40, .inl (fil n (Si 0) ze0))), (cd 11, .inl (cI, 40, .inl (fil n (Si 1) ze1))), (cd 14, .inl (cJ, 40, .inr (.inl (fil n (Sj 0) zf0)))), (cd 17, .inl (cJ, 40, .inr (.inl (fil n (Sj 3) zf3)))), (cd 2, .inr (4, [.long rr, .ref (cd 20), .ref (cd 21), .ref (cd 22), .ref (cd 23), .ref (cd 24), .ref (cd 25), .ref (cd 26), .ref (cd 27)])), (cd 27, .inl (cJ, 40, .inr (.inl (fil i (fun _ => 0) ak))))] _ := hP
  have hD : va_D A [(cd 1, .inr (2, [.ref (cd 10), .ref (cd 11), .ref (cd 12), .ref (cd 13), .ref (cd 14), .ref (cd 15), .ref (cd 16), .ref (cd 17), .int (nI n), .int sk, .int cp])), (cd 10, .inl (cI, 40, .inl (fil n (Si 0) ze0))), (cd 11, .inl (cI, 40, .inl (fil n (Si 1) ze1))), (cd 14, .inl (cJ, 40, .inr (.inl (fil n (Sj 0) zf0)))), (cd 17, .inl (cJ, 40, .inr (.inl (fil n (Sj 3) zf3)))), (cd 2, .inr (4, [.long rr, .ref (cd 20), .ref (cd 21), .ref (cd 22), .ref (cd 23), .ref (cd 24), .ref (cd 25), .ref (cd 26), .ref (cd 27)])), (cd 27, .inl (cJ, 40, .inr (.inl (fil i (fun _ => 0) ak))))] := hD
  have ih_3 := ih
  refine lv_iload hx hb dX4_smallestMover_3 (lv_at hl 0 rfl) ?_
  refine lv_aload_n hx hb dX4_smallestMover_5 rfl (lv_at hl 2 rfl) ?_
  refine va_getN (D := D) (ci := 2) (v := .int (nI n)) (C := RX2) (T := TX2) (N := 11) (ref := "Ironwood$Steps") (host := "Ironwood") hx hb hts in_RX2 hown hK hP 0 rfl rfl 8 (by decide) (hG.1.get 32 rfl) (fun _ h9 => h9) rfl dX4_smallestMover_6 ?_
  refine lv_icmp_ge (tgt := 26) hx hb dX4_smallestMover_9 (by decide) (fun c_9 => ?_) (fun c_9 => ?_)
  · skip
    have c_9 : n ≤ i := (nI_leI (a := n) (b := i) (by omega) (by omega)).mp c_9
    have hin : i = n := by omega
    rw [hin] at hP hD
    have hP : va_P D vwCl [(cd 1, .inr (2, [.ref (cd 10), .ref (cd 11), .ref (cd 12), .ref (cd 13), .ref (cd 14), .ref (cd 15), .ref (cd 16), .ref (cd 17), .int (nI n), .int sk, .int cp])), (cd 10, .inl (cI, 40, .inl (fil n (Si 0) ze0))), (cd 11, .inl (cI, 40, .inl (fil n (Si 1) ze1))), (cd 14, .inl (cJ, 40, .inr (.inl (fil n (Sj 0) zf0)))), (cd 17, .inl (cJ, 40, .inr (.inl (fil n (Sj 3) zf3)))), (cd 2, .inr (4, [.long rr, .ref (cd 20), .ref (cd 21), .ref (cd 22), .ref (cd 23), .ref (cd 24), .ref (cd 25), .ref (cd 26), .ref (cd 27)])), (cd 27, .inl (cJ, 40, .inr (.inl (fil n (fun _ => 0) ak))))] _ := hP
    have hD : va_D A [(cd 1, .inr (2, [.ref (cd 10), .ref (cd 11), .ref (cd 12), .ref (cd 13), .ref (cd 14), .ref (cd 15), .ref (cd 16), .ref (cd 17), .int (nI n), .int sk, .int cp])), (cd 10, .inl (cI, 40, .inl (fil n (Si 0) ze0))), (cd 11, .inl (cI, 40, .inl (fil n (Si 1) ze1))), (cd 14, .inl (cJ, 40, .inr (.inl (fil n (Sj 0) zf0)))), (cd 17, .inl (cJ, 40, .inr (.inl (fil n (Sj 3) zf3)))), (cd 2, .inr (4, [.long rr, .ref (cd 20), .ref (cd 21), .ref (cd 22), .ref (cd 23), .ref (cd 24), .ref (cd 25), .ref (cd 26), .ref (cd 27)])), (cd 27, .inl (cJ, 40, .inr (.inl (fil n (fun _ => 0) ak))))] := hD
    have hl : lv_has ls 12 [(5, .int (nI i)), (0, .ref (cd 2)), (1, .ref (cd 1)), (2, .int (nI j)), (3, .long x)] := hl
    refine lv_aload_n hx hb dX4_smallestMover_26 rfl (lv_at hl 1 rfl) ?_
    refine va_get (D := D) (ci := 4) (v := .ref (cd 27)) (C := RX4) (T := TX4) (N := 9) (ref := "Ironwood$Ways") hx hb hts in_RX4 hown hK hP 5 rfl rfl 8 (by decide) (hts _ (mc q_233)) (fun _ h9 => h9) rfl dX4_smallestMover_27 ?_
    refine lv_iload_n hx hb dX4_smallestMover_30 rfl (lv_at hl 3 rfl) ?_
    refine lv_lload_n hx hb dX4_smallestMover_31 rfl (lv_at hl 4 rfl) ?_
    refine va_last hx hb hK hP hD hS 6 1 rfl rfl (vp_in_nI (n := j) (by omega) (by omega)) dX4_smallestMover_32 (fun H locs hP hD hS => ?_)
    rw [nI_clamp (n := j) (by omega)] at hP hD
    rw [fil_vpl (n := n) (j := j) (by omega)] at hP hD
    have hP : va_P D vwCl [(cd 1, .inr (2, [.ref (cd 10), .ref (cd 11), .ref (cd 12), .ref (cd 13), .ref (cd 14), .ref (cd 15), .ref (cd 16), .ref (cd 17), .int (nI n), .int sk, .int cp])), (cd 10, .inl (cI, 40, .inl (fil n (Si 0) ze0))), (cd 11, .inl (cI, 40, .inl (fil n (Si 1) ze1))), (cd 14, .inl (cJ, 40, .inr (.inl (fil n (Sj 0) zf0)))), (cd 17, .inl (cJ, 40, .inr (.inl (fil n (Sj 3) zf3)))), (cd 2, .inr (4, [.long rr, .ref (cd 20), .ref (cd 21), .ref (cd 22), .ref (cd 23), .ref (cd 24), .ref (cd 25), .ref (cd 26), .ref (cd 27)])), (cd 27, .inl (cJ, 40, .inr (.inl (fil n (vp_updL (fun _ => 0) j x) ak))))] _ := hP
    have hD : va_D A [(cd 1, .inr (2, [.ref (cd 10), .ref (cd 11), .ref (cd 12), .ref (cd 13), .ref (cd 14), .ref (cd 15), .ref (cd 16), .ref (cd 17), .int (nI n), .int sk, .int cp])), (cd 10, .inl (cI, 40, .inl (fil n (Si 0) ze0))), (cd 11, .inl (cI, 40, .inl (fil n (Si 1) ze1))), (cd 14, .inl (cJ, 40, .inr (.inl (fil n (Sj 0) zf0)))), (cd 17, .inl (cJ, 40, .inr (.inl (fil n (Sj 3) zf3)))), (cd 2, .inr (4, [.long rr, .ref (cd 20), .ref (cd 21), .ref (cd 22), .ref (cd 23), .ref (cd 24), .ref (cd 25), .ref (cd 26), .ref (cd 27)])), (cd 27, .inl (cJ, 40, .inr (.inl (fil n (vp_updL (fun _ => 0) j x) ak))))] := hD
    refine lv_lconst (v := 0) hx hb dX4_smallestMover_33 (by decide) ?_
    refine lv_lstore (lv' := [(5, .long 0), (0, .ref (cd 2)), (1, .ref (cd 1)), (2, .int (nI j)), (3, .long x)]) hx hb dX4_smallestMover_34 hl (by decide) rfl (fun ls hl => ?_)
    refine lv_iconst (v := 1) hx hb dX4_smallestMover_36 (by decide) ?_
    refine lv_istore (lv' := [(7, .int 1), (5, .long 0), (0, .ref (cd 2)), (1, .ref (cd 1)), (2, .int (nI j)), (3, .long x)]) hx hb dX4_smallestMover_37 hl (by decide) rfl (fun ls hl => ?_)
    refine lv_iconst (v := 0) hx hb dX4_smallestMover_39 (by decide) ?_
    refine lv_istore (lv' := [(8, .int 0), (7, .int 1), (5, .long 0), (0, .ref (cd 2)), (1, .ref (cd 1)), (2, .int (nI j)), (3, .long x)]) hx hb dX4_smallestMover_40 hl (by decide) rfl (fun ls hl => ?_)
    refine W_loop (σ := (Nat) × (Bool) × (Nat → Int64) × (Int64)) (fun ⟨r, b, A1, m1⟩ => 1000000 - r) (fun ⟨r, b, A1, m1⟩ ls H locs => (r ≤ 1000000) ∧ (smW n Si Sj rr j x = fxr (smR n Si Sj rr) (1000000 - r) (A1, m1) b) ∧ lv_has ls 12 [(8, .int (nI r)), (7, .int (bz b)), (5, .long m1), (0, .ref (cd 2)), (1, .ref (cd 1)), (2, .int (nI j)), (3, .long x)] ∧ va_P D vwCl [(cd 1, .inr (2, [.ref (cd 10), .ref (cd 11), .ref (cd 12), .ref (cd 13), .ref (cd 14), .ref (cd 15), .ref (cd 16), .ref (cd 17), .int (nI n), .int sk, .int cp])), (cd 10, .inl (cI, 40, .inl (fil n (Si 0) ze0))), (cd 11, .inl (cI, 40, .inl (fil n (Si 1) ze1))), (cd 14, .inl (cJ, 40, .inr (.inl (fil n (Sj 0) zf0)))), (cd 17, .inl (cJ, 40, .inr (.inl (fil n (Sj 3) zf3)))), (cd 2, .inr (4, [.long rr, .ref (cd 20), .ref (cd 21), .ref (cd 22), .ref (cd 23), .ref (cd 24), .ref (cd 25), .ref (cd 26), .ref (cd 27)])), (cd 27, .inl (cJ, 40, .inr (.inl (fil n A1 ak))))] H ∧ va_D A [(cd 1, .inr (2, [.ref (cd 10), .ref (cd 11), .ref (cd 12), .ref (cd 13), .ref (cd 14), .ref (cd 15), .ref (cd 16), .ref (cd 17), .int (nI n), .int sk, .int cp])), (cd 10, .inl (cI, 40, .inl (fil n (Si 0) ze0))), (cd 11, .inl (cI, 40, .inl (fil n (Si 1) ze1))), (cd 14, .inl (cJ, 40, .inr (.inl (fil n (Sj 0) zf0)))), (cd 17, .inl (cJ, 40, .inr (.inl (fil n (Sj 3) zf3)))), (cd 2, .inr (4, [.long rr, .ref (cd 20), .ref (cd 21), .ref (cd 22), .ref (cd 23), .ref (cd 24), .ref (cd 25), .ref (cd 26), .ref (cd 27)])), (cd 27, .inl (cJ, 40, .inr (.inl (fil n A1 ak))))] ∧ va_S A s.heap H locs) ?_ (0, true, vp_updL (fun _ => 0) j x, 0) _ _ _ ⟨Nat.zero_le _, rfl, lv_sub hl (l' := [(8, .int 0), (7, .int 1), (5, .long 0), (0, .ref (cd 2)), (1, .ref (cd 1)), (2, .int (nI j)), (3, .long x)]) [0, 1, 2, 3, 4, 5, 6] rfl, hP, hD, hS⟩
    rintro ⟨r, b, A1, m1⟩ ls H locs ⟨hr9, hf, hl, hP, hD, hS⟩ ih
    have hr9 : r ≤ 1000000 := hr9
    have hf : smW n Si Sj rr j x = fxr (smR n Si Sj rr) (1000000 - r) (A1, m1) b := hf
    have hl : lv_has ls 12 [(8, .int (nI r)), (7, .int (bz b)), (5, .long m1), (0, .ref (cd 2)), (1, .ref (cd 1)), (2, .int (nI j)), (3, .long x)] := hl
    have hP : va_P D vwCl [(cd 1, .inr (2, [.ref (cd 10), .ref (cd 11), .ref (cd 12), .ref (cd 13), .ref (cd 14), .ref (cd 15), .ref (cd 16), .ref (cd 17), .int (nI n), .int sk, .int cp])), (cd 10, .inl (cI, 40, .inl (fil n (Si 0) ze0))), (cd 11, .inl (cI, 40, .inl (fil n (Si 1) ze1))), (cd 14, .inl (cJ, 40, .inr (.inl (fil n (Sj 0) zf0)))), (cd 17, .inl (cJ, 40, .inr (.inl (fil n (Sj 3) zf3)))), (cd 2, .inr (4, [.long rr, .ref (cd 20), .ref (cd 21), .ref (cd 22), .ref (cd 23), .ref (cd 24), .ref (cd 25), .ref (cd 26), .ref (cd 27)])), (cd 27, .inl (cJ, 40, .inr (.inl (fil n A1 ak))))] _ := hP
    have hD : va_D A [(cd 1, .inr (2, [.ref (cd 10), .ref (cd 11), .ref (cd 12), .ref (cd 13), .ref (cd 14), .ref (cd 15), .ref (cd 16), .ref (cd 17), .int (nI n), .int sk, .int cp])), (cd 10, .inl (cI, 40, .inl (fil n (Si 0) ze0))), (cd 11, .inl (cI, 40, .inl (fil n (Si 1) ze1))), (cd 14, .inl (cJ, 40, .inr (.inl (fil n (Sj 0) zf0)))), (cd 17, .inl (cJ, 40, .inr (.inl (fil n (Sj 3) zf3)))), (cd 2, .inr (4, [.long rr, .ref (cd 20), .ref (cd 21), .ref (cd 22), .ref (cd 23), .ref (cd 24), .ref (cd 25), .ref (cd 26), .ref (cd 27)])), (cd 27, .inl (cJ, 40, .inr (.inl (fil n A1 ak))))] := hD
    have ih_42 := ih
    refine lv_iload hx hb dX4_smallestMover_42 (lv_at hl 0 rfl) ?_
    refine lv_ldc (v := 1000000) hx hb hown (hts _ (mc q_463)) dX4_smallestMover_44 ?_
    refine lv_icmp_ge (tgt := 168) hx hb dX4_smallestMover_46 (by decide) (fun c_46 => ?_) (fun c_46 => ?_)
    · skip
      have c_46 : 1000000 ≤ r := (nI_leI (a := 1000000) (b := r) (by omega) (by omega)).mp c_46
      have hfe := congrArg (fun z : SM => smI z.2) (hf.trans (fxr_end (Or.inl (by omega))))
      refine lv_lload hx hb dX4_smallestMover_168 (lv_at hl 2 rfl) ?_
      refine kc_i (wr := [(cd 1, .inr (2, [.ref (cd 10), .ref (cd 11), .ref (cd 12), .ref (cd 13), .ref (cd 14), .ref (cd 15), .ref (cd 16), .ref (cd 17), .int (nI n), .int sk, .int cp])), (cd 10, .inl (cI, 40, .inl (fil n (Si 0) ze0))), (cd 11, .inl (cI, 40, .inl (fil n (Si 1) ze1))), (cd 14, .inl (cJ, 40, .inr (.inl (fil n (Sj 0) zf0)))), (cd 17, .inl (cJ, 40, .inr (.inl (fil n (Sj 3) zf3)))), (cd 2, .inr (4, [.long rr, .ref (cd 20), .ref (cd 21), .ref (cd 22), .ref (cd 23), .ref (cd 24), .ref (cd 25), .ref (cd 26), .ref (cd 27)])), (cd 27, .inl (cJ, 40, .inr (.inl (fil n A1 ak))))]) (va_runSN (As := [.long m1]) (rest := []) (host := "Ironwood") ⟨hx, hb, hml, hown, hts⟩ (k_smallestIn l D cI cJ cZ cR m1 _) ⟨va_cnB 1 hts (gB q_673) rfl rfl rfl (hG.1.nw 88 rfl) (hts _ (mc q_64)) (by decide +kernel) ⟨Nat.le_of_ble_eq_true rfl, Nat.le_of_ble_eq_true rfl⟩, hts _ (mc q_672), trivial⟩ ⟨Pw.blind, Pw.mk_call hP hK hD hS hA hG [] rfl (by decide)⟩ rfl rfl hl.1 rfl (lv_room (Nat.le_of_ble_eq_true rfl)) dX4_smallestMover_170 ⟨Nat.le_of_ble_eq_true rfl, Nat.le_of_ble_eq_true rfl⟩) hP hD hS hA [] [0, 1, 2, 3, 4, 5, 6] rfl rfl (by decide) (by decide) (fun r_3 u_4 H locs hw hP hD hS => ?_)
      obtain rfl : r_3 = smI m1 := hw
      have hP : va_P D vwCl [(cd 1, .inr (2, [.ref (cd 10), .ref (cd 11), .ref (cd 12), .ref (cd 13), .ref (cd 14), .ref (cd 15), .ref (cd 16), .ref (cd 17), .int (nI n), .int sk, .int cp])), (cd 10, .inl (cI, 40, .inl (fil n (Si 0) ze0))), (cd 11, .inl (cI, 40, .inl (fil n (Si 1) ze1))), (cd 14, .inl (cJ, 40, .inr (.inl (fil n (Sj 0) zf0)))), (cd 17, .inl (cJ, 40, .inr (.inl (fil n (Sj 3) zf3)))), (cd 2, .inr (4, [.long rr, .ref (cd 20), .ref (cd 21), .ref (cd 22), .ref (cd 23), .ref (cd 24), .ref (cd 25), .ref (cd 26), .ref (cd 27)])), (cd 27, .inl (cJ, 40, .inr (.inl (fil n A1 ak))))] _ := hP
      have hD : va_D A [(cd 1, .inr (2, [.ref (cd 10), .ref (cd 11), .ref (cd 12), .ref (cd 13), .ref (cd 14), .ref (cd 15), .ref (cd 16), .ref (cd 17), .int (nI n), .int sk, .int cp])), (cd 10, .inl (cI, 40, .inl (fil n (Si 0) ze0))), (cd 11, .inl (cI, 40, .inl (fil n (Si 1) ze1))), (cd 14, .inl (cJ, 40, .inr (.inl (fil n (Sj 0) zf0)))), (cd 17, .inl (cJ, 40, .inr (.inl (fil n (Sj 3) zf3)))), (cd 2, .inr (4, [.long rr, .ref (cd 20), .ref (cd 21), .ref (cd 22), .ref (cd 23), .ref (cd 24), .ref (cd 25), .ref (cd 26), .ref (cd 27)])), (cd 27, .inl (cJ, 40, .inr (.inl (fil n A1 ak))))] := hD
      exact ke_i hx hb hr (by first | rfl | decide | exact bz_nar _) (fil n A1 ak) (hfe.symm) hP hD hS (Nat.le_of_ble_eq_true rfl) (Nat.le_of_ble_eq_true rfl) hlocks dX4_smallestMover_173
    · skip
      have c_46 : r < 1000000 := Nat.lt_of_not_le (fun h9 => c_46 ((nI_leI (a := 1000000) (b := r) (by omega) (by omega)).mpr h9))
      refine lv_iload hx hb dX4_smallestMover_49 (lv_at hl 1 rfl) ?_
      refine lv_if_eq (tgt := 168) hx hb dX4_smallestMover_51 (by decide) (fun c_51 => ?_) (fun c_51 => ?_)
      · skip
        have c_51 : b = false := bz_f c_51
        have hfe := congrArg (fun z : SM => smI z.2) (hf.trans (fxr_end (Or.inr c_51)))
        refine lv_lload hx hb dX4_smallestMover_168 (lv_at hl 2 rfl) ?_
        refine kc_i (wr := [(cd 1, .inr (2, [.ref (cd 10), .ref (cd 11), .ref (cd 12), .ref (cd 13), .ref (cd 14), .ref (cd 15), .ref (cd 16), .ref (cd 17), .int (nI n), .int sk, .int cp])), (cd 10, .inl (cI, 40, .inl (fil n (Si 0) ze0))), (cd 11, .inl (cI, 40, .inl (fil n (Si 1) ze1))), (cd 14, .inl (cJ, 40, .inr (.inl (fil n (Sj 0) zf0)))), (cd 17, .inl (cJ, 40, .inr (.inl (fil n (Sj 3) zf3)))), (cd 2, .inr (4, [.long rr, .ref (cd 20), .ref (cd 21), .ref (cd 22), .ref (cd 23), .ref (cd 24), .ref (cd 25), .ref (cd 26), .ref (cd 27)])), (cd 27, .inl (cJ, 40, .inr (.inl (fil n A1 ak))))]) (va_runSN (As := [.long m1]) (rest := []) (host := "Ironwood") ⟨hx, hb, hml, hown, hts⟩ (k_smallestIn l D cI cJ cZ cR m1 _) ⟨va_cnB 1 hts (gB q_673) rfl rfl rfl (hG.1.nw 88 rfl) (hts _ (mc q_64)) (by decide +kernel) ⟨Nat.le_of_ble_eq_true rfl, Nat.le_of_ble_eq_true rfl⟩, hts _ (mc q_672), trivial⟩ ⟨Pw.blind, Pw.mk_call hP hK hD hS hA hG [] rfl (by decide)⟩ rfl rfl hl.1 rfl (lv_room (Nat.le_of_ble_eq_true rfl)) dX4_smallestMover_170 ⟨Nat.le_of_ble_eq_true rfl, Nat.le_of_ble_eq_true rfl⟩) hP hD hS hA [] [0, 1, 2, 3, 4, 5, 6] rfl rfl (by decide) (by decide) (fun r_5 u_6 H locs hw hP hD hS => ?_)
        obtain rfl : r_5 = smI m1 := hw
        have hP : va_P D vwCl [(cd 1, .inr (2, [.ref (cd 10), .ref (cd 11), .ref (cd 12), .ref (cd 13), .ref (cd 14), .ref (cd 15), .ref (cd 16), .ref (cd 17), .int (nI n), .int sk, .int cp])), (cd 10, .inl (cI, 40, .inl (fil n (Si 0) ze0))), (cd 11, .inl (cI, 40, .inl (fil n (Si 1) ze1))), (cd 14, .inl (cJ, 40, .inr (.inl (fil n (Sj 0) zf0)))), (cd 17, .inl (cJ, 40, .inr (.inl (fil n (Sj 3) zf3)))), (cd 2, .inr (4, [.long rr, .ref (cd 20), .ref (cd 21), .ref (cd 22), .ref (cd 23), .ref (cd 24), .ref (cd 25), .ref (cd 26), .ref (cd 27)])), (cd 27, .inl (cJ, 40, .inr (.inl (fil n A1 ak))))] _ := hP
        have hD : va_D A [(cd 1, .inr (2, [.ref (cd 10), .ref (cd 11), .ref (cd 12), .ref (cd 13), .ref (cd 14), .ref (cd 15), .ref (cd 16), .ref (cd 17), .int (nI n), .int sk, .int cp])), (cd 10, .inl (cI, 40, .inl (fil n (Si 0) ze0))), (cd 11, .inl (cI, 40, .inl (fil n (Si 1) ze1))), (cd 14, .inl (cJ, 40, .inr (.inl (fil n (Sj 0) zf0)))), (cd 17, .inl (cJ, 40, .inr (.inl (fil n (Sj 3) zf3)))), (cd 2, .inr (4, [.long rr, .ref (cd 20), .ref (cd 21), .ref (cd 22), .ref (cd 23), .ref (cd 24), .ref (cd 25), .ref (cd 26), .ref (cd 27)])), (cd 27, .inl (cJ, 40, .inr (.inl (fil n A1 ak))))] := hD
        exact ke_i hx hb hr (by first | rfl | decide | exact bz_nar _) (fil n A1 ak) (hfe.symm) hP hD hS (Nat.le_of_ble_eq_true rfl) (Nat.le_of_ble_eq_true rfl) hlocks dX4_smallestMover_173
      · skip
        have c_51 : b = true := bz_t c_51
        have hf2 := hf.trans ((congrArg (fun z => fxr (smR n Si Sj rr) (1000000 - r) (A1, m1) z) c_51).trans (fxr_go1 (by omega)))
        refine lv_iconst (v := 0) hx hb dX4_smallestMover_54 (by decide) ?_
        refine lv_istore (lv' := [(7, .int 0), (8, .int (nI r)), (5, .long m1), (0, .ref (cd 2)), (1, .ref (cd 1)), (2, .int (nI j)), (3, .long x)]) hx hb dX4_smallestMover_55 hl (by decide) rfl (fun ls hl => ?_)
        refine lv_aload_n hx hb dX4_smallestMover_57 rfl (lv_at hl 4 rfl) ?_
        refine va_getN (D := D) (ci := 2) (v := .int (nI n)) (C := RX2) (T := TX2) (N := 11) (ref := "Ironwood$Steps") (host := "Ironwood") hx hb hts in_RX2 hown hK hP 0 rfl rfl 8 (by decide) (hG.1.get 32 rfl) (fun _ h9 => h9) rfl dX4_smallestMover_58 ?_
        refine lv_iconst (v := 1) hx hb dX4_smallestMover_61 (by decide) ?_
        refine lv_isub hx hb dX4_smallestMover_62 ?_
        refine tI (v := nI (n - 1)) ((pk_sub (a := n) (b := 1) (by omega))) ?_
        refine lv_istore (lv' := [(9, .int (nI (n - 1))), (7, .int 0), (8, .int (nI r)), (5, .long m1), (0, .ref (cd 2)), (1, .ref (cd 1)), (2, .int (nI j)), (3, .long x)]) hx hb dX4_smallestMover_63 hl (by decide) rfl (fun ls hl => ?_)
        rw [show nI (n - 1) = nI (n - 0) - 1 by rw [show n - 0 = n - 1 + 1 by omega, nI_pred]] at hl
        have hP : va_P D vwCl [(cd 1, .inr (2, [.ref (cd 10), .ref (cd 11), .ref (cd 12), .ref (cd 13), .ref (cd 14), .ref (cd 15), .ref (cd 16), .ref (cd 17), .int (nI n), .int sk, .int cp])), (cd 10, .inl (cI, 40, .inl (fil n (Si 0) ze0))), (cd 11, .inl (cI, 40, .inl (fil n (Si 1) ze1))), (cd 14, .inl (cJ, 40, .inr (.inl (fil n (Sj 0) zf0)))), (cd 17, .inl (cJ, 40, .inr (.inl (fil n (Sj 3) zf3)))), (cd 2, .inr (4, [.long rr, .ref (cd 20), .ref (cd 21), .ref (cd 22), .ref (cd 23), .ref (cd 24), .ref (cd 25), .ref (cd 26), .ref (cd 27)])), (cd 27, .inl (cJ, 40, .inr (.inl (fil n A1 ak))))] _ := hP
        have hD : va_D A [(cd 1, .inr (2, [.ref (cd 10), .ref (cd 11), .ref (cd 12), .ref (cd 13), .ref (cd 14), .ref (cd 15), .ref (cd 16), .ref (cd 17), .int (nI n), .int sk, .int cp])), (cd 10, .inl (cI, 40, .inl (fil n (Si 0) ze0))), (cd 11, .inl (cI, 40, .inl (fil n (Si 1) ze1))), (cd 14, .inl (cJ, 40, .inr (.inl (fil n (Sj 0) zf0)))), (cd 17, .inl (cJ, 40, .inr (.inl (fil n (Sj 3) zf3)))), (cd 2, .inr (4, [.long rr, .ref (cd 20), .ref (cd 21), .ref (cd 22), .ref (cd 23), .ref (cd 24), .ref (cd 25), .ref (cd 26), .ref (cd 27)])), (cd 27, .inl (cJ, 40, .inr (.inl (fil n A1 ak))))] := hD
        have hl : lv_has ls 12 [(9, .int (nI (n - 0) - 1)), (7, .int 0), (8, .int (nI r)), (5, .long m1), (0, .ref (cd 2)), (1, .ref (cd 1)), (2, .int (nI j)), (3, .long x)] := hl
        refine W_loop (σ := (Nat) × (Bool) × (Nat → Int64) × (Int64)) (fun ⟨k, c1, A2, m2⟩ => n - k) (fun ⟨k, c1, A2, m2⟩ ls H locs => (k ≤ n) ∧ (smR n Si Sj rr (A1, m1) = itF (smB n Si Sj rr) n k ((A2, m2), c1)) ∧ lv_has ls 12 [(9, .int (nI (n - k) - 1)), (7, .int (bz c1)), (8, .int (nI r)), (5, .long m2), (0, .ref (cd 2)), (1, .ref (cd 1)), (2, .int (nI j)), (3, .long x)] ∧ va_P D vwCl [(cd 1, .inr (2, [.ref (cd 10), .ref (cd 11), .ref (cd 12), .ref (cd 13), .ref (cd 14), .ref (cd 15), .ref (cd 16), .ref (cd 17), .int (nI n), .int sk, .int cp])), (cd 10, .inl (cI, 40, .inl (fil n (Si 0) ze0))), (cd 11, .inl (cI, 40, .inl (fil n (Si 1) ze1))), (cd 14, .inl (cJ, 40, .inr (.inl (fil n (Sj 0) zf0)))), (cd 17, .inl (cJ, 40, .inr (.inl (fil n (Sj 3) zf3)))), (cd 2, .inr (4, [.long rr, .ref (cd 20), .ref (cd 21), .ref (cd 22), .ref (cd 23), .ref (cd 24), .ref (cd 25), .ref (cd 26), .ref (cd 27)])), (cd 27, .inl (cJ, 40, .inr (.inl (fil n A2 ak))))] H ∧ va_D A [(cd 1, .inr (2, [.ref (cd 10), .ref (cd 11), .ref (cd 12), .ref (cd 13), .ref (cd 14), .ref (cd 15), .ref (cd 16), .ref (cd 17), .int (nI n), .int sk, .int cp])), (cd 10, .inl (cI, 40, .inl (fil n (Si 0) ze0))), (cd 11, .inl (cI, 40, .inl (fil n (Si 1) ze1))), (cd 14, .inl (cJ, 40, .inr (.inl (fil n (Sj 0) zf0)))), (cd 17, .inl (cJ, 40, .inr (.inl (fil n (Sj 3) zf3)))), (cd 2, .inr (4, [.long rr, .ref (cd 20), .ref (cd 21), .ref (cd 22), .ref (cd 23), .ref (cd 24), .ref (cd 25), .ref (cd 26), .ref (cd 27)])), (cd 27, .inl (cJ, 40, .inr (.inl (fil n A2 ak))))] ∧ va_S A s.heap H locs) ?_ (0, false, A1, m1) _ _ _ ⟨Nat.zero_le _, rfl, lv_sub hl (l' := [(9, .int (nI (n - 0) - 1)), (7, .int 0), (8, .int (nI r)), (5, .long m1), (0, .ref (cd 2)), (1, .ref (cd 1)), (2, .int (nI j)), (3, .long x)]) [0, 1, 2, 3, 4, 5, 6, 7] rfl, hP, hD, hS⟩
        rintro ⟨k, c1, A2, m2⟩ ls H locs ⟨hk, hfj, hl, hP, hD, hS⟩ ih
        have hk : k ≤ n := hk
        have hfj : smR n Si Sj rr (A1, m1) = itF (smB n Si Sj rr) n k ((A2, m2), c1) := hfj
        have hl : lv_has ls 12 [(9, .int (nI (n - k) - 1)), (7, .int (bz c1)), (8, .int (nI r)), (5, .long m2), (0, .ref (cd 2)), (1, .ref (cd 1)), (2, .int (nI j)), (3, .long x)] := hl
        have hP : va_P D vwCl [(cd 1, .inr (2, [.ref (cd 10), .ref (cd 11), .ref (cd 12), .ref (cd 13), .ref (cd 14), .ref (cd 15), .ref (cd 16), .ref (cd 17), .int (nI n), .int sk, .int cp])), (cd 10, .inl (cI, 40, .inl (fil n (Si 0) ze0))), (cd 11, .inl (cI, 40, .inl (fil n (Si 1) ze1))), (cd 14, .inl (cJ, 40, .inr (.inl (fil n (Sj 0) zf0)))), (cd 17, .inl (cJ, 40, .inr (.inl (fil n (Sj 3) zf3)))), (cd 2, .inr (4, [.long rr, .ref (cd 20), .ref (cd 21), .ref (cd 22), .ref (cd 23), .ref (cd 24), .ref (cd 25), .ref (cd 26), .ref (cd 27)])), (cd 27, .inl (cJ, 40, .inr (.inl (fil n A2 ak))))] _ := hP
        have hD : va_D A [(cd 1, .inr (2, [.ref (cd 10), .ref (cd 11), .ref (cd 12), .ref (cd 13), .ref (cd 14), .ref (cd 15), .ref (cd 16), .ref (cd 17), .int (nI n), .int sk, .int cp])), (cd 10, .inl (cI, 40, .inl (fil n (Si 0) ze0))), (cd 11, .inl (cI, 40, .inl (fil n (Si 1) ze1))), (cd 14, .inl (cJ, 40, .inr (.inl (fil n (Sj 0) zf0)))), (cd 17, .inl (cJ, 40, .inr (.inl (fil n (Sj 3) zf3)))), (cd 2, .inr (4, [.long rr, .ref (cd 20), .ref (cd 21), .ref (cd 22), .ref (cd 23), .ref (cd 24), .ref (cd 25), .ref (cd 26), .ref (cd 27)])), (cd 27, .inl (cJ, 40, .inr (.inl (fil n A2 ak))))] := hD
        have ih_65 := ih
        refine lv_iload hx hb dX4_smallestMover_65 (lv_at hl 0 rfl) ?_
        refine lv_if_lt (tgt := 162) hx hb dX4_smallestMover_67 (by decide) (fun c_67 => ?_) (fun c_67 => ?_)
        · skip
          have hkn : k = n := by
            rcases Nat.lt_or_ge k n with h | h
            · exact absurd c_67 (by rw [show n - k = n - (k + 1) + 1 by omega, nI_pred]; exact nI_pos (by omega))
            · omega
          have hfi := hfj.trans (itF_ge (by omega))
          refine lv_iinc (v := nI (r + 1)) (lv' := [(8, .int (nI (r + 1))), (9, .int (nI (n - k) - 1)), (7, .int (bz c1)), (5, .long m2), (0, .ref (cd 2)), (1, .ref (cd 1)), (2, .int (nI j)), (3, .long x)]) hx hb dX4_smallestMover_162 hl (k := 2) rfl (nI_add r 1) (by decide) rfl (fun ls hl => ?_)
          refine lv_goto (tgt := 42) hx hb dX4_smallestMover_165 (by decide) ?_
          exact ih_42 (r + 1, c1, A2, m2) _ _ _ (by show 1000000 - (r + 1) < 1000000 - r; omega) ⟨by show _ ≤ _; omega, hf2.trans (by rw [show 1000000 - (r + 1) = 1000000 - r - 1 by omega]; rw [hfi]), lv_sub hl [0, 2, 3, 4, 5, 6, 7] rfl, hP, hD, hS⟩
        · skip
          have hkn : k < n := by
            rcases Nat.lt_or_ge k n with h | h
            · exact h
            · exact absurd c_67 (by rw [show n - k = 0 by omega]; decide)
          have hmk : nI (n - k) - 1 = nI (n - (k + 1)) := by rw [show n - k = n - (k + 1) + 1 by omega]; exact nI_pred _
          rw [hmk] at hl
          have hP : va_P D vwCl [(cd 1, .inr (2, [.ref (cd 10), .ref (cd 11), .ref (cd 12), .ref (cd 13), .ref (cd 14), .ref (cd 15), .ref (cd 16), .ref (cd 17), .int (nI n), .int sk, .int cp])), (cd 10, .inl (cI, 40, .inl (fil n (Si 0) ze0))), (cd 11, .inl (cI, 40, .inl (fil n (Si 1) ze1))), (cd 14, .inl (cJ, 40, .inr (.inl (fil n (Sj 0) zf0)))), (cd 17, .inl (cJ, 40, .inr (.inl (fil n (Sj 3) zf3)))), (cd 2, .inr (4, [.long rr, .ref (cd 20), .ref (cd 21), .ref (cd 22), .ref (cd 23), .ref (cd 24), .ref (cd 25), .ref (cd 26), .ref (cd 27)])), (cd 27, .inl (cJ, 40, .inr (.inl (fil n A2 ak))))] _ := hP
          have hD : va_D A [(cd 1, .inr (2, [.ref (cd 10), .ref (cd 11), .ref (cd 12), .ref (cd 13), .ref (cd 14), .ref (cd 15), .ref (cd 16), .ref (cd 17), .int (nI n), .int sk, .int cp])), (cd 10, .inl (cI, 40, .inl (fil n (Si 0) ze0))), (cd 11, .inl (cI, 40, .inl (fil n (Si 1) ze1))), (cd 14, .inl (cJ, 40, .inr (.inl (fil n (Sj 0) zf0)))), (cd 17, .inl (cJ, 40, .inr (.inl (fil n (Sj 3) zf3)))), (cd 2, .inr (4, [.long rr, .ref (cd 20), .ref (cd 21), .ref (cd 22), .ref (cd 23), .ref (cd 24), .ref (cd 25), .ref (cd 26), .ref (cd 27)])), (cd 27, .inl (cJ, 40, .inr (.inl (fil n A2 ak))))] := hD
          have hl : lv_has ls 12 [(9, .int (nI (n - (k + 1)))), (7, .int (bz c1)), (8, .int (nI r)), (5, .long m2), (0, .ref (cd 2)), (1, .ref (cd 1)), (2, .int (nI j)), (3, .long x)] := hl
          refine lv_aload_n hx hb dX4_smallestMover_70 rfl (lv_at hl 4 rfl) ?_
          refine lv_aload_n hx hb dX4_smallestMover_71 rfl (lv_at hl 5 rfl) ?_
          refine va_getN (D := D) (ci := 2) (v := .ref (cd 10)) (C := RX2) (T := TX2) (N := 11) (ref := "Ironwood$Steps") (host := "Ironwood") hx hb hts in_RX2 hown hK hP 0 rfl rfl 0 (by decide) (hG.1.get 24 rfl) (fun _ h9 => h9) rfl dX4_smallestMover_72 ?_
          refine lv_iload hx hb dX4_smallestMover_75 (lv_at hl 0 rfl) ?_
          refine va_iald hx hb hK hP 1 0 rfl rfl (vp_in_nI (n := n - (k + 1)) (by omega) (by omega)) dX4_smallestMover_77 ?_
          refine tI (v := Si 0 (n - (k + 1))) ((congrArg (fil n (Si 0) ze0) (nI_clamp (n := n - (k + 1)) (by omega))).trans (fil_lt (by omega))) ?_
          refine kc_l (wr := [(cd 1, .inr (2, [.ref (cd 10), .ref (cd 11), .ref (cd 12), .ref (cd 13), .ref (cd 14), .ref (cd 15), .ref (cd 16), .ref (cd 17), .int (nI n), .int sk, .int cp])), (cd 10, .inl (cI, 40, .inl (fil n (Si 0) ze0))), (cd 11, .inl (cI, 40, .inl (fil n (Si 1) ze1))), (cd 14, .inl (cJ, 40, .inr (.inl (fil n (Sj 0) zf0)))), (cd 17, .inl (cJ, 40, .inr (.inl (fil n (Sj 3) zf3))))]) (va_runV (As := [.int (Si 0 (n - (k + 1)))]) (rest := []) ⟨hx, hb, hml, hown, hts⟩ (k_askedAt l D cI cJ cZ cR n A2 ak cd rr (Si 0 (n - (k + 1))) _ hn ((hSi _ (by omega)).1)) (cwV 1 hts (gV q_670 q_667 q_669 q_44 q_68) rfl rfl rfl (by decide +kernel) ⟨Nat.le_of_ble_eq_true rfl, Nat.le_of_ble_eq_true rfl⟩) ⟨Pw.blind, va_recv hK hP (ci := 4) (q0 := 5) rfl rfl, Pw.mk_call hP hK hD hS hA hG [5, 6] rfl (by decide)⟩ rfl rfl hl.1 rfl (lv_room (Nat.le_of_ble_eq_true rfl)) dX4_smallestMover_78 ⟨Nat.le_of_ble_eq_true rfl, Nat.le_of_ble_eq_true rfl⟩) hP hD hS hA [5, 6] [0, 1, 2, 3, 4] rfl rfl (by decide) (by decide) (fun r_8 u_9 H locs hw hP hD hS => ?_)
          obtain rfl : r_8 = askA A2 (Si 0 (n - (k + 1))) := hw
          have hP : va_P D vwCl [(cd 1, .inr (2, [.ref (cd 10), .ref (cd 11), .ref (cd 12), .ref (cd 13), .ref (cd 14), .ref (cd 15), .ref (cd 16), .ref (cd 17), .int (nI n), .int sk, .int cp])), (cd 10, .inl (cI, 40, .inl (fil n (Si 0) ze0))), (cd 11, .inl (cI, 40, .inl (fil n (Si 1) ze1))), (cd 14, .inl (cJ, 40, .inr (.inl (fil n (Sj 0) zf0)))), (cd 17, .inl (cJ, 40, .inr (.inl (fil n (Sj 3) zf3)))), (cd 2, .inr (4, [.long rr, .ref (cd 20), .ref (cd 21), .ref (cd 22), .ref (cd 23), .ref (cd 24), .ref (cd 25), .ref (cd 26), .ref (cd 27)])), (cd 27, .inl (cJ, 40, .inr (.inl (fil n A2 ak))))] _ := hP
          have hD : va_D A [(cd 1, .inr (2, [.ref (cd 10), .ref (cd 11), .ref (cd 12), .ref (cd 13), .ref (cd 14), .ref (cd 15), .ref (cd 16), .ref (cd 17), .int (nI n), .int sk, .int cp])), (cd 10, .inl (cI, 40, .inl (fil n (Si 0) ze0))), (cd 11, .inl (cI, 40, .inl (fil n (Si 1) ze1))), (cd 14, .inl (cJ, 40, .inr (.inl (fil n (Sj 0) zf0)))), (cd 17, .inl (cJ, 40, .inr (.inl (fil n (Sj 3) zf3)))), (cd 2, .inr (4, [.long rr, .ref (cd 20), .ref (cd 21), .ref (cd 22), .ref (cd 23), .ref (cd 24), .ref (cd 25), .ref (cd 26), .ref (cd 27)])), (cd 27, .inl (cJ, 40, .inr (.inl (fil n A2 ak))))] := hD
          refine lv_aload_n hx hb dX4_smallestMover_81 rfl (lv_at hl 4 rfl) ?_
          refine lv_aload_n hx hb dX4_smallestMover_82 rfl (lv_at hl 5 rfl) ?_
          refine va_getN (D := D) (ci := 2) (v := .ref (cd 11)) (C := RX2) (T := TX2) (N := 11) (ref := "Ironwood$Steps") (host := "Ironwood") hx hb hts in_RX2 hown hK hP 0 rfl rfl 1 (by decide) (hG.1.get 25 rfl) (fun _ h9 => h9) rfl dX4_smallestMover_83 ?_
          refine lv_iload hx hb dX4_smallestMover_86 (lv_at hl 0 rfl) ?_
          refine va_iald hx hb hK hP 2 0 rfl rfl (vp_in_nI (n := n - (k + 1)) (by omega) (by omega)) dX4_smallestMover_88 ?_
          refine tI (v := Si 1 (n - (k + 1))) ((congrArg (fil n (Si 1) ze1) (nI_clamp (n := n - (k + 1)) (by omega))).trans (fil_lt (by omega))) ?_
          refine kc_l (wr := [(cd 1, .inr (2, [.ref (cd 10), .ref (cd 11), .ref (cd 12), .ref (cd 13), .ref (cd 14), .ref (cd 15), .ref (cd 16), .ref (cd 17), .int (nI n), .int sk, .int cp])), (cd 10, .inl (cI, 40, .inl (fil n (Si 0) ze0))), (cd 11, .inl (cI, 40, .inl (fil n (Si 1) ze1))), (cd 14, .inl (cJ, 40, .inr (.inl (fil n (Sj 0) zf0)))), (cd 17, .inl (cJ, 40, .inr (.inl (fil n (Sj 3) zf3))))]) (va_runV (As := [.int (Si 1 (n - (k + 1)))]) (rest := [.long (askA A2 (Si 0 (n - (k + 1))))]) ⟨hx, hb, hml, hown, hts⟩ (k_askedAt l D cI cJ cZ cR n A2 ak cd rr (Si 1 (n - (k + 1))) _ hn ((hSi _ (by omega)).2)) (cwV 1 hts (gV q_670 q_667 q_669 q_44 q_68) rfl rfl rfl (by decide +kernel) ⟨Nat.le_of_ble_eq_true rfl, Nat.le_of_ble_eq_true rfl⟩) ⟨Pw.blind, va_recv hK hP (ci := 4) (q0 := 5) rfl rfl, Pw.mk_call hP hK hD hS hA hG [5, 6] rfl (by decide)⟩ rfl rfl hl.1 rfl (lv_room (Nat.le_of_ble_eq_true rfl)) dX4_smallestMover_89 ⟨Nat.le_of_ble_eq_true rfl, Nat.le_of_ble_eq_true rfl⟩) hP hD hS hA [5, 6] [0, 1, 2, 3, 4] rfl rfl (by decide) (by decide) (fun r_10 u_11 H locs hw hP hD hS => ?_)
          obtain rfl : r_10 = askA A2 (Si 1 (n - (k + 1))) := hw
          have hP : va_P D vwCl [(cd 1, .inr (2, [.ref (cd 10), .ref (cd 11), .ref (cd 12), .ref (cd 13), .ref (cd 14), .ref (cd 15), .ref (cd 16), .ref (cd 17), .int (nI n), .int sk, .int cp])), (cd 10, .inl (cI, 40, .inl (fil n (Si 0) ze0))), (cd 11, .inl (cI, 40, .inl (fil n (Si 1) ze1))), (cd 14, .inl (cJ, 40, .inr (.inl (fil n (Sj 0) zf0)))), (cd 17, .inl (cJ, 40, .inr (.inl (fil n (Sj 3) zf3)))), (cd 2, .inr (4, [.long rr, .ref (cd 20), .ref (cd 21), .ref (cd 22), .ref (cd 23), .ref (cd 24), .ref (cd 25), .ref (cd 26), .ref (cd 27)])), (cd 27, .inl (cJ, 40, .inr (.inl (fil n A2 ak))))] _ := hP
          have hD : va_D A [(cd 1, .inr (2, [.ref (cd 10), .ref (cd 11), .ref (cd 12), .ref (cd 13), .ref (cd 14), .ref (cd 15), .ref (cd 16), .ref (cd 17), .int (nI n), .int sk, .int cp])), (cd 10, .inl (cI, 40, .inl (fil n (Si 0) ze0))), (cd 11, .inl (cI, 40, .inl (fil n (Si 1) ze1))), (cd 14, .inl (cJ, 40, .inr (.inl (fil n (Sj 0) zf0)))), (cd 17, .inl (cJ, 40, .inr (.inl (fil n (Sj 3) zf3)))), (cd 2, .inr (4, [.long rr, .ref (cd 20), .ref (cd 21), .ref (cd 22), .ref (cd 23), .ref (cd 24), .ref (cd 25), .ref (cd 26), .ref (cd 27)])), (cd 27, .inl (cJ, 40, .inr (.inl (fil n A2 ak))))] := hD
          refine lv_lor hx hb dX4_smallestMover_92 ?_
          refine tJ (v := smH Si A2 (n - (k + 1))) rfl ?_
          refine lv_lstore (lv' := [(10, .long (smH Si A2 (n - (k + 1)))), (9, .int (nI (n - (k + 1)))), (7, .int (bz c1)), (8, .int (nI r)), (5, .long m2), (0, .ref (cd 2)), (1, .ref (cd 1)), (2, .int (nI j)), (3, .long x)]) hx hb dX4_smallestMover_93 hl (by decide) rfl (fun ls hl => ?_)
          refine lv_aload_n hx hb dX4_smallestMover_95 rfl (lv_at hl 5 rfl) ?_
          refine lv_iload hx hb dX4_smallestMover_96 (lv_at hl 1 rfl) ?_
          refine kc_i (wr := [(cd 1, .inr (2, [.ref (cd 10), .ref (cd 11), .ref (cd 12), .ref (cd 13), .ref (cd 14), .ref (cd 15), .ref (cd 16), .ref (cd 17), .int (nI n), .int sk, .int cp])), (cd 10, .inl (cI, 40, .inl (fil n (Si 0) ze0))), (cd 11, .inl (cI, 40, .inl (fil n (Si 1) ze1))), (cd 14, .inl (cJ, 40, .inr (.inl (fil n (Sj 0) zf0)))), (cd 17, .inl (cJ, 40, .inr (.inl (fil n (Sj 3) zf3)))), (cd 27, .inl (cJ, 40, .inr (.inl (fil n A2 ak))))]) (va_runV (As := [.int (nI (n - (k + 1)))]) (rest := []) ⟨hx, hb, hml, hown, hts⟩ (k_comesTo l D cI cJ cZ cR cd rr (n - (k + 1)) _) (cwV 1 hts (gV q_467 q_464 q_466 q_16 q_68) rfl rfl rfl (by decide +kernel) ⟨Nat.le_of_ble_eq_true rfl, Nat.le_of_ble_eq_true rfl⟩) ⟨Pw.blind, va_recv hK hP (ci := 4) (q0 := 5) rfl rfl, Pw.mk_call hP hK hD hS hA hG [5] rfl (by decide)⟩ rfl rfl hl.1 rfl (lv_room (Nat.le_of_ble_eq_true rfl)) dX4_smallestMover_98 ⟨Nat.le_of_ble_eq_true rfl, Nat.le_of_ble_eq_true rfl⟩) hP hD hS hA [5] [0, 1, 2, 3, 4, 6] rfl rfl (by decide) (by decide) (fun r_12 u_13 H locs hw hP hD hS => ?_)
          obtain rfl : r_12 = bz (bI rr (nI (n - (k + 1)))) := hw
          have hP : va_P D vwCl [(cd 1, .inr (2, [.ref (cd 10), .ref (cd 11), .ref (cd 12), .ref (cd 13), .ref (cd 14), .ref (cd 15), .ref (cd 16), .ref (cd 17), .int (nI n), .int sk, .int cp])), (cd 10, .inl (cI, 40, .inl (fil n (Si 0) ze0))), (cd 11, .inl (cI, 40, .inl (fil n (Si 1) ze1))), (cd 14, .inl (cJ, 40, .inr (.inl (fil n (Sj 0) zf0)))), (cd 17, .inl (cJ, 40, .inr (.inl (fil n (Sj 3) zf3)))), (cd 27, .inl (cJ, 40, .inr (.inl (fil n A2 ak)))), (cd 2, .inr (4, [.long rr, .ref (cd 20), .ref (cd 21), .ref (cd 22), .ref (cd 23), .ref (cd 24), .ref (cd 25), .ref (cd 26), .ref (cd 27)]))] _ := hP
          have hD : va_D A [(cd 1, .inr (2, [.ref (cd 10), .ref (cd 11), .ref (cd 12), .ref (cd 13), .ref (cd 14), .ref (cd 15), .ref (cd 16), .ref (cd 17), .int (nI n), .int sk, .int cp])), (cd 10, .inl (cI, 40, .inl (fil n (Si 0) ze0))), (cd 11, .inl (cI, 40, .inl (fil n (Si 1) ze1))), (cd 14, .inl (cJ, 40, .inr (.inl (fil n (Sj 0) zf0)))), (cd 17, .inl (cJ, 40, .inr (.inl (fil n (Sj 3) zf3)))), (cd 27, .inl (cJ, 40, .inr (.inl (fil n A2 ak)))), (cd 2, .inr (4, [.long rr, .ref (cd 20), .ref (cd 21), .ref (cd 22), .ref (cd 23), .ref (cd 24), .ref (cd 25), .ref (cd 26), .ref (cd 27)]))] := hD
          refine lv_if_eq (tgt := 128) hx hb dX4_smallestMover_101 (by decide) (fun c_101 => ?_) (fun c_101 => ?_)
          · skip
            have c_101 : (bI rr (nI (n - (k + 1)))) = false := bz_f c_101
            refine lv_iload hx hb dX4_smallestMover_128 (lv_at hl 2 rfl) ?_
            refine lv_aload_n hx hb dX4_smallestMover_130 rfl (lv_at hl 5 rfl) ?_
            refine va_get (D := D) (ci := 4) (v := .ref (cd 27)) (C := RX4) (T := TX4) (N := 9) (ref := "Ironwood$Ways") hx hb hts in_RX4 hown hK hP 6 rfl rfl 8 (by decide) (hts _ (mc q_233)) (fun _ h9 => h9) rfl dX4_smallestMover_131 ?_
            refine lv_iload hx hb dX4_smallestMover_134 (lv_at hl 1 rfl) ?_
            refine lv_lload hx hb dX4_smallestMover_136 (lv_at hl 0 rfl) ?_
            refine lv_aload_n hx hb dX4_smallestMover_138 rfl (lv_at hl 6 rfl) ?_
            refine va_getN (D := D) (ci := 2) (v := .ref (cd 14)) (C := RX2) (T := TX2) (N := 11) (ref := "Ironwood$Steps") (host := "Ironwood") hx hb hts in_RX2 hown hK hP 0 rfl rfl 4 (by decide) (hG.1.get 28 rfl) (fun _ h9 => h9) rfl dX4_smallestMover_139 ?_
            refine lv_iload hx hb dX4_smallestMover_142 (lv_at hl 1 rfl) ?_
            refine va_lald hx hb hK hP 3 1 rfl rfl (vp_in_nI (n := n - (k + 1)) (by omega) (by omega)) dX4_smallestMover_144 ?_
            refine tJ (v := Sj 0 (n - (k + 1))) ((congrArg (fil n (Sj 0) zf0) (nI_clamp (n := n - (k + 1)) (by omega))).trans (fil_lt (by omega))) ?_
            refine lv_ldc2 (v := (-1)) hx hb hown (hts _ (mc q_495)) dX4_smallestMover_145 ?_
            refine lv_lxor hx hb dX4_smallestMover_148 ?_
            refine lv_land hx hb dX4_smallestMover_149 ?_
            refine tJ (v := smK Si Sj A2 (n - (k + 1))) rfl ?_
            refine kc_i (wr := [(cd 1, .inr (2, [.ref (cd 10), .ref (cd 11), .ref (cd 12), .ref (cd 13), .ref (cd 14), .ref (cd 15), .ref (cd 16), .ref (cd 17), .int (nI n), .int sk, .int cp])), (cd 10, .inl (cI, 40, .inl (fil n (Si 0) ze0))), (cd 11, .inl (cI, 40, .inl (fil n (Si 1) ze1))), (cd 14, .inl (cJ, 40, .inr (.inl (fil n (Sj 0) zf0)))), (cd 17, .inl (cJ, 40, .inr (.inl (fil n (Sj 3) zf3)))), (cd 2, .inr (4, [.long rr, .ref (cd 20), .ref (cd 21), .ref (cd 22), .ref (cd 23), .ref (cd 24), .ref (cd 25), .ref (cd 26), .ref (cd 27)]))]) (va_runS (As := [.ref (cd 27), .int (nI (n - (k + 1))), .long (smK Si Sj A2 (n - (k + 1)))]) (rest := [.int (bz c1)]) ⟨hx, hb, hml, hown, hts⟩ (k_addTo l D cI cJ cZ cR (cd 27) n A2 ak (n - (k + 1)) (smK Si Sj A2 (n - (k + 1))) _ hn (by omega)) (cwS 3 hts (gS q_498 q_496 q_497 q_68) rfl rfl rfl (by decide +kernel) ⟨Nat.le_of_ble_eq_true rfl, Nat.le_of_ble_eq_true rfl⟩) ⟨Pw.blind, Pw.mk_call hP hK hD hS hA hG [5] rfl (by decide)⟩ rfl rfl hl.1 rfl (lv_room (Nat.le_of_ble_eq_true rfl)) dX4_smallestMover_150 ⟨Nat.le_of_ble_eq_true rfl, Nat.le_of_ble_eq_true rfl⟩) hP hD hS hA [5] [0, 1, 2, 3, 4, 6] rfl rfl (by decide) (by decide) (fun r_14 u_15 H locs hw hP hD hS => ?_)
            obtain rfl : r_14 = bz (adB (A2 (n - (k + 1))) (smK Si Sj A2 (n - (k + 1)))) := hw
            have hP : va_P D vwCl [(cd 1, .inr (2, [.ref (cd 10), .ref (cd 11), .ref (cd 12), .ref (cd 13), .ref (cd 14), .ref (cd 15), .ref (cd 16), .ref (cd 17), .int (nI n), .int sk, .int cp])), (cd 10, .inl (cI, 40, .inl (fil n (Si 0) ze0))), (cd 11, .inl (cI, 40, .inl (fil n (Si 1) ze1))), (cd 14, .inl (cJ, 40, .inr (.inl (fil n (Sj 0) zf0)))), (cd 17, .inl (cJ, 40, .inr (.inl (fil n (Sj 3) zf3)))), (cd 2, .inr (4, [.long rr, .ref (cd 20), .ref (cd 21), .ref (cd 22), .ref (cd 23), .ref (cd 24), .ref (cd 25), .ref (cd 26), .ref (cd 27)])), ((cd 27), .inl (cJ, 40, .inr (.inl (fil n (vp_updL A2 (n - (k + 1)) (A2 (n - (k + 1)) ||| (smK Si Sj A2 (n - (k + 1))))) ak))))] _ := hP
            have hD : va_D A [(cd 1, .inr (2, [.ref (cd 10), .ref (cd 11), .ref (cd 12), .ref (cd 13), .ref (cd 14), .ref (cd 15), .ref (cd 16), .ref (cd 17), .int (nI n), .int sk, .int cp])), (cd 10, .inl (cI, 40, .inl (fil n (Si 0) ze0))), (cd 11, .inl (cI, 40, .inl (fil n (Si 1) ze1))), (cd 14, .inl (cJ, 40, .inr (.inl (fil n (Sj 0) zf0)))), (cd 17, .inl (cJ, 40, .inr (.inl (fil n (Sj 3) zf3)))), (cd 2, .inr (4, [.long rr, .ref (cd 20), .ref (cd 21), .ref (cd 22), .ref (cd 23), .ref (cd 24), .ref (cd 25), .ref (cd 26), .ref (cd 27)])), ((cd 27), .inl (cJ, 40, .inr (.inl (fil n (vp_updL A2 (n - (k + 1)) (A2 (n - (k + 1)) ||| (smK Si Sj A2 (n - (k + 1))))) ak))))] := hD
            refine lv_ior hx hb dX4_smallestMover_153 ?_
            refine tI (v := bz (c1 || (adB (A2 (n - (k + 1))) (smK Si Sj A2 (n - (k + 1)))))) (bz_or c1 (adB (A2 (n - (k + 1))) (smK Si Sj A2 (n - (k + 1))))) ?_
            refine lv_istore (lv' := [(7, .int (bz (c1 || (adB (A2 (n - (k + 1))) (smK Si Sj A2 (n - (k + 1))))))), (10, .long (smH Si A2 (n - (k + 1)))), (9, .int (nI (n - (k + 1)))), (8, .int (nI r)), (5, .long m2), (0, .ref (cd 2)), (1, .ref (cd 1)), (2, .int (nI j)), (3, .long x)]) hx hb dX4_smallestMover_154 hl (by decide) rfl (fun ls hl => ?_)
            refine lv_iinc (v := nI (n - (k + 1)) - 1) (lv' := [(9, .int (nI (n - (k + 1)) - 1)), (7, .int (bz (c1 || (adB (A2 (n - (k + 1))) (smK Si Sj A2 (n - (k + 1))))))), (10, .long (smH Si A2 (n - (k + 1)))), (8, .int (nI r)), (5, .long m2), (0, .ref (cd 2)), (1, .ref (cd 1)), (2, .int (nI j)), (3, .long x)]) hx hb dX4_smallestMover_156 hl (k := 2) rfl (dec1 _) (by decide) rfl (fun ls hl => ?_)
            refine lv_goto (tgt := 65) hx hb dX4_smallestMover_159 (by decide) ?_
            exact ih_65 (k + 1, c1 || (adB (A2 (n - (k + 1))) (smK Si Sj A2 (n - (k + 1)))), vp_updL A2 (n - (k + 1)) (A2 (n - (k + 1)) ||| (smK Si Sj A2 (n - (k + 1)))), m2) _ _ _ (by show n - (k + 1) < n - k; omega) ⟨by show _ ≤ _; omega, hfj.trans ((itF_lt (by omega)).trans (congrArg _ (by first | (simp [smB, smM, c_9, (Nat.not_lt.mpr c_9), c_46, (Nat.not_le.mpr c_46), c_51, c_67, (Int32.not_lt.mp c_67), c_101]; done) | (simp [smB, smM, if_pos c_9, if_neg (Nat.not_lt.mpr c_9), if_pos c_46, if_neg (Nat.not_le.mpr c_46), if_pos c_51, if_neg c_67, if_pos (Int32.not_lt.mp c_67), if_neg (bnt c_101)]; done) | rfl | (simp [smB, smM, c_9, (Nat.not_lt.mpr c_9), c_46, (Nat.not_le.mpr c_46), c_51, c_67, (Int32.not_lt.mp c_67), c_101]; omega)))), lv_sub hl [0, 1, 3, 4, 5, 6, 7, 8] rfl, hP, hD, hS⟩
          · skip
            have c_101 : (bI rr (nI (n - (k + 1)))) = true := bz_t c_101
            refine lv_lload hx hb dX4_smallestMover_104 (lv_at hl 0 rfl) ?_
            refine lv_aload_n hx hb dX4_smallestMover_106 rfl (lv_at hl 6 rfl) ?_
            refine va_getN (D := D) (ci := 2) (v := .ref (cd 17)) (C := RX2) (T := TX2) (N := 11) (ref := "Ironwood$Steps") (host := "Ironwood") hx hb hts in_RX2 hown hK hP 0 rfl rfl 7 (by decide) (hG.1.get 31 rfl) (fun _ h9 => h9) rfl dX4_smallestMover_107 ?_
            refine lv_iload hx hb dX4_smallestMover_110 (lv_at hl 1 rfl) ?_
            refine va_lald hx hb hK hP 4 1 rfl rfl (vp_in_nI (n := n - (k + 1)) (by omega) (by omega)) dX4_smallestMover_112 ?_
            refine tJ (v := Sj 3 (n - (k + 1))) ((congrArg (fil n (Sj 3) zf3) (nI_clamp (n := n - (k + 1)) (by omega))).trans (fil_lt (by omega))) ?_
            refine lv_land hx hb dX4_smallestMover_113 ?_
            refine lv_lconst (v := 0) hx hb dX4_smallestMover_114 (by decide) ?_
            refine W.lcmp hx hb dX4_smallestMover_115 ?_
            refine tI (v := lg_cmp ((smH Si A2 (n - (k + 1))) &&& (Sj 3 (n - (k + 1)))) 0) rfl ?_
            refine lv_if_eq (tgt := 128) hx hb dX4_smallestMover_116 (by decide) (fun c_116 => ?_) (fun c_116 => ?_)
            · skip
              have c_116 : ((smH Si A2 (n - (k + 1))) &&& (Sj 3 (n - (k + 1)))) = 0 := (lg_cmp_eq _ _).mp c_116
              refine lv_iload hx hb dX4_smallestMover_128 (lv_at hl 2 rfl) ?_
              refine lv_aload_n hx hb dX4_smallestMover_130 rfl (lv_at hl 5 rfl) ?_
              refine va_get (D := D) (ci := 4) (v := .ref (cd 27)) (C := RX4) (T := TX4) (N := 9) (ref := "Ironwood$Ways") hx hb hts in_RX4 hown hK hP 6 rfl rfl 8 (by decide) (hts _ (mc q_233)) (fun _ h9 => h9) rfl dX4_smallestMover_131 ?_
              refine lv_iload hx hb dX4_smallestMover_134 (lv_at hl 1 rfl) ?_
              refine lv_lload hx hb dX4_smallestMover_136 (lv_at hl 0 rfl) ?_
              refine lv_aload_n hx hb dX4_smallestMover_138 rfl (lv_at hl 6 rfl) ?_
              refine va_getN (D := D) (ci := 2) (v := .ref (cd 14)) (C := RX2) (T := TX2) (N := 11) (ref := "Ironwood$Steps") (host := "Ironwood") hx hb hts in_RX2 hown hK hP 0 rfl rfl 4 (by decide) (hG.1.get 28 rfl) (fun _ h9 => h9) rfl dX4_smallestMover_139 ?_
              refine lv_iload hx hb dX4_smallestMover_142 (lv_at hl 1 rfl) ?_
              refine va_lald hx hb hK hP 3 1 rfl rfl (vp_in_nI (n := n - (k + 1)) (by omega) (by omega)) dX4_smallestMover_144 ?_
              refine tJ (v := Sj 0 (n - (k + 1))) ((congrArg (fil n (Sj 0) zf0) (nI_clamp (n := n - (k + 1)) (by omega))).trans (fil_lt (by omega))) ?_
              refine lv_ldc2 (v := (-1)) hx hb hown (hts _ (mc q_495)) dX4_smallestMover_145 ?_
              refine lv_lxor hx hb dX4_smallestMover_148 ?_
              refine lv_land hx hb dX4_smallestMover_149 ?_
              refine tJ (v := smK Si Sj A2 (n - (k + 1))) rfl ?_
              refine kc_i (wr := [(cd 1, .inr (2, [.ref (cd 10), .ref (cd 11), .ref (cd 12), .ref (cd 13), .ref (cd 14), .ref (cd 15), .ref (cd 16), .ref (cd 17), .int (nI n), .int sk, .int cp])), (cd 10, .inl (cI, 40, .inl (fil n (Si 0) ze0))), (cd 11, .inl (cI, 40, .inl (fil n (Si 1) ze1))), (cd 14, .inl (cJ, 40, .inr (.inl (fil n (Sj 0) zf0)))), (cd 17, .inl (cJ, 40, .inr (.inl (fil n (Sj 3) zf3)))), (cd 2, .inr (4, [.long rr, .ref (cd 20), .ref (cd 21), .ref (cd 22), .ref (cd 23), .ref (cd 24), .ref (cd 25), .ref (cd 26), .ref (cd 27)]))]) (va_runS (As := [.ref (cd 27), .int (nI (n - (k + 1))), .long (smK Si Sj A2 (n - (k + 1)))]) (rest := [.int (bz c1)]) ⟨hx, hb, hml, hown, hts⟩ (k_addTo l D cI cJ cZ cR (cd 27) n A2 ak (n - (k + 1)) (smK Si Sj A2 (n - (k + 1))) _ hn (by omega)) (cwS 3 hts (gS q_498 q_496 q_497 q_68) rfl rfl rfl (by decide +kernel) ⟨Nat.le_of_ble_eq_true rfl, Nat.le_of_ble_eq_true rfl⟩) ⟨Pw.blind, Pw.mk_call hP hK hD hS hA hG [5] rfl (by decide)⟩ rfl rfl hl.1 rfl (lv_room (Nat.le_of_ble_eq_true rfl)) dX4_smallestMover_150 ⟨Nat.le_of_ble_eq_true rfl, Nat.le_of_ble_eq_true rfl⟩) hP hD hS hA [5] [0, 1, 2, 3, 4, 6] rfl rfl (by decide) (by decide) (fun r_16 u_17 H locs hw hP hD hS => ?_)
              obtain rfl : r_16 = bz (adB (A2 (n - (k + 1))) (smK Si Sj A2 (n - (k + 1)))) := hw
              have hP : va_P D vwCl [(cd 1, .inr (2, [.ref (cd 10), .ref (cd 11), .ref (cd 12), .ref (cd 13), .ref (cd 14), .ref (cd 15), .ref (cd 16), .ref (cd 17), .int (nI n), .int sk, .int cp])), (cd 10, .inl (cI, 40, .inl (fil n (Si 0) ze0))), (cd 11, .inl (cI, 40, .inl (fil n (Si 1) ze1))), (cd 14, .inl (cJ, 40, .inr (.inl (fil n (Sj 0) zf0)))), (cd 17, .inl (cJ, 40, .inr (.inl (fil n (Sj 3) zf3)))), (cd 2, .inr (4, [.long rr, .ref (cd 20), .ref (cd 21), .ref (cd 22), .ref (cd 23), .ref (cd 24), .ref (cd 25), .ref (cd 26), .ref (cd 27)])), ((cd 27), .inl (cJ, 40, .inr (.inl (fil n (vp_updL A2 (n - (k + 1)) (A2 (n - (k + 1)) ||| (smK Si Sj A2 (n - (k + 1))))) ak))))] _ := hP
              have hD : va_D A [(cd 1, .inr (2, [.ref (cd 10), .ref (cd 11), .ref (cd 12), .ref (cd 13), .ref (cd 14), .ref (cd 15), .ref (cd 16), .ref (cd 17), .int (nI n), .int sk, .int cp])), (cd 10, .inl (cI, 40, .inl (fil n (Si 0) ze0))), (cd 11, .inl (cI, 40, .inl (fil n (Si 1) ze1))), (cd 14, .inl (cJ, 40, .inr (.inl (fil n (Sj 0) zf0)))), (cd 17, .inl (cJ, 40, .inr (.inl (fil n (Sj 3) zf3)))), (cd 2, .inr (4, [.long rr, .ref (cd 20), .ref (cd 21), .ref (cd 22), .ref (cd 23), .ref (cd 24), .ref (cd 25), .ref (cd 26), .ref (cd 27)])), ((cd 27), .inl (cJ, 40, .inr (.inl (fil n (vp_updL A2 (n - (k + 1)) (A2 (n - (k + 1)) ||| (smK Si Sj A2 (n - (k + 1))))) ak))))] := hD
              refine lv_ior hx hb dX4_smallestMover_153 ?_
              refine tI (v := bz (c1 || (adB (A2 (n - (k + 1))) (smK Si Sj A2 (n - (k + 1)))))) (bz_or c1 (adB (A2 (n - (k + 1))) (smK Si Sj A2 (n - (k + 1))))) ?_
              refine lv_istore (lv' := [(7, .int (bz (c1 || (adB (A2 (n - (k + 1))) (smK Si Sj A2 (n - (k + 1))))))), (10, .long (smH Si A2 (n - (k + 1)))), (9, .int (nI (n - (k + 1)))), (8, .int (nI r)), (5, .long m2), (0, .ref (cd 2)), (1, .ref (cd 1)), (2, .int (nI j)), (3, .long x)]) hx hb dX4_smallestMover_154 hl (by decide) rfl (fun ls hl => ?_)
              refine lv_iinc (v := nI (n - (k + 1)) - 1) (lv' := [(9, .int (nI (n - (k + 1)) - 1)), (7, .int (bz (c1 || (adB (A2 (n - (k + 1))) (smK Si Sj A2 (n - (k + 1))))))), (10, .long (smH Si A2 (n - (k + 1)))), (8, .int (nI r)), (5, .long m2), (0, .ref (cd 2)), (1, .ref (cd 1)), (2, .int (nI j)), (3, .long x)]) hx hb dX4_smallestMover_156 hl (k := 2) rfl (dec1 _) (by decide) rfl (fun ls hl => ?_)
              refine lv_goto (tgt := 65) hx hb dX4_smallestMover_159 (by decide) ?_
              exact ih_65 (k + 1, c1 || (adB (A2 (n - (k + 1))) (smK Si Sj A2 (n - (k + 1)))), vp_updL A2 (n - (k + 1)) (A2 (n - (k + 1)) ||| (smK Si Sj A2 (n - (k + 1)))), m2) _ _ _ (by show n - (k + 1) < n - k; omega) ⟨by show _ ≤ _; omega, hfj.trans ((itF_lt (by omega)).trans (congrArg _ (by first | (simp [smB, smM, c_9, (Nat.not_lt.mpr c_9), c_46, (Nat.not_le.mpr c_46), c_51, c_67, (Int32.not_lt.mp c_67), c_101, c_116]; done) | (simp [smB, smM, if_pos c_9, if_neg (Nat.not_lt.mpr c_9), if_pos c_46, if_neg (Nat.not_le.mpr c_46), if_pos c_51, if_neg c_67, if_pos (Int32.not_lt.mp c_67), if_pos c_101, if_pos c_116]; done) | rfl | (simp [smB, smM, c_9, (Nat.not_lt.mpr c_9), c_46, (Nat.not_le.mpr c_46), c_51, c_67, (Int32.not_lt.mp c_67), c_101, c_116]; omega)))), lv_sub hl [0, 1, 3, 4, 5, 6, 7, 8] rfl, hP, hD, hS⟩
            · skip
              have c_116 : ¬ ((smH Si A2 (n - (k + 1))) &&& (Sj 3 (n - (k + 1)))) = 0 := fun h9 => c_116 ((lg_cmp_eq _ _).mpr h9)
              refine lv_lload hx hb dX4_smallestMover_119 (lv_at hl 4 rfl) ?_
              refine lv_lconst (v := 1) hx hb dX4_smallestMover_121 (by decide) ?_
              refine lv_iload hx hb dX4_smallestMover_122 (lv_at hl 1 rfl) ?_
              refine lv_lshl (v := 1 <<< ((nI (n - (k + 1))).toInt64 &&& 63)) hx hb dX4_smallestMover_124 rfl ?_
              refine tJ (v := b1 (n - (k + 1))) rfl ?_
              refine lv_lor hx hb dX4_smallestMover_125 ?_
              refine lv_lstore (lv' := [(5, .long (m2 ||| (b1 (n - (k + 1))))), (10, .long (smH Si A2 (n - (k + 1)))), (9, .int (nI (n - (k + 1)))), (7, .int (bz c1)), (8, .int (nI r)), (0, .ref (cd 2)), (1, .ref (cd 1)), (2, .int (nI j)), (3, .long x)]) hx hb dX4_smallestMover_126 hl (by decide) rfl (fun ls hl => ?_)
              refine lv_iload hx hb dX4_smallestMover_128 (lv_at hl 3 rfl) ?_
              refine lv_aload_n hx hb dX4_smallestMover_130 rfl (lv_at hl 5 rfl) ?_
              refine va_get (D := D) (ci := 4) (v := .ref (cd 27)) (C := RX4) (T := TX4) (N := 9) (ref := "Ironwood$Ways") hx hb hts in_RX4 hown hK hP 6 rfl rfl 8 (by decide) (hts _ (mc q_233)) (fun _ h9 => h9) rfl dX4_smallestMover_131 ?_
              refine lv_iload hx hb dX4_smallestMover_134 (lv_at hl 2 rfl) ?_
              refine lv_lload hx hb dX4_smallestMover_136 (lv_at hl 1 rfl) ?_
              refine lv_aload_n hx hb dX4_smallestMover_138 rfl (lv_at hl 6 rfl) ?_
              refine va_getN (D := D) (ci := 2) (v := .ref (cd 14)) (C := RX2) (T := TX2) (N := 11) (ref := "Ironwood$Steps") (host := "Ironwood") hx hb hts in_RX2 hown hK hP 0 rfl rfl 4 (by decide) (hG.1.get 28 rfl) (fun _ h9 => h9) rfl dX4_smallestMover_139 ?_
              refine lv_iload hx hb dX4_smallestMover_142 (lv_at hl 2 rfl) ?_
              refine va_lald hx hb hK hP 3 1 rfl rfl (vp_in_nI (n := n - (k + 1)) (by omega) (by omega)) dX4_smallestMover_144 ?_
              refine tJ (v := Sj 0 (n - (k + 1))) ((congrArg (fil n (Sj 0) zf0) (nI_clamp (n := n - (k + 1)) (by omega))).trans (fil_lt (by omega))) ?_
              refine lv_ldc2 (v := (-1)) hx hb hown (hts _ (mc q_495)) dX4_smallestMover_145 ?_
              refine lv_lxor hx hb dX4_smallestMover_148 ?_
              refine lv_land hx hb dX4_smallestMover_149 ?_
              refine tJ (v := smK Si Sj A2 (n - (k + 1))) rfl ?_
              refine kc_i (wr := [(cd 1, .inr (2, [.ref (cd 10), .ref (cd 11), .ref (cd 12), .ref (cd 13), .ref (cd 14), .ref (cd 15), .ref (cd 16), .ref (cd 17), .int (nI n), .int sk, .int cp])), (cd 10, .inl (cI, 40, .inl (fil n (Si 0) ze0))), (cd 11, .inl (cI, 40, .inl (fil n (Si 1) ze1))), (cd 14, .inl (cJ, 40, .inr (.inl (fil n (Sj 0) zf0)))), (cd 17, .inl (cJ, 40, .inr (.inl (fil n (Sj 3) zf3)))), (cd 2, .inr (4, [.long rr, .ref (cd 20), .ref (cd 21), .ref (cd 22), .ref (cd 23), .ref (cd 24), .ref (cd 25), .ref (cd 26), .ref (cd 27)]))]) (va_runS (As := [.ref (cd 27), .int (nI (n - (k + 1))), .long (smK Si Sj A2 (n - (k + 1)))]) (rest := [.int (bz c1)]) ⟨hx, hb, hml, hown, hts⟩ (k_addTo l D cI cJ cZ cR (cd 27) n A2 ak (n - (k + 1)) (smK Si Sj A2 (n - (k + 1))) _ hn (by omega)) (cwS 3 hts (gS q_498 q_496 q_497 q_68) rfl rfl rfl (by decide +kernel) ⟨Nat.le_of_ble_eq_true rfl, Nat.le_of_ble_eq_true rfl⟩) ⟨Pw.blind, Pw.mk_call hP hK hD hS hA hG [5] rfl (by decide)⟩ rfl rfl hl.1 rfl (lv_room (Nat.le_of_ble_eq_true rfl)) dX4_smallestMover_150 ⟨Nat.le_of_ble_eq_true rfl, Nat.le_of_ble_eq_true rfl⟩) hP hD hS hA [5] [0, 1, 2, 3, 4, 6] rfl rfl (by decide) (by decide) (fun r_18 u_19 H locs hw hP hD hS => ?_)
              obtain rfl : r_18 = bz (adB (A2 (n - (k + 1))) (smK Si Sj A2 (n - (k + 1)))) := hw
              have hP : va_P D vwCl [(cd 1, .inr (2, [.ref (cd 10), .ref (cd 11), .ref (cd 12), .ref (cd 13), .ref (cd 14), .ref (cd 15), .ref (cd 16), .ref (cd 17), .int (nI n), .int sk, .int cp])), (cd 10, .inl (cI, 40, .inl (fil n (Si 0) ze0))), (cd 11, .inl (cI, 40, .inl (fil n (Si 1) ze1))), (cd 14, .inl (cJ, 40, .inr (.inl (fil n (Sj 0) zf0)))), (cd 17, .inl (cJ, 40, .inr (.inl (fil n (Sj 3) zf3)))), (cd 2, .inr (4, [.long rr, .ref (cd 20), .ref (cd 21), .ref (cd 22), .ref (cd 23), .ref (cd 24), .ref (cd 25), .ref (cd 26), .ref (cd 27)])), ((cd 27), .inl (cJ, 40, .inr (.inl (fil n (vp_updL A2 (n - (k + 1)) (A2 (n - (k + 1)) ||| (smK Si Sj A2 (n - (k + 1))))) ak))))] _ := hP
              have hD : va_D A [(cd 1, .inr (2, [.ref (cd 10), .ref (cd 11), .ref (cd 12), .ref (cd 13), .ref (cd 14), .ref (cd 15), .ref (cd 16), .ref (cd 17), .int (nI n), .int sk, .int cp])), (cd 10, .inl (cI, 40, .inl (fil n (Si 0) ze0))), (cd 11, .inl (cI, 40, .inl (fil n (Si 1) ze1))), (cd 14, .inl (cJ, 40, .inr (.inl (fil n (Sj 0) zf0)))), (cd 17, .inl (cJ, 40, .inr (.inl (fil n (Sj 3) zf3)))), (cd 2, .inr (4, [.long rr, .ref (cd 20), .ref (cd 21), .ref (cd 22), .ref (cd 23), .ref (cd 24), .ref (cd 25), .ref (cd 26), .ref (cd 27)])), ((cd 27), .inl (cJ, 40, .inr (.inl (fil n (vp_updL A2 (n - (k + 1)) (A2 (n - (k + 1)) ||| (smK Si Sj A2 (n - (k + 1))))) ak))))] := hD
              refine lv_ior hx hb dX4_smallestMover_153 ?_
              refine tI (v := bz (c1 || (adB (A2 (n - (k + 1))) (smK Si Sj A2 (n - (k + 1)))))) (bz_or c1 (adB (A2 (n - (k + 1))) (smK Si Sj A2 (n - (k + 1))))) ?_
              refine lv_istore (lv' := [(7, .int (bz (c1 || (adB (A2 (n - (k + 1))) (smK Si Sj A2 (n - (k + 1))))))), (5, .long (m2 ||| (b1 (n - (k + 1))))), (10, .long (smH Si A2 (n - (k + 1)))), (9, .int (nI (n - (k + 1)))), (8, .int (nI r)), (0, .ref (cd 2)), (1, .ref (cd 1)), (2, .int (nI j)), (3, .long x)]) hx hb dX4_smallestMover_154 hl (by decide) rfl (fun ls hl => ?_)
              refine lv_iinc (v := nI (n - (k + 1)) - 1) (lv' := [(9, .int (nI (n - (k + 1)) - 1)), (7, .int (bz (c1 || (adB (A2 (n - (k + 1))) (smK Si Sj A2 (n - (k + 1))))))), (5, .long (m2 ||| (b1 (n - (k + 1))))), (10, .long (smH Si A2 (n - (k + 1)))), (8, .int (nI r)), (0, .ref (cd 2)), (1, .ref (cd 1)), (2, .int (nI j)), (3, .long x)]) hx hb dX4_smallestMover_156 hl (k := 3) rfl (dec1 _) (by decide) rfl (fun ls hl => ?_)
              refine lv_goto (tgt := 65) hx hb dX4_smallestMover_159 (by decide) ?_
              exact ih_65 (k + 1, c1 || (adB (A2 (n - (k + 1))) (smK Si Sj A2 (n - (k + 1)))), vp_updL A2 (n - (k + 1)) (A2 (n - (k + 1)) ||| (smK Si Sj A2 (n - (k + 1)))), m2 ||| (b1 (n - (k + 1)))) _ _ _ (by show n - (k + 1) < n - k; omega) ⟨by show _ ≤ _; omega, hfj.trans ((itF_lt (by omega)).trans (congrArg _ (by first | (simp [smB, smM, c_9, (Nat.not_lt.mpr c_9), c_46, (Nat.not_le.mpr c_46), c_51, c_67, (Int32.not_lt.mp c_67), c_101, c_116]; done) | (simp [smB, smM, if_pos c_9, if_neg (Nat.not_lt.mpr c_9), if_pos c_46, if_neg (Nat.not_le.mpr c_46), if_pos c_51, if_neg c_67, if_pos (Int32.not_lt.mp c_67), if_pos c_101, if_neg c_116]; done) | rfl | (simp [smB, smM, c_9, (Nat.not_lt.mpr c_9), c_46, (Nat.not_le.mpr c_46), c_51, c_67, (Int32.not_lt.mp c_67), c_101, c_116]; omega)))), lv_sub hl [0, 1, 4, 2, 5, 6, 7, 8] rfl, hP, hD, hS⟩
  · skip
    have c_9 : i < n := Nat.lt_of_not_le (fun h9 => c_9 ((nI_leI (a := n) (b := i) (by omega) (by omega)).mpr h9))
    refine lv_aload_n hx hb dX4_smallestMover_12 rfl (lv_at hl 1 rfl) ?_
    refine va_get (D := D) (ci := 4) (v := .ref (cd 27)) (C := RX4) (T := TX4) (N := 9) (ref := "Ironwood$Ways") hx hb hts in_RX4 hown hK hP 5 rfl rfl 8 (by decide) (hts _ (mc q_233)) (fun _ h9 => h9) rfl dX4_smallestMover_13 ?_
    refine lv_iload hx hb dX4_smallestMover_16 (lv_at hl 0 rfl) ?_
    refine lv_lconst (v := 0) hx hb dX4_smallestMover_18 (by decide) ?_
    refine va_last hx hb hK hP hD hS 6 1 rfl rfl (vp_in_nI (n := i) (by omega) (by omega)) dX4_smallestMover_19 (fun H locs hP hD hS => ?_)
    rw [nI_clamp (n := i) (by omega)] at hP hD
    have hP : va_P D vwCl [(cd 1, .inr (2, [.ref (cd 10), .ref (cd 11), .ref (cd 12), .ref (cd 13), .ref (cd 14), .ref (cd 15), .ref (cd 16), .ref (cd 17), .int (nI n), .int sk, .int cp])), (cd 10, .inl (cI, 40, .inl (fil n (Si 0) ze0))), (cd 11, .inl (cI, 40, .inl (fil n (Si 1) ze1))), (cd 14, .inl (cJ, 40, .inr (.inl (fil n (Sj 0) zf0)))), (cd 17, .inl (cJ, 40, .inr (.inl (fil n (Sj 3) zf3)))), (cd 2, .inr (4, [.long rr, .ref (cd 20), .ref (cd 21), .ref (cd 22), .ref (cd 23), .ref (cd 24), .ref (cd 25), .ref (cd 26), .ref (cd 27)])), (cd 27, .inl (cJ, 40, .inr (.inl (vp_updL (fil i (fun _ => 0) ak) i 0))))] _ := hP
    have hD : va_D A [(cd 1, .inr (2, [.ref (cd 10), .ref (cd 11), .ref (cd 12), .ref (cd 13), .ref (cd 14), .ref (cd 15), .ref (cd 16), .ref (cd 17), .int (nI n), .int sk, .int cp])), (cd 10, .inl (cI, 40, .inl (fil n (Si 0) ze0))), (cd 11, .inl (cI, 40, .inl (fil n (Si 1) ze1))), (cd 14, .inl (cJ, 40, .inr (.inl (fil n (Sj 0) zf0)))), (cd 17, .inl (cJ, 40, .inr (.inl (fil n (Sj 3) zf3)))), (cd 2, .inr (4, [.long rr, .ref (cd 20), .ref (cd 21), .ref (cd 22), .ref (cd 23), .ref (cd 24), .ref (cd 25), .ref (cd 26), .ref (cd 27)])), (cd 27, .inl (cJ, 40, .inr (.inl (vp_updL (fil i (fun _ => 0) ak) i 0))))] := hD
    refine lv_iinc (v := nI (i + 1)) (lv' := [(5, .int (nI (i + 1))), (0, .ref (cd 2)), (1, .ref (cd 1)), (2, .int (nI j)), (3, .long x)]) hx hb dX4_smallestMover_20 hl (k := 0) rfl (nI_add i 1) (by decide) rfl (fun ls hl => ?_)
    refine lv_goto (tgt := 3) hx hb dX4_smallestMover_23 (by decide) ?_
    simp only [fil_sucL] at hP hD
    exact ih_3 (i + 1) _ _ _ (by show n - (i + 1) < n - i; omega) ⟨by show _ ≤ _; omega, lv_sub hl [0, 1, 2, 3, 4] rfl, hP, hD, hS⟩
