def nsW : List Cond := [.fieldLinkNest "Ironwood" 55 "Ironwood$Told" "kinds" "[I" "Ironwood",
  .fieldLinkNest "Ironwood" 39 "Ironwood$Told" "variableCount" "I" "Ironwood",
  .fieldLinkNest "Ironwood$Ways" 43 "Ironwood$Told" "variableCount" "I" "Ironwood",
  .fieldLinkNest "Ironwood$Ways" 55 "Ironwood$Told" "parameterCells" "J" "Ironwood",
  .fieldLinkNest "Ironwood$Ways" 52 "Ironwood$Told" "otherCells" "J" "Ironwood",
  .fieldLinkNest "Ironwood$Steps" 59 "Ironwood$Told" "codes" "[I" "Ironwood",
  .fieldLinkNest "Ironwood$Noted" 96 "Ironwood$Told" "codes" "[I" "Ironwood",
  .fieldLinkNest "Ironwood" 126 "Ironwood$Told" "codes" "[I" "Ironwood",
  .fieldLinkNest "Ironwood$Steps" 70 "Ironwood$Told" "targets" "[I" "Ironwood",
  .fieldLinkNest "Ironwood" 110 "Ironwood$Told" "targets" "[I" "Ironwood",
  .fieldLinkNest "Ironwood$Steps" 81 "Ironwood$Told" "settings" "[I" "Ironwood",
  .fieldLinkNest "Ironwood$Ways" 98 "Ironwood$Told" "sources" "[I" "Ironwood",
  .fieldLinkNest "Ironwood$Steps" 104 "Ironwood$Told" "accessCounts" "[I" "Ironwood",
  .fieldLinkNest "Ironwood$Steps" 37 "Ironwood$Told" "statementCount" "I" "Ironwood",
  .fieldLinkNest "Ironwood$Check" 56 "Ironwood$Told" "statementCount" "I" "Ironwood",
  .fieldLinkNest "Ironwood$Noted" 78 "Ironwood$Told" "statementCount" "I" "Ironwood",
  .fieldLinkNest "Ironwood" 121 "Ironwood$Told" "statementCount" "I" "Ironwood",
  .fieldLinkNest "Ironwood$Steps" 107 "Ironwood$Told" "acts" "[I" "Ironwood",
  .fieldLinkNest "Ironwood$Check" 88 "Ironwood$Told" "actVariables" "[I" "Ironwood",
  .fieldLinkNest "Ironwood$Noted" 97 "Ironwood$Told" "actVariables" "[I" "Ironwood",
  .fieldLinkNest "Ironwood$Steps" 95 "Ironwood$Told" "actVariables" "[I" "Ironwood",
  .fieldLinkNest "Ironwood$Noted" 53 "Ironwood$Told" "actPlaces" "[I" "Ironwood",
  .fieldLinkNest "Ironwood$Check" 91 "Ironwood$Told" "actPlaces" "[I" "Ironwood",
  .fieldLinkNest "Ironwood$Steps" 88 "Ironwood$Told" "actPlaces" "[I" "Ironwood",
  .fieldLinkNest "Ironwood$Ways" 82 "Ironwood$Steps" "nexts" "[I" "Ironwood",
  .fieldLinkNest "Ironwood$Ways" 89 "Ironwood$Steps" "jumps" "[I" "Ironwood",
  .fieldLinkNest "Ironwood$Ways" 127 "Ironwood$Steps" "uses" "[I" "Ironwood",
  .fieldLinkNest "Ironwood$Ways" 71 "Ironwood$Steps" "sets" "[I" "Ironwood",
  .fieldLinkNest "Ironwood$Ways" 101 "Ironwood$Steps" "changes" "[J" "Ironwood",
  .fieldLinkNest "Ironwood$Ways" 106 "Ironwood$Steps" "toUnmade" "[J" "Ironwood",
  .fieldLinkNest "Ironwood$Ways" 113 "Ironwood$Steps" "toMade" "[J" "Ironwood",
  .fieldLinkNest "Ironwood$Ways" 116 "Ironwood$Steps" "toGone" "[J" "Ironwood",
  .fieldLinkNest "Ironwood$Ways" 37 "Ironwood$Steps" "count" "I" "Ironwood",
  .fieldLinkNest "Ironwood$Noted" 25 "Ironwood$Steps" "count" "I" "Ironwood",
  .fieldLinkNest "Ironwood" 215 "Ironwood$Ways" "reached" "J" "Ironwood",
  .fieldLinkNest "Ironwood" 168 "Ironwood$Ways" "awaiting" "[I" "Ironwood",
  .fieldLinkNest "Ironwood$Noted" 74 "Ironwood$Ways" "living" "[J" "Ironwood",
  .fieldLinkNest "Ironwood$Check" 69 "Ironwood$Ways" "living" "[J" "Ironwood",
  .fieldLinkNest "Ironwood" 175 "Ironwood$Ways" "living" "[J" "Ironwood",
  .fieldLinkNest "Ironwood$Check" 81 "Ironwood$Noted" "slots" "[I" "Ironwood",
  .fieldLinkNest "Ironwood$Check" 85 "Ironwood$Noted" "codes" "[I" "Ironwood",
  .fieldLinkNest "Ironwood$Check" 112 "Ironwood$Noted" "reasons" "[I" "Ironwood",
  .fieldLinkNest "Ironwood" 187 "Ironwood$Noted" "count" "I" "Ironwood",
  .fieldLinkNest "Ironwood" 133 "Ironwood$Check" "ways" "LIronwood$Ways;" "Ironwood",
  .fieldLinkNest "Ironwood" 183 "Ironwood$Check" "noted" "LIronwood$Noted;" "Ironwood",
  .methodLinkNest "Ironwood" 11 ⟨"Ironwood$Told", "<init>", "()V"⟩ "Ironwood",
  .methodLinkNest "Ironwood" 18 ⟨"Ironwood$Check", "<init>", "(I)V"⟩ "Ironwood",
  .methodLinkNest "Ironwood$Check" 11 ⟨"Ironwood$Steps", "<init>", "()V"⟩ "Ironwood",
  .methodLinkNest "Ironwood$Check" 20 ⟨"Ironwood$Ways", "<init>", "()V"⟩ "Ironwood",
  .methodLinkNest "Ironwood$Check" 27 ⟨"Ironwood$Noted", "<init>", "(I)V"⟩ "Ironwood",
  .methodLinkNest "Ironwood" 229 ⟨"Ironwood$Check", "run", "(LIronwood$Told;II)V"⟩ "Ironwood",
  .methodLinkNest "Ironwood$Check" 34 ⟨"Ironwood$Steps", "prepare", "(LIronwood$Told;II)V"⟩ "Ironwood",
  .methodLinkNest "Ironwood$Steps" 62 ⟨"Ironwood$Told", "isBranch", "(I)Z"⟩ "Ironwood",
  .methodLinkNest "Ironwood$Steps" 91 ⟨"Ironwood$Told", "isUse", "(II)Z"⟩ "Ironwood",
  .methodLinkNest "Ironwood$Steps" 98 ⟨"Ironwood$Told", "cellsOf", "(II)J"⟩ "Ironwood",
  .methodLinkNest "Ironwood$Check" 38 ⟨"Ironwood$Ways", "begin", "(LIronwood$Told;LIronwood$Steps;)V"⟩ "Ironwood",
  .methodLinkNest "Ironwood$Check" 42 ⟨"Ironwood$Ways", "findAhead", "(LIronwood$Told;LIronwood$Steps;)V"⟩ "Ironwood",
  .methodLinkNest "Ironwood$Ways" 58 ⟨"Ironwood", "isIn", "(JI)Z"⟩ "Ironwood",
  .methodLinkNest "Ironwood$Ways" 92 ⟨"Ironwood$Told", "isLoan", "(I)Z"⟩ "Ironwood",
  .methodLinkNest "Ironwood$Ways" 95 ⟨"Ironwood$Told", "isMadeLoan", "(I)Z"⟩ "Ironwood",
  .methodLinkNest "Ironwood$Check" 45 ⟨"Ironwood$Ways", "findAwaited", "(LIronwood$Steps;)V"⟩ "Ironwood",
  .methodLinkNest "Ironwood$Check" 49 ⟨"Ironwood$Ways", "findLiving", "(LIronwood$Told;LIronwood$Steps;)V"⟩ "Ironwood",
  .methodLinkNest "Ironwood$Check" 52 ⟨"Ironwood$Noted", "noteAll", "(LIronwood$Told;LIronwood$Steps;LIronwood$Ways;)V"⟩ "Ironwood",
  .methodLinkNest "Ironwood$Noted" 28 ⟨"Ironwood$Ways", "comesTo", "(I)Z"⟩ "Ironwood",
  .methodLinkNest "Ironwood$Noted" 34 ⟨"Ironwood$Steps", "accessesOf", "(LIronwood$Told;I)I"⟩ "Ironwood",
  .methodLinkNest "Ironwood$Noted" 38 ⟨"Ironwood$Steps", "actAt", "(LIronwood$Told;II)I"⟩ "Ironwood",
  .methodLinkNest "Ironwood$Noted" 58 ⟨"Ironwood$Told", "isUse", "(II)Z"⟩ "Ironwood",
  .methodLinkNest "Ironwood$Noted" 62 ⟨"Ironwood$Told", "cellsAt", "(I)J"⟩ "Ironwood",
  .methodLinkNest "Ironwood$Noted" 66 ⟨"Ironwood$Ways", "statesOf", "(IJ)I"⟩ "Ironwood",
  .methodLinkNest "Ironwood$Noted" 81 ⟨"Ironwood", "isIn", "(JI)Z"⟩ "Ironwood",
  .methodLinkNest "Ironwood$Noted" 85 ⟨"Ironwood$Told", "meets", "(III)Z"⟩ "Ironwood",
  .methodLinkNest "Ironwood$Noted" 89 ⟨"Ironwood$Told", "isAloneLoan", "(I)Z"⟩ "Ironwood",
  .methodLinkNest "Ironwood$Noted" 100 ⟨"Ironwood$Ways", "loansIn", "(II)J"⟩ "Ironwood",
  .methodLinkNest "Ironwood" 137 ⟨"Ironwood$Ways", "comesTo", "(I)Z"⟩ "Ironwood",
  .methodLinkNest "Ironwood" 63 ⟨"Ironwood$Told", "isField", "(II)Z"⟩ "Ironwood",
  .methodLinkNest "Ironwood" 144 ⟨"Ironwood$Told", "cellsOf", "(II)J"⟩ "Ironwood",
  .methodLinkNest "Ironwood" 148 ⟨"Ironwood$Ways", "statesOf", "(IJ)I"⟩ "Ironwood",
  .methodLinkNest "Ironwood" 152 ⟨"Ironwood$Ways", "loansIn", "(II)J"⟩ "Ironwood",
  .methodLinkNest "Ironwood" 161 ⟨"Ironwood$Told", "isMadeLoan", "(I)Z"⟩ "Ironwood",
  .methodLinkNest "Ironwood" 171 ⟨"Ironwood$Check", "countLoans", "(LIronwood$Told;)I"⟩ "Ironwood",
  .methodLinkNest "Ironwood$Check" 62 ⟨"Ironwood$Told", "isMadeLoan", "(I)Z"⟩ "Ironwood",
  .methodLinkNest "Ironwood$Check" 66 ⟨"Ironwood$Ways", "comesTo", "(I)Z"⟩ "Ironwood",
  .methodLinkNest "Ironwood" 179 ⟨"Ironwood$Check", "sizeOfRegion", "(LIronwood$Told;I)I"⟩ "Ironwood",
  .methodLinkNest "Ironwood$Check" 73 ⟨"Ironwood", "isIn", "(JI)Z"⟩ "Ironwood",
  .methodLinkNest "Ironwood" 199 ⟨"Ironwood$Check", "detail", "(LIronwood$Told;II)I"⟩ "Ironwood",
  .methodLinkNest "Ironwood$Check" 77 ⟨"Ironwood$Noted", "rowCount", "()I"⟩ "Ironwood",
  .methodLinkNest "Ironwood$Check" 104 ⟨"Ironwood$Told", "cellsAt", "(I)J"⟩ "Ironwood",
  .methodLinkNest "Ironwood$Check" 108 ⟨"Ironwood$Ways", "smallestMover", "(LIronwood$Steps;IJ)I"⟩ "Ironwood",
  .methodLinkNest "Ironwood$Ways" 137 ⟨"Ironwood", "smallestIn", "(J)I"⟩ "Ironwood",
  .methodLinkNest "Ironwood$Check" 115 ⟨"Ironwood$Ways", "holderOf", "(LIronwood$Told;II)I"⟩ "Ironwood",
  .methodLinkNest "Ironwood$Check" 118 ⟨"Ironwood$Ways", "nextUse", "(LIronwood$Steps;II)I"⟩ "Ironwood",
  .methodLinkNest "Ironwood" 203 ⟨"Ironwood$Noted", "countAt", "(I)I"⟩ "Ironwood",
  .methodLinkNest "Ironwood" 208 ⟨"Ironwood$Noted", "countOf", "(I)I"⟩ "Ironwood",
  .methodLinkNest "Ironwood" 48 ⟨"Ironwood$Told", "addVariable", "(IZ)I"⟩ "Ironwood",
  .methodLinkNest "Ironwood" 59 ⟨"Ironwood$Told", "isLoan", "(I)Z"⟩ "Ironwood",
  .methodLinkNest "Ironwood" 227 ⟨"Ironwood$Told", "addStatement", "(I)I"⟩ "Ironwood",
  .methodLinkNest "Ironwood" 76 ⟨"Ironwood$Told", "addSetting", "(III)V"⟩ "Ironwood",
  .methodLinkNest "Ironwood" 80 ⟨"Ironwood$Told", "addAccess", "(IIII)V"⟩ "Ironwood",
  .methodLinkNest "Ironwood" 86 ⟨"Ironwood$Told", "takingOf", "(I)I"⟩ "Ironwood",
  .methodLinkNest "Ironwood" 91 ⟨"Ironwood$Told", "lendingTo", "(I)I"⟩ "Ironwood"]
theorem nsW_in : ∀ w ∈ nsW, w ∈ lw_tbl := fm_in [93, 95, 96, 98, 100, 102, 103, 104, 106, 107, 109, 111, 113, 114, 116, 117, 118, 120, 122, 123, 124, 126, 127, 128, 170, 172, 174, 176, 178, 180, 182, 184, 185, 187, 221, 227, 229, 230, 231, 260, 262, 264, 266, 278, 280, 88, 159, 165, 216, 255, 409, 413, 421, 445, 449, 455, 459, 468, 479, 483, 499, 511, 515, 519, 520, 521, 526, 527, 532, 544, 545, 549, 560, 561, 571, 591, 592, 597, 608, 618, 622, 623, 632, 636, 647, 651, 662, 663, 671, 678, 686, 697, 707, 758, 777, 788, 792, 800, 806, 815] (by decide +kernel)
section KB
/-! what is nobody's world: nest links -/
def nsB : Cond → Bool
  | .fieldLinkNest .. => true
  | .methodLinkNest .. => true
  | .castable .. => true
  | .declares .. => true
  | _ => false
theorem nsB_ot {w : Cond} (h : nsB w = true) : w.onTables = true := by
  cases w <;> first | rfl | (simp [nsB] at h; done)
theorem nsB_warm {w : Cond} {s U : State} (hW : s.WarmedH U.vm) (h : nsB w = true) (hZ : va_Nw w s) : va_Nw w U := by
  cases w <;> first | exact va_Nw.warmF hW hZ | exact va_Nw.warmM hW hZ | exact va_Nw.warmC hW hZ | exact va_Nw.warmD hW hZ | (simp [nsB] at h; done)
theorem nsW_ok : ∀ w ∈ nsW, nsB w = true := by decide +kernel
def Ns (U : State) : Prop := ∀ w ∈ nsW, va_Nw w U
theorem Ns.vm {u U : State} (h : u.vm = U.vm) (hN : Ns u) : Ns U := fun w hw => (hN w hw).same (nsB_ot (nsW_ok w hw)) h
theorem Ns.warm {s U : State} (hW : s.WarmedH U.vm) (hN : Ns s) : Ns U := fun w hw => nsB_warm hW (nsW_ok w hw) (hN w hw)
theorem Ns.get {s : State} {A : Array Value} (hN : Ns s) {w : Cond} (i : Nat) (h : nsW[i]? = some w) : w.before A s = true := va_Nw.use (nsB_ot (nsW_ok w (List.mem_of_getElem? h))) (hN w (List.mem_of_getElem? h))
theorem Ns.nw {s : State} (hN : Ns s) {w : Cond} (i : Nat) (h : nsW[i]? = some w) : va_Nw w s := hN w (List.mem_of_getElem? h)
def Gl (A : Nat → Prop) (U : State) (H : Heap) : Prop := Ns U ∧ True
theorem Gl.calling {A : Nat → Prop} {U : State} {g : JFrame} {mk : MethodId} {a : Array Value} (h : Gl A U U.heap) : Gl A (U.calling g mk a) (U.calling g mk a).heap :=
  ⟨Ns.vm (u := U) (U := U.calling g mk a) rfl h.1, trivial⟩
theorem Gl.into {A A1 : Nat → Prop} {s U : State} {H : Heap} {locs : List Loc} (h : Gl A s s.heap) (_ : va_S A s.heap H locs) (_ : ∀ q, A1 q → A q) (_ : U.heap = H) (hW : s.WarmedH U.vm) : Gl A1 U U.heap := ⟨h.1.warm hW, trivial⟩
/-- a method's start -/
def Pw (D : va_G) (cl : List vw_C) (tys : List (ClassId × FieldType)) (ws : va_W) (sz : Nat) (U : State) : Prop :=
  U.heap.size = sz ∧ va_P D cl ws U.heap ∧ va_K D cl tys U ∧ va_D (fun _ => True) ws ∧ Gl (va_A ws sz) U U.heap
/-- a method's end -/
def Bw {S : Type} (D : va_G) (cl : List vw_C) (w : S → va_W) (A : Nat → Prop) (u : S) (t : State) : Prop := va_P D cl (w u) t.heap ∧ va_D A (w u)
theorem Pw.blind {D : va_G} {cl : List vw_C} {tys : List (ClassId × FieldType)} {ws : va_W} {sz : Nat} {av : List Value} : FrameBlind (va_Pc av (Pw D cl tys ws sz)) := by
  intro a U g mk q
  obtain ⟨q0, q1, qP, qK, qD, qG⟩ := q
  exact ⟨q0, q1, qP, va_K.moved (u := U) (U := U.calling g mk a) (Vm.Alike.refl U.vm) qK, qD, qG.calling⟩
theorem fm_of {α β : Type} {f : α → Option β} {is : List α} {w : List β} (h : is.map f = w.map some) : is.filterMap f = w := by
  have h1 : is.filterMap f = (is.map f).filterMap id := by rw [List.filterMap_map]; rfl
  rw [h1, h, List.filterMap_map]
  simp
theorem Pw.mk_call {A : Nat → Prop} {D : va_G} {cl : List vw_C} {tys : List (ClassId × FieldType)} {ws wc : va_W} {s : State} {H : Heap} {locs : List Loc} {av : List Value}
    (hP : va_P D cl ws H) (hK : va_K D cl tys s) (hD : va_D A ws) (hS : va_S A s.heap H locs) (hA : ∀ q, s.heap.size ≤ q → A q) (hG : Gl A s s.heap)
    (isC : List Nat) (hC : isC.map (fun i => ws[i]?) = wc.map some) (hn : va_nd isC = true) :
    ∀ U : State, U.heap = H → s.WarmedH U.vm → va_Pc av (Pw D cl tys wc H.size) av.toArray U := by
  intro U hU hW
  exact ⟨rfl, by rw [hU], by rw [hU]; exact hP.sub isC (fm_of hC), va_K.moved hW.alike hK, (hD.sub isC hn hC).weaken (fun _ _ _ _ => trivial), hG.into hS (va_free hD hS hA isC hC) hU hW⟩
theorem K_same {D : va_G} {cl : List vw_C} {tys : List (ClassId × FieldType)} {U : State} (h : va_K D cl tys U) {i j : Nat} {c1 c2 : ClassId} {ty : FieldType} (h1 : tys[i]? = some (c1, ty)) (h2 : tys[j]? = some (c2, ty)) : c1 = c2 := by
  have a1 := (h.2 i _ h1).2
  have a2 := (h.2 j _ h2).2
  cases ty with
  | object C =>
    obtain ⟨_, _, _, _, _, h4⟩ := a1
    obtain ⟨_, _, _, _, _, h5⟩ := a2
    exact Option.some.inj (h4.symm.trans h5)
  | _ => exact Option.some.inj (a1.symm.trans a2)
end KB
section KC
variable {p : Program} {l : Launch} {e : Env} {R : Room} {s : State} {m : MethodId} {args : Array Value} {below : List Frame} {meth : Method} {c : Code} {H : Heap} {locs : List Loc} {cells slots : Nat} {Q : State → Prop}
variable {pc : Nat} {ls : Array Slot} {rest st0 : List Value} {a : Array Value} {A0 : Nat → Prop} {mc ms : Nat} {D : va_G} {cl : List vw_C} {ws wc wr : va_W}
theorem kc_v {S : Type} {post : S → Prop} {w : S → va_W} (hr : va_Run p l e R s m args below meth c H locs cells slots mc ms (F0 m pc ls st0) rest (va_Qv post (Bw D cl w (va_A wc H.size)) (va_A wc H.size) a) (va_A wc H.size))
    (hP : va_P D cl ws H) (hD : va_D A0 ws) (hS : va_S A0 s.heap H locs) (hA : ∀ q, s.heap.size ≤ q → A0 q) (isC isR : List Nat) (hC : isC.map (fun i => ws[i]?) = wc.map some) (hR : isR.map (fun i => ws[i]?) = wr.map some) (hn : va_nd isR = true) (hdis : ∀ i ∈ isR, i ∉ isC)
    (kk : ∀ (u : S) (H1 : Heap) (locs1 : List Loc), post u → va_P D cl (wr ++ w u) H1 → va_D A0 (wr ++ w u) → va_S A0 s.heap H1 locs1 → W p l e R s m args below meth c H1 locs1 (cells + mc) (slots + ms) Q (F0 m (pc + 3) ls rest)) : W p l e R s m args below meth c H locs cells slots Q (F0 m pc ls st0) := by
  have hF := va_free hD hS hA isC hC
  refine va_callv hr hS (fun q _ h => hF q h) hF (fun u t H1 locs1 ht _ hw hB _ hk1 hS1 => ?_)
  obtain ⟨hP1, hD1⟩ := hB
  rw [ht] at hP1
  obtain ⟨hP', hD'⟩ := va_join hP hD isC isR hC hR hn hdis hk1 hF hP1 hD1
  exact kk u H1 locs1 hw hP' hD' hS1
theorem kc_i {S : Type} {post : Int32 → S → Prop} {w : S → va_W} (hr : va_Run p l e R s m args below meth c H locs cells slots mc ms (F0 m pc ls st0) rest (va_Qi post (Bw D cl w (va_A wc H.size)) (va_A wc H.size) a) (va_A wc H.size))
    (hP : va_P D cl ws H) (hD : va_D A0 ws) (hS : va_S A0 s.heap H locs) (hA : ∀ q, s.heap.size ≤ q → A0 q) (isC isR : List Nat) (hC : isC.map (fun i => ws[i]?) = wc.map some) (hR : isR.map (fun i => ws[i]?) = wr.map some) (hn : va_nd isR = true) (hdis : ∀ i ∈ isR, i ∉ isC)
    (kk : ∀ (r : Int32) (u : S) (H1 : Heap) (locs1 : List Loc), post r u → va_P D cl (wr ++ w u) H1 → va_D A0 (wr ++ w u) → va_S A0 s.heap H1 locs1 → W p l e R s m args below meth c H1 locs1 (cells + mc) (slots + ms) Q (F0 m (pc + 3) ls (.int r :: rest))) : W p l e R s m args below meth c H locs cells slots Q (F0 m pc ls st0) := by
  have hF := va_free hD hS hA isC hC
  refine va_calli hr hS (fun q _ h => hF q h) hF (fun r u t H1 locs1 ht _ hw hB _ hk1 hS1 => ?_)
  obtain ⟨hP1, hD1⟩ := hB
  rw [ht] at hP1
  obtain ⟨hP', hD'⟩ := va_join hP hD isC isR hC hR hn hdis hk1 hF hP1 hD1
  exact kk r u H1 locs1 hw hP' hD' hS1
theorem kc_l {S : Type} {post : Int64 → S → Prop} {w : S → va_W} (hr : va_Run p l e R s m args below meth c H locs cells slots mc ms (F0 m pc ls st0) rest (va_Ql post (Bw D cl w (va_A wc H.size)) (va_A wc H.size) a) (va_A wc H.size))
    (hP : va_P D cl ws H) (hD : va_D A0 ws) (hS : va_S A0 s.heap H locs) (hA : ∀ q, s.heap.size ≤ q → A0 q) (isC isR : List Nat) (hC : isC.map (fun i => ws[i]?) = wc.map some) (hR : isR.map (fun i => ws[i]?) = wr.map some) (hn : va_nd isR = true) (hdis : ∀ i ∈ isR, i ∉ isC)
    (kk : ∀ (r : Int64) (u : S) (H1 : Heap) (locs1 : List Loc), post r u → va_P D cl (wr ++ w u) H1 → va_D A0 (wr ++ w u) → va_S A0 s.heap H1 locs1 → W p l e R s m args below meth c H1 locs1 (cells + mc) (slots + ms) Q (F0 m (pc + 3) ls (.long r :: rest))) : W p l e R s m args below meth c H locs cells slots Q (F0 m pc ls st0) := by
  have hF := va_free hD hS hA isC hC
  refine va_calll hr hS (fun q _ h => hF q h) hF (fun r u t H1 locs1 ht _ hw hB _ hk1 hS1 => ?_)
  obtain ⟨hP1, hD1⟩ := hB
  rw [ht] at hP1
  obtain ⟨hP', hD'⟩ := va_join hP hD isC isR hC hR hn hdis hk1 hF hP1 hD1
  exact kk r u H1 locs1 hw hP' hD' hS1
theorem kc_d {S : Type} {post : UInt64 → S → Prop} {w : S → va_W} (hr : va_Run p l e R s m args below meth c H locs cells slots mc ms (F0 m pc ls st0) rest (va_Qd post (Bw D cl w (va_A wc H.size)) (va_A wc H.size) a) (va_A wc H.size))
    (hP : va_P D cl ws H) (hD : va_D A0 ws) (hS : va_S A0 s.heap H locs) (hA : ∀ q, s.heap.size ≤ q → A0 q) (isC isR : List Nat) (hC : isC.map (fun i => ws[i]?) = wc.map some) (hR : isR.map (fun i => ws[i]?) = wr.map some) (hn : va_nd isR = true) (hdis : ∀ i ∈ isR, i ∉ isC)
    (kk : ∀ (r : UInt64) (u : S) (H1 : Heap) (locs1 : List Loc), post r u → va_P D cl (wr ++ w u) H1 → va_D A0 (wr ++ w u) → va_S A0 s.heap H1 locs1 → W p l e R s m args below meth c H1 locs1 (cells + mc) (slots + ms) Q (F0 m (pc + 3) ls (.double r :: rest))) : W p l e R s m args below meth c H locs cells slots Q (F0 m pc ls st0) := by
  have hF := va_free hD hS hA isC hC
  refine va_calld hr hS (fun q _ h => hF q h) hF (fun r u t H1 locs1 ht _ hw hB _ hk1 hS1 => ?_)
  obtain ⟨hP1, hD1⟩ := hB
  rw [ht] at hP1
  obtain ⟨hP', hD'⟩ := va_join hP hD isC isR hC hR hn hdis hk1 hF hP1 hD1
  exact kk r u H1 locs1 hw hP' hD' hS1
theorem kc_r {S : Type} {post : S → Prop} {w : S → va_W} {ad : S → Nat} (hr : va_Run p l e R s m args below meth c H locs cells slots mc ms (F0 m pc ls st0) rest (va_Qr post (fun u ra t => ra = ad u ∧ Bw D cl w (va_A wc H.size) u t) (va_A wc H.size) a) (va_A wc H.size))
    (hP : va_P D cl ws H) (hD : va_D A0 ws) (hS : va_S A0 s.heap H locs) (hA : ∀ q, s.heap.size ≤ q → A0 q) (isC isR : List Nat) (hC : isC.map (fun i => ws[i]?) = wc.map some) (hR : isR.map (fun i => ws[i]?) = wr.map some) (hn : va_nd isR = true) (hdis : ∀ i ∈ isR, i ∉ isC)
    (kk : ∀ (u : S) (H1 : Heap) (locs1 : List Loc), post u → va_P D cl (wr ++ w u) H1 → va_D A0 (wr ++ w u) → va_S A0 s.heap H1 locs1 → W p l e R s m args below meth c H1 locs1 (cells + mc) (slots + ms) Q (F0 m (pc + 3) ls (.ref (ad u) :: rest))) : W p l e R s m args below meth c H locs cells slots Q (F0 m pc ls st0) := by
  have hF := va_free hD hS hA isC hC
  refine va_callr hr hS (fun q _ h => hF q h) hF (fun u ra t H1 locs1 ht _ hw hB _ hk1 hS1 => ?_)
  obtain ⟨rfl, hP1, hD1⟩ := hB
  rw [ht] at hP1
  obtain ⟨hP', hD'⟩ := va_join hP hD isC isR hC hR hn hdis hk1 hF hP1 hD1
  exact kk u H1 locs1 hw hP' hD' hS1
/-! ends -/
theorem ke_v {S : Type} {post : S → Prop} {w : S → va_W} {cc : ByteArray} (hx : p.tables.exec = Jvm.exec) (hb : c.code = cc) (hr : meth.sig.returnType = none) (u : S) (hpost : post u) (hP : va_P D cl (w u) H) (hD : va_D A0 (w u)) (hS : va_S A0 s.heap H locs) (hc : cells ≤ mc) (hs : slots ≤ ms) (hlocks : meth.locks = false) (hdg : decode cc pc = .ok (.return_, 1)) :
    W p l e R s m args below meth c H locs cells slots (MQ below (va_Qv post (Bw D cl w A0) A0) args s mc ms A0) (F0 m pc ls []) := by
  refine W.widen hc hs ?_
  exact W.vret hx hb hr (fun t ht _ => ⟨⟨u, rfl, hpost, by rw [ht]; exact hP, hD⟩, hS.F ht⟩) hS.2.2 hdg hlocks
theorem ke_i {S : Type} {post : Int32 → S → Prop} {w : S → va_W} {cc : ByteArray} {v : Int32} {ty : FieldType} (hx : p.tables.exec = Jvm.exec) (hb : c.code = cc) (hr : meth.sig.returnType = some ty) (hn : narrow ty (.int v) = .int v) (u : S) (hpost : post v u) (hP : va_P D cl (w u) H) (hD : va_D A0 (w u)) (hS : va_S A0 s.heap H locs) (hc : cells ≤ mc) (hs : slots ≤ ms) (hlocks : meth.locks = false) (hdg : decode cc pc = .ok (.ireturn, 1)) :
    W p l e R s m args below meth c H locs cells slots (MQ below (va_Qi post (Bw D cl w A0) A0) args s mc ms A0) (F0 m pc ls [.int v]) := by
  refine W.widen hc hs ?_
  exact W.zret hx hb hr hn (fun t ht _ => ⟨⟨v, u, rfl, hpost, by rw [ht]; exact hP, hD⟩, hS.F ht⟩) hS.2.2 hdg hlocks
theorem ke_l {S : Type} {post : Int64 → S → Prop} {w : S → va_W} {cc : ByteArray} {v : Int64} (hx : p.tables.exec = Jvm.exec) (hb : c.code = cc) (hr : meth.sig.returnType = some .long) (u : S) (hpost : post v u) (hP : va_P D cl (w u) H) (hD : va_D A0 (w u)) (hS : va_S A0 s.heap H locs) (hc : cells ≤ mc) (hs : slots ≤ ms) (hlocks : meth.locks = false) (hdg : decode cc pc = .ok (.lreturn, 1)) :
    W p l e R s m args below meth c H locs cells slots (MQ below (va_Ql post (Bw D cl w A0) A0) args s mc ms A0) (F0 m pc ls [.long v]) := by
  refine W.widen hc hs ?_
  exact W.lret hx hb hr (fun t ht _ => ⟨⟨v, u, rfl, hpost, by rw [ht]; exact hP, hD⟩, hS.F ht⟩) hS.2.2 hdg hlocks
theorem ke_d {S : Type} {post : UInt64 → S → Prop} {w : S → va_W} {cc : ByteArray} {v : UInt64} (hx : p.tables.exec = Jvm.exec) (hb : c.code = cc) (hr : meth.sig.returnType = some .double) (u : S) (hpost : post v u) (hP : va_P D cl (w u) H) (hD : va_D A0 (w u)) (hS : va_S A0 s.heap H locs) (hc : cells ≤ mc) (hs : slots ≤ ms) (hlocks : meth.locks = false) (hdg : decode cc pc = .ok (.dreturn, 1)) :
    W p l e R s m args below meth c H locs cells slots (MQ below (va_Qd post (Bw D cl w A0) A0) args s mc ms A0) (F0 m pc ls [.double v]) := by
  refine W.widen hc hs ?_
  exact W.dret hx hb hr (fun t ht _ => ⟨⟨v, u, rfl, hpost, by rw [ht]; exact hP, hD⟩, hS.F ht⟩) hS.2.2 hdg hlocks
theorem ke_r {S : Type} {post : S → Prop} {w : S → va_W} {ad : S → Nat} {cc : ByteArray} {rt : FieldType} {v : Nat} (hx : p.tables.exec = Jvm.exec) (hb : c.code = cc) (hr : meth.sig.returnType = some rt) (hrt : (∃ n, rt = .object n) ∨ ∃ t, rt = .array t) (u : S) (hv : v = ad u) (hpost : post u) (hP : va_P D cl (w u) H) (hD : va_D A0 (w u)) (hS : va_S A0 s.heap H locs) (hc : cells ≤ mc) (hs : slots ≤ ms) (hlocks : meth.locks = false) (hdg : decode cc pc = .ok (.areturn, 1)) :
    W p l e R s m args below meth c H locs cells slots (MQ below (va_Qr post (fun u ra t => ra = ad u ∧ Bw D cl w A0 u t) A0) args s mc ms A0) (F0 m pc ls [.ref v]) := by
  refine W.widen hc hs ?_
  exact W.aret hx hb hr hrt (Or.inr ⟨v, rfl⟩) (fun t ht _ => ⟨⟨u, v, rfl, hpost, hv, by rw [ht]; exact hP, hD⟩, hS.F ht⟩) hS.2.2 hdg hlocks
theorem tI {x v : Int32} (h : x = v) (k : W p l e R s m args below meth c H locs cells slots Q (F0 m pc ls (.int v :: rest))) : W p l e R s m args below meth c H locs cells slots Q (F0 m pc ls (.int x :: rest)) := h ▸ k
theorem tJ {x v : Int64} (h : x = v) (k : W p l e R s m args below meth c H locs cells slots Q (F0 m pc ls (.long v :: rest))) : W p l e R s m args below meth c H locs cells slots Q (F0 m pc ls (.long x :: rest)) := h ▸ k
theorem tD {x v : UInt64} (h : x = v) (k : W p l e R s m args below meth c H locs cells slots Q (F0 m pc ls (.double v :: rest))) : W p l e R s m args below meth c H locs cells slots Q (F0 m pc ls (.double x :: rest)) := h ▸ k
end KC

section KL
theorem W_loop {σ : Type} {p : Program} {l : Launch} {e : Env} {R : Room} {s : State} {m : MethodId} {args : Array Value} {below : List Frame} {meth : Method} {c : Code} {cells slots pc : Nat} {Q : State → Prop} {st0 : List Value}
    (meas : σ → Nat) (Inv : σ → Array Slot → Heap → List Loc → Prop)
    (step : ∀ (x : σ) (ls : Array Slot) (H : Heap) (locs : List Loc), Inv x ls H locs → (∀ (y : σ) (ls' : Array Slot) (H' : Heap) (locs' : List Loc), meas y < meas x → Inv y ls' H' locs' → W p l e R s m args below meth c H' locs' cells slots Q (F0 m pc ls' st0)) → W p l e R s m args below meth c H locs cells slots Q (F0 m pc ls st0)) :
    ∀ (x : σ) (ls : Array Slot) (H : Heap) (locs : List Loc), Inv x ls H locs → W p l e R s m args below meth c H locs cells slots Q (F0 m pc ls st0) := by
  have h : ∀ (n : Nat) (x : σ) (ls : Array Slot) (H : Heap) (locs : List Loc), meas x = n → Inv x ls H locs → W p l e R s m args below meth c H locs cells slots Q (F0 m pc ls st0) := by
    intro n
    induction n using Nat.strongRecOn with
    | ind n ih =>
      intro x ls H locs hn hI
      exact step x ls H locs hI (fun y ls' H' locs' hy hI' => ih (meas y) (hn ▸ hy) y ls' H' locs' rfl hI')
  exact fun x ls H locs hI => h _ x ls H locs rfl hI
def bz (b : Bool) : Int32 := if b = true then 1 else 0
theorem bz_f {b : Bool} (h : bz b = 0) : b = false := by cases b <;> first | rfl | (revert h; decide)
theorem bz_t {b : Bool} (h : ¬ bz b = 0) : b = true := by cases b <;> first | rfl | exact absurd rfl h
theorem bnt {b : Bool} (h : b = false) : ¬ b = true := by rw [h]; decide
theorem bz_nar (b : Bool) : narrow .boolean (.int (bz b)) = .int (bz b) := by cases b <;> rfl
theorem bz_1 {b : Bool} (h : b = true) : (1 : Int32) = bz b := by rw [h]; rfl
theorem bz_0 {b : Bool} (h : b = false) : (0 : Int32) = bz b := by rw [h]; rfl
theorem bz_or (a b : Bool) : bz a ||| bz b = bz (a || b) := by cases a <;> cases b <;> decide
theorem upd_same (f : Nat → Int32) (k : Nat) (x : Int32) : upd f k x k = x := by simp [upd]
theorem upd_ne (f : Nat → Int32) {k j : Nat} (x : Int32) (h : ¬ j = k) : upd f k x j = f j := by simp [upd, h]
theorem upd_upd (f : Nat → Int32) (k : Nat) (x y : Int32) : upd (upd f k x) k y = upd f k y := by funext j; by_cases h : j = k <;> simp [upd, h]
theorem upd_id (f : Nat → Int32) (k : Nat) : upd f k (f k) = f := by funext j; by_cases h : j = k <;> simp [upd, h]
theorem vpl_same (f : Nat → Int64) (k : Nat) (x : Int64) : vp_updL f k x k = x := by simp [vp_updL]
theorem vpl_ne (f : Nat → Int64) {k j : Nat} (x : Int64) (h : ¬ j = k) : vp_updL f k x j = f j := by simp [vp_updL, h]
theorem vpl_upd (f : Nat → Int64) (k : Nat) (x y : Int64) : vp_updL (vp_updL f k x) k y = vp_updL f k y := by funext j; by_cases h : j = k <;> simp [vp_updL, h]
theorem vpl_id (f : Nat → Int64) (k : Nat) : vp_updL f k (f k) = f := by funext j; by_cases h : j = k <;> simp [vp_updL, h]
/-- what is meant of an array, and what lies behind it -/
def fil {α : Type} (n : Nat) (f g : Nat → α) : Nat → α := fun j => if j < n then f j else g j
theorem fil_lt {α : Type} {n j : Nat} {f g : Nat → α} (h : j < n) : fil n f g j = f j := if_pos h
theorem fil_ge {α : Type} {n j : Nat} {f g : Nat → α} (h : n ≤ j) : fil n f g j = g j := if_neg (by omega)
theorem fil_0 {α : Type} (f g : Nat → α) : fil 0 f g = g := by funext j; exact if_neg (Nat.not_lt_zero j)
theorem fil_upd {n j : Nat} {f g : Nat → Int32} {x : Int32} (h : j < n) : upd (fil n f g) j x = fil n (upd f j x) g := by
  funext i
  by_cases e : i = j
  · subst e; simp [upd, fil, h]
  · simp [upd, fil, e]
theorem fil_vpl {n j : Nat} {f g : Nat → Int64} {x : Int64} (h : j < n) : vp_updL (fil n f g) j x = fil n (vp_updL f j x) g := by
  funext i
  by_cases e : i = j
  · subst e; simp [vp_updL, fil, h]
  · simp [vp_updL, fil, e]
theorem fil_sucI (n : Nat) (f g : Nat → Int32) : upd (fil n f g) n (f n) = fil (n + 1) f g := by
  funext i
  by_cases e : i = n
  · subst e; simp [upd, fil]
  · by_cases h : i < n
    · simp [upd, fil, e, h, Nat.lt_succ_of_lt h]
    · simp [upd, fil, e, h, show ¬ i < n + 1 by omega]
theorem fil_sucL (n : Nat) (f g : Nat → Int64) : vp_updL (fil n f g) n (f n) = fil (n + 1) f g := by
  funext i
  by_cases e : i = n
  · subst e; simp [vp_updL, fil]
  · by_cases h : i < n
    · simp [vp_updL, fil, e, h, Nat.lt_succ_of_lt h]
    · simp [vp_updL, fil, e, h, show ¬ i < n + 1 by omega]
/-- held: at statement * 12 + variable -/
def fih (n : Nat) (f : Nat → Nat → Int64) (g : Nat → Int64) : Nat → Int64 := fun i => if i / 12 < n ∧ i % 12 < 6 then f (i / 12) (i % 12) else g i
def up2 (f : Nat → Nat → Int64) (j v : Nat) (x : Int64) : Nat → Nat → Int64 := fun a b => if a = j ∧ b = v then x else f a b
theorem fih_at {n j v : Nat} {f : Nat → Nat → Int64} {g : Nat → Int64} (hj : j < n) (hv : v < 6) : fih n f g (j * 12 + v) = f j v := by
  have h1 : (j * 12 + v) / 12 = j := by omega
  have h2 : (j * 12 + v) % 12 = v := by omega
  simp [fih, h1, h2, hj, hv]
theorem fih_upd {n j v : Nat} {f : Nat → Nat → Int64} {g : Nat → Int64} {x : Int64} (hj : j < n) (hv : v < 6) : vp_updL (fih n f g) (j * 12 + v) x = fih n (up2 f j v x) g := by
  funext i
  by_cases e : i = j * 12 + v
  · have h1 : (j * 12 + v) / 12 = j := by omega
    have h2 : (j * 12 + v) % 12 = v := by omega
    simp [vp_updL, fih, up2, e, h1, h2, hj, hv]
  · by_cases h : i / 12 < n ∧ i % 12 < 6
    · have h3 : ¬ (i / 12 = j ∧ i % 12 = v) := fun ⟨q1, q2⟩ => e (by omega)
      simp [vp_updL, fih, up2, e, h, h3]
    · simp [vp_updL, fih, e, h]
theorem up2_same (f : Nat → Nat → Int64) (j v : Nat) (x : Int64) : up2 f j v x j v = x := by simp [up2]
/-- held, as it is made empty: rows ahead of j, and v of row j -/
def fhz (j v : Nat) (g : Nat → Int64) : Nat → Int64 := fun i => if (i / 12 < j ∧ i % 12 < 6) ∨ (i / 12 = j ∧ i % 12 < v) then 0 else g i
theorem fhz_0 (g : Nat → Int64) : fhz 0 0 g = g := by
  funext i; simp [fhz]
theorem fhz_v {j v : Nat} {g : Nat → Int64} (hv : v < 6) : vp_updL (fhz j v g) (j * 12 + v) 0 = fhz j (v + 1) g := by
  funext i
  by_cases e : i = j * 12 + v
  · have h1 : (j * 12 + v) / 12 = j := by omega
    have h2 : (j * 12 + v) % 12 = v := by omega
    simp [vp_updL, fhz, e, h1, h2]
  · have h3 : ((i / 12 < j ∧ i % 12 < 6) ∨ (i / 12 = j ∧ i % 12 < v)) ↔ ((i / 12 < j ∧ i % 12 < 6) ∨ (i / 12 = j ∧ i % 12 < v + 1)) := by omega
    simp only [vp_updL, fhz, if_neg e, h3]
theorem fhz_6 (j : Nat) (g : Nat → Int64) : fhz j 6 g = fhz (j + 1) 0 g := by
  funext i
  have h3 : ((i / 12 < j ∧ i % 12 < 6) ∨ (i / 12 = j ∧ i % 12 < 6)) ↔ ((i / 12 < j + 1 ∧ i % 12 < 6) ∨ (i / 12 = j + 1 ∧ i % 12 < 0)) := by omega
  simp only [fhz, h3]
theorem fhz_n (n : Nat) (g : Nat → Int64) : fhz n 0 g = fih n (fun _ _ => 0) g := by
  funext i
  have h3 : ((i / 12 < n ∧ i % 12 < 6) ∨ (i / 12 = n ∧ i % 12 < 0)) ↔ (i / 12 < n ∧ i % 12 < 6) := by omega
  simp only [fhz, fih, h3]
abbrev nn (x : Int32) : Nat := x.toNatClampNeg
theorem nn_nI {k : Nat} (h : k < 2 ^ 31) : nn (nI k) = k := nI_clamp h
theorem nn_of {x : Int32} {k b : Nat} (h : x = nI k) (hk : k < b) (hb : b ≤ 2 ^ 31) : x = nI (nn x) ∧ nn x < b := by
  subst h
  rw [nn_nI (by omega)]
  exact ⟨rfl, hk⟩
theorem dec1 (x : Int32) : x + Int32.ofInt (-1) = x - 1 := by rw [Int32.sub_eq_add_neg]; rfl
theorem nI_m1 {k : Nat} (h : k < 2 ^ 31) : ¬ nI k = -1 := by
  intro e
  have h1 := nI_pos' h
  rw [e] at h1
  exact absurd h1 (by decide)
/-- a loop over n things -/
def itr {σ : Type} (f : Nat → σ → σ) (n : Nat) : Nat → σ → σ
  | 0, x => x
  | k + 1, x => itr f n k (f (n - (k + 1)) x)
def itF {σ : Type} (f : Nat → σ → σ) (n i : Nat) (x : σ) : σ := itr f n (n - i) x
theorem itF_lt {σ : Type} {f : Nat → σ → σ} {n i : Nat} {x : σ} (h : i < n) : itF f n i x = itF f n (i + 1) (f i x) := by
  unfold itF
  have e : n - i = (n - (i + 1)) + 1 := by omega
  rw [e]
  show itr f n (n - (i + 1)) (f (n - (n - (i + 1) + 1)) x) = _
  rw [show n - (n - (i + 1) + 1) = i by omega]
theorem itF_ge {σ : Type} {f : Nat → σ → σ} {n i : Nat} {x : σ} (h : n ≤ i) : itF f n i x = x := by
  unfold itF; rw [show n - i = 0 by omega]; rfl
/-- rounds until nothing is new -/
def fxr {σ : Type} (f : σ → σ × Bool) : Nat → σ → Bool → σ
  | 0, x, _ => x
  | _ + 1, x, false => x
  | k + 1, x, true => fxr f k (f x).1 (f x).2
theorem fxr_end {σ : Type} {f : σ → σ × Bool} {k : Nat} {x : σ} {b : Bool} (h : k = 0 ∨ b = false) : fxr f k x b = x := by
  rcases h with rfl | rfl
  · rfl
  · cases k <;> rfl
theorem fxr_go {σ : Type} {f : σ → σ × Bool} {k : Nat} {x : σ} : fxr f (k + 1) x true = fxr f k (f x).1 (f x).2 := rfl
theorem fxr_go1 {σ : Type} {f : σ → σ × Bool} {k : Nat} {x : σ} (h : 0 < k) : fxr f k x true = fxr f (k - 1) (f x).1 (f x).2 := by
  obtain ⟨j, rfl⟩ : ∃ j, k = j + 1 := ⟨k - 1, by omega⟩
  rfl
end KL
