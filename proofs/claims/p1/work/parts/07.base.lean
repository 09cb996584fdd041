def nsW0 : List Cond := [.fieldLinkNest "Ironwood" 55 "Ironwood$Told" "kinds" "[I" "Ironwood",
  .fieldLinkNest "Ironwood" 39 "Ironwood$Told" "variableCount" "I" "Ironwood",
  .fieldLinkNest "Ironwood$Ways" 43 "Ironwood$Told" "variableCount" "I" "Ironwood",
  .fieldLinkNest "Ironwood$Ways" 55 "Ironwood$Told" "parameterCells" "J" "Ironwood",
  .fieldLinkNest "Ironwood$Ways" 52 "Ironwood$Told" "otherCells" "J" "Ironwood",
  .fieldLinkNest "Ironwood$Steps" 59 "Ironwood$Told" "codes" "[I" "Ironwood",
  .fieldLinkNest "Ironwood$Noted" 96 "Ironwood$Told" "codes" "[I" "Ironwood",
  .fieldLinkNest "Ironwood" 126 "Ironwood$Told" "codes" "[I" "Ironwood",
  .fieldLinkNest "Ironwood$Steps" 70 "Ironwood$Told" "targets" "[I" "Ironwood",
  .fieldLinkNest "Ironwood" 110 "Ironwood$Told" "targets" "[I" "Ironwood",
  .fieldLinkNest "Ironwood$Steps" 81 "Ironwood$Told" "settings" "[I" "Ironwood",
  .fieldLinkNest "Ironwood$Ways" 98 "Ironwood$Told" "sources" "[I" "Ironwood",
  .fieldLinkNest "Ironwood$Steps" 104 "Ironwood$Told" "accessCounts" "[I" "Ironwood",
  .fieldLinkNest "Ironwood$Steps" 37 "Ironwood$Told" "statementCount" "I" "Ironwood",
  .fieldLinkNest "Ironwood$Check" 56 "Ironwood$Told" "statementCount" "I" "Ironwood",
  .fieldLinkNest "Ironwood$Noted" 78 "Ironwood$Told" "statementCount" "I" "Ironwood",
  .fieldLinkNest "Ironwood" 121 "Ironwood$Told" "statementCount" "I" "Ironwood",
  .fieldLinkNest "Ironwood$Steps" 107 "Ironwood$Told" "acts" "[I" "Ironwood",
  .fieldLinkNest "Ironwood$Check" 88 "Ironwood$Told" "actVariables" "[I" "Ironwood",
  .fieldLinkNest "Ironwood$Noted" 97 "Ironwood$Told" "actVariables" "[I" "Ironwood",
  .fieldLinkNest "Ironwood$Steps" 95 "Ironwood$Told" "actVariables" "[I" "Ironwood",
  .fieldLinkNest "Ironwood$Noted" 53 "Ironwood$Told" "actPlaces" "[I" "Ironwood",
  .fieldLinkNest "Ironwood$Check" 91 "Ironwood$Told" "actPlaces" "[I" "Ironwood",
  .fieldLinkNest "Ironwood$Steps" 88 "Ironwood$Told" "actPlaces" "[I" "Ironwood",
  .fieldLinkNest "Ironwood$Ways" 82 "Ironwood$Steps" "nexts" "[I" "Ironwood",
  .fieldLinkNest "Ironwood$Ways" 89 "Ironwood$Steps" "jumps" "[I" "Ironwood",
  .fieldLinkNest "Ironwood$Ways" 127 "Ironwood$Steps" "uses" "[I" "Ironwood",
  .fieldLinkNest "Ironwood$Ways" 71 "Ironwood$Steps" "sets" "[I" "Ironwood",
  .fieldLinkNest "Ironwood$Ways" 101 "Ironwood$Steps" "changes" "[J" "Ironwood",
  .fieldLinkNest "Ironwood$Ways" 106 "Ironwood$Steps" "toUnmade" "[J" "Ironwood",
  .fieldLinkNest "Ironwood$Ways" 113 "Ironwood$Steps" "toMade" "[J" "Ironwood",
  .fieldLinkNest "Ironwood$Ways" 116 "Ironwood$Steps" "toGone" "[J" "Ironwood",
  .fieldLinkNest "Ironwood$Ways" 37 "Ironwood$Steps" "count" "I" "Ironwood",
  .fieldLinkNest "Ironwood$Noted" 25 "Ironwood$Steps" "count" "I" "Ironwood",
  .fieldLinkNest "Ironwood" 215 "Ironwood$Ways" "reached" "J" "Ironwood",
  .fieldLinkNest "Ironwood" 168 "Ironwood$Ways" "awaiting" "[I" "Ironwood",
  .fieldLinkNest "Ironwood$Noted" 74 "Ironwood$Ways" "living" "[J" "Ironwood",
  .fieldLinkNest "Ironwood$Check" 69 "Ironwood$Ways" "living" "[J" "Ironwood",
  .fieldLinkNest "Ironwood" 175 "Ironwood$Ways" "living" "[J" "Ironwood",
  .fieldLinkNest "Ironwood$Check" 81 "Ironwood$Noted" "slots" "[I" "Ironwood",
  .fieldLinkNest "Ironwood$Check" 85 "Ironwood$Noted" "codes" "[I" "Ironwood",
  .fieldLinkNest "Ironwood$Check" 112 "Ironwood$Noted" "reasons" "[I" "Ironwood",
  .fieldLinkNest "Ironwood" 187 "Ironwood$Noted" "count" "I" "Ironwood",
  .fieldLinkNest "Ironwood" 133 "Ironwood$Check" "ways" "LIronwood$Ways;" "Ironwood",
  .fieldLinkNest "Ironwood" 183 "Ironwood$Check" "noted" "LIronwood$Noted;" "Ironwood",
  .fieldLinkNest "IronwoodModel$Look" 63 "IronwoodModel" "variables" "Ljava/util/ArrayList;" "IronwoodModel",
  .fieldLinkNest "IronwoodModel$Look" 29 "IronwoodModel" "statements" "Ljava/util/ArrayList;" "IronwoodModel",
  .methodLinkNest "Ironwood" 11 ⟨"Ironwood$Told", "<init>", "()V"⟩ "Ironwood",
  .methodLinkNest "Ironwood" 18 ⟨"Ironwood$Check", "<init>", "(I)V"⟩ "Ironwood",
  .methodLinkNest "Ironwood$Check" 11 ⟨"Ironwood$Steps", "<init>", "()V"⟩ "Ironwood",
  .methodLinkNest "Ironwood$Check" 20 ⟨"Ironwood$Ways", "<init>", "()V"⟩ "Ironwood",
  .methodLinkNest "Ironwood$Check" 27 ⟨"Ironwood$Noted", "<init>", "(I)V"⟩ "Ironwood",
  .methodLinkNest "Ironwood" 229 ⟨"Ironwood$Check", "run", "(LIronwood$Told;II)V"⟩ "Ironwood",
  .methodLinkNest "Ironwood$Check" 34 ⟨"Ironwood$Steps", "prepare", "(LIronwood$Told;II)V"⟩ "Ironwood",
  .methodLinkNest "Ironwood$Steps" 62 ⟨"Ironwood$Told", "isBranch", "(I)Z"⟩ "Ironwood",
  .methodLinkNest "Ironwood$Steps" 91 ⟨"Ironwood$Told", "isUse", "(II)Z"⟩ "Ironwood",
  .methodLinkNest "Ironwood$Steps" 98 ⟨"Ironwood$Told", "cellsOf", "(II)J"⟩ "Ironwood",
  .methodLinkNest "Ironwood$Check" 38 ⟨"Ironwood$Ways", "begin", "(LIronwood$Told;LIronwood$Steps;)V"⟩ "Ironwood",
  .methodLinkNest "Ironwood$Check" 42 ⟨"Ironwood$Ways", "findAhead", "(LIronwood$Told;LIronwood$Steps;)V"⟩ "Ironwood",
  .methodLinkNest "Ironwood$Ways" 58 ⟨"Ironwood", "isIn", "(JI)Z"⟩ "Ironwood",
  .methodLinkNest "Ironwood$Ways" 92 ⟨"Ironwood$Told", "isLoan", "(I)Z"⟩ "Ironwood",
  .methodLinkNest "Ironwood$Ways" 95 ⟨"Ironwood$Told", "isMadeLoan", "(I)Z"⟩ "Ironwood",
  .methodLinkNest "Ironwood$Check" 45 ⟨"Ironwood$Ways", "findAwaited", "(LIronwood$Steps;)V"⟩ "Ironwood",
  .methodLinkNest "Ironwood$Check" 49 ⟨"Ironwood$Ways", "findLiving", "(LIronwood$Told;LIronwood$Steps;)V"⟩ "Ironwood",
  .methodLinkNest "Ironwood$Check" 52 ⟨"Ironwood$Noted", "noteAll", "(LIronwood$Told;LIronwood$Steps;LIronwood$Ways;)V"⟩ "Ironwood",
  .methodLinkNest "Ironwood$Noted" 28 ⟨"Ironwood$Ways", "comesTo", "(I)Z"⟩ "Ironwood",
  .methodLinkNest "Ironwood$Noted" 34 ⟨"Ironwood$Steps", "accessesOf", "(LIronwood$Told;I)I"⟩ "Ironwood",
  .methodLinkNest "Ironwood$Noted" 38 ⟨"Ironwood$Steps", "actAt", "(LIronwood$Told;II)I"⟩ "Ironwood",
  .methodLinkNest "Ironwood$Noted" 58 ⟨"Ironwood$Told", "isUse", "(II)Z"⟩ "Ironwood",
  .methodLinkNest "Ironwood$Noted" 62 ⟨"Ironwood$Told", "cellsAt", "(I)J"⟩ "Ironwood",
  .methodLinkNest "Ironwood$Noted" 66 ⟨"Ironwood$Ways", "statesOf", "(IJ)I"⟩ "Ironwood",
  .methodLinkNest "Ironwood$Noted" 81 ⟨"Ironwood", "isIn", "(JI)Z"⟩ "Ironwood",
  .methodLinkNest "Ironwood$Noted" 85 ⟨"Ironwood$Told", "meets", "(III)Z"⟩ "Ironwood",
  .methodLinkNest "Ironwood$Noted" 89 ⟨"Ironwood$Told", "isAloneLoan", "(I)Z"⟩ "Ironwood",
  .methodLinkNest "Ironwood$Noted" 100 ⟨"Ironwood$Ways", "loansIn", "(II)J"⟩ "Ironwood",
  .methodLinkNest "Ironwood" 171 ⟨"Ironwood$Check", "countLoans", "(LIronwood$Told;)I"⟩ "Ironwood",
  .methodLinkNest "Ironwood$Check" 62 ⟨"Ironwood$Told", "isMadeLoan", "(I)Z"⟩ "Ironwood",
  .methodLinkNest "Ironwood$Check" 66 ⟨"Ironwood$Ways", "comesTo", "(I)Z"⟩ "Ironwood",
  .methodLinkNest "Ironwood" 179 ⟨"Ironwood$Check", "sizeOfRegion", "(LIronwood$Told;I)I"⟩ "Ironwood",
  .methodLinkNest "Ironwood$Check" 73 ⟨"Ironwood", "isIn", "(JI)Z"⟩ "Ironwood",
  .methodLinkNest "Ironwood" 137 ⟨"Ironwood$Ways", "comesTo", "(I)Z"⟩ "Ironwood",
  .methodLinkNest "Ironwood" 144 ⟨"Ironwood$Told", "cellsOf", "(II)J"⟩ "Ironwood",
  .methodLinkNest "Ironwood" 148 ⟨"Ironwood$Ways", "statesOf", "(IJ)I"⟩ "Ironwood",
  .methodLinkNest "Ironwood" 152 ⟨"Ironwood$Ways", "loansIn", "(II)J"⟩ "Ironwood",
  .methodLinkNest "Ironwood" 199 ⟨"Ironwood$Check", "detail", "(LIronwood$Told;II)I"⟩ "Ironwood",
  .methodLinkNest "Ironwood$Check" 77 ⟨"Ironwood$Noted", "rowCount", "()I"⟩ "Ironwood",
  .methodLinkNest "Ironwood$Check" 104 ⟨"Ironwood$Told", "cellsAt", "(I)J"⟩ "Ironwood",
  .methodLinkNest "Ironwood$Check" 108 ⟨"Ironwood$Ways", "smallestMover", "(LIronwood$Steps;IJ)I"⟩ "Ironwood",
  .methodLinkNest "Ironwood$Ways" 137 ⟨"Ironwood", "smallestIn", "(J)I"⟩ "Ironwood",
  .methodLinkNest "Ironwood$Check" 115 ⟨"Ironwood$Ways", "holderOf", "(LIronwood$Told;II)I"⟩ "Ironwood",
  .methodLinkNest "Ironwood$Check" 118 ⟨"Ironwood$Ways", "nextUse", "(LIronwood$Steps;II)I"⟩ "Ironwood",
  .methodLinkNest "Ironwood" 208 ⟨"Ironwood$Noted", "countOf", "(I)I"⟩ "Ironwood",
  .methodLinkNest "Ironwood" 48 ⟨"Ironwood$Told", "addVariable", "(IZ)I"⟩ "Ironwood",
  .methodLinkNest "Ironwood" 59 ⟨"Ironwood$Told", "isLoan", "(I)Z"⟩ "Ironwood",
  .methodLinkNest "Ironwood" 63 ⟨"Ironwood$Told", "isField", "(II)Z"⟩ "Ironwood",
  .methodLinkNest "Ironwood" 227 ⟨"Ironwood$Told", "addStatement", "(I)I"⟩ "Ironwood",
  .methodLinkNest "Ironwood" 76 ⟨"Ironwood$Told", "addSetting", "(III)V"⟩ "Ironwood",
  .methodLinkNest "Ironwood" 80 ⟨"Ironwood$Told", "addAccess", "(IIII)V"⟩ "Ironwood",
  .methodLinkNest "Ironwood" 86 ⟨"Ironwood$Told", "takingOf", "(I)I"⟩ "Ironwood",
  .methodLinkNest "Ironwood" 91 ⟨"Ironwood$Told", "lendingTo", "(I)I"⟩ "Ironwood",
  .methodLinkNest "Ironwood" 116 ⟨"Ironwood$Told", "isBranch", "(I)Z"⟩ "Ironwood",
  .methodLinkNest "Ironwood" 161 ⟨"Ironwood$Told", "isMadeLoan", "(I)Z"⟩ "Ironwood",
  .methodLinkNest "Ironwood" 203 ⟨"Ironwood$Noted", "countAt", "(I)I"⟩ "Ironwood",
  .castable "Ironwood" "java/lang/Object",
  .castable "Ironwood$Check" "java/lang/Object",
  .castable "Ironwood$Noted" "java/lang/Object",
  .castable "Ironwood$Steps" "java/lang/Object",
  .castable "Ironwood$Told" "java/lang/Object",
  .castable "Ironwood$Ways" "java/lang/Object",
  .castable "IronwoodModel" "java/lang/Object",
  .castable "IronwoodModel$Access" "java/lang/Object",
  .castable "IronwoodModel$Look" "java/lang/Object",
  .castable "IronwoodModel$State" "java/lang/Object",
  .castable "IronwoodModel$Statement" "java/lang/Object",
  .castable "IronwoodModel$Variable" "java/lang/Object",
  .castable "[B" "java/lang/Object",
  .castable "[I" "java/lang/Object",
  .castable "[J" "java/lang/Object",
  .castable "[LIronwoodModel$State;" "java/lang/Object",
  .castable "[Ljava/lang/Object;" "java/lang/Object",
  .castable "[Z" "java/lang/Object",
  .castable "[[I" "java/lang/Object",
  .castable "[[J" "java/lang/Object",
  .castable "java/lang/IllegalArgumentException" "java/lang/IllegalArgumentException",
  .castable "java/lang/IllegalArgumentException" "java/lang/Object",
  .castable "java/lang/IllegalStateException" "java/lang/IllegalStateException",
  .castable "java/lang/IllegalStateException" "java/lang/Object",
  .castable "java/lang/IndexOutOfBoundsException" "java/lang/IndexOutOfBoundsException",
  .castable "java/lang/IndexOutOfBoundsException" "java/lang/Object",
  .castable "java/lang/String" "java/lang/Object",
  .castable "java/lang/Throwable" "java/lang/Object",
  .castable "java/util/ArrayList" "java/lang/Object"]
def nsW : List Cond := nsW0 ++ ((vx_atS RX5 36 "java/lang/IllegalArgumentException" ["java/lang/RuntimeException", "java/lang/Exception"]).filter (fun w => !goodWord w) ++ (vx_atS RX5 47 "java/lang/IllegalStateException" ["java/lang/RuntimeException", "java/lang/Exception"]).filter (fun w => !goodWord w) ++ (vx_atS RX5 196 "java/lang/IndexOutOfBoundsException" ["java/lang/RuntimeException", "java/lang/Exception"]).filter (fun w => !goodWord w))
theorem nsW0_in : ∀ w ∈ nsW0, w ∈ lw_tbl := fm_in [143, 145, 146, 148, 150, 152, 153, 154, 156, 157, 159, 161, 163, 164, 166, 167, 168, 170, 172, 173, 174, 176, 177, 178, 220, 222, 224, 226, 228, 230, 232, 234, 235, 237, 271, 277, 279, 280, 281, 310, 312, 314, 316, 328, 330, 1004, 1006, 138, 209, 215, 266, 305, 367, 371, 379, 403, 407, 413, 417, 426, 437, 441, 457, 469, 473, 477, 478, 479, 484, 485, 490, 502, 503, 507, 518, 519, 523, 524, 529, 533, 566, 567, 568, 569, 570, 574, 585, 586, 594, 601, 609, 616, 714, 746, 747, 761, 765, 773, 782, 794, 866, 912, 944, 1597, 1599, 1602, 1600, 1598, 1601, 1603, 1611, 1610, 1596, 1609, 1607, 1619, 1617, 1618, 1621, 1620, 1624, 1622, 1623, 632, 1605, 700, 1606, 732, 1608, 1613, 1612, 1604] (by decide +kernel)
def stW : List (String × Nat × String) := [("Ironwood", 34, "no such kind"), ("Ironwood", 45, "there are as many variables as can be"), ("Ironwood", 233, "no such variable"), ("Ironwood", 67, "no place to write"), ("Ironwood", 239, "there are as many statements as can be"), ("Ironwood", 84, "no place to move from"), ("Ironwood", 89, "nothing to lend, or none to hold it"), ("Ironwood", 94, "no two loans"), ("Ironwood", 96, "what is shared is not lent alone"), ("Ironwood", 98, "no place to read"), ("Ironwood", 103, "no such ties"), ("Ironwood", 105, "one variable told twice"), ("Ironwood", 237, "no such target"), ("Ironwood", 235, "no such statement"), ("Ironwood", 119, "neither IF nor GO"), ("Ironwood", 124, "there is no statement"), ("Ironwood", 142, "no place with cells"), ("Ironwood", 194, "no such fault"), ("Ironwood", 197, "nothing to tell of a fault"), ("Ironwood", 206, "no such code")]
section KB
/-! what is nobody's world: nest links, String constants, Throwable's two statics -/
def nsB : Cond → Bool
  | .fieldLinkNest .. => true
  | .methodLinkNest .. => true
  | .castable .. => true
  | .declares .. => true
  | _ => false
theorem nsB_ot {w : Cond} (h : nsB w = true) : w.onTables = true := by
  cases w <;> first | rfl | (simp [nsB] at h; done)
theorem nsB_warm {w : Cond} {s U : State} (hW : s.WarmedH U.vm) (h : nsB w = true) (hZ : va_Nw w s) : va_Nw w U := by
  cases w <;> first | exact va_Nw.warmF hW hZ | exact va_Nw.warmM hW hZ | exact va_Nw.warmC hW hZ | exact va_Nw.warmD hW hZ | (simp [nsB] at h; done)
theorem nsW_ok : ∀ w ∈ nsW, nsB w = true := by decide +kernel
def Ns (U : State) : Prop := ∀ w ∈ nsW, va_Nw w U
theorem Ns.vm {u U : State} (h : u.vm = U.vm) (hN : Ns u) : Ns U := fun w hw => (hN w hw).same (nsB_ot (nsW_ok w hw)) h
theorem Ns.warm {s U : State} (hW : s.WarmedH U.vm) (hN : Ns s) : Ns U := fun w hw => nsB_warm hW (nsW_ok w hw) (hN w hw)
theorem Ns.get {s : State} {A : Array Value} (hN : Ns s) {w : Cond} (i : Nat) (h : nsW[i]? = some w) : w.before A s = true := va_Nw.use (nsB_ot (nsW_ok w (List.mem_of_getElem? h))) (hN w (List.mem_of_getElem? h))
theorem Ns.nw {s : State} (hN : Ns s) {w : Cond} (i : Nat) (h : nsW[i]? = some w) : va_Nw w s := hN w (List.mem_of_getElem? h)
theorem Ns.at {s : State} {A : Array Value} {L : List Cond} (hN : Ns s) (h1 : ∀ w ∈ L.filter goodWord, w.before A s = true) (h2 : ∀ w ∈ L.filter (fun w => !goodWord w), w ∈ nsW) : ∀ w ∈ L, w.before A s = true :=
  vx_hat h1 h2 (fun w hw => va_Nw.use (nsB_ot (nsW_ok w hw)) (hN w hw))
def ncW : List (String × String) := [("java/lang/IllegalArgumentException", "java/lang/IllegalStateException"), ("java/lang/IllegalArgumentException", "java/lang/IndexOutOfBoundsException"), ("java/lang/IllegalStateException", "java/lang/IllegalArgumentException"), ("java/lang/IllegalStateException", "java/lang/IndexOutOfBoundsException"), ("java/lang/IndexOutOfBoundsException", "java/lang/IllegalArgumentException"), ("java/lang/IndexOutOfBoundsException", "java/lang/IllegalStateException")]
def aoW : List String := ["IronwoodModel$State", "java/lang/Object"]
def Sg (U : State) : Prop := (∀ q ∈ stW, ∃ a, vk_R q.1 q.2.1 q.2.2 a U) ∧ (∀ q ∈ ncW, va_Nc q.1 q.2 U) ∧ ∀ q ∈ aoW, va_AO q U
theorem Sg.vm {u U : State} (h : u.vm = U.vm) (hN : Sg u) : Sg U := ⟨fun q hq => by
  obtain ⟨a, ha⟩ := hN.1 q hq
  exact ⟨a, vk_R.same h.symm ha⟩, fun q hq => va_Nc.moved (by rw [h]; exact Vm.Alike.refl _) (hN.2.1 q hq), fun q hq => va_AO.moved (by rw [h]; exact Vm.Alike.refl _) (hN.2.2 q hq)⟩
theorem Sg.warm {s U : State} (hW : s.WarmedH U.vm) (hN : Sg s) : Sg U := ⟨fun q hq => by
  obtain ⟨a, ha⟩ := hN.1 q hq
  exact ⟨a, vk_R.warm hW ha⟩, fun q hq => va_Nc.moved hW.alike (hN.2.1 q hq), fun q hq => va_AO.moved hW.alike (hN.2.2 q hq)⟩
theorem Sg.get {s : State} (hN : Sg s) {own tx : String} {k : Nat} (i : Nat) (h : stW[i]? = some (own, k, tx)) : ∃ a, vk_R own k tx a s := hN.1 _ (List.mem_of_getElem? h)
def AL : String := "java/util/ArrayList"
def ALn : String := "DEFAULTCAPACITY_EMPTY_ELEMENTDATA"
def ALd : String := "[Ljava/lang/Object;"
def Gl (ae : Nat) (A : Nat → Prop) (U : State) (H : Heap) : Prop := Ns U ∧ Sg U ∧ vx_Zq Bundle.tN "UNASSIGNED_STACK" Bundle.steD A U H ∧ vx_Zq Bundle.tN "SUPPRESSED_SENTINEL" Bundle.listD A U H ∧ va_Z AL ALn ALd (.ref ae) A U H ∧ va_T (.object "java/lang/Object") ae 0 (fun _ => .null) A U H
theorem Gl.calling {ae : Nat} {A : Nat → Prop} {U : State} {g : JFrame} {mk : MethodId} {a : Array Value} (h : Gl ae A U U.heap) : Gl ae A (U.calling g mk a) (U.calling g mk a).heap :=
  ⟨Ns.vm (u := U) (U := U.calling g mk a) rfl h.1, Sg.vm (u := U) (U := U.calling g mk a) rfl h.2.1, vx_Zq.moved (u := U) (U := U.calling g mk a) (Vm.Alike.refl U.vm) h.2.2.1, vx_Zq.moved (u := U) (U := U.calling g mk a) (Vm.Alike.refl U.vm) h.2.2.2.1, va_Z.moved (u := U) (U := U.calling g mk a) (Vm.Alike.refl U.vm) h.2.2.2.2.1, va_T.moved (u := U) (U := U.calling g mk a) (Vm.Alike.refl U.vm) h.2.2.2.2.2⟩
theorem Gl.into {ae : Nat} {A A1 : Nat → Prop} {s U : State} {H : Heap} {locs : List Loc} (h : Gl ae A s s.heap) (hS : va_S A s.heap H locs) (hF : ∀ q, A1 q → A q) (hU : U.heap = H) (hW : s.WarmedH U.vm) : Gl ae A1 U U.heap := by
  rw [hU]
  exact ⟨h.1.warm hW, h.2.1.warm hW, vx_Zq.narrow (vx_Zq.kept (vx_Zq.moved hW.alike h.2.2.1) hS.2.1) hF, vx_Zq.narrow (vx_Zq.kept (vx_Zq.moved hW.alike h.2.2.2.1) hS.2.1) hF, va_Z.narrow (va_Z.kept (va_Z.moved hW.alike h.2.2.2.2.1) hS.2.1) hF, va_T.narrow (va_T.kept (va_T.moved hW.alike h.2.2.2.2.2) hS.2.1) hF⟩
/-- a method's start -/
def Pw (ae : Nat) (D : va_G) (cl : List vw_C) (tys : List (ClassId × FieldType)) (ws : va_W) (sz : Nat) (U : State) : Prop :=
  U.heap.size = sz ∧ va_P D cl ws U.heap ∧ va_K D cl tys U ∧ va_D (fun _ => True) ws ∧ Gl ae (va_A ws sz) U U.heap
/-- a method's end -/
def Bw {S : Type} (D : va_G) (cl : List vw_C) (w : S → va_W) (A : Nat → Prop) (u : S) (t : State) : Prop := va_P D cl (w u) t.heap ∧ va_D A (w u)
theorem Pw.blind {ae : Nat} {D : va_G} {cl : List vw_C} {tys : List (ClassId × FieldType)} {ws : va_W} {sz : Nat} {av : List Value} : FrameBlind (va_Pc av (Pw ae D cl tys ws sz)) := by
  intro a U g mk q
  obtain ⟨q0, q1, qP, qK, qD, qG⟩ := q
  exact ⟨q0, q1, qP, va_K.moved (u := U) (U := U.calling g mk a) (Vm.Alike.refl U.vm) qK, qD, qG.calling⟩
theorem fm_of {α β : Type} {f : α → Option β} {is : List α} {w : List β} (h : is.map f = w.map some) : is.filterMap f = w := by
  have h1 : is.filterMap f = (is.map f).filterMap id := by rw [List.filterMap_map]; rfl
  rw [h1, h, List.filterMap_map]
  simp
theorem Pw.mk_call {ae : Nat} {A : Nat → Prop} {D : va_G} {cl : List vw_C} {tys : List (ClassId × FieldType)} {ws wc : va_W} {s : State} {H : Heap} {locs : List Loc} {av : List Value}
    (hP : va_P D cl ws H) (hK : va_K D cl tys s) (hD : va_D A ws) (hS : va_S A s.heap H locs) (hA : ∀ q, s.heap.size ≤ q → A q) (hG : Gl ae A s s.heap)
    (isC : List Nat) (hC : isC.map (fun i => ws[i]?) = wc.map some) (hn : va_nd isC = true) :
    ∀ U : State, U.heap = H → s.WarmedH U.vm → va_Pc av (Pw ae D cl tys wc H.size) av.toArray U := by
  intro U hU hW
  exact ⟨rfl, by rw [hU], by rw [hU]; exact hP.sub isC (fm_of hC), va_K.moved hW.alike hK, (hD.sub isC hn hC).weaken (fun _ _ _ _ => trivial), hG.into hS (va_free hD hS hA isC hC) hU hW⟩
theorem K_same {D : va_G} {cl : List vw_C} {tys : List (ClassId × FieldType)} {U : State} (h : va_K D cl tys U) {i j : Nat} {c1 c2 : ClassId} {ty : FieldType} (h1 : tys[i]? = some (c1, ty)) (h2 : tys[j]? = some (c2, ty)) : c1 = c2 := by
  have a1 := (h.2 i _ h1).2
  have a2 := (h.2 j _ h2).2
  cases ty with
  | object C =>
    obtain ⟨_, _, _, _, _, h4⟩ := a1
    obtain ⟨_, _, _, _, _, h5⟩ := a2
    exact Option.some.inj (h4.symm.trans h5)
  | _ => exact Option.some.inj (a1.symm.trans a2)
end KB
/-- a body with handlers that returns -/
theorem Met_ofWH {l : Launch} {y : MethodName} {ws ws' : List Cond} {rm : Room} {Pc : Array Value → State → Prop} {Qc : Array Value → State → Outcome → State → Prop} {mc ms : Nat} {free : Addr → Prop} {cc : ByteArray} {maxL : Nat} {ret : Option FieldType} {hh : List (Nat × Nat × Nat × Nat)}
    (hy : plainName y.cls = true) (hw : ws = Cond.codeWith y cc maxL ret hh :: ws')
    (body : ∀ p e s m args below meth c s₁, BodyLoose p l y (headSpec ws rm) cc maxL ret e s m args below meth c s₁ → c.maxLocals = maxL → Pc args s →
      W p l e (headSpec ws rm).room s m args below meth c s.heap [] 0 0 (MQ below Qc args s mc ms free) (entryFrame m args maxL)) : Met l y ws rm Pc Qc mc ms free := by
  refine MetFree.of_bodyS (code := cc) (maxLocals := maxL) (ret := ret) hy ?_ ?_
  · intro args s m h hn
    obtain ⟨m9, meth, c, hn9, h1, h2, h3, h4, -, h5, h6, -⟩ := Cond.codeWith_spec (atoms_spec (ws := ws) h _ (by rw [hw]; exact List.mem_cons_self))
    cases hn.symm.trans hn9
    exact ⟨meth, c, h1, h2, h3, h4, h5, h6⟩
  · intro p e s m args below meth c s₁ B hml hP _
    have hh0 : s₁.heap = s.heap := by rw [B.state]; rfl
    obtain ⟨t, a1, o, b1, b2, b3⟩ := body p e s m args below meth c s₁ B hml hP s₁ hh0 (Stand.of_body B)
    exact ⟨t, o, a1, b1, b2, ⟨b3.1, b3.2⟩⟩
section KC
variable {p : Program} {l : Launch} {e : Env} {R : Room} {s : State} {m : MethodId} {args : Array Value} {below : List Frame} {meth : Method} {c : Code} {H : Heap} {locs : List Loc} {cells slots : Nat} {Q : State → Prop}
variable {pc : Nat} {ls : Array Slot} {rest st0 : List Value} {a : Array Value} {A0 : Nat → Prop} {mc ms : Nat} {D : va_G} {cl : List vw_C} {ws wc wr : va_W}
theorem kc_v {S : Type} {post : S → Prop} {w : S → va_W} (hr : va_Run p l e R s m args below meth c H locs cells slots mc ms (F0 m pc ls st0) rest (va_Qv post (Bw D cl w (va_A wc H.size)) (va_A wc H.size) a) (va_A wc H.size))
    (hP : va_P D cl ws H) (hD : va_D A0 ws) (hS : va_S A0 s.heap H locs) (hA : ∀ q, s.heap.size ≤ q → A0 q) (isC isR : List Nat) (hC : isC.map (fun i => ws[i]?) = wc.map some) (hR : isR.map (fun i => ws[i]?) = wr.map some) (hn : va_nd isR = true) (hdis : ∀ i ∈ isR, i ∉ isC)
    (kk : ∀ (u : S) (H1 : Heap) (locs1 : List Loc), post u → va_P D cl (wr ++ w u) H1 → va_D A0 (wr ++ w u) → va_S A0 s.heap H1 locs1 → W p l e R s m args below meth c H1 locs1 (cells + mc) (slots + ms) Q (F0 m (pc + 3) ls rest)) : W p l e R s m args below meth c H locs cells slots Q (F0 m pc ls st0) := by
  have hF := va_free hD hS hA isC hC
  refine va_callv hr hS (fun q _ h => hF q h) hF (fun u t H1 locs1 ht _ hw hB _ hk1 hS1 => ?_)
  obtain ⟨hP1, hD1⟩ := hB
  rw [ht] at hP1
  obtain ⟨hP', hD'⟩ := va_join hP hD isC isR hC hR hn hdis hk1 hF hP1 hD1
  exact kk u H1 locs1 hw hP' hD' hS1
theorem kc_i {S : Type} {post : Int32 → S → Prop} {w : S → va_W} (hr : va_Run p l e R s m args below meth c H locs cells slots mc ms (F0 m pc ls st0) rest (va_Qi post (Bw D cl w (va_A wc H.size)) (va_A wc H.size) a) (va_A wc H.size))
    (hP : va_P D cl ws H) (hD : va_D A0 ws) (hS : va_S A0 s.heap H locs) (hA : ∀ q, s.heap.size ≤ q → A0 q) (isC isR : List Nat) (hC : isC.map (fun i => ws[i]?) = wc.map some) (hR : isR.map (fun i => ws[i]?) = wr.map some) (hn : va_nd isR = true) (hdis : ∀ i ∈ isR, i ∉ isC)
    (kk : ∀ (r : Int32) (u : S) (H1 : Heap) (locs1 : List Loc), post r u → va_P D cl (wr ++ w u) H1 → va_D A0 (wr ++ w u) → va_S A0 s.heap H1 locs1 → W p l e R s m args below meth c H1 locs1 (cells + mc) (slots + ms) Q (F0 m (pc + 3) ls (.int r :: rest))) : W p l e R s m args below meth c H locs cells slots Q (F0 m pc ls st0) := by
  have hF := va_free hD hS hA isC hC
  refine va_calli hr hS (fun q _ h => hF q h) hF (fun r u t H1 locs1 ht _ hw hB _ hk1 hS1 => ?_)
  obtain ⟨hP1, hD1⟩ := hB
  rw [ht] at hP1
  obtain ⟨hP', hD'⟩ := va_join hP hD isC isR hC hR hn hdis hk1 hF hP1 hD1
  exact kk r u H1 locs1 hw hP' hD' hS1
theorem kc_l {S : Type} {post : Int64 → S → Prop} {w : S → va_W} (hr : va_Run p l e R s m args below meth c H locs cells slots mc ms (F0 m pc ls st0) rest (va_Ql post (Bw D cl w (va_A wc H.size)) (va_A wc H.size) a) (va_A wc H.size))
    (hP : va_P D cl ws H) (hD : va_D A0 ws) (hS : va_S A0 s.heap H locs) (hA : ∀ q, s.heap.size ≤ q → A0 q) (isC isR : List Nat) (hC : isC.map (fun i => ws[i]?) = wc.map some) (hR : isR.map (fun i => ws[i]?) = wr.map some) (hn : va_nd isR = true) (hdis : ∀ i ∈ isR, i ∉ isC)
    (kk : ∀ (r : Int64) (u : S) (H1 : Heap) (locs1 : List Loc), post r u → va_P D cl (wr ++ w u) H1 → va_D A0 (wr ++ w u) → va_S A0 s.heap H1 locs1 → W p l e R s m args below meth c H1 locs1 (cells + mc) (slots + ms) Q (F0 m (pc + 3) ls (.long r :: rest))) : W p l e R s m args below meth c H locs cells slots Q (F0 m pc ls st0) := by
  have hF := va_free hD hS hA isC hC
  refine va_calll hr hS (fun q _ h => hF q h) hF (fun r u t H1 locs1 ht _ hw hB _ hk1 hS1 => ?_)
  obtain ⟨hP1, hD1⟩ := hB
  rw [ht] at hP1
  obtain ⟨hP', hD'⟩ := va_join hP hD isC isR hC hR hn hdis hk1 hF hP1 hD1
  exact kk r u H1 locs1 hw hP' hD' hS1
theorem kc_d {S : Type} {post : UInt64 → S → Prop} {w : S → va_W} (hr : va_Run p l e R s m args below meth c H locs cells slots mc ms (F0 m pc ls st0) rest (va_Qd post (Bw D cl w (va_A wc H.size)) (va_A wc H.size) a) (va_A wc H.size))
    (hP : va_P D cl ws H) (hD : va_D A0 ws) (hS : va_S A0 s.heap H locs) (hA : ∀ q, s.heap.size ≤ q → A0 q) (isC isR : List Nat) (hC : isC.map (fun i => ws[i]?) = wc.map some) (hR : isR.map (fun i => ws[i]?) = wr.map some) (hn : va_nd isR = true) (hdis : ∀ i ∈ isR, i ∉ isC)
    (kk : ∀ (r : UInt64) (u : S) (H1 : Heap) (locs1 : List Loc), post r u → va_P D cl (wr ++ w u) H1 → va_D A0 (wr ++ w u) → va_S A0 s.heap H1 locs1 → W p l e R s m args below meth c H1 locs1 (cells + mc) (slots + ms) Q (F0 m (pc + 3) ls (.double r :: rest))) : W p l e R s m args below meth c H locs cells slots Q (F0 m pc ls st0) := by
  have hF := va_free hD hS hA isC hC
  refine va_calld hr hS (fun q _ h => hF q h) hF (fun r u t H1 locs1 ht _ hw hB _ hk1 hS1 => ?_)
  obtain ⟨hP1, hD1⟩ := hB
  rw [ht] at hP1
  obtain ⟨hP', hD'⟩ := va_join hP hD isC isR hC hR hn hdis hk1 hF hP1 hD1
  exact kk r u H1 locs1 hw hP' hD' hS1
theorem kc_r {S : Type} {post : S → Prop} {w : S → va_W} {ad : S → Nat} (hr : va_Run p l e R s m args below meth c H locs cells slots mc ms (F0 m pc ls st0) rest (va_Qr post (fun u ra t => ra = ad u ∧ Bw D cl w (va_A wc H.size) u t) (va_A wc H.size) a) (va_A wc H.size))
    (hP : va_P D cl ws H) (hD : va_D A0 ws) (hS : va_S A0 s.heap H locs) (hA : ∀ q, s.heap.size ≤ q → A0 q) (isC isR : List Nat) (hC : isC.map (fun i => ws[i]?) = wc.map some) (hR : isR.map (fun i => ws[i]?) = wr.map some) (hn : va_nd isR = true) (hdis : ∀ i ∈ isR, i ∉ isC)
    (kk : ∀ (u : S) (H1 : Heap) (locs1 : List Loc), post u → va_P D cl (wr ++ w u) H1 → va_D A0 (wr ++ w u) → va_S A0 s.heap H1 locs1 → W p l e R s m args below meth c H1 locs1 (cells + mc) (slots + ms) Q (F0 m (pc + 3) ls (.ref (ad u) :: rest))) : W p l e R s m args below meth c H locs cells slots Q (F0 m pc ls st0) := by
  have hF := va_free hD hS hA isC hC
  refine va_callr hr hS (fun q _ h => hF q h) hF (fun u ra t H1 locs1 ht _ hw hB _ hk1 hS1 => ?_)
  obtain ⟨rfl, hP1, hD1⟩ := hB
  rw [ht] at hP1
  obtain ⟨hP', hD'⟩ := va_join hP hD isC isR hC hR hn hdis hk1 hF hP1 hD1
  exact kk u H1 locs1 hw hP' hD' hS1
/-- what a method that throws E leaves: its world as it was -/
def Xw (D : va_G) (cl : List vw_C) (E : String) (ws : va_W) (A : Nat → Prop) : String → State → State → Prop := vx_X (fun _ : Unit => True) (fun E' _ t => E' = E ∧ va_P D cl ws t.heap ∧ va_D A ws) A
/-- .. and it doesn't return -/
def Qn : Array Value → State → Outcome → State → Prop := fun _ _ _ _ => False
theorem kc_x {E : String} {w1 : va_W} (hr : vx_Run p l e R s m args below meth c H locs cells slots mc ms (F0 m pc ls st0) rest (Qn a) (Xw D cl E w1 (va_A wc H.size)) (va_A wc H.size))
    (hP : va_P D cl ws H) (hD : va_D A0 ws) (hS : va_S A0 s.heap H locs) (hA : ∀ q, s.heap.size ≤ q → A0 q) (isC isR : List Nat) (hC : isC.map (fun i => ws[i]?) = wc.map some) (hR : isR.map (fun i => ws[i]?) = wr.map some) (hn : va_nd isR = true) (hdis : ∀ i ∈ isR, i ∉ isC)
    (kk : ∀ (ce : Cell) (q9 : Addr) (H1 : Heap) (locs1 : List Loc), va_P D cl (wr ++ w1) H1 → va_D A0 (wr ++ w1) → va_S A0 s.heap H1 locs1 → H1[q9]? = some ce → ce.vm = .none → s.vm.findClass E = some ce.cls → vx_W p l e R s m args below meth c H1 locs1 (cells + mc) (slots + ms) Q (F0 m pc ls rest) q9) : W p l e R s m args below meth c H locs cells slots Q (F0 m pc ls st0) := by
  have hF := va_free hD hS hA isC hC
  intro T hT X
  rcases hr T hT X with ⟨v, st₀, t, T', L, h0, X', hL, e1, e2, hq, st⟩ | ⟨q, st₀, t, T', L, E', ce, h0, X', hL, e1, e2, ⟨u, _, ⟨rfl, hP1, hD1⟩, hFr⟩, hce, hcv, hcl, st⟩
  · exact hq.elim
  · obtain ⟨k1, k2, k3⟩ := vx_keep h0 e1 hS (fun q _ h => hF q h) hF hL hFr
    rw [← e1] at hP1
    obtain ⟨hP', hD'⟩ := va_join hP hD isC isR hC hR hn hdis k2 hF hP1 hD1
    obtain ⟨t2, a1, b1⟩ := kk ce q T'.heap (locs ++ L) hP' hD' k3 (by rw [e1]; exact hce) hcv hcl T' rfl X'
    exact ⟨t2, st.trans a1, b1⟩
/-! ends -/
theorem ke_v {S : Type} {post : S → Prop} {w : S → va_W} {cc : ByteArray} (hx : p.tables.exec = Jvm.exec) (hb : c.code = cc) (hr : meth.sig.returnType = none) (u : S) (hpost : post u) (hP : va_P D cl (w u) H) (hD : va_D A0 (w u)) (hS : va_S A0 s.heap H locs) (hc : cells ≤ mc) (hs : slots ≤ ms) (hlocks : meth.locks = false) (hdg : decode cc pc = .ok (.return_, 1)) :
    W p l e R s m args below meth c H locs cells slots (MQ below (va_Qv post (Bw D cl w A0) A0) args s mc ms A0) (F0 m pc ls []) := by
  refine W.widen hc hs ?_
  exact W.vret hx hb hr (fun t ht _ => ⟨⟨u, rfl, hpost, by rw [ht]; exact hP, hD⟩, hS.F ht⟩) hS.2.2 hdg hlocks
theorem ke_i {S : Type} {post : Int32 → S → Prop} {w : S → va_W} {cc : ByteArray} {v : Int32} {ty : FieldType} (hx : p.tables.exec = Jvm.exec) (hb : c.code = cc) (hr : meth.sig.returnType = some ty) (hn : narrow ty (.int v) = .int v) (u : S) (hpost : post v u) (hP : va_P D cl (w u) H) (hD : va_D A0 (w u)) (hS : va_S A0 s.heap H locs) (hc : cells ≤ mc) (hs : slots ≤ ms) (hlocks : meth.locks = false) (hdg : decode cc pc = .ok (.ireturn, 1)) :
    W p l e R s m args below meth c H locs cells slots (MQ below (va_Qi post (Bw D cl w A0) A0) args s mc ms A0) (F0 m pc ls [.int v]) := by
  refine W.widen hc hs ?_
  exact W.zret hx hb hr hn (fun t ht _ => ⟨⟨v, u, rfl, hpost, by rw [ht]; exact hP, hD⟩, hS.F ht⟩) hS.2.2 hdg hlocks
theorem ke_l {S : Type} {post : Int64 → S → Prop} {w : S → va_W} {cc : ByteArray} {v : Int64} (hx : p.tables.exec = Jvm.exec) (hb : c.code = cc) (hr : meth.sig.returnType = some .long) (u : S) (hpost : post v u) (hP : va_P D cl (w u) H) (hD : va_D A0 (w u)) (hS : va_S A0 s.heap H locs) (hc : cells ≤ mc) (hs : slots ≤ ms) (hlocks : meth.locks = false) (hdg : decode cc pc = .ok (.lreturn, 1)) :
    W p l e R s m args below meth c H locs cells slots (MQ below (va_Ql post (Bw D cl w A0) A0) args s mc ms A0) (F0 m pc ls [.long v]) := by
  refine W.widen hc hs ?_
  exact W.lret hx hb hr (fun t ht _ => ⟨⟨v, u, rfl, hpost, by rw [ht]; exact hP, hD⟩, hS.F ht⟩) hS.2.2 hdg hlocks
theorem ke_d {S : Type} {post : UInt64 → S → Prop} {w : S → va_W} {cc : ByteArray} {v : UInt64} (hx : p.tables.exec = Jvm.exec) (hb : c.code = cc) (hr : meth.sig.returnType = some .double) (u : S) (hpost : post v u) (hP : va_P D cl (w u) H) (hD : va_D A0 (w u)) (hS : va_S A0 s.heap H locs) (hc : cells ≤ mc) (hs : slots ≤ ms) (hlocks : meth.locks = false) (hdg : decode cc pc = .ok (.dreturn, 1)) :
    W p l e R s m args below meth c H locs cells slots (MQ below (va_Qd post (Bw D cl w A0) A0) args s mc ms A0) (F0 m pc ls [.double v]) := by
  refine W.widen hc hs ?_
  exact W.dret hx hb hr (fun t ht _ => ⟨⟨v, u, rfl, hpost, by rw [ht]; exact hP, hD⟩, hS.F ht⟩) hS.2.2 hdg hlocks
theorem ke_r {S : Type} {post : S → Prop} {w : S → va_W} {ad : S → Nat} {cc : ByteArray} {rt : FieldType} {v : Nat} (hx : p.tables.exec = Jvm.exec) (hb : c.code = cc) (hr : meth.sig.returnType = some rt) (hrt : (∃ n, rt = .object n) ∨ ∃ t, rt = .array t) (u : S) (hv : v = ad u) (hpost : post u) (hP : va_P D cl (w u) H) (hD : va_D A0 (w u)) (hS : va_S A0 s.heap H locs) (hc : cells ≤ mc) (hs : slots ≤ ms) (hlocks : meth.locks = false) (hdg : decode cc pc = .ok (.areturn, 1)) :
    W p l e R s m args below meth c H locs cells slots (MQ below (va_Qr post (fun u ra t => ra = ad u ∧ Bw D cl w A0 u t) A0) args s mc ms A0) (F0 m pc ls [.ref v]) := by
  refine W.widen hc hs ?_
  exact W.aret hx hb hr hrt (Or.inr ⟨v, rfl⟩) (fun t ht _ => ⟨⟨u, v, rfl, hpost, hv, by rw [ht]; exact hP, hD⟩, hS.F ht⟩) hS.2.2 hdg hlocks
/-- thrown out by a callee, not caught here -/
theorem ke_x {E : String} {ce : Cell} {q9 : Addr} (ht : ∀ x ∈ c.exceptionTable.toList, False) (hlocks : meth.locks = false) (hP : va_P D cl ws H) (hD : va_D A0 ws) (hS : va_S A0 s.heap H locs) (hcell : H[q9]? = some ce) (hv : ce.vm = .none) (hcl : s.vm.findClass E = some ce.cls) (hc : cells ≤ mc) (hs : slots ≤ ms) {Qc : Array Value → State → Outcome → State → Prop} :
    vx_W p l e R s m args below meth c H locs cells slots (vx_MQ below Qc (Xw D cl E ws A0) args s mc ms A0) (F0 m pc ls rest) q9 :=
  vx_out (fun x hx => (ht x hx).elim) hlocks hcell hv hcl (fun t h1 _ => ⟨(), trivial, ⟨rfl, by rw [h1]; exact hP, hD⟩, hS.F h1⟩) hS.2.2 hc hs
/-- throw new E("text") -/
theorem ke_t {ae : Nat} {cc : ByteArray} (hx : p.tables.exec = Jvm.exec) (hb : c.code = cc) (hl : l.stackTraces = false) {own cls text : String} {ik is ic : Nat} {names : List String} (hG : Gl ae A0 s s.heap) (iS : Nat) (hi : stW[iS]? = some (own, is, text))
    (hown : s.vm.findClass own = some m.cls) (hcls : Bundle.fit cls = true) (hnames : ∀ n ∈ names, Bundle.fit n = true)
    (hk : (Cond.classLink own ik cls).before args s = true) (hini : (Cond.initialized cls).before args s = true) (hat : ∀ w ∈ vx_atS own ic cls names, w.before args s = true)
    (hgood : ∀ w ∈ Cond.classLink own ik cls :: Cond.initialized cls :: vx_atS own ic cls names, vx_ot w = true)
    (hsize : ls.size = c.maxLocals)
    (d0 : decode cc pc = .ok (.new ik, 3)) (d3 : decode cc (pc + 3) = .ok (.dup, 1)) (d4 : decode cc (pc + 4) = .ok (.ldc is, 2)) (d6 : decode cc (pc + 6) = .ok (.invokespecial ic, 3)) (d9 : decode cc (pc + 9) = .ok (.athrow, 1))
    (ht : ∀ x ∈ c.exceptionTable.toList, False)
    (hRframes : names.length + 3 < R.frames) (hRlocals : (rest.map fun v => v.category).sum + (13 * (names.length + 1) + 43) ≤ R.locals) (hRcells : cells + 1 ≤ R.cells) (hRslots : slots + 6 ≤ R.slots) (hlocks : meth.locks = false)
    (hP : va_P D cl ws H) (hD : va_D A0 ws) (hS : va_S A0 s.heap H locs) (hc : cells + 1 ≤ mc) (hs : slots + 6 ≤ ms) {Qc : Array Value → State → Outcome → State → Prop} :
    W p l e R s m args below meth c H locs cells slots (vx_MQ below Qc (Xw D cl cls ws A0) args s mc ms A0) (F0 m pc ls rest) := by
  obtain ⟨sa, hsa⟩ := hG.2.1.get iS hi
  refine vx_throwS hx hb hl hown hcls hnames hk hini hsa hat hgood hG.2.2.1 hG.2.2.2.1 hS hsize d0 d3 d4 d6 d9 (fun x hx => (ht x hx).elim) hRframes hRlocals hRcells hRslots hlocks (fun t _ h1 h2 => ⟨(), trivial, ⟨rfl, hP.kept (fun k q hk => h2 q.1 (vx_lt hP hk)), hD⟩, ?_⟩) hS.2.2 hc hs
  exact ⟨Nat.le_trans hS.1 h1, fun q h3 h4 => by rw [h2 q (Nat.lt_of_lt_of_le h3 hS.1)]; exact hS.2.1 q h3 h4⟩
end KC
