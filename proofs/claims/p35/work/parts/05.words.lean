section KW
/-- the words that every method may use -/
def BW : List Cond := lw_tbl.filter goodWord
abbrev wx (c : Cond) : List Cond := c :: BW
theorem mB {w : Cond} (k : Nat) (h : lw_tbl[k]? = some w) (g : goodWord w = true) : w ∈ BW := List.mem_filter.mpr ⟨List.mem_of_getElem? h, g⟩
theorem mc {c w : Cond} (h : w ∈ BW) : w ∈ wx c := List.mem_cons_of_mem _ h
theorem gz {w : Cond} (h : w ∈ BW) : (w.onTables && w.keeps) = true ∨ ∃ ty, w = .arrayClass ty := good_of_word (List.mem_filter.mp h).2
theorem gB {c w : Cond} (h : w ∈ BW) : GoodIn (wx c) (wx w) := by
  intro z hz
  have hz2 : z ∈ BW := by
    rcases List.mem_cons.mp hz with e | e
    · rw [e]; exact h
    · exact e
  exact ⟨mc hz2, gz hz2⟩
theorem gL {c : Cond} {a b : List Cond} (ha : ∀ w ∈ a, w ∈ BW) (hb : GoodIn (wx c) b) : GoodIn (wx c) (a ++ b) := fun z hz => (List.mem_append.mp hz).elim (fun h => ⟨mc (ha z h), gz (ha z h)⟩) (hb z)
theorem gV {c w : Cond} {own C : String} {idx : Nat} {y : MethodName} (hw : w ∈ BW) (h1 : Cond.methodLink own idx y ∈ BW) (h2 : Cond.instanceMethod y ∈ BW) (h3 : Cond.selects C y y ∈ BW) (h4 : Cond.initialized C ∈ BW) : GoodIn (wx c) (wsV own idx C y (wx w)) :=
  gL (List.forall_mem_cons.mpr ⟨h1, List.forall_mem_cons.mpr ⟨h2, List.forall_mem_cons.mpr ⟨h3, List.forall_mem_cons.mpr ⟨h4, fun _ h => nomatch h⟩⟩⟩⟩) (gB hw)
theorem gS {c w : Cond} {own : String} {idx : Nat} {y : MethodName} (hw : w ∈ BW) (h1 : Cond.methodLink own idx y ∈ BW) (h2 : Cond.static y ∈ BW) (h4 : Cond.initialized own ∈ BW) : GoodIn (wx c) (wsS own idx y (wx w)) :=
  gL (List.forall_mem_cons.mpr ⟨h1, List.forall_mem_cons.mpr ⟨h2, List.forall_mem_cons.mpr ⟨h4, fun _ h => nomatch h⟩⟩⟩) (gB hw)
theorem gT {c w : Cond} {own : String} {idx : Nat} {y : MethodName} (hw : w ∈ BW) (h1 : Cond.methodLink own idx y ∈ BW) (h2 : Cond.static y ∈ BW) (h4 : Cond.initialized y.cls ∈ BW) : GoodIn (wx c) (va_wsS own idx y (wx w)) :=
  gL (List.forall_mem_cons.mpr ⟨h1, List.forall_mem_cons.mpr ⟨h2, List.forall_mem_cons.mpr ⟨h4, fun _ h => nomatch h⟩⟩⟩) (gB hw)
end KW
theorem fm_in {big ws : List Cond} (ps : List Nat) (h : ws = ps.filterMap (fun i => big[i]?)) : ∀ w ∈ ws, w ∈ big := fun w hw => by
  rw [h] at hw
  obtain ⟨i, -, hi⟩ := List.mem_filterMap.mp hw
  exact List.mem_of_getElem? hi
theorem inB_RX0 : ∀ w ∈ wsX00, w ∈ BW := fun w h => List.mem_filter.mpr ((show ∀ w ∈ wsX00, w ∈ lw_tbl ∧ goodWord w = true by decide +kernel) w h)
theorem in_RX0 {c : Cond} : ∀ w ∈ wsX00, w ∈ wx c := fun w h => mc (inB_RX0 w h)
theorem inB_RX1 : ∀ w ∈ wsX10, w ∈ BW := fun w h => List.mem_filter.mpr ((show ∀ w ∈ wsX10, w ∈ lw_tbl ∧ goodWord w = true by decide +kernel) w h)
theorem in_RX1 {c : Cond} : ∀ w ∈ wsX10, w ∈ wx c := fun w h => mc (inB_RX1 w h)
theorem inB_RX2 : ∀ w ∈ wsX20, w ∈ BW := fun w h => List.mem_filter.mpr ((show ∀ w ∈ wsX20, w ∈ lw_tbl ∧ goodWord w = true by decide +kernel) w h)
theorem in_RX2 {c : Cond} : ∀ w ∈ wsX20, w ∈ wx c := fun w h => mc (inB_RX2 w h)
theorem inB_RX3 : ∀ w ∈ wsX30, w ∈ BW := fun w h => List.mem_filter.mpr ((show ∀ w ∈ wsX30, w ∈ lw_tbl ∧ goodWord w = true by decide +kernel) w h)
theorem in_RX3 {c : Cond} : ∀ w ∈ wsX30, w ∈ wx c := fun w h => mc (inB_RX3 w h)
theorem inB_RX4 : ∀ w ∈ wsX40, w ∈ BW := fun w h => List.mem_filter.mpr ((show ∀ w ∈ wsX40, w ∈ lw_tbl ∧ goodWord w = true by decide +kernel) w h)
theorem in_RX4 {c : Cond} : ∀ w ∈ wsX40, w ∈ wx c := fun w h => mc (inB_RX4 w h)
theorem inB_RX5 : ∀ w ∈ wsX50, w ∈ BW := fun w h => List.mem_filter.mpr ((show ∀ w ∈ wsX50, w ∈ lw_tbl ∧ goodWord w = true by decide +kernel) w h)
theorem in_RX5 {c : Cond} : ∀ w ∈ wsX50, w ∈ wx c := fun w h => mc (inB_RX5 w h)
