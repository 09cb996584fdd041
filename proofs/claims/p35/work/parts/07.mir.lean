def bI (x : Int64) (v : Int32) : Bool := decide (¬ x >>> (v.toInt64 &&& 63) &&& 1 = 0)
def iL (T : Nat → Nat → Int32) (v : Nat) : Bool := decide (T 0 v = 2 ∨ T 0 v = 3)
def iFd (T : Nat → Nat → Int32) (v : Nat) (q : Int32) : Bool := decide (T 0 v = 1 ∧ 0 ≤ q ∧ q < 3)
def iBr (T : Nat → Nat → Int32) (j : Nat) : Bool := decide (T 1 j = 7 ∨ T 1 j = 8)
def iML (T : Nat → Nat → Int32) (n j : Nat) : Bool := decide (j < n ∧ (T 1 j = 2 ∨ T 1 j = 3))
def iAL (T : Nat → Nat → Int32) (j : Nat) : Bool := decide (¬ T 3 j = -1 ∧ T 0 (T 3 j).toNatClampNeg = 3)
def tkO (T : Nat → Nat → Int32) (v : Nat) : Int32 := if T 0 v = 1 ∨ T 0 v = 3 then 2 else 0
def ldT (T : Nat → Nat → Int32) (v : Nat) : Int32 := if T 0 v = 2 then 0 else 4
def cO (T : Nat → Nat → Int32) (v : Nat) (q : Int32) : Int64 := if T 0 v = 1 then (if q = -1 then (7 : Int64) <<< ((nI (3 * v)).toInt64 &&& 63) else (1 : Int64) <<< ((nI (3 * v) + q).toInt64 &&& 63)) else (1 : Int64) <<< ((nI (3 * v)).toInt64 &&& 63)
def iU (act q : Int32) : Bool := decide (act = 0 ∨ act = 2 ∨ act = 4 ∨ (act = 1 ∧ q = 3))
def mts (T : Nat → Nat → Int32) (act : Int32) (sl lo : Nat) : Bool :=
  if T 7 sl = T 7 (lo * 3) then (if T 8 sl = T 8 (lo * 3) then true else if T 8 (lo * 3) = 3 then (if act = 2 then (if T 8 sl = -1 then true else false) else false)
    else (if T 8 sl = 3 then false else if T 8 sl = -1 then true else if T 8 (lo * 3) = -1 then true else false)) else false
def ex (n j : Nat) : Int32 := if j < n then nI j else -1
def acO (T : Nat → Nat → Int32) (sk : Int32) (j : Nat) : Int32 := if nI j = sk then 0 else T 5 j
def acA (T : Nat → Nat → Int32) (cp : Int32) (j sl : Nat) : Int32 := if T 6 sl = 2 ∧ nI j = cp then 0 else T 6 sl
def nxF (T : Nat → Nat → Int32) (n : Nat) (sk : Int32) (j : Nat) : Int32 := if nI j = sk ∨ (¬ T 1 j = 8 ∧ ¬ T 1 j = 9) then ex n (j + 1) else -1
def jpF (T : Nat → Nat → Int32) (n : Nat) (sk : Int32) (j : Nat) : Int32 := if ¬ nI j = sk ∧ iBr T j = true then ex n (T 2 j).toNatClampNeg else -1

def efU (T : Nat → Nat → Int32) (cp : Int32) (j sl : Nat) (x : Int32) : Int32 := if iU (acA T cp j sl) (T 8 sl) = true then x ||| (1 : Int32) <<< (T 7 sl &&& 31) else x
def cAt (T : Nat → Nat → Int32) (sl : Nat) : Int64 := cO T (nn (T 7 sl)) (T 8 sl)
def iCh (a q : Int32) : Bool := decide (a = 2 ∨ a = 3 ∨ (a = 1 ∧ ¬ q = 3))
def efA (T : Nat → Nat → Int32) (cp : Int32) (j sl : Nat) (x : Int64) : Int64 :=
  if iCh (acA T cp j sl) (T 8 sl) = true then (if acA T cp j sl = 3 then x &&& (cAt T sl ^^^ (-1)) ||| cAt T sl else x &&& (cAt T sl ^^^ (-1))) else x
def efB (T : Nat → Nat → Int32) (cp : Int32) (j sl : Nat) (x : Int64) : Int64 :=
  if iCh (acA T cp j sl) (T 8 sl) = true then (if acA T cp j sl = 3 ∨ acA T cp j sl = 2 then x &&& (cAt T sl ^^^ (-1)) else x &&& (cAt T sl ^^^ (-1)) ||| cAt T sl) else x
def efC (T : Nat → Nat → Int32) (cp : Int32) (j sl : Nat) (x : Int64) : Int64 :=
  if iCh (acA T cp j sl) (T 8 sl) = true then (if acA T cp j sl = 2 then x &&& (cAt T sl ^^^ (-1)) ||| cAt T sl else x &&& (cAt T sl ^^^ (-1))) else x
def efF (T : Nat → Nat → Int32) (cp : Int32) (j k : Nat) (x : Int32 × Int64 × Int64 × Int64) : Int32 × Int64 × Int64 × Int64 :=
  (efU T cp j (j * 3 + k) x.1, efA T cp j (j * 3 + k) x.2.1, efB T cp j (j * 3 + k) x.2.2.1, efC T cp j (j * 3 + k) x.2.2.2)
def efR (T : Nat → Nat → Int32) (sk cp : Int32) (j : Nat) : Int32 × Int64 × Int64 × Int64 := itF (efF T cp j) (nn (acO T sk j)) 0 (0, 0, 0, 0)
def seF (T : Nat → Nat → Int32) (sk : Int32) (j : Nat) : Int32 := if nI j = sk ∨ T 3 j = -1 then 0 else (1 : Int32) <<< (T 3 j &&& 31)
def stI (T : Nat → Nat → Int32) (n : Nat) (sk cp : Int32) : Nat → Nat → Int32 := fun k => match k with
  | 0 => nxF T n sk
  | 1 => jpF T n sk
  | 2 => fun j => (efR T sk cp j).1
  | _ => seF T sk
def stJ (T : Nat → Nat → Int32) (sk cp : Int32) : Nat → Nat → Int64 := fun k => match k with
  | 0 => fun j => (efR T sk cp j).2.1 ||| (efR T sk cp j).2.2.1 ||| (efR T sk cp j).2.2.2
  | 1 => fun j => (efR T sk cp j).2.1
  | 2 => fun j => (efR T sk cp j).2.2.1
  | _ => fun j => (efR T sk cp j).2.2.2
/-- what stands in the rows of what was told -/
def TI (T : Nat → Nat → Int32) (n : Nat) : Prop :=
  n ≤ 40 ∧ (∀ v, v < 6 → ∃ k, k < 4 ∧ T 0 v = nI k) ∧ (∀ j, j < n → ∃ k, k < 10 ∧ T 1 j = nI k) ∧
  (∀ j, j < n → iBr T j = true → ∃ k, k ≤ 40 ∧ T 2 j = nI k) ∧ (∀ j, j < n → T 3 j = -1 ∨ ∃ k, k < 6 ∧ T 3 j = nI k) ∧
  (∀ j, j < n → ∃ k, k ≤ 3 ∧ T 5 j = nI k ∧ ∀ i, i < k → (∃ a, a ≤ 4 ∧ T 6 (j * 3 + i) = nI a) ∧ (∃ v, v < 6 ∧ T 7 (j * 3 + i) = nI v ∧ (T 8 (j * 3 + i) = -1 ∨ ∃ q, q < 3 + (if T 0 v = 1 then 0 else 1) ∧ T 8 (j * 3 + i) = nI q)) ∧ (T 6 (j * 3 + i) = 2 → T 1 j = 1 ∨ T 1 j = 6 ∨ T 1 j = 9)) ∧
  (∀ j, j < n → T 1 j = 3 → T 8 (j * 3) = 3)
theorem TI.n40 {T : Nat → Nat → Int32} {n : Nat} (h : TI T n) : n ≤ 40 := h.1
theorem TI.tg {T : Nat → Nat → Int32} {n j : Nat} (h : TI T n) (hj : j < n) (hb : iBr T j = true) : T 2 j = nI (nn (T 2 j)) ∧ nn (T 2 j) < 41 := by
  obtain ⟨k, hk, e⟩ := h.2.2.2.1 j hj hb
  exact nn_of e (by omega) (by decide)
theorem TI.se {T : Nat → Nat → Int32} {n j : Nat} (h : TI T n) (hj : j < n) (hb : ¬ T 3 j = -1) : T 3 j = nI (nn (T 3 j)) ∧ nn (T 3 j) < 6 := by
  rcases h.2.2.2.2.1 j hj with e | ⟨k, hk, e⟩
  · exact absurd e hb
  · exact nn_of e hk (by decide)
theorem TI.ac {T : Nat → Nat → Int32} {n j : Nat} (h : TI T n) (hj : j < n) : T 5 j = nI (nn (T 5 j)) ∧ nn (T 5 j) < 4 := by
  obtain ⟨k, hk, e, -⟩ := h.2.2.2.2.2.1 j hj
  exact nn_of e (by omega) (by decide)
theorem TI.ak {T : Nat → Nat → Int32} {n j : Nat} (h : TI T n) (hj : j < n) (sk : Int32) : acO T sk j = nI (nn (acO T sk j)) ∧ nn (acO T sk j) < 4 := by
  unfold acO
  split
  · exact ⟨rfl, by decide⟩
  · exact h.ac hj
theorem TI.av {T : Nat → Nat → Int32} {n j i : Nat} {sk : Int32} (h : TI T n) (hj : j < n) (hi : i < nn (acO T sk j)) : T 7 (j * 3 + i) = nI (nn (T 7 (j * 3 + i))) ∧ nn (T 7 (j * 3 + i)) < 6 := by
  obtain ⟨k, hk, e, h2⟩ := h.2.2.2.2.2.1 j hj
  have hk2 : nn (T 5 j) = k := by rw [e]; exact nn_nI (by omega)
  have hi2 : i < k := by
    unfold acO at hi
    split at hi
    · exact absurd hi (Nat.not_lt_zero _)
    · omega
  obtain ⟨v, hv, ev, -⟩ := (h2 i hi2).2.1
  exact nn_of ev hv (by decide)

abbrev WS : Type := Int64 × (Nat → Int64) × (Nat → Int64) × (Nat → Int64) × (Nat → Nat → Int64)
def okS (n : Nat) (x : Int32) : Prop := x = -1 ∨ (x = nI (nn x) ∧ nn x < n)
def b1 (j : Nat) : Int64 := (1 : Int64) <<< ((nI j).toInt64 &&& 63)
def sO (U M G : Nat → Int64) (j : Nat) (x : Int64) : Int32 :=
  if U j &&& x = 0 then (if M j &&& x = 0 then (if G j &&& x = 0 then 0 else 4) else (if G j &&& x = 0 then 2 else 6))
  else (if M j &&& x = 0 then (if G j &&& x = 0 then 1 else 5) else (if G j &&& x = 0 then 3 else 7))
def lsB (T : Nat → Nat → Int32) (Hd : Nat → Nat → Int64) (j s : Nat) (x : Int64) : Int64 := if bI (T 4 j).toInt64 (nI s) = true then x ||| Hd j s else x
def lsF (T : Nat → Nat → Int32) (n : Nat) (Hd : Nat → Nat → Int64) (j v : Nat) : Int64 :=
  if iL T v = true then itF (lsB T Hd j) 6 0 (if iML T n j = true then b1 j else 0) else 0
def adB (x more : Int64) : Bool := decide (¬ x ||| more = x)
def arH (hb : Nat → Int64) (to v : Nat) (x : (Nat → Nat → Int64) × Bool) : (Nat → Nat → Int64) × Bool := (up2 x.1 to v (x.1 to v ||| hb v), x.2 || adB (x.1 to v) (hb v))
def arM (Sj : Nat → Nat → Int64) (k from_ : Nat) (U : Nat → Int64) : Int64 := Sj k from_ ||| U from_ &&& (Sj 0 from_ ^^^ (-1))
def arF (Sj : Nat → Nat → Int64) (hb : Nat → Int64) (from_ to : Nat) (w : WS) : WS × Bool :=
  let h := itF (arH hb to) 6 0 (w.2.2.2.2, ((adB w.1 (b1 to) || adB (w.2.1 to) (arM Sj 1 from_ w.2.1)) || adB (w.2.2.1 to) (arM Sj 2 from_ w.2.2.1)) || adB (w.2.2.2.1 to) (arM Sj 3 from_ w.2.2.2.1))
  ((w.1 ||| b1 to, vp_updL w.2.1 to (w.2.1 to ||| arM Sj 1 from_ w.2.1), vp_updL w.2.2.1 to (w.2.2.1 to ||| arM Sj 2 from_ w.2.2.1), vp_updL w.2.2.2.1 to (w.2.2.2.1 to ||| arM Sj 3 from_ w.2.2.2.1), h.1), h.2)
def arO (Sj : Nat → Nat → Int64) (hb : Nat → Int64) (from_ : Nat) (to : Int32) (w : WS) : WS × Bool := if to = -1 then (w, false) else arF Sj hb from_ (nn to) w
theorem arO_no {Sj : Nat → Nat → Int64} {fb : Nat → Int64} {j : Nat} {tt : Int32} {w : WS} (h : tt = -1) : arO Sj fb j tt w = (w, false) := if_pos h
theorem arO_eq {Sj : Nat → Nat → Int64} {fb : Nat → Int64} {j : Nat} {tt : Int32} {rr : Int64} {U M G : Nat → Int64} {Hd H1 : Nat → Nat → Int64} {b : Bool} (h : ¬ tt = -1)
    (hf : itF (arH fb (nn tt)) 6 0 (Hd, ((adB rr (b1 (nn tt)) || adB (U (nn tt)) (arM Sj 1 j U)) || adB (M (nn tt)) (arM Sj 2 j M)) || adB (G (nn tt)) (arM Sj 3 j G)) = (H1, b)) :
    arO Sj fb j tt (rr, U, M, G, Hd) = ((rr ||| b1 (nn tt), vp_updL U (nn tt) (U (nn tt) ||| arM Sj 1 j U), vp_updL M (nn tt) (M (nn tt) ||| arM Sj 2 j M), vp_updL G (nn tt) (G (nn tt) ||| arM Sj 3 j G), H1), b) := by
  unfold arO; rw [if_neg h]; unfold arF; simp only [hf]
def hbF (T : Nat → Nat → Int32) (n : Nat) (Si : Nat → Nat → Int32) (Hd : Nat → Nat → Int64) (j v : Nat) : Int64 := if bI (Si 3 j).toInt64 (nI v) = true then lsF T n Hd j v else Hd j v
def ps1 (T : Nat → Nat → Int32) (n : Nat) (Si : Nat → Nat → Int32) (Sj : Nat → Nat → Int64) (j : Nat) (w : WS) : WS × Bool := arO Sj (hbF T n Si w.2.2.2.2 j) j (Si 0 j) w
def ps2 (T : Nat → Nat → Int32) (n : Nat) (Si : Nat → Nat → Int32) (Sj : Nat → Nat → Int64) (j : Nat) (w : WS) : WS × Bool := arO Sj (hbF T n Si w.2.2.2.2 j) j (Si 1 j) (ps1 T n Si Sj j w).1
def psF (T : Nat → Nat → Int32) (n : Nat) (Si : Nat → Nat → Int32) (Sj : Nat → Nat → Int64) (j : Nat) (w : WS) : WS × Bool := ((ps2 T n Si Sj j w).1, (ps2 T n Si Sj j w).2 || (ps1 T n Si Sj j w).2)
def raF (T : Nat → Nat → Int32) (n : Nat) (Si : Nat → Nat → Int32) (Sj : Nat → Nat → Int64) (j : Nat) (x : WS × Bool) : WS × Bool :=
  if bI x.1.1 (nI j) = true then (if (psF T n Si Sj j x.1).2 = true then ((psF T n Si Sj j x.1).1, true) else ((psF T n Si Sj j x.1).1, x.2)) else x
def rdF (T : Nat → Nat → Int32) (n : Nat) (Si : Nat → Nat → Int32) (Sj : Nat → Nat → Int64) (w : WS) : WS × Bool := itF (raF T n Si Sj) n 0 (w, false)
def faF (T : Nat → Nat → Int32) (n : Nat) (Si : Nat → Nat → Int32) (Sj : Nat → Nat → Int64) (w : WS) : WS := fxr (rdF T n Si Sj) 1000000 w true

/-- awaiting: one STATEMENT looked at -/
def awA (n : Nat) (aw : Nat → Int32) (x : Int32) : Int32 := if x = -1 then 0 else aw (nn x)
def awN (n : Nat) (Si : Nat → Nat → Int32) (j : Nat) (aw : Nat → Int32) : Int32 := Si 2 j ||| (awA n aw (Si 0 j) ||| awA n aw (Si 1 j)) &&& (Si 3 j ^^^ (-1))
def awB (n : Nat) (Si : Nat → Nat → Int32) (rr : Int64) (k : Nat) (x : (Nat → Int32) × Bool) : (Nat → Int32) × Bool :=
  if bI rr (nI (n - (k + 1))) = true then (upd x.1 (n - (k + 1)) (awN n Si (n - (k + 1)) x.1), (if awN n Si (n - (k + 1)) x.1 = x.1 (n - (k + 1)) then x.2 else true)) else x
def awR (n : Nat) (Si : Nat → Nat → Int32) (rr : Int64) (aw : Nat → Int32) : (Nat → Int32) × Bool := itF (awB n Si rr) n 0 (aw, false)
def awF (n : Nat) (Si : Nat → Nat → Int32) (rr : Int64) (aw : Nat → Int32) : Nat → Int32 := fxr (awR n Si rr) 1000000 aw true

def lvB (aw : Nat → Int32) (Hd : Nat → Nat → Int64) (j v : Nat) (x : Int64) : Int64 := if bI (aw j).toInt64 (nI v) = true then x ||| Hd j v else x
def lvO (aw : Nat → Int32) (Hd : Nat → Nat → Int64) (j : Nat) : Int64 := itF (lvB aw Hd j) 6 0 0
theorem lv_st (j : Nat) (g : Nat → Int64) : vp_updL (fil j g (fun _ => 0)) j 0 = fil j g (fun _ => 0) := by
  funext i
  by_cases e : i = j
  · subst e; simp [vp_updL, fil]
  · simp [vp_updL, e]
theorem lv_n (n : Nat) (f g h : Nat → Int64) : fil n (fil n f g) h = fil n f h := by
  funext i
  by_cases e : i < n <;> simp [fil, e]
