/-! what the law asks for -/
def liB (T : Nat → Nat → Int32) (n : Nat) (Hd : Nat → Nat → Int64) (aw : Nat → Int32) (j lo v : Nat) (e : Bool) : Bool := e || ((iML T n lo && bI (Hd j v) (nI lo)) && bt (aw j) v)
def hlP (T : Nat → Nat → Int32) (n : Nat) (Hd : Nat → Nat → Int64) (j v lo : Nat) : Bool := iML T n lo && bI (Hd j v) (nI lo)
def atF (sS : Nat → Int32) (cc j : Nat) : Nat := ctF (fun k => decide (nn (sS k) / 3 = j)) cc
def srR (g : Nat → Nat) (n : Nat) : Nat → Nat
  | 0 => 0
  | d + 1 => g (n - (d + 1)) + srR g n d
def srF (g : Nat → Nat) (n j : Nat) : Nat := srR g n (n - j)
theorem srF_step {g : Nat → Nat} {n j : Nat} (h : j < n) : srF g n j = g j + srF g n (j + 1) := by
  unfold srF
  rw [show n - j = (n - (j + 1)) + 1 by omega]
  show g (n - (n - (j + 1) + 1)) + srR g n (n - (j + 1)) = _
  rw [show n - (n - (j + 1) + 1) = j by omega]
theorem srF_end {g : Nat → Nat} {n j : Nat} (h : n ≤ j) : srF g n j = 0 := by
  unfold srF; rw [show n - j = 0 by omega]; rfl
/-- the ways a fault can be -/
def FC (T : Nat → Nat → Int32) (n : Nat) (Si : Nat → Nat → Int32) (Sj : Nat → Nat → Int64) (rr : Int64) (U M G : Nat → Int64) (Hd : Nat → Nat → Int64) (aw : Nat → Int32) (lv : Nat → Int64) (sS sC sR : Nat → Int32) (f : Nat) : Prop :=
  nn (sS f) / 3 < n ∧ T 7 (nn (sS f)) = nI (nn (T 7 (nn (sS f)))) ∧ nn (T 7 (nn (sS f))) < 6 ∧
  ((sC f = 1 ∧ rsO T n Si Sj rr sS sC sR f = -1 ∧ hdO aw Hd sS sC sR f = -1 ∧ nxO n Si aw Hd sS sC sR f = -1 ∧ ¬ sO U M G (nn (sS f) / 3) (cO T (nn (T 7 (nn (sS f)))) (-1)) &&& 1 = 0) ∨
   (∃ mv, mv < 128 ∧ sC f = 2 ∧ rsO T n Si Sj rr sS sC sR f = nI mv ∧ hdO aw Hd sS sC sR f = -1 ∧ nxO n Si aw Hd sS sC sR f = -1 ∧ ¬ sO U M G (nn (sS f) / 3) (cO T (nn (T 7 (nn (sS f)))) (-1)) &&& 4 = 0) ∨
   (∃ cd9 lo h nx, 3 ≤ cd9 ∧ cd9 ≤ 5 ∧ lo < n ∧ h < 6 ∧ nx < n ∧ sC f = nI cd9 ∧ rsO T n Si Sj rr sS sC sR f = nI lo ∧ hdO aw Hd sS sC sR f = nI h ∧ nxO n Si aw Hd sS sC sR f = nI nx ∧
     (iML T n lo && bI (lv (nn (sS f) / 3)) (nI lo)) = true ∧ (iML T n lo && bI (Hd (nn (sS f) / 3) h) (nI lo)) = true ∧ bt (aw (nn (sS f) / 3)) h = true ∧ bI rr (nI nx) = true ∧ bt (aw nx) h = true) ∨
   (∃ lo, lo < n ∧ sC f = 6 ∧ rsO T n Si Sj rr sS sC sR f = nI lo ∧ hdO aw Hd sS sC sR f = -1 ∧ nxO n Si aw Hd sS sC sR f = -1 ∧ T 1 (nn (sS f) / 3) = 9 ∧ (iML T n lo && bI (Hd (nn (sS f) / 3) (nn (T 7 (nn (sS f))))) (nI lo)) = true ∧ T 1 lo = 2))
/-- all of it -/
def LF (T : Nat → Nat → Int32) (n : Nat) (po oc : Int64) (Si : Nat → Nat → Int32) (Sj : Nat → Nat → Int64) (rr : Int64) (U M G : Nat → Int64) (Hd : Nat → Nat → Int64) (aw : Nat → Int32) (lv : Nat → Int64) (cc : Nat) (sS sC sR : Nat → Int32) : Prop :=
  (1 ≤ n ∧ n ≤ 20) ∧ TI T n ∧ (∀ i, i < n → okS n (Si 0 i) ∧ okS n (Si 1 i)) ∧ (NI T n cc sS ∧ cc ≤ 240) ∧
  (∀ j, j < n → bI rr (nI j) = false → aw j = 0 ∧ atF sS cc j = 0 ∧ ∀ v, v < 6 → sO U M G j (cO T v (-1)) = 0 ∧ ctF (hlP T n Hd j v) n = 0) ∧
  (∀ j, j < n → bI rr (nI j) = true → ∀ v, v < 6 → ∃ k, 1 ≤ k ∧ k ≤ 7 ∧ sO U M G j (cO T v (-1)) = nI k) ∧
  (∀ j v, j < n → v < 6 → bcF (Hd j v) = nI (ctF (hlP T n Hd j v) n) ∧ (T 0 v < 2 → ctF (hlP T n Hd j v) n = 0)) ∧
  (∀ j lo, j < n → lo < n → (iML T n lo && bI (lv j) (nI lo)) = itF (liB T n Hd aw j lo) 6 0 false) ∧
  bI rr (nI 0) = true ∧ bcF rr = nI (ctF (fun j => bI rr (nI j)) n) ∧
  (∀ k, k + 1 < cc → nn (sS k) / 3 ≤ nn (sS (k + 1)) / 3) ∧
  (∀ f, f < cc → FC T n Si Sj rr U M G Hd aw lv sS sC sR f) ∧
  (ctF (fun k => decide (sC k = 1)) cc + ctF (fun k => decide (sC k = 2)) cc + ctF (fun k => decide (sC k = 3)) cc + ctF (fun k => decide (sC k = 4)) cc + ctF (fun k => decide (sC k = 5)) cc + ctF (fun k => decide (sC k = 6)) cc = srF (atF sS cc) n 0 ∧ srF (atF sS cc) n 0 = cc) ∧
  (∀ j, j < n → ¬ T 1 j = 1 → ¬ T 1 j = 6 → ¬ T 1 j = 9 → wcO T n (-1) (nI j) po oc = cc)
theorem cj4 (T : Nat → Nat → Int32) (rr : Int64) (j : Nat) : bI rr (nI j) = false ∨ (bI rr (nI j) = true ∧ T 1 j = 2) ∨ (bI rr (nI j) = true ∧ T 1 j = 3) ∨ (bI rr (nI j) = true ∧ ¬ T 1 j = 2 ∧ ¬ T 1 j = 3) := by
  cases h : bI rr (nI j) with
  | false => exact Or.inl rfl
  | true =>
    by_cases h2 : T 1 j = 2
    · exact Or.inr (Or.inl ⟨rfl, h2⟩)
    · by_cases h3 : T 1 j = 3
      · exact Or.inr (Or.inr (Or.inl ⟨rfl, h3⟩))
      · exact Or.inr (Or.inr (Or.inr ⟨rfl, h2, h3⟩))
theorem ctB_t {p : Nat → Bool} {k c : Nat} (h : p k = true) : ctB p k c = c + 1 := if_pos h
theorem ctB_f {p : Nat → Bool} {k c : Nat} (h : p k = false) : ctB p k c = c := if_neg (bnt h)
theorem iML_2 {T : Nat → Nat → Int32} {n j : Nat} (hj : j < n) (h : T 1 j = 2) : iML T n j = true := decide_eq_true ⟨hj, Or.inl h⟩
theorem iML_3 {T : Nat → Nat → Int32} {n j : Nat} (hj : j < n) (h : T 1 j = 3) : iML T n j = true := decide_eq_true ⟨hj, Or.inr h⟩
theorem iML_n {T : Nat → Nat → Int32} {n j : Nat} (h : ¬ T 1 j = 2) (h3 : ¬ T 1 j = 3) : iML T n j = false := decide_eq_false (fun q => q.2.elim h h3)
theorem rgO_no {T : Nat → Nat → Int32} {n : Nat} {rr : Int64} {lv : Nat → Int64} {j : Nat} (h : iML T n j = false ∨ bI rr (nI j) = false) : rgO T n rr lv j = -1 := by
  unfold rgO
  rcases h with h | h
  · rw [if_neg (bnt h)]
  · rw [if_neg (bnt h), ite_self]
theorem mmin9 {w le : Nat} (hw : w < 2 ^ 31) (hl : le < 2 ^ 31) : (if nI w < nI le then nI w else nI le) = nI (min le w) := by
  by_cases h : w < le
  · rw [if_pos ((nI_ltI hw hl).mpr h), Nat.min_eq_right (by omega)]
  · rw [if_neg (fun h9 => h ((nI_ltI hw hl).mp h9)), Nat.min_eq_left (by omega)]
theorem cu_spec (w : Nat → Nat) (n cc : Nat) : (cuF w n cc = -1 ∧ ∀ i, i < n → cc ≤ w i) ∨ ∃ i, i < n ∧ cuF w n cc = nI i ∧ w i < cc ∧ ∀ k, k < n → w i ≤ w k := by
  have := itF_inv0 (σ := Nat × Int32) (f := cuB w) (n := n) (fun k y => (y.2 = -1 ∧ y.1 = cc ∧ ∀ i, i < k → cc ≤ w i) ∨ ∃ i, i < k ∧ y.2 = nI i ∧ y.1 = w i ∧ w i < cc ∧ ∀ q, q < k → w i ≤ w q) (x := (cc, -1)) (Or.inl ⟨rfl, rfl, fun i hi => absurd hi (Nat.not_lt_zero i)⟩) (fun k hk y hy => by
    unfold cuB
    rcases hy with ⟨h1, h2, h3⟩ | ⟨i, h1, h2, h3, h4, h5⟩
    · by_cases h : w k < y.1
      · rw [if_pos h]
        refine Or.inr ⟨k, by omega, rfl, rfl, by omega, fun q hq => ?_⟩
        by_cases e : q = k
        · rw [e]; exact Nat.le_refl _
        · have := h3 q (by omega); omega
      · rw [if_neg h]
        refine Or.inl ⟨h1, h2, fun q hq => ?_⟩
        by_cases e : q = k
        · rw [e]; omega
        · exact h3 q (by omega)
    · by_cases h : w k < y.1
      · rw [if_pos h]
        refine Or.inr ⟨k, by omega, rfl, rfl, by omega, fun q hq => ?_⟩
        by_cases e : q = k
        · rw [e]; exact Nat.le_refl _
        · have := h5 q (by omega); omega
      · rw [if_neg h]
        refine Or.inr ⟨i, by omega, h2, h3, h4, fun q hq => ?_⟩
        by_cases e : q = k
        · rw [e]; omega
        · exact h5 q (by omega))
  rcases this with ⟨h1, h2, h3⟩ | ⟨i, h1, h2, h3, h4, h5⟩
  · exact Or.inl ⟨h1, h3⟩
  · exact Or.inr ⟨i, h1, h2, h4, h5⟩
theorem mm_ex (y : Int32) : ∃ mm, 3 ≤ mm ∧ mm ≤ 20 ∧ nI (3 + bwO y 18) = nI mm := ⟨3 + bwO y 18, by omega, by have := bwO_lt (v := y) (d := 18) (by decide); omega, rfl⟩
/-! sums -/
theorem srF_add (f g : Nat → Nat) (n : Nat) : ∀ d j, n - j = d → srF (fun i => f i + g i) n j = srF f n j + srF g n j := by
  intro d
  induction d with
  | zero => intro j hd; rw [srF_end (by omega), srF_end (by omega), srF_end (by omega)]
  | succ d ih =>
    intro j hd
    rw [srF_step (g := fun i => f i + g i) (by omega), srF_step (g := f) (by omega), srF_step (g := g) (by omega), ih (j + 1) (by omega)]
    omega
theorem srF_one (i0 n : Nat) : ∀ d j, n - j = d → srF (fun i => if i0 = i then 1 else 0) n j = if j ≤ i0 ∧ i0 < n then 1 else 0 := by
  intro d
  induction d with
  | zero => intro j hd; rw [srF_end (by omega), if_neg (by omega)]
  | succ d ih =>
    intro j hd
    rw [srF_step (by omega), ih (j + 1) (by omega)]
    by_cases e : i0 = j
    · rw [if_pos e, if_neg (by omega), if_pos (by omega)]
    · rw [if_neg e]
      by_cases h : j + 1 ≤ i0 ∧ i0 < n
      · rw [if_pos h, if_pos (by omega)]
      · rw [if_neg h, if_neg (by omega)]
theorem srF_cong {f g : Nat → Nat} {n : Nat} (h : ∀ i, f i = g i) (j : Nat) : srF f n j = srF g n j := by rw [show f = g from funext h]
theorem at_sum (sS : Nat → Int32) (n : Nat) : ∀ cc, (∀ k, k < cc → nn (sS k) / 3 < n) → srF (atF sS cc) n 0 = cc := by
  intro cc
  induction cc with
  | zero =>
    intro _
    have : ∀ d j, n - j = d → srF (atF sS 0) n j = 0 := by
      intro d
      induction d with
      | zero => intro j hd; exact srF_end (by omega)
      | succ d ih =>
        intro j hd
        rw [srF_step (by omega), ih (j + 1) (by omega)]
        exact ctF_0 (fun k => decide (nn (sS k) / 3 = j))
    exact this n 0 (by omega)
  | succ cc ih =>
    intro h
    rw [srF_cong (g := fun i => atF sS cc i + (if nn (sS cc) / 3 = i then 1 else 0)) (fun i => by
      unfold atF
      rw [ctF_suc]
      by_cases e : nn (sS cc) / 3 = i
      · rw [if_pos (decide_eq_true e), if_pos e]
      · rw [if_neg (bnt (decide_eq_false e)), if_neg e]), srF_add _ _ n n 0 (by omega), ih (fun k hk => h k (by omega)), srF_one _ n n 0 (by omega), if_pos ⟨Nat.zero_le _, h cc (by omega)⟩]
theorem code_sum (sC : Nat → Int32) : ∀ cc, (∀ k, k < cc → sC k = 1 ∨ sC k = 2 ∨ sC k = 3 ∨ sC k = 4 ∨ sC k = 5 ∨ sC k = 6) →
    ctF (fun k => decide (sC k = 1)) cc + ctF (fun k => decide (sC k = 2)) cc + ctF (fun k => decide (sC k = 3)) cc + ctF (fun k => decide (sC k = 4)) cc + ctF (fun k => decide (sC k = 5)) cc + ctF (fun k => decide (sC k = 6)) cc = cc := by
  intro cc
  induction cc with
  | zero => intro _; simp only [ctF_0]
  | succ cc ih =>
    intro h
    have i9 := ih (fun k hk => h k (by omega))
    simp only [ctF_suc]
    have d1 : ∀ a b : Int32, (if decide (a = b) = true then 1 else 0) = if a = b then 1 else 0 := fun a b => by
      by_cases e : a = b
      · rw [if_pos (decide_eq_true e), if_pos e]
      · rw [if_neg (bnt (decide_eq_false e)), if_neg e]
    have key : (if decide (sC cc = 1) = true then 1 else 0) + (if decide (sC cc = 2) = true then 1 else 0) + (if decide (sC cc = 3) = true then 1 else 0) + (if decide (sC cc = 4) = true then 1 else 0) + (if decide (sC cc = 5) = true then 1 else 0) + (if decide (sC cc = 6) = true then 1 else 0) = 1 := by
      rcases h cc (by omega) with e | e | e | e | e | e <;> rw [e] <;> rfl
    omega
theorem n30 : ∀ k, k < 40 → ¬ nI k = -1 := fun k hk => nI_m1 (by omega)
/-! another reading of the same, if nothing is moved -/
section CP
variable {T : Nat → Nat → Int32} {n : Nat}
theorem act_mv {j i : Nat} (hT : TI T n) (hj : j < n) (h1 : ¬ T 1 j = 1) (h6 : ¬ T 1 j = 6) (h9 : ¬ T 1 j = 9) {sk : Int32} (hi : i < nn (acO T sk j)) : ¬ T 6 (j * 3 + i) = 2 := by
  obtain ⟨k, hk, e, h2⟩ := hT.2.2.2.2.2.1 j hj
  have hk2 : nn (T 5 j) = k := by rw [e]; exact nn_nI (by omega)
  have hi2 : i < k := by
    unfold acO at hi
    split at hi
    · exact absurd hi (Nat.not_lt_zero _)
    · omega
  intro h
  rcases (h2 i hi2).2.2 h with q | q | q
  · exact h1 q
  · exact h6 q
  · exact h9 q
theorem acA_cp {j i q : Nat} (hT : TI T n) (hj : j < n) (hq9 : q < n) (h1 : ¬ T 1 q = 1) (h6 : ¬ T 1 q = 6) (h9 : ¬ T 1 q = 9) {sk : Int32} (hi : i < nn (acO T sk j)) : acA T (nI q) j (j * 3 + i) = acA T (-1) j (j * 3 + i) := by
  have hn := hT.n40
  unfold acA
  rw [if_neg (fun h : T 6 (j * 3 + i) = 2 ∧ nI j = -1 => nI_m1 (by omega) h.2)]
  by_cases e : T 6 (j * 3 + i) = 2 ∧ nI j = nI q
  · exfalso
    have : j = q := (nI_eq (by omega) (by omega)).mp e.2
    subst this
    exact act_mv hT hj h1 h6 h9 hi e.1
  · rw [if_neg e]
theorem efR_cp {j q : Nat} (hT : TI T n) (hj : j < n) (hq9 : q < n) (h1 : ¬ T 1 q = 1) (h6 : ¬ T 1 q = 6) (h9 : ¬ T 1 q = 9) (sk : Int32) : efR T sk (nI q) j = efR T sk (-1) j := by
  unfold efR
  refine itF_cong (fun k hk y => ?_)
  unfold efF efU efA efB efC
  rw [acA_cp hT hj hq9 h1 h6 h9 hk]
theorem pass_cg {Si Si' : Nat → Nat → Int32} {Sj Sj' : Nat → Nat → Int64} {j : Nat} (hi : ∀ k, k < 4 → Si k j = Si' k j) (hj : ∀ k, k < 4 → Sj k j = Sj' k j) (w : WS) : psF T n Si Sj j w = psF T n Si' Sj' j w := by
  have e0 : ∀ (fb : Nat → Int64) (to : Nat) (w : WS), arF Sj fb j to w = arF Sj' fb j to w := fun fb to w => by
    unfold arF arM
    rw [hj 0 (by decide), hj 1 (by decide), hj 2 (by decide), hj 3 (by decide)]
  have e1 : ∀ (fb : Nat → Int64) (x : Int32) (w : WS), arO Sj fb j x w = arO Sj' fb j x w := fun fb x w => by
    unfold arO; rw [e0]
  have e2 : ∀ H : Nat → Nat → Int64, hbF T n Si H j = hbF T n Si' H j := fun H => by
    funext v; unfold hbF; rw [hi 3 (by decide)]
  unfold psF ps2 ps1
  rw [e2, hi 0 (by decide), hi 1 (by decide), e1, e1]
theorem fa_cg {Si Si' : Nat → Nat → Int32} {Sj Sj' : Nat → Nat → Int64} (hi : ∀ j, j < n → ∀ k, k < 4 → Si k j = Si' k j) (hj : ∀ j, j < n → ∀ k, k < 4 → Sj k j = Sj' k j) (w : WS) : faF T n Si Sj w = faF T n Si' Sj' w := by
  have : rdF T n Si Sj = rdF T n Si' Sj' := by
    funext w
    unfold rdF
    refine itF_cong (fun k hk y => ?_)
    unfold raF
    rw [pass_cg (hi k hk) (hj k hk)]
  unfold faF; rw [this]
theorem aw_cg {Si Si' : Nat → Nat → Int32} (hi : ∀ j, j < n → ∀ k, k < 4 → Si k j = Si' k j) (rr : Int64) (aw : Nat → Int32) : awF n Si rr aw = awF n Si' rr aw := by
  have : awR n Si rr = awR n Si' rr := by
    funext a
    unfold awR
    refine itF_cong (fun k hk y => ?_)
    unfold awB awN
    rw [hi _ (by omega) 0 (by decide), hi _ (by omega) 1 (by decide), hi _ (by omega) 2 (by decide), hi _ (by omega) 3 (by decide)]
  unfold awF; rw [this]
theorem ncF_N {U M G : Nat → Int64} {N N' sl : Nat} {a : Int32} {x y : NS} (h : x.1 = y.1) : (ncF T U M G N sl a x).1 = (ncF T U M G N' sl a y).1 := by
  unfold ncF; repeat' split
  all_goals simp only [ntF_1, h]
theorem nlF_N {lv : Nat → Int64} {N N' sl : Nat} {a : Int32} {x y : NS} (h : x.1 = y.1) : (nlF T n lv N sl a x).1 = (nlF T n lv N' sl a y).1 := by
  unfold nlF; repeat' split
  all_goals simp only [ntF_1, h]
theorem neF_N {Hd : Nat → Nat → Int64} {N N' sl : Nat} {x y : NS} (h : x.1 = y.1) : (neF T n Hd N sl x).1 = (neF T n Hd N' sl y).1 := by
  unfold neF; repeat' split
  all_goals simp only [ntF_1, h]
/-- a copy of what isn't moved leaves the same faults -/
theorem copy_same {q N : Nat} (hT : TI T n) (hq9 : q < n) (h1 : ¬ T 1 q = 1) (h6 : ¬ T 1 q = 6) (h9 : ¬ T 1 q = 9) (po oc : Int64) (x : NS) : wcO T n (-1) (nI q) po oc = (RN T n (-1) (-1) po oc N x).1 := by
  have hi : ∀ j, j < n → ∀ k, k < 4 → stI T n (-1) (nI q) k j = stI T n (-1) (-1) k j := by
    intro j hj k hk
    rcases (show k = 0 ∨ k = 1 ∨ k = 2 ∨ k = 3 by omega) with rfl | rfl | rfl | rfl
    · rfl
    · rfl
    · show (efR T (-1) (nI q) j).1 = (efR T (-1) (-1) j).1
      rw [efR_cp hT hj hq9 h1 h6 h9]
    · rfl
  have hj : ∀ j, j < n → ∀ k, k < 4 → stJ T (-1) (nI q) k j = stJ T (-1) (-1) k j := by
    intro j hj k hk
    rcases (show k = 0 ∨ k = 1 ∨ k = 2 ∨ k = 3 by omega) with rfl | rfl | rfl | rfl
    · show (efR T (-1) (nI q) j).2.1 ||| (efR T (-1) (nI q) j).2.2.1 ||| (efR T (-1) (nI q) j).2.2.2 = _
      rw [efR_cp hT hj hq9 h1 h6 h9]; rfl
    · show (efR T (-1) (nI q) j).2.1 = _
      rw [efR_cp hT hj hq9 h1 h6 h9]; rfl
    · show (efR T (-1) (nI q) j).2.2.1 = _
      rw [efR_cp hT hj hq9 h1 h6 h9]; rfl
    · show (efR T (-1) (nI q) j).2.2.2 = _
      rw [efR_cp hT hj hq9 h1 h6 h9]; rfl
  have eW : RW T n (-1) (nI q) po oc = RW T n (-1) (-1) po oc := fa_cg hi hj _
  have eA : RA T n (-1) (nI q) po oc = RA T n (-1) (-1) po oc := by
    unfold RA; rw [eW]; exact aw_cg hi _ _
  have eL : RLv T n (-1) (nI q) po oc = RLv T n (-1) (-1) po oc := by
    unfold RLv; rw [eW, eA]
  unfold wcO RN
  rw [eW, eL]
  unfold naF
  refine itF_two (fun a b : NS => a.1 = b.1) (fun j hj a b h => ?_) n 0 _ _ (by omega) rfl
  unfold naJ
  have h9' : ∀ (d i : Nat) (a b : NS), nn (acO T (-1) j) - i = d → a.1 = b.1 → (itF (naS T n (nI q) (RW T n (-1) (-1) po oc).2.1 (RW T n (-1) (-1) po oc).2.2.1 (RW T n (-1) (-1) po oc).2.2.2.1 (RW T n (-1) (-1) po oc).2.2.2.2 (RLv T n (-1) (-1) po oc) 0 j) (nn (acO T (-1) j)) i a).1 = (itF (naS T n (-1) (RW T n (-1) (-1) po oc).2.1 (RW T n (-1) (-1) po oc).2.2.1 (RW T n (-1) (-1) po oc).2.2.2.1 (RW T n (-1) (-1) po oc).2.2.2.2 (RLv T n (-1) (-1) po oc) N j) (nn (acO T (-1) j)) i b).1 :=
    itF_two (fun a b : NS => a.1 = b.1) (fun k hk a b h => by
      unfold naS
      rw [acA_cp hT hj hq9 h1 h6 h9 hk]
      exact neF_N (nlF_N (ncF_N h)))
  by_cases hr : bI (RW T n (-1) (-1) po oc).1 (nI j) = true
  · rw [if_pos hr]
    exact h9' _ 0 a b rfl h
  · rw [if_neg hr, itF_ge (Nat.le_refl _), itF_ge (Nat.le_refl _)]; exact h
end CP
/-! .. of what a look finds -/
section FT
variable {T : Nat → Nat → Int32} {n : Nat} {po oc : Int64}
theorem stJ_or (sk cp : Int32) (j : Nat) : stJ T sk cp 0 j = stJ T sk cp 1 j ||| stJ T sk cp 2 j ||| stJ T sk cp 3 j := rfl
theorem Q1_init (hn : 1 ≤ n) : Q1 T n (po ||| oc) (1, vp_updL (fun _ => 0) 0 oc, vp_updL (fun _ => 0) 0 po, (fun _ => 0), (fun _ _ => 0)) := by
  refine ⟨fun i hi => ?_, ?_, fun j hj hr c hc => ?_, fun j hj hr => ?_, fun j v hj hv => okH_0⟩
  · have : i = 0 := by
      have h9 : hq (b1 0) i = true := hi
      rw [hq_b1 (by decide)] at h9; exact of_decide_eq_true h9
    omega
  · show hq (b1 0) 0 = true
    rw [hq_b1 (by decide)]; rfl
  · have h9 : hq (b1 0) j = true := hr
    rw [hq_b1 (by decide)] at h9
    have : j = 0 := of_decide_eq_true h9
    subst this
    show (hq (vp_updL (fun _ => 0) 0 oc 0) c || hq (vp_updL (fun _ => 0) 0 po 0) c || hq 0 c) = true
    rw [vpl_same, vpl_same]
    rw [hq_or, Bool.or_eq_true] at hc
    rcases hc with hc | hc <;> rw [hc] <;> simp
  · have hj0 : ¬ j = 0 := fun e => by
      subst e
      have h9 : hq (b1 0) 0 = false := hr
      rw [hq_b1 (by decide)] at h9; exact absurd h9 (by decide)
    exact ⟨vpl_ne (fun _ => 0) oc hj0, vpl_ne (fun _ => 0) po hj0, rfl, fun v hv => rfl⟩
theorem RW_Q1 (hT : TI T n) (hn : 1 ≤ n) : Q1 T n (po ||| oc) (RW T n (-1) (-1) po oc) := by
  unfold RW
  exact fa_inv _ (Q1_fa hT.n40 (stI_ok hT _ _) (fun j _ => stJ_or _ _ j)) (Q1_init hn)
theorem RW_Q4 (hT : TI T n) (c : Nat) (A : Nat → Prop) (hA : ∀ e, e < n → ∀ to, goes n (stI T n (-1) (-1)) e to → A to → hq (stJ T (-1) (-1) 0 e) c = false → A e) : Q4 n (stI T n (-1) (-1)) (stJ T (-1) (-1)) c A (RW T n (-1) (-1) po oc) := by
  unfold RW
  exact fa_inv _ (Q4_fa hT.n40 (stI_ok hT _ _) hA) (fun j _ _ h => by rw [show hq ((fun _ => (0 : Int64)) j) c = false from hq_0 c] at h; exact absurd h (by decide))
theorem RW_Cl (hT : TI T n) (hn : 1 ≤ n) : ClR n (stI T n (-1) (-1)) (RW T n (-1) (-1) po oc).1 := by
  unfold RW
  exact fa_ClR (x0 := po ||| oc) hT.n40 (stI_ok hT _ _) (fun j _ => stJ_or _ _ j) (Q1_init hn)
theorem lvO_hq {aw : Nat → Int32} {Hd : Nat → Nat → Int64} {j i : Nat} : hq (lvO aw Hd j) i = true ↔ ∃ v, v < 6 ∧ bt (aw j) v = true ∧ hq (Hd j v) i = true := by
  have := itF_inv0 (σ := Int64) (f := lvB aw Hd j) (n := 6) (fun k y => hq y i = true ↔ ∃ v, v < k ∧ bt (aw j) v = true ∧ hq (Hd j v) i = true) (x := 0) ⟨fun h => by rw [hq_0] at h; exact absurd h (by decide), fun ⟨v, h, _⟩ => absurd h (Nat.not_lt_zero v)⟩ (fun k hk y hy => by
    unfold lvB
    rw [bI_bt (by omega)]
    split
    · next hb =>
      rw [hq_or, Bool.or_eq_true, hy]
      constructor
      · rintro (⟨v, h1, h2, h3⟩ | h)
        · exact ⟨v, by omega, h2, h3⟩
        · exact ⟨k, by omega, hb, h⟩
      · rintro ⟨v, h1, h2, h3⟩
        by_cases e : v = k
        · subst e; exact Or.inr h3
        · exact Or.inl ⟨v, by omega, h2, h3⟩
    · next hb =>
      rw [hy]
      constructor
      · rintro ⟨v, h1, h2, h3⟩
        exact ⟨v, by omega, h2, h3⟩
      · rintro ⟨v, h1, h2, h3⟩
        by_cases e : v = k
        · subst e; exact absurd h2 hb
        · exact ⟨v, by omega, h2, h3⟩)
  exact this
theorem live_eq {aw : Nat → Int32} {Hd : Nat → Nat → Int64} {j lo : Nat} (hlo : lo < 40) : (iML T n lo && bI (lvO aw Hd j) (nI lo)) = itF (liB T n Hd aw j lo) 6 0 false := by
  have := itF_inv0 (σ := Bool) (f := liB T n Hd aw j lo) (n := 6) (fun k y => y = true ↔ iML T n lo = true ∧ ∃ v, v < k ∧ bt (aw j) v = true ∧ hq (Hd j v) lo = true) (x := false) ⟨fun h => absurd h (by decide), fun ⟨_, v, h, _⟩ => absurd h (Nat.not_lt_zero v)⟩ (fun k hk y hy => by
    unfold liB
    rw [bI_hq (by omega), Bool.or_eq_true, Bool.and_eq_true, Bool.and_eq_true, hy]
    constructor
    · rintro (⟨h0, v, h1, h2, h3⟩ | ⟨⟨h0, h1⟩, h2⟩)
      · exact ⟨h0, v, by omega, h2, h3⟩
      · exact ⟨h0, k, by omega, h2, h1⟩
    · rintro ⟨h0, v, h1, h2, h3⟩
      by_cases e : v = k
      · subst e; exact Or.inr ⟨⟨h0, h3⟩, h2⟩
      · exact Or.inl ⟨h0, v, by omega, h2, h3⟩)
  rw [Bool.eq_iff_iff, this, Bool.and_eq_true, bI_hq (by omega), lvO_hq]
theorem held_ct (hn : n ≤ 20) {v j : Nat} {Hd : Nat → Nat → Int64} (h : okH T n v (Hd j v)) : bcF (Hd j v) = nI (ctF (hlP T n Hd j v) n) := by
  rw [bc_ct (fun i hi => by
    cases e : hq (Hd j v) i with
    | false => rfl
    | true => have := (h.2 i e).1; omega)]
  congr 1
  rw [ctF_ext (p := hq (Hd j v)) (n := n) (m := 24) (fun k hk => by
    cases e : hq (Hd j v) k with
    | false => rfl
    | true => have := (h.2 k e).1; omega) (by omega)]
  refine ctF_cong (fun k hk => ?_)
  unfold hlP
  rw [bI_hq (by omega)]
  cases e : hq (Hd j v) k with
  | false => rw [Bool.and_false]
  | true => rw [(h.2 k e).2]; rfl
theorem hl_zero {v j : Nat} {Hd : Nat → Nat → Int64} (hn : n ≤ 40) (h : Hd j v = 0) : ctF (hlP T n Hd j v) n = 0 := ctF_zero (fun k hk => by
  unfold hlP
  rw [bI_hq (by omega), h, hq_0, Bool.and_false])
theorem sR_hold {aw : Nat → Int32} {Hd : Nat → Nat → Int64} {j lo : Nat} (hlo : lo < 40) (h : hq (lvO aw Hd j) lo = true) : ∃ h, h < 6 ∧ hoF aw Hd j (nI lo) = nI h ∧ bt (aw j) h = true ∧ hq (Hd j h) lo = true := by
  obtain ⟨v, h1, h2, h3⟩ := lvO_hq.mp h
  have hp : hoP aw Hd j (nI lo) v = true := by
    unfold hoP
    rw [bI_bt (by omega), bI_hq (by omega), h2, h3]; rfl
  obtain ⟨k, k1, k2, k3⟩ := sch_some (sch_has (by decide) h1 hp)
  unfold hoP at k2
  rw [bI_bt (by omega), bI_hq (by omega), Bool.and_eq_true] at k2
  exact ⟨k, k1, k3, k2.1, k2.2⟩
theorem LF_of (hT : TI T n) (hn1 : 1 ≤ n) (hn20 : n ≤ 20) {kf : Nat → Int32} (hB : BI 6 T kf po oc) (x : NS) :
    LF T n po oc (stI T n (-1) (-1)) (stJ T (-1) (-1)) (RW T n (-1) (-1) po oc).1 (RW T n (-1) (-1) po oc).2.1 (RW T n (-1) (-1) po oc).2.2.1 (RW T n (-1) (-1) po oc).2.2.2.1 (RW T n (-1) (-1) po oc).2.2.2.2 (RA T n (-1) (-1) po oc) (RLv T n (-1) (-1) po oc) (RN T n (-1) (-1) po oc 280 x).1 (RN T n (-1) (-1) po oc 280 x).2.1 (RN T n (-1) (-1) po oc 280 x).2.2.1 (RN T n (-1) (-1) po oc 280 x).2.2.2 := by
  have hn := hT.n40
  have hSi := stI_ok hT (-1) (-1)
  have hQ := RW_Q1 (po := po) (oc := oc) hT hn1
  have hCl := RW_Cl (po := po) (oc := oc) hT hn1
  have hQ4 := fun c A hA => RW_Q4 (po := po) (oc := oc) hT c A hA
  have hPI : PI T n (-1) (RW T n (-1) (-1) po oc).1 (RW T n (-1) (-1) po oc).2.1 (RW T n (-1) (-1) po oc).2.2.1 (RW T n (-1) (-1) po oc).2.2.2.1 (RW T n (-1) (-1) po oc).2.2.2.2 (RLv T n (-1) (-1) po oc) n (RN T n (-1) (-1) po oc 280 x) := naF_PI hT (by omega)
  have hle : (RN T n (-1) (-1) po oc 280 x).1 ≤ 240 := Nat.le_trans (naF_le hT) (by omega)
  have hNI := RN_NI (sk := -1) (cp := -1) (po := po) (oc := oc) (x := x) hT hn20
  have hcop := fun j hj h1 h6 h9 => copy_same (N := 280) hT (q := j) hj h1 h6 h9 po oc x
  have hRA : RA T n (-1) (-1) po oc = awF n (stI T n (-1) (-1)) (RW T n (-1) (-1) po oc).1 (fun _ => 0) := rfl
  have hRL : RLv T n (-1) (-1) po oc = lvO (RA T n (-1) (-1) po oc) (RW T n (-1) (-1) po oc).2.2.2.2 := rfl
  generalize RA T n (-1) (-1) po oc = aw at *
  generalize RLv T n (-1) (-1) po oc = lv at *
  generalize RN T n (-1) (-1) po oc 280 x = Z at *
  generalize RW T n (-1) (-1) po oc = w at *
  obtain ⟨q1, q2, q3, q4, q5⟩ := hQ
  have hcell : ∀ v, v < 6 → ∀ c, hq (cO T v (-1)) c = true → hq (po ||| oc) c = true := fun v hv c hc => by
    have h9 := congrArg (fun z => hq z c) (hB.2 v hv)
    simp only [hq_and, hc, Bool.true_and] at h9
    exact h9
  have hbr : ∀ j, j < n → (bI w.1 (nI j) = true ↔ hq w.1 j = true) := fun j hj => by rw [bI_hq (by omega)]
  have hbf : ∀ j, j < n → (bI w.1 (nI j) = false ↔ hq w.1 j = false) := fun j hj => by rw [bI_hq (by omega)]
  have hrow : ∀ k, k < Z.1 → ∃ i a, RowF T n (-1) w.1 w.2.1 w.2.2.1 w.2.2.2.1 w.2.2.2.2 lv i a (Z.2.1 k) (Z.2.2.1 k) (Z.2.2.2 k) ∧ a < 3 ∧ nn (Z.2.1 k) = i * 3 + a ∧ nn (Z.2.1 k) / 3 = i := fun k hk => by
    obtain ⟨i, a, -, hR⟩ := hPI.1 k hk
    have ha3 : a < 3 := by have := (hT.ak hR.1 (-1)).2; have := hR.2.2.1; omega
    have e : nn (Z.2.1 k) = i * 3 + a := by rw [hR.2.2.2.1, nn_nI (by have := hR.1; omega)]
    exact ⟨i, a, hR, ha3, e, by omega⟩
  refine ⟨⟨hn1, hn20⟩, hT, hSi, ⟨hNI, hle⟩, fun j hj hr => ?_, fun j hj hr v hv => ?_, fun j v hj hv => ?_, fun j lo hj hlo => ?_, ?_, ?_, hPI.2, fun f hf => ?_, ?_, hcop⟩
  · have hr' := (hbf j hj).mp hr
    obtain ⟨a1, a2, a3, a4⟩ := q4 j hj hr'
    refine ⟨by rw [hRA]; exact aw_zero hr hn, ctF_zero (fun k hk => decide_eq_false (fun e => ?_)), fun v hv => ⟨?_, hl_zero hn (a4 v hv)⟩⟩
    · obtain ⟨i, a, hR, -, -, ei⟩ := hrow k hk
      rw [ei] at e; subst e
      rw [hR.2.1] at hr; exact absurd hr (by decide)
    · exact sO_z (by rw [a1]; exact an0.mpr (fun i h => by rw [hq_0] at h; exact absurd h.1 (by decide))) (by rw [a2]; exact an0.mpr (fun i h => by rw [hq_0] at h; exact absurd h.1 (by decide))) (by rw [a3]; exact an0.mpr (fun i h => by rw [hq_0] at h; exact absurd h.1 (by decide)))
  · have hr' := (hbr j hj).mp hr
    refine sO_p (fun h => ?_)
    have hc := cO_nz (T := T) hv
    have hcv := q3 j hj hr' (3 * v) (hcell v hv _ hc)
    rw [Bool.or_eq_true, Bool.or_eq_true] at hcv
    rcases hcv with (hcv | hcv) | hcv
    · exact an0.mp h.1 (3 * v) ⟨hcv, hc⟩
    · exact an0.mp h.2.1 (3 * v) ⟨hcv, hc⟩
    · exact an0.mp h.2.2 (3 * v) ⟨hcv, hc⟩
  · exact ⟨held_ct hn20 (q5 j v hj hv), fun h => hl_zero hn ((q5 j v hj hv).1 (iL_nlt h))⟩
  · rw [hRL]; exact live_eq (by omega)
  · exact (hbr 0 hn1).mpr q2
  · rw [bc_ct (fun i hi => by
      cases e : hq w.1 i with
      | false => rfl
      | true => have := q1 i e; omega)]
    congr 1
    rw [ctF_ext (p := hq w.1) (n := n) (m := 24) (fun k hk => by
      cases e : hq w.1 k with
      | false => rfl
      | true => have := q1 k e; omega) (by omega)]
    exact ctF_cong (fun k hk => (bI_hq (by omega)).symm)
  · obtain ⟨i, a, ⟨hi, hr, ha, es, hk⟩, ha3, en, ei⟩ := hrow f hf
    have hr' := (hbr i hi).mp hr
    have hav := hT.av hi ha
    have hpl : T 8 (i * 3 + a) = -1 ∨ ∃ p, p < 3 + (if T 0 (nn (T 7 (i * 3 + a))) = 1 then 0 else 1) ∧ T 8 (i * 3 + a) = nI p := by
      obtain ⟨k, hk9, e5, h2⟩ := hT.2.2.2.2.2.1 i hi
      have hk2 : nn (T 5 i) = k := by rw [e5]; exact nn_nI (by omega)
      have hi2 : a < k := by
        unfold acO at ha
        split at ha
        · exact absurd ha (Nat.not_lt_zero _)
        · omega
      obtain ⟨u, hu, eu, hq9⟩ := (h2 a hi2).2.1
      have : nn (T 7 (i * 3 + a)) = u := by rw [eu]; exact nn_nI (by omega)
      rw [this]; exact hq9
    have hsub : ∀ c, hq (cAt T (i * 3 + a)) c = true → hq (cO T (nn (T 7 (i * 3 + a))) (-1)) c = true := fun c hc => cO_sub hav.2 hpl hc
    unfold FC
    rw [en, show (i * 3 + a) / 3 = i by omega]
    refine ⟨hi, hav.1, hav.2, ?_⟩
    have hcd : ∀ c9 : Int32, Z.2.2.1 f = c9 → (c9 = 1 ∨ c9 = 2 ∨ c9 = 6) → hdO aw w.2.2.2.2 Z.2.1 Z.2.2.1 Z.2.2.2 f = -1 ∧ nxO n (stI T n (-1) (-1)) aw w.2.2.2.2 Z.2.1 Z.2.2.1 Z.2.2.2 f = -1 := by
      intro c9 e h
      have h0 : hdO aw w.2.2.2.2 Z.2.1 Z.2.2.1 Z.2.2.2 f = -1 := by
        unfold hdO
        rw [e]
        rcases h with rfl | rfl | rfl <;> exact if_neg (by decide)
      exact ⟨h0, by unfold nxO; rw [if_pos h0]⟩
    rcases hk with ⟨k1, k2, k3⟩ | ⟨k1, k2, k3⟩ | ⟨k1, lo, k2, k3, k4⟩ | ⟨k1, k2, lo, k3, k4, k5, k6⟩
    · obtain ⟨d1, d2⟩ := hcd _ k1 (Or.inl rfl)
      refine Or.inl ⟨k1, ?_, d1, d2, ?_⟩
      · unfold rsO; rw [k1, if_neg (by decide)]; exact k2
      · obtain ⟨c, c1, c2⟩ := an1.mp (sO_1.mp k3)
        exact sO_1.mpr (an1.mpr ⟨c, c1, hsub c c2⟩)
    · obtain ⟨d1, d2⟩ := hcd _ k1 (Or.inr (Or.inl rfl))
      have hg := sO_4.mp k3
      obtain ⟨mv, m1, m2⟩ := sm_some (Sj := stJ T (-1) (-1)) hn hSi hi hQ4 hg
      refine Or.inr (Or.inl ⟨mv, m1, k1, ?_, d1, d2, ?_⟩)
      · unfold rsO
        rw [k1, if_pos rfl, en, show (i * 3 + a) / 3 = i by omega]; exact m2
      · obtain ⟨c, c1, c2⟩ := an1.mp hg
        exact sO_4.mpr (an1.mpr ⟨c, c1, hsub c c2⟩)
    · have hlv : hq (lv i) lo = true := by rw [← bI_hq (by omega)]; exact k4
      rw [hRL] at hlv
      obtain ⟨h, h1, h2, h3, h4⟩ := sR_hold (by omega) hlv
      have hml := ((q5 i h hi h1).2 lo h4).2
      have h3' : bt (awF n (stI T n (-1) (-1)) w.1 (fun _ => 0) i) h = true := by rw [← hRA]; exact h3
      obtain ⟨u, u1, u2, u3, u4⟩ := nu_some hn hSi hCl h1 hi hr' h3'
      have h345 : Z.2.2.1 f = 3 ∨ Z.2.2.1 f = 4 ∨ Z.2.2.1 f = 5 := k1
      have hd0 : hdO aw w.2.2.2.2 Z.2.1 Z.2.2.1 Z.2.2.2 f = nI h := by
        unfold hdO
        rw [if_pos h345, en, show (i * 3 + a) / 3 = i by omega, k3]; exact h2
      obtain ⟨cd9, e1, e2, e3⟩ : ∃ c, 3 ≤ c ∧ c ≤ 5 ∧ Z.2.2.1 f = nI c := by
        rcases h345 with e | e | e
        · exact ⟨3, by decide, by decide, e⟩
        · exact ⟨4, by decide, by decide, e⟩
        · exact ⟨5, by decide, by decide, e⟩
      refine Or.inr (Or.inr (Or.inl ⟨cd9, lo, h, u, e1, e2, k2, h1, u1, e3, ?_, hd0, ?_, ?_, ?_, h3, (hbr u u1).mpr u3, ?_⟩))
      · unfold rsO
        rw [if_neg (fun e => by rcases h345 with q | q | q <;> (rw [q] at e; exact absurd e (by decide)))]; exact k3
      · unfold nxO
        rw [hd0, if_neg (nI_m1 (by omega)), en, show (i * 3 + a) / 3 = i by omega]; exact u2
      · rw [hml, k4]; rfl
      · rw [hml, bI_hq (by omega), h4]; rfl
      · rw [hRA]; exact u4
    · obtain ⟨d1, d2⟩ := hcd _ k1 (Or.inr (Or.inr rfl))
      have h4 : hq (w.2.2.2.2 i (nn (T 7 (i * 3 + a)))) lo = true := by rw [← bI_hq (by omega)]; exact k5
      have hml := ((q5 i _ hi hav.2).2 lo h4).2
      refine Or.inr (Or.inr (Or.inr ⟨lo, k3, k1, ?_, d1, d2, k2, ?_, ?_⟩))
      · unfold rsO; rw [k1, if_neg (by decide)]; exact k4
      · rw [hml, k5]; rfl
      · have hml' := (of_decide_eq_true hml).2
        rcases hml' with e | e
        · exact e
        · exact absurd (hT.2.2.2.2.2.2 lo k3 e) k6
  · have hc6 := code_sum Z.2.2.1 Z.1 (fun k hk => by
      obtain ⟨i, a, ⟨-, -, -, -, h9⟩, -⟩ := hrow k hk
      rcases h9 with ⟨k1, -⟩ | ⟨k1, -⟩ | ⟨k1, -⟩ | ⟨k1, -⟩
      · exact Or.inl k1
      · exact Or.inr (Or.inl k1)
      · rcases k1 with k1 | k1 | k1
        · exact Or.inr (Or.inr (Or.inl k1))
        · exact Or.inr (Or.inr (Or.inr (Or.inl k1)))
        · exact Or.inr (Or.inr (Or.inr (Or.inr (Or.inl k1))))
      · exact Or.inr (Or.inr (Or.inr (Or.inr (Or.inr k1)))))
    have ha6 := at_sum Z.2.1 n Z.1 (fun k hk => by
      obtain ⟨i, a, hR, -, -, ei⟩ := hrow k hk
      rw [ei]; exact hR.1)
    exact ⟨hc6.trans ha6.symm, ha6⟩
end FT
