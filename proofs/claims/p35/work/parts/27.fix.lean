/-! what rounds keep, and what they reach -/
theorem fxr_inv {σ : Type} {f : σ → σ × Bool} (Q : σ → Prop) (hs : ∀ w, Q w → Q (f w).1) : ∀ (k : Nat) (w : σ) (b : Bool), Q w → Q (fxr f k w b)
  | 0, _, _, h => h
  | _ + 1, _, false, h => h
  | k + 1, w, true, h => fxr_inv Q hs k (f w).1 (f w).2 (hs w h)
theorem fxr_closed {σ : Type} {f : σ → σ × Bool} (mu : σ → Nat) (I Cl : σ → Prop) (hI : ∀ w, I w → I (f w).1) (h1 : ∀ w, I w → Cl w → Cl (f w).1) (h2 : ∀ w, I w → Cl (f w).1 ∨ (mu (f w).1 < mu w ∧ (f w).2 = true)) : ∀ (k : Nat) (w : σ), I w → mu w < k → Cl (fxr f k w true) := by
  intro k
  induction k with
  | zero => intro w _ h; exact absurd h (Nat.not_lt_zero _)
  | succ k ih =>
    intro w hw hk
    show Cl (fxr f k (f w).1 (f w).2)
    rcases h2 w hw with h | ⟨h3, h4⟩
    · exact (fxr_inv (fun w => I w ∧ Cl w) (fun w hw => ⟨hI w hw.1, h1 w hw.1 hw.2⟩) k _ _ ⟨hI w hw, h⟩).2
    · rw [h4]
      exact ih _ (hI w hw) (by omega)
theorem ctF_mono {p q : Nat → Bool} : ∀ {n : Nat}, (∀ i, i < n → p i = true → q i = true) → ctF p n ≤ ctF q n
  | 0, _ => by rw [ctF_0, ctF_0]; exact Nat.le_refl _
  | n + 1, h => by
    have h1 := ctF_mono (n := n) (fun i hi => h i (by omega))
    rw [ctF_suc, ctF_suc]
    by_cases e : p n = true
    · rw [if_pos e, if_pos (h n (by omega) e)]; omega
    · rw [if_neg e]; split <;> omega
theorem ctF_lt {p q : Nat → Bool} {n k : Nat} (h : ∀ i, i < n → p i = true → q i = true) (hk : k < n) (hp : p k = false) (hqk : q k = true) : ctF p n < ctF q n := by
  induction n with
  | zero => omega
  | succ n ih =>
    rw [ctF_suc, ctF_suc]
    by_cases e : k = n
    · subst e
      have := ctF_mono (n := k) (fun i hi => h i (by omega))
      rw [if_neg (by rw [hp]; decide), if_pos hqk]; omega
    · have := ih (fun i hi => h i (by omega)) (by omega)
      by_cases e1 : p n = true
      · rw [if_pos e1, if_pos (h n (by omega) e1)]; omega
      · rw [if_neg e1]; split <;> omega
theorem b1_nz {j : Nat} (h : j < 64) : ¬ b1 j = 0 := by
  intro e
  have := congrArg (fun z => hq z j) e
  simp only [hq_b1 h, hq_0] at this
  simp at this
section FX
variable {T : Nat → Nat → Int32} {n : Nat} {Si : Nat → Nat → Int32} {Sj : Nat → Nat → Int64}
/-- where one goes from a statement -/
def goes (n : Nat) (Si : Nat → Nat → Int32) (j to : Nat) : Prop := to < n ∧ (Si 0 j = nI to ∨ Si 1 j = nI to)
theorem arF_R {fb : Nat → Int64} {j to : Nat} {w : WS} : (arF Sj fb j to w).1.1 = w.1 ||| b1 to := rfl
theorem arH_eq {fb : Nat → Int64} {to : Nat} {H : Nat → Nat → Int64} {b : Bool} : (itF (arH fb to) 6 0 (H, b)).1 = fun a v => if a = to ∧ v < 6 then H a v ||| fb v else H a v := by
  refine itF_inv0 (σ := (Nat → Nat → Int64) × Bool) (fun k y => y.1 = fun a v => if a = to ∧ v < k then H a v ||| fb v else H a v) ?_ (fun k hk y hy => ?_)
  · funext a v; rw [if_neg (by omega)]
  · show up2 y.1 to k (y.1 to k ||| fb k) = _
    rw [hy]
    funext a v
    show (if a = to ∧ v = k then (if to = to ∧ k < k then H to k ||| fb k else H to k) ||| fb k else if a = to ∧ v < k then H a v ||| fb v else H a v) = if a = to ∧ v < k + 1 then H a v ||| fb v else H a v
    by_cases e : a = to ∧ v = k
    · obtain ⟨e1, e2⟩ := e
      subst e1; subst e2
      rw [if_pos ⟨rfl, rfl⟩, if_neg (fun h => absurd h.2 (Nat.lt_irrefl _)), if_pos ⟨rfl, Nat.lt_succ_self _⟩]
    · rw [if_neg e]
      by_cases e2 : a = to ∧ v < k
      · rw [if_pos e2, if_pos ⟨e2.1, by omega⟩]
      · rw [if_neg e2, if_neg (fun h => by
          rcases Nat.lt_or_ge v k with h1 | h1
          · exact e2 ⟨h.1, h1⟩
          · exact e ⟨h.1, by omega⟩)]
theorem arF_H {fb : Nat → Int64} {j to : Nat} {w : WS} : (arF Sj fb j to w).1.2.2.2.2 = fun a v => if a = to ∧ v < 6 then w.2.2.2.2 a v ||| fb v else w.2.2.2.2 a v := arH_eq
theorem arH_fl {fb : Nat → Int64} {to : Nat} {H : Nat → Nat → Int64} {b : Bool} (h : b = true) : (itF (arH fb to) 6 0 (H, b)).2 = true := by
  refine itF_inv0 (σ := (Nat → Nat → Int64) × Bool) (fun _ y => y.2 = true) h (fun k hk y hy => ?_)
  show (y.2 || _) = true
  rw [hy, Bool.true_or]
theorem arF_fl {fb : Nat → Int64} {j to : Nat} {w : WS} (h : (arF Sj fb j to w).2 = false) : w.1 ||| b1 to = w.1 := by
  apply Classical.byContradiction
  intro h9
  have : (arF Sj fb j to w).2 = true := by
    show (itF (arH fb to) 6 0 (_, _)).2 = true
    apply arH_fl
    rw [show adB w.1 (b1 to) = true from decide_eq_true h9, Bool.true_or, Bool.true_or, Bool.true_or]
  rw [h] at this
  exact absurd this (by decide)
theorem okS_cases {x : Int32} (h : okS n x) : x = -1 ∨ ∃ to, to < n ∧ x = nI to ∧ nn x = to := by
  rcases h with h | ⟨h1, h2⟩
  · exact Or.inl h
  · exact Or.inr ⟨nn x, h2, h1, rfl⟩
theorem okS_not {x : Int32} {to : Nat} (h : x = -1) (hn : n ≤ 40) (ht : to < n) : ¬ x = nI to := by
  rw [h]; exact fun e => nI_m1 (by omega) e.symm
/-- what arrivals keep, a whole look keeps -/
theorem ps_inv (hn : n ≤ 40) (hSi : ∀ i, i < n → okS n (Si 0 i) ∧ okS n (Si 1 i)) (Q : WS → Prop) (Hb : (Nat → Int64) → Nat → Prop)
    (hH : ∀ w j, Q w → j < n → bI w.1 (nI j) = true → Hb (hbF T n Si w.2.2.2.2 j) j)
    (hs : ∀ w j to fb, Q w → j < n → bI w.1 (nI j) = true → goes n Si j to → Hb fb j → Q (arF Sj fb j to w).1) :
    ∀ w j, Q w → j < n → bI w.1 (nI j) = true → Q (psF T n Si Sj j w).1 := by
  intro w j hw hj hr
  have hb := hH w j hw hj hr
  have h1 : Q (ps1 T n Si Sj j w).1 ∧ bI (ps1 T n Si Sj j w).1.1 (nI j) = true := by
    unfold ps1 arO
    rcases okS_cases (hSi j hj).1 with e | ⟨to, ht, e, e2⟩
    · rw [if_pos e]; exact ⟨hw, hr⟩
    · rw [if_neg (by rw [e]; exact nI_m1 (by omega)), e2]
      refine ⟨hs w j to _ hw hj hr ⟨ht, Or.inl e⟩ hb, ?_⟩
      rw [bI_hq (by omega)] at hr ⊢
      rw [arF_R, hq_or, hr, Bool.true_or]
  show Q (ps2 T n Si Sj j w).1
  unfold ps2 arO
  rcases okS_cases (hSi j hj).2 with e | ⟨to, ht, e, e2⟩
  · rw [if_pos e]; exact h1.1
  · rw [if_neg (by rw [e]; exact nI_m1 (by omega)), e2]
    exact hs _ j to _ h1.1 hj h1.2 ⟨ht, Or.inr e⟩ hb
theorem rd_inv (Q : WS → Prop) (h : ∀ w j, Q w → j < n → bI w.1 (nI j) = true → Q (psF T n Si Sj j w).1) : ∀ w, Q w → Q (rdF T n Si Sj w).1 := by
  intro w hw
  refine itF_inv0 (σ := WS × Bool) (fun _ y => Q y.1) hw (fun k hk y hy => ?_)
  unfold raF
  split
  · next hr =>
    have := h y.1 k hy hk hr
    split <;> exact this
  · exact hy
theorem fa_inv (Q : WS → Prop) (h : ∀ w j, Q w → j < n → bI w.1 (nI j) = true → Q (psF T n Si Sj j w).1) {w : WS} (hw : Q w) : Q (faF T n Si Sj w) :=
  fxr_inv Q (rd_inv Q h) _ _ _ hw
/-! the first invariant -/
def okH (T : Nat → Nat → Int32) (n v : Nat) (x : Int64) : Prop := (iL T v = false → x = 0) ∧ ∀ i, hq x i = true → i < n ∧ iML T n i = true
theorem okH_0 {v : Nat} : okH T n v 0 := ⟨fun _ => rfl, fun i h => by rw [hq_0] at h; exact absurd h (by decide)⟩
theorem okH_or {v : Nat} {x y : Int64} (hx : okH T n v x) (hy : okH T n v y) : okH T n v (x ||| y) := by
  refine ⟨fun h => by rw [hx.1 h, hy.1 h]; rfl, fun i h => ?_⟩
  rw [hq_or, Bool.or_eq_true] at h
  exact h.elim (hx.2 i) (hy.2 i)
def Q1 (T : Nat → Nat → Int32) (n : Nat) (x0 : Int64) (w : WS) : Prop :=
  (∀ i, hq w.1 i = true → i < n) ∧ hq w.1 0 = true ∧
  (∀ j, j < n → hq w.1 j = true → ∀ c, hq x0 c = true → (hq (w.2.1 j) c || hq (w.2.2.1 j) c || hq (w.2.2.2.1 j) c) = true) ∧
  (∀ j, j < n → hq w.1 j = false → w.2.1 j = 0 ∧ w.2.2.1 j = 0 ∧ w.2.2.2.1 j = 0 ∧ ∀ v, v < 6 → w.2.2.2.2 j v = 0) ∧
  (∀ j v, j < n → v < 6 → okH T n v (w.2.2.2.2 j v))
theorem hbF_ok (hn : n ≤ 40) {H : Nat → Nat → Int64} (h : ∀ j v, j < n → v < 6 → okH T n v (H j v)) {j : Nat} (hj : j < n) : ∀ v, v < 6 → okH T n v (hbF T n Si H j v) := by
  intro v hv
  unfold hbF
  split
  · unfold lsF
    split
    · next hl =>
      have h0 : okH T n v (if iML T n j = true then b1 j else 0) := by
        split
        · next hm =>
          refine ⟨fun h9 => by rw [hl] at h9; exact absurd h9 (by decide), fun i hi => ?_⟩
          rw [hq_b1 (by omega)] at hi
          rw [of_decide_eq_true hi]; exact ⟨hj, hm⟩
        · exact okH_0
      refine itF_inv0 (σ := Int64) (fun _ y => okH T n v y) h0 (fun s hs y hy => ?_)
      unfold lsB
      split
      · refine ⟨fun h9 => by rw [hl] at h9; exact absurd h9 (by decide), fun i hi => ?_⟩
        rw [hq_or, Bool.or_eq_true] at hi
        exact hi.elim (hy.2 i) ((h j s hj hs).2 i)
      · exact hy
    · exact okH_0
  · exact h j v hj hv
theorem vL_same {f : Nat → Int64} {k : Nat} {x : Int64} : vp_updL f k x k = x := vpl_same f k x
theorem cov_arm {x0 k0 s1 s2 s3 u m g : Int64} {c : Nat} (hc : c < 64) (hk : k0 = s1 ||| s2 ||| s3) (h : (hq u c || hq m c || hq g c) = true) (U M G : Int64) :
    (hq (U ||| (s1 ||| u &&& (k0 ^^^ (-1)))) c || hq (M ||| (s2 ||| m &&& (k0 ^^^ (-1)))) c || hq (G ||| (s3 ||| g &&& (k0 ^^^ (-1)))) c) = true := by
  subst hk
  simp only [hq_or, hq_and, hq_not _ hc]
  revert h
  cases hq u c <;> cases hq m c <;> cases hq g c <;> cases hq s1 c <;> cases hq s2 c <;> cases hq s3 c <;> simp
theorem Q1_step (hn : n ≤ 40) {x0 : Int64} (hSj : ∀ j, j < n → Sj 0 j = Sj 1 j ||| Sj 2 j ||| Sj 3 j) {w : WS} {j to : Nat} {fb : Nat → Int64} (h : Q1 T n x0 w) (hj : j < n) (hr : bI w.1 (nI j) = true) (ht : to < n) (hb : ∀ v, v < 6 → okH T n v (fb v)) : Q1 T n x0 (arF Sj fb j to w).1 := by
  obtain ⟨q1, q2, q3, q4, q5⟩ := h
  have hr' : hq w.1 j = true := by rw [← bI_hq (by omega)]; exact hr
  have eU : ∀ i, ¬ i = to → (arF Sj fb j to w).1.2.1 i = w.2.1 i := fun i hi => vpl_ne _ _ hi
  have eM : ∀ i, ¬ i = to → (arF Sj fb j to w).1.2.2.1 i = w.2.2.1 i := fun i hi => vpl_ne _ _ hi
  have eG : ∀ i, ¬ i = to → (arF Sj fb j to w).1.2.2.2.1 i = w.2.2.2.1 i := fun i hi => vpl_ne _ _ hi
  have eH : ∀ i v, ¬ i = to → (arF Sj fb j to w).1.2.2.2.2 i v = w.2.2.2.2 i v := fun i v hi => by
    rw [arF_H]; exact if_neg (fun h => hi h.1)
  have fU : (arF Sj fb j to w).1.2.1 to = w.2.1 to ||| (Sj 1 j ||| w.2.1 j &&& (Sj 0 j ^^^ (-1))) := vpl_same _ _ _
  have fM : (arF Sj fb j to w).1.2.2.1 to = w.2.2.1 to ||| (Sj 2 j ||| w.2.2.1 j &&& (Sj 0 j ^^^ (-1))) := vpl_same _ _ _
  have fG : (arF Sj fb j to w).1.2.2.2.1 to = w.2.2.2.1 to ||| (Sj 3 j ||| w.2.2.2.1 j &&& (Sj 0 j ^^^ (-1))) := vpl_same _ _ _
  have fH : ∀ v, v < 6 → (arF Sj fb j to w).1.2.2.2.2 to v = w.2.2.2.2 to v ||| fb v := fun v hv => by
    rw [arF_H]; exact if_pos ⟨rfl, hv⟩
  refine ⟨fun i hi => ?_, ?_, fun i hi hri c hc => ?_, fun i hi hri => ?_, fun i v hi hv => ?_⟩
  · rw [arF_R, hq_or, Bool.or_eq_true] at hi
    rcases hi with hi | hi
    · exact q1 i hi
    · rw [hq_b1 (by omega)] at hi; rw [of_decide_eq_true hi]; exact ht
  · rw [arF_R, hq_or, q2, Bool.true_or]
  · by_cases e : i = to
    · subst e
      rw [fU, fM, fG]
      exact cov_arm (x0 := x0) (hq_lt hc) (hSj j hj) (q3 j hj hr' c hc) _ _ _
    · rw [eU i e, eM i e, eG i e]
      rw [arF_R, hq_or, hq_b1 (by omega), decide_eq_false e, Bool.or_false] at hri
      exact q3 i hi hri c hc
  · have e : ¬ i = to := fun e => by
      rw [arF_R, hq_or, hq_b1 (by omega), decide_eq_true e, Bool.or_true] at hri
      exact absurd hri (by decide)
    rw [arF_R, hq_or, Bool.or_eq_false_iff] at hri
    rw [eU i e, eM i e, eG i e]
    obtain ⟨a1, a2, a3, a4⟩ := q4 i hi hri.1
    exact ⟨a1, a2, a3, fun v hv => (eH i v e).trans (a4 v hv)⟩
  · by_cases e : i = to
    · subst e
      rw [fH v hv]
      exact okH_or (q5 i v hi hv) (hb v hv)
    · rw [eH i v e]; exact q5 i v hi hv
theorem Q1_fa (hn : n ≤ 40) {x0 : Int64} (hSi : ∀ i, i < n → okS n (Si 0 i) ∧ okS n (Si 1 i)) (hSj : ∀ j, j < n → Sj 0 j = Sj 1 j ||| Sj 2 j ||| Sj 3 j) : ∀ w j, Q1 T n x0 w → j < n → bI w.1 (nI j) = true → Q1 T n x0 (psF T n Si Sj j w).1 :=
  ps_inv hn hSi (Q1 T n x0) (fun fb _ => ∀ v, v < 6 → okH T n v (fb v)) (fun w j hw hj _ => hbF_ok hn hw.2.2.2.2 hj) (fun w j to fb hw hj hr hg hb => Q1_step hn hSj hw hj hr hg.1 hb)
/-! what is reached is closed -/
def ClR (n : Nat) (Si : Nat → Nat → Int32) (R : Int64) : Prop := ∀ j, j < n → hq R j = true → ∀ to, goes n Si j to → hq R to = true
theorem ps_R (hn : n ≤ 40) (hSi : ∀ i, i < n → okS n (Si 0 i) ∧ okS n (Si 1 i)) {w : WS} {j : Nat} (hj : j < n) :
    (∀ i, hq w.1 i = true → hq (psF T n Si Sj j w).1.1 i = true) ∧ (∀ to, goes n Si j to → hq (psF T n Si Sj j w).1.1 to = true) ∧ ((psF T n Si Sj j w).2 = false → (psF T n Si Sj j w).1.1 = w.1) := by
  have a1 : (∀ i, hq w.1 i = true → hq (ps1 T n Si Sj j w).1.1 i = true) ∧ (∀ to, to < n → Si 0 j = nI to → hq (ps1 T n Si Sj j w).1.1 to = true) ∧ ((ps1 T n Si Sj j w).2 = false → (ps1 T n Si Sj j w).1.1 = w.1) := by
    unfold ps1 arO
    rcases okS_cases (hSi j hj).1 with e | ⟨to, ht, e, e2⟩
    · rw [if_pos e]
      exact ⟨fun i h => h, fun to ht h => absurd h (okS_not e hn ht), fun _ => rfl⟩
    · rw [if_neg (by rw [e]; exact nI_m1 (by omega)), e2]
      refine ⟨fun i h => by rw [arF_R, hq_or, h, Bool.true_or], fun to' ht' h => ?_, fun h => arF_fl h⟩
      have : to' = to := (nI_eq (by omega) (by omega)).mp (h.symm.trans e)
      subst this
      rw [arF_R, hq_or, hq_b1 (by omega), decide_eq_true rfl, Bool.or_true]
  have a2 : (∀ i, hq (ps1 T n Si Sj j w).1.1 i = true → hq (ps2 T n Si Sj j w).1.1 i = true) ∧ (∀ to, to < n → Si 1 j = nI to → hq (ps2 T n Si Sj j w).1.1 to = true) ∧ ((ps2 T n Si Sj j w).2 = false → (ps2 T n Si Sj j w).1.1 = (ps1 T n Si Sj j w).1.1) := by
    unfold ps2 arO
    rcases okS_cases (hSi j hj).2 with e | ⟨to, ht, e, e2⟩
    · rw [if_pos e]
      exact ⟨fun i h => h, fun to ht h => absurd h (okS_not e hn ht), fun _ => rfl⟩
    · rw [if_neg (by rw [e]; exact nI_m1 (by omega)), e2]
      refine ⟨fun i h => by rw [arF_R, hq_or, h, Bool.true_or], fun to' ht' h => ?_, fun h => arF_fl h⟩
      have : to' = to := (nI_eq (by omega) (by omega)).mp (h.symm.trans e)
      subst this
      rw [arF_R, hq_or, hq_b1 (by omega), decide_eq_true rfl, Bool.or_true]
  refine ⟨fun i h => a2.1 i (a1.1 i h), fun to hg => ?_, fun h => ?_⟩
  · rcases hg.2 with h | h
    · exact a2.1 to (a1.2.1 to hg.1 h)
    · exact a2.2.1 to hg.1 h
  · have h' : ((ps2 T n Si Sj j w).2 || (ps1 T n Si Sj j w).2) = false := h
    rw [Bool.or_eq_false_iff] at h'
    exact (a2.2.2 h'.1).trans (a1.2.2 h'.2)
theorem rd_R (hn : n ≤ 40) (hSi : ∀ i, i < n → okS n (Si 0 i) ∧ okS n (Si 1 i)) (w : WS) :
    (∀ i, hq w.1 i = true → hq (rdF T n Si Sj w).1.1 i = true) ∧ (∀ j, j < n → hq w.1 j = true → ∀ to, goes n Si j to → hq (rdF T n Si Sj w).1.1 to = true) ∧ ((rdF T n Si Sj w).2 = false → (rdF T n Si Sj w).1.1 = w.1) := by
  have := itF_inv0 (σ := WS × Bool) (f := raF T n Si Sj) (n := n) (fun k y => (∀ i, hq w.1 i = true → hq y.1.1 i = true) ∧ (∀ j, j < k → hq w.1 j = true → ∀ to, goes n Si j to → hq y.1.1 to = true) ∧ (y.2 = false → y.1.1 = w.1)) (x := (w, false))
    ⟨fun i h => h, fun j hj => absurd hj (Nat.not_lt_zero j), fun _ => rfl⟩ (fun k hk y hy => by
      obtain ⟨y1, y2, y3⟩ := hy
      unfold raF
      split
      · obtain ⟨p1, p2, p3⟩ := ps_R (T := T) (Sj := Sj) hn hSi (w := y.1) hk
        have s1 : ∀ i, hq w.1 i = true → hq (psF T n Si Sj k y.1).1.1 i = true := fun i h => p1 i (y1 i h)
        have s2 : ∀ j, j < k + 1 → hq w.1 j = true → ∀ to, goes n Si j to → hq (psF T n Si Sj k y.1).1.1 to = true := fun j hj h to hg => by
          by_cases e : j = k
          · subst e; exact p2 to hg
          · exact p1 to (y2 j (by omega) h to hg)
        split
        · exact ⟨s1, s2, fun h => Bool.noConfusion h⟩
        · next hf => exact ⟨s1, s2, fun h => (p3 (by cases e : (psF T n Si Sj k y.1).2 with | false => rfl | true => exact absurd e hf)).trans (y3 h)⟩
      · next hr =>
        refine ⟨y1, fun j hj h to hg => ?_, y3⟩
        by_cases e : j = k
        · subst e
          exact absurd (by rw [bI_hq (by omega)]; exact y1 j h) hr
        · exact y2 j (by omega) h to hg)
  exact this
theorem fa_ClR (hn : n ≤ 40) {x0 : Int64} (hSi : ∀ i, i < n → okS n (Si 0 i) ∧ okS n (Si 1 i)) (hSj : ∀ j, j < n → Sj 0 j = Sj 1 j ||| Sj 2 j ||| Sj 3 j) {w : WS} (hw : Q1 T n x0 w) : ClR n Si (faF T n Si Sj w).1 := by
  refine fxr_closed (f := rdF T n Si Sj) (fun w => ctF (fun i => !hq w.1 i) n) (Q1 T n x0) (fun w => ClR n Si w.1) (rd_inv _ (Q1_fa hn hSi hSj)) (fun w _ hc => ?_) (fun w hI => ?_) 1000000 w hw (Nat.lt_of_le_of_lt (ctF_le _ _) (by omega))
  · obtain ⟨r1, r2, r3⟩ := rd_R (T := T) (Sj := Sj) hn hSi w
    have r0 : ∀ i, i < n → hq (rdF T n Si Sj w).1.1 i = hq w.1 i := by
      have := itF_inv0 (σ := WS × Bool) (f := raF T n Si Sj) (n := n) (fun _ y => ∀ i, i < n → hq y.1.1 i = hq w.1 i) (x := (w, false)) (fun i _ => rfl) (fun k hk y hy => by
        unfold raF
        split
        · next hr =>
          have hk' : hq w.1 k = true := by rw [← hy k hk, ← bI_hq (by omega)]; exact hr
          have key : ∀ i, i < n → hq (psF T n Si Sj k y.1).1.1 i = hq w.1 i := by
            intro i hi
            have b1' : ∀ x : Int32, okS n x → (∀ to, to < n → x = nI to → hq w.1 to = true) → ∀ (z : WS) (fb : Nat → Int64), (∀ i, i < n → hq z.1 i = hq w.1 i) → ∀ i, i < n → hq (arO Sj fb k x z).1.1 i = hq w.1 i := by
              intro x hx hto z fb hz i hi
              unfold arO
              rcases okS_cases hx with e | ⟨to, ht, e, e2⟩
              · rw [if_pos e]; exact hz i hi
              · rw [if_neg (by rw [e]; exact nI_m1 (by omega)), e2, arF_R, hq_or, hz i hi, hq_b1 (by omega)]
                by_cases e3 : i = to
                · rw [e3, hto to ht e, Bool.true_or]
                · rw [decide_eq_false e3, Bool.or_false]
            exact b1' _ (hSi k hk).2 (fun to ht e => hc k hk hk' to ⟨ht, Or.inr e⟩) _ _ (b1' _ (hSi k hk).1 (fun to ht e => hc k hk hk' to ⟨ht, Or.inl e⟩) _ _ hy) i hi
          split <;> exact key
        · exact hy)
      exact this
    intro j hj hrj to hg
    rw [r0 j hj] at hrj
    exact r2 j hj hrj to hg
  · obtain ⟨r1, r2, r3⟩ := rd_R (T := T) (Sj := Sj) hn hSi w
    by_cases e : (rdF T n Si Sj w).1.1 = w.1
    · refine Or.inl (fun j hj hrj to hg => ?_)
      rw [e] at hrj
      exact r2 j hj hrj to hg
    · refine Or.inr ⟨?_, ?_⟩
      · have hI' := rd_inv _ (Q1_fa (T := T) (x0 := x0) hn hSi hSj) w hI
        have hex : ∃ i, hq (rdF T n Si Sj w).1.1 i = true ∧ hq w.1 i = false := by
          apply Classical.byContradiction
          intro h9
          refine e (hq_ext (fun i => ?_))
          cases e1 : hq w.1 i with
          | true => exact r1 i e1
          | false =>
            cases e2 : hq (rdF T n Si Sj w).1.1 i with
            | false => rfl
            | true => exact absurd ⟨i, e2, e1⟩ h9
        obtain ⟨i, i1, i2⟩ := hex
        refine ctF_lt (k := i) (fun k _ h => ?_) (hI'.1 i i1) (by simp [i1]) (by simp [i2])
        cases e1 : hq w.1 k with
        | false => rfl
        | true => rw [r1 k e1] at h; exact absurd h (by decide)
      · cases e2 : (rdF T n Si Sj w).2 with
        | true => rfl
        | false => exact absurd (r3 e2) e
end FX
