/-! what is gone was moved, what is awaited is used -/
section SD
variable {T : Nat → Nat → Int32} {n : Nat} {Si : Nat → Nat → Int32} {Sj : Nat → Nat → Int64}
/-- for the cell c, and statements A closed backwards from it -/
def Q4 (n : Nat) (Si : Nat → Nat → Int32) (Sj : Nat → Nat → Int64) (c : Nat) (A : Nat → Prop) (w : WS) : Prop :=
  ∀ j, j < n → A j → hq (w.2.2.2.1 j) c = true → ∃ e, e < n ∧ hq w.1 e = true ∧ (∃ to, goes n Si e to ∧ A to) ∧ hq (Sj 3 e) c = true
theorem Q4_fa (hn : n ≤ 40) (hSi : ∀ i, i < n → okS n (Si 0 i) ∧ okS n (Si 1 i)) {c : Nat} {A : Nat → Prop} (hA : ∀ e, e < n → ∀ to, goes n Si e to → A to → hq (Sj 0 e) c = false → A e) : ∀ w j, Q4 n Si Sj c A w → j < n → bI w.1 (nI j) = true → Q4 n Si Sj c A (psF T n Si Sj j w).1 := by
  refine ps_inv hn hSi (Q4 n Si Sj c A) (fun _ _ => True) (fun w j _ _ _ => trivial) (fun w j to fb hw hj hr hg _ => ?_)
  have hr' : hq w.1 j = true := by rw [← bI_hq (by omega)]; exact hr
  intro i hi hAi hG
  have up : ∀ e, hq w.1 e = true → hq (arF Sj fb j to w).1.1 e = true := fun e he => by rw [arF_R, hq_or, he, Bool.true_or]
  have old : ∀ k, k < n → A k → hq (w.2.2.2.1 k) c = true → ∃ e, e < n ∧ hq (arF Sj fb j to w).1.1 e = true ∧ (∃ to, goes n Si e to ∧ A to) ∧ hq (Sj 3 e) c = true := fun k hk hAk hGk => by
    obtain ⟨e, e1, e2, e3, e4⟩ := hw k hk hAk hGk
    exact ⟨e, e1, up e e2, e3, e4⟩
  by_cases e : i = to
  · subst e
    have fG : (arF Sj fb j i w).1.2.2.2.1 i = w.2.2.2.1 i ||| (Sj 3 j ||| w.2.2.2.1 j &&& (Sj 0 j ^^^ (-1))) := vpl_same _ _ _
    rw [fG, hq_or, hq_or, hq_and, Bool.or_eq_true, Bool.or_eq_true, Bool.and_eq_true] at hG
    rcases hG with h | h | ⟨h1, h2⟩
    · exact old i hi hAi h
    · exact ⟨j, hj, up j hr', ⟨i, hg, hAi⟩, h⟩
    · rw [hq_not _ (hq_lt h1)] at h2
      exact old j hj (hA j hj i hg hAi (by simpa using h2)) h1
  · have eG : (arF Sj fb j to w).1.2.2.2.1 i = w.2.2.2.1 i := vpl_ne _ _ e
    rw [eG] at hG
    exact old i hi hAi hG
/-! awaited -/
def ClU (n : Nat) (Si : Nat → Nat → Int32) (v : Nat) (C : Nat → Prop) : Prop := ∀ j, j < n → C j → bt (Si 3 j) v = false → ∀ to, goes n Si j to → C to
theorem awA_or (hn : n ≤ 40) (hSi : ∀ i, i < n → okS n (Si 0 i) ∧ okS n (Si 1 i)) {aw : Nat → Int32} {e v : Nat} (he : e < n) (h : bt (awA n aw (Si 0 e) ||| awA n aw (Si 1 e)) v = true) : ∃ to, goes n Si e to ∧ bt (aw to) v = true := by
  rw [b_or, Bool.or_eq_true] at h
  unfold awA at h
  rcases h with h | h
  · rcases okS_cases (hSi e he).1 with e1 | ⟨to, ht, e1, e2⟩
    · rw [if_pos e1, b_0] at h; exact absurd h (by decide)
    · rw [if_neg (by rw [e1]; exact nI_m1 (by omega)), e2] at h
      exact ⟨to, ⟨ht, Or.inl e1⟩, h⟩
  · rcases okS_cases (hSi e he).2 with e1 | ⟨to, ht, e1, e2⟩
    · rw [if_pos e1, b_0] at h; exact absurd h (by decide)
    · rw [if_neg (by rw [e1]; exact nI_m1 (by omega)), e2] at h
      exact ⟨to, ⟨ht, Or.inr e1⟩, h⟩
theorem awR_inv {rr : Int64} (Q : (Nat → Int32) → Prop) (h : ∀ aw e, Q aw → e < n → bI rr (nI e) = true → Q (upd aw e (awN n Si e aw))) : ∀ aw, Q aw → Q (awR n Si rr aw).1 := by
  intro aw hw
  refine itF_inv0 (σ := (Nat → Int32) × Bool) (fun _ y => Q y.1) hw (fun k hk y hy => ?_)
  unfold awB
  split
  · next hr => exact h y.1 _ hy (by omega) hr
  · exact hy
theorem aw_zero {rr : Int64} {j : Nat} (hj : bI rr (nI j) = false) (hn : n ≤ 40) : (awF n Si rr (fun _ => 0)) j = 0 := by
  unfold awF
  refine fxr_inv (fun aw : Nat → Int32 => aw j = 0) (awR_inv (fun aw => aw j = 0) (fun aw e hw he hr => ?_)) _ _ _ rfl
  by_cases q : j = e
  · subst q; rw [hj] at hr; exact absurd hr (by decide)
  · exact (upd_ne _ _ q).trans hw
theorem aw_sound (hn : n ≤ 40) (hSi : ∀ i, i < n → okS n (Si 0 i) ∧ okS n (Si 1 i)) {rr : Int64} {v : Nat} (hv : v < 32) {C : Nat → Prop} (hC : ClU n Si v C) {j : Nat} (hj : j < n) (hCj : C j) (h : bt (awF n Si rr (fun _ => 0) j) v = true) : ∃ u, u < n ∧ C u ∧ bt (Si 2 u) v = true := by
  have key : ∀ j, j < n → C j → bt (awF n Si rr (fun _ => 0) j) v = true → ∃ u, u < n ∧ C u ∧ bt (Si 2 u) v = true := by
    unfold awF
    refine fxr_inv (fun aw : Nat → Int32 => ∀ j, j < n → C j → bt (aw j) v = true → ∃ u, u < n ∧ C u ∧ bt (Si 2 u) v = true) (awR_inv _ (fun aw e hw he hr => ?_)) _ _ _ (fun j _ _ h => by rw [b_0] at h; exact absurd h (by decide))
    intro i hi hCi hb
    by_cases q : i = e
    · subst q
      rw [upd_same] at hb
      unfold awN at hb
      rw [b_or, b_and, Bool.or_eq_true, Bool.and_eq_true] at hb
      rcases hb with hb | ⟨hb1, hb2⟩
      · exact ⟨i, hi, hCi, hb⟩
      · rw [b_not _ hv] at hb2
        obtain ⟨to, hg, ha⟩ := awA_or hn hSi hi hb1
        exact hw to hg.1 (hC i hi hCi (by simpa using hb2) to hg) ha
    · rw [upd_ne _ _ q] at hb
      exact hw i hi hCi hb
  exact key j hj hCj h
theorem aw_uses {rr : Int64} {j v : Nat} (hj : j < n) (hr : bI rr (nI j) = true) (h : bt (Si 2 j) v = true) : bt (awF n Si rr (fun _ => 0) j) v = true := by
  have r1 : ∀ aw : Nat → Int32, ∀ i, i < n → bI rr (nI i) = true → ∀ v, bt (Si 2 i) v = true → bt ((awR n Si rr aw).1 i) v = true := by
    intro aw
    have := itF_inv0 (σ := (Nat → Int32) × Bool) (f := awB n Si rr) (n := n) (fun k y => ∀ i, n - k ≤ i → i < n → bI rr (nI i) = true → ∀ v, bt (Si 2 i) v = true → bt (y.1 i) v = true) (x := (aw, false)) (fun i h1 h2 => absurd h1 (by omega)) (fun k hk y hy => by
      intro i h1 h2 h3 v h4
      unfold awB
      split
      · show bt (upd y.1 (n - (k + 1)) (awN n Si (n - (k + 1)) y.1) i) v = true
        by_cases q : i = n - (k + 1)
        · rw [q, upd_same]
          unfold awN
          rw [b_or, ← q, h4, Bool.true_or]
        · rw [upd_ne _ _ q]
          exact hy i (by omega) h2 h3 v h4
      · next hr9 =>
        by_cases q : i = n - (k + 1)
        · rw [q] at h3; exact absurd h3 hr9
        · exact hy i (by omega) h2 h3 v h4)
    intro i hi h3 v h4
    exact this i (by omega) hi h3 v h4
  have : ∀ i, i < n → bI rr (nI i) = true → ∀ v, bt (Si 2 i) v = true → bt (awF n Si rr (fun _ => 0) i) v = true := by
    unfold awF
    show ∀ i, i < n → bI rr (nI i) = true → ∀ v, bt (Si 2 i) v = true → bt (fxr (awR n Si rr) 999999 (awR n Si rr (fun _ => 0)).1 (awR n Si rr (fun _ => 0)).2 i) v = true
    exact fxr_inv (fun aw : Nat → Int32 => ∀ i, i < n → bI rr (nI i) = true → ∀ v, bt (Si 2 i) v = true → bt (aw i) v = true) (fun w _ => r1 w) _ _ _ (r1 _)
  exact this j hj hr v h
/-! the next use -/
theorem bO_hq (hn : n ≤ 40) {x : Int32} (hx : okS n x) (i : Nat) : hq (bO x) i = true ↔ ∃ to, to < n ∧ x = nI to ∧ i = to := by
  unfold bO
  rcases okS_cases hx with e | ⟨to, ht, e, e2⟩
  · rw [if_pos e, hq_0]
    exact ⟨fun h => absurd h (by decide), fun ⟨to, ht, h, _⟩ => absurd h (okS_not e hn ht)⟩
  · rw [if_neg (by rw [e]; exact nI_m1 (by omega)), e]
    show hq (b1 to) i = true ↔ _
    rw [hq_b1 (by omega)]
    constructor
    · intro h; exact ⟨to, ht, rfl, of_decide_eq_true h⟩
    · rintro ⟨to', ht', h, rfl⟩
      exact decide_eq_true ((nI_eq (by omega) (by omega)).mp h.symm)
theorem bOO (hn : n ≤ 40) (hSi : ∀ i, i < n → okS n (Si 0 i) ∧ okS n (Si 1 i)) {k : Nat} (hk : k < n) (i : Nat) : hq (bO (Si 0 k) ||| bO (Si 1 k)) i = true ↔ goes n Si k i := by
  rw [hq_or, Bool.or_eq_true, bO_hq hn (hSi k hk).1, bO_hq hn (hSi k hk).2]
  constructor
  · rintro (⟨to, h1, h2, rfl⟩ | ⟨to, h1, h2, rfl⟩)
    · exact ⟨h1, Or.inl h2⟩
    · exact ⟨h1, Or.inr h2⟩
  · rintro ⟨h1, h2 | h2⟩
    · exact Or.inl ⟨i, h1, h2, rfl⟩
    · exact Or.inr ⟨i, h1, h2, rfl⟩
theorem nu_round (hn : n ≤ 40) (hSi : ∀ i, i < n → okS n (Si 0 i) ∧ okS n (Si 1 i)) {h : Nat} (hh : h < 32) (c : Int64) :
    (∀ i, hq c i = true → hq (itF (nuB Si (nI h)) n 0 c) i = true) ∧ (∀ k, k < n → hq c k = true → bt (Si 3 k) h = false → ∀ to, goes n Si k to → hq (itF (nuB Si (nI h)) n 0 c) to = true) := by
  have := itF_inv0 (σ := Int64) (f := nuB Si (nI h)) (n := n) (fun k y => (∀ i, hq c i = true → hq y i = true) ∧ (∀ j, j < k → hq c j = true → bt (Si 3 j) h = false → ∀ to, goes n Si j to → hq y to = true)) (x := c) ⟨fun i h => h, fun j hj => absurd hj (Nat.not_lt_zero j)⟩ (fun k hk y hy => by
    obtain ⟨y1, y2⟩ := hy
    unfold nuB
    split
    · split
      · next hs =>
        refine ⟨y1, fun j hj hc hb to hg => ?_⟩
        by_cases e : j = k
        · subst e
          rw [bI_bt hh] at hs
          rw [hs] at hb; exact absurd hb (by decide)
        · exact y2 j (by omega) hc hb to hg
      · refine ⟨fun i hi => by rw [hq_or, y1 i hi, Bool.true_or], fun j hj hc hb to hg => ?_⟩
        by_cases e : j = k
        · subst e
          rw [hq_or, (bOO hn hSi hk to).mpr hg, Bool.or_true]
        · rw [hq_or, y2 j (by omega) hc hb to hg, Bool.true_or]
    · next hr =>
      refine ⟨y1, fun j hj hc hb to hg => ?_⟩
      by_cases e : j = k
      · subst e
        exact absurd (by rw [bI_hq (by omega)]; exact y1 j hc) hr
      · exact y2 j (by omega) hc hb to hg)
  exact this
theorem nu_keep (hn : n ≤ 40) (hSi : ∀ i, i < n → okS n (Si 0 i) ∧ okS n (Si 1 i)) {h : Nat} (Q : Int64 → Prop) (hQ : ∀ c k, Q c → k < n → hq c k = true → Q (c ||| (bO (Si 0 k) ||| bO (Si 1 k)))) : ∀ c, Q c → Q (nuR n Si (nI h) c).1 := by
  intro c hc
  refine itF_inv0 (σ := Int64) (fun _ y => Q y) hc (fun k hk y hy => ?_)
  unfold nuB
  split
  · next hr =>
    split
    · exact hy
    · exact hQ y k hy hk (by rw [← bI_hq (by omega)]; exact hr)
  · exact hy
theorem nu_clo (hn : n ≤ 40) (hSi : ∀ i, i < n → okS n (Si 0 i) ∧ okS n (Si 1 i)) {h j : Nat} (hh : h < 32) (hj : j < n) :
    ClU n Si h (fun i => hq (nuC n Si j (nI h)) i = true) := by
  have hI : ∀ c, (∀ i, hq c i = true → i < n) → ∀ i, hq (nuR n Si (nI h) c).1 i = true → i < n := nu_keep hn hSi (fun c => ∀ i, hq c i = true → i < n) (fun c k hc hk _ i hi => by
    rw [hq_or, Bool.or_eq_true] at hi
    rcases hi with hi | hi
    · exact hc i hi
    · exact ((bOO hn hSi hk i).mp hi).1)
  have hb0 : decide (¬ b1 j = 0) = true := decide_eq_true (b1_nz (by omega))
  unfold nuC
  rw [hb0]
  have := fxr_closed (f := nuR n Si (nI h)) (fun c => ctF (fun i => !hq c i) n) (fun c => ∀ i, hq c i = true → i < n) (fun c => ClU n Si h (fun i => hq c i = true)) hI (fun c hc hcl => ?_) (fun c hc => ?_) 1000000 (b1 j) (fun i hi => by
    rw [hq_b1 (by omega)] at hi; rw [of_decide_eq_true hi]; exact hj) (Nat.lt_of_le_of_lt (ctF_le _ _) (by omega))
  · exact this
  · have e : (nuR n Si (nI h) c).1 = c := by
      have := itF_inv0 (σ := Int64) (f := nuB Si (nI h)) (n := n) (fun _ y => y = c) (x := c) rfl (fun k hk y hy => by
        unfold nuB
        rw [hy]
        split
        · next hr =>
          split
          · rfl
          · next hs =>
            refine hq_ext (fun i => ?_)
            rw [hq_or]
            cases e2 : hq (bO (Si 0 k) ||| bO (Si 1 k)) i with
            | false => rw [Bool.or_false]
            | true =>
              have h9 : hq c i = true := hcl k hk (show hq c k = true by rw [← bI_hq (by omega)]; exact hr) (by
                cases e3 : bt (Si 3 k) h with
                | false => rfl
                | true => exact absurd (by rw [bI_bt hh]; exact e3) hs) i ((bOO hn hSi hk i).mp e2)
              rw [h9]; rfl
        · rfl)
      exact this
    rw [e]; exact hcl
  · obtain ⟨r1, r2⟩ := nu_round hn hSi hh c
    by_cases e : itF (nuB Si (nI h)) n 0 c = c
    · refine Or.inl (fun k hk hck hb to hg => ?_)
      have e' : (nuR n Si (nI h) c).1 = c := e
      rw [e'] at hck
      exact r2 k hk hck hb to hg
    · refine Or.inr ⟨?_, decide_eq_true e⟩
      have hex : ∃ i, hq (itF (nuB Si (nI h)) n 0 c) i = true ∧ hq c i = false := by
        apply Classical.byContradiction
        intro h9
        refine e (hq_ext (fun i => ?_))
        cases e1 : hq c i with
        | true => exact r1 i e1
        | false =>
          cases e2 : hq (itF (nuB Si (nI h)) n 0 c) i with
          | false => rfl
          | true => exact absurd ⟨i, e2, e1⟩ h9
      obtain ⟨i, i1, i2⟩ := hex
      refine ctF_lt (k := i) (fun k _ h9 => ?_) (hI c hc i i1) (by show (!hq (itF (nuB Si (nI h)) n 0 c) i) = false; rw [i1]; rfl) (by simp [i2])
      cases e1 : hq c k with
      | false => rfl
      | true =>
        have : hq (nuR n Si (nI h) c).1 k = true := r1 k e1
        rw [this] at h9; exact absurd h9 (by decide)
theorem nu_at (hn : n ≤ 40) (hSi : ∀ i, i < n → okS n (Si 0 i) ∧ okS n (Si 1 i)) {h j : Nat} (hj : j < n) : hq (nuC n Si j (nI h)) j = true := by
  unfold nuC
  refine fxr_inv (fun c : Int64 => hq c j = true) (nu_keep hn hSi _ (fun c k hc _ _ => by rw [hq_or, hc, Bool.true_or])) _ _ _ ?_
  rw [hq_b1 (by omega)]; exact decide_eq_true rfl
theorem nu_R (hn : n ≤ 40) (hSi : ∀ i, i < n → okS n (Si 0 i) ∧ okS n (Si 1 i)) {R : Int64} (hR : ClR n Si R) {h j : Nat} (hj : j < n) (hRj : hq R j = true) : ∀ i, hq (nuC n Si j (nI h)) i = true → hq R i = true := by
  unfold nuC
  refine fxr_inv (fun c : Int64 => ∀ i, hq c i = true → hq R i = true) (nu_keep hn hSi _ (fun c k hc hk hck i hi => ?_)) _ _ _ (fun i hi => ?_)
  · rw [hq_or, Bool.or_eq_true] at hi
    rcases hi with hi | hi
    · exact hc i hi
    · exact hR k hk (hc k hck) i ((bOO hn hSi hk i).mp hi)
  · rw [hq_b1 (by omega)] at hi; rw [of_decide_eq_true hi]; exact hRj
/-- what is awaited is used, further on -/
theorem nu_some (hn : n ≤ 40) (hSi : ∀ i, i < n → okS n (Si 0 i) ∧ okS n (Si 1 i)) {R : Int64} (hR : ClR n Si R) {h j : Nat} (hh : h < 6) (hj : j < n) (hRj : hq R j = true) (ha : bt (awF n Si R (fun _ => 0) j) h = true) :
    ∃ u, u < n ∧ nuF n Si j (nI h) = nI u ∧ hq R u = true ∧ bt (awF n Si R (fun _ => 0) u) h = true := by
  obtain ⟨u0, hu0, hc0, hb0⟩ := aw_sound hn hSi (by omega) (nu_clo hn hSi (by omega) hj) hj (nu_at hn hSi hj) ha
  have hp : nuP Si (nI h) (nuC n Si j (nI h)) u0 = true := by
    unfold nuP
    rw [bI_hq (by omega), bI_bt (by omega), hc0, hb0]; rfl
  have hs : ¬ sch (nuP Si (nI h) (nuC n Si j (nI h))) n 0 = -1 := sch_has (by omega) hu0 hp
  obtain ⟨u, hu, hpu, e⟩ := sch_some hs
  unfold nuP at hpu
  rw [Bool.and_eq_true, bI_hq (by omega), bI_bt (by omega)] at hpu
  have hRu := nu_R hn hSi hR hj hRj u hpu.1
  exact ⟨u, hu, e, hRu, aw_uses hu (by rw [bI_hq (by omega)]; exact hRu) hpu.2⟩
/-! the mover -/
theorem askA_or (hn : n ≤ 40) (hSi : ∀ i, i < n → okS n (Si 0 i) ∧ okS n (Si 1 i)) {A : Nat → Int64} {e c : Nat} (he : e < n) : hq (smH Si A e) c = true ↔ ∃ to, goes n Si e to ∧ hq (A to) c = true := by
  have one : ∀ x : Int32, okS n x → (hq (askA A x) c = true ↔ ∃ to, to < n ∧ x = nI to ∧ hq (A to) c = true) := by
    intro x hx
    unfold askA
    rcases okS_cases hx with e1 | ⟨to, ht, e1, e2⟩
    · rw [if_pos e1, hq_0]
      exact ⟨fun h => absurd h (by decide), fun ⟨to, ht, h, _⟩ => absurd h (okS_not e1 hn ht)⟩
    · rw [if_neg (by rw [e1]; exact nI_m1 (by omega)), e2]
      constructor
      · intro h; exact ⟨to, ht, e1, h⟩
      · rintro ⟨to', ht', h, h2⟩
        rw [(nI_eq (by omega) (by omega)).mp (e1.symm.trans h)]; exact h2
  unfold smH
  rw [hq_or, Bool.or_eq_true, one _ (hSi e he).1, one _ (hSi e he).2]
  constructor
  · rintro (⟨to, h1, h2, h3⟩ | ⟨to, h1, h2, h3⟩)
    · exact ⟨to, ⟨h1, Or.inl h2⟩, h3⟩
    · exact ⟨to, ⟨h1, Or.inr h2⟩, h3⟩
  · rintro ⟨to, ⟨h1, h2 | h2⟩, h3⟩
    · exact Or.inl ⟨to, h1, h2, h3⟩
    · exact Or.inr ⟨to, h1, h2, h3⟩
def ClA (n : Nat) (Si : Nat → Nat → Int32) (Sj : Nat → Nat → Int64) (rr : Int64) (c : Nat) (w : SM) : Prop :=
  (∀ e, e < n → ∀ to, goes n Si e to → hq (w.1 to) c = true → hq (Sj 0 e) c = false → hq (w.1 e) c = true) ∧
  (∀ e, e < n → bI rr (nI e) = true → ∀ to, goes n Si e to → hq (w.1 to) c = true → hq (Sj 3 e) c = true → hq w.2 e = true)
theorem sm_round (hn : n ≤ 40) (hSi : ∀ i, i < n → okS n (Si 0 i) ∧ okS n (Si 1 i)) {rr : Int64} {c : Nat} (w : SM) :
    let y := smR n Si Sj rr w
    (∀ i, hq (w.1 i) c = true → hq (y.1.1 i) c = true) ∧ (∀ i, n ≤ i → y.1.1 i = w.1 i) ∧ (∀ i, hq w.2 i = true → hq y.1.2 i = true) ∧
    (∀ e, e < n → ∀ to, goes n Si e to → hq (w.1 to) c = true → (hq (Sj 0 e) c = false → hq (y.1.1 e) c = true) ∧ (bI rr (nI e) = true → hq (Sj 3 e) c = true → hq y.1.2 e = true)) ∧
    (y.2 = false → ∀ i, y.1.1 i = w.1 i) ∧
    (ClA n Si Sj rr c w → ∀ i, hq (y.1.1 i) c = hq (w.1 i) c) := by
  have key := itF_inv0 (σ := SM × Bool) (f := smB n Si Sj rr) (n := n) (fun k y => (∀ i, hq (w.1 i) c = true → hq (y.1.1 i) c = true) ∧ (∀ i, n ≤ i → y.1.1 i = w.1 i) ∧ (∀ i, hq w.2 i = true → hq y.1.2 i = true) ∧
    (∀ e, n - k ≤ e → e < n → ∀ to, goes n Si e to → hq (w.1 to) c = true → (hq (Sj 0 e) c = false → hq (y.1.1 e) c = true) ∧ (bI rr (nI e) = true → hq (Sj 3 e) c = true → hq y.1.2 e = true)) ∧
    (y.2 = false → ∀ i, y.1.1 i = w.1 i) ∧ (ClA n Si Sj rr c w → ∀ i, hq (y.1.1 i) c = hq (w.1 i) c)) (x := (w, false))
    ⟨fun i h => h, fun i _ => rfl, fun i h => h, fun e h1 h2 => absurd h1 (by omega), fun _ i => rfl, fun _ i => rfl⟩ (fun k hk y hy => by
      obtain ⟨y1, y2, y3, y4, y5, y6⟩ := hy
      have hE : n - (k + 1) < n := by omega
      generalize hEe : n - (k + 1) = E at hE
      have eb : smB n Si Sj rr k y = ((vp_updL y.1.1 E (y.1.1 E ||| smK Si Sj y.1.1 E), smM Si Sj rr y.1.1 y.1.2 E), y.2 || adB (y.1.1 E) (smK Si Sj y.1.1 E)) := by
        unfold smB; rw [hEe]
      rw [eb]
      have hA' : ∀ i, hq (y.1.1 i) c = true → hq (vp_updL y.1.1 E (y.1.1 E ||| smK Si Sj y.1.1 E) i) c = true := fun i h => by
        by_cases q : i = E
        · subst q; rw [vpl_same, hq_or, h, Bool.true_or]
        · rw [vpl_ne _ _ q]; exact h
      have hm' : ∀ i, hq y.1.2 i = true → hq (smM Si Sj rr y.1.1 y.1.2 E) i = true := fun i h => by
        unfold smM
        split
        · split
          · exact h
          · rw [hq_or, h, Bool.true_or]
        · exact h
      refine ⟨fun i h => hA' i (y1 i h), fun i hi => ?_, fun i h => hm' i (y3 i h), fun e he1 he2 to hg ht => ?_, fun hf i => ?_, fun hcl i => ?_⟩
      · show vp_updL _ _ _ i = _
        rw [vpl_ne _ _ (by omega)]; exact y2 i hi
      · by_cases q : e = E
        · rw [q] at hg
          have hb : hq (smH Si y.1.1 E) c = true := (askA_or hn hSi hE).mpr ⟨to, hg, y1 to ht⟩
          refine ⟨fun hc => ?_, fun hr h3 => ?_⟩
          · show hq (vp_updL _ _ _ e) c = true
            rw [q, vpl_same, hq_or]
            unfold smK
            rw [hq_and, hb, hq_not _ (hq_lt hb), ← q, hc]
            simp
          · show hq (smM Si Sj rr y.1.1 y.1.2 E) e = true
            unfold smM
            rw [← q, if_pos hr, if_neg (an1.mpr ⟨c, by rw [q]; exact hb, h3⟩), hq_or, hq_b1 (by omega), decide_eq_true rfl, Bool.or_true]
        · obtain ⟨z1, z2⟩ := y4 e (by omega) he2 to hg ht
          exact ⟨fun hc => hA' e (z1 hc), fun hr h3 => hm' e (z2 hr h3)⟩
      · have hf' : (y.2 || adB (y.1.1 E) (smK Si Sj y.1.1 E)) = false := hf
        rw [Bool.or_eq_false_iff] at hf'
        have h1 : y.1.1 E ||| smK Si Sj y.1.1 E = y.1.1 E := by
          have := of_decide_eq_false hf'.2
          exact Classical.not_not.mp this
        show vp_updL y.1.1 E (y.1.1 E ||| smK Si Sj y.1.1 E) i = _
        rw [h1, vpl_id]; exact y5 hf'.1 i
      · show hq (vp_updL y.1.1 E (y.1.1 E ||| smK Si Sj y.1.1 E) i) c = _
        by_cases q : i = E
        · rw [q, vpl_same, hq_or, ← q, y6 hcl i]
          cases e1 : hq (w.1 i) c with
          | true => rw [Bool.true_or]
          | false =>
            rw [Bool.false_or]
            cases e2 : hq (smK Si Sj y.1.1 i) c with
            | false => rfl
            | true =>
              unfold smK at e2
              rw [hq_and, Bool.and_eq_true] at e2
              obtain ⟨to, hg, ht⟩ := (askA_or hn hSi (by rw [q]; exact hE)).mp e2.1
              rw [hq_not _ (hq_lt e2.1)] at e2
              rw [y6 hcl to] at ht
              have := hcl.1 i (by rw [q]; exact hE) to hg ht (by simpa using e2.2)
              rw [e1] at this; exact absurd this (by decide)
        · rw [vpl_ne _ _ q]; exact y6 hcl i)
  obtain ⟨k1, k2, k3, k4, k5, k6⟩ := key
  exact ⟨k1, k2, k3, fun e he to hg ht => k4 e (by omega) he to hg ht, k5, k6⟩
theorem sm_clo (hn : n ≤ 40) (hSi : ∀ i, i < n → okS n (Si 0 i) ∧ okS n (Si 1 i)) {rr : Int64} {c j : Nat} {x : Int64} : ClA n Si Sj rr c (smW n Si Sj rr j x) := by
  unfold smW
  refine fxr_closed (f := smR n Si Sj rr) (fun w : SM => ctF (fun i => !hq (w.1 i) c) n) (fun _ => True) (ClA n Si Sj rr c) (fun _ _ => trivial) (fun w _ hcl => ?_) (fun w _ => ?_) 1000000 _ trivial (Nat.lt_of_le_of_lt (ctF_le _ _) (by omega))
  · obtain ⟨k1, k2, k3, k4, k5, k6⟩ := sm_round (Sj := Sj) (rr := rr) (c := c) hn hSi w
    have e := k6 hcl
    refine ⟨fun e1 he to hg ht hc => ?_, fun e1 he hr to hg ht h3 => ?_⟩
    · rw [e] at ht
      exact (k4 e1 he to hg ht).1 hc
    · rw [e] at ht
      exact (k4 e1 he to hg ht).2 hr h3
  · obtain ⟨k1, k2, k3, k4, k5, k6⟩ := sm_round (Sj := Sj) (rr := rr) (c := c) hn hSi w
    by_cases h : ∀ i, hq ((smR n Si Sj rr w).1.1 i) c = hq (w.1 i) c
    · refine Or.inl ⟨fun e1 he to hg ht hc => ?_, fun e1 he hr to hg ht h3 => ?_⟩
      · rw [h] at ht
        exact (k4 e1 he to hg ht).1 hc
      · rw [h] at ht
        exact (k4 e1 he to hg ht).2 hr h3
    · have hex : ∃ i, hq ((smR n Si Sj rr w).1.1 i) c = true ∧ hq (w.1 i) c = false := by
        apply Classical.byContradiction
        intro h9
        refine h (fun i => ?_)
        cases e1 : hq (w.1 i) c with
        | true => exact k1 i e1
        | false =>
          cases e2 : hq ((smR n Si Sj rr w).1.1 i) c with
          | false => rfl
          | true => exact absurd ⟨i, e2, e1⟩ h9
      obtain ⟨i, i1, i2⟩ := hex
      have hi : i < n := by
        rcases Nat.lt_or_ge i n with h1 | h1
        · exact h1
        · rw [k2 i h1, i2] at i1; exact absurd i1 (by decide)
      refine Or.inr ⟨ctF_lt (k := i) (fun k _ h9 => ?_) hi (by simp [i1]) (by simp [i2]), ?_⟩
      · cases e1 : hq (w.1 k) c with
        | false => rfl
        | true => rw [k1 k e1] at h9; exact absurd h9 (by decide)
      · cases e2 : (smR n Si Sj rr w).2 with
        | true => rfl
        | false => exact absurd (fun i => by rw [k5 e2 i]) h
theorem sm_at (hn : n ≤ 40) (hSi : ∀ i, i < n → okS n (Si 0 i) ∧ okS n (Si 1 i)) {rr : Int64} {c j : Nat} {x : Int64} (hx : hq x c = true) : hq ((smW n Si Sj rr j x).1 j) c = true := by
  unfold smW
  refine fxr_inv (fun w : SM => hq (w.1 j) c = true) (fun w hw => ?_) _ _ _ ?_
  · exact (sm_round (Sj := Sj) (rr := rr) (c := c) hn hSi w).1 j hw
  · show hq (vp_updL _ j x j) c = true
    rw [vpl_same]; exact hx
theorem bcF_nn (x : Int64) : ∃ k, k < 128 ∧ bcF x = nI k := pk_andE _ 7 (by decide)
/-- what can be gone was moved by a statement that is found -/
theorem sm_some (hn : n ≤ 40) (hSi : ∀ i, i < n → okS n (Si 0 i) ∧ okS n (Si 1 i)) {w : WS} {j : Nat} {x : Int64} (hj : j < n) (hw : ∀ (c : Nat) (A : Nat → Prop), (∀ e, e < n → ∀ to, goes n Si e to → A to → hq (Sj 0 e) c = false → A e) → Q4 n Si Sj c A w) (hG : ¬ w.2.2.2.1 j &&& x = 0) : ∃ k, k < 128 ∧ smF n Si Sj w.1 j x = nI k := by
  obtain ⟨c, c1, c2⟩ := an1.mp hG
  have hcl := sm_clo (Sj := Sj) (rr := w.1) (c := c) (j := j) (x := x) hn hSi
  obtain ⟨e, e1, e2, ⟨to, e3, e4⟩, e5⟩ := hw c (fun i => hq ((smW n Si Sj w.1 j x).1 i) c = true) hcl.1 j hj (sm_at hn hSi c2) c1
  have hm := hcl.2 e e1 (by rw [bI_hq (by omega)]; exact e2) to e3 e4 e5
  unfold smF smI
  rw [if_neg (fun h => by rw [h, hq_0] at hm; exact absurd hm (by decide))]
  exact bcF_nn _
end SD
