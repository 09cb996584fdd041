/-! bits -/
def hq (x : Int64) (i : Nat) : Bool := x.toBitVec.getLsbD i
theorem hq_or (x y : Int64) (i : Nat) : hq (x ||| y) i = (hq x i || hq y i) := by unfold hq; rw [Int64.toBitVec_or, BitVec.getLsbD_or]
theorem hq_and (x y : Int64) (i : Nat) : hq (x &&& y) i = (hq x i && hq y i) := by unfold hq; rw [Int64.toBitVec_and, BitVec.getLsbD_and]
theorem hq_xor (x y : Int64) (i : Nat) : hq (x ^^^ y) i = (hq x i ^^ hq y i) := by unfold hq; rw [Int64.toBitVec_xor, BitVec.getLsbD_xor]
theorem hq_0 (i : Nat) : hq 0 i = false := BitVec.getLsbD_zero
theorem hq_m1 {i : Nat} (h : i < 64) : hq (-1) i = true := (show ∀ i, i < 64 → hq (-1) i = true by decide +kernel) i h
theorem hq_big {x : Int64} {i : Nat} (h : 64 ≤ i) : hq x i = false := BitVec.getLsbD_of_ge _ _ h
theorem hq_lt {x : Int64} {i : Nat} (h : hq x i = true) : i < 64 := by
  rcases Nat.lt_or_ge i 64 with h1 | h1
  · exact h1
  · rw [hq_big h1] at h; exact absurd h (by decide)
theorem hq_ext {x y : Int64} (h : ∀ i, hq x i = hq y i) : x = y := Int64.toBitVec_inj.mp (BitVec.eq_of_getLsbD_eq (fun i _ => h i))
theorem hq_z {x : Int64} (h : ∀ i, hq x i = false) : x = 0 := hq_ext (fun i => (h i).trans (hq_0 i).symm)
theorem hq_nz {x : Int64} (h : ¬ x = 0) : ∃ i, hq x i = true := by
  apply Classical.byContradiction
  intro h9
  exact h (hq_z (fun i => by
    cases e : hq x i with
    | false => rfl
    | true => exact absurd ⟨i, e⟩ h9))
theorem hq_not (x : Int64) {i : Nat} (h : i < 64) : hq (x ^^^ (-1)) i = !hq x i := by rw [hq_xor, hq_m1 h, Bool.xor_true]
theorem s_l64 : ∀ n, n < 64 → ((((nI n).toInt64 &&& 63).toBitVec.smod 64)).toNat = n := by decide +kernel
theorem b1_bv : ∀ l, l < 64 → (b1 l).toBitVec = BitVec.twoPow 64 l := by decide +kernel
theorem hq_b1 {l : Nat} (hl : l < 64) (i : Nat) : hq (b1 l) i = decide (i = l) := by
  unfold hq
  rw [b1_bv l hl, BitVec.getLsbD_twoPow]
  by_cases e : i = l
  · subst e; simp [hl]
  · rw [decide_eq_false e, decide_eq_false (fun h : l = i => e h.symm), Bool.and_false]
theorem bI_hq {x : Int64} {i : Nat} (hi : i < 64) : bI x (nI i) = hq x i := by
  have e : (x >>> ((nI i).toInt64 &&& 63)).toBitVec = x.toBitVec.sshiftRight i := by
    rw [Int64.toBitVec_shiftRight]
    show x.toBitVec.sshiftRight (((nI i).toInt64 &&& 63).toBitVec.smod 64).toNat = _
    rw [s_l64 i hi]
  have h : (x >>> ((nI i).toInt64 &&& 63) &&& 1 = 0) ↔ hq x i = false := by
    rw [← Int64.toBitVec_inj, Int64.toBitVec_and, e]
    show x.toBitVec.sshiftRight i &&& 1#64 = 0#64 ↔ _
    constructor
    · intro h
      have t := congrArg (fun z => z.getLsbD 0) h
      rw [BitVec.getLsbD_and, BitVec.getLsbD_sshiftRight] at t
      simp [hi] at t
      exact t
    · intro h
      apply BitVec.eq_of_getLsbD_eq
      intro k hk
      rw [BitVec.getLsbD_and]
      cases k with
      | zero =>
        unfold hq at h
        rw [BitVec.getLsbD_sshiftRight, if_pos (show i + 0 < 64 by omega), Nat.add_zero, h]
        rfl
      | succ k => simp
  unfold bI
  cases e9 : hq x i with
  | false => exact decide_eq_false (fun h9 => h9 (h.mpr e9))
  | true => exact decide_eq_true (fun h9 => by rw [h.mp h9] at e9; exact absurd e9 (by decide))
def bt (x : Int32) (i : Nat) : Bool := x.toBitVec.getLsbD i
theorem b_or (x y : Int32) (i : Nat) : bt (x ||| y) i = (bt x i || bt y i) := by unfold bt; rw [Int32.toBitVec_or, BitVec.getLsbD_or]
theorem b_and (x y : Int32) (i : Nat) : bt (x &&& y) i = (bt x i && bt y i) := by unfold bt; rw [Int32.toBitVec_and, BitVec.getLsbD_and]
theorem b_xor (x y : Int32) (i : Nat) : bt (x ^^^ y) i = (bt x i ^^ bt y i) := by unfold bt; rw [Int32.toBitVec_xor, BitVec.getLsbD_xor]
theorem b_0 (i : Nat) : bt 0 i = false := BitVec.getLsbD_zero
theorem b_m1 : ∀ i, i < 32 → bt (-1) i = true := by decide +kernel
theorem b_not (x : Int32) {i : Nat} (h : i < 32) : bt (x ^^^ (-1)) i = !bt x i := by rw [b_xor, b_m1 i h, Bool.xor_true]
theorem bI_bt {y : Int32} {i : Nat} (hi : i < 32) : bI y.toInt64 (nI i) = bt y i := by
  rw [bI_hq (by omega)]
  unfold hq bt
  rw [Int32.toBitVec_toInt64, BitVec.getLsbD_signExtend]
  simp [hi, show i < 64 by omega]
theorem s_l32 : ∀ n, n < 32 → ((nI n &&& 31).toBitVec.smod 32).toNat = n := by decide +kernel
theorem aw1 {y : Int32} {i : Nat} (hi : i < 32) : (y >>> (nI i &&& 31)) &&& 1 = bz (bt y i) := by
  have e : (y >>> (nI i &&& 31)).toBitVec = y.toBitVec.sshiftRight i := by
    rw [Int32.toBitVec_shiftRight]
    show y.toBitVec.sshiftRight ((nI i &&& 31).toBitVec.smod 32).toNat = _
    rw [s_l32 i hi]
  apply Int32.toBitVec_inj.mp
  rw [Int32.toBitVec_and, e]
  apply BitVec.eq_of_getLsbD_eq
  intro k hk
  rw [BitVec.getLsbD_and]
  cases e9 : bt y i with
  | false =>
    cases k with
    | zero =>
      unfold bt at e9
      rw [BitVec.getLsbD_sshiftRight, if_pos (show i + 0 < 32 by omega), Nat.add_zero, e9]
      rfl
    | succ k =>
      have h1 : (1 : Int32).toBitVec.getLsbD (k + 1) = false := by
        show (1#32).getLsbD (k + 1) = false
        simp
      have h2 : (bz false).toBitVec.getLsbD (k + 1) = false := by
        show (0#32).getLsbD (k + 1) = false
        exact BitVec.getLsbD_zero
      rw [h1, h2, Bool.and_false]
  | true =>
    cases k with
    | zero =>
      unfold bt at e9
      rw [BitVec.getLsbD_sshiftRight, if_pos (show i + 0 < 32 by omega), Nat.add_zero, e9]
      rfl
    | succ k =>
      have h1 : (1 : Int32).toBitVec.getLsbD (k + 1) = false := by
        show (1#32).getLsbD (k + 1) = false
        simp
      have h2 : (bz true).toBitVec.getLsbD (k + 1) = false := h1
      rw [h1, h2, Bool.and_false]
theorem bz_e1 {b : Bool} (h : bz b = 1) : b = true := by cases b <;> first | rfl | (revert h; decide)
theorem bz_n1 {b : Bool} (h : ¬ bz b = 1) : b = false := by cases b <;> first | rfl | exact absurd rfl h
/-! the cells of a place -/
theorem c7 : ∀ v, v < 6 → (7 : Int64) <<< ((nI (3 * v)).toInt64 &&& 63) = b1 (3 * v) ||| b1 (3 * v + 1) ||| b1 (3 * v + 2) := by decide +kernel
theorem c3q : ∀ v, v < 6 → ∀ q, q < 3 → (1 : Int64) <<< ((nI (3 * v) + nI q).toInt64 &&& 63) = b1 (3 * v + q) := by decide +kernel
theorem cO_1w {T : Nat → Nat → Int32} {v : Nat} (hv : v < 6) (h : T 0 v = 1) : cO T v (-1) = b1 (3 * v) ||| b1 (3 * v + 1) ||| b1 (3 * v + 2) := by
  unfold cO; rw [if_pos h, if_pos rfl]; exact c7 v hv
theorem cO_1q {T : Nat → Nat → Int32} {v q : Nat} (hv : v < 6) (h : T 0 v = 1) (hq3 : q < 3) : cO T v (nI q) = b1 (3 * v + q) := by
  unfold cO; rw [if_pos h, if_neg (nI_m1 (by omega))]; exact c3q v hv q hq3
theorem cO_n {T : Nat → Nat → Int32} {v : Nat} {q : Int32} (h : ¬ T 0 v = 1) : cO T v q = b1 (3 * v) := by
  unfold cO; rw [if_neg h]; rfl
theorem cO_nz {T : Nat → Nat → Int32} {v : Nat} (hv : v < 6) : hq (cO T v (-1)) (3 * v) = true := by
  by_cases h : T 0 v = 1
  · rw [cO_1w hv h, hq_or, hq_or, hq_b1 (by omega)]; simp
  · rw [cO_n h, hq_b1 (by omega)]; simp
theorem cO_lt {T : Nat → Nat → Int32} {v i : Nat} (hv : v < 6) (h9 : hq (cO T v (-1)) i = true) : i < 18 := by
  by_cases h : T 0 v = 1
  · rw [cO_1w hv h, hq_or, hq_or, hq_b1 (by omega), hq_b1 (by omega), hq_b1 (by omega)] at h9
    simp at h9; omega
  · rw [cO_n h, hq_b1 (by omega)] at h9
    have := of_decide_eq_true h9; omega
/-- a place's cells are among the whole's -/
theorem cO_sub {T : Nat → Nat → Int32} {v i : Nat} {q : Int32} (hv : v < 6) (hq9 : q = -1 ∨ ∃ p, p < 3 + (if T 0 v = 1 then 0 else 1) ∧ q = nI p) (h9 : hq (cO T v q) i = true) : hq (cO T v (-1)) i = true := by
  by_cases h : T 0 v = 1
  · rcases hq9 with rfl | ⟨p, hp, rfl⟩
    · exact h9
    · rw [if_pos h] at hp
      rw [cO_1q hv h hp, hq_b1 (by omega)] at h9
      have := of_decide_eq_true h9
      rw [cO_1w hv h, hq_or, hq_or, hq_b1 (by omega), hq_b1 (by omega), hq_b1 (by omega)]
      simp; omega
  · rw [cO_n h] at h9; rw [cO_n h]; exact h9
/-! what statesOf says -/
theorem an0 {x y : Int64} : (x &&& y = 0) ↔ ∀ i, ¬ (hq x i = true ∧ hq y i = true) := by
  constructor
  · intro h i ⟨h1, h2⟩
    have := congrArg (fun z => hq z i) h
    simp only [hq_and, h1, h2, hq_0] at this
    exact absurd this (by decide)
  · intro h
    refine hq_z (fun i => ?_)
    rw [hq_and]
    cases e1 : hq x i <;> cases e2 : hq y i <;> first | rfl | exact absurd ⟨e1, e2⟩ (h i)
theorem an1 {x y : Int64} : (¬ x &&& y = 0) ↔ ∃ i, hq x i = true ∧ hq y i = true := by
  rw [an0]
  constructor
  · intro h
    apply Classical.byContradiction
    intro h9
    exact h (fun i hi => h9 ⟨i, hi⟩)
  · rintro ⟨i, hi⟩ h
    exact h i hi
theorem sO_1 {U M G : Nat → Int64} {j : Nat} {x : Int64} : (¬ sO U M G j x &&& 1 = 0) ↔ ¬ U j &&& x = 0 := by
  unfold sO; repeat' split
  all_goals (constructor <;> intro h <;> first | assumption | (exact absurd (by decide) h) | decide | (intro h2; contradiction))
theorem sO_4 {U M G : Nat → Int64} {j : Nat} {x : Int64} : (¬ sO U M G j x &&& 4 = 0) ↔ ¬ G j &&& x = 0 := by
  unfold sO; repeat' split
  all_goals (constructor <;> intro h <;> first | assumption | (exact absurd (by decide) h) | decide | (intro h2; contradiction))
theorem sO_z {U M G : Nat → Int64} {j : Nat} {x : Int64} (h1 : U j &&& x = 0) (h2 : M j &&& x = 0) (h3 : G j &&& x = 0) : sO U M G j x = 0 := by
  unfold sO; rw [if_pos h1, if_pos h2, if_pos h3]
theorem sO_p {U M G : Nat → Int64} {j : Nat} {x : Int64} (h : ¬ (U j &&& x = 0 ∧ M j &&& x = 0 ∧ G j &&& x = 0)) : ∃ k, 1 ≤ k ∧ k ≤ 7 ∧ sO U M G j x = nI k := by
  unfold sO; repeat' split
  all_goals first | exact ⟨1, by decide, by decide, rfl⟩ | exact ⟨2, by decide, by decide, rfl⟩ | exact ⟨3, by decide, by decide, rfl⟩ | exact ⟨4, by decide, by decide, rfl⟩ | exact ⟨5, by decide, by decide, rfl⟩ | exact ⟨6, by decide, by decide, rfl⟩ | exact ⟨7, by decide, by decide, rfl⟩ | exact absurd ⟨by assumption, by assumption, by assumption⟩ h
theorem an_or {x a b : Int64} : (x &&& (a ||| b) = 0) ↔ (x &&& a = 0 ∧ x &&& b = 0) := by
  rw [an0, an0, an0]
  constructor
  · intro h
    exact ⟨fun i hi => h i ⟨hi.1, by rw [hq_or, hi.2, Bool.true_or]⟩, fun i hi => h i ⟨hi.1, by rw [hq_or, hi.2, Bool.or_true]⟩⟩
  · rintro ⟨h1, h2⟩ i ⟨h3, h4⟩
    rw [hq_or, Bool.or_eq_true] at h4
    rcases h4 with h4 | h4
    · exact h1 i ⟨h3, h4⟩
    · exact h2 i ⟨h3, h4⟩
theorem sO_or {U M G : Nat → Int64} {j : Nat} {a b : Int64} : sO U M G j (a ||| b) = sO U M G j a ||| sO U M G j b := by
  unfold sO
  simp only [an_or]
  by_cases h1 : U j &&& a = 0 <;> by_cases h2 : U j &&& b = 0 <;> by_cases h3 : M j &&& a = 0 <;> by_cases h4 : M j &&& b = 0 <;> by_cases h5 : G j &&& a = 0 <;> by_cases h6 : G j &&& b = 0 <;> simp only [h1, h2, h3, h4, h5, h6, and_true, and_false, true_and, false_and, if_true, if_false, not_true, not_false_iff] <;> decide
theorem sO_fields {T : Nat → Nat → Int32} {U M G : Nat → Int64} {j v : Nat} (hv : v < 6) (h : T 0 v = 1) : sO U M G j (cO T v 0) ||| sO U M G j (cO T v 1) ||| sO U M G j (cO T v 2) = sO U M G j (cO T v (-1)) := by
  rw [cO_1w hv h, sO_or, sO_or]
  rw [show cO T v 0 = b1 (3 * v) from cO_1q (q := 0) hv h (by decide), show cO T v 1 = b1 (3 * v + 1) from cO_1q (q := 1) hv h (by decide), show cO T v 2 = b1 (3 * v + 2) from cO_1q (q := 2) hv h (by decide)]
