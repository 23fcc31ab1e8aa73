/-! longs as sets of CORDS -/
theorem oJ (n : Nat) : (Int64.ofInt (n : Int)).toBitVec = BitVec.ofNat 64 n := by
  show BitVec.ofInt 64 (n : Int) = BitVec.ofNat 64 n
  exact BitVec.ofInt_natCast 64 n
theorem tJ {w : Int64} {n : Nat} (h : w.toBitVec = BitVec.ofNat 64 n) (hn : n < 9223372036854775808) : w.toInt = (n : Int) := by
  show w.toBitVec.toInt = _
  have e : (BitVec.ofNat 64 n).toNat = n := by rw [BitVec.toNat_ofNat]; exact Nat.mod_eq_of_lt (by omega)
  rw [h, BitVec.toInt_eq_toNat_of_lt (by rw [e]; omega), e]
theorem b64_and {x y : Nat} (hx : x < 1152921504606846976) : b64 (fun a b => a &&& b) (x : Int) (y : Int) = ((x &&& y : Nat) : Int) := by
  unfold b64
  refine tJ ?_ (by have := @Nat.and_le_left x y; omega)
  rw [Int64.toBitVec_and, oJ, oJ, BitVec.ofNat_and]
theorem b64_or {x y : Nat} (hx : x < 1152921504606846976) (hy : y < 1152921504606846976) : b64 (fun a b => a ||| b) (x : Int) (y : Int) = ((x ||| y : Nat) : Int) := by
  unfold b64
  refine tJ ?_ (by have := @Nat.or_lt_two_pow x y 60 hx hy; omega)
  rw [Int64.toBitVec_or, oJ, oJ, BitVec.ofNat_or]
theorem s64_shl : ∀ c : Fin 60, s64 (fun a b => a <<< b) 1 ((c.1 : Nat) : Int) = ((2 ^ c.1 : Nat) : Int) := by decide +kernel
theorem s64_bit {c : Nat} (hc : c < 60) : s64 (fun a b => a <<< b) 1 ((c : Nat) : Int) = ((2 ^ c : Nat) : Int) := s64_shl ⟨c, hc⟩
theorem sh64 : ∀ c : Fin 60, ((Int32.ofInt ((c.1 : Nat) : Int)).toInt64 &&& 63).toBitVec.smod 64 = BitVec.ofNat 64 c.1 := by decide +kernel
theorem s64_shr {v c : Nat} (hv : v < 1152921504606846976) (hc : c < 60) : s64 (fun a b => a >>> b) (v : Int) ((c : Nat) : Int) = ((v / 2 ^ c : Nat) : Int) := by
  unfold s64
  refine tJ ?_ (by have := Nat.div_le_self v (2 ^ c); omega)
  have e : (BitVec.ofNat 64 v).toNat = v := by rw [BitVec.toNat_ofNat]; exact Nat.mod_eq_of_lt (by omega)
  have e2 : (BitVec.ofNat 64 c).toNat = c := by rw [BitVec.toNat_ofNat]; exact Nat.mod_eq_of_lt (by omega)
  rw [Int64.toBitVec_shiftRight, oJ]
  have h1 := sh64 ⟨c, hc⟩
  dsimp only at h1
  rw [h1]
  show (BitVec.ofNat 64 v).sshiftRight (BitVec.ofNat 64 c).toNat = _
  rw [e2, BitVec.sshiftRight_eq_of_msb_false (by rw [BitVec.msb_eq_false_iff_two_mul_lt, e]; omega)]
  apply BitVec.eq_of_toNat_eq
  rw [BitVec.toNat_ushiftRight, e, BitVec.toNat_ofNat, Nat.shiftRight_eq_div_pow]
  exact (Nat.mod_eq_of_lt (by have := Nat.div_le_self v (2 ^ c); omega)).symm
/-- the CORDS of a SUM, as bits -/
def abN (R : RD) (s : Nat) : Nat → Nat
  | 0 => 2 ^ Sw R s
  | k + 1 => abN R s k ||| 2 ^ Sq R s k
theorem p60 {c : Nat} (h : c < 60) : 2 ^ c < 1152921504606846976 := (Nat.pow_lt_pow_right (a := 2) (by decide) h : 2 ^ c < 2 ^ 60)
theorem abN_lt {R : RD} (hV : VR R) {s : Nat} (hs : s < Sn R) : ∀ k, k ≤ Sp R s → abN R s k < 1152921504606846976 := by
  have hn := hV.1
  intro k
  induction k with
  | zero => intro _; exact p60 (by have := (hV.2.2.2.2.2.1 s hs).1; omega)
  | succ k ih =>
    intro hk
    exact @Nat.or_lt_two_pow (abN R s k) (2 ^ Sq R s k) 60 (ih (by omega)) (p60 (by have := hV.2.2.2.2.2.2 s k hs (by omega); omega))
theorem abN_tb {R : RD} {s x : Nat} : ∀ k, (Nat.testBit (abN R s k) x = true ↔ x = Sw R s ∨ ∃ j, j < k ∧ x = Sq R s j) := by
  intro k
  induction k with
  | zero =>
    show Nat.testBit (2 ^ Sw R s) x = true ↔ _
    rw [Nat.testBit_two_pow, decide_eq_true_iff]
    constructor
    · intro h; exact Or.inl h.symm
    · intro h
      rcases h with h | ⟨j, hj, _⟩
      · exact h.symm
      · omega
  | succ k ih =>
    show Nat.testBit (abN R s k ||| 2 ^ Sq R s k) x = true ↔ _
    rw [Nat.testBit_or, Bool.or_eq_true_iff, ih, Nat.testBit_two_pow, decide_eq_true_iff]
    constructor
    · intro h
      rcases h with (h | ⟨j, hj, h⟩) | h
      · exact Or.inl h
      · exact Or.inr ⟨j, by omega, h⟩
      · exact Or.inr ⟨k, by omega, h.symm⟩
    · intro h
      rcases h with h | ⟨j, hj, h⟩
      · exact Or.inl (Or.inl h)
      · by_cases e : j = k
        · subst e; exact Or.inr h.symm
        · exact Or.inl (Or.inr ⟨j, by omega, h⟩)
def abA (R : RD) (s : Nat) : Nat := abN R s (Sp R s)
theorem abA_tb {R : RD} {s x : Nat} : Nat.testBit (abA R s) x = true ↔ inS R s x := abN_tb (Sp R s)
theorem and_ne {u v : Nat} : (u &&& v ≠ 0) ↔ ∃ x, Nat.testBit u x = true ∧ Nat.testBit v x = true := by
  constructor
  · intro h
    obtain ⟨x, hx⟩ := Nat.exists_testBit_of_ne_zero h
    rw [Nat.testBit_and, Bool.and_eq_true_iff] at hx
    exact ⟨x, hx⟩
  · intro ⟨x, h1, h2⟩ h
    have : Nat.testBit (u &&& v) x = true := by rw [Nat.testBit_and, h1, h2]; rfl
    rw [h, Nat.zero_testBit] at this
    cases this
def wdN (R : RD) (u : Nat) : Nat → Nat
  | 0 => u
  | s + 1 => if 2 ≤ Sp R s ∧ abA R s &&& u ≠ 0 then wdN R u s ||| abA R s else wdN R u s
theorem wdN_lt {R : RD} (hV : VR R) {u : Nat} (hu : u < 1152921504606846976) : ∀ s, s ≤ Sn R → wdN R u s < 1152921504606846976 := by
  intro s
  induction s with
  | zero => intro _; exact hu
  | succ s ih =>
    intro hs
    show (if 2 ≤ Sp R s ∧ abA R s &&& u ≠ 0 then wdN R u s ||| abA R s else wdN R u s) < _
    split
    · exact @Nat.or_lt_two_pow (wdN R u s) (abA R s) 60 (ih (by omega)) (abN_lt hV (by omega) _ (Nat.le_refl _))
    · exact ih (by omega)
theorem wdN_tb {R : RD} {u x : Nat} : ∀ s, (Nat.testBit (wdN R u s) x = true ↔ Nat.testBit u x = true ∨ ∃ t, t < s ∧ 2 ≤ Sp R t ∧ (∃ y, inS R t y ∧ Nat.testBit u y = true) ∧ inS R t x) := by
  intro s
  induction s with
  | zero => exact ⟨Or.inl, fun h => h.elim id (fun ⟨t, ht, _⟩ => absurd ht (Nat.not_lt_zero _))⟩
  | succ s ih =>
    show Nat.testBit (if 2 ≤ Sp R s ∧ abA R s &&& u ≠ 0 then wdN R u s ||| abA R s else wdN R u s) x = true ↔ _
    by_cases g : 2 ≤ Sp R s ∧ abA R s &&& u ≠ 0
    · rw [if_pos g, Nat.testBit_or, Bool.or_eq_true_iff, ih, abA_tb]
      obtain ⟨y, hy1, hy2⟩ := and_ne.mp g.2
      constructor
      · intro h
        rcases h with (h | ⟨t, h1, h2⟩) | h
        · exact Or.inl h
        · exact Or.inr ⟨t, by omega, h2⟩
        · exact Or.inr ⟨s, by omega, g.1, ⟨y, abA_tb.mp hy1, hy2⟩, h⟩
      · intro h
        rcases h with h | ⟨t, h1, h2, h3, h4⟩
        · exact Or.inl (Or.inl h)
        · by_cases e : t = s
          · subst e; exact Or.inr h4
          · exact Or.inl (Or.inr ⟨t, by omega, h2, h3, h4⟩)
    · rw [if_neg g, ih]
      constructor
      · intro h
        rcases h with h | ⟨t, h1, h2⟩
        · exact Or.inl h
        · exact Or.inr ⟨t, by omega, h2⟩
      · intro h
        rcases h with h | ⟨t, h1, h2, ⟨y, hy1, hy2⟩, h4⟩
        · exact Or.inl h
        · by_cases e : t = s
          · subst e; exact absurd ⟨h2, and_ne.mpr ⟨y, abA_tb.mpr hy1, hy2⟩⟩ g
          · exact Or.inr ⟨t, by omega, h2, ⟨y, hy1, hy2⟩, h4⟩
def rcN (R : RD) (c : Nat) : Nat → Nat
  | 0 => 2 ^ c
  | k + 1 => wdN R (rcN R c k) (Sn R)
theorem rcN_lt {R : RD} (hV : VR R) {c : Nat} (hc : c < Cn R) : ∀ k, rcN R c k < 1152921504606846976 := by
  have hn := hV.1
  intro k
  induction k with
  | zero => exact p60 (by omega)
  | succ k ih => exact wdN_lt hV ih (Sn R) (Nat.le_refl _)
theorem rcN_tb {R : RD} {c : Nat} : ∀ k x, (Nat.testBit (rcN R c k) x = true ↔ Rch R c k x) := by
  intro k
  induction k with
  | zero =>
    intro x
    show Nat.testBit (2 ^ c) x = true ↔ x = c
    rw [Nat.testBit_two_pow, decide_eq_true_iff]
    exact ⟨Eq.symm, Eq.symm⟩
  | succ k ih =>
    intro x
    refine (wdN_tb (Sn R)).trans ?_
    show _ ↔ tch R (Rch R c k) x
    unfold tch
    rw [ih]
    constructor
    · intro h
      rcases h with h | ⟨t, h1, h2, ⟨y, hy1, hy2⟩, h4⟩
      · exact Or.inl h
      · exact Or.inr ⟨t, h1, h2, ⟨y, hy1, (ih y).mp hy2⟩, h4⟩
    · intro h
      rcases h with h | ⟨t, h1, h2, ⟨y, hy1, hy2⟩, h4⟩
      · exact Or.inl h
      · exact Or.inr ⟨t, h1, h2, ⟨y, hy1, (ih y).mpr hy2⟩, h4⟩
theorem rcN_fix {R : RD} {c k : Nat} (h : wdN R (rcN R c k) (Sn R) = rcN R c k) : ∀ d, k ≤ d → rcN R c d = rcN R c k := by
  intro d
  induction d with
  | zero => intro hk; rw [show k = 0 by omega]
  | succ d ih =>
    intro hk
    by_cases e : k = d + 1
    · rw [e]
    · show wdN R (rcN R c d) (Sn R) = _
      rw [ih (by omega)]
      exact h
theorem shr1 {v c : Nat} : ((v / 2 ^ c) &&& 1 ≠ 0) ↔ Nat.testBit v c = true := by
  constructor
  · exact tb1
  · intro h g
    rw [tb0 g] at h
    cases h
