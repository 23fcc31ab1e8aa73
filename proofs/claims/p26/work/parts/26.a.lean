/-! found: the sets within the mates, taken one behind the other, are all sets, rising -/
theorem land2 {a b α β : Nat} (hα : α < 2) (hβ : β < 2) : (2 * a + α) &&& (2 * b + β) = 2 * (a &&& b) + α * β := by
  have h1 : ((2 * a + α) &&& (2 * b + β)) / 2 = a &&& b := by
    rw [Nat.and_div_two, show (2 * a + α) / 2 = a by omega, show (2 * b + β) / 2 = b by omega]
  have h2 : ((2 * a + α) &&& (2 * b + β)) % 2 = α * β := by
    rw [show (2 : Nat) = 2 ^ 1 from rfl, Nat.and_mod_two_pow, show (2 ^ 1 * a + α) % 2 ^ 1 = α by omega, show (2 ^ 1 * b + β) % 2 ^ 1 = β by omega]
    rcases (show α = 0 ∨ α = 1 by omega) with e | e <;> rcases (show β = 0 ∨ β = 1 by omega) with e2 | e2 <;> subst e <;> subst e2 <;> rfl
  omega
/-- the k-th set within M -/
def dpk : Nat → Nat → Nat → Nat
  | 0, _, _ => 0
  | w + 1, M, k => if M % 2 = 1 then 2 * dpk w (M / 2) (k / 2) + k % 2 else 2 * dpk w (M / 2) k
def pcw : Nat → Nat → Nat
  | 0, _ => 0
  | w + 1, M => M % 2 + pcw w (M / 2)
theorem dpk_1 {w M k : Nat} (h : M % 2 = 1) : dpk (w + 1) M k = 2 * dpk w (M / 2) (k / 2) + k % 2 := if_pos h
theorem dpk_0 {w M k : Nat} (h : M % 2 = 0) : dpk (w + 1) M k = 2 * dpk w (M / 2) k := if_neg (by omega)
theorem pcw_1 {w M : Nat} (h : M % 2 = 1) : 2 ^ pcw (w + 1) M = 2 * 2 ^ pcw w (M / 2) := by
  show 2 ^ (M % 2 + pcw w (M / 2)) = _
  rw [h, Nat.add_comm, Nat.pow_succ, Nat.mul_comm]
theorem pcw_0 {w M : Nat} (h : M % 2 = 0) : 2 ^ pcw (w + 1) M = 2 ^ pcw w (M / 2) := by
  show 2 ^ (M % 2 + pcw w (M / 2)) = _
  rw [h, Nat.zero_add]
theorem dpk_z : ∀ w M, dpk w M 0 = 0 := by
  intro w
  induction w with
  | zero => intro M; rfl
  | succ w ih =>
    intro M
    rcases (show M % 2 = 1 ∨ M % 2 = 0 by omega) with h | h
    · rw [dpk_1 h, show 0 / 2 = 0 from rfl, ih]
    · rw [dpk_0 h, ih]
theorem dpk_mono : ∀ w M j k, j < k → k < 2 ^ pcw w M → dpk w M j < dpk w M k := by
  intro w
  induction w with
  | zero =>
    intro M j k h1 h2
    have h2 : k < 1 := h2
    omega
  | succ w ih =>
    intro M j k h1 h2
    rcases (show M % 2 = 1 ∨ M % 2 = 0 by omega) with h | h
    · rw [pcw_1 h] at h2
      rw [dpk_1 h, dpk_1 h]
      by_cases g : j / 2 = k / 2
      · rw [g]; omega
      · have := ih (M / 2) (j / 2) (k / 2) (by omega) (by omega)
        omega
    · rw [pcw_0 h] at h2
      rw [dpk_0 h, dpk_0 h]
      have := ih (M / 2) j k h1 h2
      omega
theorem two_w (w : Nat) : 2 ^ (w + 1) = 2 * 2 ^ w := by rw [Nat.pow_succ, Nat.mul_comm]
theorem dpk_fix : ∀ w M k, M < 2 ^ w → (dpk w M k + (2 ^ w - 1 - M)) &&& M = dpk w M k := by
  intro w
  induction w with
  | zero =>
    intro M k h
    have h : M < 1 := h
    rw [show M = 0 by omega, Nat.and_zero]
    rfl
  | succ w ih =>
    intro M k h
    rw [two_w] at h ⊢
    have hM : M = 2 * (M / 2) + M % 2 := by omega
    rcases (show M % 2 = 1 ∨ M % 2 = 0 by omega) with g | g
    · have h1 := ih (M / 2) (k / 2) (by omega)
      rw [dpk_1 g]
      have e1 : 2 * dpk w (M / 2) (k / 2) + k % 2 + (2 * 2 ^ w - 1 - M) = 2 * (dpk w (M / 2) (k / 2) + (2 ^ w - 1 - M / 2)) + k % 2 := by omega
      have e2 : M = 2 * (M / 2) + 1 := by omega
      rw [e1]
      conv => lhs; rw [e2]
      rw [show (2 * (M / 2) + 1) / 2 = M / 2 by omega, land2 (by omega) (by omega), h1, Nat.mul_one]
    · have h1 := ih (M / 2) k (by omega)
      rw [dpk_0 g]
      have e1 : 2 * dpk w (M / 2) k + (2 * 2 ^ w - 1 - M) = 2 * (dpk w (M / 2) k + (2 ^ w - 1 - M / 2)) + 1 := by omega
      have e2 : M = 2 * (M / 2) + 0 := by omega
      rw [e1]
      conv => lhs; rw [e2]
      rw [show (2 * (M / 2) + 0) / 2 = M / 2 by omega, land2 (by omega) (by omega), h1, Nat.mul_zero, Nat.add_zero]
theorem dpk_nxt : ∀ w M k, M < 2 ^ w → k + 1 < 2 ^ pcw w M → (dpk w M k + (2 ^ w - M)) &&& M = dpk w M (k + 1) := by
  intro w
  induction w with
  | zero =>
    intro M k h h2
    have h2 : k + 1 < 1 := h2
    omega
  | succ w ih =>
    intro M k h h2
    rw [two_w] at h ⊢
    rcases (show M % 2 = 1 ∨ M % 2 = 0 by omega) with g | g
    · rw [pcw_1 g] at h2
      rw [dpk_1 g, dpk_1 g]
      have e2 : M = 2 * (M / 2) + 1 := by omega
      rcases (show k % 2 = 0 ∨ k % 2 = 1 by omega) with g2 | g2
      · have h1 := dpk_fix w (M / 2) (k / 2) (by omega)
        have e1 : 2 * dpk w (M / 2) (k / 2) + k % 2 + (2 * 2 ^ w - M) = 2 * (dpk w (M / 2) (k / 2) + (2 ^ w - 1 - M / 2)) + 1 := by omega
        rw [e1]
        conv => lhs; rw [e2]
        rw [show (2 * (M / 2) + 1) / 2 = M / 2 by omega, land2 (by omega) (by omega), h1, show (k + 1) / 2 = k / 2 by omega, show (k + 1) % 2 = 1 by omega]
      · have h1 := ih (M / 2) (k / 2) (by omega) (by omega)
        have e1 : 2 * dpk w (M / 2) (k / 2) + k % 2 + (2 * 2 ^ w - M) = 2 * (dpk w (M / 2) (k / 2) + (2 ^ w - M / 2)) + 0 := by omega
        rw [e1]
        conv => lhs; rw [e2]
        rw [show (2 * (M / 2) + 1) / 2 = M / 2 by omega, land2 (by omega) (by omega), h1, show (k + 1) / 2 = k / 2 + 1 by omega, show (k + 1) % 2 = 0 by omega]
    · rw [pcw_0 g] at h2
      rw [dpk_0 g, dpk_0 g]
      have h1 := ih (M / 2) k (by omega) h2
      have e1 : 2 * dpk w (M / 2) k + (2 * 2 ^ w - M) = 2 * (dpk w (M / 2) k + (2 ^ w - M / 2)) + 0 := by omega
      have e2 : M = 2 * (M / 2) + 0 := by omega
      rw [e1]
      conv => lhs; rw [e2]
      rw [show (2 * (M / 2) + 0) / 2 = M / 2 by omega, land2 (by omega) (by omega), h1, Nat.mul_zero, Nat.add_zero]
theorem dpk_sub : ∀ w M k, M < 2 ^ w → dpk w M k &&& (2 ^ w - 1 - M) = 0 := by
  intro w
  induction w with
  | zero => intro M k h; exact Nat.zero_and _
  | succ w ih =>
    intro M k h
    rw [two_w] at h ⊢
    rcases (show M % 2 = 1 ∨ M % 2 = 0 by omega) with g | g
    · rw [dpk_1 g, show 2 * 2 ^ w - 1 - M = 2 * (2 ^ w - 1 - M / 2) + 0 by omega, land2 (by omega) (by omega), ih (M / 2) (k / 2) (by omega)]
      omega
    · rw [dpk_0 g, show 2 * dpk w (M / 2) k = 2 * dpk w (M / 2) k + 0 from rfl, show 2 * 2 ^ w - 1 - M = 2 * (2 ^ w - 1 - M / 2) + 1 by omega, land2 (by omega) (by omega), ih (M / 2) k (by omega)]
theorem dpk_all : ∀ w M b, M < 2 ^ w → b < 2 ^ w → b &&& (2 ^ w - 1 - M) = 0 → ∃ k, k < 2 ^ pcw w M ∧ dpk w M k = b := by
  intro w
  induction w with
  | zero =>
    intro M b h1 h2 h3
    have h2 : b < 1 := h2
    exact ⟨0, (by show 0 < 1; omega), (show 0 = b by omega)⟩
  | succ w ih =>
    intro M b h1 h2 h3
    rw [two_w] at h1 h2 h3
    have eb : b = 2 * (b / 2) + b % 2 := by omega
    rcases (show M % 2 = 1 ∨ M % 2 = 0 by omega) with g | g
    · rw [eb, show 2 * 2 ^ w - 1 - M = 2 * (2 ^ w - 1 - M / 2) + 0 by omega, land2 (by omega) (by omega)] at h3
      obtain ⟨k, hk, e⟩ := ih (M / 2) (b / 2) (by omega) (by omega) (by omega)
      refine ⟨2 * k + b % 2, by rw [pcw_1 g]; omega, ?_⟩
      rw [dpk_1 g, show (2 * k + b % 2) / 2 = k by omega, e, show (2 * k + b % 2) % 2 = b % 2 by omega]
      omega
    · rw [eb, show 2 * 2 ^ w - 1 - M = 2 * (2 ^ w - 1 - M / 2) + 1 by omega, land2 (by omega) (by omega)] at h3
      obtain ⟨k, hk, e⟩ := ih (M / 2) (b / 2) (by omega) (by omega) (by omega)
      refine ⟨k, by rw [pcw_0 g]; exact hk, ?_⟩
      rw [dpk_0 g, e]
      omega
theorem pcw_12 (M : Nat) : pcw 12 M = pc12 M := by
  unfold pc12
  simp only [pcw]
  omega
theorem bsN_dpk {M : Nat} (hM : M < 4096) : ∀ k, k < 2 ^ pc12 M → bsN M k = dpk 12 M k := by
  intro k
  induction k with
  | zero => intro _; exact (dpk_z 12 M).symm
  | succ k ih =>
    intro hk
    show (bsN M k + (4096 - M)) &&& M = _
    rw [ih (by omega)]
    exact dpk_nxt 12 M k hM (by rw [pcw_12]; exact hk)
theorem accM_skip {R : RD} {g M : Nat} {t : List (Nat × Nat)} {lo : Nat} : ∀ hi, lo ≤ hi → (∀ b, lo < b → b ≤ hi → qmB R g M b = false) → accM R g M t hi = accM R g M t lo := by
  intro hi
  induction hi with
  | zero => intro h _; rw [show lo = 0 by omega]
  | succ hi ih =>
    intro h hq
    by_cases e : lo = hi + 1
    · rw [e]
    · show (accM R g M t hi).bind _ = _
      rw [ih (by omega) (fun b h1 h2 => hq b h1 (by omega)), hq (hi + 1) (by omega) (Nat.le_refl _)]
      cases accM R g M t lo <;> rfl
theorem smB_or {R : RD} {g : Nat} : ∀ k, (orV R g k = 0 ↔ smB R g k = false) := by
  intro k
  induction k with
  | zero => exact ⟨fun _ => rfl, fun _ => rfl⟩
  | succ k ih =>
    show orV R g k ||| gnu R g k = 0 ↔ (smB R g k || decide (0 < gnu R g k)) = false
    rw [Nat.or_eq_zero_iff, Bool.or_eq_false_iff, ih]
    constructor
    · intro ⟨h1, h2⟩; exact ⟨h1, decide_eq_false (by omega)⟩
    · intro ⟨h1, h2⟩; exact ⟨h1, by have := of_decide_eq_false h2; omega⟩
theorem qm_ql {R : RD} {g M b : Nat} (hs : smB R g (glen R (g : Int)) = true) (hb : b &&& (4095 - M) = 0) : qmB R g M b = qlB R g b := by
  unfold qmB qlB igB
  rw [decide_eq_true hb, hs, Bool.and_true, Bool.true_and]
theorem accM_S {R : RD} {g M : Nat} {t : List (Nat × Nat)} (hM : M < 4096) (hs : smB R g (glen R (g : Int)) = true) : ∀ k, k < 2 ^ pc12 M → accM R g M t (dpk 12 M k) = accS R g M t k := by
  intro k
  induction k with
  | zero => intro _; rw [dpk_z]; rfl
  | succ k ih =>
    intro hk
    have hk' : k + 1 < 2 ^ pcw 12 M := by rw [pcw_12]; exact hk
    have h1 := dpk_mono 12 M k (k + 1) (by omega) hk'
    obtain ⟨c, hc⟩ : ∃ c, dpk 12 M (k + 1) = c + 1 := ⟨dpk 12 M (k + 1) - 1, by omega⟩
    have h2 : accM R g M t c = accS R g M t k := by
      rw [← ih (by omega)]
      refine accM_skip c (by omega) (fun b g1 g2 => ?_)
      cases hq : qmB R g M b
      · rfl
      · exfalso
        unfold qmB at hq
        have h3 := of_decide_eq_true (Bool.and_eq_true_iff.mp hq).1
        have h9 : dpk 12 M (k + 1) ≤ M := by rw [← bsN_dpk hM (k + 1) hk]; exact bsN_le _ _
        obtain ⟨j, hj, e⟩ := dpk_all 12 M b hM (show b < 4096 by omega) h3
        rcases Nat.lt_trichotomy j k with g3 | g3 | g3
        · have := dpk_mono 12 M j k g3 (by omega); omega
        · rw [g3] at e; omega
        · rcases Nat.lt_trichotomy j (k + 1) with g4 | g4 | g4
          · omega
          · rw [g4] at e; omega
          · have := dpk_mono 12 M (k + 1) j g4 hj; omega
    have h4 : dpk 12 M (k + 1) &&& (4095 - M) = 0 := dpk_sub 12 M (k + 1) hM
    have h5 := bsN_dpk hM (k + 1) hk
    rw [hc] at h4 h5 ⊢
    show (accM R g M t c).bind _ = (accS R g M t k).bind _
    rw [h2, qm_ql hs h4, h5]
theorem accM_G {R : RD} {g n : Nat} {t : List (Nat × Nat)} (hn : n = 4095) (hu : usb R g = true) : accM R g (mateN R g 12) t n = bif cbw R g then accS R g (mateN R g 12) t (setN R g) else some t := by
  have hM := mateN_lt R g 12 (by omega)
  unfold cbw
  rw [hu, Bool.true_and]
  cases hs : smB R g (glen R (g : Int))
  · rw [decide_eq_false (p := orV R g (glen R (g : Int)) ≠ 0) (fun h => h ((smB_or _).mpr hs))]
    show _ = some t
    refine accM_skip (lo := 0) n (by omega) (fun b _ _ => ?_)
    unfold qmB igB
    rw [hs, Bool.and_false, Bool.and_false, Bool.and_false]
  · rw [decide_eq_true (p := orV R g (glen R (g : Int)) ≠ 0) (fun h => by rw [(smB_or _).mp h] at hs; cases hs)]
    show _ = accS R g (mateN R g 12) t (setN R g)
    have hp : 0 < 2 ^ pc12 (mateN R g 12) := Nat.pow_pos (by omega)
    have hsn : setN R g < 2 ^ pc12 (mateN R g 12) := by unfold setN; omega
    rw [← accM_S hM hs (setN R g) hsn]
    have h9 : dpk 12 (mateN R g 12) (setN R g) ≤ mateN R g 12 := by rw [← bsN_dpk hM _ hsn]; exact bsN_le _ _
    refine accM_skip n (by omega) (fun b g1 g2 => ?_)
    cases hq : qmB R g (mateN R g 12) b
    · rfl
    · exfalso
      unfold qmB at hq
      have h3 := of_decide_eq_true (Bool.and_eq_true_iff.mp hq).1
      obtain ⟨j, hj, e⟩ := dpk_all 12 (mateN R g 12) b hM (show b < 4096 by omega) h3
      rw [pcw_12] at hj
      by_cases g3 : j = setN R g
      · rw [g3] at e; omega
      · have := dpk_mono 12 (mateN R g 12) j (setN R g) (by unfold setN; unfold setN at g3; omega) (by rw [pcw_12]; exact hsn)
        omega
theorem bind_x {α β : Type} {o : Option α} {f g : α → Option β} (h : ∀ t, f t = g t) : o.bind f = o.bind g := by
  rw [show f = g from funext h]
theorem stp_G {R : RD} {g n : Nat} (hn : n = 4095) (t : List (Nat × Nat)) : (bif usb R g then accM R g (mateN R g 12) t n else some t) = (bif cbw R g then accS R g (mateN R g 12) t (setN R g) else some t) := by
  cases hu : usb R g
  · have h1 : cbw R g = false := by unfold cbw; rw [hu]; rfl
    rw [h1]
    rfl
  · exact accM_G hn hu
theorem accF_G (R : RD) : ∀ g, accF R g = accG R g := by
  intro g
  induction g with
  | zero => rfl
  | succ g ih =>
    have h1 : accF R (g + 1) = (accF R g).bind fun t => bif usb R g then accM R g (mateN R g 12) t 4095 else some t := by rw [accF]
    have h2 : accG R (g + 1) = (accG R g).bind fun t => bif cbw R g then accS R g (mateN R g 12) t (setN R g) else some t := by rw [accG]
    rw [h1, h2, ih]
    exact bind_x (stp_G rfl)
theorem mfL_fdL (S : Nat → RD) (r : Int) (l : List (Nat × Nat)) : mfL S r l = fdL S r l := by
  unfold mfL fdL mfnL fndL
  rw [accF_G]
theorem mfn_fnd (R : RD) : mfnV R = fndV R := by
  unfold mfnV fndV
  rw [accF_G]
  cases accG R 12 <;> rfl
theorem mfV_fdV (S : Nat → RD) (r : Int) : mfV S r = fdV S r := by
  unfold mfV fdV
  rw [mfn_fnd]
