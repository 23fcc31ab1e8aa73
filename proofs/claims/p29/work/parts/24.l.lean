/-- a GROUP that found may take: it has CORDS, and all of them are sound -/
def usb (R : RD) (g : Nat) : Bool := decide (0 < glen R (g : Int)) && (gmem R (g : Int) (Cn R)).all (sdR R)
def gnu (R : RD) (g j : Nat) : Nat := Rvl R ((gmem R (g : Int) (Cn R)).getD j 0)
def orV (R : RD) (g : Nat) : Nat → Nat
  | 0 => 0
  | k + 1 => orV R g k ||| gnu R g k
def cbw (R : RD) (g : Nat) : Bool := usb R g && decide (orV R g (glen R (g : Int)) ≠ 0)
def mateB (R : RD) (g k : Nat) : Bool := decide (k ≠ g) && (usb R k && decide (glen R (k : Int) = glen R (g : Int)))
def mateN (R : RD) (g : Nat) : Nat → Nat
  | 0 => 0
  | k + 1 => bif mateB R g k then mateN R g k ||| 1 * 2 ^ k else mateN R g k
theorem mateN_lt (R : RD) (g : Nat) : ∀ k, k ≤ 12 → mateN R g k < 4096 := by
  intro k
  induction k with
  | zero => intro _; show 0 < 4096; omega
  | succ k ih =>
    intro hk
    have h1 := ih (by omega)
    have hp : 2 ^ k < 2 ^ 12 := Nat.pow_lt_pow_right (by omega) (by omega)
    show (bif mateB R g k then _ else _) < _
    cases mateB R g k
    · exact h1
    · exact @Nat.or_lt_two_pow (mateN R g k) (1 * 2 ^ k) 12 h1 (by omega)
theorem gnu_b {R : RD} (hV : VR R) {g j : Nat} (hj : j < glen R (g : Int)) : gnu R g j ≤ 900000000 := Rvl_b hV (gmem_lt _ (gN_mem hj))
theorem orV_lt {R : RD} (hV : VR R) {g : Nat} : ∀ k, k ≤ glen R (g : Int) → orV R g k < 1073741824 := by
  intro k
  induction k with
  | zero => intro _; show 0 < 1073741824; omega
  | succ k ih =>
    intro hk
    have h1 := ih (by omega)
    have h2 := gnu_b hV (show k < glen R (g : Int) by omega)
    exact @Nat.or_lt_two_pow (orV R g k) (gnu R g k) 30 h1 (by omega)
/-- what gather leaves -/
def GA (R : RD) (m : Mm) (u : Nat) : Prop := GC R (Cn R) m ∧ m 10 5 = (u : Int) ∧ UN R (Cn R) u
theorem GA.of {R : RD} {m m' : Mm} {u : Nat} (h : GA R m u) (e : ∀ b j, (b = 10 ∧ j = 5) ∨ b = 13 ∨ b = 14 → m' b j = m b j) : GA R m' u := by
  obtain ⟨h1, h2, h3⟩ := h
  refine ⟨fun g hg => ⟨(e _ _ (by omega)).trans (h1 g hg).1, fun j hj => (e _ _ (by omega)).trans ((h1 g hg).2 j hj)⟩, (e _ _ (by omega)).trans h2, h3⟩
theorem GA.len {R : RD} {m : Mm} {u g : Nat} (h : GA R m u) (hg : g < 12) : m 13 g = (glen R (g : Int) : Int) := (h.1 g hg).1
theorem GA.num {R : RD} {m : Mm} {u g j : Nat} (h : GA R m u) (hg : g < 12) (hj : j < glen R (g : Int)) : m 14 (60 * g + j) = (gnu R g j : Int) := (h.1 g hg).2 j hj
theorem GA.bit {R : RD} {m : Mm} {u g : Nat} (h : GA R m u) (hg : g < 12) : (u / 2 ^ g) &&& 1 = bn (!((gmem R (g : Int) (Cn R)).all (sdR R))) := by
  rw [← h.2.2.2 g hg, Nat.and_one_is_mod, Nat.testBit_eq_decide_div_mod_eq]
  by_cases h9 : u / 2 ^ g % 2 = 1
  · rw [decide_eq_true h9, h9]; rfl
  · rw [decide_eq_false h9]; show _ = 0; omega
theorem glen_le {R : RD} (hV : VR R) (g : Int) : glen R g ≤ 60 := by have h1 := gmem_le R g (Cn R); have h2 := hV.1; unfold glen; omega
section
variable {len : Nat} {m m0 : Mm} {Q : Option AV → Sx → Prop} {R : RD} {g u : Nat}
theorem c_isUsable (hV : VR R) (hG : GA R m u) (hg : g < 12) (q1 : usb R g = true → Q (some (aI 1)) (m, tl len)) (q0 : usb R g = false → Q (some (aI 0)) (m, tl len)) : E 110 0 [some (aA 10), some (aI ((g : Nat) : Int))] [] (m, tl len) Q := by
  have hu12 := hG.2.2.1
  have hb9 := hG.bit hg
  have hgl := glen_le hV (g : Int)
  refine E_s (p' := 1) (st' := aA 10 :: _) rfl rfl ?_
  refine E_gA (b := 13) rfl rfl rfl rfl rfl rfl ?_
  refine E_s (p' := 5) (st' := aI ((g : Nat) : Int) :: _) rfl rfl ?_
  refine E_ald (e := g) (N := 12) (v := ((glen R (g : Int) : Nat) : Int)) rfl rfl (rfl) (by omega) (hG.len (by omega)) ?_
  refine E_if_le (x := ((glen R (g : Int) : Nat) : Int)) rfl (by decide) (fun h_1 => ?_) (fun h_1 => ?_)
  · refine E_go (p' := 24) (L' := [some (aA 10), some (aI ((g : Nat) : Int))]) (st' := []) rfl rfl rfl ?_
    refine E_s (p' := 25) (st' := aI 0 :: _) rfl rfl ?_
    refine E_ret rfl rfl ?_
    refine q0 ?_
    unfold usb
    rw [decide_eq_false (by omega)]; rfl
  · refine E_go (p' := 9) (L' := [some (aA 10), some (aI ((g : Nat) : Int))]) (st' := []) rfl rfl rfl ?_
    refine E_s (p' := 10) (st' := aA 10 :: _) rfl rfl ?_
    refine E_gI (v := ((u : Nat) : Int)) rfl rfl rfl rfl hG.2.1 ?_
    refine E_s (p' := 14) (st' := aI ((g : Nat) : Int) :: _) rfl rfl ?_
    refine E_shr (x := u) (y := g) (v := ((u) / 2 ^ g)) rfl (by first | omega | (have := Nat.div_le_self u (2 ^ g); omega)) (by omega) rfl ?_
    refine E_s (p' := 16) (st' := aI 1 :: _) rfl rfl ?_
    refine E_and (x := ((u) / 2 ^ g)) (y := 1) (v := ((((u) / 2 ^ g)) &&& 1)) rfl (by first | omega | (have := Nat.div_le_self u (2 ^ g); omega)) (by omega) rfl ?_
    refine E_if_ne (x := ((((((u) / 2 ^ g)) &&& 1) : Nat) : Int)) rfl (by decide) (fun h_2 => ?_) (fun h_2 => ?_)
    · refine E_go (p' := 24) (L' := [some (aA 10), some (aI ((g : Nat) : Int))]) (st' := []) rfl rfl rfl ?_
      refine E_s (p' := 25) (st' := aI 0 :: _) rfl rfl ?_
      refine E_ret rfl rfl ?_
      refine q0 ?_
      unfold usb
      cases hal : (gmem R (g : Int) (Cn R)).all (sdR R)
      · exact Bool.and_false _
      · rw [hal, show bn (!true) = 0 from rfl] at hb9; omega
    · refine E_go (p' := 20) (L' := [some (aA 10), some (aI ((g : Nat) : Int))]) (st' := []) rfl rfl rfl ?_
      refine E_s (p' := 21) (st' := aI 1 :: _) rfl rfl ?_
      refine E_s (p' := 25) rfl rfl ?_
      refine E_ret rfl rfl ?_
      refine q1 ?_
      unfold usb
      rw [decide_eq_true (by omega)]
      cases hal : (gmem R (g : Int) (Cn R)).all (sdR R)
      · rw [hal, show bn (!false) = 1 from rfl] at hb9; omega
      · rfl
theorem yl_cw (hV : VR R) (hG : GA R m u) (hg : g < 12) (q1 : cbw R g = true → Q (some (aI 1)) (m, tl len)) (q0 : cbw R g = false → Q (some (aI 0)) (m, tl len)) : ∀ (d : Nat) (k : Nat), (glen R (g : Int) < k + d) → (k ≤ glen R (g : Int)) → E 109 4 [some (aA 10), some (aI ((g : Nat) : Int)), some (aI ((orV R g k : Nat) : Int)), some (aI ((k : Nat) : Int))] [] (m, tl len) Q := by
  intro d
  induction d with
  | zero => intro k hd hk; omega
  | succ d ih =>
    intro k hd hk
    have hgl := glen_le hV (g : Int)
    have ho := orV_lt hV k hk
    refine E_s (p' := 5) (st' := aI ((k : Nat) : Int) :: _) rfl rfl ?_
    refine E_s (p' := 6) (st' := aA 10 :: _) rfl rfl ?_
    refine E_gA (b := 13) rfl rfl rfl rfl rfl rfl ?_
    refine E_s (p' := 10) (st' := aI ((g : Nat) : Int) :: _) rfl rfl ?_
    refine E_ald (e := g) (N := 12) (v := ((glen R (g : Int) : Nat) : Int)) rfl rfl (rfl) (by omega) (hG.len (by omega)) ?_
    refine E_icmp_ge (x := ((k : Nat) : Int)) (y := ((glen R (g : Int) : Nat) : Int)) rfl (by decide) (fun h_1 => ?_) (fun h_1 => ?_)
    · refine E_go (p' := 34) (L' := [some (aA 10), some (aI ((g : Nat) : Int)), some (aI ((orV R g k : Nat) : Int)), some (aI ((k : Nat) : Int))]) (st' := []) rfl rfl rfl ?_
      refine E_s (p' := 35) (st' := aA 10 :: _) rfl rfl ?_
      refine E_s (p' := 36) (st' := aI ((g : Nat) : Int) :: _) rfl rfl ?_
      refine E_callV (k' := 110) (a := 10) (r := []) (L0 := [some (aA 10), some (aI ((g : Nat) : Int))]) rfl rfl rfl rfl rfl rfl rfl rfl rfl rfl ?_
      refine c_isUsable hV hG (g := g) (by omega) (fun hu9 => ?_) (fun hu9 => ?_)
      · refine E_go (p' := 39) (L' := [some (aA 10), some (aI ((g : Nat) : Int)), some (aI ((orV R g k : Nat) : Int)), some (aI ((k : Nat) : Int))]) (st' := [aI 1]) rfl rfl rfl ?_
        refine E_s (p' := 42) rfl rfl ?_
        refine E_s (p' := 43) (st' := aI ((orV R g k : Nat) : Int) :: _) rfl rfl ?_
        refine E_if_eq (x := ((orV R g k : Nat) : Int)) rfl (by decide) (fun h_2 => ?_) (fun h_2 => ?_)
        · refine E_go (p' := 50) (L' := [some (aA 10), some (aI ((g : Nat) : Int)), some (aI ((orV R g k : Nat) : Int)), some (aI ((k : Nat) : Int))]) (st' := []) rfl rfl rfl ?_
          refine E_s (p' := 51) (st' := aI 0 :: _) rfl rfl ?_
          refine E_ret rfl rfl ?_
          have ek : k = glen R (g : Int) := by omega
          subst ek
          refine q0 ?_
          unfold cbw
          rw [hu9]
          first
          | rfl
          | (rw [decide_eq_false (by omega)]; rfl)
        · refine E_go (p' := 46) (L' := [some (aA 10), some (aI ((g : Nat) : Int)), some (aI ((orV R g k : Nat) : Int)), some (aI ((k : Nat) : Int))]) (st' := []) rfl rfl rfl ?_
          refine E_s (p' := 47) (st' := aI 1 :: _) rfl rfl ?_
          refine E_s (p' := 51) rfl rfl ?_
          refine E_ret rfl rfl ?_
          have ek : k = glen R (g : Int) := by omega
          subst ek
          refine q1 ?_
          unfold cbw
          rw [hu9]
          rw [decide_eq_true (by omega)]; rfl
      · refine E_go (p' := 39) (L' := [some (aA 10), some (aI ((g : Nat) : Int)), some (aI ((orV R g k : Nat) : Int)), some (aI ((k : Nat) : Int))]) (st' := [aI 0]) rfl rfl rfl ?_
        refine E_s (p' := 50) rfl rfl ?_
        refine E_s (p' := 51) (st' := aI 0 :: _) rfl rfl ?_
        refine E_ret rfl rfl ?_
        have ek : k = glen R (g : Int) := by omega
        subst ek
        refine q0 ?_
        unfold cbw
        rw [hu9]
        first
        | rfl
        | (rw [decide_eq_false (by omega)]; rfl)
    · refine E_go (p' := 14) (L' := [some (aA 10), some (aI ((g : Nat) : Int)), some (aI ((orV R g k : Nat) : Int)), some (aI ((k : Nat) : Int))]) (st' := []) rfl rfl rfl ?_
      have hgb := gnu_b hV (show k < glen R (g : Int) by omega)
      refine E_s (p' := 15) (st' := aI ((orV R g k : Nat) : Int) :: _) rfl rfl ?_
      refine E_s (p' := 16) (st' := aA 10 :: _) rfl rfl ?_
      refine E_gA (b := 14) rfl rfl rfl rfl rfl rfl ?_
      refine E_s (p' := 20) (st' := aI ((g : Nat) : Int) :: _) rfl rfl ?_
      refine E_s (p' := 22) (st' := aI 60 :: _) rfl rfl ?_
      refine E_mul (v := ((60 * g : Nat) : Int)) rfl (by omega) (by omega) ?_
      refine E_s (p' := 24) (st' := aI ((k : Nat) : Int) :: _) rfl rfl ?_
      refine E_add (v := ((60 * g + k : Nat) : Int)) rfl (by omega) (by omega) ?_
      refine E_ald (e := 60 * g + k) (N := 720) (v := ((gnu R g k : Nat) : Int)) rfl rfl (rfl) (by omega) (hG.num (by omega) (by omega)) ?_
      refine E_or (x := orV R g k) (y := gnu R g k) (v := ((orV R g k) ||| (gnu R g k))) rfl (by omega) (by omega) rfl ?_
      refine E_s (p' := 28) (L' := [some (aA 10), some (aI ((g : Nat) : Int)), some (aI ((((orV R g k) ||| (gnu R g k)) : Nat) : Int)), some (aI ((k : Nat) : Int))]) rfl rfl ?_
      refine E_inc (x := ((k : Nat) : Int)) (w := ((k + 1 : Nat) : Int)) (L' := [some (aA 10), some (aI ((g : Nat) : Int)), some (aI ((((orV R g k) ||| (gnu R g k)) : Nat) : Int)), some (aI ((k + 1 : Nat) : Int))]) rfl rfl rfl (by omega) (by omega) rfl ?_
      refine E_s (p' := 4) rfl rfl ?_
      exact ih (k + 1) (by omega) (by omega)
theorem c_canBe (hV : VR R) (hG : GA R m u) (hg : g < 12) (q1 : cbw R g = true → Q (some (aI 1)) (m, tl len)) (q0 : cbw R g = false → Q (some (aI 0)) (m, tl len)) : E 109 0 [some (aA 10), some (aI ((g : Nat) : Int)), none, none] [] (m, tl len) Q := by
  refine E_s (p' := 1) (st' := aI 0 :: _) rfl rfl ?_
  refine E_s (p' := 2) (L' := [some (aA 10), some (aI ((g : Nat) : Int)), some (aI 0), none]) rfl rfl ?_
  refine E_s (p' := 3) (st' := aI 0 :: _) rfl rfl ?_
  refine E_s (p' := 4) (L' := [some (aA 10), some (aI ((g : Nat) : Int)), some (aI 0), some (aI 0)]) rfl rfl ?_
  exact yl_cw hV hG hg q1 q0 (glen R (g : Int) + 1) 0 (by omega) (by omega)
theorem yl_mt (hV : VR R) (hG : GA R m u) (hg : g < 12) (q : Q (some (aI ((mateN R g 12 : Nat) : Int))) (m, tl len)) : ∀ (d : Nat) (k : Nat), (12 < k + d) → (k ≤ 12) → E 112 4 [some (aA 10), some (aI ((g : Nat) : Int)), some (aI ((mateN R g k : Nat) : Int)), some (aI ((k : Nat) : Int))] [] (m, tl len) Q := by
  intro d
  induction d with
  | zero => intro k hd hk; omega
  | succ d ih =>
    intro k hd hk
    have hml := mateN_lt R g k hk
    refine E_s (p' := 5) (st' := aI ((k : Nat) : Int) :: _) rfl rfl ?_
    refine E_s (p' := 7) (st' := aI 12 :: _) rfl rfl ?_
    refine E_icmp_ge (x := ((k : Nat) : Int)) (y := 12) rfl (by decide) (fun h_1 => ?_) (fun h_1 => ?_)
    · refine E_go (p' := 50) (L' := [some (aA 10), some (aI ((g : Nat) : Int)), some (aI ((mateN R g k : Nat) : Int)), some (aI ((k : Nat) : Int))]) (st' := []) rfl rfl rfl ?_
      refine E_s (p' := 51) (st' := aI ((mateN R g k : Nat) : Int) :: _) rfl rfl ?_
      refine E_ret rfl rfl ?_
      have ek : k = 12 := by omega
      subst ek
      exact q
    · refine E_go (p' := 10) (L' := [some (aA 10), some (aI ((g : Nat) : Int)), some (aI ((mateN R g k : Nat) : Int)), some (aI ((k : Nat) : Int))]) (st' := []) rfl rfl rfl ?_
      have hpw : 2 ^ k < 2 ^ 12 := Nat.pow_lt_pow_right (by omega) (by omega)
      refine E_s (p' := 11) (st' := aI ((k : Nat) : Int) :: _) rfl rfl ?_
      refine E_s (p' := 12) (st' := aI ((g : Nat) : Int) :: _) rfl rfl ?_
      refine E_icmp_eq (x := ((k : Nat) : Int)) (y := ((g : Nat) : Int)) rfl (by decide) (fun h_2 => ?_) (fun h_2 => ?_)
      · refine E_go (p' := 44) (L' := [some (aA 10), some (aI ((g : Nat) : Int)), some (aI ((mateN R g k : Nat) : Int)), some (aI ((k : Nat) : Int))]) (st' := []) rfl rfl rfl ?_
        refine E_inc (x := ((k : Nat) : Int)) (w := ((k + 1 : Nat) : Int)) (L' := [some (aA 10), some (aI ((g : Nat) : Int)), some (aI ((mateN R g k : Nat) : Int)), some (aI ((k + 1 : Nat) : Int))]) rfl rfl rfl (by omega) (by omega) rfl ?_
        refine E_s (p' := 4) rfl rfl ?_
        have e9 : mateN R g (k + 1) = mateN R g k := by
          show (bif mateB R g k then _ else _) = _
          rw [show mateB R g k = false by unfold mateB; first | (rw [decide_eq_false (by omega)]; rfl) | (rw [decide_eq_true (by omega), hu9]; rfl) | (rw [decide_eq_true (by omega), hu9, decide_eq_false (by omega)]; rfl) | (rw [decide_eq_true (by omega), hu9, decide_eq_true (by omega)]; rfl)]
          rfl
        rw [← e9]
        exact ih (k + 1) (by omega) (by omega)
      · refine E_go (p' := 15) (L' := [some (aA 10), some (aI ((g : Nat) : Int)), some (aI ((mateN R g k : Nat) : Int)), some (aI ((k : Nat) : Int))]) (st' := []) rfl rfl rfl ?_
        refine E_s (p' := 16) (st' := aA 10 :: _) rfl rfl ?_
        refine E_s (p' := 17) (st' := aI ((k : Nat) : Int) :: _) rfl rfl ?_
        refine E_callV (k' := 110) (a := 10) (r := []) (L0 := [some (aA 10), some (aI ((k : Nat) : Int))]) rfl rfl rfl rfl rfl rfl rfl rfl rfl rfl ?_
        refine c_isUsable hV hG (g := k) (by omega) (fun hu9 => ?_) (fun hu9 => ?_)
        · refine E_go (p' := 20) (L' := [some (aA 10), some (aI ((g : Nat) : Int)), some (aI ((mateN R g k : Nat) : Int)), some (aI ((k : Nat) : Int))]) (st' := [aI 1]) rfl rfl rfl ?_
          refine E_s (p' := 23) rfl rfl ?_
          refine E_s (p' := 24) (st' := aA 10 :: _) rfl rfl ?_
          refine E_gA (b := 13) rfl rfl rfl rfl rfl rfl ?_
          refine E_s (p' := 28) (st' := aI ((k : Nat) : Int) :: _) rfl rfl ?_
          refine E_ald (e := k) (N := 12) (v := ((glen R (k : Int) : Nat) : Int)) rfl rfl (rfl) (by omega) (hG.len (by omega)) ?_
          refine E_s (p' := 30) (st' := aA 10 :: _) rfl rfl ?_
          refine E_gA (b := 13) rfl rfl rfl rfl rfl rfl ?_
          refine E_s (p' := 34) (st' := aI ((g : Nat) : Int) :: _) rfl rfl ?_
          refine E_ald (e := g) (N := 12) (v := ((glen R (g : Int) : Nat) : Int)) rfl rfl (rfl) (by omega) (hG.len (by omega)) ?_
          refine E_icmp_ne (x := ((glen R (k : Int) : Nat) : Int)) (y := ((glen R (g : Int) : Nat) : Int)) rfl (by decide) (fun h_3 => ?_) (fun h_3 => ?_)
          · refine E_go (p' := 44) (L' := [some (aA 10), some (aI ((g : Nat) : Int)), some (aI ((mateN R g k : Nat) : Int)), some (aI ((k : Nat) : Int))]) (st' := []) rfl rfl rfl ?_
            refine E_inc (x := ((k : Nat) : Int)) (w := ((k + 1 : Nat) : Int)) (L' := [some (aA 10), some (aI ((g : Nat) : Int)), some (aI ((mateN R g k : Nat) : Int)), some (aI ((k + 1 : Nat) : Int))]) rfl rfl rfl (by omega) (by omega) rfl ?_
            refine E_s (p' := 4) rfl rfl ?_
            have e9 : mateN R g (k + 1) = mateN R g k := by
              show (bif mateB R g k then _ else _) = _
              rw [show mateB R g k = false by unfold mateB; first | (rw [decide_eq_false (by omega)]; rfl) | (rw [decide_eq_true (by omega), hu9]; rfl) | (rw [decide_eq_true (by omega), hu9, decide_eq_false (by omega)]; rfl) | (rw [decide_eq_true (by omega), hu9, decide_eq_true (by omega)]; rfl)]
              rfl
            rw [← e9]
            exact ih (k + 1) (by omega) (by omega)
          · refine E_go (p' := 38) (L' := [some (aA 10), some (aI ((g : Nat) : Int)), some (aI ((mateN R g k : Nat) : Int)), some (aI ((k : Nat) : Int))]) (st' := []) rfl rfl rfl ?_
            refine E_s (p' := 39) (st' := aI ((mateN R g k : Nat) : Int) :: _) rfl rfl ?_
            refine E_s (p' := 40) (st' := aI 1 :: _) rfl rfl ?_
            refine E_s (p' := 41) (st' := aI ((k : Nat) : Int) :: _) rfl rfl ?_
            refine E_shl (x := 1) (y := k) (v := ((1) * 2 ^ k)) rfl (by omega) (by omega) rfl ?_
            refine E_or (x := mateN R g k) (y := ((1) * 2 ^ k)) (v := ((mateN R g k) ||| ((1) * 2 ^ k))) rfl (by omega) (by omega) rfl ?_
            refine E_s (p' := 44) (L' := [some (aA 10), some (aI ((g : Nat) : Int)), some (aI ((((mateN R g k) ||| ((1) * 2 ^ k)) : Nat) : Int)), some (aI ((k : Nat) : Int))]) rfl rfl ?_
            refine E_inc (x := ((k : Nat) : Int)) (w := ((k + 1 : Nat) : Int)) (L' := [some (aA 10), some (aI ((g : Nat) : Int)), some (aI ((((mateN R g k) ||| ((1) * 2 ^ k)) : Nat) : Int)), some (aI ((k + 1 : Nat) : Int))]) rfl rfl rfl (by omega) (by omega) rfl ?_
            refine E_s (p' := 4) rfl rfl ?_
            have e9 : mateN R g (k + 1) = ((mateN R g k) ||| ((1) * 2 ^ k)) := by
              show (bif mateB R g k then _ else _) = _
              rw [show mateB R g k = true by unfold mateB; first | (rw [decide_eq_false (by omega)]; rfl) | (rw [decide_eq_true (by omega), hu9]; rfl) | (rw [decide_eq_true (by omega), hu9, decide_eq_false (by omega)]; rfl) | (rw [decide_eq_true (by omega), hu9, decide_eq_true (by omega)]; rfl)]
              rfl
            rw [← e9]
            exact ih (k + 1) (by omega) (by omega)
        · refine E_go (p' := 20) (L' := [some (aA 10), some (aI ((g : Nat) : Int)), some (aI ((mateN R g k : Nat) : Int)), some (aI ((k : Nat) : Int))]) (st' := [aI 0]) rfl rfl rfl ?_
          refine E_s (p' := 44) rfl rfl ?_
          refine E_inc (x := ((k : Nat) : Int)) (w := ((k + 1 : Nat) : Int)) (L' := [some (aA 10), some (aI ((g : Nat) : Int)), some (aI ((mateN R g k : Nat) : Int)), some (aI ((k + 1 : Nat) : Int))]) rfl rfl rfl (by omega) (by omega) rfl ?_
          refine E_s (p' := 4) rfl rfl ?_
          have e9 : mateN R g (k + 1) = mateN R g k := by
            show (bif mateB R g k then _ else _) = _
            rw [show mateB R g k = false by unfold mateB; first | (rw [decide_eq_false (by omega)]; rfl) | (rw [decide_eq_true (by omega), hu9]; rfl) | (rw [decide_eq_true (by omega), hu9, decide_eq_false (by omega)]; rfl) | (rw [decide_eq_true (by omega), hu9, decide_eq_true (by omega)]; rfl)]
            rfl
          rw [← e9]
          exact ih (k + 1) (by omega) (by omega)
theorem c_mates (hV : VR R) (hG : GA R m u) (hg : g < 12) (q : Q (some (aI ((mateN R g 12 : Nat) : Int))) (m, tl len)) : E 112 0 [some (aA 10), some (aI ((g : Nat) : Int)), none, none] [] (m, tl len) Q := by
  refine E_s (p' := 1) (st' := aI 0 :: _) rfl rfl ?_
  refine E_s (p' := 2) (L' := [some (aA 10), some (aI ((g : Nat) : Int)), some (aI 0), none]) rfl rfl ?_
  refine E_s (p' := 3) (st' := aI 0 :: _) rfl rfl ?_
  refine E_s (p' := 4) (L' := [some (aA 10), some (aI ((g : Nat) : Int)), some (aI 0), some (aI 0)]) rfl rfl ?_
  exact yl_mt hV hG hg q 13 0 (by omega) (by omega)
end
