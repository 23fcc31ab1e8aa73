theorem mateN_tb {R : RD} {g x : Nat} : ∀ k, Nat.testBit (mateN R g k) x = true → mateB R g x = true := by
  intro k
  induction k with
  | zero => intro h; exact absurd h (by show ¬ Nat.testBit 0 x = true; rw [Nat.zero_testBit]; decide)
  | succ k ih =>
    intro h
    have h : Nat.testBit (bif mateB R g k then mateN R g k ||| 1 * 2 ^ k else mateN R g k) x = true := h
    cases h2 : mateB R g k
    · rw [h2] at h; exact ih h
    · rw [h2] at h
      have h : Nat.testBit (mateN R g k ||| 1 * 2 ^ k) x = true := h
      rw [Nat.testBit_or, Nat.one_mul, Nat.testBit_two_pow] at h
      rcases Bool.or_eq_true_iff.mp h with h3 | h3
      · exact ih h3
      · have h4 := of_decide_eq_true h3
        rw [← h4]; exact h2
theorem mate_len {R : RD} {g x : Nat} (h : Nat.testBit (mateN R g 12) x = true) : glen R (x : Int) = glen R (g : Int) := by
  have h1 := mateN_tb 12 h
  unfold mateB at h1
  exact of_decide_eq_true (Bool.and_eq_true_iff.mp (Bool.and_eq_true_iff.mp h1).2).2
def setN (R : RD) (g : Nat) : Nat := 1 * 2 ^ pc12 (mateN R g 12) - 1
theorem setN_e (R : RD) (g : Nat) : ((1 * 2 ^ pc12 (mateN R g 12) : Nat) : Int) = ((setN R g + 1 : Nat) : Int) ∧ setN R g < 4096 := by
  have h1 := pc12_le (mateN R g 12)
  have h2 : 0 < 2 ^ pc12 (mateN R g 12) := Nat.pow_pos (by omega)
  have h3 : 2 ^ pc12 (mateN R g 12) ≤ 2 ^ 12 := Nat.pow_le_pow_right (by omega) h1
  unfold setN
  refine ⟨?_, by omega⟩
  rw [show 1 * 2 ^ pc12 (mateN R g 12) - 1 + 1 = 1 * 2 ^ pc12 (mateN R g 12) by omega]
/-- the GROUPINGS of a RECORD; none: more than 300 -/
def accG (R : RD) : Nat → Option (List (Nat × Nat))
  | 0 => some []
  | g + 1 => (accG R g).bind fun t => bif cbw R g then accS R g (mateN R g 12) t (setN R g) else some t
theorem accG_none {R : RD} {k : Nat} (h : accG R k = none) : ∀ n, k ≤ n → accG R n = none := by
  intro n
  induction n with
  | zero => intro hk; have e9 : k = 0 := by omega
            subst e9; exact h
  | succ n ih =>
    intro hk
    by_cases e9 : k = n + 1
    · subst e9; exact h
    · show (accG R n).bind _ = none
      rw [ih (by omega)]; rfl
def fndL (R : RD) : List (Nat × Nat) := (accG R 12).getD []
def fndV (R : RD) : Int := match accG R 12 with
  | none => -3
  | some l => (l.length : Int)
def fdL (S : Nat → RD) (r : Int) (l : List (Nat × Nat)) : List (Nat × Nat) := if 0 ≤ r ∧ r ≤ 3 then fndL (S r.toNat) else l
def fdV (S : Nat → RD) (r : Int) : Int := if 0 ≤ r ∧ r ≤ 3 then fndV (S r.toNat) else -2
section
variable {len : Nat} {m m0 : Mm} {Q : Option AV → Sx → Prop} {R : RD} {S : Nat → RD} {a g u : Nat} {r : Int} {l0 l : List (Nat × Nat)}
theorem c_seekSets (hV : VR R) (hG : GA R m0 u) (hg : g < 12) (hl : FL l0 m0) (q1 : ∀ (m1 : Mm) (l1 : List (Nat × Nat)), accS R g (mateN R g 12) l0 (setN R g) = some l1 → FL l1 m1 → FrF m0 m1 → Q (some (aI 1)) (m1, tl len)) (q0 : ∀ m1 : Mm, accS R g (mateN R g 12) l0 (setN R g) = none → FrF m0 m1 → Q (some (aI 0)) (m1, tl len))  : E 111 0 [some (aA 10), some (aI ((g : Nat) : Int)), none, none, none, none] [] (m0, tl len) Q := by
  have hml := mateN_lt R g 12 (by omega)
  have hp12 := pc12_le (mateN R g 12)
  have hse := setN_e R g
  have h3 : 2 ^ pc12 (mateN R g 12) ≤ 2 ^ 12 := Nat.pow_le_pow_right (by omega) hp12
  refine E_s (p' := 1) (st' := aA 10 :: _) rfl rfl ?_
  refine E_s (p' := 2) (st' := aI ((g : Nat) : Int) :: _) rfl rfl ?_
  refine E_callV (k' := 112) (a := 10) (r := []) (L0 := [some (aA 10), some (aI ((g : Nat) : Int)), none, none]) rfl rfl rfl rfl rfl rfl rfl rfl rfl rfl ?_
  refine c_mates hV hG hg ?_
  refine E_go (p' := 5) (L' := [some (aA 10), some (aI ((g : Nat) : Int)), none, none, none, none]) (st' := [aI ((mateN R g 12 : Nat) : Int)]) rfl rfl rfl ?_
  refine E_s (p' := 6) (L' := [some (aA 10), some (aI ((g : Nat) : Int)), some (aI ((mateN R g 12 : Nat) : Int)), none, none, none]) rfl rfl ?_
  refine E_s (p' := 7) (st' := aI 1 :: _) rfl rfl ?_
  refine E_s (p' := 8) (st' := aI ((mateN R g 12 : Nat) : Int) :: _) rfl rfl ?_
  refine E_callL (p' := 11) (L0 := [some (aI ((mateN R g 12 : Nat) : Int))]) rfl rfl rfl ?_
  refine c_bc (n := mateN R g 12) (by omega) ?_
  refine E_go (p' := 11) (L' := [some (aA 10), some (aI ((g : Nat) : Int)), some (aI ((mateN R g 12 : Nat) : Int)), none, none, none]) (st' := [aI ((pc12 (mateN R g 12) : Nat) : Int), aI 1]) rfl rfl rfl ?_
  refine E_shl (x := 1) (y := pc12 (mateN R g 12)) (v := ((1) * 2 ^ (pc12 (mateN R g 12)))) rfl (by omega) (by omega) rfl ?_
  refine E_s (p' := 13) (L' := [some (aA 10), some (aI ((g : Nat) : Int)), some (aI ((mateN R g 12 : Nat) : Int)), some (aI ((((1) * 2 ^ (pc12 (mateN R g 12))) : Nat) : Int)), none, none]) rfl rfl ?_
  refine E_s (p' := 14) (st' := aI 0 :: _) rfl rfl ?_
  refine E_s (p' := 16) (L' := [some (aA 10), some (aI ((g : Nat) : Int)), some (aI ((mateN R g 12 : Nat) : Int)), some (aI ((((1) * 2 ^ (pc12 (mateN R g 12))) : Nat) : Int)), some (aI 0), none]) rfl rfl ?_
  refine E_s (p' := 17) (st' := aI 1 :: _) rfl rfl ?_
  refine E_s (p' := 19) (L' := [some (aA 10), some (aI ((g : Nat) : Int)), some (aI ((mateN R g 12 : Nat) : Int)), some (aI ((((1) * 2 ^ (pc12 (mateN R g 12))) : Nat) : Int)), some (aI 0), some (aI 1)]) rfl rfl ?_
  refine E_go (p' := 19) (L' := [some (aA 10), some (aI ((g : Nat) : Int)), some (aI ((mateN R g 12 : Nat) : Int)), some (aI ((setN R g + 1 : Nat) : Int)), some (aI 0), some (aI 1)]) (st' := []) rfl (by rw [← hse.1]) rfl ?_
  exact yl_ss hV hG hg hml (fun x hx hx2 => mate_len hx2) hse.2 q1 q0 (setN R g + 1) 0 m0 l0 (by omega) (by omega) rfl hl (fun b j _ _ _ => rfl)
theorem yl_fs (hV : VR R) (hG : GA R m0 u) (q : ∀ m1 : Mm, Fx 10 14 m0 m1 → FL (fndL R) m1 → Q (some (aI (fndV R))) (m1, tl len))  : ∀ (d : Nat) (g : Nat) (m : Mm) (t : List (Nat × Nat)), (12 < g + d) → (g ≤ 12) → (accG R g = some t) → (FL t m) → (FrF m0 m) → E 107 12 [some (aA 10), some (aA a), some (aI ((g : Nat) : Int))] [] (m, tl len) Q := by
  intro d
  induction d with
  | zero => intro g m t hd hk I1 I2 I3; omega
  | succ d ih =>
    intro g m t hd hk I1 I2 I3
    have hGm : GA R m u := hG.of (fun b j hb => I3 b j (by omega) (by omega) (by omega))
    refine E_s (p' := 13) (st' := aI ((g : Nat) : Int) :: _) rfl rfl ?_
    refine E_s (p' := 15) (st' := aI 12 :: _) rfl rfl ?_
    refine E_icmp_ge (x := ((g : Nat) : Int)) (y := 12) rfl (by decide) (fun h_1 => ?_) (fun h_1 => ?_)
    · refine E_go (p' := 48) (L' := [some (aA 10), some (aA a), some (aI ((g : Nat) : Int))]) (st' := []) rfl rfl rfl ?_
      refine E_s (p' := 49) (st' := aA 10 :: _) rfl rfl ?_
      refine E_gI (v := ((t.length : Nat) : Int)) rfl rfl rfl rfl I2.2.1 ?_
      refine E_ret rfl rfl ?_
      have ek : g = 12 := by omega
      subst ek
      have e7 : fndV R = (t.length : Int) := by unfold fndV; rw [I1]
      have e6 : fndL R = t := by unfold fndL; rw [I1]; rfl
      rw [e7, e6] at q
      exact q m (fun b j hb => I3 b j (by omega) (by omega) (by omega)) I2
    · refine E_go (p' := 18) (L' := [some (aA 10), some (aA a), some (aI ((g : Nat) : Int))]) (st' := []) rfl rfl rfl ?_
      refine E_s (p' := 19) (st' := aA 10 :: _) rfl rfl ?_
      refine E_s (p' := 20) (st' := aI ((g : Nat) : Int) :: _) rfl rfl ?_
      refine E_callV (k' := 109) (a := 10) (r := []) (L0 := [some (aA 10), some (aI ((g : Nat) : Int)), none, none]) rfl rfl rfl rfl rfl rfl rfl rfl rfl rfl ?_
      refine c_canBe hV hGm (g := g) (by omega) (fun hc9 => ?_) (fun hc9 => ?_)
      · refine E_go (p' := 23) (L' := [some (aA 10), some (aA a), some (aI ((g : Nat) : Int))]) (st' := [aI 1]) rfl rfl rfl ?_
        refine E_s (p' := 26) rfl rfl ?_
        refine E_s (p' := 27) (st' := aA 10 :: _) rfl rfl ?_
        refine E_s (p' := 28) (st' := aI ((g : Nat) : Int) :: _) rfl rfl ?_
        refine E_callV (k' := 111) (a := 10) (r := []) (L0 := [some (aA 10), some (aI ((g : Nat) : Int)), none, none, none, none]) rfl rfl rfl rfl rfl rfl rfl rfl rfl rfl ?_
        refine c_seekSets hV hGm (g := g) (by omega) I2 (fun m1 l1 hs1 hs2 hs3 => ?_) (fun m1 hs1 hs2 => ?_)
        · refine E_go (p' := 31) (L' := [some (aA 10), some (aA a), some (aI ((g : Nat) : Int))]) (st' := [aI 1]) rfl rfl rfl ?_
          refine E_s (p' := 42) rfl rfl ?_
          refine E_inc (x := ((g : Nat) : Int)) (w := ((g + 1 : Nat) : Int)) (L' := [some (aA 10), some (aA a), some (aI ((g + 1 : Nat) : Int))]) rfl rfl rfl (by omega) (by omega) rfl ?_
          refine E_s (p' := 12) rfl rfl ?_
          have e9 : accG R (g + 1) = some l1 := by
            show (accG R g).bind _ = _
            rw [I1]
            show (bif cbw R g then _ else _) = _
            rw [hc9]; exact hs1
          exact ih (g + 1) m1 l1 (by omega) (by omega) e9 hs2 (fun b j g1 g2 g3 => (hs3 b j g1 g2 g3).trans (I3 b j g1 g2 g3))
        · refine E_go (p' := 31) (L' := [some (aA 10), some (aA a), some (aI ((g : Nat) : Int))]) (st' := [aI 0]) rfl rfl rfl ?_
          refine E_s (p' := 34) rfl rfl ?_
          refine E_s (p' := 35) (st' := aA 10 :: _) rfl rfl ?_
          refine E_s (p' := 36) (st' := aI 0 :: _) rfl rfl ?_
          refine E_pI rfl rfl rfl rfl (Or.inl rfl) ?_
          refine E_s (p' := 41) (st' := aI (-3) :: _) rfl rfl ?_
          refine E_ret rfl rfl ?_
          have e9 : accG R (g + 1) = none := by
            show (accG R g).bind _ = _
            rw [I1]
            show (bif cbw R g then _ else _) = _
            rw [hc9]; exact hs1
          have e8 := accG_none e9 12 (by omega)
          have e7 : fndV R = -3 := by unfold fndV; rw [e8]
          have e6 : fndL R = [] := by unfold fndL; rw [e8]; rfl
          rw [e7, e6] at q
          exact q _ (fun b j hb => (up2_ne (by omega)).trans ((hs2 b j (by omega) (by omega) (by omega)).trans (I3 b j (by omega) (by omega) (by omega)))) ⟨by decide, up2_eq, fun j hj => absurd hj (Nat.not_lt_zero _)⟩
      · refine E_go (p' := 23) (L' := [some (aA 10), some (aA a), some (aI ((g : Nat) : Int))]) (st' := [aI 0]) rfl rfl rfl ?_
        refine E_s (p' := 42) rfl rfl ?_
        refine E_inc (x := ((g : Nat) : Int)) (w := ((g + 1 : Nat) : Int)) (L' := [some (aA 10), some (aA a), some (aI ((g + 1 : Nat) : Int))]) rfl rfl rfl (by omega) (by omega) rfl ?_
        refine E_s (p' := 12) rfl rfl ?_
        have e9 : accG R (g + 1) = some t := by
          show (accG R g).bind _ = _
          rw [I1]
          show (bif cbw R g then _ else _) = _
          rw [hc9]; rfl
        exact ih (g + 1) m t (by omega) (by omega) e9 I2 I3
theorem c_fseek (hR : isR a) (hC : CR R a m0) (hV : VR R) (hd : RdC R a m0) (q : ∀ m1 : Mm, Fx 10 14 m0 m1 → FL (fndL R) m1 → Q (some (aI (fndV R))) (m1, tl len))  : E 107 0 [some (aA 10), some (aA a), none] [] (m0, tl len) Q := by
  have hab := isR_b hR
  refine E_s (p' := 1) (st' := aA 10 :: _) rfl rfl ?_
  refine E_s (p' := 2) (st' := aI 0 :: _) rfl rfl ?_
  refine E_pI rfl rfl rfl rfl (Or.inl rfl) ?_
  refine E_s (p' := 6) (st' := aA 10 :: _) rfl rfl ?_
  refine E_s (p' := 7) (st' := aA a :: _) rfl rfl ?_
  refine E_callV (k' := 108) (a := 10) (r := []) (L0 := [some (aA 10), some (aA a), none, none]) rfl rfl rfl rfl rfl rfl rfl rfl rfl rfl ?_
  refine c_gather hR (hC.of (fun b j g1 g2 _ => up2_ne (by omega))) hV (hd.of (fun b j g1 g2 => up2_ne (by omega))) (fun m1 u1 F1 F2 F3 G1 G2 G3 => ?_)
  refine E_go (p' := 10) (L' := [some (aA 10), some (aA a), none]) (st' := []) rfl rfl rfl ?_
  refine E_s (p' := 11) (st' := aI 0 :: _) rfl rfl ?_
  refine E_s (p' := 12) (L' := [some (aA 10), some (aA a), some (aI 0)]) rfl rfl ?_
  exact yl_fs hV ⟨G1, G2, G3⟩ (fun m2 k1 k2 => q m2 (fun b j hb => (k1 b j hb).trans ((F1 b j hb).trans (up2_ne (by omega)))) k2) 13 0 m1 [] (by omega) (by omega) rfl ⟨by decide, (F2 2 (by decide)).trans up2_eq, fun j hj => absurd hj (Nat.not_lt_zero _)⟩ (fun b j _ _ _ => rfl)
theorem C_found (hS : CS S m) (hF : FL l m) (q : ∀ m1 : Mm, CS S m1 → (∀ b j, b = 0 ∨ (8 ≤ b ∧ b ≤ 9) ∨ 124 ≤ b → m1 b j = m b j) → FL (fdL S r l) m1 → Q (some (aI (fdV S r))) (m1, tl len)) : E 106 0 [some (aA 1), some (aI (r)), none] [] (m, tl len) Q := by
  refine E_s (p' := 1) (st' := aA 1 :: _) rfl rfl ?_
  refine E_s (p' := 2) (st' := aI (r) :: _) rfl rfl ?_
  refine E_callV (k' := 34) (a := 1) (r := []) (L0 := [some (aA 1), some (aI (r)), none]) rfl rfl rfl rfl rfl rfl rfl rfl rfl rfl ?_
  refine c_readOf hS (fun i a m1 hi hr ha hR hS1 hCS hd hMo => ?_) (fun hr => ?_)
  · refine E_go (p' := 5) (L' := [some (aA 1), some (aI (r)), none]) (st' := [aA a]) rfl rfl rfl ?_
    obtain ⟨hV, hC, -⟩ := hCS
    have hn60 := hV.1
    have hab := isR_b hR
    have hs40 := hV.2.2.2.2.1
    refine E_s (p' := 6) (L' := [some (aA 1), some (aI (r)), some (aA a)]) rfl rfl ?_
    refine E_s (p' := 7) (st' := aA a :: _) rfl rfl ?_
    refine E_s (p' := 15) rfl rfl ?_
    refine E_s (p' := 16) (st' := aA 1 :: _) rfl rfl ?_
    refine E_gA (b := 10) rfl rfl rfl rfl rfl rfl ?_
    refine E_s (p' := 20) (st' := aA a :: _) rfl rfl ?_
    refine E_callV (k' := 107) (a := 10) (r := []) (L0 := [some (aA 10), some (aA a), none]) rfl rfl rfl rfl rfl rfl rfl rfl rfl rfl ?_
    refine c_fseek hR hC hV hd (fun m2 F2 L2 => ?_)
    refine E_go (p' := 23) (L' := [some (aA 1), some (aI (r)), some (aA a)]) (st' := [aI ((fndV (S i)))]) rfl rfl rfl ?_
    refine E_ret rfl rfl ?_
    have e1 : fdV S r = fndV (S i) := by unfold fdV; rw [if_pos (by omega), hr, Int.toNat_natCast]
    have e2 : fdL S r l = fndL (S i) := by unfold fdL; rw [if_pos (by omega), hr, Int.toNat_natCast]
    rw [e1, e2] at q
    exact q _ (fun k hk => (hS1 k hk).of (fun b j g1 g2 => F2 b j (by unfold tgA at g1; omega))) (fun b j hb => (F2 b j (by omega)).trans (hMo b j (by omega))) L2
  · refine E_go (p' := 5) (L' := [some (aA 1), some (aI (r)), none]) (st' := [aN]) rfl rfl rfl ?_
    refine E_s (p' := 6) (L' := [some (aA 1), some (aI (r)), some (aN)]) rfl rfl ?_
    refine E_s (p' := 7) (st' := aN :: _) rfl rfl ?_
    refine E_s (p' := 10) rfl rfl ?_
    refine E_s (p' := 12) (st' := aI (-2) :: _) rfl rfl ?_
    refine E_s (p' := 23) rfl rfl ?_
    refine E_ret rfl rfl ?_
    have e1 : fdV S r = -2 := by unfold fdV; rw [if_neg (by omega)]
    have e2 : fdL S r l = l := by unfold fdL; rw [if_neg (by omega)]
    rw [e1, e2] at q
    exact q m hS (fun b j _ => rfl) hF
end
