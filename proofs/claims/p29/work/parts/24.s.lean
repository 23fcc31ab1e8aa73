/-- the GROUPINGS as the model takes them -/
def accF (R : RD) : Nat → Option (List (Nat × Nat))
  | 0 => some []
  | g + 1 => (accF R g).bind fun t => bif usb R g then accM R g (mateN R g 12) t 4095 else some t
theorem mate_sd {R : RD} {g x : Nat} (h : Nat.testBit (mateN R g 12) x = true) : sdG R x = true := by
  have h1 := mateN_tb 12 h
  unfold mateB at h1
  have h2 := (Bool.and_eq_true_iff.mp (Bool.and_eq_true_iff.mp h1).2).1
  unfold usb at h2
  exact (Bool.and_eq_true_iff.mp h2).2
section
variable {len : Nat} {m m0 : Mm} {Q : Option AV → Sx → Prop} {R : RD} {g : Nat} {x1 : Option AV}
theorem yl_may (hG : GR R (Cn R) m) (hg : g < 12) (hgl : 0 < glen R (g : Int)) (hk9 : E 176 110 [some (aA 124), x1, some (aI ((g : Nat) : Int)), some (aI ((mateN R g 12 : Nat) : Int)), some (aI 12)] [] (m, tl len) Q) : ∀ (d : Nat) (k : Nat), (12 < k + d) → (k ≤ 12) → E 176 54 [some (aA 124), x1, some (aI ((g : Nat) : Int)), some (aI ((mateN R g k : Nat) : Int)), some (aI ((k : Nat) : Int))] [] (m, tl len) Q := by
  intro d
  induction d with
  | zero => intro k hd hk; omega
  | succ d ih =>
    intro k hd hk
    have hml := mateN_lt R g k hk
    refine E_s (p' := 56) (st' := aI ((k : Nat) : Int) :: _) rfl rfl ?_
    refine E_s (p' := 58) (st' := aI 12 :: _) rfl rfl ?_
    refine E_icmp_ge (x := ((k : Nat) : Int)) (y := 12) rfl (by decide) (fun h_1 => ?_) (fun h_1 => ?_)
    · refine E_go (p' := 110) (L' := [some (aA 124), x1, some (aI ((g : Nat) : Int)), some (aI ((mateN R g k : Nat) : Int)), some (aI ((k : Nat) : Int))]) (st' := []) rfl rfl rfl ?_
      have ek : k = 12 := by omega
      subst ek
      exact hk9
    · refine E_go (p' := 61) (L' := [some (aA 124), x1, some (aI ((g : Nat) : Int)), some (aI ((mateN R g k : Nat) : Int)), some (aI ((k : Nat) : Int))]) (st' := []) rfl rfl rfl ?_
      have hpw : 2 ^ k < 2 ^ 12 := Nat.pow_lt_pow_right (by omega) (by omega)
      refine E_s (p' := 62) (st' := aI ((mateN R g k : Nat) : Int) :: _) rfl rfl ?_
      refine E_s (p' := 64) (st' := aI ((k : Nat) : Int) :: _) rfl rfl ?_
      refine E_s (p' := 65) (st' := aI ((g : Nat) : Int) :: _) rfl rfl ?_
      refine E_icmp_eq (x := ((k : Nat) : Int)) (y := ((g : Nat) : Int)) rfl (by decide) (fun h_2 => ?_) (fun h_2 => ?_)
      · refine E_go (p' := 101) (L' := [some (aA 124), x1, some (aI ((g : Nat) : Int)), some (aI ((mateN R g k : Nat) : Int)), some (aI ((k : Nat) : Int))]) (st' := [aI ((mateN R g k : Nat) : Int)]) rfl rfl rfl ?_
        refine E_s (p' := 102) (st' := aI 0 :: _) rfl rfl ?_
        refine E_or (x := mateN R g k) (y := 0) (v := ((mateN R g k) ||| 0)) rfl (by omega) (by omega) rfl ?_
        refine E_s (p' := 104) (L' := [some (aA 124), x1, some (aI ((g : Nat) : Int)), some (aI ((((mateN R g k) ||| 0) : Nat) : Int)), some (aI ((k : Nat) : Int))]) rfl rfl ?_
        refine E_inc (x := ((k : Nat) : Int)) (w := ((k + 1 : Nat) : Int)) (L' := [some (aA 124), x1, some (aI ((g : Nat) : Int)), some (aI ((((mateN R g k) ||| 0) : Nat) : Int)), some (aI ((k + 1 : Nat) : Int))]) rfl rfl rfl (by omega) (by omega) rfl ?_
        refine E_s (p' := 54) rfl rfl ?_
        have e9 : mateN R g (k + 1) = ((mateN R g k) ||| 0) := by
          show (bif mateB R g k then _ else _) = _
          rw [show mateB R g k = false by unfold mateB usb; first | (rw [decide_eq_false (p := k ≠ g) (by omega)]; rfl) | (rw [show (gmem R (k : Int) (Cn R)).all (sdR R) = false by assumption]; simp) | (rw [decide_eq_false (p := glen R (k : Int) = glen R (g : Int)) (by omega)]; simp)]
          first | rfl | exact (Nat.or_zero _).symm
        rw [← e9]
        exact ih (k + 1) (by omega) (by omega)
      · refine E_go (p' := 68) (L' := [some (aA 124), x1, some (aI ((g : Nat) : Int)), some (aI ((mateN R g k : Nat) : Int)), some (aI ((k : Nat) : Int))]) (st' := [aI ((mateN R g k : Nat) : Int)]) rfl rfl rfl ?_
        refine E_s (p' := 69) (st' := aA 124 :: _) rfl rfl ?_
        refine E_gA (b := 164) rfl rfl rfl rfl rfl rfl ?_
        refine E_s (p' := 74) (st' := aI ((k : Nat) : Int) :: _) rfl rfl ?_
        refine E_zld (e := k) (N := 12) (v := (bi ((gmem R (k : Int) (Cn R)).all (sdR R)))) rfl rfl (rfl) (by omega) (hG k (by omega)).2.2 ?_
        refine E_b_eq0 (b := ((gmem R (k : Int) (Cn R)).all (sdR R))) rfl (by decide) (fun h_3 => ?_) (fun h_3 => ?_)
        · refine E_go (p' := 101) (L' := [some (aA 124), x1, some (aI ((g : Nat) : Int)), some (aI ((mateN R g k : Nat) : Int)), some (aI ((k : Nat) : Int))]) (st' := [aI ((mateN R g k : Nat) : Int)]) rfl rfl rfl ?_
          refine E_s (p' := 102) (st' := aI 0 :: _) rfl rfl ?_
          refine E_or (x := mateN R g k) (y := 0) (v := ((mateN R g k) ||| 0)) rfl (by omega) (by omega) rfl ?_
          refine E_s (p' := 104) (L' := [some (aA 124), x1, some (aI ((g : Nat) : Int)), some (aI ((((mateN R g k) ||| 0) : Nat) : Int)), some (aI ((k : Nat) : Int))]) rfl rfl ?_
          refine E_inc (x := ((k : Nat) : Int)) (w := ((k + 1 : Nat) : Int)) (L' := [some (aA 124), x1, some (aI ((g : Nat) : Int)), some (aI ((((mateN R g k) ||| 0) : Nat) : Int)), some (aI ((k + 1 : Nat) : Int))]) rfl rfl rfl (by omega) (by omega) rfl ?_
          refine E_s (p' := 54) rfl rfl ?_
          have e9 : mateN R g (k + 1) = ((mateN R g k) ||| 0) := by
            show (bif mateB R g k then _ else _) = _
            rw [show mateB R g k = false by unfold mateB usb; first | (rw [decide_eq_false (p := k ≠ g) (by omega)]; rfl) | (rw [show (gmem R (k : Int) (Cn R)).all (sdR R) = false by assumption]; simp) | (rw [decide_eq_false (p := glen R (k : Int) = glen R (g : Int)) (by omega)]; simp)]
            first | rfl | exact (Nat.or_zero _).symm
          rw [← e9]
          exact ih (k + 1) (by omega) (by omega)
        · refine E_go (p' := 78) (L' := [some (aA 124), x1, some (aI ((g : Nat) : Int)), some (aI ((mateN R g k : Nat) : Int)), some (aI ((k : Nat) : Int))]) (st' := [aI ((mateN R g k : Nat) : Int)]) rfl rfl rfl ?_
          refine E_s (p' := 79) (st' := aA 124 :: _) rfl rfl ?_
          refine E_gA (b := 163) rfl rfl rfl rfl rfl rfl ?_
          refine E_s (p' := 84) (st' := aI ((k : Nat) : Int) :: _) rfl rfl ?_
          refine E_ald (e := k) (N := 12) (v := ((glen R (k : Int) : Nat) : Int)) rfl rfl (rfl) (by omega) (hG k (by omega)).1 ?_
          refine E_s (p' := 86) (st' := aA 124 :: _) rfl rfl ?_
          refine E_gA (b := 163) rfl rfl rfl rfl rfl rfl ?_
          refine E_s (p' := 90) (st' := aI ((g : Nat) : Int) :: _) rfl rfl ?_
          refine E_ald (e := g) (N := 12) (v := ((glen R (g : Int) : Nat) : Int)) rfl rfl (rfl) (by omega) (hG g (by omega)).1 ?_
          refine E_icmp_ne (x := ((glen R (k : Int) : Nat) : Int)) (y := ((glen R (g : Int) : Nat) : Int)) rfl (by decide) (fun h_4 => ?_) (fun h_4 => ?_)
          · refine E_go (p' := 101) (L' := [some (aA 124), x1, some (aI ((g : Nat) : Int)), some (aI ((mateN R g k : Nat) : Int)), some (aI ((k : Nat) : Int))]) (st' := [aI ((mateN R g k : Nat) : Int)]) rfl rfl rfl ?_
            refine E_s (p' := 102) (st' := aI 0 :: _) rfl rfl ?_
            refine E_or (x := mateN R g k) (y := 0) (v := ((mateN R g k) ||| 0)) rfl (by omega) (by omega) rfl ?_
            refine E_s (p' := 104) (L' := [some (aA 124), x1, some (aI ((g : Nat) : Int)), some (aI ((((mateN R g k) ||| 0) : Nat) : Int)), some (aI ((k : Nat) : Int))]) rfl rfl ?_
            refine E_inc (x := ((k : Nat) : Int)) (w := ((k + 1 : Nat) : Int)) (L' := [some (aA 124), x1, some (aI ((g : Nat) : Int)), some (aI ((((mateN R g k) ||| 0) : Nat) : Int)), some (aI ((k + 1 : Nat) : Int))]) rfl rfl rfl (by omega) (by omega) rfl ?_
            refine E_s (p' := 54) rfl rfl ?_
            have e9 : mateN R g (k + 1) = ((mateN R g k) ||| 0) := by
              show (bif mateB R g k then _ else _) = _
              rw [show mateB R g k = false by unfold mateB usb; first | (rw [decide_eq_false (p := k ≠ g) (by omega)]; rfl) | (rw [show (gmem R (k : Int) (Cn R)).all (sdR R) = false by assumption]; simp) | (rw [decide_eq_false (p := glen R (k : Int) = glen R (g : Int)) (by omega)]; simp)]
              first | rfl | exact (Nat.or_zero _).symm
            rw [← e9]
            exact ih (k + 1) (by omega) (by omega)
          · refine E_go (p' := 94) (L' := [some (aA 124), x1, some (aI ((g : Nat) : Int)), some (aI ((mateN R g k : Nat) : Int)), some (aI ((k : Nat) : Int))]) (st' := [aI ((mateN R g k : Nat) : Int)]) rfl rfl rfl ?_
            refine E_s (p' := 95) (st' := aI 1 :: _) rfl rfl ?_
            refine E_s (p' := 97) (st' := aI ((k : Nat) : Int) :: _) rfl rfl ?_
            refine E_shl (x := 1) (y := k) (v := ((1) * 2 ^ k)) rfl (by omega) (by omega) rfl ?_
            refine E_s (p' := 102) rfl rfl ?_
            refine E_or (x := mateN R g k) (y := ((1) * 2 ^ k)) (v := ((mateN R g k) ||| ((1) * 2 ^ k))) rfl (by omega) (by omega) rfl ?_
            refine E_s (p' := 104) (L' := [some (aA 124), x1, some (aI ((g : Nat) : Int)), some (aI ((((mateN R g k) ||| ((1) * 2 ^ k)) : Nat) : Int)), some (aI ((k : Nat) : Int))]) rfl rfl ?_
            refine E_inc (x := ((k : Nat) : Int)) (w := ((k + 1 : Nat) : Int)) (L' := [some (aA 124), x1, some (aI ((g : Nat) : Int)), some (aI ((((mateN R g k) ||| ((1) * 2 ^ k)) : Nat) : Int)), some (aI ((k + 1 : Nat) : Int))]) rfl rfl rfl (by omega) (by omega) rfl ?_
            refine E_s (p' := 54) rfl rfl ?_
            have e9 : mateN R g (k + 1) = ((mateN R g k) ||| ((1) * 2 ^ k)) := by
              show (bif mateB R g k then _ else _) = _
              rw [show mateB R g k = true by unfold mateB usb; rw [decide_eq_true (p := k ≠ g) (by omega), decide_eq_true (p := 0 < glen R (k : Int)) (by omega), show (gmem R (k : Int) (Cn R)).all (sdR R) = true by assumption, decide_eq_true (p := glen R (k : Int) = glen R (g : Int)) (by omega)]; rfl]
              rfl
            rw [← e9]
            exact ih (k + 1) (by omega) (by omega)
end
