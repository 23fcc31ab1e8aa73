section
variable {len : Nat} {m : Mm} {Q : Option AV → Sx → Prop} {v lo hi : Int}
theorem m_in (q1 : lo ≤ v → v ≤ hi → Q (some (aI 1)) (m, tl len)) (q0 : (v < lo ∨ hi < v) → Q (some (aI 0)) (m, tl len)) : E 130 0 [some (aI (v)), some (aI (lo)), some (aI (hi))] [] (m, tl len) Q := by
  refine E_s (p' := 1) (st' := aI (v) :: _) rfl rfl ?_
  refine E_s (p' := 2) (st' := aI (lo) :: _) rfl rfl ?_
  refine E_icmp_lt (x := (v)) (y := (lo)) rfl (by decide) (fun h_1 => ?_) (fun h_1 => ?_)
  · refine E_go (p' := 14) (L' := [some (aI (v)), some (aI (lo)), some (aI (hi))]) (st' := []) rfl rfl rfl ?_
    refine E_s (p' := 15) (st' := aI 0 :: _) rfl rfl ?_
    refine E_ret rfl rfl ?_
    exact q0 (by omega)
  · refine E_go (p' := 5) (L' := [some (aI (v)), some (aI (lo)), some (aI (hi))]) (st' := []) rfl rfl rfl ?_
    refine E_s (p' := 6) (st' := aI (v) :: _) rfl rfl ?_
    refine E_s (p' := 7) (st' := aI (hi) :: _) rfl rfl ?_
    refine E_icmp_gt (x := (v)) (y := (hi)) rfl (by decide) (fun h_2 => ?_) (fun h_2 => ?_)
    · refine E_go (p' := 14) (L' := [some (aI (v)), some (aI (lo)), some (aI (hi))]) (st' := []) rfl rfl rfl ?_
      refine E_s (p' := 15) (st' := aI 0 :: _) rfl rfl ?_
      refine E_ret rfl rfl ?_
      exact q0 (by omega)
    · refine E_go (p' := 10) (L' := [some (aI (v)), some (aI (lo)), some (aI (hi))]) (st' := []) rfl rfl rfl ?_
      refine E_s (p' := 11) (st' := aI 1 :: _) rfl rfl ?_
      refine E_s (p' := 15) rfl rfl ?_
      refine E_ret rfl rfl ?_
      exact q1 (by omega) (by omega)
end
section
variable {len : Nat} {m : Mm} {Q : Option AV → Sx → Prop} {S : Nat → RD} {r c l g o h s t : Int} {i ci : Nat} {R : RD}
theorem m_isRecord (q1 : ∀ i : Nat, i < 4 → r = i → Q (some (aI 1)) (m, tl len)) (q0 : (r < 0 ∨ 3 < r) → Q (some (aI 0)) (m, tl len)) : E 129 0 [some (aI (r))] [] (m, tl len) Q := by
  refine E_s (p' := 1) (st' := aI (r) :: _) rfl rfl ?_
  refine E_s (p' := 2) (st' := aI 0 :: _) rfl rfl ?_
  refine E_s (p' := 3) (st' := aI 3 :: _) rfl rfl ?_
  refine E_callL (p' := 6) (L0 := [some (aI (r)), some (aI 0), some (aI 3)]) rfl rfl rfl ?_
  refine m_in (fun h_1 h_2 => ?_) (fun h_3 => ?_)
  · refine E_go (p' := 6) (L' := [some (aI (r))]) (st' := [aI 1]) rfl rfl rfl ?_
    refine E_ret rfl rfl ?_
    exact q1 r.toNat (by omega) (by omega)
  · refine E_go (p' := 6) (L' := [some (aI (r))]) (st' := [aI 0]) rfl rfl rfl ?_
    refine E_ret rfl rfl ?_
    exact q0 (by omega)
theorem m_isKind (q1 : okc c l → Q (some (aI 1)) (m, tl len)) (q0 : ¬ okc c l → Q (some (aI 0)) (m, tl len)) : E 131 0 [some (aI (c)), some (aI (l))] [] (m, tl len) Q := by
  refine E_s (p' := 1) (st' := aI (c) :: _) rfl rfl ?_
  refine E_s (p' := 2) (st' := aI 0 :: _) rfl rfl ?_
  refine E_s (p' := 4) (st' := aI 23 :: _) rfl rfl ?_
  refine E_callL (p' := 7) (L0 := [some (aI (c)), some (aI 0), some (aI 23)]) rfl rfl rfl ?_
  refine m_in (fun h_1 h_2 => ?_) (fun h_3 => ?_)
  · refine E_go (p' := 7) (L' := [some (aI (c)), some (aI (l))]) (st' := [aI 1]) rfl rfl rfl ?_
    refine E_s (p' := 10) rfl rfl ?_
    refine E_s (p' := 11) (st' := aI (l) :: _) rfl rfl ?_
    refine E_s (p' := 13) (st' := aI 10 :: _) rfl rfl ?_
    refine E_s (p' := 16) (st' := aI 600 :: _) rfl rfl ?_
    refine E_callL (p' := 19) (L0 := [some (aI (l)), some (aI 10), some (aI 600)]) rfl rfl rfl ?_
    refine m_in (fun h_4 h_5 => ?_) (fun h_6 => ?_)
    · refine E_go (p' := 19) (L' := [some (aI (c)), some (aI (l))]) (st' := [aI 1]) rfl rfl rfl ?_
      refine E_s (p' := 22) rfl rfl ?_
      refine E_s (p' := 23) (st' := aI 1 :: _) rfl rfl ?_
      refine E_s (p' := 27) rfl rfl ?_
      refine E_ret rfl rfl ?_
      exact q1 (by unfold okc; omega)
    · refine E_go (p' := 19) (L' := [some (aI (c)), some (aI (l))]) (st' := [aI 0]) rfl rfl rfl ?_
      refine E_s (p' := 26) rfl rfl ?_
      refine E_s (p' := 27) (st' := aI 0 :: _) rfl rfl ?_
      refine E_ret rfl rfl ?_
      exact q0 (by unfold okc; omega)
  · refine E_go (p' := 7) (L' := [some (aI (c)), some (aI (l))]) (st' := [aI 0]) rfl rfl rfl ?_
    refine E_s (p' := 26) rfl rfl ?_
    refine E_s (p' := 27) (st' := aI 0 :: _) rfl rfl ?_
    refine E_ret rfl rfl ?_
    exact q0 (by unfold okc; omega)
theorem m_isCord (hS : MS S m) (q1 : ∀ i ci : Nat, i < 4 → r = i → c = ci → ci < Cn (S i) → Q (some (aI 1)) (m, tl len)) (q0 : (r < 0 ∨ 3 < r) ∨ (∃ i : Nat, i < 4 ∧ r = i ∧ ¬ inC (S i) c) → Q (some (aI 0)) (m, tl len)) : E 135 0 [some (aA 124), some (aI (r)), some (aI (c))] [] (m, tl len) Q := by
  refine E_s (p' := 1) (st' := aI (r) :: _) rfl rfl ?_
  refine E_callL (p' := 4) (L0 := [some (aI (r))]) rfl rfl rfl ?_
  refine m_isRecord (fun i hi hr => ?_) (fun hr => ?_)
  · refine E_go (p' := 4) (L' := [some (aA 124), some (aI (r)), some (aI (c))]) (st' := [aI 1]) rfl rfl rfl ?_
    obtain ⟨hV, hM⟩ := hS i hi
    have hn60 := hV.1
    have hs40 := hV.2.2.2.2.1
    subst hr
    refine E_s (p' := 7) rfl rfl ?_
    refine E_s (p' := 8) (st' := aI (c) :: _) rfl rfl ?_
    refine E_s (p' := 9) (st' := aI 0 :: _) rfl rfl ?_
    refine E_s (p' := 10) (st' := aA 124 :: _) rfl rfl ?_
    refine E_gA (b := 125) rfl rfl rfl rfl rfl rfl ?_
    refine E_s (p' := 14) (st' := aI ((i : Nat) : Int) :: _) rfl rfl ?_
    refine E_ald (e := i) (N := 4) (v := ((Cn (S i) : Nat) : Int)) rfl rfl (rfl) (by omega) (MR_125 hM) ?_
    refine E_s (p' := 16) (st' := aI 1 :: _) rfl rfl ?_
    refine E_sub (v := ((Cn (S i) : Int) - 1)) rfl (by omega) (by omega) ?_
    refine E_callL (p' := 20) (L0 := [some (aI (c)), some (aI 0), some (aI ((Cn (S i) : Int) - 1))]) rfl rfl rfl ?_
    refine m_in (fun h_1 h_2 => ?_) (fun h_3 => ?_)
    · refine E_go (p' := 20) (L' := [some (aA 124), some (aI ((i : Nat) : Int)), some (aI (c))]) (st' := [aI 1]) rfl rfl rfl ?_
      refine E_s (p' := 23) rfl rfl ?_
      refine E_s (p' := 24) (st' := aI 1 :: _) rfl rfl ?_
      refine E_s (p' := 28) rfl rfl ?_
      refine E_ret rfl rfl ?_
      exact q1 i c.toNat hi rfl (by omega) (by omega)
    · refine E_go (p' := 20) (L' := [some (aA 124), some (aI ((i : Nat) : Int)), some (aI (c))]) (st' := [aI 0]) rfl rfl rfl ?_
      refine E_s (p' := 27) rfl rfl ?_
      refine E_s (p' := 28) (st' := aI 0 :: _) rfl rfl ?_
      refine E_ret rfl rfl ?_
      first | exact q0 (Or.inl hr) | exact q0 (Or.inr ⟨i, hi, rfl, by unfold inC; omega⟩)
  · refine E_go (p' := 4) (L' := [some (aA 124), some (aI (r)), some (aI (c))]) (st' := [aI 0]) rfl rfl rfl ?_
    refine E_s (p' := 27) rfl rfl ?_
    refine E_s (p' := 28) (st' := aI 0 :: _) rfl rfl ?_
    refine E_ret rfl rfl ?_
    first | exact q0 (Or.inl hr) | exact q0 (Or.inr ⟨i, hi, rfl, by unfold inC; omega⟩)
theorem m_changes (hi : i < 4) (q : Q none (up2 m 140 i 0, tl len)) : E 133 0 [some (aA 124), some (aI ((i : Nat) : Int))] [] (m, tl len) Q := by
  refine E_s (p' := 1) (st' := aA 124 :: _) rfl rfl ?_
  refine E_gA (b := 140) rfl rfl rfl rfl rfl rfl ?_
  refine E_s (p' := 5) (st' := aI ((i : Nat) : Int) :: _) rfl rfl ?_
  refine E_s (p' := 6) (st' := aI 0 :: _) rfl rfl ?_
  refine E_zst (e := i) (N := 4) rfl rfl (rfl) (by omega) (by decide) ?_
  refine E_ret rfl rfl ?_
  exact q
theorem m_add (hi : i < 4) (hM : MR R i m) (hV : VR R) (hn : Cn R < 60) (hcol : 0 ≤ c) (hl : 0 ≤ l) (q : ∀ m1, MR (Radd R g o c.toNat l.toNat) i m1 → Mx i m m1 → Co1 m m1 → Q (some (aI (Cn R : Int))) (m1, tl len)) : E 132 0 [some (aA 124), some (aI ((i : Nat) : Int)), some (aI (g)), some (aI (o)), some (aI (c)), some (aI (l)), none] [] (m, tl len) Q := by
  refine E_s (p' := 2) (st' := aI 60 :: _) rfl rfl ?_
  refine E_s (p' := 3) (st' := aI ((i : Nat) : Int) :: _) rfl rfl ?_
  refine E_mul (v := ((60 * i : Nat) : Int)) rfl (by omega) (by omega) ?_
  refine E_s (p' := 5) (st' := aA 124 :: _) rfl rfl ?_
  refine E_gA (b := 125) rfl rfl rfl rfl rfl rfl ?_
  refine E_s (p' := 9) (st' := aI ((i : Nat) : Int) :: _) rfl rfl ?_
  refine E_ald (e := i) (N := 4) (v := ((Cn R : Nat) : Int)) rfl rfl (rfl) (by omega) (MR_125 hM) ?_
  refine E_add (v := ((60 * i + Cn R : Nat) : Int)) rfl (by omega) (by omega) ?_
  refine E_s (p' := 13) (L' := [some (aA 124), some (aI ((i : Nat) : Int)), some (aI (g)), some (aI (o)), some (aI (c)), some (aI (l)), some (aI ((60 * i + Cn R : Nat) : Int))]) rfl rfl ?_
  refine E_s (p' := 14) (st' := aA 124 :: _) rfl rfl ?_
  refine E_gA (b := 127) rfl rfl rfl rfl rfl rfl ?_
  refine E_s (p' := 19) (st' := aI ((60 * i + Cn R : Nat) : Int) :: _) rfl rfl ?_
  refine E_s (p' := 20) (st' := aI (g) :: _) rfl rfl ?_
  refine E_ast (e := 60 * i + Cn R) (N := 240) rfl rfl (rfl) (by omega) ?_
  refine E_s (p' := 22) (st' := aA 124 :: _) rfl rfl ?_
  refine E_gA (b := 128) rfl rfl rfl rfl rfl rfl ?_
  refine E_s (p' := 27) (st' := aI ((60 * i + Cn R : Nat) : Int) :: _) rfl rfl ?_
  refine E_s (p' := 28) (st' := aI (o) :: _) rfl rfl ?_
  refine E_ast (e := 60 * i + Cn R) (N := 240) rfl rfl (rfl) (by omega) ?_
  refine E_s (p' := 30) (st' := aA 124 :: _) rfl rfl ?_
  refine E_gA (b := 129) rfl rfl rfl rfl rfl rfl ?_
  refine E_s (p' := 35) (st' := aI ((60 * i + Cn R : Nat) : Int) :: _) rfl rfl ?_
  refine E_s (p' := 37) (st' := aI (c) :: _) rfl rfl ?_
  refine E_ast (e := 60 * i + Cn R) (N := 240) rfl rfl (rfl) (by omega) ?_
  refine E_s (p' := 39) (st' := aA 124 :: _) rfl rfl ?_
  refine E_gA (b := 130) rfl rfl rfl rfl rfl rfl ?_
  refine E_s (p' := 44) (st' := aI ((60 * i + Cn R : Nat) : Int) :: _) rfl rfl ?_
  refine E_s (p' := 46) (st' := aI (l) :: _) rfl rfl ?_
  refine E_ast (e := 60 * i + Cn R) (N := 240) rfl rfl (rfl) (by omega) ?_
  refine E_s (p' := 48) (st' := aA 124 :: _) rfl rfl ?_
  refine E_gA (b := 131) rfl rfl rfl rfl rfl rfl ?_
  refine E_s (p' := 53) (st' := aI ((60 * i + Cn R : Nat) : Int) :: _) rfl rfl ?_
  refine E_s (p' := 54) (st' := aI (-1) :: _) rfl rfl ?_
  refine E_ast (e := 60 * i + Cn R) (N := 240) rfl rfl (rfl) (by omega) ?_
  refine E_s (p' := 56) (st' := aA 124 :: _) rfl rfl ?_
  refine E_gA (b := 132) rfl rfl rfl rfl rfl rfl ?_
  refine E_s (p' := 61) (st' := aI ((60 * i + Cn R : Nat) : Int) :: _) rfl rfl ?_
  refine E_s (p' := 62) (st' := aI 0 :: _) rfl rfl ?_
  refine E_ast (e := 60 * i + Cn R) (N := 240) rfl rfl (rfl) (by omega) ?_
  refine E_s (p' := 64) (st' := aA 124 :: _) rfl rfl ?_
  refine E_gA (b := 125) rfl rfl rfl rfl rfl rfl ?_
  refine E_s (p' := 68) (st' := aI ((i : Nat) : Int) :: _) rfl rfl ?_
  refine E_s (p' := 69) rfl rfl ?_
  refine E_ald (e := i) (N := 4) (v := ((Cn R : Nat) : Int)) rfl rfl (rfl) (by omega) ((up2_ne (by omega)).trans ((up2_ne (by omega)).trans ((up2_ne (by omega)).trans ((up2_ne (by omega)).trans ((up2_ne (by omega)).trans ((up2_ne (by omega)).trans ((MR_125 hM)))))))) ?_
  refine E_s (p' := 71) (st' := aI 1 :: _) rfl rfl ?_
  refine E_add (v := ((Cn R + 1 : Nat) : Int)) rfl (by omega) (by omega) ?_
  refine E_ast (e := i) (N := 4) rfl rfl (rfl) (by omega) ?_
  refine E_s (p' := 74) (st' := aA 124 :: _) rfl rfl ?_
  refine E_s (p' := 75) (st' := aI ((i : Nat) : Int) :: _) rfl rfl ?_
  refine E_callV (k' := 133) (a := 124) (r := []) (L0 := [some (aA 124), some (aI ((i : Nat) : Int))]) rfl rfl rfl rfl rfl rfl rfl rfl rfl rfl ?_
  refine m_changes (i := i) (by omega) ?_
  refine E_go (p' := 78) (L' := [some (aA 124), some (aI ((i : Nat) : Int)), some (aI (g)), some (aI (o)), some (aI (c)), some (aI (l)), some (aI ((60 * i + Cn R : Nat) : Int))]) (st' := []) rfl rfl rfl ?_
  refine E_s (p' := 79) (st' := aA 124 :: _) rfl rfl ?_
  refine E_gA (b := 125) rfl rfl rfl rfl rfl rfl ?_
  refine E_s (p' := 83) (st' := aI ((i : Nat) : Int) :: _) rfl rfl ?_
  refine E_ald (e := i) (N := 4) (v := ((Cn R + 1 : Nat) : Int)) rfl rfl (rfl) (by omega) ((up2_ne (by omega)).trans (up2_eq)) ?_
  refine E_s (p' := 85) (st' := aI 1 :: _) rfl rfl ?_
  refine E_sub (v := ((Cn R : Nat) : Int)) rfl (by omega) (by omega) ?_
  refine E_ret rfl rfl ?_
  exact q _ (MR.add (g := g) (o := o) (col := c.toNat) (l := l.toNat) hM ((up2_ne (by omega)).trans (up2_eq)) (((up2_ne (by omega)).trans ((up2_ne (by omega)).trans ((up2_ne (by omega)).trans ((up2_ne (by omega)).trans ((up2_ne (by omega)).trans ((up2_ne (by omega)).trans ((up2_ne (by omega)).trans (up2_eq)))))))).trans (by omega)) (((up2_ne (by omega)).trans ((up2_ne (by omega)).trans ((up2_ne (by omega)).trans ((up2_ne (by omega)).trans ((up2_ne (by omega)).trans ((up2_ne (by omega)).trans (up2_eq))))))).trans (by omega)) (((up2_ne (by omega)).trans ((up2_ne (by omega)).trans ((up2_ne (by omega)).trans ((up2_ne (by omega)).trans ((up2_ne (by omega)).trans (up2_eq)))))).trans (by omega)) (((up2_ne (by omega)).trans ((up2_ne (by omega)).trans ((up2_ne (by omega)).trans ((up2_ne (by omega)).trans (up2_eq))))).trans (by omega)) (((up2_ne (by omega)).trans ((up2_ne (by omega)).trans ((up2_ne (by omega)).trans (up2_eq)))).trans (by omega)) (((up2_ne (by omega)).trans ((up2_ne (by omega)).trans (up2_eq))).trans (by omega)) (fun b j h1 h2 h3 => ((up2_o (by omega)).trans ((up2_o (by omega)).trans ((up2_o (by omega)).trans ((up2_o (by omega)).trans ((up2_o (by omega)).trans ((up2_o (by omega)).trans ((up2_o (by omega)).trans (up2_o (by omega))))))))))) ((((((((Mx.rf.up (by unfold blk; omega)).up (by unfold blk; omega)).up (by unfold blk; omega)).up (by unfold blk; omega)).up (by unfold blk; omega)).up (by unfold blk; omega)).up (by unfold blk; omega)).up (by unfold blk; omega)) (fun b j hb => ((up2_ne (by omega)).trans ((up2_ne (by omega)).trans ((up2_ne (by omega)).trans ((up2_ne (by omega)).trans ((up2_ne (by omega)).trans ((up2_ne (by omega)).trans ((up2_ne (by omega)).trans (up2_ne (by omega))))))))))
theorem M_cord (hS : MS S m) (q : ∀ m1, MS (on1 S r (-2) (oCord g c l)).2 m1 → Co1 m m1 → Q (some (aI (on1 S r (-2) (oCord g c l)).1)) (m1, tl len)) : E 128 0 [some (aA 124), some (aI (r)), some (aI (g)), some (aI (c)), some (aI (l))] [] (m, tl len) Q := by
  refine E_s (p' := 1) (st' := aI (r) :: _) rfl rfl ?_
  refine E_callL (p' := 4) (L0 := [some (aI (r))]) rfl rfl rfl ?_
  refine m_isRecord (fun i hi hr => ?_) (fun hr => ?_)
  · refine E_go (p' := 4) (L' := [some (aA 124), some (aI (r)), some (aI (g)), some (aI (c)), some (aI (l))]) (st' := [aI 1]) rfl rfl rfl ?_
    obtain ⟨hV, hM⟩ := hS i hi
    have hn60 := hV.1
    have hs40 := hV.2.2.2.2.1
    subst hr
    refine E_s (p' := 7) rfl rfl ?_
    refine E_s (p' := 8) (st' := aI (g) :: _) rfl rfl ?_
    refine E_s (p' := 9) (st' := aI 0 :: _) rfl rfl ?_
    refine E_s (p' := 11) (st' := aI 11 :: _) rfl rfl ?_
    refine E_callL (p' := 14) (L0 := [some (aI (g)), some (aI 0), some (aI 11)]) rfl rfl rfl ?_
    refine m_in (fun h_1 h_2 => ?_) (fun h_3 => ?_)
    · refine E_go (p' := 14) (L' := [some (aA 124), some (aI ((i : Nat) : Int)), some (aI (g)), some (aI (c)), some (aI (l))]) (st' := [aI 1]) rfl rfl rfl ?_
      refine E_s (p' := 17) rfl rfl ?_
      refine E_s (p' := 18) (st' := aI (c) :: _) rfl rfl ?_
      refine E_s (p' := 20) (st' := aI (l) :: _) rfl rfl ?_
      refine E_callL (p' := 23) (L0 := [some (aI (c)), some (aI (l))]) rfl rfl rfl ?_
      refine m_isKind (fun hok => ?_) (fun hnk => ?_)
      · refine E_go (p' := 23) (L' := [some (aA 124), some (aI ((i : Nat) : Int)), some (aI (g)), some (aI (c)), some (aI (l))]) (st' := [aI 1]) rfl rfl rfl ?_
        refine E_s (p' := 29) rfl rfl ?_
        refine E_s (p' := 30) (st' := aA 124 :: _) rfl rfl ?_
        refine E_gA (b := 125) rfl rfl rfl rfl rfl rfl ?_
        refine E_s (p' := 34) (st' := aI ((i : Nat) : Int) :: _) rfl rfl ?_
        refine E_ald (e := i) (N := 4) (v := ((Cn (S i) : Nat) : Int)) rfl rfl (rfl) (by omega) (MR_125 hM) ?_
        refine E_s (p' := 37) (st' := aI 60 :: _) rfl rfl ?_
        refine E_icmp_ne (x := ((Cn (S i) : Nat) : Int)) (y := 60) rfl (by decide) (fun h_4 => ?_) (fun h_4 => ?_)
        · refine E_go (p' := 45) (L' := [some (aA 124), some (aI ((i : Nat) : Int)), some (aI (g)), some (aI (c)), some (aI (l))]) (st' := []) rfl rfl rfl ?_
          refine E_s (p' := 46) (st' := aA 124 :: _) rfl rfl ?_
          refine E_s (p' := 47) (st' := aI ((i : Nat) : Int) :: _) rfl rfl ?_
          refine E_s (p' := 48) (st' := aI (g) :: _) rfl rfl ?_
          refine E_s (p' := 49) (st' := aI (-1) :: _) rfl rfl ?_
          refine E_s (p' := 50) (st' := aI (c) :: _) rfl rfl ?_
          refine E_s (p' := 52) (st' := aI (l) :: _) rfl rfl ?_
          refine E_callV (k' := 132) (a := 124) (r := []) (L0 := [some (aA 124), some (aI ((i : Nat) : Int)), some (aI (g)), some (aI (-1)), some (aI (c)), some (aI (l)), none]) rfl rfl rfl rfl rfl rfl rfl rfl rfl rfl ?_
          refine m_add hi hM hV (by omega) (by unfold okc at hok; omega) (by unfold okc at hok; omega) (fun m1 hM1 hx1 hc1 => ?_)
          refine E_go (p' := 55) (L' := [some (aA 124), some (aI ((i : Nat) : Int)), some (aI (g)), some (aI (c)), some (aI (l))]) (st' := [aI ((Cn (S i) : Nat) : Int)]) rfl rfl rfl ?_
          refine E_ret rfl rfl ?_
          exact finMx hS hi rfl q (by unfold oCord; rw [cif_pos ⟨⟨by omega, by omega⟩, hok⟩, cif_neg (by omega)]) (V_add hV (by omega) (by omega) (by omega) (by unfold okc at hok; omega) (by unfold okc at hok; omega)) hM1 hx1 hc1
        · refine E_go (p' := 40) (L' := [some (aA 124), some (aI ((i : Nat) : Int)), some (aI (g)), some (aI (c)), some (aI (l))]) (st' := []) rfl rfl rfl ?_
          refine E_s (p' := 42) (st' := aI (-3) :: _) rfl rfl ?_
          refine E_s (p' := 55) rfl rfl ?_
          refine E_ret rfl rfl ?_
          exact finM_same hS hi rfl q (by unfold oCord; rw [cif_pos ⟨⟨by omega, by omega⟩, hok⟩, cif_pos (by omega)]) hS (fun _ _ _ => rfl)
      · refine E_go (p' := 23) (L' := [some (aA 124), some (aI ((i : Nat) : Int)), some (aI (g)), some (aI (c)), some (aI (l))]) (st' := [aI 0]) rfl rfl rfl ?_
        refine E_s (p' := 26) rfl rfl ?_
        refine E_s (p' := 28) (st' := aI (-2) :: _) rfl rfl ?_
        refine E_ret rfl rfl ?_
        exact finM_same hS hi rfl q (by unfold oCord; rw [cif_neg (by first | (unfold okc; omega) | exact fun g9 => hnk g9.2)]) hS (fun _ _ _ => rfl)
    · refine E_go (p' := 14) (L' := [some (aA 124), some (aI ((i : Nat) : Int)), some (aI (g)), some (aI (c)), some (aI (l))]) (st' := [aI 0]) rfl rfl rfl ?_
      refine E_s (p' := 26) rfl rfl ?_
      refine E_s (p' := 28) (st' := aI (-2) :: _) rfl rfl ?_
      refine E_ret rfl rfl ?_
      exact finM_same hS hi rfl q (by unfold oCord; rw [cif_neg (by first | (unfold okc; omega) | exact fun g9 => hnk g9.2)]) hS (fun _ _ _ => rfl)
  · refine E_go (p' := 4) (L' := [some (aA 124), some (aI (r)), some (aI (g)), some (aI (c)), some (aI (l))]) (st' := [aI 0]) rfl rfl rfl ?_
    refine E_s (p' := 26) rfl rfl ?_
    refine E_s (p' := 28) (st' := aI (-2) :: _) rfl rfl ?_
    refine E_ret rfl rfl ?_
    exact finM_out hS q hr
theorem dep_le {R : RD} (hV : VR R) {c : Nat} (hc : c < Cn R) : dep R c ≤ c + 1 := by
  induction c using Nat.strongRecOn with
  | ind c ih =>
    obtain ⟨-, ⟨o1, o2⟩, -⟩ := hV.2.2.1 c hc
    rw [dep_eq hV hc]
    split
    · omega
    · have := ih (Co R c).toNat (by omega) (by omega)
      omega
theorem ml_hang (hi : i < 4) (hM : MR R i m) (hV : VR R) {x3 x4 : Option AV} (hcc : ci < Cn R) (hk : E 134 63 [some (aA 124), some (aI (i : Int)), some (aI (ci : Int)), some (aI c), some (aI l), some (aI (dep R ci : Int)), some (aI (-1))] [] (m, tl len) Q) : ∀ (d : Nat) (b : Nat) (z : Int), (dep R ci < b + d) → (b ≤ dep R ci) → ((z = -1 ∧ dep R ci = b) ∨ ∃ e : Nat, z = e ∧ e < Cn R ∧ dep R ci = b + dep R e) → E 134 37 [some (aA 124), some (aI ((i : Nat) : Int)), some (aI ((ci : Nat) : Int)), some (aI (c)), some (aI (l)), some (aI ((b : Nat) : Int)), some (aI (z))] [] (m, tl len) Q := by
  intro d
  induction d with
  | zero => intro b z hd hb hz; omega
  | succ d ih =>
    intro b z hd hb hz
    refine E_s (p' := 39) (st' := aI (z) :: _) rfl rfl ?_
    refine E_s (p' := 40) (st' := aI (-1) :: _) rfl rfl ?_
    refine E_icmp_eq (x := (z)) (y := (-1)) rfl (by decide) (fun h_1 => ?_) (fun h_1 => ?_)
    · refine E_go (p' := 63) (L' := [some (aA 124), some (aI ((i : Nat) : Int)), some (aI ((ci : Nat) : Int)), some (aI (c)), some (aI (l)), some (aI ((b : Nat) : Int)), some (aI (z))]) (st' := []) rfl rfl rfl ?_
      have e9 : dep R ci = b := by rcases hz with ⟨z1, z2⟩ | ⟨e, z1, z2, z3⟩; exact z2; omega
      rw [show z = -1 by omega, ← e9]
      exact hk
    · refine E_go (p' := 43) (L' := [some (aA 124), some (aI ((i : Nat) : Int)), some (aI ((ci : Nat) : Int)), some (aI (c)), some (aI (l)), some (aI ((b : Nat) : Int)), some (aI (z))]) (st' := []) rfl rfl rfl ?_
      obtain ⟨e, ez, he2, he3⟩ : ∃ e : Nat, z = e ∧ e < Cn R ∧ dep R ci = b + dep R e := by rcases hz with ⟨z1, z2⟩ | z1; omega; exact z1
      have hd2 := dep_eq hV he2
      obtain ⟨-, ⟨vo1, vo2⟩, -⟩ := hV.2.2.1 e he2
      have hn60 := hV.1
      have hdn := dep_le hV hcc
      refine E_inc (x := ((b : Nat) : Int)) (w := ((b + 1 : Nat) : Int)) (L' := [some (aA 124), some (aI ((i : Nat) : Int)), some (aI ((ci : Nat) : Int)), some (aI (c)), some (aI (l)), some (aI ((b + 1 : Nat) : Int)), some (aI (z))]) rfl rfl rfl (by omega) (by omega) rfl ?_
      refine E_s (p' := 47) (st' := aA 124 :: _) rfl rfl ?_
      refine E_gA (b := 128) rfl rfl rfl rfl rfl rfl ?_
      refine E_s (p' := 52) (st' := aI 60 :: _) rfl rfl ?_
      refine E_s (p' := 53) (st' := aI ((i : Nat) : Int) :: _) rfl rfl ?_
      refine E_mul (v := ((60 * i : Nat) : Int)) rfl (by omega) (by omega) ?_
      refine E_s (p' := 56) (st' := aI (z) :: _) rfl rfl ?_
      refine E_add (v := (60 * (i : Int) + z)) rfl (by omega) (by omega) ?_
      refine E_ald (e := (60 * (i : Int) + z).toNat) (N := 240) (v := ((Co R e))) rfl rfl (by omega) (by omega) (MR_128 hM (by omega) (by omega)) ?_
      refine E_s (p' := 60) (L' := [some (aA 124), some (aI ((i : Nat) : Int)), some (aI ((ci : Nat) : Int)), some (aI (c)), some (aI (l)), some (aI ((b + 1 : Nat) : Int)), some (aI ((Co R e)))]) rfl rfl ?_
      refine E_s (p' := 37) rfl rfl ?_
      refine ih (b + 1) (Co R e) (by omega) ?_ ?_
      · rcases (show Co R e < 0 ∨ 0 ≤ Co R e by omega) with g | g
        · rw [if_pos g] at hd2; omega
        · rw [if_neg (by omega)] at hd2; omega
      · rcases (show Co R e < 0 ∨ 0 ≤ Co R e by omega) with g | g
        · rw [if_pos g] at hd2; exact Or.inl ⟨by omega, by omega⟩
        · rw [if_neg (by omega)] at hd2; exact Or.inr ⟨(Co R e).toNat, by omega, by omega, by omega⟩
theorem M_hang (hS : MS S m) (q : ∀ m1, MS (on1 S r (-2) (oHang o c l)).2 m1 → Co1 m m1 → Q (some (aI (on1 S r (-2) (oHang o c l)).1)) (m1, tl len)) : E 134 0 [some (aA 124), some (aI (r)), some (aI (o)), some (aI (c)), some (aI (l)), none, none] [] (m, tl len) Q := by
  refine E_s (p' := 1) (st' := aA 124 :: _) rfl rfl ?_
  refine E_s (p' := 2) (st' := aI (r) :: _) rfl rfl ?_
  refine E_s (p' := 3) (st' := aI (o) :: _) rfl rfl ?_
  refine E_callV (k' := 135) (a := 124) (r := []) (L0 := [some (aA 124), some (aI (r)), some (aI (o))]) rfl rfl rfl rfl rfl rfl rfl rfl rfl rfl ?_
  refine m_isCord hS (fun i ci hi hr hc hcc => ?_) (fun hno => ?_)
  · refine E_go (p' := 6) (L' := [some (aA 124), some (aI (r)), some (aI (o)), some (aI (c)), some (aI (l)), none, none]) (st' := [aI 1]) rfl rfl rfl ?_
    obtain ⟨hV, hM⟩ := hS i hi
    have hn60 := hV.1
    have hs40 := hV.2.2.2.2.1
    subst hr hc
    refine E_s (p' := 9) rfl rfl ?_
    refine E_s (p' := 10) (st' := aI (c) :: _) rfl rfl ?_
    refine E_s (p' := 12) (st' := aI (l) :: _) rfl rfl ?_
    refine E_callL (p' := 15) (L0 := [some (aI (c)), some (aI (l))]) rfl rfl rfl ?_
    refine m_isKind (fun hok => ?_) (fun hnk => ?_)
    · refine E_go (p' := 15) (L' := [some (aA 124), some (aI ((i : Nat) : Int)), some (aI ((ci : Nat) : Int)), some (aI (c)), some (aI (l)), none, none]) (st' := [aI 1]) rfl rfl rfl ?_
      refine E_s (p' := 21) rfl rfl ?_
      refine E_s (p' := 22) (st' := aI 1 :: _) rfl rfl ?_
      refine E_s (p' := 24) (L' := [some (aA 124), some (aI ((i : Nat) : Int)), some (aI ((ci : Nat) : Int)), some (aI (c)), some (aI (l)), some (aI 1), none]) rfl rfl ?_
      refine E_s (p' := 25) (st' := aA 124 :: _) rfl rfl ?_
      refine E_gA (b := 128) rfl rfl rfl rfl rfl rfl ?_
      refine E_s (p' := 30) (st' := aI 60 :: _) rfl rfl ?_
      refine E_s (p' := 31) (st' := aI ((i : Nat) : Int) :: _) rfl rfl ?_
      refine E_mul (v := ((60 * i : Nat) : Int)) rfl (by omega) (by omega) ?_
      refine E_s (p' := 33) (st' := aI ((ci : Nat) : Int) :: _) rfl rfl ?_
      refine E_add (v := ((60 * i + ci : Nat) : Int)) rfl (by omega) (by omega) ?_
      refine E_ald (e := 60 * i + ci) (N := 240) (v := ((Co (S i) ci))) rfl rfl (rfl) (by omega) (MR_128 hM (by omega) (by omega)) ?_
      refine E_s (p' := 37) (L' := [some (aA 124), some (aI ((i : Nat) : Int)), some (aI ((ci : Nat) : Int)), some (aI (c)), some (aI (l)), some (aI 1), some (aI ((Co (S i) ci)))]) rfl rfl ?_
      have hd2 := dep_eq hV hcc
      obtain ⟨-, ⟨vo1, vo2⟩, -⟩ := hV.2.2.1 ci hcc
      have hdn := dep_le hV hcc
      refine ml_hang hi hM hV (x3 := none) (x4 := none) hcc ?_ (dep (S i) ci + 1) 1 (Co (S i) ci) (by omega) (by rw [hd2]; split <;> omega) ?_
      rotate_left
      · rcases (show Co (S i) ci < 0 ∨ 0 ≤ Co (S i) ci by omega) with g | g
        · rw [if_pos g] at hd2; exact Or.inl ⟨by omega, by omega⟩
        · rw [if_neg (by omega)] at hd2; exact Or.inr ⟨(Co (S i) ci).toNat, by omega, by omega, by omega⟩
      refine E_s (p' := 64) (st' := aA 124 :: _) rfl rfl ?_
      refine E_gA (b := 125) rfl rfl rfl rfl rfl rfl ?_
      refine E_s (p' := 68) (st' := aI ((i : Nat) : Int) :: _) rfl rfl ?_
      refine E_ald (e := i) (N := 4) (v := ((Cn (S i) : Nat) : Int)) rfl rfl (rfl) (by omega) (MR_125 hM) ?_
      refine E_s (p' := 71) (st' := aI 60 :: _) rfl rfl ?_
      refine E_icmp_eq (x := ((Cn (S i) : Nat) : Int)) (y := 60) rfl (by decide) (fun h_1 => ?_) (fun h_1 => ?_)
      · refine E_go (p' := 80) (L' := [some (aA 124), some (aI ((i : Nat) : Int)), some (aI ((ci : Nat) : Int)), some (aI (c)), some (aI (l)), some (aI ((dep (S i) ci : Nat) : Int)), some (aI (-1))]) (st' := []) rfl rfl rfl ?_
        refine E_s (p' := 82) (st' := aI (-3) :: _) rfl rfl ?_
        refine E_s (p' := 95) rfl rfl ?_
        refine E_ret rfl rfl ?_
        exact finM_same hS hi rfl q (by unfold oHang; (try simp only [Int.toNat_natCast]); rw [cif_pos ⟨by unfold inC; omega, hok⟩, cif_pos (show 3 < dep (S i) ci ∨ Cn (S i) = 60 by omega)]) hS (fun _ _ _ => rfl)
      · refine E_go (p' := 74) (L' := [some (aA 124), some (aI ((i : Nat) : Int)), some (aI ((ci : Nat) : Int)), some (aI (c)), some (aI (l)), some (aI ((dep (S i) ci : Nat) : Int)), some (aI (-1))]) (st' := []) rfl rfl rfl ?_
        refine E_s (p' := 76) (st' := aI ((dep (S i) ci : Nat) : Int) :: _) rfl rfl ?_
        refine E_s (p' := 77) (st' := aI 3 :: _) rfl rfl ?_
        refine E_icmp_le (x := ((dep (S i) ci : Nat) : Int)) (y := 3) rfl (by decide) (fun h_2 => ?_) (fun h_2 => ?_)
        · refine E_go (p' := 85) (L' := [some (aA 124), some (aI ((i : Nat) : Int)), some (aI ((ci : Nat) : Int)), some (aI (c)), some (aI (l)), some (aI ((dep (S i) ci : Nat) : Int)), some (aI (-1))]) (st' := []) rfl rfl rfl ?_
          refine E_s (p' := 86) (st' := aA 124 :: _) rfl rfl ?_
          refine E_s (p' := 87) (st' := aI ((i : Nat) : Int) :: _) rfl rfl ?_
          refine E_s (p' := 88) (st' := aI (-1) :: _) rfl rfl ?_
          refine E_s (p' := 89) (st' := aI ((ci : Nat) : Int) :: _) rfl rfl ?_
          refine E_s (p' := 90) (st' := aI (c) :: _) rfl rfl ?_
          refine E_s (p' := 92) (st' := aI (l) :: _) rfl rfl ?_
          refine E_callV (k' := 132) (a := 124) (r := []) (L0 := [some (aA 124), some (aI ((i : Nat) : Int)), some (aI (-1)), some (aI ((ci : Nat) : Int)), some (aI (c)), some (aI (l)), none]) rfl rfl rfl rfl rfl rfl rfl rfl rfl rfl ?_
          refine m_add hi hM hV (by omega) (by unfold okc at hok; omega) (by unfold okc at hok; omega) (fun m1 hM1 hx1 hc1 => ?_)
          refine E_go (p' := 95) (L' := [some (aA 124), some (aI ((i : Nat) : Int)), some (aI ((ci : Nat) : Int)), some (aI (c)), some (aI (l)), some (aI ((dep (S i) ci : Nat) : Int)), some (aI (-1))]) (st' := [aI ((Cn (S i) : Nat) : Int)]) rfl rfl rfl ?_
          refine E_ret rfl rfl ?_
          exact finMx hS hi rfl q (by unfold oHang; (try simp only [Int.toNat_natCast]); rw [cif_pos ⟨by unfold inC; omega, hok⟩, cif_neg (show ¬ (3 < dep (S i) ci ∨ Cn (S i) = 60) by omega)]) (V_add hV (by omega) (by omega) (by omega) (by unfold okc at hok; omega) (by unfold okc at hok; omega)) hM1 hx1 hc1
        · refine E_go (p' := 80) (L' := [some (aA 124), some (aI ((i : Nat) : Int)), some (aI ((ci : Nat) : Int)), some (aI (c)), some (aI (l)), some (aI ((dep (S i) ci : Nat) : Int)), some (aI (-1))]) (st' := []) rfl rfl rfl ?_
          refine E_s (p' := 82) (st' := aI (-3) :: _) rfl rfl ?_
          refine E_s (p' := 95) rfl rfl ?_
          refine E_ret rfl rfl ?_
          exact finM_same hS hi rfl q (by unfold oHang; (try simp only [Int.toNat_natCast]); rw [cif_pos ⟨by unfold inC; omega, hok⟩, cif_pos (show 3 < dep (S i) ci ∨ Cn (S i) = 60 by omega)]) hS (fun _ _ _ => rfl)
    · refine E_go (p' := 15) (L' := [some (aA 124), some (aI ((i : Nat) : Int)), some (aI ((ci : Nat) : Int)), some (aI (c)), some (aI (l)), none, none]) (st' := [aI 0]) rfl rfl rfl ?_
      refine E_s (p' := 18) rfl rfl ?_
      refine E_s (p' := 20) (st' := aI (-2) :: _) rfl rfl ?_
      refine E_ret rfl rfl ?_
      exact finM_same hS hi rfl q (by unfold oHang; (try simp only [Int.toNat_natCast]); rw [cif_neg (fun g9 => hnk g9.2)]) hS (fun _ _ _ => rfl)
  · refine E_go (p' := 6) (L' := [some (aA 124), some (aI (r)), some (aI (o)), some (aI (c)), some (aI (l)), none, none]) (st' := [aI 0]) rfl rfl rfl ?_
    refine E_s (p' := 18) rfl rfl ?_
    refine E_s (p' := 20) (st' := aI (-2) :: _) rfl rfl ?_
    refine E_ret rfl rfl ?_
    rcases hno with hr | ⟨i, hi, hr, hno⟩
    · exact finM_out hS q hr
    · exact finM_same hS hi hr q (by unfold oHang; (try simp only [Int.toNat_natCast]); rw [cif_neg (fun g9 => hno g9.1)]) hS (fun _ _ _ => rfl)
theorem M_gap (hS : MS S m) (q : ∀ m1, MS (on1 S r (-2) (oGap c)).2 m1 → Co1 m m1 → Q (some (aI (on1 S r (-2) (oGap c)).1)) (m1, tl len)) : E 141 0 [some (aA 124), some (aI (r)), some (aI (c)), none] [] (m, tl len) Q := by
  refine E_s (p' := 1) (st' := aI (r) :: _) rfl rfl ?_
  refine E_callL (p' := 4) (L0 := [some (aI (r))]) rfl rfl rfl ?_
  refine m_isRecord (fun i hi hr => ?_) (fun hr => ?_)
  · refine E_go (p' := 4) (L' := [some (aA 124), some (aI (r)), some (aI (c)), none]) (st' := [aI 1]) rfl rfl rfl ?_
    obtain ⟨hV, hM⟩ := hS i hi
    have hn60 := hV.1
    have hs40 := hV.2.2.2.2.1
    subst hr
    refine E_s (p' := 7) rfl rfl ?_
    refine E_s (p' := 8) (st' := aI (c) :: _) rfl rfl ?_
    refine E_s (p' := 9) (st' := aI 1 :: _) rfl rfl ?_
    refine E_s (p' := 11) (st' := aI 100 :: _) rfl rfl ?_
    refine E_callL (p' := 14) (L0 := [some (aI (c)), some (aI 1), some (aI 100)]) rfl rfl rfl ?_
    refine m_in (fun h_1 h_2 => ?_) (fun h_3 => ?_)
    · refine E_go (p' := 14) (L' := [some (aA 124), some (aI ((i : Nat) : Int)), some (aI (c)), none]) (st' := [aI 1]) rfl rfl rfl ?_
      refine E_s (p' := 20) rfl rfl ?_
      refine E_s (p' := 21) (st' := aA 124 :: _) rfl rfl ?_
      refine E_gA (b := 126) rfl rfl rfl rfl rfl rfl ?_
      refine E_s (p' := 25) (st' := aI ((i : Nat) : Int) :: _) rfl rfl ?_
      refine E_ald (e := i) (N := 4) (v := ((Cq (S i) : Nat) : Int)) rfl rfl (rfl) (by omega) (MR_126 hM) ?_
      refine E_s (p' := 27) (L' := [some (aA 124), some (aI ((i : Nat) : Int)), some (aI (c)), some (aI ((Cq (S i) : Nat) : Int))]) rfl rfl ?_
      refine E_s (p' := 28) (st' := aA 124 :: _) rfl rfl ?_
      refine E_gA (b := 126) rfl rfl rfl rfl rfl rfl ?_
      refine E_s (p' := 32) (st' := aI ((i : Nat) : Int) :: _) rfl rfl ?_
      refine E_s (p' := 33) (st' := aI (c) :: _) rfl rfl ?_
      refine E_ast (e := i) (N := 4) rfl rfl (rfl) (by omega) ?_
      refine E_s (p' := 35) (st' := aA 124 :: _) rfl rfl ?_
      refine E_s (p' := 36) (st' := aI ((i : Nat) : Int) :: _) rfl rfl ?_
      refine E_callV (k' := 133) (a := 124) (r := []) (L0 := [some (aA 124), some (aI ((i : Nat) : Int))]) rfl rfl rfl rfl rfl rfl rfl rfl rfl rfl ?_
      refine m_changes (i := i) (by omega) ?_
      refine E_go (p' := 39) (L' := [some (aA 124), some (aI ((i : Nat) : Int)), some (aI (c)), some (aI ((Cq (S i) : Nat) : Int))]) (st' := []) rfl rfl rfl ?_
      refine E_s (p' := 40) (st' := aI ((Cq (S i) : Nat) : Int) :: _) rfl rfl ?_
      refine E_ret rfl rfl ?_
      exact finMx hS hi rfl q (by unfold oGap; rw [cif_pos (by omega)]) (V_gp hV (by omega)) (MR.gp hM (((up2_ne (by omega)).trans (up2_eq)).trans (by omega)) (fun b j h1 h2 h3 => ((up2_ne (by omega)).trans (up2_ne (by omega))))) ((Mx.rf.up (by unfold blk; omega)).up (by unfold blk; omega)) (fun b j hb => ((up2_ne (by omega)).trans (up2_ne (by omega))))
    · refine E_go (p' := 14) (L' := [some (aA 124), some (aI ((i : Nat) : Int)), some (aI (c)), none]) (st' := [aI 0]) rfl rfl rfl ?_
      refine E_s (p' := 17) rfl rfl ?_
      refine E_s (p' := 19) (st' := aI (-2) :: _) rfl rfl ?_
      refine E_ret rfl rfl ?_
      exact finM_same hS hi rfl q (by unfold oGap; rw [cif_neg (by omega)]) hS (fun _ _ _ => rfl)
  · refine E_go (p' := 4) (L' := [some (aA 124), some (aI (r)), some (aI (c)), none]) (st' := [aI 0]) rfl rfl rfl ?_
    refine E_s (p' := 17) rfl rfl ?_
    refine E_s (p' := 19) (st' := aI (-2) :: _) rfl rfl ?_
    refine E_ret rfl rfl ?_
    exact finM_out hS q hr
theorem M_clear (hS : MS S m) (q : ∀ m1, MS (on1 S r (-2) oClear).2 m1 → Co1 m m1 → Q (some (aI (on1 S r (-2) oClear).1)) (m1, tl len)) : E 142 0 [some (aA 124), some (aI (r)), none] [] (m, tl len) Q := by
  refine E_s (p' := 1) (st' := aI (r) :: _) rfl rfl ?_
  refine E_callL (p' := 4) (L0 := [some (aI (r))]) rfl rfl rfl ?_
  refine m_isRecord (fun i hi hr => ?_) (fun hr => ?_)
  · refine E_go (p' := 4) (L' := [some (aA 124), some (aI (r)), none]) (st' := [aI 1]) rfl rfl rfl ?_
    obtain ⟨hV, hM⟩ := hS i hi
    have hn60 := hV.1
    have hs40 := hV.2.2.2.2.1
    subst hr
    refine E_s (p' := 10) rfl rfl ?_
    refine E_s (p' := 11) (st' := aA 124 :: _) rfl rfl ?_
    refine E_gA (b := 125) rfl rfl rfl rfl rfl rfl ?_
    refine E_s (p' := 15) (st' := aI ((i : Nat) : Int) :: _) rfl rfl ?_
    refine E_ald (e := i) (N := 4) (v := ((Cn (S i) : Nat) : Int)) rfl rfl (rfl) (by omega) (MR_125 hM) ?_
    refine E_s (p' := 17) (L' := [some (aA 124), some (aI ((i : Nat) : Int)), some (aI ((Cn (S i) : Nat) : Int))]) rfl rfl ?_
    refine E_s (p' := 18) (st' := aA 124 :: _) rfl rfl ?_
    refine E_gA (b := 125) rfl rfl rfl rfl rfl rfl ?_
    refine E_s (p' := 22) (st' := aI ((i : Nat) : Int) :: _) rfl rfl ?_
    refine E_s (p' := 23) (st' := aI 0 :: _) rfl rfl ?_
    refine E_ast (e := i) (N := 4) rfl rfl (rfl) (by omega) ?_
    refine E_s (p' := 25) (st' := aA 124 :: _) rfl rfl ?_
    refine E_gA (b := 136) rfl rfl rfl rfl rfl rfl ?_
    refine E_s (p' := 29) (st' := aI ((i : Nat) : Int) :: _) rfl rfl ?_
    refine E_s (p' := 30) (st' := aI 0 :: _) rfl rfl ?_
    refine E_ast (e := i) (N := 4) rfl rfl (rfl) (by omega) ?_
    refine E_s (p' := 32) (st' := aA 124 :: _) rfl rfl ?_
    refine E_gA (b := 126) rfl rfl rfl rfl rfl rfl ?_
    refine E_s (p' := 36) (st' := aI ((i : Nat) : Int) :: _) rfl rfl ?_
    refine E_s (p' := 38) (st' := aI 15 :: _) rfl rfl ?_
    refine E_ast (e := i) (N := 4) rfl rfl (rfl) (by omega) ?_
    refine E_s (p' := 40) (st' := aA 124 :: _) rfl rfl ?_
    refine E_s (p' := 41) (st' := aI ((i : Nat) : Int) :: _) rfl rfl ?_
    refine E_callV (k' := 133) (a := 124) (r := []) (L0 := [some (aA 124), some (aI ((i : Nat) : Int))]) rfl rfl rfl rfl rfl rfl rfl rfl rfl rfl ?_
    refine m_changes (i := i) (by omega) ?_
    refine E_go (p' := 44) (L' := [some (aA 124), some (aI ((i : Nat) : Int)), some (aI ((Cn (S i) : Nat) : Int))]) (st' := []) rfl rfl rfl ?_
    refine E_s (p' := 45) (st' := aI ((Cn (S i) : Nat) : Int) :: _) rfl rfl ?_
    refine E_ret rfl rfl ?_
    exact finMx hS hi rfl q rfl V_clr (MR.clr ((up2_ne (by omega)).trans ((up2_ne (by omega)).trans ((up2_ne (by omega)).trans (up2_eq)))) ((up2_ne (by omega)).trans (up2_eq)) ((up2_ne (by omega)).trans ((up2_ne (by omega)).trans (up2_eq)))) ((((Mx.rf.up (by unfold blk; omega)).up (by unfold blk; omega)).up (by unfold blk; omega)).up (by unfold blk; omega)) (fun b j hb => ((up2_ne (by omega)).trans ((up2_ne (by omega)).trans ((up2_ne (by omega)).trans (up2_ne (by omega))))))
  · refine E_go (p' := 4) (L' := [some (aA 124), some (aI (r)), none]) (st' := [aI 0]) rfl rfl rfl ?_
    refine E_s (p' := 7) rfl rfl ?_
    refine E_s (p' := 9) (st' := aI (-2) :: _) rfl rfl ?_
    refine E_ret rfl rfl ?_
    exact finM_out hS q hr
theorem M_drop (hS : MS S m) (q : ∀ m1, MS (on1 S r (-2) oDrop).2 m1 → Co1 m m1 → Q (some (aI (on1 S r (-2) oDrop).1)) (m1, tl len)) : E 163 0 [some (aA 124), some (aI (r))] [] (m, tl len) Q := by
  refine E_s (p' := 1) (st' := aI (r) :: _) rfl rfl ?_
  refine E_callL (p' := 4) (L0 := [some (aI (r))]) rfl rfl rfl ?_
  refine m_isRecord (fun i hi hr => ?_) (fun hr => ?_)
  · refine E_go (p' := 4) (L' := [some (aA 124), some (aI (r))]) (st' := [aI 1]) rfl rfl rfl ?_
    obtain ⟨hV, hM⟩ := hS i hi
    have hn60 := hV.1
    have hs40 := hV.2.2.2.2.1
    subst hr
    refine E_s (p' := 10) rfl rfl ?_
    refine E_s (p' := 11) (st' := aA 124 :: _) rfl rfl ?_
    refine E_gA (b := 136) rfl rfl rfl rfl rfl rfl ?_
    refine E_s (p' := 15) (st' := aI ((i : Nat) : Int) :: _) rfl rfl ?_
    refine E_ald (e := i) (N := 4) (v := ((Sn (S i) : Nat) : Int)) rfl rfl (rfl) (by omega) (MR_136 hM) ?_
    refine E_if_ne (x := ((Sn (S i) : Nat) : Int)) rfl (by decide) (fun h_1 => ?_) (fun h_1 => ?_)
    · refine E_go (p' := 21) (L' := [some (aA 124), some (aI ((i : Nat) : Int))]) (st' := []) rfl rfl rfl ?_
      refine E_s (p' := 22) (st' := aA 124 :: _) rfl rfl ?_
      refine E_gA (b := 136) rfl rfl rfl rfl rfl rfl ?_
      refine E_s (p' := 26) (st' := aI ((i : Nat) : Int) :: _) rfl rfl ?_
      refine E_s (p' := 27) rfl rfl ?_
      refine E_ald (e := i) (N := 4) (v := ((Sn (S i) : Nat) : Int)) rfl rfl (rfl) (by omega) (MR_136 hM) ?_
      refine E_s (p' := 29) (st' := aI 1 :: _) rfl rfl ?_
      refine E_sub (v := ((Sn (S i) : Int) - 1)) rfl (by omega) (by omega) ?_
      refine E_ast (e := i) (N := 4) rfl rfl (rfl) (by omega) ?_
      refine E_s (p' := 32) (st' := aA 124 :: _) rfl rfl ?_
      refine E_s (p' := 33) (st' := aI ((i : Nat) : Int) :: _) rfl rfl ?_
      refine E_callV (k' := 133) (a := 124) (r := []) (L0 := [some (aA 124), some (aI ((i : Nat) : Int))]) rfl rfl rfl rfl rfl rfl rfl rfl rfl rfl ?_
      refine m_changes (i := i) (by omega) ?_
      refine E_go (p' := 36) (L' := [some (aA 124), some (aI ((i : Nat) : Int))]) (st' := []) rfl rfl rfl ?_
      refine E_s (p' := 37) (st' := aA 124 :: _) rfl rfl ?_
      refine E_gA (b := 136) rfl rfl rfl rfl rfl rfl ?_
      refine E_s (p' := 41) (st' := aI ((i : Nat) : Int) :: _) rfl rfl ?_
      refine E_ald (e := i) (N := 4) (v := ((Sn (S i) : Int) - 1)) rfl rfl (rfl) (by omega) ((up2_ne (by omega)).trans (up2_eq)) ?_
      refine E_ret rfl rfl ?_
      exact finMx hS hi rfl q (by unfold oDrop; rw [cif_neg (by omega)]; exact Prod.ext (show ((Sn (S i) - 1 : Nat) : Int) = _ by omega) rfl) (V_sm hV (by have := hV.2.2.2.2.1; omega) (fun s hs => hV.2.2.2.2.2.1 s (by omega)) (fun s k hs hk => hV.2.2.2.2.2.2 s k (by omega) hk)) (MR.sm hM (((up2_ne (by omega)).trans (up2_eq)).trans (by omega)) (fun s hs => ⟨((up2_ne (by omega)).trans (up2_ne (by omega))).trans (MR_137 hM (by omega) rfl), ((up2_ne (by omega)).trans (up2_ne (by omega))).trans (MR_138 hM (by omega) rfl)⟩) (fun s k hs hk => ((up2_ne (by omega)).trans (up2_ne (by omega))).trans (MR_139 hM (by omega) hk rfl)) (fun b j h1 h2 => ((up2_ne (by omega)).trans (up2_ne (by omega))))) ((Mx.rf.up (by unfold blk; omega)).up (by unfold blk; omega)) (fun b j hb => ((up2_ne (by omega)).trans (up2_ne (by omega))))
    · refine E_go (p' := 19) (L' := [some (aA 124), some (aI ((i : Nat) : Int))]) (st' := []) rfl rfl rfl ?_
      refine E_s (p' := 20) (st' := aI (-1) :: _) rfl rfl ?_
      refine E_ret rfl rfl ?_
      exact finM_same hS hi rfl q (by unfold oDrop; rw [cif_pos (by omega)]) hS (fun _ _ _ => rfl)
  · refine E_go (p' := 4) (L' := [some (aA 124), some (aI (r))]) (st' := [aI 0]) rfl rfl rfl ?_
    refine E_s (p' := 7) rfl rfl ?_
    refine E_s (p' := 9) (st' := aI (-2) :: _) rfl rfl ?_
    refine E_ret rfl rfl ?_
    exact finM_out hS q hr
end
