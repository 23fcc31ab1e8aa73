/-- with CORDS x and y free the rounds are BROKEN -/
def bk (R : RD) (x y : Int) : Prop := (rnd R 200 0 (sL R x y) (sH R x y)).1 = -1
/-- what cure answers, and the CORDS that it names: the first ones that will do -/
def cuS (R : RD) (v x y : Int) : Prop := (v = 0 ∧ x = -1 ∧ y = -1 ∧ ¬ bk R (-1) (-1)) ∨ (v = 1 ∧ y = -1 ∧ bk R (-1) (-1) ∧ ∃ c : Nat, c < Cn R ∧ x = c ∧ ¬ bk R c (-1) ∧ ∀ d : Nat, d < c → bk R d (-1)) ∨ (v = 2 ∧ bk R (-1) (-1) ∧ (∀ d : Nat, d < Cn R → bk R d (-1)) ∧ ∃ c e : Nat, c < e ∧ e < Cn R ∧ x = c ∧ y = e ∧ ¬ bk R c e ∧ (∀ d f : Nat, d < c → d < f → f < Cn R → bk R d f) ∧ (∀ f : Nat, c < f → f < e → bk R c f))
def cuN (R : RD) : Prop := bk R (-1) (-1) ∧ (∀ d : Nat, d < Cn R → bk R d (-1)) ∧ ∀ d f : Nat, d < f → f < Cn R → bk R d f
/-- the script, the class and what the model's found keeps are as they were -/
def CoC (m m1 : Mm) : Prop := ∀ b j, (b < 124 ∨ (b = 124 ∧ j = 50) ∨ b = 165 ∨ b = 166) → m1 b j = m b j
section
variable {len : Nat} {m m0 : Mm} {Q : Option AV → Sx → Prop} {R : RD} {i : Nat}
theorem m_isCure {v x y : Int} (q : Q (some (aI v)) (up2 (up2 (up2 m 124 44 v) 161 0 x) 161 1 y, tl len)) : E 174 0 [some (aA 124), some (aI (v)), some (aI (x)), some (aI (y))] [] (m, tl len) Q := by
  refine E_s (p' := 1) (st' := aA 124 :: _) rfl rfl ?_
  refine E_s (p' := 2) (st' := aI (v) :: _) rfl rfl ?_
  refine E_pI rfl rfl rfl rfl (Or.inl rfl) ?_
  refine E_s (p' := 6) (st' := aA 124 :: _) rfl rfl ?_
  refine E_gA (b := 161) rfl rfl rfl rfl rfl rfl ?_
  refine E_s (p' := 10) (st' := aI 0 :: _) rfl rfl ?_
  refine E_s (p' := 11) (st' := aI (x) :: _) rfl rfl ?_
  refine E_ast (e := 0) (N := 2) rfl rfl (rfl) (by omega) ?_
  refine E_s (p' := 13) (st' := aA 124 :: _) rfl rfl ?_
  refine E_gA (b := 161) rfl rfl rfl rfl rfl rfl ?_
  refine E_s (p' := 17) (st' := aI 1 :: _) rfl rfl ?_
  refine E_s (p' := 18) (st' := aI (y) :: _) rfl rfl ?_
  refine E_ast (e := 1) (N := 2) rfl rfl (rfl) (by omega) ?_
  refine E_s (p' := 20) (st' := aI (v) :: _) rfl rfl ?_
  refine E_ret rfl rfl ?_
  exact q
theorem yl_cu3 (hi9 : i < 4) (hM : MR R i m0) (hV : VR R) (how : ∀ d, d < Cn R → m0 153 d = oL R d ∧ m0 154 d = oH R d) (hb0 : bk R (-1) (-1)) (hb1 : ∀ d : Nat, d < Cn R → bk R d (-1)) (q : ∀ (m1 : Mm) (v x y : Int), (∀ b z, ¬ (155 ≤ b ∧ b ≤ 158) → m1 b z = m0 b z) → cuS R v x y → Q (some (aI v)) (up2 (up2 (up2 m1 124 44 v) 161 0 x) 161 1 y, tl len)) (q0 : ∀ m1 : Mm, (∀ b z, ¬ (155 ≤ b ∧ b ≤ 158) → m1 b z = m0 b z) → cuN R → Q (some (aI (-1))) (m1, tl len)) {c : Nat} (hc : c < Cn R) (hb2 : ∀ d f : Nat, d < c → d < f → f < Cn R → bk R d f) (hk : ∀ m1 : Mm, (∀ b z, ¬ (155 ≤ b ∧ b ≤ 158) → m1 b z = m0 b z) → (∀ f : Nat, c < f → f < Cn R → bk R c f) → E 173 125 [some (aA 124), some (aI (i : Int)), some (aI (c : Int)), some (aI (Cn R : Int))] [] (m1, tl len) Q) : ∀ (d : Nat) (e : Nat) (m : Mm), (Cn R < e + d) → (c < e ∧ e ≤ Cn R) → (∀ b z, ¬ (155 ≤ b ∧ b ≤ 158) → m b z = m0 b z) → (∀ f : Nat, c < f → f < e → bk R c f) → E 173 89 [some (aA 124), some (aI ((i : Nat) : Int)), some (aI ((c : Nat) : Int)), some (aI ((e : Nat) : Int))] [] (m, tl len) Q := by
  intro d
  induction d with
  | zero => intro e m hd he I0 hb3; omega
  | succ d ih =>
    intro e m hd he I0 hb3
    have hn60 := hV.1
    have hMm : MR R i m := hM.of (fun b j g1 g2 => I0 b j (by omega))
    refine E_s (p' := 90) (st' := aI ((e : Nat) : Int) :: _) rfl rfl ?_
    refine E_s (p' := 91) (st' := aA 124 :: _) rfl rfl ?_
    refine E_gA (b := 125) rfl rfl rfl rfl rfl rfl ?_
    refine E_s (p' := 95) (st' := aI ((i : Nat) : Int) :: _) rfl rfl ?_
    refine E_ald (e := i) (N := 4) (v := ((Cn R : Nat) : Int)) rfl rfl (rfl) (by omega) (MR_125 hMm) ?_
    refine E_icmp_ge (x := ((e : Nat) : Int)) (y := ((Cn R : Nat) : Int)) rfl (by decide) (fun h_1 => ?_) (fun h_1 => ?_)
    · refine E_go (p' := 125) (L' := [some (aA 124), some (aI ((i : Nat) : Int)), some (aI ((c : Nat) : Int)), some (aI ((e : Nat) : Int))]) (st' := []) rfl rfl rfl ?_
      have e9 : e = Cn R := by omega
      subst e9
      exact hk m I0 hb3
    · refine E_go (p' := 99) (L' := [some (aA 124), some (aI ((i : Nat) : Int)), some (aI ((c : Nat) : Int)), some (aI ((e : Nat) : Int))]) (st' := []) rfl rfl rfl ?_
      refine E_s (p' := 100) (st' := aA 124 :: _) rfl rfl ?_
      refine E_s (p' := 101) (st' := aI ((i : Nat) : Int) :: _) rfl rfl ?_
      refine E_s (p' := 102) (st' := aI ((c : Nat) : Int) :: _) rfl rfl ?_
      refine E_s (p' := 103) (st' := aI ((e : Nat) : Int) :: _) rfl rfl ?_
      refine E_s (p' := 104) (st' := aI (-1) :: _) rfl rfl ?_
      refine E_callV (k' := 167) (a := 124) (r := []) (L0 := [some (aA 124), some (aI ((i : Nat) : Int)), some (aI ((c : Nat) : Int)), some (aI ((e : Nat) : Int)), some (aI (-1)), none, none]) rfl rfl rfl rfl rfl rfl rfl rfl rfl rfl ?_
      refine m_rounds (x := ((c : Nat) : Int)) (y := ((e : Nat) : Int)) hi9 hMm hV (fun d hd8 => ⟨(I0 _ _ (by omega)).trans (how d hd8).1, (I0 _ _ (by omega)).trans (how d hd8).2⟩) (fun m1 F1 V1 => ?_)
      refine E_go (p' := 107) (L' := [some (aA 124), some (aI ((i : Nat) : Int)), some (aI ((c : Nat) : Int)), some (aI ((e : Nat) : Int))]) (st' := [aI ((((rnd R 200 0 (sL R ((c : Nat) : Int) ((e : Nat) : Int)) (sH R ((c : Nat) : Int) ((e : Nat) : Int))).1)))]) rfl rfl rfl ?_
      refine E_s (p' := 108) (st' := aI (-1) :: _) rfl rfl ?_
      refine E_icmp_eq (x := ((((rnd R 200 0 (sL R ((c : Nat) : Int) ((e : Nat) : Int)) (sH R ((c : Nat) : Int) ((e : Nat) : Int))).1)))) (y := (-1)) rfl (by decide) (fun h_2 => ?_) (fun h_2 => ?_)
      · refine E_go (p' := 119) (L' := [some (aA 124), some (aI ((i : Nat) : Int)), some (aI ((c : Nat) : Int)), some (aI ((e : Nat) : Int))]) (st' := []) rfl rfl rfl ?_
        refine E_inc (x := ((e : Nat) : Int)) (w := ((e + 1 : Nat) : Int)) (L' := [some (aA 124), some (aI ((i : Nat) : Int)), some (aI ((c : Nat) : Int)), some (aI ((e + 1 : Nat) : Int))]) rfl rfl rfl (by omega) (by omega) rfl ?_
        refine E_s (p' := 89) rfl rfl ?_
        exact ih (e + 1) m1 (by omega) (by omega) (fun b z g1 => (F1 b z g1).trans (I0 b z g1)) (fun f h1 h2 => by by_cases g9 : f = e; subst g9; assumption; exact hb3 f h1 (by omega))
      · refine E_go (p' := 111) (L' := [some (aA 124), some (aI ((i : Nat) : Int)), some (aI ((c : Nat) : Int)), some (aI ((e : Nat) : Int))]) (st' := []) rfl rfl rfl ?_
        refine E_s (p' := 112) (st' := aA 124 :: _) rfl rfl ?_
        refine E_s (p' := 113) (st' := aI 2 :: _) rfl rfl ?_
        refine E_s (p' := 114) (st' := aI ((c : Nat) : Int) :: _) rfl rfl ?_
        refine E_s (p' := 115) (st' := aI ((e : Nat) : Int) :: _) rfl rfl ?_
        refine E_callV (k' := 174) (a := 124) (r := []) (L0 := [some (aA 124), some (aI 2), some (aI ((c : Nat) : Int)), some (aI ((e : Nat) : Int))]) rfl rfl rfl rfl rfl rfl rfl rfl rfl rfl ?_
        refine m_isCure (v := 2) (x := ((c : Nat) : Int)) (y := ((e : Nat) : Int)) ?_
        refine E_go (p' := 118) (L' := [some (aA 124), some (aI ((i : Nat) : Int)), some (aI ((c : Nat) : Int)), some (aI ((e : Nat) : Int))]) (st' := [aI 2]) rfl rfl rfl ?_
        refine E_ret rfl rfl ?_
        exact q m1 2 ((c : Nat) : Int) ((e : Nat) : Int) (fun b z g1 => (F1 b z g1).trans (I0 b z g1)) (Or.inr (Or.inr ⟨rfl, hb0, hb1, c, e, by omega, by omega, rfl, rfl, by assumption, fun d f h1 h2 h3 => hb2 d f h1 h2 h3, hb3⟩))
theorem yl_cu2 (hi9 : i < 4) (hM : MR R i m0) (hV : VR R) (how : ∀ d, d < Cn R → m0 153 d = oL R d ∧ m0 154 d = oH R d) (hb0 : bk R (-1) (-1)) (hb1 : ∀ d : Nat, d < Cn R → bk R d (-1)) (q : ∀ (m1 : Mm) (v x y : Int), (∀ b z, ¬ (155 ≤ b ∧ b ≤ 158) → m1 b z = m0 b z) → cuS R v x y → Q (some (aI v)) (up2 (up2 (up2 m1 124 44 v) 161 0 x) 161 1 y, tl len)) (q0 : ∀ m1 : Mm, (∀ b z, ¬ (155 ≤ b ∧ b ≤ 158) → m1 b z = m0 b z) → cuN R → Q (some (aI (-1))) (m1, tl len)) : ∀ (d : Nat) (c : Nat) (m : Mm) (x3 : Option AV), (Cn R < c + d) → (c ≤ Cn R) → (∀ b z, ¬ (155 ≤ b ∧ b ≤ 158) → m b z = m0 b z) → (∀ d f : Nat, d < c → d < f → f < Cn R → bk R d f) → E 173 75 [some (aA 124), some (aI ((i : Nat) : Int)), some (aI ((c : Nat) : Int)), x3] [] (m, tl len) Q := by
  intro d
  induction d with
  | zero => intro c m x3 hd hc I0 hb2; omega
  | succ d ih =>
    intro c m x3 hd hc I0 hb2
    have hn60 := hV.1
    have hMm : MR R i m := hM.of (fun b j g1 g2 => I0 b j (by omega))
    refine E_s (p' := 76) (st' := aI ((c : Nat) : Int) :: _) rfl rfl ?_
    refine E_s (p' := 77) (st' := aA 124 :: _) rfl rfl ?_
    refine E_gA (b := 125) rfl rfl rfl rfl rfl rfl ?_
    refine E_s (p' := 81) (st' := aI ((i : Nat) : Int) :: _) rfl rfl ?_
    refine E_ald (e := i) (N := 4) (v := ((Cn R : Nat) : Int)) rfl rfl (rfl) (by omega) (MR_125 hMm) ?_
    refine E_icmp_ge (x := ((c : Nat) : Int)) (y := ((Cn R : Nat) : Int)) rfl (by decide) (fun h_1 => ?_) (fun h_1 => ?_)
    · refine E_go (p' := 131) (L' := [some (aA 124), some (aI ((i : Nat) : Int)), some (aI ((c : Nat) : Int)), x3]) (st' := []) rfl rfl rfl ?_
      refine E_s (p' := 132) (st' := aI (-1) :: _) rfl rfl ?_
      refine E_ret rfl rfl ?_
      exact q0 m I0 ⟨hb0, hb1, fun d f h1 h2 => hb2 d f (by omega) h1 h2⟩
    · refine E_go (p' := 85) (L' := [some (aA 124), some (aI ((i : Nat) : Int)), some (aI ((c : Nat) : Int)), x3]) (st' := []) rfl rfl rfl ?_
      refine E_s (p' := 86) (st' := aI ((c : Nat) : Int) :: _) rfl rfl ?_
      refine E_s (p' := 87) (st' := aI 1 :: _) rfl rfl ?_
      refine E_add (v := ((c + 1 : Nat) : Int)) rfl (by omega) (by omega) ?_
      refine E_s (p' := 89) (L' := [some (aA 124), some (aI ((i : Nat) : Int)), some (aI ((c : Nat) : Int)), some (aI ((c + 1 : Nat) : Int))]) rfl rfl ?_
      refine yl_cu3 hi9 hM hV how hb0 hb1 q q0 (c := c) (by omega) hb2 (fun m1 F1 hb4 => ?_) (Cn R + 1) (c + 1) m (by omega) (by omega) I0 (fun f h1 h2 => absurd h1 (by omega))
      refine E_inc (x := ((c : Nat) : Int)) (w := ((c + 1 : Nat) : Int)) (L' := [some (aA 124), some (aI ((i : Nat) : Int)), some (aI ((c + 1 : Nat) : Int)), some (aI ((Cn R : Nat) : Int))]) rfl rfl rfl (by omega) (by omega) rfl ?_
      refine E_s (p' := 75) rfl rfl ?_
      exact ih (c + 1) m1 _ (by omega) (by omega) F1 (fun d f h1 h2 h3 => by by_cases g9 : d = c; subst g9; exact hb4 f h2 h3; exact hb2 d f (by omega) h2 h3)
theorem yl_cu1 (hi9 : i < 4) (hM : MR R i m0) (hV : VR R) (how : ∀ d, d < Cn R → m0 153 d = oL R d ∧ m0 154 d = oH R d) (hb0 : bk R (-1) (-1)) (q : ∀ (m1 : Mm) (v x y : Int), (∀ b z, ¬ (155 ≤ b ∧ b ≤ 158) → m1 b z = m0 b z) → cuS R v x y → Q (some (aI v)) (up2 (up2 (up2 m1 124 44 v) 161 0 x) 161 1 y, tl len)) (q0 : ∀ m1 : Mm, (∀ b z, ¬ (155 ≤ b ∧ b ≤ 158) → m1 b z = m0 b z) → cuN R → Q (some (aI (-1))) (m1, tl len)) : ∀ (d : Nat) (c : Nat) (m : Mm), (Cn R < c + d) → (c ≤ Cn R) → (∀ b z, ¬ (155 ≤ b ∧ b ≤ 158) → m b z = m0 b z) → (∀ d : Nat, d < c → bk R d (-1)) → E 173 37 [some (aA 124), some (aI ((i : Nat) : Int)), some (aI ((c : Nat) : Int)), none] [] (m, tl len) Q := by
  intro d
  induction d with
  | zero => intro c m hd hc I0 hb1; omega
  | succ d ih =>
    intro c m hd hc I0 hb1
    have hn60 := hV.1
    have hMm : MR R i m := hM.of (fun b j g1 g2 => I0 b j (by omega))
    refine E_s (p' := 38) (st' := aI ((c : Nat) : Int) :: _) rfl rfl ?_
    refine E_s (p' := 39) (st' := aA 124 :: _) rfl rfl ?_
    refine E_gA (b := 125) rfl rfl rfl rfl rfl rfl ?_
    refine E_s (p' := 43) (st' := aI ((i : Nat) : Int) :: _) rfl rfl ?_
    refine E_ald (e := i) (N := 4) (v := ((Cn R : Nat) : Int)) rfl rfl (rfl) (by omega) (MR_125 hMm) ?_
    refine E_icmp_ge (x := ((c : Nat) : Int)) (y := ((Cn R : Nat) : Int)) rfl (by decide) (fun h_1 => ?_) (fun h_1 => ?_)
    · refine E_go (p' := 73) (L' := [some (aA 124), some (aI ((i : Nat) : Int)), some (aI ((c : Nat) : Int)), none]) (st' := []) rfl rfl rfl ?_
      refine E_s (p' := 74) (st' := aI 0 :: _) rfl rfl ?_
      refine E_s (p' := 75) (L' := [some (aA 124), some (aI ((i : Nat) : Int)), some (aI 0), none]) rfl rfl ?_
      exact yl_cu2 hi9 hM hV how hb0 (fun d h1 => hb1 d (by omega)) q q0 (Cn R + 1) 0 m none (by omega) (by omega) I0 (fun d f h1 => absurd h1 (by omega))
    · refine E_go (p' := 47) (L' := [some (aA 124), some (aI ((i : Nat) : Int)), some (aI ((c : Nat) : Int)), none]) (st' := []) rfl rfl rfl ?_
      refine E_s (p' := 48) (st' := aA 124 :: _) rfl rfl ?_
      refine E_s (p' := 49) (st' := aI ((i : Nat) : Int) :: _) rfl rfl ?_
      refine E_s (p' := 50) (st' := aI ((c : Nat) : Int) :: _) rfl rfl ?_
      refine E_s (p' := 51) (st' := aI (-1) :: _) rfl rfl ?_
      refine E_s (p' := 52) (st' := aI (-1) :: _) rfl rfl ?_
      refine E_callV (k' := 167) (a := 124) (r := []) (L0 := [some (aA 124), some (aI ((i : Nat) : Int)), some (aI ((c : Nat) : Int)), some (aI (-1)), some (aI (-1)), none, none]) rfl rfl rfl rfl rfl rfl rfl rfl rfl rfl ?_
      refine m_rounds (x := ((c : Nat) : Int)) (y := (-1)) hi9 hMm hV (fun d hd8 => ⟨(I0 _ _ (by omega)).trans (how d hd8).1, (I0 _ _ (by omega)).trans (how d hd8).2⟩) (fun m1 F1 V1 => ?_)
      refine E_go (p' := 55) (L' := [some (aA 124), some (aI ((i : Nat) : Int)), some (aI ((c : Nat) : Int)), none]) (st' := [aI ((((rnd R 200 0 (sL R ((c : Nat) : Int) (-1)) (sH R ((c : Nat) : Int) (-1))).1)))]) rfl rfl rfl ?_
      refine E_s (p' := 56) (st' := aI (-1) :: _) rfl rfl ?_
      refine E_icmp_eq (x := ((((rnd R 200 0 (sL R ((c : Nat) : Int) (-1)) (sH R ((c : Nat) : Int) (-1))).1)))) (y := (-1)) rfl (by decide) (fun h_2 => ?_) (fun h_2 => ?_)
      · refine E_go (p' := 67) (L' := [some (aA 124), some (aI ((i : Nat) : Int)), some (aI ((c : Nat) : Int)), none]) (st' := []) rfl rfl rfl ?_
        refine E_inc (x := ((c : Nat) : Int)) (w := ((c + 1 : Nat) : Int)) (L' := [some (aA 124), some (aI ((i : Nat) : Int)), some (aI ((c + 1 : Nat) : Int)), none]) rfl rfl rfl (by omega) (by omega) rfl ?_
        refine E_s (p' := 37) rfl rfl ?_
        exact ih (c + 1) m1 (by omega) (by omega) (fun b z g1 => (F1 b z g1).trans (I0 b z g1)) (fun d h1 => by by_cases g9 : d = c; subst g9; assumption; exact hb1 d (by omega))
      · refine E_go (p' := 59) (L' := [some (aA 124), some (aI ((i : Nat) : Int)), some (aI ((c : Nat) : Int)), none]) (st' := []) rfl rfl rfl ?_
        refine E_s (p' := 60) (st' := aA 124 :: _) rfl rfl ?_
        refine E_s (p' := 61) (st' := aI 1 :: _) rfl rfl ?_
        refine E_s (p' := 62) (st' := aI ((c : Nat) : Int) :: _) rfl rfl ?_
        refine E_s (p' := 63) (st' := aI (-1) :: _) rfl rfl ?_
        refine E_callV (k' := 174) (a := 124) (r := []) (L0 := [some (aA 124), some (aI 1), some (aI ((c : Nat) : Int)), some (aI (-1))]) rfl rfl rfl rfl rfl rfl rfl rfl rfl rfl ?_
        refine m_isCure (v := 1) (x := ((c : Nat) : Int)) (y := (-1)) ?_
        refine E_go (p' := 66) (L' := [some (aA 124), some (aI ((i : Nat) : Int)), some (aI ((c : Nat) : Int)), none]) (st' := [aI 1]) rfl rfl rfl ?_
        refine E_ret rfl rfl ?_
        exact q m1 1 ((c : Nat) : Int) (-1) (fun b z g1 => (F1 b z g1).trans (I0 b z g1)) (Or.inr (Or.inl ⟨rfl, rfl, hb0, c, by omega, rfl, by assumption, hb1⟩))
end
section
variable {len : Nat} {m : Mm} {Q : Option AV → Sx → Prop} {S : Nat → RD} {r : Int}
theorem M_cure (hS : MS S m) (q : ∀ (i : Nat) (m1 : Mm) (v x y : Int), i < 4 → r = i → cuS (S i) v x y → m1 124 44 = v → m1 161 0 = x → m1 161 1 = y → MS S m1 → CoC m m1 → Q (some (aI v)) (m1, tl len)) (q0 : ∀ (i : Nat) (m1 : Mm), i < 4 → r = i → cuN (S i) → MS S m1 → Co1 m m1 → Q (some (aI (-1))) (m1, tl len)) (qr : (r < 0 ∨ 3 < r) → Q (some (aI (-2))) (m, tl len)) : E 173 0 [some (aA 124), some (aI (r)), none, none] [] (m, tl len) Q := by
  refine E_s (p' := 1) (st' := aI (r) :: _) rfl rfl ?_
  refine E_callL (p' := 4) (L0 := [some (aI (r))]) rfl rfl rfl ?_
  refine m_isRecord (fun i hi hr => ?_) (fun hr => ?_)
  · refine E_go (p' := 4) (L' := [some (aA 124), some (aI (r)), none, none]) (st' := [aI 1]) rfl rfl rfl ?_
    obtain ⟨hV, hM⟩ := hS i hi
    have hn60 := hV.1
    have hs40 := hV.2.2.2.2.1
    subst hr
    refine E_s (p' := 10) rfl rfl ?_
    refine E_s (p' := 11) (st' := aA 124 :: _) rfl rfl ?_
    refine E_s (p' := 12) (st' := aI ((i : Nat) : Int) :: _) rfl rfl ?_
    refine E_callV (k' := 166) (a := 124) (r := []) (L0 := [some (aA 124), some (aI ((i : Nat) : Int)), none]) rfl rfl rfl rfl rfl rfl rfl rfl rfl rfl ?_
    refine m_own hi hM hV (fun m1 K1 K2 => ?_)
    refine E_go (p' := 15) (L' := [some (aA 124), some (aI ((i : Nat) : Int)), none, none]) (st' := []) rfl rfl rfl ?_
    have hM1 := K1.MR hM
    refine E_s (p' := 16) (st' := aA 124 :: _) rfl rfl ?_
    refine E_s (p' := 17) (st' := aI ((i : Nat) : Int) :: _) rfl rfl ?_
    refine E_s (p' := 18) (st' := aI (-1) :: _) rfl rfl ?_
    refine E_s (p' := 19) (st' := aI (-1) :: _) rfl rfl ?_
    refine E_s (p' := 20) (st' := aI (-1) :: _) rfl rfl ?_
    refine E_callV (k' := 167) (a := 124) (r := []) (L0 := [some (aA 124), some (aI ((i : Nat) : Int)), some (aI (-1)), some (aI (-1)), some (aI (-1)), none, none]) rfl rfl rfl rfl rfl rfl rfl rfl rfl rfl ?_
    refine m_rounds (x := -1) (y := -1) hi hM1 hV K2 (fun m2 F2 V2 => ?_)
    refine E_go (p' := 23) (L' := [some (aA 124), some (aI ((i : Nat) : Int)), none, none]) (st' := [aI ((((rnd (S i) 200 0 (sL (S i) (-1) (-1)) (sH (S i) (-1) (-1))).1)))]) rfl rfl rfl ?_
    refine E_s (p' := 24) (st' := aI (-1) :: _) rfl rfl ?_
    refine E_icmp_eq (x := ((((rnd (S i) 200 0 (sL (S i) (-1) (-1)) (sH (S i) (-1) (-1))).1)))) (y := (-1)) rfl (by decide) (fun h_1 => ?_) (fun h_1 => ?_)
    · refine E_go (p' := 35) (L' := [some (aA 124), some (aI ((i : Nat) : Int)), none, none]) (st' := []) rfl rfl rfl ?_
      refine E_s (p' := 36) (st' := aI 0 :: _) rfl rfl ?_
      refine E_s (p' := 37) (L' := [some (aA 124), some (aI ((i : Nat) : Int)), some (aI 0), none]) rfl rfl ?_
      exact yl_cu1 hi hM1 hV K2 (by assumption) (fun m3 v x y F3 h3 => q i _ v x y hi rfl h3 ((up2_ne (by omega)).trans ((up2_ne (by omega)).trans up2_eq)) ((up2_sl (by omega)).trans up2_eq) up2_eq (hS.of (fun b j g1 g2 => (up2_ne (by omega)).trans ((up2_ne (by omega)).trans ((up2_ne (by omega)).trans ((F3 b j (by omega)).trans (K1 b j (by omega) (by omega) (by omega))))))) (fun b j hb => (up2_ne (by omega)).trans ((up2_ne (by omega)).trans ((up2_o (by omega)).trans ((F3 b j (by omega)).trans (K1 b j (by omega) (by omega) (by omega))))))) (fun m3 F3 h3 => q0 i m3 hi rfl h3 (hS.of (fun b j g1 g2 => (F3 b j (by omega)).trans (K1 b j (by omega) (by omega) (by omega)))) (fun b j hb => (F3 b j (by omega)).trans (K1 b j (by omega) (by omega) (by omega)))) (Cn (S i) + 1) 0 m2 (by omega) (by omega) F2 (fun d h1 => absurd h1 (by omega))
    · refine E_go (p' := 27) (L' := [some (aA 124), some (aI ((i : Nat) : Int)), none, none]) (st' := []) rfl rfl rfl ?_
      refine E_s (p' := 28) (st' := aA 124 :: _) rfl rfl ?_
      refine E_s (p' := 29) (st' := aI 0 :: _) rfl rfl ?_
      refine E_s (p' := 30) (st' := aI (-1) :: _) rfl rfl ?_
      refine E_s (p' := 31) (st' := aI (-1) :: _) rfl rfl ?_
      refine E_callV (k' := 174) (a := 124) (r := []) (L0 := [some (aA 124), some (aI 0), some (aI (-1)), some (aI (-1))]) rfl rfl rfl rfl rfl rfl rfl rfl rfl rfl ?_
      refine m_isCure (v := 0) (x := (-1)) (y := (-1)) ?_
      refine E_go (p' := 34) (L' := [some (aA 124), some (aI ((i : Nat) : Int)), none, none]) (st' := [aI 0]) rfl rfl rfl ?_
      refine E_ret rfl rfl ?_
      have hq9 := (show ∀ (m3 : Mm) (v x y : Int), (∀ b z, ¬ (155 ≤ b ∧ b ≤ 158) → m3 b z = m1 b z) → cuS (S i) v x y → Q (some (aI v)) (up2 (up2 (up2 m3 124 44 v) 161 0 x) 161 1 y, tl len) from fun m3 v x y F3 h3 => q i _ v x y hi rfl h3 ((up2_ne (by omega)).trans ((up2_ne (by omega)).trans up2_eq)) ((up2_sl (by omega)).trans up2_eq) up2_eq (hS.of (fun b j g1 g2 => (up2_ne (by omega)).trans ((up2_ne (by omega)).trans ((up2_ne (by omega)).trans ((F3 b j (by omega)).trans (K1 b j (by omega) (by omega) (by omega))))))) (fun b j hb => (up2_ne (by omega)).trans ((up2_ne (by omega)).trans ((up2_o (by omega)).trans ((F3 b j (by omega)).trans (K1 b j (by omega) (by omega) (by omega))))))) m2 0 (-1) (-1) F2 (Or.inl ⟨rfl, rfl, rfl, by assumption⟩)
      exact hq9
  · refine E_go (p' := 4) (L' := [some (aA 124), some (aI (r)), none, none]) (st' := [aI 0]) rfl rfl rfl ?_
    refine E_s (p' := 7) rfl rfl ?_
    refine E_s (p' := 9) (st' := aI (-2) :: _) rfl rfl ?_
    refine E_ret rfl rfl ?_
    exact qr hr
end
