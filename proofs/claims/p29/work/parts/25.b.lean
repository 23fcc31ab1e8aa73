/-- the class's plan holds these KNOTS -/
def PK (x : KR) (m : Mm) : Prop := m 15 3 = (x.1 : Int) ∧ ∀ k, k < x.1 → m 16 k = (x.2 k : Int)
def FrK (m m' : Mm) : Prop := ∀ b j, ¬ (b = 15 ∧ j = 3) → b ≠ 16 → m' b j = m b j
theorem FrK.rf {m : Mm} : FrK m m := fun _ _ _ _ => rfl
theorem FrK.tr {m m' m'' : Mm} (h : FrK m m') (h' : FrK m' m'') : FrK m m'' := fun b j g1 g2 => (h' b j g1 g2).trans (h b j g1 g2)
theorem okK.n30 {R : RD} {c : Nat} {x : KR} (h : okK R c x) (hc : c < Cn R) : x.1 ≤ 30 := by
  have := (h.2.2.1 c hc).2.2.2.2.2
  rw [Ckn] at this
  exact this
theorem okK.srt {R : RD} {c : Nat} {x : KR} (h : okK R c x) (hc : c < Cn R) : ∀ i j, i < j → j < x.1 → ht (x.2 i) < ht (x.2 j) := by
  intro i j g1 g2
  have := VR.mono h (c := c) hc g1 (by rw [Ckn]; exact g2)
  rw [Cpn] at this
  exact this
theorem okK.lt {R : RD} {c : Nat} {x : KR} (h : okK R c x) (hc : c < Cn R) : ∀ k, k < x.1 → x.2 k < 2147483648 := by
  intro k hk
  have := kok_lt (R := Rkn R c x.1 x.2) (c := c) (k := k) h hc (by rw [Ckn]; exact hk) rfl
  rw [Cpn] at this
  omega
theorem pck_lt {h s t : Nat} (h1 : h ≤ 600) (h2 : s < 4) (h3 : t < 16) : pck h s t < 2147483648 := by unfold pck; omega
theorem RF_le {R : RD} {l : Nat} (h : l < RL R) : RF R l ≤ 600 := by
  have h1 : l < (RLV R).1 := by
    unfold RL at h
    by_cases g : Rmx R < (RLV R).1
    · rw [if_pos g] at h; omega
    · rw [if_neg g] at h; exact h
  have h2 : RF R l ≤ Rla R l ∧ Rla R l < 601 := (lvS_str (f := atp (RA R)) (g := Cq R) 601).1 l h1
  omega
theorem kok0 : kok (pck 0 0 0) := Or.inl ⟨rfl, rfl⟩
section
variable {len : Nat} {m m0 : Mm} {Q : Option AV → Sx → Prop} {R : RD} {c s t : Nat} {h : Int} {x : KR}
theorem c_planKnot (hX : okK R c x) (hV : VR R) (hc : c < Cn R) (ht0 : Ct R c = 0) (hP : PK x m) (hq : s < 4 ∧ t < 16) (q1 : ∀ m1 : Mm, fitK (Cl R c) x.1 x.2 h → PK (x.1 + 1, inK x.1 x.2 (h, (s, t))) m1 → FrK m m1 → Q (some (aI 1)) (m1, tl len)) (q0 : ¬ fitK (Cl R c) x.1 x.2 h → Q (some (aI 0)) (m, tl len)) : E 53 0 [some (aA 15), some (aI (h)), some (aI ((s : Nat) : Int)), some (aI ((t : Nat) : Int)), some (aI ((Cl R c : Nat) : Int))] [] (m, tl len) Q := by
  have hn30 := hX.n30 hc
  have hl600 := (hV.2.2.1 c hc).2.2.2.1
  refine E_s (p' := 1) (st' := aA 15 :: _) rfl rfl ?_
  refine E_gI (v := ((x.1 : Nat) : Int)) rfl rfl rfl rfl hP.1 ?_
  refine E_s (p' := 6) (st' := aI 30 :: _) rfl rfl ?_
  refine E_icmp_ge (x := ((x.1 : Nat) : Int)) (y := 30) rfl (by decide) (fun h_1 => ?_) (fun h_1 => ?_)
  · refine E_go (p' := 36) (L' := [some (aA 15), some (aI (h)), some (aI ((s : Nat) : Int)), some (aI ((t : Nat) : Int)), some (aI ((Cl R c : Nat) : Int))]) (st' := []) rfl rfl rfl ?_
    refine E_s (p' := 37) (st' := aI 0 :: _) rfl rfl ?_
    refine E_ret rfl rfl ?_
    exact q0 (fun g => by first | exact absurd g.1 (by omega) | exact absurd g.2.1 (by omega) | exact absurd g.2.2.1 (by omega) | exact g.2.2.2 _ hk1 hk3)
  · refine E_go (p' := 9) (L' := [some (aA 15), some (aI (h)), some (aI ((s : Nat) : Int)), some (aI ((t : Nat) : Int)), some (aI ((Cl R c : Nat) : Int))]) (st' := []) rfl rfl rfl ?_
    refine E_s (p' := 10) (st' := aI (h) :: _) rfl rfl ?_
    refine E_s (p' := 11) (st' := aI 1 :: _) rfl rfl ?_
    refine E_icmp_lt (x := (h)) (y := 1) rfl (by decide) (fun h_2 => ?_) (fun h_2 => ?_)
    · refine E_go (p' := 36) (L' := [some (aA 15), some (aI (h)), some (aI ((s : Nat) : Int)), some (aI ((t : Nat) : Int)), some (aI ((Cl R c : Nat) : Int))]) (st' := []) rfl rfl rfl ?_
      refine E_s (p' := 37) (st' := aI 0 :: _) rfl rfl ?_
      refine E_ret rfl rfl ?_
      exact q0 (fun g => by first | exact absurd g.1 (by omega) | exact absurd g.2.1 (by omega) | exact absurd g.2.2.1 (by omega) | exact g.2.2.2 _ hk1 hk3)
    · refine E_go (p' := 14) (L' := [some (aA 15), some (aI (h)), some (aI ((s : Nat) : Int)), some (aI ((t : Nat) : Int)), some (aI ((Cl R c : Nat) : Int))]) (st' := []) rfl rfl rfl ?_
      refine E_s (p' := 15) (st' := aI (h) :: _) rfl rfl ?_
      refine E_s (p' := 17) (st' := aI ((Cl R c : Nat) : Int) :: _) rfl rfl ?_
      refine E_icmp_gt (x := (h)) (y := ((Cl R c : Nat) : Int)) rfl (by decide) (fun h_3 => ?_) (fun h_3 => ?_)
      · refine E_go (p' := 36) (L' := [some (aA 15), some (aI (h)), some (aI ((s : Nat) : Int)), some (aI ((t : Nat) : Int)), some (aI ((Cl R c : Nat) : Int))]) (st' := []) rfl rfl rfl ?_
        refine E_s (p' := 37) (st' := aI 0 :: _) rfl rfl ?_
        refine E_ret rfl rfl ?_
        exact q0 (fun g => by first | exact absurd g.1 (by omega) | exact absurd g.2.1 (by omega) | exact absurd g.2.2.1 (by omega) | exact g.2.2.2 _ hk1 hk3)
      · refine E_go (p' := 20) (L' := [some (aA 15), some (aI (h)), some (aI ((s : Nat) : Int)), some (aI ((t : Nat) : Int)), some (aI ((Cl R c : Nat) : Int))]) (st' := []) rfl rfl rfl ?_
        refine E_s (p' := 21) (st' := aA 15 :: _) rfl rfl ?_
        refine E_gA (b := 16) rfl rfl rfl rfl hm_15_0 rfl ?_
        refine E_s (p' := 25) (st' := aI 0 :: _) rfl rfl ?_
        refine E_s (p' := 26) (st' := aA 15 :: _) rfl rfl ?_
        refine E_gI (v := ((x.1 : Nat) : Int)) rfl rfl rfl rfl hP.1 ?_
        refine E_s (p' := 30) (st' := aI (h) :: _) rfl rfl ?_
        refine E_callL (p' := 33) (L0 := [some (aA 16), some (aI 0), some (aI ((x.1 : Nat) : Int)), some (aI (h)), none]) rfl rfl rfl ?_
        refine c_isAt (f := 0) (n := x.1) (N := 30) (P := x.2) rfl (by omega) (by decide) (fun e k hk he => by rw [he, Nat.zero_add]; exact hP.2 k hk) (hX.lt hc) (hX.srt hc) (fun k1 hk1 hk2 hk3 => ?_) (fun hno => ?_)
        · refine E_go (p' := 33) (L' := [some (aA 15), some (aI (h)), some (aI ((s : Nat) : Int)), some (aI ((t : Nat) : Int)), some (aI ((Cl R c : Nat) : Int))]) (st' := [aI 1]) rfl rfl rfl ?_
          refine E_s (p' := 36) rfl rfl ?_
          refine E_s (p' := 37) (st' := aI 0 :: _) rfl rfl ?_
          refine E_ret rfl rfl ?_
          exact q0 (fun g => by first | exact absurd g.1 (by omega) | exact absurd g.2.1 (by omega) | exact absurd g.2.2.1 (by omega) | exact g.2.2.2 _ hk1 hk3)
        · refine E_go (p' := 33) (L' := [some (aA 15), some (aI (h)), some (aI ((s : Nat) : Int)), some (aI ((t : Nat) : Int)), some (aI ((Cl R c : Nat) : Int))]) (st' := [aI 0]) rfl rfl rfl ?_
          refine E_s (p' := 38) rfl rfl ?_
          obtain ⟨hn, eh⟩ : ∃ y : Nat, h = (y : Int) := ⟨h.toNat, by omega⟩
          subst eh
          have hpl := pck_lt (h := hn) (s := s) (t := t) (by omega) hq.1 hq.2
          refine E_s (p' := 39) (st' := aA 15 :: _) rfl rfl ?_
          refine E_gA (b := 16) rfl rfl rfl rfl hm_15_0 rfl ?_
          refine E_s (p' := 43) (st' := aI 0 :: _) rfl rfl ?_
          refine E_s (p' := 44) (st' := aA 15 :: _) rfl rfl ?_
          refine E_gI (v := ((x.1 : Nat) : Int)) rfl rfl rfl rfl hP.1 ?_
          refine E_s (p' := 48) (st' := aI ((hn : Nat) : Int) :: _) rfl rfl ?_
          refine E_s (p' := 49) (st' := aI ((s : Nat) : Int) :: _) rfl rfl ?_
          refine E_s (p' := 50) (st' := aI ((t : Nat) : Int) :: _) rfl rfl ?_
          refine E_callL (p' := 53) (L0 := [some (aI ((hn : Nat) : Int)), some (aI ((s : Nat) : Int)), some (aI ((t : Nat) : Int))]) rfl rfl rfl ?_
          refine c_pack (h := hn) (s := s) (t := t) (by omega) hq.1 hq.2 ?_
          refine E_go (p' := 53) (L' := [some (aA 15), some (aI ((hn : Nat) : Int)), some (aI ((s : Nat) : Int)), some (aI ((t : Nat) : Int)), some (aI ((Cl R c : Nat) : Int))]) (st' := [aI ((pck hn s t : Nat) : Int), aI ((x.1 : Nat) : Int), aI 0, aA 16]) rfl rfl rfl ?_
          refine E_callL (p' := 56) (L0 := [some (aA 16), some (aI 0), some (aI ((x.1 : Nat) : Int)), some (aI ((pck hn s t : Nat) : Int)), none]) rfl rfl rfl ?_
          refine c_insertInto (f := 0) (n := x.1) (N := 30) (P := x.2) (x := pck hn s t) rfl (by omega) (by decide) (fun e k hk he => by rw [he, Nat.zero_add]; exact hP.2 k hk) (hX.lt hc) hpl (fun k1 m1 hk1 hk2 hk3 hF1 hF2 hI1 => ?_)
          refine E_go (p' := 56) (L' := [some (aA 15), some (aI ((hn : Nat) : Int)), some (aI ((s : Nat) : Int)), some (aI ((t : Nat) : Int)), some (aI ((Cl R c : Nat) : Int))]) (st' := []) rfl rfl rfl ?_
          refine E_s (p' := 57) (st' := aA 15 :: _) rfl rfl ?_
          refine E_s (p' := 58) (st' := aA 15 :: _) rfl rfl ?_
          refine E_gI (v := ((x.1 : Nat) : Int)) rfl rfl rfl rfl ((hF1 _ _ (by decide)).trans hP.1) ?_
          refine E_s (p' := 62) (st' := aI 1 :: _) rfl rfl ?_
          refine E_add (v := ((x.1 + 1 : Nat) : Int)) rfl (by omega) (by omega) ?_
          refine E_pI rfl rfl rfl rfl (Or.inl rfl) ?_
          refine E_s (p' := 67) (st' := aI 1 :: _) rfl rfl ?_
          refine E_ret rfl rfl ?_
          have ef : fitK (Cl R c) x.1 x.2 (hn : Int) := ⟨by omega, by omega, by omega, hno⟩
          have e0 := pck_ht (h := hn) hq.1 hq.2
          rw [e0] at hk2 hk3
          have ep := posn_u (P := x.2) (h := hn) (n := x.1) hk1 hk2 hk3
          have ei : inK x.1 x.2 ((hn : Int), (s, t)) = insP x.2 k1 (pck hn s t) := by unfold inK; rw [Int.toNat_natCast, ← ep]
          refine q1 _ ef ⟨?_, fun k hk => ?_⟩ (fun b j g1 g2 => ?_)
          · exact up2_eq
          · rw [ei]
            have := hI1 k (by have hk : k < x.1 + 1 := hk; omega)
            rw [Nat.zero_add] at this
            exact (up2_ne (by omega)).trans this
          · exact (up2_o g1).trans (hF1 b j (by omega))
end
section
variable {len : Nat} {m m0 : Mm} {Q : Option AV → Sx → Prop} {R : RD} {c f e d9 : Nat} {u : Bool} {x : KR}
theorem smK_none {f e n : Nat} {x : KR} {i : Nat} (h : fdK n (some x) (smK f e i) = none) : ∀ j, i ≤ j → fdK n (some x) (smK f e j) = none := by
  intro j
  induction j with
  | zero => intro hk; have e9 : i = 0 := by omega
            subst e9; exact h
  | succ j ih =>
    intro hk
    by_cases e9 : i = j + 1
    · subst e9; exact h
    · show fdK n (some x) (smK f e j ++ _) = none
      rw [fdK_app, ih (by omega)]; exact fdK_none _
theorem yl_dg (hV : VR R) (hc : c < Cn R) (ht0 : Ct R c = 0) (hf : f ≤ 600) (he : e ≤ 8) (q1 : ∀ (m1 : Mm) (y : KR), fdK (Cl R c) (some x) (smK f e (e + 1)) = some y → okK R c y → PK y m1 → FrK m0 m1 → Q (some (aI 1)) (m1, tl len)) (q0 : ∀ m1 : Mm, fdK (Cl R c) (some x) (smK f e (e + 1)) = none → FrK m0 m1 → Q (some (aI 0)) (m1, tl len))  : ∀ (d : Nat) (i : Nat) (m : Mm) (y : KR), (e + 1 < i + d) → (i ≤ e + 1) → (fdK (Cl R c) (some x) (smK f e i) = some y) → (okK R c y) → (PK y m) → (FrK m0 m) → E 52 52 [some (aA 15), some (aI ((f : Nat) : Int)), some (aI 0), some (aI ((e + 1 : Nat) : Int)), some (aI ((Cl R c : Nat) : Int)), some (aI ((f : Int) - (3 * e / 2 : Int))), some (aI ((i : Nat) : Int))] [] (m, tl len) Q := by
  intro d
  induction d with
  | zero => intro i m y hd hi I1 I2 I3 I4; omega
  | succ d ih =>
    intro i m y hd hi I1 I2 I3 I4
    refine E_s (p' := 54) (st' := aI ((i : Nat) : Int) :: _) rfl rfl ?_
    refine E_s (p' := 55) (st' := aI ((e + 1 : Nat) : Int) :: _) rfl rfl ?_
    refine E_icmp_ge (x := ((i : Nat) : Int)) (y := ((e + 1 : Nat) : Int)) rfl (by decide) (fun h_1 => ?_) (fun h_1 => ?_)
    · refine E_go (p' := 84) (L' := [some (aA 15), some (aI ((f : Nat) : Int)), some (aI 0), some (aI ((e + 1 : Nat) : Int)), some (aI ((Cl R c : Nat) : Int)), some (aI ((f : Int) - (3 * e / 2 : Int))), some (aI ((i : Nat) : Int))]) (st' := []) rfl rfl rfl ?_
      refine E_s (p' := 85) (st' := aI 1 :: _) rfl rfl ?_
      refine E_ret rfl rfl ?_
      have ei : i = e + 1 := by omega
      subst ei
      exact q1 m y I1 I2 I3 I4
    · refine E_go (p' := 58) (L' := [some (aA 15), some (aI ((f : Nat) : Int)), some (aI 0), some (aI ((e + 1 : Nat) : Int)), some (aI ((Cl R c : Nat) : Int)), some (aI ((f : Int) - (3 * e / 2 : Int))), some (aI ((i : Nat) : Int))]) (st' := []) rfl rfl rfl ?_
      refine E_s (p' := 59) (st' := aA 15 :: _) rfl rfl ?_
      refine E_s (p' := 61) (st' := aI ((f : Int) - (3 * e / 2 : Int)) :: _) rfl rfl ?_
      refine E_s (p' := 62) (st' := aI 3 :: _) rfl rfl ?_
      refine E_s (p' := 64) (st' := aI ((i : Nat) : Int) :: _) rfl rfl ?_
      refine E_mul (v := ((3 * i : Nat) : Int)) rfl (by omega) (by omega) ?_
      refine E_add (v := ((f : Int) - (3 * e / 2 : Int) + 3 * (i : Int))) rfl (by omega) (by omega) ?_
      refine E_s (p' := 67) (st' := aI 0 :: _) rfl rfl ?_
      refine E_s (p' := 68) (st' := aI 0 :: _) rfl rfl ?_
      refine E_s (p' := 70) (st' := aI ((Cl R c : Nat) : Int) :: _) rfl rfl ?_
      refine E_callV (k' := 53) (a := 15) (r := []) (L0 := [some (aA 15), some (aI ((f : Int) - (3 * e / 2 : Int) + 3 * (i : Int))), some (aI 0), some (aI 0), some (aI ((Cl R c : Nat) : Int))]) rfl rfl rfl rfl rfl rfl rfl rfl rfl rfl ?_
      refine c_planKnot (x := y) I2 hV hc ht0 I3 (s := 0) (t := 0) (h := ((f : Int) - (3 * e / 2 : Int) + 3 * (i : Int))) (by decide) (fun m1 ef hP1 hF1 => ?_) (fun nf => ?_)
      · refine E_go (p' := 73) (L' := [some (aA 15), some (aI ((f : Nat) : Int)), some (aI 0), some (aI ((e + 1 : Nat) : Int)), some (aI ((Cl R c : Nat) : Int)), some (aI ((f : Int) - (3 * e / 2 : Int))), some (aI ((i : Nat) : Int))]) (st' := [aI 1]) rfl rfl rfl ?_
        refine E_s (p' := 78) rfl rfl ?_
        refine E_inc (x := ((i : Nat) : Int)) (w := ((i + 1 : Nat) : Int)) (L' := [some (aA 15), some (aI ((f : Nat) : Int)), some (aI 0), some (aI ((e + 1 : Nat) : Int)), some (aI ((Cl R c : Nat) : Int)), some (aI ((f : Int) - (3 * e / 2 : Int))), some (aI ((i + 1 : Nat) : Int))]) rfl rfl rfl (by omega) (by omega) rfl ?_
        refine E_s (p' := 52) rfl rfl ?_
        have e9 : fdK (Cl R c) (some x) (smK f e (i + 1)) = some (y.1 + 1, inK y.1 y.2 (itS f e i)) := by
          show fdK (Cl R c) (some x) (smK f e i ++ [itS f e i]) = _
          rw [fdK_app, I1, fdK_one]
          unfold stK itS
          exact cif_pos ef
        exact ih (i + 1) m1 _ (by omega) (by omega) e9 (I2.fit hc ht0 (q := itS f e i) ef itS_it kok0) hP1 (I4.tr hF1)
      · refine E_go (p' := 73) (L' := [some (aA 15), some (aI ((f : Nat) : Int)), some (aI 0), some (aI ((e + 1 : Nat) : Int)), some (aI ((Cl R c : Nat) : Int)), some (aI ((f : Int) - (3 * e / 2 : Int))), some (aI ((i : Nat) : Int))]) (st' := [aI 0]) rfl rfl rfl ?_
        refine E_s (p' := 76) rfl rfl ?_
        refine E_s (p' := 77) (st' := aI 0 :: _) rfl rfl ?_
        refine E_ret rfl rfl ?_
        have e9 : fdK (Cl R c) (some x) (smK f e (i + 1)) = none := by
          show fdK (Cl R c) (some x) (smK f e i ++ [itS f e i]) = _
          rw [fdK_app, I1, fdK_one]
          unfold stK itS
          exact cif_neg nf
        exact q0 m (smK_none e9 (e + 1) (by omega)) I4
theorem c_pdT (hX : okK R c x) (hV : VR R) (hc : c < Cn R) (ht0 : Ct R c = 0) (hP : PK x m0) (hf : f ≤ 600) (hd9 : d9 ≤ 9) (q1 : ∀ (m1 : Mm) (y : KR), fdK (Cl R c) (some x) (dgK f true d9) = some y → okK R c y → PK y m1 → FrK m0 m1 → Q (some (aI 1)) (m1, tl len)) (q0 : ∀ m1 : Mm, fdK (Cl R c) (some x) (dgK f true d9) = none → FrK m0 m1 → Q (some (aI 0)) (m1, tl len))  : E 52 0 [some (aA 15), some (aI ((f : Nat) : Int)), some (aI 1), some (aI ((d9 : Nat) : Int)), some (aI ((Cl R c : Nat) : Int)), none, none] [] (m0, tl len) Q := by
  refine E_s (p' := 1) (st' := aI ((d9 : Nat) : Int) :: _) rfl rfl ?_
  refine E_if_ne (x := ((d9 : Nat) : Int)) rfl (by decide) (fun h_1 => ?_) (fun h_1 => ?_)
  · refine E_go (p' := 6) (L' := [some (aA 15), some (aI ((f : Nat) : Int)), some (aI 1), some (aI ((d9 : Nat) : Int)), some (aI ((Cl R c : Nat) : Int)), none, none]) (st' := []) rfl rfl rfl ?_
    refine E_s (p' := 7) (st' := aI 1 :: _) rfl rfl ?_
    refine E_s (p' := 10) rfl rfl ?_
    refine E_s (p' := 11) (st' := aA 15 :: _) rfl rfl ?_
    refine E_s (p' := 12) (st' := aI ((f : Nat) : Int) :: _) rfl rfl ?_
    refine E_s (p' := 13) (st' := aI ((d9 : Nat) : Int) :: _) rfl rfl ?_
    refine E_s (p' := 14) (st' := aI 1 :: _) rfl rfl ?_
    refine E_icmp_ne (x := ((d9 : Nat) : Int)) (y := 1) rfl (by decide) (fun h_2 => ?_) (fun h_2 => ?_)
    · refine E_go (p' := 21) (L' := [some (aA 15), some (aI ((f : Nat) : Int)), some (aI 1), some (aI ((d9 : Nat) : Int)), some (aI ((Cl R c : Nat) : Int)), none, none]) (st' := [aI ((f : Nat) : Int), aA 15]) rfl rfl rfl ?_
      refine E_s (p' := 22) (st' := aI 1 :: _) rfl rfl ?_
      refine E_s (p' := 23) (st' := aI ((d9 : Nat) : Int) :: _) rfl rfl ?_
      refine E_s (p' := 24) (st' := aI 1 :: _) rfl rfl ?_
      refine E_icmp_ne (x := ((d9 : Nat) : Int)) (y := 1) rfl (by decide) (fun h_3 => ?_) (fun q => absurd q (by omega))
      refine E_go (p' := 31) (L' := [some (aA 15), some (aI ((f : Nat) : Int)), some (aI 1), some (aI ((d9 : Nat) : Int)), some (aI ((Cl R c : Nat) : Int)), none, none]) (st' := [aI 1, aI ((f : Nat) : Int), aA 15]) rfl rfl rfl ?_
      refine E_s (p' := 32) (st' := aI ((d9 : Nat) : Int) :: _) rfl rfl ?_
      refine E_s (p' := 34) (st' := aI ((Cl R c : Nat) : Int) :: _) rfl rfl ?_
      refine E_callV (k' := 53) (a := 15) (r := []) (L0 := [some (aA 15), some (aI ((f : Nat) : Int)), some (aI 1), some (aI ((d9 : Nat) : Int)), some (aI ((Cl R c : Nat) : Int))]) rfl rfl rfl rfl rfl rfl rfl rfl rfl rfl ?_
      refine c_planKnot (x := x) hX hV hc ht0 hP (s := 1) (t := d9) (h := (f : Int)) (by omega) (fun m1 ef hP1 hF1 => ?_) (fun nf => ?_)
      · refine E_go (p' := 37) (L' := [some (aA 15), some (aI ((f : Nat) : Int)), some (aI 1), some (aI ((d9 : Nat) : Int)), some (aI ((Cl R c : Nat) : Int)), none, none]) (st' := [aI 1]) rfl rfl rfl ?_
        refine E_ret rfl rfl ?_
        have e0 : dgK f true d9 = [itU f d9] := by unfold dgK; rw [if_neg (by omega)]; rfl
        have e1 : itU f d9 = ((f : Int), (1, d9)) := by unfold itU; rw [if_neg (by omega)]
        rw [e0, fdK_one, e1] at q1 q0
        exact q1 m1 _ (by unfold stK; exact cif_pos ef) (hX.fit hc ht0 (q := ((f : Int), (1, d9))) ef (by unfold itk; dsimp only; omega) (by unfold kok; rw [pck_so (by dsimp only; omega) (by dsimp only; omega), pck_tu (by dsimp only; omega)]; dsimp only; omega)) hP1 hF1
      · refine E_go (p' := 37) (L' := [some (aA 15), some (aI ((f : Nat) : Int)), some (aI 1), some (aI ((d9 : Nat) : Int)), some (aI ((Cl R c : Nat) : Int)), none, none]) (st' := [aI 0]) rfl rfl rfl ?_
        refine E_ret rfl rfl ?_
        have e0 : dgK f true d9 = [itU f d9] := by unfold dgK; rw [if_neg (by omega)]; rfl
        have e1 : itU f d9 = ((f : Int), (1, d9)) := by unfold itU; rw [if_neg (by omega)]
        rw [e0, fdK_one, e1] at q1 q0
        exact q0 m0 (by unfold stK; exact cif_neg nf) FrK.rf
    · refine E_go (p' := 17) (L' := [some (aA 15), some (aI ((f : Nat) : Int)), some (aI 1), some (aI ((d9 : Nat) : Int)), some (aI ((Cl R c : Nat) : Int)), none, none]) (st' := [aI ((f : Nat) : Int), aA 15]) rfl rfl rfl ?_
      refine E_s (p' := 18) (st' := aI 2 :: _) rfl rfl ?_
      refine E_s (p' := 22) rfl rfl ?_
      refine E_s (p' := 23) (st' := aI ((d9 : Nat) : Int) :: _) rfl rfl ?_
      refine E_s (p' := 24) (st' := aI 1 :: _) rfl rfl ?_
      refine E_icmp_ne (x := ((d9 : Nat) : Int)) (y := 1) rfl (by decide) (fun q => absurd q (by omega)) (fun h_4 => ?_)
      refine E_go (p' := 27) (L' := [some (aA 15), some (aI ((f : Nat) : Int)), some (aI 1), some (aI ((d9 : Nat) : Int)), some (aI ((Cl R c : Nat) : Int)), none, none]) (st' := [aI 2, aI ((f : Nat) : Int), aA 15]) rfl rfl rfl ?_
      refine E_s (p' := 28) (st' := aI 0 :: _) rfl rfl ?_
      refine E_s (p' := 32) rfl rfl ?_
      refine E_s (p' := 34) (st' := aI ((Cl R c : Nat) : Int) :: _) rfl rfl ?_
      refine E_callV (k' := 53) (a := 15) (r := []) (L0 := [some (aA 15), some (aI ((f : Nat) : Int)), some (aI 2), some (aI 0), some (aI ((Cl R c : Nat) : Int))]) rfl rfl rfl rfl rfl rfl rfl rfl rfl rfl ?_
      refine c_planKnot (x := x) hX hV hc ht0 hP (s := 2) (t := 0) (h := (f : Int)) (by omega) (fun m1 ef hP1 hF1 => ?_) (fun nf => ?_)
      · refine E_go (p' := 37) (L' := [some (aA 15), some (aI ((f : Nat) : Int)), some (aI 1), some (aI ((d9 : Nat) : Int)), some (aI ((Cl R c : Nat) : Int)), none, none]) (st' := [aI 1]) rfl rfl rfl ?_
        refine E_ret rfl rfl ?_
        have e0 : dgK f true d9 = [itU f d9] := by unfold dgK; rw [if_neg (by omega)]; rfl
        have e1 : itU f d9 = ((f : Int), (2, 0)) := by unfold itU; rw [if_pos (by omega)]
        rw [e0, fdK_one, e1] at q1 q0
        exact q1 m1 _ (by unfold stK; exact cif_pos ef) (hX.fit hc ht0 (q := ((f : Int), ((2, 0) : Nat × Nat))) ef (by unfold itk; dsimp only; omega) (by unfold kok; rw [pck_so (by dsimp only; omega) (by dsimp only; omega), pck_tu (by dsimp only; omega)]; dsimp only; omega)) hP1 hF1
      · refine E_go (p' := 37) (L' := [some (aA 15), some (aI ((f : Nat) : Int)), some (aI 1), some (aI ((d9 : Nat) : Int)), some (aI ((Cl R c : Nat) : Int)), none, none]) (st' := [aI 0]) rfl rfl rfl ?_
        refine E_ret rfl rfl ?_
        have e0 : dgK f true d9 = [itU f d9] := by unfold dgK; rw [if_neg (by omega)]; rfl
        have e1 : itU f d9 = ((f : Int), (2, 0)) := by unfold itU; rw [if_pos (by omega)]
        rw [e0, fdK_one, e1] at q1 q0
        exact q0 m0 (by unfold stK; exact cif_neg nf) FrK.rf
  · refine E_go (p' := 4) (L' := [some (aA 15), some (aI ((f : Nat) : Int)), some (aI 1), some (aI ((d9 : Nat) : Int)), some (aI ((Cl R c : Nat) : Int)), none, none]) (st' := []) rfl rfl rfl ?_
    refine E_s (p' := 5) (st' := aI 1 :: _) rfl rfl ?_
    refine E_ret rfl rfl ?_
    exact q1 m0 x (by rw [show d9 = 0 by omega]; rfl) hX hP FrK.rf
theorem c_pdF (hX : okK R c x) (hV : VR R) (hc : c < Cn R) (ht0 : Ct R c = 0) (hP : PK x m0) (hf : f ≤ 600) (hd9 : d9 ≤ 9) (q1 : ∀ (m1 : Mm) (y : KR), fdK (Cl R c) (some x) (dgK f false d9) = some y → okK R c y → PK y m1 → FrK m0 m1 → Q (some (aI 1)) (m1, tl len)) (q0 : ∀ m1 : Mm, fdK (Cl R c) (some x) (dgK f false d9) = none → FrK m0 m1 → Q (some (aI 0)) (m1, tl len))  : E 52 0 [some (aA 15), some (aI ((f : Nat) : Int)), some (aI 0), some (aI ((d9 : Nat) : Int)), some (aI ((Cl R c : Nat) : Int)), none, none] [] (m0, tl len) Q := by
  refine E_s (p' := 1) (st' := aI ((d9 : Nat) : Int) :: _) rfl rfl ?_
  refine E_if_ne (x := ((d9 : Nat) : Int)) rfl (by decide) (fun h_1 => ?_) (fun h_1 => ?_)
  · refine E_go (p' := 6) (L' := [some (aA 15), some (aI ((f : Nat) : Int)), some (aI 0), some (aI ((d9 : Nat) : Int)), some (aI ((Cl R c : Nat) : Int)), none, none]) (st' := []) rfl rfl rfl ?_
    refine E_s (p' := 7) (st' := aI 0 :: _) rfl rfl ?_
    refine E_s (p' := 38) rfl rfl ?_
    obtain ⟨e, ee⟩ : ∃ y : Nat, d9 = y + 1 := ⟨d9 - 1, by omega⟩
    subst ee
    have e0 : dgK f false (e + 1) = smK f e (e + 1) := by unfold dgK; rw [if_neg (by omega), Nat.add_sub_cancel]; rfl
    rw [e0] at q1 q0
    refine E_s (p' := 39) (st' := aI ((f : Nat) : Int) :: _) rfl rfl ?_
    refine E_s (p' := 40) (st' := aI 3 :: _) rfl rfl ?_
    refine E_s (p' := 41) (st' := aI ((e + 1 : Nat) : Int) :: _) rfl rfl ?_
    refine E_s (p' := 42) (st' := aI 1 :: _) rfl rfl ?_
    refine E_sub (v := ((e : Nat) : Int)) rfl (by omega) (by omega) ?_
    refine E_mul (v := ((3 * e : Nat) : Int)) rfl (by omega) (by omega) ?_
    refine E_s (p' := 45) (st' := aI 2 :: _) rfl rfl ?_
    refine E_div (v := (((3 * e) / 2 : Nat) : Int)) rfl (by omega) (by omega) (by omega) (by omega) ?_
    refine E_sub (v := ((f : Int) - ((3 * e) / 2 : Int))) rfl (by omega) (by omega) ?_
    refine E_s (p' := 49) (L' := [some (aA 15), some (aI ((f : Nat) : Int)), some (aI 0), some (aI ((e + 1 : Nat) : Int)), some (aI ((Cl R c : Nat) : Int)), some (aI ((f : Int) - ((3 * e) / 2 : Int))), none]) rfl rfl ?_
    refine E_s (p' := 50) (st' := aI 0 :: _) rfl rfl ?_
    refine E_s (p' := 52) (L' := [some (aA 15), some (aI ((f : Nat) : Int)), some (aI 0), some (aI ((e + 1 : Nat) : Int)), some (aI ((Cl R c : Nat) : Int)), some (aI ((f : Int) - ((3 * e) / 2 : Int))), some (aI 0)]) rfl rfl ?_
    exact yl_dg hV hc ht0 hf (by omega) q1 q0 (e + 2) 0 m0 x (by omega) (by omega) rfl hX hP FrK.rf
  · refine E_go (p' := 4) (L' := [some (aA 15), some (aI ((f : Nat) : Int)), some (aI 0), some (aI ((d9 : Nat) : Int)), some (aI ((Cl R c : Nat) : Int)), none, none]) (st' := []) rfl rfl rfl ?_
    refine E_s (p' := 5) (st' := aI 1 :: _) rfl rfl ?_
    refine E_ret rfl rfl ?_
    exact q1 m0 x (by rw [show d9 = 0 by omega]; rfl) hX hP FrK.rf
end
section
variable {len : Nat} {m m0 : Mm} {Q : Option AV → Sx → Prop} {R : RD} {a c X N0 : Nat}
theorem cif_same {α : Type} {P : Prop} {x : α} : cif P x x = x := by unfold cif; exact ite_self _
theorem dnK_none {R : RD} {x n : Nat} {o : Option KR} {i : Nat} (h : fdK n o (dnK R x i) = none) : ∀ j, i ≤ j → fdK n o (dnK R x j) = none := by
  intro j
  induction j with
  | zero => intro hk; have e9 : i = 0 := by omega
            subst e9; exact h
  | succ j ih =>
    intro hk
    by_cases e9 : i = j + 1
    · subst e9; exact h
    · show fdK n o (dnK R x j ++ _) = none
      rw [fdK_app, ih (by omega)]; exact fdK_none _
theorem Ru_10 (R : RD) : (Run R = true ∧ Ru R = 1) ∨ (Run R = false ∧ Ru R = 10) := by
  unfold Ru
  cases Run R
  · exact Or.inr ⟨rfl, rfl⟩
  · exact Or.inl ⟨rfl, rfl⟩
theorem plan_lv {l j : Nat} (h : l + 1 + j = RL R) (hN : N0 = X / Ru R) : lvK R X (RL R - 1 - j) = dgK (RF R l) (Run R && decide (l + 1 = RL R)) (N0 / 10 ^ j % 10) := by
  have e1 : RL R - 1 - j = l := by omega
  have e2 : X / Rct R l = N0 / 10 ^ j := by
    unfold Rct
    rw [hN, Nat.div_div_eq_div_mul, Nat.mul_comm, show RL R - 1 - l = j by omega]
    rfl
  unfold lvK
  rw [e1, e2]
theorem yl_pl (hR : isR a) (hV : VR R) (hc : c < Cn R) (ht0 : Ct R c = 0) (hd9 : RdC R a m0) (hx : X ≤ 999999) (h0 : 0 < RL R) (hN : N0 = X / Ru R) (hmd : X % Ru R = 0) (q1 : ∀ (m1 : Mm) (y : KR), plN R c X = some y → okK R c y → PK y m1 → FrK m0 m1 → Q (some (aI 1)) (m1, tl len)) (q0 : ∀ m1 : Mm, plN R c X = none → FrK m0 m1 → Q (some (aI 0)) (m1, tl len))  : ∀ (d : Nat) (z : Int) (j t : Nat) (m : Mm) (y : KR) (x6 x7 : Option AV), (RL R < j + d) → (t = N0 / 10 ^ j) → (z + 1 + (j : Int) = (RL R : Int)) → (j ≤ RL R) → (fdK (Cl R c) (some K0) (dnK R X j) = some y) → (okK R c y) → (PK y m) → (FrK m0 m) → E 51 53 [some (aA 15), some (aA (a + 15)), some (aI ((Cl R c : Nat) : Int)), some (aI ((X : Nat) : Int)), some (aI ((t : Nat) : Int)), some (aI (z)), x6, x7] [] (m, tl len) Q := by
  intro d
  induction d with
  | zero => intro z j t m y x6 x7 hd I0 hz hj I1 I2 I3 I4; omega
  | succ d ih =>
    intro z j t m y x6 x7 hd I0 hz hj I1 I2 I3 I4
    have hab := isR_b hR
    have hrl := RL_mx R
    have hm6 : mxv (Run R) ≤ 6 := by cases Run R <;> decide
    have htx : t ≤ X := by rw [I0, hN]; exact Nat.le_trans (Nat.div_le_self _ _) (Nat.div_le_self _ _)
    refine E_s (p' := 55) (st' := aI (z) :: _) rfl rfl ?_
    refine E_if_lt (x := (z)) rfl (by decide) (fun h_1 => ?_) (fun h_1 => ?_)
    · refine E_go (p' := 124) (L' := [some (aA 15), some (aA (a + 15)), some (aI ((Cl R c : Nat) : Int)), some (aI ((X : Nat) : Int)), some (aI ((t : Nat) : Int)), some (aI (z)), x6, x7]) (st' := []) rfl rfl rfl ?_
      refine E_s (p' := 126) (st' := aI ((t : Nat) : Int) :: _) rfl rfl ?_
      refine E_if_ne (x := ((t : Nat) : Int)) rfl (by decide) (fun h_2 => ?_) (fun h_2 => ?_)
      · refine E_go (p' := 133) (L' := [some (aA 15), some (aA (a + 15)), some (aI ((Cl R c : Nat) : Int)), some (aI ((X : Nat) : Int)), some (aI ((t : Nat) : Int)), some (aI (z)), x6, x7]) (st' := []) rfl rfl rfl ?_
        refine E_s (p' := 134) (st' := aI 0 :: _) rfl rfl ?_
        refine E_ret rfl rfl ?_
        have ej : j = RL R := by omega
        subst ej
        exact q0 m (by unfold plN; exact cif_neg (fun g => by have := g.2.2; rw [← hN, ← I0] at this; omega)) I4
      · refine E_go (p' := 129) (L' := [some (aA 15), some (aA (a + 15)), some (aI ((Cl R c : Nat) : Int)), some (aI ((X : Nat) : Int)), some (aI ((t : Nat) : Int)), some (aI (z)), x6, x7]) (st' := []) rfl rfl rfl ?_
        refine E_s (p' := 130) (st' := aI 1 :: _) rfl rfl ?_
        refine E_s (p' := 134) rfl rfl ?_
        refine E_ret rfl rfl ?_
        have ej : j = RL R := by omega
        subst ej
        exact q1 m y (by unfold plN; rw [cif_pos ⟨by omega, hmd, by rw [← hN, ← I0]; omega⟩, ← fdK_dn]; exact I1) I2 I3 I4
    · refine E_go (p' := 58) (L' := [some (aA 15), some (aA (a + 15)), some (aI ((Cl R c : Nat) : Int)), some (aI ((X : Nat) : Int)), some (aI ((t : Nat) : Int)), some (aI (z)), x6, x7]) (st' := []) rfl rfl rfl ?_
      obtain ⟨l, el⟩ : ∃ t : Nat, z = (t : Int) := ⟨z.toNat, by omega⟩
      subst el
      have hlv : lvK R X (RL R - 1 - j) = dgK (RF R l) (Run R && decide (l + 1 = RL R)) (t % 10) := by rw [I0]; exact plan_lv (by omega) hN
      have hrf := RF_le (R := R) (l := l) (by omega)
      have h10 := Nat.mod_lt t (show 0 < 10 by decide)
      refine E_s (p' := 60) (st' := aI ((t : Nat) : Int) :: _) rfl rfl ?_
      refine E_s (p' := 62) (st' := aI 10 :: _) rfl rfl ?_
      refine E_rem (v := (((t) % 10 : Nat) : Int)) rfl (by omega) (by omega) (by omega) (by omega) ?_
      refine E_s (p' := 65) (L' := [some (aA 15), some (aA (a + 15)), some (aI ((Cl R c : Nat) : Int)), some (aI ((X : Nat) : Int)), some (aI ((t : Nat) : Int)), some (aI ((l : Nat) : Int)), some (aI (((t) % 10 : Nat) : Int)), x7]) rfl rfl ?_
      refine E_s (p' := 67) (st' := aI ((t : Nat) : Int) :: _) rfl rfl ?_
      refine E_s (p' := 69) (st' := aI 10 :: _) rfl rfl ?_
      refine E_div (v := (((t) / 10 : Nat) : Int)) rfl (by omega) (by omega) (by omega) (by omega) ?_
      refine E_s (p' := 72) (L' := [some (aA 15), some (aA (a + 15)), some (aI ((Cl R c : Nat) : Int)), some (aI ((X : Nat) : Int)), some (aI (((t) / 10 : Nat) : Int)), some (aI ((l : Nat) : Int)), some (aI (((t) % 10 : Nat) : Int)), x7]) rfl rfl ?_
      refine E_s (p' := 73) (st' := aA (a + 15) :: _) rfl rfl ?_
      refine E_gI (v := (bi (Run R))) rfl rfl rfl (kR_15 hR) ((I4 _ _ (by omega) (by omega)).trans hd9.1) ?_
      refine E_b_eq0 (b := (Run R)) rfl (by decide) (fun h_3 => ?_) (fun h_3 => ?_)
      · refine E_go (p' := 94) (L' := [some (aA 15), some (aA (a + 15)), some (aI ((Cl R c : Nat) : Int)), some (aI ((X : Nat) : Int)), some (aI (((t) / 10 : Nat) : Int)), some (aI ((l : Nat) : Int)), some (aI (((t) % 10 : Nat) : Int)), x7]) (st' := []) rfl rfl rfl ?_
        refine E_s (p' := 95) (st' := aI 0 :: _) rfl rfl ?_
        refine E_s (p' := 97) (L' := [some (aA 15), some (aA (a + 15)), some (aI ((Cl R c : Nat) : Int)), some (aI ((X : Nat) : Int)), some (aI (((t) / 10 : Nat) : Int)), some (aI ((l : Nat) : Int)), some (aI (((t) % 10 : Nat) : Int)), some (aI 0)]) rfl rfl ?_
        refine E_s (p' := 98) (st' := aA 15 :: _) rfl rfl ?_
        refine E_s (p' := 99) (st' := aA (a + 15) :: _) rfl rfl ?_
        refine E_gA (b := a + 16) rfl rfl rfl (kR_15 hR) (hR_15_0 hR) rfl ?_
        refine E_s (p' := 104) (st' := aI ((l : Nat) : Int) :: _) rfl rfl ?_
        refine E_ald (e := l) (N := 6) (v := ((RF R l : Nat) : Int)) rfl (kR_16 hR) (rfl) (by omega) ((I4 _ _ (by omega) (by omega)).trans (hd9.2.2.1 _ (by omega)).1) ?_
        refine E_s (p' := 107) (st' := aI 0 :: _) rfl rfl ?_
        refine E_s (p' := 109) (st' := aI (((t) % 10 : Nat) : Int) :: _) rfl rfl ?_
        refine E_s (p' := 110) (st' := aI ((Cl R c : Nat) : Int) :: _) rfl rfl ?_
        refine E_callV (k' := 52) (a := 15) (r := []) (L0 := [some (aA 15), some (aI ((RF R l : Nat) : Int)), some (aI 0), some (aI (((t) % 10 : Nat) : Int)), some (aI ((Cl R c : Nat) : Int)), none, none]) rfl rfl rfl rfl rfl rfl rfl rfl rfl rfl ?_
        refine c_pdF I2 hV hc ht0 I3 (f := RF R l) (d9 := t % 10) hrf (by omega) (fun m1 y1 g1 g2 g3 g4 => ?_) (fun m1 g1 g4 => ?_)
        · refine E_go (p' := 113) (L' := [some (aA 15), some (aA (a + 15)), some (aI ((Cl R c : Nat) : Int)), some (aI ((X : Nat) : Int)), some (aI (((t) / 10 : Nat) : Int)), some (aI ((l : Nat) : Int)), some (aI (((t) % 10 : Nat) : Int)), some (aI 0)]) (st' := [aI 1]) rfl rfl rfl ?_
          refine E_s (p' := 118) rfl rfl ?_
          refine E_inc (x := ((l : Nat) : Int)) (w := ((l : Int) - 1)) (L' := [some (aA 15), some (aA (a + 15)), some (aI ((Cl R c : Nat) : Int)), some (aI ((X : Nat) : Int)), some (aI (((t) / 10 : Nat) : Int)), some (aI ((l : Int) - 1)), some (aI (((t) % 10 : Nat) : Int)), some (aI 0)]) rfl rfl rfl (by omega) (by omega) rfl ?_
          refine E_s (p' := 53) rfl rfl ?_
          have hu9 : (Run R && decide (l + 1 = RL R)) = false := by
            first | (rw [show Run R = false by assumption]; rfl) | (rw [decide_eq_false (by omega)]; exact Bool.and_false _)
          have e9 : fdK (Cl R c) (some K0) (dnK R X (j + 1)) = some y1 := by
            show fdK (Cl R c) (some K0) (dnK R X j ++ lvK R X (RL R - 1 - j)) = _
            rw [fdK_app, I1, hlv, hu9]
            exact g1
          have e8 : t / 10 = N0 / 10 ^ (j + 1) := by rw [I0, Nat.div_div_eq_div_mul, Nat.pow_succ]
          exact ih ((l : Int) - 1) (j + 1) (t / 10) m1 y1 _ _ (by omega) e8 (by omega) (by omega) e9 g2 g3 (I4.tr g4)
        · refine E_go (p' := 113) (L' := [some (aA 15), some (aA (a + 15)), some (aI ((Cl R c : Nat) : Int)), some (aI ((X : Nat) : Int)), some (aI (((t) / 10 : Nat) : Int)), some (aI ((l : Nat) : Int)), some (aI (((t) % 10 : Nat) : Int)), some (aI 0)]) (st' := [aI 0]) rfl rfl rfl ?_
          refine E_s (p' := 116) rfl rfl ?_
          refine E_s (p' := 117) (st' := aI 0 :: _) rfl rfl ?_
          refine E_ret rfl rfl ?_
          have hu9 : (Run R && decide (l + 1 = RL R)) = false := by
            first | (rw [show Run R = false by assumption]; rfl) | (rw [decide_eq_false (by omega)]; exact Bool.and_false _)
          have e9 : fdK (Cl R c) (some K0) (dnK R X (j + 1)) = none := by
            show fdK (Cl R c) (some K0) (dnK R X j ++ lvK R X (RL R - 1 - j)) = _
            rw [fdK_app, I1, hlv, hu9]
            exact g1
          exact q0 m1 (by unfold plN; rw [← fdK_dn, dnK_none e9 (RL R) (by omega)]; exact cif_same) (I4.tr g4)
      · refine E_go (p' := 79) (L' := [some (aA 15), some (aA (a + 15)), some (aI ((Cl R c : Nat) : Int)), some (aI ((X : Nat) : Int)), some (aI (((t) / 10 : Nat) : Int)), some (aI ((l : Nat) : Int)), some (aI (((t) % 10 : Nat) : Int)), x7]) (st' := []) rfl rfl rfl ?_
        refine E_s (p' := 81) (st' := aI ((l : Nat) : Int) :: _) rfl rfl ?_
        refine E_s (p' := 82) (st' := aA (a + 15) :: _) rfl rfl ?_
        refine E_gI (v := ((RL R : Nat) : Int)) rfl rfl rfl (kR_15 hR) ((I4 _ _ (by omega) (by omega)).trans hd9.2.1) ?_
        refine E_s (p' := 86) (st' := aI 1 :: _) rfl rfl ?_
        refine E_sub (v := ((RL R : Int) - 1)) rfl (by omega) (by omega) ?_
        refine E_icmp_ne (x := ((l : Nat) : Int)) (y := ((RL R : Int) - 1)) rfl (by decide) (fun h_4 => ?_) (fun h_4 => ?_)
        · refine E_go (p' := 94) (L' := [some (aA 15), some (aA (a + 15)), some (aI ((Cl R c : Nat) : Int)), some (aI ((X : Nat) : Int)), some (aI (((t) / 10 : Nat) : Int)), some (aI ((l : Nat) : Int)), some (aI (((t) % 10 : Nat) : Int)), x7]) (st' := []) rfl rfl rfl ?_
          refine E_s (p' := 95) (st' := aI 0 :: _) rfl rfl ?_
          refine E_s (p' := 97) (L' := [some (aA 15), some (aA (a + 15)), some (aI ((Cl R c : Nat) : Int)), some (aI ((X : Nat) : Int)), some (aI (((t) / 10 : Nat) : Int)), some (aI ((l : Nat) : Int)), some (aI (((t) % 10 : Nat) : Int)), some (aI 0)]) rfl rfl ?_
          refine E_s (p' := 98) (st' := aA 15 :: _) rfl rfl ?_
          refine E_s (p' := 99) (st' := aA (a + 15) :: _) rfl rfl ?_
          refine E_gA (b := a + 16) rfl rfl rfl (kR_15 hR) (hR_15_0 hR) rfl ?_
          refine E_s (p' := 104) (st' := aI ((l : Nat) : Int) :: _) rfl rfl ?_
          refine E_ald (e := l) (N := 6) (v := ((RF R l : Nat) : Int)) rfl (kR_16 hR) (rfl) (by omega) ((I4 _ _ (by omega) (by omega)).trans (hd9.2.2.1 _ (by omega)).1) ?_
          refine E_s (p' := 107) (st' := aI 0 :: _) rfl rfl ?_
          refine E_s (p' := 109) (st' := aI (((t) % 10 : Nat) : Int) :: _) rfl rfl ?_
          refine E_s (p' := 110) (st' := aI ((Cl R c : Nat) : Int) :: _) rfl rfl ?_
          refine E_callV (k' := 52) (a := 15) (r := []) (L0 := [some (aA 15), some (aI ((RF R l : Nat) : Int)), some (aI 0), some (aI (((t) % 10 : Nat) : Int)), some (aI ((Cl R c : Nat) : Int)), none, none]) rfl rfl rfl rfl rfl rfl rfl rfl rfl rfl ?_
          refine c_pdF I2 hV hc ht0 I3 (f := RF R l) (d9 := t % 10) hrf (by omega) (fun m1 y1 g1 g2 g3 g4 => ?_) (fun m1 g1 g4 => ?_)
          · refine E_go (p' := 113) (L' := [some (aA 15), some (aA (a + 15)), some (aI ((Cl R c : Nat) : Int)), some (aI ((X : Nat) : Int)), some (aI (((t) / 10 : Nat) : Int)), some (aI ((l : Nat) : Int)), some (aI (((t) % 10 : Nat) : Int)), some (aI 0)]) (st' := [aI 1]) rfl rfl rfl ?_
            refine E_s (p' := 118) rfl rfl ?_
            refine E_inc (x := ((l : Nat) : Int)) (w := ((l : Int) - 1)) (L' := [some (aA 15), some (aA (a + 15)), some (aI ((Cl R c : Nat) : Int)), some (aI ((X : Nat) : Int)), some (aI (((t) / 10 : Nat) : Int)), some (aI ((l : Int) - 1)), some (aI (((t) % 10 : Nat) : Int)), some (aI 0)]) rfl rfl rfl (by omega) (by omega) rfl ?_
            refine E_s (p' := 53) rfl rfl ?_
            have hu9 : (Run R && decide (l + 1 = RL R)) = false := by
              first | (rw [show Run R = false by assumption]; rfl) | (rw [decide_eq_false (by omega)]; exact Bool.and_false _)
            have e9 : fdK (Cl R c) (some K0) (dnK R X (j + 1)) = some y1 := by
              show fdK (Cl R c) (some K0) (dnK R X j ++ lvK R X (RL R - 1 - j)) = _
              rw [fdK_app, I1, hlv, hu9]
              exact g1
            have e8 : t / 10 = N0 / 10 ^ (j + 1) := by rw [I0, Nat.div_div_eq_div_mul, Nat.pow_succ]
            exact ih ((l : Int) - 1) (j + 1) (t / 10) m1 y1 _ _ (by omega) e8 (by omega) (by omega) e9 g2 g3 (I4.tr g4)
          · refine E_go (p' := 113) (L' := [some (aA 15), some (aA (a + 15)), some (aI ((Cl R c : Nat) : Int)), some (aI ((X : Nat) : Int)), some (aI (((t) / 10 : Nat) : Int)), some (aI ((l : Nat) : Int)), some (aI (((t) % 10 : Nat) : Int)), some (aI 0)]) (st' := [aI 0]) rfl rfl rfl ?_
            refine E_s (p' := 116) rfl rfl ?_
            refine E_s (p' := 117) (st' := aI 0 :: _) rfl rfl ?_
            refine E_ret rfl rfl ?_
            have hu9 : (Run R && decide (l + 1 = RL R)) = false := by
              first | (rw [show Run R = false by assumption]; rfl) | (rw [decide_eq_false (by omega)]; exact Bool.and_false _)
            have e9 : fdK (Cl R c) (some K0) (dnK R X (j + 1)) = none := by
              show fdK (Cl R c) (some K0) (dnK R X j ++ lvK R X (RL R - 1 - j)) = _
              rw [fdK_app, I1, hlv, hu9]
              exact g1
            exact q0 m1 (by unfold plN; rw [← fdK_dn, dnK_none e9 (RL R) (by omega)]; exact cif_same) (I4.tr g4)
        · refine E_go (p' := 90) (L' := [some (aA 15), some (aA (a + 15)), some (aI ((Cl R c : Nat) : Int)), some (aI ((X : Nat) : Int)), some (aI (((t) / 10 : Nat) : Int)), some (aI ((l : Nat) : Int)), some (aI (((t) % 10 : Nat) : Int)), x7]) (st' := []) rfl rfl rfl ?_
          refine E_s (p' := 91) (st' := aI 1 :: _) rfl rfl ?_
          refine E_s (p' := 95) rfl rfl ?_
          refine E_s (p' := 97) (L' := [some (aA 15), some (aA (a + 15)), some (aI ((Cl R c : Nat) : Int)), some (aI ((X : Nat) : Int)), some (aI (((t) / 10 : Nat) : Int)), some (aI ((l : Nat) : Int)), some (aI (((t) % 10 : Nat) : Int)), some (aI 1)]) rfl rfl ?_
          refine E_s (p' := 98) (st' := aA 15 :: _) rfl rfl ?_
          refine E_s (p' := 99) (st' := aA (a + 15) :: _) rfl rfl ?_
          refine E_gA (b := a + 16) rfl rfl rfl (kR_15 hR) (hR_15_0 hR) rfl ?_
          refine E_s (p' := 104) (st' := aI ((l : Nat) : Int) :: _) rfl rfl ?_
          refine E_ald (e := l) (N := 6) (v := ((RF R l : Nat) : Int)) rfl (kR_16 hR) (rfl) (by omega) ((I4 _ _ (by omega) (by omega)).trans (hd9.2.2.1 _ (by omega)).1) ?_
          refine E_s (p' := 107) (st' := aI 1 :: _) rfl rfl ?_
          refine E_s (p' := 109) (st' := aI (((t) % 10 : Nat) : Int) :: _) rfl rfl ?_
          refine E_s (p' := 110) (st' := aI ((Cl R c : Nat) : Int) :: _) rfl rfl ?_
          refine E_callV (k' := 52) (a := 15) (r := []) (L0 := [some (aA 15), some (aI ((RF R l : Nat) : Int)), some (aI 1), some (aI (((t) % 10 : Nat) : Int)), some (aI ((Cl R c : Nat) : Int)), none, none]) rfl rfl rfl rfl rfl rfl rfl rfl rfl rfl ?_
          refine c_pdT I2 hV hc ht0 I3 (f := RF R l) (d9 := t % 10) hrf (by omega) (fun m1 y1 g1 g2 g3 g4 => ?_) (fun m1 g1 g4 => ?_)
          · refine E_go (p' := 113) (L' := [some (aA 15), some (aA (a + 15)), some (aI ((Cl R c : Nat) : Int)), some (aI ((X : Nat) : Int)), some (aI (((t) / 10 : Nat) : Int)), some (aI ((l : Nat) : Int)), some (aI (((t) % 10 : Nat) : Int)), some (aI 1)]) (st' := [aI 1]) rfl rfl rfl ?_
            refine E_s (p' := 118) rfl rfl ?_
            refine E_inc (x := ((l : Nat) : Int)) (w := ((l : Int) - 1)) (L' := [some (aA 15), some (aA (a + 15)), some (aI ((Cl R c : Nat) : Int)), some (aI ((X : Nat) : Int)), some (aI (((t) / 10 : Nat) : Int)), some (aI ((l : Int) - 1)), some (aI (((t) % 10 : Nat) : Int)), some (aI 1)]) rfl rfl rfl (by omega) (by omega) rfl ?_
            refine E_s (p' := 53) rfl rfl ?_
            have hu9 : (Run R && decide (l + 1 = RL R)) = true := by
              rw [show Run R = true by assumption, decide_eq_true (by omega)]; rfl
            have e9 : fdK (Cl R c) (some K0) (dnK R X (j + 1)) = some y1 := by
              show fdK (Cl R c) (some K0) (dnK R X j ++ lvK R X (RL R - 1 - j)) = _
              rw [fdK_app, I1, hlv, hu9]
              exact g1
            have e8 : t / 10 = N0 / 10 ^ (j + 1) := by rw [I0, Nat.div_div_eq_div_mul, Nat.pow_succ]
            exact ih ((l : Int) - 1) (j + 1) (t / 10) m1 y1 _ _ (by omega) e8 (by omega) (by omega) e9 g2 g3 (I4.tr g4)
          · refine E_go (p' := 113) (L' := [some (aA 15), some (aA (a + 15)), some (aI ((Cl R c : Nat) : Int)), some (aI ((X : Nat) : Int)), some (aI (((t) / 10 : Nat) : Int)), some (aI ((l : Nat) : Int)), some (aI (((t) % 10 : Nat) : Int)), some (aI 1)]) (st' := [aI 0]) rfl rfl rfl ?_
            refine E_s (p' := 116) rfl rfl ?_
            refine E_s (p' := 117) (st' := aI 0 :: _) rfl rfl ?_
            refine E_ret rfl rfl ?_
            have hu9 : (Run R && decide (l + 1 = RL R)) = true := by
              rw [show Run R = true by assumption, decide_eq_true (by omega)]; rfl
            have e9 : fdK (Cl R c) (some K0) (dnK R X (j + 1)) = none := by
              show fdK (Cl R c) (some K0) (dnK R X j ++ lvK R X (RL R - 1 - j)) = _
              rw [fdK_app, I1, hlv, hu9]
              exact g1
            exact q0 m1 (by unfold plN; rw [← fdK_dn, dnK_none e9 (RL R) (by omega)]; exact cif_same) (I4.tr g4)
theorem c_plan (hR : isR a) (hV : VR R) (hc : c < Cn R) (ht0 : Ct R c = 0) (hd9 : RdC R a m0) (hx : X ≤ 999999) (q1 : ∀ (m1 : Mm) (y : KR), plN R c X = some y → okK R c y → PK y m1 → FrK m0 m1 → Q (some (aI 1)) (m1, tl len)) (q0 : ∀ m1 : Mm, plN R c X = none → FrK m0 m1 → Q (some (aI 0)) (m1, tl len))  : E 51 0 [some (aA 15), some (aA (a + 15)), some (aI ((Cl R c : Nat) : Int)), some (aI ((X : Nat) : Int)), none, none, none, none] [] (m0, tl len) Q := by
  have hab := isR_b hR
  have hrl := RL_mx R
  have hm6 : mxv (Run R) ≤ 6 := by cases Run R <;> decide
  refine E_s (p' := 1) (st' := aA 15 :: _) rfl rfl ?_
  refine E_s (p' := 2) (st' := aI 0 :: _) rfl rfl ?_
  refine E_pI rfl rfl rfl rfl (Or.inl rfl) ?_
  refine E_s (p' := 6) (st' := aA (a + 15) :: _) rfl rfl ?_
  refine E_gI (v := ((RL R : Nat) : Int)) rfl rfl rfl (kR_15 hR) ((up2_ne (by omega)).trans (hd9.2.1)) ?_
  refine E_if_eq (x := ((RL R : Nat) : Int)) rfl (by decide) (fun h_1 => ?_) (fun h_1 => ?_)
  · refine E_go (p' := 26) (L' := [some (aA 15), some (aA (a + 15)), some (aI ((Cl R c : Nat) : Int)), some (aI ((X : Nat) : Int)), none, none, none, none]) (st' := []) rfl rfl rfl ?_
    refine E_s (p' := 27) (st' := aI 0 :: _) rfl rfl ?_
    refine E_ret rfl rfl ?_
    refine q0 _ ?_ (fun b j g1 g2 => up2_o g1)
    unfold plN
    refine cif_neg (fun g => ?_)
    first
    | exact absurd g.1 (by omega)
    | (have g2 := g.2.1; unfold Ru at g2; rw [show Run R = false by assumption] at g2; have g2 : X % 10 = 0 := g2; omega)
  · refine E_go (p' := 12) (L' := [some (aA 15), some (aA (a + 15)), some (aI ((Cl R c : Nat) : Int)), some (aI ((X : Nat) : Int)), none, none, none, none]) (st' := []) rfl rfl rfl ?_
    refine E_s (p' := 13) (st' := aA (a + 15) :: _) rfl rfl ?_
    refine E_gI (v := (bi (Run R))) rfl rfl rfl (kR_15 hR) ((up2_ne (by omega)).trans (hd9.1)) ?_
    refine E_b_ne0 (b := (Run R)) rfl (by decide) (fun h_2 => ?_) (fun h_2 => ?_)
    · refine E_go (p' := 28) (L' := [some (aA 15), some (aA (a + 15)), some (aI ((Cl R c : Nat) : Int)), some (aI ((X : Nat) : Int)), none, none, none, none]) (st' := []) rfl rfl rfl ?_
      refine E_s (p' := 29) (st' := aA (a + 15) :: _) rfl rfl ?_
      refine E_gI (v := (bi (Run R))) rfl rfl rfl (kR_15 hR) ((up2_ne (by omega)).trans (hd9.1)) ?_
      refine E_b_eq0 (b := (Run R)) rfl (by decide) (fun h_3 => ?_) (fun h_3 => ?_)
      · refine E_go (p' := 39) (L' := [some (aA 15), some (aA (a + 15)), some (aI ((Cl R c : Nat) : Int)), some (aI ((X : Nat) : Int)), none, none, none, none]) (st' := []) rfl rfl rfl ?_
        refine E_s (p' := 40) (st' := aI ((X : Nat) : Int) :: _) rfl rfl ?_
        refine E_s (p' := 42) (st' := aI 10 :: _) rfl rfl ?_
        refine E_div (v := (((X) / 10 : Nat) : Int)) rfl (by omega) (by omega) (by omega) (by omega) ?_
        refine E_s (p' := 45) (L' := [some (aA 15), some (aA (a + 15)), some (aI ((Cl R c : Nat) : Int)), some (aI ((X : Nat) : Int)), some (aI (((X) / 10 : Nat) : Int)), none, none, none]) rfl rfl ?_
        refine E_s (p' := 46) (st' := aA (a + 15) :: _) rfl rfl ?_
        refine E_gI (v := ((RL R : Nat) : Int)) rfl rfl rfl (kR_15 hR) ((up2_ne (by omega)).trans (hd9.2.1)) ?_
        refine E_s (p' := 50) (st' := aI 1 :: _) rfl rfl ?_
        refine E_sub (v := ((RL R : Int) - 1)) rfl (by omega) (by omega) ?_
        refine E_s (p' := 53) (L' := [some (aA 15), some (aA (a + 15)), some (aI ((Cl R c : Nat) : Int)), some (aI ((X : Nat) : Int)), some (aI (((X) / 10 : Nat) : Int)), some (aI ((RL R : Int) - 1)), none, none]) rfl rfl ?_
        exact absurd (show Run R = false by assumption) (by rw [show Run R = true by assumption]; decide)
      · refine E_go (p' := 35) (L' := [some (aA 15), some (aA (a + 15)), some (aI ((Cl R c : Nat) : Int)), some (aI ((X : Nat) : Int)), none, none, none, none]) (st' := []) rfl rfl rfl ?_
        refine E_s (p' := 36) (st' := aI ((X : Nat) : Int) :: _) rfl rfl ?_
        refine E_s (p' := 43) rfl rfl ?_
        refine E_s (p' := 45) (L' := [some (aA 15), some (aA (a + 15)), some (aI ((Cl R c : Nat) : Int)), some (aI ((X : Nat) : Int)), some (aI ((X : Nat) : Int)), none, none, none]) rfl rfl ?_
        refine E_s (p' := 46) (st' := aA (a + 15) :: _) rfl rfl ?_
        refine E_gI (v := ((RL R : Nat) : Int)) rfl rfl rfl (kR_15 hR) ((up2_ne (by omega)).trans (hd9.2.1)) ?_
        refine E_s (p' := 50) (st' := aI 1 :: _) rfl rfl ?_
        refine E_sub (v := ((RL R : Int) - 1)) rfl (by omega) (by omega) ?_
        refine E_s (p' := 53) (L' := [some (aA 15), some (aA (a + 15)), some (aI ((Cl R c : Nat) : Int)), some (aI ((X : Nat) : Int)), some (aI ((X : Nat) : Int)), some (aI ((RL R : Int) - 1)), none, none]) rfl rfl ?_
        have e0 : Ru R = 1 := by unfold Ru; rw [show Run R = true by assumption]; rfl
        have e1 : X = X / Ru R := by rw [e0]; omega
        have e2 : X % Ru R = 0 := by rw [e0]; omega
        have e3 : X = (X) / 10 ^ 0 := by rw [Nat.pow_zero, Nat.div_one]
        exact yl_pl (Q := Q) (len := len) hR hV hc ht0 hd9 hx (by omega) e1 e2 q1 q0 (RL R + 1) ((RL R : Int) - 1) 0 _ (up2 m0 15 3 0) K0 none none (by omega) e3 (by omega) (by omega) rfl (okK0 hV) ⟨up2_eq, fun k hk => absurd hk (Nat.not_lt_zero _)⟩ (fun b j g1 g2 => up2_o g1)
    · refine E_go (p' := 19) (L' := [some (aA 15), some (aA (a + 15)), some (aI ((Cl R c : Nat) : Int)), some (aI ((X : Nat) : Int)), none, none, none, none]) (st' := []) rfl rfl rfl ?_
      refine E_s (p' := 20) (st' := aI ((X : Nat) : Int) :: _) rfl rfl ?_
      refine E_s (p' := 22) (st' := aI 10 :: _) rfl rfl ?_
      refine E_rem (v := (((X) % 10 : Nat) : Int)) rfl (by omega) (by omega) (by omega) (by omega) ?_
      refine E_if_eq (x := (((X) % 10 : Nat) : Int)) rfl (by decide) (fun h_4 => ?_) (fun h_4 => ?_)
      · refine E_go (p' := 28) (L' := [some (aA 15), some (aA (a + 15)), some (aI ((Cl R c : Nat) : Int)), some (aI ((X : Nat) : Int)), none, none, none, none]) (st' := []) rfl rfl rfl ?_
        refine E_s (p' := 29) (st' := aA (a + 15) :: _) rfl rfl ?_
        refine E_gI (v := (bi (Run R))) rfl rfl rfl (kR_15 hR) ((up2_ne (by omega)).trans (hd9.1)) ?_
        refine E_b_eq0 (b := (Run R)) rfl (by decide) (fun h_5 => ?_) (fun h_5 => ?_)
        · refine E_go (p' := 39) (L' := [some (aA 15), some (aA (a + 15)), some (aI ((Cl R c : Nat) : Int)), some (aI ((X : Nat) : Int)), none, none, none, none]) (st' := []) rfl rfl rfl ?_
          refine E_s (p' := 40) (st' := aI ((X : Nat) : Int) :: _) rfl rfl ?_
          refine E_s (p' := 42) (st' := aI 10 :: _) rfl rfl ?_
          refine E_div (v := (((X) / 10 : Nat) : Int)) rfl (by omega) (by omega) (by omega) (by omega) ?_
          refine E_s (p' := 45) (L' := [some (aA 15), some (aA (a + 15)), some (aI ((Cl R c : Nat) : Int)), some (aI ((X : Nat) : Int)), some (aI (((X) / 10 : Nat) : Int)), none, none, none]) rfl rfl ?_
          refine E_s (p' := 46) (st' := aA (a + 15) :: _) rfl rfl ?_
          refine E_gI (v := ((RL R : Nat) : Int)) rfl rfl rfl (kR_15 hR) ((up2_ne (by omega)).trans (hd9.2.1)) ?_
          refine E_s (p' := 50) (st' := aI 1 :: _) rfl rfl ?_
          refine E_sub (v := ((RL R : Int) - 1)) rfl (by omega) (by omega) ?_
          refine E_s (p' := 53) (L' := [some (aA 15), some (aA (a + 15)), some (aI ((Cl R c : Nat) : Int)), some (aI ((X : Nat) : Int)), some (aI (((X) / 10 : Nat) : Int)), some (aI ((RL R : Int) - 1)), none, none]) rfl rfl ?_
          have e0 : Ru R = 10 := by unfold Ru; rw [show Run R = false by assumption]; rfl
          have e1 : (X) / 10 = X / Ru R := by rw [e0]
          have e2 : X % Ru R = 0 := by rw [e0]; omega
          have e3 : (X) / 10 = ((X) / 10) / 10 ^ 0 := by rw [Nat.pow_zero, Nat.div_one]
          exact yl_pl (Q := Q) (len := len) hR hV hc ht0 hd9 hx (by omega) e1 e2 q1 q0 (RL R + 1) ((RL R : Int) - 1) 0 _ (up2 m0 15 3 0) K0 none none (by omega) e3 (by omega) (by omega) rfl (okK0 hV) ⟨up2_eq, fun k hk => absurd hk (Nat.not_lt_zero _)⟩ (fun b j g1 g2 => up2_o g1)
        · refine E_go (p' := 35) (L' := [some (aA 15), some (aA (a + 15)), some (aI ((Cl R c : Nat) : Int)), some (aI ((X : Nat) : Int)), none, none, none, none]) (st' := []) rfl rfl rfl ?_
          refine E_s (p' := 36) (st' := aI ((X : Nat) : Int) :: _) rfl rfl ?_
          refine E_s (p' := 43) rfl rfl ?_
          refine E_s (p' := 45) (L' := [some (aA 15), some (aA (a + 15)), some (aI ((Cl R c : Nat) : Int)), some (aI ((X : Nat) : Int)), some (aI ((X : Nat) : Int)), none, none, none]) rfl rfl ?_
          refine E_s (p' := 46) (st' := aA (a + 15) :: _) rfl rfl ?_
          refine E_gI (v := ((RL R : Nat) : Int)) rfl rfl rfl (kR_15 hR) ((up2_ne (by omega)).trans (hd9.2.1)) ?_
          refine E_s (p' := 50) (st' := aI 1 :: _) rfl rfl ?_
          refine E_sub (v := ((RL R : Int) - 1)) rfl (by omega) (by omega) ?_
          refine E_s (p' := 53) (L' := [some (aA 15), some (aA (a + 15)), some (aI ((Cl R c : Nat) : Int)), some (aI ((X : Nat) : Int)), some (aI ((X : Nat) : Int)), some (aI ((RL R : Int) - 1)), none, none]) rfl rfl ?_
          exact absurd (show Run R = false by assumption) (by rw [show Run R = true by assumption]; decide)
      · refine E_go (p' := 26) (L' := [some (aA 15), some (aA (a + 15)), some (aI ((Cl R c : Nat) : Int)), some (aI ((X : Nat) : Int)), none, none, none, none]) (st' := []) rfl rfl rfl ?_
        refine E_s (p' := 27) (st' := aI 0 :: _) rfl rfl ?_
        refine E_ret rfl rfl ?_
        refine q0 _ ?_ (fun b j g1 g2 => up2_o g1)
        unfold plN
        refine cif_neg (fun g => ?_)
        first
        | exact absurd g.1 (by omega)
        | (have g2 := g.2.1; unfold Ru at g2; rw [show Run R = false by assumption] at g2; have g2 : X % 10 = 0 := g2; omega)
end
