/-- what is blamed for the breaks that are left with each of the first n CORDS freed -/
def BLM (R : RD) (n : Nat) (m : Mm) : Prop := ∀ c, c < n → ∃ v : Nat, v < 1152921504606846976 ∧ m 9 c = (v : Int) ∧ ∀ b : Nat, b < Cn R → Nat.testBit v b = false → bk R (c : Int) (b : Int)
theorem BLM.of {R : RD} {n : Nat} {m m' : Mm} (h : BLM R n m) (e : ∀ j, j < n → m' 9 j = m 9 j) : BLM R n m' := fun c hc => by
  obtain ⟨v, h1, h2, h3⟩ := h c hc
  exact ⟨v, h1, (e c hc).trans h2, h3⟩
theorem rch_f {R : RD} {c k x : Nat} (h : Nat.testBit (rcN R c k) x = false) : ¬ Rch R c k x := fun g => by rw [(rcN_tb k x).mpr g] at h; cases h
section
variable {len : Nat} {m m0 : Mm} {Q : Option AV → Sx → Prop} {R : RD} {S : Nat → RD} {a : Nat} {x y u r : Int}
theorem c_keep3 (q : ∀ m1 : Mm, m1 8 1 = x → m1 8 2 = y → m1 8 3 = u → Fx 8 8 m m1 → Q (some (aI x)) (m1, tl len)) : E 98 0 [some (aA 8), some (aI (x)), some (aI (y)), some (aI (u))] [] (m, tl len) Q := by
  refine E_s (p' := 1) (st' := aA 8 :: _) rfl rfl ?_
  refine E_s (p' := 2) (st' := aI (x) :: _) rfl rfl ?_
  refine E_pI rfl rfl rfl rfl (Or.inl rfl) ?_
  refine E_s (p' := 6) (st' := aA 8 :: _) rfl rfl ?_
  refine E_s (p' := 7) (st' := aI (y) :: _) rfl rfl ?_
  refine E_pI rfl rfl rfl rfl (Or.inl rfl) ?_
  refine E_s (p' := 11) (st' := aA 8 :: _) rfl rfl ?_
  refine E_s (p' := 12) (st' := aI (u) :: _) rfl rfl ?_
  refine E_pI rfl rfl rfl rfl (Or.inl rfl) ?_
  refine E_s (p' := 16) (st' := aI (x) :: _) rfl rfl ?_
  refine E_ret rfl rfl ?_
  exact q _ ((up2_sl (by decide)).trans ((up2_sl (by decide)).trans up2_eq)) ((up2_sl (by decide)).trans up2_eq) up2_eq (((Fx.rf.up (by omega) (by omega)).up (by omega) (by omega)).up (by omega) (by omega))
theorem yl_sp3 (hR : isR a) (hC : CR R a m0) (hV : VR R) (hd : RdC R a m0) (hB : BLM R (Cn R) m0) (h00 : bk R (-1) (-1)) (h1 : ∀ d : Nat, d < Cn R → bk R d (-1)) (q : ∀ (m1 : Mm) (v x y : Int), cuS R v x y → m1 8 1 = v → m1 8 2 = x → m1 8 3 = y → Fx 3 9 m0 m1 → Q (some (aI v)) (m1, tl len)) (q0 : ∀ m1 : Mm, cuN R → (∀ b j, b < 3 ∨ b = 8 ∨ 9 < b → m1 b j = m0 b j) → Q (some (aI (-1))) (m1, tl len)) {i : Nat} (hi : i < Cn R) (J0 : ∀ d f : Nat, d < i → d < f → f < Cn R → bk R d f) (hk : ∀ (m : Mm) (j : Nat) (x5 : Option AV), (∀ b j, b < 3 ∨ 7 < b → m b j = m0 b j) → (∀ f : Nat, i < f → f < Cn R → bk R i f) → E 103 97 [some (aA 8), some (aA a), some (aA 3), some (aI ((i : Nat) : Int)), some (aI ((j : Nat) : Int)), x5] [] (m, tl len) Q) : ∀ (d : Nat) (j : Nat) (m : Mm) (x5 : Option AV), (Cn R < j + d) → (i < j ∧ j ≤ Cn R) → (∀ b j, b < 3 ∨ 7 < b → m b j = m0 b j) → (∀ f : Nat, i < f → f < j → bk R i f) → E 103 18 [some (aA 8), some (aA a), some (aA 3), some (aI ((i : Nat) : Int)), some (aI ((j : Nat) : Int)), x5] [] (m, tl len) Q := by
  intro d
  induction d with
  | zero => intro j m x5 hd9 hj I1 J1; omega
  | succ d ih =>
    intro j m x5 hd9 hj I1 J1
    have hab := isR_b hR
    have hn60 := hV.1
    have hCm : CR R a m := hC.of (fun b j g1 g2 _ => I1 b j (by omega))
    obtain ⟨vi, hvi, hmi, hbi⟩ := hB i hi
    refine E_s (p' := 20) (st' := aI ((j : Nat) : Int) :: _) rfl rfl ?_
    refine E_s (p' := 21) (st' := aA a :: _) rfl rfl ?_
    refine E_gA (b := a + 1) rfl rfl rfl (kR_0 hR) (hR_0_0 hR) rfl ?_
    refine E_gI (v := ((Cn R : Nat) : Int)) rfl rfl rfl (kR_1 hR) hCm.1 ?_
    refine E_icmp_ge (x := ((j : Nat) : Int)) (y := ((Cn R : Nat) : Int)) rfl (by decide) (fun h_1 => ?_) (fun h_1 => ?_)
    · refine E_go (p' := 97) (L' := [some (aA 8), some (aA a), some (aA 3), some (aI ((i : Nat) : Int)), some (aI ((j : Nat) : Int)), x5]) (st' := []) rfl rfl rfl ?_
      exact hk m j _ I1 (fun f g1 g2 => J1 f g1 (by omega))
    · refine E_go (p' := 30) (L' := [some (aA 8), some (aA a), some (aA 3), some (aI ((i : Nat) : Int)), some (aI ((j : Nat) : Int)), x5]) (st' := []) rfl rfl rfl ?_
      obtain ⟨vj, hvj, hmj, hbj⟩ := hB j (by omega)
      refine E_s (p' := 31) (st' := aA 8 :: _) rfl rfl ?_
      refine E_gA (b := 9) rfl rfl rfl rfl hm_8_0 rfl ?_
      refine E_s (p' := 35) (st' := aI ((i : Nat) : Int) :: _) rfl rfl ?_
      refine E_jld (e := i) (N := 60) (v := ((vi : Nat) : Int)) rfl rfl (rfl) (by omega) ((I1 _ _ (by omega)).trans hmi) ?_
      refine E_s (p' := 38) (st' := aI ((j : Nat) : Int) :: _) rfl rfl ?_
      refine E_callL (p' := 41) (L0 := [some (aJ ((vi : Nat) : Int)), none, some (aI ((j : Nat) : Int))]) rfl rfl rfl ?_
      refine c_isIn3 (v := vi) (c := j) hvi (by omega) (fun ht_j => ?_) (fun ht_j => ?_)
      · refine E_go (p' := 41) (L' := [some (aA 8), some (aA a), some (aA 3), some (aI ((i : Nat) : Int)), some (aI ((j : Nat) : Int)), x5]) (st' := [aI 1]) rfl rfl rfl ?_
        refine E_s (p' := 44) rfl rfl ?_
        refine E_s (p' := 45) (st' := aA 8 :: _) rfl rfl ?_
        refine E_gA (b := 9) rfl rfl rfl rfl hm_8_0 rfl ?_
        refine E_s (p' := 50) (st' := aI ((j : Nat) : Int) :: _) rfl rfl ?_
        refine E_jld (e := j) (N := 60) (v := ((vj : Nat) : Int)) rfl rfl (rfl) (by omega) ((I1 _ _ (by omega)).trans hmj) ?_
        refine E_s (p' := 52) (st' := aI ((i : Nat) : Int) :: _) rfl rfl ?_
        refine E_callL (p' := 55) (L0 := [some (aJ ((vj : Nat) : Int)), none, some (aI ((i : Nat) : Int))]) rfl rfl rfl ?_
        refine c_isIn3 (v := vj) (c := i) hvj (by omega) (fun ht_i => ?_) (fun ht_i => ?_)
        · refine E_go (p' := 55) (L' := [some (aA 8), some (aA a), some (aA 3), some (aI ((i : Nat) : Int)), some (aI ((j : Nat) : Int)), x5]) (st' := [aI 1]) rfl rfl rfl ?_
          refine E_s (p' := 58) rfl rfl ?_
          refine E_s (p' := 59) (st' := aI 1 :: _) rfl rfl ?_
          refine E_s (p' := 63) rfl rfl ?_
          refine E_s (p' := 65) (L' := [some (aA 8), some (aA a), some (aA 3), some (aI ((i : Nat) : Int)), some (aI ((j : Nat) : Int)), some (aI 1)]) rfl rfl ?_
          refine E_s (p' := 67) (st' := aI 1 :: _) rfl rfl ?_
          refine E_s (p' := 70) rfl rfl ?_
          refine E_s (p' := 71) (st' := aA 3 :: _) rfl rfl ?_
          refine E_s (p' := 72) (st' := aA a :: _) rfl rfl ?_
          refine E_s (p' := 73) (st' := aI ((i : Nat) : Int) :: _) rfl rfl ?_
          refine E_s (p' := 75) (st' := aI ((j : Nat) : Int) :: _) rfl rfl ?_
          refine E_callV (k' := 86) (a := 3) (r := []) (L0 := [some (aA 3), some (aA a), some (aI ((i : Nat) : Int)), some (aI ((j : Nat) : Int)), none]) rfl rfl rfl rfl rfl rfl rfl rfl rfl rfl ?_
          refine c_run3 (x := ((i : Nat) : Int)) (y := ((j : Nat) : Int)) hR (hC.of (fun b j g1 g2 _ => I1 b j (by omega))) hV (hd.of (fun b j g1 g2 => I1 b j (by omega))) (fun m1 v1 hv1 hnb F1 => ?_) (fun m1 dn cb hA hbk h34 h35 F1 => ?_)
          · refine E_go (p' := 78) (L' := [some (aA 8), some (aA a), some (aA 3), some (aI ((i : Nat) : Int)), some (aI ((j : Nat) : Int)), some (aI 1)]) (st' := [aI (v1)]) rfl rfl rfl ?_
            refine E_s (p' := 79) (st' := aI (-1) :: _) rfl rfl ?_
            refine E_icmp_eq (x := (v1)) (y := (-1)) rfl (by decide) (fun q => absurd q (by omega)) (fun h_2 => ?_)
            refine E_go (p' := 82) (L' := [some (aA 8), some (aA a), some (aA 3), some (aI ((i : Nat) : Int)), some (aI ((j : Nat) : Int)), some (aI 1)]) (st' := []) rfl rfl rfl ?_
            refine E_s (p' := 83) (st' := aA 8 :: _) rfl rfl ?_
            refine E_s (p' := 84) (st' := aI 2 :: _) rfl rfl ?_
            refine E_s (p' := 85) (st' := aI ((i : Nat) : Int) :: _) rfl rfl ?_
            refine E_s (p' := 87) (st' := aI ((j : Nat) : Int) :: _) rfl rfl ?_
            refine E_callV (k' := 98) (a := 8) (r := []) (L0 := [some (aA 8), some (aI 2), some (aI ((i : Nat) : Int)), some (aI ((j : Nat) : Int))]) rfl rfl rfl rfl rfl rfl rfl rfl rfl rfl ?_
            refine c_keep3 (fun m2 K1 K2 K3 F2 => ?_)
            refine E_go (p' := 90) (L' := [some (aA 8), some (aA a), some (aA 3), some (aI ((i : Nat) : Int)), some (aI ((j : Nat) : Int)), some (aI 1)]) (st' := [aI 2]) rfl rfl rfl ?_
            refine E_ret rfl rfl ?_
            exact q m2 2 i j (Or.inr (Or.inr ⟨rfl, h00, h1, i, j, by omega, by omega, rfl, rfl, hnb, J0, J1⟩)) K1 K2 K3 (fun b z hb => (F2 b z (by omega)).trans ((F1 b z (by omega)).trans (I1 b z (by omega))))
          · refine E_go (p' := 78) (L' := [some (aA 8), some (aA a), some (aA 3), some (aI ((i : Nat) : Int)), some (aI ((j : Nat) : Int)), some (aI 1)]) (st' := [aI (-1)]) rfl rfl rfl ?_
            refine E_s (p' := 79) (st' := aI (-1) :: _) rfl rfl ?_
            refine E_s (p' := 91) rfl rfl ?_
            refine E_inc (x := ((j : Nat) : Int)) (w := ((j + 1 : Nat) : Int)) (L' := [some (aA 8), some (aA a), some (aA 3), some (aI ((i : Nat) : Int)), some (aI ((j + 1 : Nat) : Int)), some (aI 1)]) rfl rfl rfl (by omega) (by omega) rfl ?_
            refine E_s (p' := 18) rfl rfl ?_
            refine ih (j + 1) m1 _ (by omega) (by omega) (fun b j hb => (F1 b j (by omega)).trans (I1 b j hb)) (fun f g1 g2 => ?_)
            by_cases g3 : f = j
            · subst g3
              exact hbk
            · exact J1 f g1 (by omega)
        · refine E_go (p' := 55) (L' := [some (aA 8), some (aA a), some (aA 3), some (aI ((i : Nat) : Int)), some (aI ((j : Nat) : Int)), x5]) (st' := [aI 0]) rfl rfl rfl ?_
          refine E_s (p' := 62) rfl rfl ?_
          refine E_s (p' := 63) (st' := aI 0 :: _) rfl rfl ?_
          refine E_s (p' := 65) (L' := [some (aA 8), some (aA a), some (aA 3), some (aI ((i : Nat) : Int)), some (aI ((j : Nat) : Int)), some (aI 0)]) rfl rfl ?_
          refine E_s (p' := 67) (st' := aI 0 :: _) rfl rfl ?_
          refine E_s (p' := 91) rfl rfl ?_
          refine E_inc (x := ((j : Nat) : Int)) (w := ((j + 1 : Nat) : Int)) (L' := [some (aA 8), some (aA a), some (aA 3), some (aI ((i : Nat) : Int)), some (aI ((j + 1 : Nat) : Int)), some (aI 0)]) rfl rfl rfl (by omega) (by omega) rfl ?_
          refine E_s (p' := 18) rfl rfl ?_
          refine ih (j + 1) m _ (by omega) (by omega) I1 (fun f g1 g2 => ?_)
          by_cases g3 : f = j
          · subst g3
            exact (by first | exact hbi f (by omega) ht_j | exact bk_comm (hbj i (by omega) ht_i))
          · exact J1 f g1 (by omega)
      · refine E_go (p' := 41) (L' := [some (aA 8), some (aA a), some (aA 3), some (aI ((i : Nat) : Int)), some (aI ((j : Nat) : Int)), x5]) (st' := [aI 0]) rfl rfl rfl ?_
        refine E_s (p' := 62) rfl rfl ?_
        refine E_s (p' := 63) (st' := aI 0 :: _) rfl rfl ?_
        refine E_s (p' := 65) (L' := [some (aA 8), some (aA a), some (aA 3), some (aI ((i : Nat) : Int)), some (aI ((j : Nat) : Int)), some (aI 0)]) rfl rfl ?_
        refine E_s (p' := 67) (st' := aI 0 :: _) rfl rfl ?_
        refine E_s (p' := 91) rfl rfl ?_
        refine E_inc (x := ((j : Nat) : Int)) (w := ((j + 1 : Nat) : Int)) (L' := [some (aA 8), some (aA a), some (aA 3), some (aI ((i : Nat) : Int)), some (aI ((j + 1 : Nat) : Int)), some (aI 0)]) rfl rfl rfl (by omega) (by omega) rfl ?_
        refine E_s (p' := 18) rfl rfl ?_
        refine ih (j + 1) m _ (by omega) (by omega) I1 (fun f g1 g2 => ?_)
        by_cases g3 : f = j
        · subst g3
          exact (by first | exact hbi f (by omega) ht_j | exact bk_comm (hbj i (by omega) ht_i))
        · exact J1 f g1 (by omega)
theorem yl_sq3 (hR : isR a) (hC : CR R a m0) (hV : VR R) (hd : RdC R a m0) (hB : BLM R (Cn R) m0) (h00 : bk R (-1) (-1)) (h1 : ∀ d : Nat, d < Cn R → bk R d (-1)) (q : ∀ (m1 : Mm) (v x y : Int), cuS R v x y → m1 8 1 = v → m1 8 2 = x → m1 8 3 = y → Fx 3 9 m0 m1 → Q (some (aI v)) (m1, tl len)) (q0 : ∀ m1 : Mm, cuN R → (∀ b j, b < 3 ∨ b = 8 ∨ 9 < b → m1 b j = m0 b j) → Q (some (aI (-1))) (m1, tl len)) : ∀ (d : Nat) (i : Nat) (m : Mm) (x4 x5 : Option AV), (Cn R < i + d) → (i ≤ Cn R) → (∀ b j, b < 3 ∨ 7 < b → m b j = m0 b j) → (∀ d f : Nat, d < i → d < f → f < Cn R → bk R d f) → E 103 2 [some (aA 8), some (aA a), some (aA 3), some (aI ((i : Nat) : Int)), x4, x5] [] (m, tl len) Q := by
  intro d
  induction d with
  | zero => intro i m x4 x5 hd9 hi I1 J0; omega
  | succ d ih =>
    intro i m x4 x5 hd9 hi I1 J0
    have hab := isR_b hR
    have hn60 := hV.1
    have hCm : CR R a m := hC.of (fun b j g1 g2 _ => I1 b j (by omega))
    refine E_s (p' := 3) (st' := aI ((i : Nat) : Int) :: _) rfl rfl ?_
    refine E_s (p' := 4) (st' := aA a :: _) rfl rfl ?_
    refine E_gA (b := a + 1) rfl rfl rfl (kR_0 hR) (hR_0_0 hR) rfl ?_
    refine E_gI (v := ((Cn R : Nat) : Int)) rfl rfl rfl (kR_1 hR) hCm.1 ?_
    refine E_icmp_ge (x := ((i : Nat) : Int)) (y := ((Cn R : Nat) : Int)) rfl (by decide) (fun h_1 => ?_) (fun h_1 => ?_)
    · refine E_go (p' := 103) (L' := [some (aA 8), some (aA a), some (aA 3), some (aI ((i : Nat) : Int)), x4, x5]) (st' := []) rfl rfl rfl ?_
      refine E_s (p' := 104) (st' := aI (-1) :: _) rfl rfl ?_
      refine E_ret rfl rfl ?_
      exact q0 m ⟨h00, h1, fun d f g1 g2 => J0 d f (by omega) g1 g2⟩ (fun b z hb => I1 b z (by omega))
    · refine E_go (p' := 13) (L' := [some (aA 8), some (aA a), some (aA 3), some (aI ((i : Nat) : Int)), x4, x5]) (st' := []) rfl rfl rfl ?_
      refine E_s (p' := 14) (st' := aI ((i : Nat) : Int) :: _) rfl rfl ?_
      refine E_s (p' := 15) (st' := aI 1 :: _) rfl rfl ?_
      refine E_add (v := ((i + 1 : Nat) : Int)) rfl (by omega) (by omega) ?_
      refine E_s (p' := 18) (L' := [some (aA 8), some (aA a), some (aA 3), some (aI ((i : Nat) : Int)), some (aI ((i + 1 : Nat) : Int)), x5]) rfl rfl ?_
      refine yl_sp3 hR hC hV hd hB h00 h1 q q0 (i := i) (by omega) J0 (fun m3 j3 y5 I3 J3 => ?_) (Cn R + 1) (i + 1) m _ (by omega) (by omega) I1 (fun f g1 g2 => absurd g1 (by omega))
      refine E_inc (x := ((i : Nat) : Int)) (w := ((i + 1 : Nat) : Int)) (L' := [some (aA 8), some (aA a), some (aA 3), some (aI ((i + 1 : Nat) : Int)), some (aI ((j3 : Nat) : Int)), y5]) rfl rfl rfl (by omega) (by omega) rfl ?_
      refine E_s (p' := 2) rfl rfl ?_
      refine ih (i + 1) m3 _ _ (by omega) (by omega) I3 (fun d f g1 g2 g3 => ?_)
      by_cases g4 : d = i
      · subst g4; exact J3 f g2 g3
      · exact J0 d f (by omega) g2 g3
theorem c_seekPair3 (hR : isR a) (hC : CR R a m0) (hV : VR R) (hd : RdC R a m0) (hB : BLM R (Cn R) m0) (h00 : bk R (-1) (-1)) (h1 : ∀ d : Nat, d < Cn R → bk R d (-1)) (q : ∀ (m1 : Mm) (v x y : Int), cuS R v x y → m1 8 1 = v → m1 8 2 = x → m1 8 3 = y → Fx 3 9 m0 m1 → Q (some (aI v)) (m1, tl len)) (q0 : ∀ m1 : Mm, cuN R → (∀ b j, b < 3 ∨ b = 8 ∨ 9 < b → m1 b j = m0 b j) → Q (some (aI (-1))) (m1, tl len)) : E 103 0 [some (aA 8), some (aA a), some (aA 3), none, none, none] [] (m0, tl len) Q := by
  refine E_s (p' := 1) (st' := aI 0 :: _) rfl rfl ?_
  refine E_s (p' := 2) (L' := [some (aA 8), some (aA a), some (aA 3), some (aI 0), none, none]) rfl rfl ?_
  exact yl_sq3 hR hC hV hd hB h00 h1 q q0 (Cn R + 1) 0 m0 _ _ (by omega) (by omega) (fun _ _ _ => rfl) (fun d f g1 => absurd g1 (Nat.not_lt_zero _))
theorem yl_sk3 (hR : isR a) (hC : CR R a m0) (hV : VR R) (hd : RdC R a m0) {d0 c0 : Nat} (hA0 : bkA R (-1) (-1) d0 c0) (h00 : bk R (-1) (-1)) (q : ∀ (m1 : Mm) (v x y : Int), cuS R v x y → m1 8 1 = v → m1 8 2 = x → m1 8 3 = y → Fx 3 9 m0 m1 → Q (some (aI v)) (m1, tl len)) (q0 : ∀ m1 : Mm, cuN R → (∀ b j, b < 3 ∨ b = 8 ∨ 9 < b → m1 b j = m0 b j) → Q (some (aI (-1))) (m1, tl len)) : ∀ (d : Nat) (c : Nat) (m : Mm), (Cn R < c + d) → (c ≤ Cn R) → (∀ b j, b < 3 ∨ b = 8 ∨ 9 < b → m b j = m0 b j) → (∀ d : Nat, d < c → bk R d (-1)) → (BLM R c m) → E 97 28 [some (aA 8), some (aA a), some (aA 3), some (aJ ((rcN R c0 d0 : Nat) : Int)), none, some (aI ((c : Nat) : Int))] [] (m, tl len) Q := by
  intro d
  induction d with
  | zero => intro c m hd9 hc I1 J1 J2; omega
  | succ d ih =>
    intro c m hd9 hc I1 J1 J2
    have hab := isR_b hR
    have hn60 := hV.1
    have hCm : CR R a m := hC.of (fun b j g1 g2 _ => I1 b j (by omega))
    have hr0 := rcN_lt hV hA0.2.2.1 d0
    refine E_s (p' := 30) (st' := aI ((c : Nat) : Int) :: _) rfl rfl ?_
    refine E_s (p' := 31) (st' := aA a :: _) rfl rfl ?_
    refine E_gA (b := a + 1) rfl rfl rfl (kR_0 hR) (hR_0_0 hR) rfl ?_
    refine E_gI (v := ((Cn R : Nat) : Int)) rfl rfl rfl (kR_1 hR) hCm.1 ?_
    refine E_icmp_ge (x := ((c : Nat) : Int)) (y := ((Cn R : Nat) : Int)) rfl (by decide) (fun h_1 => ?_) (fun h_1 => ?_)
    · refine E_go (p' := 99) (L' := [some (aA 8), some (aA a), some (aA 3), some (aJ ((rcN R c0 d0 : Nat) : Int)), none, some (aI ((c : Nat) : Int))]) (st' := []) rfl rfl rfl ?_
      have J2c : BLM R (Cn R) m := by rw [← (show c = Cn R by omega)]; exact J2
      refine E_s (p' := 100) (st' := aA 8 :: _) rfl rfl ?_
      refine E_s (p' := 101) (st' := aA a :: _) rfl rfl ?_
      refine E_s (p' := 102) (st' := aA 3 :: _) rfl rfl ?_
      refine E_callV (k' := 103) (a := 8) (r := []) (L0 := [some (aA 8), some (aA a), some (aA 3), none, none, none]) rfl rfl rfl rfl rfl rfl rfl rfl rfl rfl ?_
      refine c_seekPair3 hR hCm hV (hd.of (fun b j g1 g2 => I1 b j (by omega))) (J2c) h00 (fun d hd8 => J1 d (by omega)) (fun m3 v3 x3 y3 hcs K1 K2 K3 F3 => ?_) (fun m3 hcn F3 => ?_)
      · refine E_go (p' := 105) (L' := [some (aA 8), some (aA a), some (aA 3), some (aJ ((rcN R c0 d0 : Nat) : Int)), none, some (aI ((c : Nat) : Int))]) (st' := [aI (v3)]) rfl rfl rfl ?_
        refine E_ret rfl rfl ?_
        exact q m3 _ _ _ hcs K1 K2 K3 (fun b j hb => (F3 b j (by omega)).trans (I1 b j (by omega)))
      · refine E_go (p' := 105) (L' := [some (aA 8), some (aA a), some (aA 3), some (aJ ((rcN R c0 d0 : Nat) : Int)), none, some (aI ((c : Nat) : Int))]) (st' := [aI (-1)]) rfl rfl rfl ?_
        refine E_ret rfl rfl ?_
        exact q0 m3 hcn (fun b j hb => (F3 b j hb).trans (I1 b j hb))
    · refine E_go (p' := 40) (L' := [some (aA 8), some (aA a), some (aA 3), some (aJ ((rcN R c0 d0 : Nat) : Int)), none, some (aI ((c : Nat) : Int))]) (st' := []) rfl rfl rfl ?_
      refine E_s (p' := 41) (st' := aA 8 :: _) rfl rfl ?_
      refine E_gA (b := 9) rfl rfl rfl rfl hm_8_0 rfl ?_
      refine E_s (p' := 46) (st' := aI ((c : Nat) : Int) :: _) rfl rfl ?_
      refine E_s (p' := 47) (st' := aJ ((rcN R c0 d0 : Nat) : Int) :: _) rfl rfl ?_
      refine E_jst (e := c) (N := 60) rfl rfl (rfl) (by omega) ?_
      refine E_s (p' := 49) (st' := aJ ((rcN R c0 d0 : Nat) : Int) :: _) rfl rfl ?_
      refine E_s (p' := 51) (st' := aI ((c : Nat) : Int) :: _) rfl rfl ?_
      refine E_callL (p' := 54) (L0 := [some (aJ ((rcN R c0 d0 : Nat) : Int)), none, some (aI ((c : Nat) : Int))]) rfl rfl rfl ?_
      refine c_isIn3 (v := rcN R c0 d0) (c := c) hr0 (by omega) (fun ht_c => ?_) (fun ht_c => ?_)
      · refine E_go (p' := 54) (L' := [some (aA 8), some (aA a), some (aA 3), some (aJ ((rcN R c0 d0 : Nat) : Int)), none, some (aI ((c : Nat) : Int))]) (st' := [aI 1]) rfl rfl rfl ?_
        refine E_s (p' := 60) rfl rfl ?_
        refine E_s (p' := 61) (st' := aA 3 :: _) rfl rfl ?_
        refine E_s (p' := 62) (st' := aA a :: _) rfl rfl ?_
        refine E_s (p' := 64) (st' := aI ((c : Nat) : Int) :: _) rfl rfl ?_
        refine E_s (p' := 65) (st' := aI (-1) :: _) rfl rfl ?_
        refine E_callV (k' := 86) (a := 3) (r := []) (L0 := [some (aA 3), some (aA a), some (aI ((c : Nat) : Int)), some (aI (-1)), none]) rfl rfl rfl rfl rfl rfl rfl rfl rfl rfl ?_
        refine c_run3 (x := ((c : Nat) : Int)) (y := (-1)) hR (hC.of (fun b j g1 g2 _ => (up2_ne (by omega)).trans (I1 b j (by omega)))) hV (hd.of (fun b j g1 g2 => (up2_ne (by omega)).trans (I1 b j (by omega)))) (fun m1 v1 hv1 hnb F1 => ?_) (fun m1 dn cb hA hbk h34 h35 F1 => ?_)
        · refine E_go (p' := 68) (L' := [some (aA 8), some (aA a), some (aA 3), some (aJ ((rcN R c0 d0 : Nat) : Int)), none, some (aI ((c : Nat) : Int))]) (st' := [aI (v1)]) rfl rfl rfl ?_
          refine E_s (p' := 69) (st' := aI (-1) :: _) rfl rfl ?_
          refine E_icmp_eq (x := (v1)) (y := (-1)) rfl (by decide) (fun q => absurd q (by omega)) (fun h_2 => ?_)
          refine E_go (p' := 72) (L' := [some (aA 8), some (aA a), some (aA 3), some (aJ ((rcN R c0 d0 : Nat) : Int)), none, some (aI ((c : Nat) : Int))]) (st' := []) rfl rfl rfl ?_
          refine E_s (p' := 73) (st' := aA 8 :: _) rfl rfl ?_
          refine E_s (p' := 74) (st' := aI 1 :: _) rfl rfl ?_
          refine E_s (p' := 76) (st' := aI ((c : Nat) : Int) :: _) rfl rfl ?_
          refine E_s (p' := 77) (st' := aI (-1) :: _) rfl rfl ?_
          refine E_callV (k' := 98) (a := 8) (r := []) (L0 := [some (aA 8), some (aI 1), some (aI ((c : Nat) : Int)), some (aI (-1))]) rfl rfl rfl rfl rfl rfl rfl rfl rfl rfl ?_
          refine c_keep3 (fun m2 K1 K2 K3 F2 => ?_)
          refine E_go (p' := 80) (L' := [some (aA 8), some (aA a), some (aA 3), some (aJ ((rcN R c0 d0 : Nat) : Int)), none, some (aI ((c : Nat) : Int))]) (st' := [aI 1]) rfl rfl rfl ?_
          refine E_ret rfl rfl ?_
          exact q m2 1 c (-1) (Or.inr (Or.inl ⟨rfl, rfl, h00, c, by omega, rfl, hnb, J1⟩)) K1 K2 K3 (fun b z hb => (F2 b z (by omega)).trans ((F1 b z (by omega)).trans ((up2_ne (by omega)).trans (I1 b z (by omega)))))
        · refine E_go (p' := 68) (L' := [some (aA 8), some (aA a), some (aA 3), some (aJ ((rcN R c0 d0 : Nat) : Int)), none, some (aI ((c : Nat) : Int))]) (st' := [aI (-1)]) rfl rfl rfl ?_
          refine E_s (p' := 69) (st' := aI (-1) :: _) rfl rfl ?_
          refine E_s (p' := 81) rfl rfl ?_
          refine E_s (p' := 82) (st' := aA 8 :: _) rfl rfl ?_
          refine E_gA (b := 9) rfl rfl rfl rfl hm_8_0 rfl ?_
          refine E_s (p' := 87) (st' := aI ((c : Nat) : Int) :: _) rfl rfl ?_
          refine E_s (p' := 88) (st' := aA a :: _) rfl rfl ?_
          refine E_s (p' := 89) (st' := aA 3 :: _) rfl rfl ?_
          refine E_callL (p' := 92) (L0 := [some (aA a), some (aA 3), none, none, none, none, none]) rfl rfl rfl ?_
          refine c_reach3 hR (hC.of (fun b j g1 g2 _ => (F1 b j (by omega)).trans ((up2_ne (by omega)).trans (I1 b j (by omega))))) hV hA.2.2.1 hA.2.1 h34 h35 ?_
          refine E_go (p' := 92) (L' := [some (aA 8), some (aA a), some (aA 3), some (aJ ((rcN R c0 d0 : Nat) : Int)), none, some (aI ((c : Nat) : Int))]) (st' := [aJ ((rcN R cb dn : Nat) : Int), aI ((c : Nat) : Int), aA 9]) rfl rfl rfl ?_
          refine E_jst (e := c) (N := 60) rfl rfl (rfl) (by omega) ?_
          refine E_inc (x := ((c : Nat) : Int)) (w := ((c + 1 : Nat) : Int)) (L' := [some (aA 8), some (aA a), some (aA 3), some (aJ ((rcN R c0 d0 : Nat) : Int)), none, some (aI ((c + 1 : Nat) : Int))]) rfl rfl rfl (by omega) (by omega) rfl ?_
          refine E_s (p' := 28) rfl rfl ?_
          refine ih (c + 1) _ (by omega) (by omega) (fun b j hb => (up2_ne (by omega)).trans ((F1 b j (by omega)).trans ((up2_ne (by omega)).trans (I1 b j hb)))) (fun d hd8 => ?_) (fun d hd8 => ?_)
          · by_cases g : d = c
            · subst g; exact hbk
            · exact J1 d (by omega)
          · by_cases g : d = c
            · subst g
              refine ⟨rcN R cb dn, rcN_lt hV hA.2.2.1 dn, up2_eq, fun b hb ht => prune hV hA (fun z hz => ?_)⟩
              have k2 := rch_f ht
              by_cases g2 : z = b
              · subst g2; exact absurd hz k2
              · omega
            · obtain ⟨v, k1, k2, k3⟩ := J2 d (by omega)
              exact ⟨v, k1, (up2_sl g).trans ((F1 _ _ (by omega)).trans ((up2_sl g).trans k2)), k3⟩
      · refine E_go (p' := 54) (L' := [some (aA 8), some (aA a), some (aA 3), some (aJ ((rcN R c0 d0 : Nat) : Int)), none, some (aI ((c : Nat) : Int))]) (st' := [aI 0]) rfl rfl rfl ?_
        refine E_s (p' := 57) rfl rfl ?_
        refine E_s (p' := 93) rfl rfl ?_
        refine E_inc (x := ((c : Nat) : Int)) (w := ((c + 1 : Nat) : Int)) (L' := [some (aA 8), some (aA a), some (aA 3), some (aJ ((rcN R c0 d0 : Nat) : Int)), none, some (aI ((c + 1 : Nat) : Int))]) rfl rfl rfl (by omega) (by omega) rfl ?_
        refine E_s (p' := 28) rfl rfl ?_
        have hnb : bk R (c : Int) (-1) := prune hV hA0 (fun z hz => by have := rch_f ht_c; by_cases g : z = c; subst g; exact absurd hz this; omega)
        refine ih (c + 1) _ (by omega) (by omega) (fun b j hb => (up2_ne (by omega)).trans (I1 b j hb)) (fun d hd8 => ?_) (fun d hd8 => ?_)
        · by_cases g : d = c
          · subst g; exact hnb
          · exact J1 d (by omega)
        · by_cases g : d = c
          · subst g
            refine ⟨rcN R c0 d0, hr0, up2_eq, fun b hb ht => prune hV hA0 (fun z hz => ?_)⟩
            have k1 := rch_f ht_c
            have k2 := rch_f ht
            by_cases g1 : z = d
            · subst g1; exact absurd hz k1
            · by_cases g2 : z = b
              · subst g2; exact absurd hz k2
              · omega
          · obtain ⟨v, k1, k2, k3⟩ := J2 d (by omega)
            exact ⟨v, k1, (up2_sl g).trans k2, k3⟩
theorem c_seek3 (hR : isR a) (hC : CR R a m0) (hV : VR R) (hd : RdC R a m0) (q : ∀ (m1 : Mm) (v x y : Int), cuS R v x y → m1 8 1 = v → m1 8 2 = x → m1 8 3 = y → Fx 3 9 m0 m1 → Q (some (aI v)) (m1, tl len)) (q0 : ∀ m1 : Mm, cuN R → (∀ b j, b < 3 ∨ b = 8 ∨ 9 < b → m1 b j = m0 b j) → Q (some (aI (-1))) (m1, tl len)) : E 97 0 [some (aA 8), some (aA a), some (aA 3), none, none, none] [] (m0, tl len) Q := by
  have hab := isR_b hR
  refine E_s (p' := 1) (st' := aA 3 :: _) rfl rfl ?_
  refine E_s (p' := 2) (st' := aA a :: _) rfl rfl ?_
  refine E_s (p' := 3) (st' := aI (-1) :: _) rfl rfl ?_
  refine E_s (p' := 4) (st' := aI (-1) :: _) rfl rfl ?_
  refine E_callV (k' := 86) (a := 3) (r := []) (L0 := [some (aA 3), some (aA a), some (aI (-1)), some (aI (-1)), none]) rfl rfl rfl rfl rfl rfl rfl rfl rfl rfl ?_
  refine c_run3 (x := -1) (y := -1) hR hC hV hd (fun m1 v1 hv1 hnb F1 => ?_) (fun m1 dn cb hA hbk h34 h35 F1 => ?_)
  · refine E_go (p' := 7) (L' := [some (aA 8), some (aA a), some (aA 3), none, none, none]) (st' := [aI (v1)]) rfl rfl rfl ?_
    refine E_s (p' := 8) (st' := aI (-1) :: _) rfl rfl ?_
    refine E_icmp_eq (x := (v1)) (y := (-1)) rfl (by decide) (fun q => absurd q (by omega)) (fun h_1 => ?_)
    refine E_go (p' := 11) (L' := [some (aA 8), some (aA a), some (aA 3), none, none, none]) (st' := []) rfl rfl rfl ?_
    refine E_s (p' := 12) (st' := aA 8 :: _) rfl rfl ?_
    refine E_s (p' := 13) (st' := aI 0 :: _) rfl rfl ?_
    refine E_s (p' := 14) (st' := aI (-1) :: _) rfl rfl ?_
    refine E_s (p' := 15) (st' := aI (-1) :: _) rfl rfl ?_
    refine E_callV (k' := 98) (a := 8) (r := []) (L0 := [some (aA 8), some (aI 0), some (aI (-1)), some (aI (-1))]) rfl rfl rfl rfl rfl rfl rfl rfl rfl rfl ?_
    refine c_keep3 (fun m2 K1 K2 K3 F2 => ?_)
    refine E_go (p' := 18) (L' := [some (aA 8), some (aA a), some (aA 3), none, none, none]) (st' := [aI 0]) rfl rfl rfl ?_
    refine E_ret rfl rfl ?_
    exact q m2 0 (-1) (-1) (Or.inl ⟨rfl, rfl, rfl, hnb⟩) K1 K2 K3 (fun b z hb => (F2 b z (by omega)).trans (F1 b z (by omega)))
  · refine E_go (p' := 7) (L' := [some (aA 8), some (aA a), some (aA 3), none, none, none]) (st' := [aI (-1)]) rfl rfl rfl ?_
    refine E_s (p' := 8) (st' := aI (-1) :: _) rfl rfl ?_
    refine E_s (p' := 19) rfl rfl ?_
    refine E_s (p' := 20) (st' := aA a :: _) rfl rfl ?_
    refine E_s (p' := 21) (st' := aA 3 :: _) rfl rfl ?_
    refine E_callL (p' := 24) (L0 := [some (aA a), some (aA 3), none, none, none, none, none]) rfl rfl rfl ?_
    refine c_reach3 hR (hC.of (fun b j g1 g2 _ => F1 b j (by omega))) hV hA.2.2.1 hA.2.1 h34 h35 ?_
    refine E_go (p' := 24) (L' := [some (aA 8), some (aA a), some (aA 3), none, none, none]) (st' := [aJ ((rcN R cb dn : Nat) : Int)]) rfl rfl rfl ?_
    refine E_s (p' := 25) (L' := [some (aA 8), some (aA a), some (aA 3), some (aJ ((rcN R cb dn : Nat) : Int)), none, none]) rfl rfl ?_
    refine E_s (p' := 26) (st' := aI 0 :: _) rfl rfl ?_
    refine E_s (p' := 28) (L' := [some (aA 8), some (aA a), some (aA 3), some (aJ ((rcN R cb dn : Nat) : Int)), none, some (aI 0)]) rfl rfl ?_
    exact yl_sk3 hR hC hV hd hA hbk q q0 (Cn R + 1) 0 m1 (by omega) (by omega) (fun b j hb => F1 b j (by omega)) (fun d hd8 => absurd hd8 (Nat.not_lt_zero _)) (fun d hd8 => absurd hd8 (Nat.not_lt_zero _))
theorem C_cure3 (hS : CS S m) (q : ∀ (i : Nat) (m1 : Mm) (v x y : Int), i < 4 → r = i → cuS (S i) v x y → m1 8 1 = v → m1 8 2 = x → m1 8 3 = y → CS S m1 → (∀ b j, b = 0 ∨ (10 ≤ b ∧ b ≤ 14) ∨ 124 ≤ b → m1 b j = m b j) → Q (some (aI v)) (m1, tl len)) (q0 : ∀ (i : Nat) (m1 : Mm), i < 4 → r = i → cuN (S i) → CS S m1 → (∀ b j, b = 0 ∨ b = 8 ∨ (10 ≤ b ∧ b ≤ 14) ∨ 124 ≤ b → m1 b j = m b j) → Q (some (aI (-1))) (m1, tl len)) (qr : (r < 0 ∨ 3 < r) → Q (some (aI (-2))) (m, tl len)) : E 96 0 [some (aA 1), some (aI (r)), none] [] (m, tl len) Q := by
  refine E_s (p' := 1) (st' := aA 1 :: _) rfl rfl ?_
  refine E_s (p' := 2) (st' := aI (r) :: _) rfl rfl ?_
  refine E_callV (k' := 34) (a := 1) (r := []) (L0 := [some (aA 1), some (aI (r)), none]) rfl rfl rfl rfl rfl rfl rfl rfl rfl rfl ?_
  refine c_readOf hS (fun i a m1 hi hr ha hR hS1 hCS hd hMo => ?_) (fun hr => ?_)
  · refine E_go (p' := 5) (L' := [some (aA 1), some (aI (r)), none]) (st' := [aA a]) rfl rfl rfl ?_
    obtain ⟨hV, hC, -⟩ := hCS
    have hn60 := hV.1
    have hab := isR_b hR
    have hs40 := hV.2.2.2.2.1
    refine E_s (p' := 6) (L' := [some (aA 1), some (aI (r)), some (aA a)]) rfl rfl ?_
    refine E_s (p' := 7) (st' := aA a :: _) rfl rfl ?_
    refine E_s (p' := 15) rfl rfl ?_
    refine E_s (p' := 16) (st' := aA 1 :: _) rfl rfl ?_
    refine E_gA (b := 8) rfl rfl rfl rfl rfl rfl ?_
    refine E_s (p' := 20) (st' := aA a :: _) rfl rfl ?_
    refine E_s (p' := 21) (st' := aA 1 :: _) rfl rfl ?_
    refine E_gA (b := 3) rfl rfl rfl rfl rfl rfl ?_
    refine E_callV (k' := 97) (a := 8) (r := []) (L0 := [some (aA 8), some (aA a), some (aA 3), none, none, none]) rfl rfl rfl rfl rfl rfl rfl rfl rfl rfl ?_
    refine c_seek3 hR hC hV hd (fun m2 v2 x2 y2 hcs K1 K2 K3 F2 => ?_) (fun m2 hcn F2 => ?_)
    · refine E_go (p' := 27) (L' := [some (aA 1), some (aI (r)), some (aA a)]) (st' := [aI (v2)]) rfl rfl rfl ?_
      refine E_ret rfl rfl ?_
      exact q i m2 _ _ _ hi hr hcs K1 K2 K3 (fun k hk => (hS1 k hk).of (fun b j g1 g2 => F2 b j (by unfold tgA at g1; omega))) (fun b j hb => (F2 b j (by omega)).trans (hMo b j (by omega)))
    · refine E_go (p' := 27) (L' := [some (aA 1), some (aI (r)), some (aA a)]) (st' := [aI (-1)]) rfl rfl rfl ?_
      refine E_ret rfl rfl ?_
      exact q0 i m2 hi hr hcn (fun k hk => (hS1 k hk).of (fun b j g1 g2 => F2 b j (by unfold tgA at g1; omega))) (fun b j hb => (F2 b j (by omega)).trans (hMo b j (by omega)))
  · refine E_go (p' := 5) (L' := [some (aA 1), some (aI (r)), none]) (st' := [aN]) rfl rfl rfl ?_
    refine E_s (p' := 6) (L' := [some (aA 1), some (aI (r)), some (aN)]) rfl rfl ?_
    refine E_s (p' := 7) (st' := aN :: _) rfl rfl ?_
    refine E_s (p' := 10) rfl rfl ?_
    refine E_s (p' := 12) (st' := aI (-2) :: _) rfl rfl ?_
    refine E_s (p' := 27) rfl rfl ?_
    refine E_ret rfl rfl ?_
    exact qr hr
end
/-- what cured answers, by how many CORDS the latest CURE has, and which -/
def aCured (n : Nat) (x y k : Int) : Int := if 0 ≤ k ∧ k < (n : Int) then (if k = 0 then x else y) else -1
section
variable {len : Nat} {m : Mm} {Q : Option AV → Sx → Prop} {n : Nat} {x y k : Int}
theorem c_cordAt3 (hn : n ≤ 2) (h1 : m 8 1 = (n : Int)) (h2 : m 8 2 = x) (h3 : m 8 3 = y) (q : Q (some (aI (aCured n x y k))) (m, tl len)) : E 105 0 [some (aA 8), some (aI (k))] [] (m, tl len) Q := by
  refine E_s (p' := 1) (st' := aI (k) :: _) rfl rfl ?_
  refine E_if_lt (x := (k)) rfl (by decide) (fun h_1 => ?_) (fun h_1 => ?_)
  · refine E_go (p' := 12) (L' := [some (aA 8), some (aI (k))]) (st' := []) rfl rfl rfl ?_
    refine E_s (p' := 13) (st' := aI (-1) :: _) rfl rfl ?_
    refine E_ret rfl rfl ?_
    rw [show (-1 : Int) = aCured n x y k from (by unfold aCured; rw [if_neg (by omega)])]
    exact q
  · refine E_go (p' := 4) (L' := [some (aA 8), some (aI (k))]) (st' := []) rfl rfl rfl ?_
    refine E_s (p' := 5) (st' := aI (k) :: _) rfl rfl ?_
    refine E_s (p' := 6) (st' := aA 8 :: _) rfl rfl ?_
    refine E_gI (v := ((n : Nat) : Int)) rfl rfl rfl rfl h1 ?_
    refine E_icmp_lt (x := (k)) (y := ((n : Nat) : Int)) rfl (by decide) (fun h_2 => ?_) (fun h_2 => ?_)
    · refine E_go (p' := 14) (L' := [some (aA 8), some (aI (k))]) (st' := []) rfl rfl rfl ?_
      refine E_s (p' := 15) (st' := aI (k) :: _) rfl rfl ?_
      refine E_if_ne (x := (k)) rfl (by decide) (fun h_3 => ?_) (fun h_3 => ?_)
      · refine E_go (p' := 25) (L' := [some (aA 8), some (aI (k))]) (st' := []) rfl rfl rfl ?_
        refine E_s (p' := 26) (st' := aA 8 :: _) rfl rfl ?_
        refine E_gI (v := (y)) rfl rfl rfl rfl h3 ?_
        refine E_ret rfl rfl ?_
        rw [show y = aCured n x y k from (by unfold aCured; rw [if_pos (by omega), if_neg (by omega)])]
        exact q
      · refine E_go (p' := 18) (L' := [some (aA 8), some (aI (k))]) (st' := []) rfl rfl rfl ?_
        refine E_s (p' := 19) (st' := aA 8 :: _) rfl rfl ?_
        refine E_gI (v := (x)) rfl rfl rfl rfl h2 ?_
        refine E_s (p' := 29) rfl rfl ?_
        refine E_ret rfl rfl ?_
        rw [show x = aCured n x y k from (by unfold aCured; rw [if_pos (by omega), if_pos (by omega)])]
        exact q
    · refine E_go (p' := 12) (L' := [some (aA 8), some (aI (k))]) (st' := []) rfl rfl rfl ?_
      refine E_s (p' := 13) (st' := aI (-1) :: _) rfl rfl ?_
      refine E_ret rfl rfl ?_
      rw [show (-1 : Int) = aCured n x y k from (by unfold aCured; rw [if_neg (by omega)])]
      exact q
theorem C_cured3 (hn : n ≤ 2) (h1 : m 8 1 = (n : Int)) (h2 : m 8 2 = x) (h3 : m 8 3 = y) (q : Q (some (aI (aCured n x y k))) (m, tl len)) : E 104 0 [some (aA 1), some (aI (k))] [] (m, tl len) Q := by
  refine E_s (p' := 1) (st' := aA 1 :: _) rfl rfl ?_
  refine E_gA (b := 8) rfl rfl rfl rfl rfl rfl ?_
  refine E_s (p' := 5) (st' := aI (k) :: _) rfl rfl ?_
  refine E_callV (k' := 105) (a := 8) (r := []) (L0 := [some (aA 8), some (aI (k))]) rfl rfl rfl rfl rfl rfl rfl rfl rfl rfl ?_
  refine c_cordAt3 hn h1 h2 h3 ?_
  refine E_go (p' := 8) (L' := [some (aA 1), some (aI (k))]) (st' := [aI (((aCured n x y k)))]) rfl rfl rfl ?_
  refine E_ret rfl rfl ?_
  exact q
theorem M_cured3 (hn : n ≤ 2) (h1 : m 124 44 = (n : Int)) (h2 : 0 < n → m 161 0 = x) (h3 : 1 < n → m 161 1 = y) (q : Q (some (aI (aCured n x y k))) (m, tl len)) : E 175 0 [some (aA 124), some (aI (k))] [] (m, tl len) Q := by
  refine E_s (p' := 1) (st' := aI (k) :: _) rfl rfl ?_
  refine E_s (p' := 2) (st' := aI 0 :: _) rfl rfl ?_
  refine E_s (p' := 3) (st' := aA 124 :: _) rfl rfl ?_
  refine E_gI (v := ((n : Nat) : Int)) rfl rfl rfl rfl h1 ?_
  refine E_s (p' := 7) (st' := aI 1 :: _) rfl rfl ?_
  refine E_sub (v := ((n : Int) - 1)) rfl (by omega) (by omega) ?_
  refine E_callL (p' := 11) (L0 := [some (aI (k)), some (aI 0), some (aI ((n : Int) - 1))]) rfl rfl rfl ?_
  refine m_in (fun hr1 hr2 => ?_) (fun hr0 => ?_)
  · refine E_go (p' := 11) (L' := [some (aA 124), some (aI (k))]) (st' := [aI 1]) rfl rfl rfl ?_
    refine E_s (p' := 14) rfl rfl ?_
    obtain ⟨kn, ek⟩ : ∃ z : Nat, k = (z : Int) := ⟨k.toNat, by omega⟩
    subst ek
    refine E_s (p' := 15) (st' := aA 124 :: _) rfl rfl ?_
    refine E_gA (b := 161) rfl rfl rfl rfl rfl rfl ?_
    refine E_s (p' := 19) (st' := aI ((kn : Nat) : Int) :: _) rfl rfl ?_
    refine E_ald (e := kn) (N := 2) (v := ((m 161 kn))) rfl rfl (rfl) (by omega) rfl ?_
    refine E_s (p' := 24) rfl rfl ?_
    refine E_ret rfl rfl ?_
    rw [show m 161 kn = aCured n x y (kn : Int) from (by
      unfold aCured
      rw [if_pos (by omega)]
      rcases (show kn = 0 ∨ kn = 1 by omega) with g | g
      · subst g; rw [if_pos (by omega)]; exact h2 (by omega)
      · subst g; rw [if_neg (by omega)]; exact h3 (by omega))]
    exact q
  · refine E_go (p' := 11) (L' := [some (aA 124), some (aI (k))]) (st' := [aI 0]) rfl rfl rfl ?_
    refine E_s (p' := 23) rfl rfl ?_
    refine E_s (p' := 24) (st' := aI (-1) :: _) rfl rfl ?_
    refine E_ret rfl rfl ?_
    rw [show (-1 : Int) = aCured n x y k from (by unfold aCured; rw [if_neg (by omega)])]
    exact q
end
