section
variable {len : Nat} {m m0 : Mm} {Q : Option AV → Sx → Prop} {R : RD} {S : Nat → RD} {a : Nat} {x y u r : Int}
theorem c_keep (q : ∀ m1 : Mm, Fx 8 8 m m1 → Q (some (aI x)) (m1, tl len)) : E 98 0 [some (aA 8), some (aI (x)), some (aI (y)), some (aI (u))] [] (m, tl len) Q := by
  refine E_s (p' := 1) (st' := aA 8 :: _) rfl rfl ?_
  refine E_s (p' := 2) (st' := aI (x) :: _) rfl rfl ?_
  refine E_pI rfl rfl rfl rfl (Or.inl rfl) ?_
  refine E_s (p' := 6) (st' := aA 8 :: _) rfl rfl ?_
  refine E_s (p' := 7) (st' := aI (y) :: _) rfl rfl ?_
  refine E_pI rfl rfl rfl rfl (Or.inl rfl) ?_
  refine E_s (p' := 11) (st' := aA 8 :: _) rfl rfl ?_
  refine E_s (p' := 12) (st' := aI (u) :: _) rfl rfl ?_
  refine E_pI rfl rfl rfl rfl (Or.inl rfl) ?_
  refine E_s (p' := 16) (st' := aI (x) :: _) rfl rfl ?_
  refine E_ret rfl rfl ?_
  exact q _ (((Fx.rf.up (by omega) (by omega)).up (by omega) (by omega)).up (by omega) (by omega))
theorem yl_sp2 (hR : isR a) (hC : CR R a m0) (hV : VR R) (hd : RdC R a m0) {i : Nat} (hi : i < Cn R) (q : ∀ (m1 : Mm) (v : Int), Fx 3 9 m0 m1 → Q (some (aI v)) (m1, tl len)) (hk : ∀ (m : Mm) (j : Nat) (x5 : Option AV), Fx 3 9 m0 m → E 103 97 [some (aA 8), some (aA a), some (aA 3), some (aI ((i : Nat) : Int)), some (aI ((j : Nat) : Int)), x5] [] (m, tl len) Q) : ∀ (d : Nat) (j : Nat) (m : Mm) (x5 : Option AV), (Cn R < j + d) → (j ≤ Cn R) → (Fx 3 9 m0 m) → E 103 18 [some (aA 8), some (aA a), some (aA 3), some (aI ((i : Nat) : Int)), some (aI ((j : Nat) : Int)), x5] [] (m, tl len) Q := by
  intro d
  induction d with
  | zero => intro j m x5 hd9 hj I1; omega
  | succ d ih =>
    intro j m x5 hd9 hj I1
    have hab := isR_b hR
    have hn60 := hV.1
    have hCm : CR R a m := hC.of (fun b j g1 g2 _ => I1 b j (by omega))
    refine E_s (p' := 20) (st' := aI ((j : Nat) : Int) :: _) rfl rfl ?_
    refine E_s (p' := 21) (st' := aA a :: _) rfl rfl ?_
    refine E_gA (b := a + 1) rfl rfl rfl (kR_0 hR) (hR_0_0 hR) rfl ?_
    refine E_gI (v := ((Cn R : Nat) : Int)) rfl rfl rfl (kR_1 hR) hCm.1 ?_
    refine E_icmp_ge (x := ((j : Nat) : Int)) (y := ((Cn R : Nat) : Int)) rfl (by decide) (fun h_1 => ?_) (fun h_1 => ?_)
    · refine E_go (p' := 97) (L' := [some (aA 8), some (aA a), some (aA 3), some (aI ((i : Nat) : Int)), some (aI ((j : Nat) : Int)), x5]) (st' := []) rfl rfl rfl ?_
      exact hk m j _ I1
    · refine E_go (p' := 30) (L' := [some (aA 8), some (aA a), some (aA 3), some (aI ((i : Nat) : Int)), some (aI ((j : Nat) : Int)), x5]) (st' := []) rfl rfl rfl ?_
      refine E_s (p' := 31) (st' := aA 8 :: _) rfl rfl ?_
      refine E_gA (b := 9) rfl rfl rfl rfl hm_8_0 rfl ?_
      refine E_s (p' := 35) (st' := aI ((i : Nat) : Int) :: _) rfl rfl ?_
      refine E_jld (e := i) (N := 60) (v := ((m 9 i))) rfl rfl (rfl) (by omega) rfl ?_
      refine E_s (p' := 38) (st' := aI ((j : Nat) : Int) :: _) rfl rfl ?_
      refine E_callL (p' := 41) (L0 := [some (aJ ((m 9 i))), none, some (aI ((j : Nat) : Int))]) rfl rfl rfl ?_
      refine c_isIn ?_ ?_
      · refine E_go (p' := 41) (L' := [some (aA 8), some (aA a), some (aA 3), some (aI ((i : Nat) : Int)), some (aI ((j : Nat) : Int)), x5]) (st' := [aI 1]) rfl rfl rfl ?_
        refine E_s (p' := 44) rfl rfl ?_
        refine E_s (p' := 45) (st' := aA 8 :: _) rfl rfl ?_
        refine E_gA (b := 9) rfl rfl rfl rfl hm_8_0 rfl ?_
        refine E_s (p' := 50) (st' := aI ((j : Nat) : Int) :: _) rfl rfl ?_
        refine E_jld (e := j) (N := 60) (v := ((m 9 j))) rfl rfl (rfl) (by omega) rfl ?_
        refine E_s (p' := 52) (st' := aI ((i : Nat) : Int) :: _) rfl rfl ?_
        refine E_callL (p' := 55) (L0 := [some (aJ ((m 9 j))), none, some (aI ((i : Nat) : Int))]) rfl rfl rfl ?_
        refine c_isIn ?_ ?_
        · refine E_go (p' := 55) (L' := [some (aA 8), some (aA a), some (aA 3), some (aI ((i : Nat) : Int)), some (aI ((j : Nat) : Int)), x5]) (st' := [aI 1]) rfl rfl rfl ?_
          refine E_s (p' := 58) rfl rfl ?_
          refine E_s (p' := 59) (st' := aI 1 :: _) rfl rfl ?_
          refine E_s (p' := 63) rfl rfl ?_
          refine E_s (p' := 65) (L' := [some (aA 8), some (aA a), some (aA 3), some (aI ((i : Nat) : Int)), some (aI ((j : Nat) : Int)), some (aI 1)]) rfl rfl ?_
          refine E_s (p' := 67) (st' := aI 1 :: _) rfl rfl ?_
          refine E_s (p' := 70) rfl rfl ?_
          refine E_s (p' := 71) (st' := aA 3 :: _) rfl rfl ?_
          refine E_s (p' := 72) (st' := aA a :: _) rfl rfl ?_
          refine E_s (p' := 73) (st' := aI ((i : Nat) : Int) :: _) rfl rfl ?_
          refine E_s (p' := 75) (st' := aI ((j : Nat) : Int) :: _) rfl rfl ?_
          refine E_callV (k' := 86) (a := 3) (r := []) (L0 := [some (aA 3), some (aA a), some (aI ((i : Nat) : Int)), some (aI ((j : Nat) : Int)), none]) rfl rfl rfl rfl rfl rfl rfl rfl rfl rfl ?_
          refine c_run2 hR (hC.of (fun b j g1 g2 _ => I1 b j (by omega))) hV (hd.of (fun b j g1 g2 => I1 b j (by omega))) (fun m1 v1 dn hdn h34 F1 => ?_)
          refine E_go (p' := 78) (L' := [some (aA 8), some (aA a), some (aA 3), some (aI ((i : Nat) : Int)), some (aI ((j : Nat) : Int)), some (aI 1)]) (st' := [aI (v1)]) rfl rfl rfl ?_
          refine E_s (p' := 79) (st' := aI (-1) :: _) rfl rfl ?_
          refine E_icmp_eq (x := (v1)) (y := (-1)) rfl (by decide) (fun h_2 => ?_) (fun h_2 => ?_)
          · refine E_go (p' := 91) (L' := [some (aA 8), some (aA a), some (aA 3), some (aI ((i : Nat) : Int)), some (aI ((j : Nat) : Int)), some (aI 1)]) (st' := []) rfl rfl rfl ?_
            refine E_inc (x := ((j : Nat) : Int)) (w := ((j + 1 : Nat) : Int)) (L' := [some (aA 8), some (aA a), some (aA 3), some (aI ((i : Nat) : Int)), some (aI ((j + 1 : Nat) : Int)), some (aI 1)]) rfl rfl rfl (by omega) (by omega) rfl ?_
            refine E_s (p' := 18) rfl rfl ?_
            exact ih (j + 1) m1 _ (by omega) (by omega) (I1.tr (F1.wide (by omega) (by omega)))
          · refine E_go (p' := 82) (L' := [some (aA 8), some (aA a), some (aA 3), some (aI ((i : Nat) : Int)), some (aI ((j : Nat) : Int)), some (aI 1)]) (st' := []) rfl rfl rfl ?_
            refine E_s (p' := 83) (st' := aA 8 :: _) rfl rfl ?_
            refine E_s (p' := 84) (st' := aI 2 :: _) rfl rfl ?_
            refine E_s (p' := 85) (st' := aI ((i : Nat) : Int) :: _) rfl rfl ?_
            refine E_s (p' := 87) (st' := aI ((j : Nat) : Int) :: _) rfl rfl ?_
            refine E_callV (k' := 98) (a := 8) (r := []) (L0 := [some (aA 8), some (aI 2), some (aI ((i : Nat) : Int)), some (aI ((j : Nat) : Int))]) rfl rfl rfl rfl rfl rfl rfl rfl rfl rfl ?_
            refine c_keep (fun m2 F2 => ?_)
            refine E_go (p' := 90) (L' := [some (aA 8), some (aA a), some (aA 3), some (aI ((i : Nat) : Int)), some (aI ((j : Nat) : Int)), some (aI 1)]) (st' := [aI 2]) rfl rfl rfl ?_
            refine E_ret rfl rfl ?_
            exact q _ _ ((I1.tr (F1.wide (by omega) (by omega))).tr (F2.wide (by omega) (by omega)))
        · refine E_go (p' := 55) (L' := [some (aA 8), some (aA a), some (aA 3), some (aI ((i : Nat) : Int)), some (aI ((j : Nat) : Int)), x5]) (st' := [aI 0]) rfl rfl rfl ?_
          refine E_s (p' := 62) rfl rfl ?_
          refine E_s (p' := 63) (st' := aI 0 :: _) rfl rfl ?_
          refine E_s (p' := 65) (L' := [some (aA 8), some (aA a), some (aA 3), some (aI ((i : Nat) : Int)), some (aI ((j : Nat) : Int)), some (aI 0)]) rfl rfl ?_
          refine E_s (p' := 67) (st' := aI 0 :: _) rfl rfl ?_
          refine E_s (p' := 91) rfl rfl ?_
          refine E_inc (x := ((j : Nat) : Int)) (w := ((j + 1 : Nat) : Int)) (L' := [some (aA 8), some (aA a), some (aA 3), some (aI ((i : Nat) : Int)), some (aI ((j + 1 : Nat) : Int)), some (aI 0)]) rfl rfl rfl (by omega) (by omega) rfl ?_
          refine E_s (p' := 18) rfl rfl ?_
          exact ih (j + 1) m _ (by omega) (by omega) I1
      · refine E_go (p' := 41) (L' := [some (aA 8), some (aA a), some (aA 3), some (aI ((i : Nat) : Int)), some (aI ((j : Nat) : Int)), x5]) (st' := [aI 0]) rfl rfl rfl ?_
        refine E_s (p' := 62) rfl rfl ?_
        refine E_s (p' := 63) (st' := aI 0 :: _) rfl rfl ?_
        refine E_s (p' := 65) (L' := [some (aA 8), some (aA a), some (aA 3), some (aI ((i : Nat) : Int)), some (aI ((j : Nat) : Int)), some (aI 0)]) rfl rfl ?_
        refine E_s (p' := 67) (st' := aI 0 :: _) rfl rfl ?_
        refine E_s (p' := 91) rfl rfl ?_
        refine E_inc (x := ((j : Nat) : Int)) (w := ((j + 1 : Nat) : Int)) (L' := [some (aA 8), some (aA a), some (aA 3), some (aI ((i : Nat) : Int)), some (aI ((j + 1 : Nat) : Int)), some (aI 0)]) rfl rfl rfl (by omega) (by omega) rfl ?_
        refine E_s (p' := 18) rfl rfl ?_
        exact ih (j + 1) m _ (by omega) (by omega) I1
theorem yl_sp1 (hR : isR a) (hC : CR R a m0) (hV : VR R) (hd : RdC R a m0) (q : ∀ (m1 : Mm) (v : Int), Fx 3 9 m0 m1 → Q (some (aI v)) (m1, tl len)) : ∀ (d : Nat) (i : Nat) (m : Mm) (x4 x5 : Option AV), (Cn R < i + d) → (i ≤ Cn R) → (Fx 3 9 m0 m) → E 103 2 [some (aA 8), some (aA a), some (aA 3), some (aI ((i : Nat) : Int)), x4, x5] [] (m, tl len) Q := by
  intro d
  induction d with
  | zero => intro i m x4 x5 hd9 hi I1; omega
  | succ d ih =>
    intro i m x4 x5 hd9 hi I1
    have hab := isR_b hR
    have hn60 := hV.1
    have hCm : CR R a m := hC.of (fun b j g1 g2 _ => I1 b j (by omega))
    refine E_s (p' := 3) (st' := aI ((i : Nat) : Int) :: _) rfl rfl ?_
    refine E_s (p' := 4) (st' := aA a :: _) rfl rfl ?_
    refine E_gA (b := a + 1) rfl rfl rfl (kR_0 hR) (hR_0_0 hR) rfl ?_
    refine E_gI (v := ((Cn R : Nat) : Int)) rfl rfl rfl (kR_1 hR) hCm.1 ?_
    refine E_icmp_ge (x := ((i : Nat) : Int)) (y := ((Cn R : Nat) : Int)) rfl (by decide) (fun h_1 => ?_) (fun h_1 => ?_)
    · refine E_go (p' := 103) (L' := [some (aA 8), some (aA a), some (aA 3), some (aI ((i : Nat) : Int)), x4, x5]) (st' := []) rfl rfl rfl ?_
      refine E_s (p' := 104) (st' := aI (-1) :: _) rfl rfl ?_
      refine E_ret rfl rfl ?_
      exact q _ _ I1
    · refine E_go (p' := 13) (L' := [some (aA 8), some (aA a), some (aA 3), some (aI ((i : Nat) : Int)), x4, x5]) (st' := []) rfl rfl rfl ?_
      refine E_s (p' := 14) (st' := aI ((i : Nat) : Int) :: _) rfl rfl ?_
      refine E_s (p' := 15) (st' := aI 1 :: _) rfl rfl ?_
      refine E_add (v := ((i + 1 : Nat) : Int)) rfl (by omega) (by omega) ?_
      refine E_s (p' := 18) (L' := [some (aA 8), some (aA a), some (aA 3), some (aI ((i : Nat) : Int)), some (aI ((i + 1 : Nat) : Int)), x5]) rfl rfl ?_
      refine yl_sp2 hR hC hV hd (i := i) (by omega) q (fun m3 j3 y5 I3 => ?_) (Cn R + 1) (i + 1) m _ (by omega) (by omega) I1
      refine E_inc (x := ((i : Nat) : Int)) (w := ((i + 1 : Nat) : Int)) (L' := [some (aA 8), some (aA a), some (aA 3), some (aI ((i + 1 : Nat) : Int)), some (aI ((j3 : Nat) : Int)), y5]) rfl rfl rfl (by omega) (by omega) rfl ?_
      refine E_s (p' := 2) rfl rfl ?_
      exact ih (i + 1) m3 _ _ (by omega) (by omega) I3
theorem c_seekPair (hR : isR a) (hC : CR R a m0) (hV : VR R) (hd : RdC R a m0) (q : ∀ (m1 : Mm) (v : Int), Fx 3 9 m0 m1 → Q (some (aI v)) (m1, tl len)) : E 103 0 [some (aA 8), some (aA a), some (aA 3), none, none, none] [] (m0, tl len) Q := by
  refine E_s (p' := 1) (st' := aI 0 :: _) rfl rfl ?_
  refine E_s (p' := 2) (L' := [some (aA 8), some (aA a), some (aA 3), some (aI 0), none, none]) rfl rfl ?_
  exact yl_sp1 hR hC hV hd q (Cn R + 1) 0 m0 _ _ (by omega) (by omega) Fx.rf
theorem yl_sk (hR : isR a) (hC : CR R a m0) (hV : VR R) (hd : RdC R a m0) {w : Int} (q : ∀ (m1 : Mm) (v : Int), Fx 3 9 m0 m1 → Q (some (aI v)) (m1, tl len)) : ∀ (d : Nat) (c : Nat) (m : Mm), (Cn R < c + d) → (c ≤ Cn R) → (Fx 3 9 m0 m) → E 97 28 [some (aA 8), some (aA a), some (aA 3), some (aJ w), none, some (aI ((c : Nat) : Int))] [] (m, tl len) Q := by
  intro d
  induction d with
  | zero => intro c m hd9 hc I1; omega
  | succ d ih =>
    intro c m hd9 hc I1
    have hab := isR_b hR
    have hn60 := hV.1
    have hCm : CR R a m := hC.of (fun b j g1 g2 _ => I1 b j (by omega))
    refine E_s (p' := 30) (st' := aI ((c : Nat) : Int) :: _) rfl rfl ?_
    refine E_s (p' := 31) (st' := aA a :: _) rfl rfl ?_
    refine E_gA (b := a + 1) rfl rfl rfl (kR_0 hR) (hR_0_0 hR) rfl ?_
    refine E_gI (v := ((Cn R : Nat) : Int)) rfl rfl rfl (kR_1 hR) hCm.1 ?_
    refine E_icmp_ge (x := ((c : Nat) : Int)) (y := ((Cn R : Nat) : Int)) rfl (by decide) (fun h_1 => ?_) (fun h_1 => ?_)
    · refine E_go (p' := 99) (L' := [some (aA 8), some (aA a), some (aA 3), some (aJ w), none, some (aI ((c : Nat) : Int))]) (st' := []) rfl rfl rfl ?_
      refine E_s (p' := 100) (st' := aA 8 :: _) rfl rfl ?_
      refine E_s (p' := 101) (st' := aA a :: _) rfl rfl ?_
      refine E_s (p' := 102) (st' := aA 3 :: _) rfl rfl ?_
      refine E_callV (k' := 103) (a := 8) (r := []) (L0 := [some (aA 8), some (aA a), some (aA 3), none, none, none]) rfl rfl rfl rfl rfl rfl rfl rfl rfl rfl ?_
      refine c_seekPair hR hCm hV (hd.of (fun b j g1 g2 => I1 b j (by omega))) (fun m3 v3 F3 => ?_)
      refine E_go (p' := 105) (L' := [some (aA 8), some (aA a), some (aA 3), some (aJ w), none, some (aI ((c : Nat) : Int))]) (st' := [aI (v3)]) rfl rfl rfl ?_
      refine E_ret rfl rfl ?_
      exact q _ _ (I1.tr F3)
    · refine E_go (p' := 40) (L' := [some (aA 8), some (aA a), some (aA 3), some (aJ w), none, some (aI ((c : Nat) : Int))]) (st' := []) rfl rfl rfl ?_
      refine E_s (p' := 41) (st' := aA 8 :: _) rfl rfl ?_
      refine E_gA (b := 9) rfl rfl rfl rfl hm_8_0 rfl ?_
      refine E_s (p' := 46) (st' := aI ((c : Nat) : Int) :: _) rfl rfl ?_
      refine E_s (p' := 47) (st' := aJ w :: _) rfl rfl ?_
      refine E_jst (e := c) (N := 60) rfl rfl (rfl) (by omega) ?_
      refine E_s (p' := 49) (st' := aJ w :: _) rfl rfl ?_
      refine E_s (p' := 51) (st' := aI ((c : Nat) : Int) :: _) rfl rfl ?_
      refine E_callL (p' := 54) (L0 := [some (aJ w), none, some (aI ((c : Nat) : Int))]) rfl rfl rfl ?_
      refine c_isIn ?_ ?_
      · refine E_go (p' := 54) (L' := [some (aA 8), some (aA a), some (aA 3), some (aJ w), none, some (aI ((c : Nat) : Int))]) (st' := [aI 1]) rfl rfl rfl ?_
        refine E_s (p' := 60) rfl rfl ?_
        refine E_s (p' := 61) (st' := aA 3 :: _) rfl rfl ?_
        refine E_s (p' := 62) (st' := aA a :: _) rfl rfl ?_
        refine E_s (p' := 64) (st' := aI ((c : Nat) : Int) :: _) rfl rfl ?_
        refine E_s (p' := 65) (st' := aI (-1) :: _) rfl rfl ?_
        refine E_callV (k' := 86) (a := 3) (r := []) (L0 := [some (aA 3), some (aA a), some (aI ((c : Nat) : Int)), some (aI (-1)), none]) rfl rfl rfl rfl rfl rfl rfl rfl rfl rfl ?_
        refine c_run2 hR (hC.of (fun b j g1 g2 _ => (up2_ne (by omega)).trans (I1 b j (by omega)))) hV (hd.of (fun b j g1 g2 => (up2_ne (by omega)).trans (I1 b j (by omega)))) (fun m1 v1 dn hdn h34 F1 => ?_)
        refine E_go (p' := 68) (L' := [some (aA 8), some (aA a), some (aA 3), some (aJ w), none, some (aI ((c : Nat) : Int))]) (st' := [aI (v1)]) rfl rfl rfl ?_
        refine E_s (p' := 69) (st' := aI (-1) :: _) rfl rfl ?_
        refine E_icmp_eq (x := (v1)) (y := (-1)) rfl (by decide) (fun h_2 => ?_) (fun h_2 => ?_)
        · refine E_go (p' := 81) (L' := [some (aA 8), some (aA a), some (aA 3), some (aJ w), none, some (aI ((c : Nat) : Int))]) (st' := []) rfl rfl rfl ?_
          refine E_s (p' := 82) (st' := aA 8 :: _) rfl rfl ?_
          refine E_gA (b := 9) rfl rfl rfl rfl hm_8_0 rfl ?_
          refine E_s (p' := 87) (st' := aI ((c : Nat) : Int) :: _) rfl rfl ?_
          refine E_s (p' := 88) (st' := aA a :: _) rfl rfl ?_
          refine E_s (p' := 89) (st' := aA 3 :: _) rfl rfl ?_
          refine E_callL (p' := 92) (L0 := [some (aA a), some (aA 3), none, none, none, none, none]) rfl rfl rfl ?_
          refine c_reach hR (hC.of (fun b j g1 g2 _ => (F1 b j (by omega)).trans ((up2_ne (by omega)).trans (I1 b j (by omega))))) hV hdn h34 (fun w2 => ?_)
          refine E_go (p' := 92) (L' := [some (aA 8), some (aA a), some (aA 3), some (aJ w), none, some (aI ((c : Nat) : Int))]) (st' := [aJ w2, aI ((c : Nat) : Int), aA 9]) rfl rfl rfl ?_
          refine E_jst (e := c) (N := 60) rfl rfl (rfl) (by omega) ?_
          refine E_inc (x := ((c : Nat) : Int)) (w := ((c + 1 : Nat) : Int)) (L' := [some (aA 8), some (aA a), some (aA 3), some (aJ w), none, some (aI ((c + 1 : Nat) : Int))]) rfl rfl rfl (by omega) (by omega) rfl ?_
          refine E_s (p' := 28) rfl rfl ?_
          exact ih (c + 1) _ (by omega) (by omega) (((I1.up (by omega) (by omega)).tr (F1.wide (by omega) (by omega))).up (by omega) (by omega))
        · refine E_go (p' := 72) (L' := [some (aA 8), some (aA a), some (aA 3), some (aJ w), none, some (aI ((c : Nat) : Int))]) (st' := []) rfl rfl rfl ?_
          refine E_s (p' := 73) (st' := aA 8 :: _) rfl rfl ?_
          refine E_s (p' := 74) (st' := aI 1 :: _) rfl rfl ?_
          refine E_s (p' := 76) (st' := aI ((c : Nat) : Int) :: _) rfl rfl ?_
          refine E_s (p' := 77) (st' := aI (-1) :: _) rfl rfl ?_
          refine E_callV (k' := 98) (a := 8) (r := []) (L0 := [some (aA 8), some (aI 1), some (aI ((c : Nat) : Int)), some (aI (-1))]) rfl rfl rfl rfl rfl rfl rfl rfl rfl rfl ?_
          refine c_keep (fun m2 F2 => ?_)
          refine E_go (p' := 80) (L' := [some (aA 8), some (aA a), some (aA 3), some (aJ w), none, some (aI ((c : Nat) : Int))]) (st' := [aI 1]) rfl rfl rfl ?_
          refine E_ret rfl rfl ?_
          exact q _ _ (((I1.up (by omega) (by omega)).tr (F1.wide (by omega) (by omega))).tr (F2.wide (by omega) (by omega)))
      · refine E_go (p' := 54) (L' := [some (aA 8), some (aA a), some (aA 3), some (aJ w), none, some (aI ((c : Nat) : Int))]) (st' := [aI 0]) rfl rfl rfl ?_
        refine E_s (p' := 57) rfl rfl ?_
        refine E_s (p' := 93) rfl rfl ?_
        refine E_inc (x := ((c : Nat) : Int)) (w := ((c + 1 : Nat) : Int)) (L' := [some (aA 8), some (aA a), some (aA 3), some (aJ w), none, some (aI ((c + 1 : Nat) : Int))]) rfl rfl rfl (by omega) (by omega) rfl ?_
        refine E_s (p' := 28) rfl rfl ?_
        exact ih (c + 1) _ (by omega) (by omega) (I1.up (by omega) (by omega))
theorem c_seek (hR : isR a) (hC : CR R a m0) (hV : VR R) (hd : RdC R a m0) (q : ∀ (m1 : Mm) (v : Int), Fx 3 9 m0 m1 → Q (some (aI v)) (m1, tl len)) : E 97 0 [some (aA 8), some (aA a), some (aA 3), none, none, none] [] (m0, tl len) Q := by
  have hab := isR_b hR
  refine E_s (p' := 1) (st' := aA 3 :: _) rfl rfl ?_
  refine E_s (p' := 2) (st' := aA a :: _) rfl rfl ?_
  refine E_s (p' := 3) (st' := aI (-1) :: _) rfl rfl ?_
  refine E_s (p' := 4) (st' := aI (-1) :: _) rfl rfl ?_
  refine E_callV (k' := 86) (a := 3) (r := []) (L0 := [some (aA 3), some (aA a), some (aI (-1)), some (aI (-1)), none]) rfl rfl rfl rfl rfl rfl rfl rfl rfl rfl ?_
  refine c_run2 hR hC hV hd (fun m1 v1 dn hdn h34 F1 => ?_)
  refine E_go (p' := 7) (L' := [some (aA 8), some (aA a), some (aA 3), none, none, none]) (st' := [aI (v1)]) rfl rfl rfl ?_
  refine E_s (p' := 8) (st' := aI (-1) :: _) rfl rfl ?_
  refine E_icmp_eq (x := (v1)) (y := (-1)) rfl (by decide) (fun h_1 => ?_) (fun h_1 => ?_)
  · refine E_go (p' := 19) (L' := [some (aA 8), some (aA a), some (aA 3), none, none, none]) (st' := []) rfl rfl rfl ?_
    refine E_s (p' := 20) (st' := aA a :: _) rfl rfl ?_
    refine E_s (p' := 21) (st' := aA 3 :: _) rfl rfl ?_
    refine E_callL (p' := 24) (L0 := [some (aA a), some (aA 3), none, none, none, none, none]) rfl rfl rfl ?_
    refine c_reach hR (hC.of (fun b j g1 g2 _ => F1 b j (by omega))) hV hdn h34 (fun w2 => ?_)
    refine E_go (p' := 24) (L' := [some (aA 8), some (aA a), some (aA 3), none, none, none]) (st' := [aJ w2]) rfl rfl rfl ?_
    refine E_s (p' := 25) (L' := [some (aA 8), some (aA a), some (aA 3), some (aJ w2), none, none]) rfl rfl ?_
    refine E_s (p' := 26) (st' := aI 0 :: _) rfl rfl ?_
    refine E_s (p' := 28) (L' := [some (aA 8), some (aA a), some (aA 3), some (aJ w2), none, some (aI 0)]) rfl rfl ?_
    exact yl_sk hR hC hV hd q (Cn R + 1) 0 m1 (by omega) (by omega) (F1.wide (by omega) (by omega))
  · refine E_go (p' := 11) (L' := [some (aA 8), some (aA a), some (aA 3), none, none, none]) (st' := []) rfl rfl rfl ?_
    refine E_s (p' := 12) (st' := aA 8 :: _) rfl rfl ?_
    refine E_s (p' := 13) (st' := aI 0 :: _) rfl rfl ?_
    refine E_s (p' := 14) (st' := aI (-1) :: _) rfl rfl ?_
    refine E_s (p' := 15) (st' := aI (-1) :: _) rfl rfl ?_
    refine E_callV (k' := 98) (a := 8) (r := []) (L0 := [some (aA 8), some (aI 0), some (aI (-1)), some (aI (-1))]) rfl rfl rfl rfl rfl rfl rfl rfl rfl rfl ?_
    refine c_keep (fun m2 F2 => ?_)
    refine E_go (p' := 18) (L' := [some (aA 8), some (aA a), some (aA 3), none, none, none]) (st' := [aI 0]) rfl rfl rfl ?_
    refine E_ret rfl rfl ?_
    exact q _ _ ((F1.wide (by omega) (by omega)).tr (F2.wide (by omega) (by omega)))
theorem C_cure (hS : CS S m) (q : ∀ (m1 : Mm) (v : Int), CS S m1 → (∀ b j, b = 0 ∨ (10 ≤ b ∧ b ≤ 14) ∨ 124 ≤ b → m1 b j = m b j) → Q (some (aI v)) (m1, tl len)) : E 96 0 [some (aA 1), some (aI (r)), none] [] (m, tl len) Q := by
  refine E_s (p' := 1) (st' := aA 1 :: _) rfl rfl ?_
  refine E_s (p' := 2) (st' := aI (r) :: _) rfl rfl ?_
  refine E_callV (k' := 34) (a := 1) (r := []) (L0 := [some (aA 1), some (aI (r)), none]) rfl rfl rfl rfl rfl rfl rfl rfl rfl rfl ?_
  refine c_readOf hS (fun i a m1 hi hr ha hR hS1 hCS hd hMo => ?_) (fun hr => ?_)
  · refine E_go (p' := 5) (L' := [some (aA 1), some (aI (r)), none]) (st' := [aA a]) rfl rfl rfl ?_
    obtain ⟨hV, hC, -⟩ := hCS
    have hn60 := hV.1
    have hab := isR_b hR
    have hs40 := hV.2.2.2.2.1
    refine E_s (p' := 6) (L' := [some (aA 1), some (aI (r)), some (aA a)]) rfl rfl ?_
    refine E_s (p' := 7) (st' := aA a :: _) rfl rfl ?_
    refine E_s (p' := 15) rfl rfl ?_
    refine E_s (p' := 16) (st' := aA 1 :: _) rfl rfl ?_
    refine E_gA (b := 8) rfl rfl rfl rfl rfl rfl ?_
    refine E_s (p' := 20) (st' := aA a :: _) rfl rfl ?_
    refine E_s (p' := 21) (st' := aA 1 :: _) rfl rfl ?_
    refine E_gA (b := 3) rfl rfl rfl rfl rfl rfl ?_
    refine E_callV (k' := 97) (a := 8) (r := []) (L0 := [some (aA 8), some (aA a), some (aA 3), none, none, none]) rfl rfl rfl rfl rfl rfl rfl rfl rfl rfl ?_
    refine c_seek hR hC hV hd (fun m2 v2 F2 => ?_)
    refine E_go (p' := 27) (L' := [some (aA 1), some (aI (r)), some (aA a)]) (st' := [aI (v2)]) rfl rfl rfl ?_
    refine E_ret rfl rfl ?_
    exact q _ _ (fun k hk => (hS1 k hk).of (fun b j g1 g2 => F2 b j (by unfold tgA at g1; omega))) (fun b j hb => (F2 b j (by omega)).trans (hMo b j (by omega)))
  · refine E_go (p' := 5) (L' := [some (aA 1), some (aI (r)), none]) (st' := [aN]) rfl rfl rfl ?_
    refine E_s (p' := 6) (L' := [some (aA 1), some (aI (r)), some (aN)]) rfl rfl ?_
    refine E_s (p' := 7) (st' := aN :: _) rfl rfl ?_
    refine E_s (p' := 10) rfl rfl ?_
    refine E_s (p' := 12) (st' := aI (-2) :: _) rfl rfl ?_
    refine E_s (p' := 27) rfl rfl ?_
    refine E_ret rfl rfl ?_
    exact q _ _ hS (fun b j _ => rfl)
end
