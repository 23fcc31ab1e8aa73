section
variable {len : Nat} {m m0 : Mm} {Q : Option AV → Sx → Prop} {R : RD} {a : Nat} {x y : Int}
theorem yl_rn2 (hR : isR a) (hC : CR R a m0) (hV : VR R) (hd : RdC R a m0) (q : ∀ (m1 : Mm) (v : Int) (dn : Nat), dn ≤ 200 → m1 3 4 = (dn : Int) → Fx 3 7 m0 m1 → Q (some (aI v)) (m1, tl len)) : ∀ (d : Nat) (e i : Nat) (lo hi : Nat → Int) (m : Mm), (e < d) → (i + e = 200) → (bnd (Cn R) lo hi) → (Fx 3 7 m0 m) → (∀ c, c < Cn R → m 4 c = lo c ∧ m 5 c = hi c) → (0 < i → m 3 4 = (i : Int)) → E 86 10 [some (aA 3), some (aA a), some (aI (x)), some (aI (y)), some (aI ((i + 1 : Nat) : Int))] [] (m, tl len) Q := by
  intro d
  induction d with
  | zero => intro e i lo hi m hd9 hie hb I1 I2 I3; omega
  | succ d ih =>
    intro e i lo hi m hd9 hie hb I1 I2 I3
    have hab := isR_b hR
    have hn60 := hV.1
    refine E_s (p' := 12) (st' := aI ((i + 1 : Nat) : Int) :: _) rfl rfl ?_
    refine E_s (p' := 15) (st' := aI 200 :: _) rfl rfl ?_
    refine E_icmp_gt (x := ((i + 1 : Nat) : Int)) (y := 200) rfl (by decide) (fun h_1 => ?_) (fun h_1 => ?_)
    · refine E_go (p' := 68) (L' := [some (aA 3), some (aA a), some (aI (x)), some (aI (y)), some (aI ((i + 1 : Nat) : Int))]) (st' := []) rfl rfl rfl ?_
      refine E_s (p' := 70) (st' := aI (-4) :: _) rfl rfl ?_
      refine E_ret rfl rfl ?_
      exact q m _ i (by omega) (I3 (by omega)) I1
    · refine E_go (p' := 18) (L' := [some (aA 3), some (aA a), some (aI (x)), some (aI (y)), some (aI ((i + 1 : Nat) : Int))]) (st' := []) rfl rfl rfl ?_
      refine E_s (p' := 19) (st' := aA 3 :: _) rfl rfl ?_
      refine E_s (p' := 21) (st' := aI ((i + 1 : Nat) : Int) :: _) rfl rfl ?_
      refine E_pI rfl rfl rfl rfl (Or.inl rfl) ?_
      refine E_s (p' := 25) (st' := aA 3 :: _) rfl rfl ?_
      refine E_s (p' := 26) (st' := aA a :: _) rfl rfl ?_
      refine E_callV (k' := 90) (a := 3) (r := []) (L0 := [some (aA 3), some (aA a), none, none]) rfl rfl rfl rfl rfl rfl rfl rfl rfl rfl ?_
      refine c_doRound hR (hC.of (fun b j g1 g2 _ => (up2_ne (by omega)).trans (I1 b j (by omega)))) hV hb (fun c hc => ⟨(up2_ne (by omega)).trans (I2 c hc).1, (up2_ne (by omega)).trans (I2 c hc).2⟩) (fun m1 F1 V1 => ?_)
      refine E_go (p' := 29) (L' := [some (aA 3), some (aA a), some (aI (x)), some (aI (y)), some (aI ((i + 1 : Nat) : Int))]) (st' := [aI (bi (rdC R lo hi (Cn R)))]) rfl rfl rfl ?_
      refine E_b_ne0 (b := (rdC R lo hi (Cn R))) rfl (by decide) (fun h_2 => ?_) (fun h_2 => ?_)
      · refine E_go (p' := 37) (L' := [some (aA 3), some (aA a), some (aI (x)), some (aI (y)), some (aI ((i + 1 : Nat) : Int))]) (st' := []) rfl rfl rfl ?_
        refine E_s (p' := 38) (st' := aA 3 :: _) rfl rfl ?_
        refine E_s (p' := 39) (st' := aA 3 :: _) rfl rfl ?_
        refine E_s (p' := 40) (st' := aA a :: _) rfl rfl ?_
        refine E_gA (b := a + 1) rfl rfl rfl (kR_0 hR) (hR_0_0 hR) rfl ?_
        refine E_gI (v := ((Cn R : Nat) : Int)) rfl rfl rfl (kR_1 hR) (hC.of (fun b j g1 g2 _ => (F1 b j (by omega)).trans ((up2_ne (by omega)).trans (I1 b j (by omega))))).1 ?_
        refine E_callV (k' := 93) (a := 3) (r := [aA 3]) (L0 := [some (aA 3), some (aI ((Cn R : Nat) : Int)), none]) rfl rfl rfl rfl rfl rfl rfl rfl rfl rfl ?_
        refine c_firstNone hn60 V1 (fun cb hc1 hc2 hc3 => ?_) (fun hno => ?_)
        · refine E_go (p' := 49) (L' := [some (aA 3), some (aA a), some (aI (x)), some (aI (y)), some (aI ((i + 1 : Nat) : Int))]) (st' := [aI ((cb : Nat) : Int), aA 3]) rfl rfl rfl ?_
          refine E_pI rfl rfl rfl rfl (Or.inl rfl) ?_
          refine E_s (p' := 53) (st' := aA 3 :: _) rfl rfl ?_
          refine E_gI (v := ((cb : Nat) : Int)) rfl rfl rfl rfl up2_eq ?_
          refine E_s (p' := 57) (st' := aI (-1) :: _) rfl rfl ?_
          refine E_icmp_eq (x := ((cb : Nat) : Int)) (y := (-1)) rfl (by decide) (fun q => absurd q (by omega)) (fun h_3 => ?_)
          refine E_go (p' := 60) (L' := [some (aA 3), some (aA a), some (aI (x)), some (aI (y)), some (aI ((i + 1 : Nat) : Int))]) (st' := []) rfl rfl rfl ?_
          refine E_s (p' := 61) (st' := aI (-1) :: _) rfl rfl ?_
          refine E_ret rfl rfl ?_
          exact q _ _ (i + 1) (by omega) ((up2_sl (by decide)).trans ((F1 _ _ (by omega)).trans up2_eq)) ((I1.up (by omega) (by omega)).tr (F1.wide (by omega) (by omega)) |>.up (by omega) (by omega))
        · refine E_go (p' := 49) (L' := [some (aA 3), some (aA a), some (aI (x)), some (aI (y)), some (aI ((i + 1 : Nat) : Int))]) (st' := [aI (-1), aA 3]) rfl rfl rfl ?_
          refine E_pI rfl rfl rfl rfl (Or.inl rfl) ?_
          refine E_s (p' := 53) (st' := aA 3 :: _) rfl rfl ?_
          refine E_gI (v := (-1)) rfl rfl rfl rfl up2_eq ?_
          refine E_s (p' := 57) (st' := aI (-1) :: _) rfl rfl ?_
          refine E_s (p' := 62) rfl rfl ?_
          refine E_inc (x := ((i + 1 : Nat) : Int)) (w := ((i + 2 : Nat) : Int)) (L' := [some (aA 3), some (aA a), some (aI (x)), some (aI (y)), some (aI ((i + 2 : Nat) : Int))]) rfl rfl rfl (by omega) (by omega) rfl ?_
          refine E_s (p' := 10) rfl rfl ?_
          obtain ⟨e1, ee⟩ : ∃ z, e = z + 1 := ⟨e - 1, by omega⟩
          refine ih e1 (i + 1) (rdS R lo hi (Sn R)).1 (rdS R lo hi (Sn R)).2 _ (by omega) (by omega) (fun c hc => ?_) ((I1.up (by omega) (by omega)).tr (F1.wide (by omega) (by omega)) |>.up (by omega) (by omega)) (fun c hc => ⟨(up2_ne (by omega)).trans (V1 c hc).1, (up2_ne (by omega)).trans (V1 c hc).2⟩) (fun _ => (up2_sl (by decide)).trans ((F1 _ _ (by omega)).trans up2_eq))
          have h1 := rdS_m (R := R) (lo := lo) (hi := hi) (Sn R) c
          have h2 := hb c hc
          have h3 := hno c hc
          omega
      · refine E_go (p' := 32) (L' := [some (aA 3), some (aA a), some (aI (x)), some (aI (y)), some (aI ((i + 1 : Nat) : Int))]) (st' := []) rfl rfl rfl ?_
        refine E_s (p' := 34) (st' := aI ((i + 1 : Nat) : Int) :: _) rfl rfl ?_
        refine E_s (p' := 35) (st' := aI 1 :: _) rfl rfl ?_
        refine E_sub (v := ((i : Nat) : Int)) rfl (by omega) (by omega) ?_
        refine E_ret rfl rfl ?_
        exact q m1 _ (i + 1) (by omega) ((F1 _ _ (by omega)).trans up2_eq) ((I1.up (by omega) (by omega)).tr (F1.wide (by omega) (by omega)))
theorem c_run2 (hR : isR a) (hC : CR R a m0) (hV : VR R) (hd : RdC R a m0) (q : ∀ (m1 : Mm) (v : Int) (dn : Nat), dn ≤ 200 → m1 3 4 = (dn : Int) → Fx 3 7 m0 m1 → Q (some (aI v)) (m1, tl len)) : E 86 0 [some (aA 3), some (aA a), some (aI (x)), some (aI (y)), none] [] (m0, tl len) Q := by
  have hab := isR_b hR
  refine E_s (p' := 1) (st' := aA 3 :: _) rfl rfl ?_
  refine E_s (p' := 2) (st' := aA a :: _) rfl rfl ?_
  refine E_s (p' := 3) (st' := aI (x) :: _) rfl rfl ?_
  refine E_s (p' := 4) (st' := aI (y) :: _) rfl rfl ?_
  refine E_callV (k' := 87) (a := 3) (r := []) (L0 := [some (aA 3), some (aA a), some (aI (x)), some (aI (y)), none, none, none]) rfl rfl rfl rfl rfl rfl rfl rfl rfl rfl ?_
  refine c_takeOwn hR hC hV hd (fun m1 F1 V1 => ?_)
  refine E_go (p' := 7) (L' := [some (aA 3), some (aA a), some (aI (x)), some (aI (y)), none]) (st' := []) rfl rfl rfl ?_
  refine E_s (p' := 8) (st' := aI 1 :: _) rfl rfl ?_
  refine E_s (p' := 10) (L' := [some (aA 3), some (aA a), some (aI (x)), some (aI (y)), some (aI 1)]) rfl rfl ?_
  exact yl_rn2 hR (hC.of (fun b j g1 g2 _ => F1 b j (by omega))) hV (hd.of (fun b j g1 g2 => F1 b j (by omega))) (fun m2 v dn h1 h2 F2 => q m2 v dn h1 h2 ((F1.wide (by omega) (by omega)).tr F2)) 201 200 0 (sL R x y) (sH R x y) m1 (by omega) (by omega) (own_b hV x y) Fx.rf V1 (fun h9 => absurd h9 (by omega))
theorem yl_ab (hR : isR a) (hC : CR R a m) (hV : VR R) {s : Nat} (hs : s < Sn R) (q : ∀ w : Int, Q (some (aJ w)) (m, tl len)) : ∀ (d : Nat) (k : Nat) (w : Int), (Sp R s < k + d) → (k ≤ Sp R s) → E 101 12 [some (aA (a + 9)), some (aI ((s : Nat) : Int)), some (aJ w), none, some (aI ((k : Nat) : Int))] [] (m, tl len) Q := by
  intro d
  induction d with
  | zero => intro k w hd hk; omega
  | succ d ih =>
    intro k w hd hk
    have hab := isR_b hR
    have hs40 := hV.2.2.2.2.1
    have hp12 := (hV.2.2.2.2.2.1 s hs).2
    refine E_s (p' := 14) (st' := aI ((k : Nat) : Int) :: _) rfl rfl ?_
    refine E_s (p' := 15) (st' := aA (a + 9) :: _) rfl rfl ?_
    refine E_gA (b := a + 11) rfl rfl rfl (kR_9 hR) (hR_9_1 hR) rfl ?_
    refine E_s (p' := 19) (st' := aI ((s : Nat) : Int) :: _) rfl rfl ?_
    refine E_ald (e := s) (N := 40) (v := ((Sp R s : Nat) : Int)) rfl (kR_11 hR) (rfl) (by omega) (CR_11 hC (by omega)) ?_
    refine E_icmp_ge (x := ((k : Nat) : Int)) (y := ((Sp R s : Nat) : Int)) rfl (by decide) (fun h_1 => ?_) (fun h_1 => ?_)
    · refine E_go (p' := 41) (L' := [some (aA (a + 9)), some (aI ((s : Nat) : Int)), some (aJ w), none, some (aI ((k : Nat) : Int))]) (st' := []) rfl rfl rfl ?_
      refine E_s (p' := 42) (st' := aJ w :: _) rfl rfl ?_
      refine E_ret rfl rfl ?_
      exact q _
    · refine E_go (p' := 23) (L' := [some (aA (a + 9)), some (aI ((s : Nat) : Int)), some (aJ w), none, some (aI ((k : Nat) : Int))]) (st' := []) rfl rfl rfl ?_
      refine E_s (p' := 24) (st' := aJ w :: _) rfl rfl ?_
      refine E_s (p' := 25) rfl rfl ?_
      refine E_s (p' := 26) (st' := aA (a + 9) :: _) rfl rfl ?_
      refine E_s (p' := 27) (st' := aI ((s : Nat) : Int) :: _) rfl rfl ?_
      refine E_s (p' := 29) (st' := aI ((k : Nat) : Int) :: _) rfl rfl ?_
      refine E_callV (k' := 79) (a := a + 9) (r := [aJ 1, aJ w]) (L0 := [some (aA (a + 9)), some (aI ((s : Nat) : Int)), some (aI ((k : Nat) : Int))]) rfl rfl rfl rfl rfl (kR_9 hR) rfl rfl rfl rfl ?_
      refine c_partOf hR hC hV (s := s) (p := k) (by omega) (by omega) ?_
      refine E_go (p' := 32) (L' := [some (aA (a + 9)), some (aI ((s : Nat) : Int)), some (aJ w), none, some (aI ((k : Nat) : Int))]) (st' := [aI ((Sq R s k : Nat) : Int), aJ 1, aJ w]) rfl rfl rfl ?_
      refine E_s (p' := 33) rfl rfl ?_
      refine E_s (p' := 34) rfl rfl ?_
      refine E_s (p' := 35) (L' := [some (aA (a + 9)), some (aI ((s : Nat) : Int)), some (aJ (b64 (fun a b => a ||| b) w (s64 (fun a b => a <<< b) 1 ((Sq R s k : Nat) : Int)))), none, some (aI ((k : Nat) : Int))]) rfl rfl ?_
      refine E_inc (x := ((k : Nat) : Int)) (w := ((k + 1 : Nat) : Int)) (L' := [some (aA (a + 9)), some (aI ((s : Nat) : Int)), some (aJ (b64 (fun a b => a ||| b) w (s64 (fun a b => a <<< b) 1 ((Sq R s k : Nat) : Int)))), none, some (aI ((k + 1 : Nat) : Int))]) rfl rfl rfl (by omega) (by omega) rfl ?_
      refine E_s (p' := 12) rfl rfl ?_
      exact ih (k + 1) _ (by omega) (by omega)
theorem c_asBits (hR : isR a) (hC : CR R a m) (hV : VR R) {s : Nat} (hs : s < Sn R) (q : ∀ w : Int, Q (some (aJ w)) (m, tl len)) : E 101 0 [some (aA (a + 9)), some (aI ((s : Nat) : Int)), none, none, none] [] (m, tl len) Q := by
  have hab := isR_b hR
  have hs40 := hV.2.2.2.2.1
  have hp12 := (hV.2.2.2.2.2.1 s hs).2
  refine E_s (p' := 1) rfl rfl ?_
  refine E_s (p' := 2) (st' := aA (a + 9) :: _) rfl rfl ?_
  refine E_gA (b := a + 10) rfl rfl rfl (kR_9 hR) (hR_9_0 hR) rfl ?_
  refine E_s (p' := 6) (st' := aI ((s : Nat) : Int) :: _) rfl rfl ?_
  refine E_ald (e := s) (N := 40) (v := ((Sw R s : Nat) : Int)) rfl (kR_10 hR) (rfl) (by omega) (CR_10 hC (by omega)) ?_
  refine E_s (p' := 8) rfl rfl ?_
  refine E_s (p' := 9) (L' := [some (aA (a + 9)), some (aI ((s : Nat) : Int)), some (aJ (s64 (fun a b => a <<< b) 1 ((Sw R s : Nat) : Int))), none, none]) rfl rfl ?_
  refine E_s (p' := 10) (st' := aI 0 :: _) rfl rfl ?_
  refine E_s (p' := 12) (L' := [some (aA (a + 9)), some (aI ((s : Nat) : Int)), some (aJ (s64 (fun a b => a <<< b) 1 ((Sw R s : Nat) : Int))), none, some (aI 0)]) rfl rfl ?_
  exact yl_ab hR hC hV hs q (Sp R s + 1) 0 _ (by omega) (by omega)
theorem yl_wd (hR : isR a) (hC : CR R a m) (hV : VR R) {u : Int} (q : ∀ w : Int, Q (some (aJ w)) (m, tl len)) : ∀ (d : Nat) (s : Nat) (w : Int) (x6 x7 : Option AV), (Sn R < s + d) → (s ≤ Sn R) → E 100 5 [some (aA (a + 9)), some (aJ u), none, some (aJ w), none, some (aI ((s : Nat) : Int)), x6, x7] [] (m, tl len) Q := by
  intro d
  induction d with
  | zero => intro s w x6 x7 hd hs; omega
  | succ d ih =>
    intro s w x6 x7 hd hs
    have hab := isR_b hR
    have hs40 := hV.2.2.2.2.1
    refine E_s (p' := 7) (st' := aI ((s : Nat) : Int) :: _) rfl rfl ?_
    refine E_s (p' := 8) (st' := aA (a + 9) :: _) rfl rfl ?_
    refine E_gI (v := ((Sn R : Nat) : Int)) rfl rfl rfl (kR_9 hR) (CRS hC) ?_
    refine E_icmp_ge (x := ((s : Nat) : Int)) (y := ((Sn R : Nat) : Int)) rfl (by decide) (fun h_1 => ?_) (fun h_1 => ?_)
    · refine E_go (p' := 51) (L' := [some (aA (a + 9)), some (aJ u), none, some (aJ w), none, some (aI ((s : Nat) : Int)), x6, x7]) (st' := []) rfl rfl rfl ?_
      refine E_s (p' := 52) (st' := aJ w :: _) rfl rfl ?_
      refine E_ret rfl rfl ?_
      exact q _
    · refine E_go (p' := 14) (L' := [some (aA (a + 9)), some (aJ u), none, some (aJ w), none, some (aI ((s : Nat) : Int)), x6, x7]) (st' := []) rfl rfl rfl ?_
      refine E_s (p' := 15) (st' := aA (a + 9) :: _) rfl rfl ?_
      refine E_s (p' := 17) (st' := aI ((s : Nat) : Int) :: _) rfl rfl ?_
      refine E_callV (k' := 101) (a := a + 9) (r := []) (L0 := [some (aA (a + 9)), some (aI ((s : Nat) : Int)), none, none, none]) rfl rfl rfl rfl rfl (kR_9 hR) rfl rfl rfl rfl ?_
      refine c_asBits hR hC hV (s := s) (by omega) (fun bw => ?_)
      refine E_go (p' := 20) (L' := [some (aA (a + 9)), some (aJ u), none, some (aJ w), none, some (aI ((s : Nat) : Int)), x6, x7]) (st' := [aJ bw]) rfl rfl rfl ?_
      refine E_s (p' := 22) (L' := [some (aA (a + 9)), some (aJ u), none, some (aJ w), none, some (aI ((s : Nat) : Int)), some (aJ bw), none]) rfl rfl ?_
      refine E_s (p' := 23) (st' := aA (a + 9) :: _) rfl rfl ?_
      refine E_s (p' := 25) (st' := aI ((s : Nat) : Int) :: _) rfl rfl ?_
      refine E_callV (k' := 84) (a := a + 9) (r := []) (L0 := [some (aA (a + 9)), some (aI ((s : Nat) : Int))]) rfl rfl rfl rfl rfl (kR_9 hR) rfl rfl rfl rfl ?_
      refine c_counts hR hC hV (s := s) (by omega) (fun h2 => ?_) (fun h2 => ?_)
      · refine E_go (p' := 28) (L' := [some (aA (a + 9)), some (aJ u), none, some (aJ w), none, some (aI ((s : Nat) : Int)), some (aJ bw), none]) (st' := [aI 1]) rfl rfl rfl ?_
        refine E_s (p' := 31) rfl rfl ?_
        refine E_s (p' := 33) (st' := aJ bw :: _) rfl rfl ?_
        refine E_s (p' := 34) (st' := aJ u :: _) rfl rfl ?_
        refine E_s (p' := 35) rfl rfl ?_
        refine E_s (p' := 36) rfl rfl ?_
        refine E_s (p' := 37) rfl rfl ?_
        refine E_go (p' := 37) (L' := [some (aA (a + 9)), some (aJ u), none, some (aJ w), none, some (aI ((s : Nat) : Int)), some (aJ bw), none]) (st' := [aI (((if 0 < (b64 (fun a b => a &&& b) bw u) then 1 else if (b64 (fun a b => a &&& b) bw u) = 0 then 0 else -1)))]) rfl rfl rfl ?_
        refine E_if_eq (x := (((if 0 < (b64 (fun a b => a &&& b) bw u) then 1 else if (b64 (fun a b => a &&& b) bw u) = 0 then 0 else -1)))) rfl (by decide) (fun h_2 => ?_) (fun h_2 => ?_)
        · refine E_go (p' := 45) (L' := [some (aA (a + 9)), some (aJ u), none, some (aJ w), none, some (aI ((s : Nat) : Int)), some (aJ bw), none]) (st' := []) rfl rfl rfl ?_
          refine E_inc (x := ((s : Nat) : Int)) (w := ((s + 1 : Nat) : Int)) (L' := [some (aA (a + 9)), some (aJ u), none, some (aJ w), none, some (aI ((s + 1 : Nat) : Int)), some (aJ bw), none]) rfl rfl rfl (by omega) (by omega) rfl ?_
          refine E_s (p' := 5) rfl rfl ?_
          exact ih (s + 1) _ _ _ (by omega) (by omega)
        · refine E_go (p' := 40) (L' := [some (aA (a + 9)), some (aJ u), none, some (aJ w), none, some (aI ((s : Nat) : Int)), some (aJ bw), none]) (st' := []) rfl rfl rfl ?_
          refine E_s (p' := 41) (st' := aJ w :: _) rfl rfl ?_
          refine E_s (p' := 43) (st' := aJ bw :: _) rfl rfl ?_
          refine E_s (p' := 44) rfl rfl ?_
          refine E_s (p' := 45) (L' := [some (aA (a + 9)), some (aJ u), none, some (aJ (b64 (fun a b => a ||| b) w bw)), none, some (aI ((s : Nat) : Int)), some (aJ bw), none]) rfl rfl ?_
          refine E_inc (x := ((s : Nat) : Int)) (w := ((s + 1 : Nat) : Int)) (L' := [some (aA (a + 9)), some (aJ u), none, some (aJ (b64 (fun a b => a ||| b) w bw)), none, some (aI ((s + 1 : Nat) : Int)), some (aJ bw), none]) rfl rfl rfl (by omega) (by omega) rfl ?_
          refine E_s (p' := 5) rfl rfl ?_
          exact ih (s + 1) _ _ _ (by omega) (by omega)
      · refine E_go (p' := 28) (L' := [some (aA (a + 9)), some (aJ u), none, some (aJ w), none, some (aI ((s : Nat) : Int)), some (aJ bw), none]) (st' := [aI 0]) rfl rfl rfl ?_
        refine E_s (p' := 45) rfl rfl ?_
        refine E_inc (x := ((s : Nat) : Int)) (w := ((s + 1 : Nat) : Int)) (L' := [some (aA (a + 9)), some (aJ u), none, some (aJ w), none, some (aI ((s + 1 : Nat) : Int)), some (aJ bw), none]) rfl rfl rfl (by omega) (by omega) rfl ?_
        refine E_s (p' := 5) rfl rfl ?_
        exact ih (s + 1) _ _ _ (by omega) (by omega)
theorem c_widen (hR : isR a) (hC : CR R a m) (hV : VR R) {u : Int} (q : ∀ w : Int, Q (some (aJ w)) (m, tl len)) : E 100 0 [some (aA (a + 9)), some (aJ u), none, none, none, none, none, none] [] (m, tl len) Q := by
  refine E_s (p' := 1) (st' := aJ u :: _) rfl rfl ?_
  refine E_s (p' := 2) (L' := [some (aA (a + 9)), some (aJ u), none, some (aJ u), none, none, none, none]) rfl rfl ?_
  refine E_s (p' := 3) (st' := aI 0 :: _) rfl rfl ?_
  refine E_s (p' := 5) (L' := [some (aA (a + 9)), some (aJ u), none, some (aJ u), none, some (aI 0), none, none]) rfl rfl ?_
  exact yl_wd hR hC hV q (Sn R + 1) 0 _ _ _ (by omega) (by omega)
theorem c_isIn {u c : Int} (q1 : Q (some (aI 1)) (m, tl len)) (q0 : Q (some (aI 0)) (m, tl len)) : E 102 0 [some (aJ u), none, some (aI (c))] [] (m, tl len) Q := by
  refine E_s (p' := 1) (st' := aJ u :: _) rfl rfl ?_
  refine E_s (p' := 2) (st' := aI (c) :: _) rfl rfl ?_
  refine E_s (p' := 3) rfl rfl ?_
  refine E_s (p' := 4) rfl rfl ?_
  refine E_s (p' := 5) rfl rfl ?_
  refine E_s (p' := 6) rfl rfl ?_
  refine E_s (p' := 7) rfl rfl ?_
  refine E_go (p' := 7) (L' := [some (aJ u), none, some (aI (c))]) (st' := [aI (((if 0 < (b64 (fun a b => a &&& b) (s64 (fun a b => a >>> b) u (c)) 1) then 1 else if (b64 (fun a b => a &&& b) (s64 (fun a b => a >>> b) u (c)) 1) = 0 then 0 else -1)))]) rfl rfl rfl ?_
  refine E_if_eq (x := (((if 0 < (b64 (fun a b => a &&& b) (s64 (fun a b => a >>> b) u (c)) 1) then 1 else if (b64 (fun a b => a &&& b) (s64 (fun a b => a >>> b) u (c)) 1) = 0 then 0 else -1)))) rfl (by decide) (fun h_1 => ?_) (fun h_1 => ?_)
  · refine E_go (p' := 14) (L' := [some (aJ u), none, some (aI (c))]) (st' := []) rfl rfl rfl ?_
    refine E_s (p' := 15) (st' := aI 0 :: _) rfl rfl ?_
    refine E_ret rfl rfl ?_
    exact q0
  · refine E_go (p' := 10) (L' := [some (aJ u), none, some (aI (c))]) (st' := []) rfl rfl rfl ?_
    refine E_s (p' := 11) (st' := aI 1 :: _) rfl rfl ?_
    refine E_s (p' := 15) rfl rfl ?_
    refine E_ret rfl rfl ?_
    exact q1
theorem yl_rb (hR : isR a) (hC : CR R a m) (hV : VR R) {dn : Nat} (hdn : dn ≤ 200) (h34 : m 3 4 = (dn : Int)) (q : ∀ w : Int, Q (some (aJ w)) (m, tl len)) : ∀ (d : Nat) (k : Nat) (w : Int) (x5 x6 : Option AV), (dn < k + d) → (k ≤ dn) → E 99 22 [some (aA a), some (aA 3), some (aJ w), none, some (aI ((k : Nat) : Int)), x5, x6] [] (m, tl len) Q := by
  intro d
  induction d with
  | zero => intro k w x5 x6 hd hk; omega
  | succ d ih =>
    intro k w x5 x6 hd hk
    refine E_s (p' := 24) (st' := aI ((k : Nat) : Int) :: _) rfl rfl ?_
    refine E_s (p' := 25) (st' := aA 3 :: _) rfl rfl ?_
    refine E_gI (v := ((dn : Nat) : Int)) rfl rfl rfl rfl h34 ?_
    refine E_icmp_ge (x := ((k : Nat) : Int)) (y := ((dn : Nat) : Int)) rfl (by decide) (fun h_1 => ?_) (fun h_1 => ?_)
    · refine E_go (p' := 59) (L' := [some (aA a), some (aA 3), some (aJ w), none, some (aI ((k : Nat) : Int)), x5, x6]) (st' := []) rfl rfl rfl ?_
      refine E_s (p' := 60) (st' := aJ w :: _) rfl rfl ?_
      refine E_ret rfl rfl ?_
      exact q _
    · refine E_go (p' := 31) (L' := [some (aA a), some (aA 3), some (aJ w), none, some (aI ((k : Nat) : Int)), x5, x6]) (st' := []) rfl rfl rfl ?_
      refine E_s (p' := 32) (st' := aA a :: _) rfl rfl ?_
      refine E_gA (b := a + 9) rfl rfl rfl (kR_0 hR) (hR_0_1 hR) rfl ?_
      refine E_s (p' := 36) (st' := aJ w :: _) rfl rfl ?_
      refine E_callL (p' := 39) (L0 := [some (aA (a + 9)), some (aJ w), none, none, none, none, none, none]) rfl rfl rfl ?_
      refine c_widen hR hC hV (fun ww => ?_)
      refine E_go (p' := 39) (L' := [some (aA a), some (aA 3), some (aJ w), none, some (aI ((k : Nat) : Int)), x5, x6]) (st' := [aJ ww]) rfl rfl rfl ?_
      refine E_s (p' := 41) (L' := [some (aA a), some (aA 3), some (aJ w), none, some (aI ((k : Nat) : Int)), some (aJ ww), none]) rfl rfl ?_
      refine E_s (p' := 43) (st' := aJ ww :: _) rfl rfl ?_
      refine E_s (p' := 44) (st' := aJ w :: _) rfl rfl ?_
      refine E_s (p' := 45) rfl rfl ?_
      refine E_go (p' := 45) (L' := [some (aA a), some (aA 3), some (aJ w), none, some (aI ((k : Nat) : Int)), some (aJ ww), none]) (st' := [aI (((if w < ww then 1 else if ww = w then 0 else -1)))]) rfl rfl rfl ?_
      refine E_if_ne (x := (((if w < ww then 1 else if ww = w then 0 else -1)))) rfl (by decide) (fun h_2 => ?_) (fun h_2 => ?_)
      · refine E_go (p' := 50) (L' := [some (aA a), some (aA 3), some (aJ w), none, some (aI ((k : Nat) : Int)), some (aJ ww), none]) (st' := []) rfl rfl rfl ?_
        refine E_s (p' := 52) (st' := aJ ww :: _) rfl rfl ?_
        refine E_s (p' := 53) (L' := [some (aA a), some (aA 3), some (aJ ww), none, some (aI ((k : Nat) : Int)), some (aJ ww), none]) rfl rfl ?_
        refine E_inc (x := ((k : Nat) : Int)) (w := ((k + 1 : Nat) : Int)) (L' := [some (aA a), some (aA 3), some (aJ ww), none, some (aI ((k + 1 : Nat) : Int)), some (aJ ww), none]) rfl rfl rfl (by omega) (by omega) rfl ?_
        refine E_s (p' := 22) rfl rfl ?_
        exact ih (k + 1) _ _ _ (by omega) (by omega)
      · refine E_go (p' := 48) (L' := [some (aA a), some (aA 3), some (aJ w), none, some (aI ((k : Nat) : Int)), some (aJ ww), none]) (st' := []) rfl rfl rfl ?_
        refine E_s (p' := 49) (st' := aJ w :: _) rfl rfl ?_
        refine E_ret rfl rfl ?_
        exact q _
theorem c_reach (hR : isR a) (hC : CR R a m) (hV : VR R) {dn : Nat} (hdn : dn ≤ 200) (h34 : m 3 4 = (dn : Int)) (q : ∀ w : Int, Q (some (aJ w)) (m, tl len)) : E 99 0 [some (aA a), some (aA 3), none, none, none, none, none] [] (m, tl len) Q := by
  refine E_s (p' := 1) (st' := aA 3 :: _) rfl rfl ?_
  refine E_gI (v := ((m 3 5))) rfl rfl rfl rfl rfl ?_
  refine E_s (p' := 5) (st' := aI (-1) :: _) rfl rfl ?_
  refine E_icmp_ne (x := ((m 3 5))) (y := (-1)) rfl (by decide) (fun h_1 => ?_) (fun h_1 => ?_)
  · refine E_go (p' := 12) (L' := [some (aA a), some (aA 3), none, none, none, none, none]) (st' := []) rfl rfl rfl ?_
    refine E_s (p' := 13) rfl rfl ?_
    refine E_s (p' := 14) (st' := aA 3 :: _) rfl rfl ?_
    refine E_gI (v := ((m 3 5))) rfl rfl rfl rfl rfl ?_
    refine E_s (p' := 18) rfl rfl ?_
    refine E_s (p' := 19) (L' := [some (aA a), some (aA 3), some (aJ (s64 (fun a b => a <<< b) 1 ((m 3 5)))), none, none, none, none]) rfl rfl ?_
    refine E_s (p' := 20) (st' := aI 0 :: _) rfl rfl ?_
    refine E_s (p' := 22) (L' := [some (aA a), some (aA 3), some (aJ (s64 (fun a b => a <<< b) 1 ((m 3 5)))), none, some (aI 0), none, none]) rfl rfl ?_
    exact yl_rb hR hC hV hdn h34 q (dn + 1) 0 _ _ _ (by omega) (by omega)
  · refine E_go (p' := 8) (L' := [some (aA a), some (aA 3), none, none, none, none, none]) (st' := []) rfl rfl rfl ?_
    refine E_s (p' := 9) rfl rfl ?_
    refine E_s (p' := 18) rfl rfl ?_
    refine E_s (p' := 19) (L' := [some (aA a), some (aA 3), some (aJ 0), none, none, none, none]) rfl rfl ?_
    refine E_s (p' := 20) (st' := aI 0 :: _) rfl rfl ?_
    refine E_s (p' := 22) (L' := [some (aA a), some (aA 3), some (aJ 0), none, some (aI 0), none, none]) rfl rfl ?_
    exact yl_rb hR hC hV hdn h34 q (dn + 1) 0 _ _ _ (by omega) (by omega)
end
