theorem lc0 {v : Nat} : (if (0 : Int) < ((v : Nat) : Int) then (1 : Int) else if ((v : Nat) : Int) = 0 then 0 else -1) = 0 ↔ v = 0 := by
  constructor
  · intro h
    split at h
    · omega
    · split at h <;> omega
  · intro h
    subst h
    rfl
theorem lcE {x y : Int} : (if y < x then (1 : Int) else if x = y then 0 else -1) = 0 ↔ x = y := by
  constructor
  · intro h
    split at h
    · omega
    · split at h <;> omega
  · intro h
    subst h
    rw [if_neg (by omega), if_pos rfl]
theorem b64_and1 {x : Nat} (hx : x < 1152921504606846976) : b64 (fun a b => a &&& b) (x : Int) 1 = ((x &&& 1 : Nat) : Int) := b64_and (y := 1) hx
section
variable {len : Nat} {m m0 : Mm} {Q : Option AV → Sx → Prop} {R : RD} {a : Nat} {x y : Int}
theorem yl_rn3 (hR : isR a) (hC : CR R a m0) (hV : VR R) (hd : RdC R a m0) (q1 : ∀ (m1 : Mm) (v : Int), v ≠ -1 → ¬ bk R x y → Fx 3 7 m0 m1 → Q (some (aI v)) (m1, tl len)) (q0 : ∀ (m1 : Mm) (dn cb : Nat), bkA R x y dn cb → bk R x y → m1 3 4 = (dn : Int) → m1 3 5 = (cb : Int) → Fx 3 7 m0 m1 → Q (some (aI (-1))) (m1, tl len)) : ∀ (d : Nat) (e i : Nat) (lo hi : Nat → Int) (m : Mm), (e < d) → (i + e = 200) → (rnd R 200 0 (sL R x y) (sH R x y) = rnd R e i lo hi) → (bnd (Cn R) lo hi) → (Fx 3 7 m0 m) → (∀ c, c < Cn R → m 4 c = lo c ∧ m 5 c = hi c) → (itr R (sL R x y) (sH R x y) i = (lo, hi)) → E 86 10 [some (aA 3), some (aA a), some (aI (x)), some (aI (y)), some (aI ((i + 1 : Nat) : Int))] [] (m, tl len) Q := by
  intro d
  induction d with
  | zero => intro e i lo hi m hd9 hie hq hb I1 I2 I3; omega
  | succ d ih =>
    intro e i lo hi m hd9 hie hq hb I1 I2 I3
    have hab := isR_b hR
    have hn60 := hV.1
    refine E_s (p' := 12) (st' := aI ((i + 1 : Nat) : Int) :: _) rfl rfl ?_
    refine E_s (p' := 15) (st' := aI 200 :: _) rfl rfl ?_
    refine E_icmp_gt (x := ((i + 1 : Nat) : Int)) (y := 200) rfl (by decide) (fun h_1 => ?_) (fun h_1 => ?_)
    · refine E_go (p' := 68) (L' := [some (aA 3), some (aA a), some (aI (x)), some (aI (y)), some (aI ((i + 1 : Nat) : Int))]) (st' := []) rfl rfl rfl ?_
      refine E_s (p' := 70) (st' := aI (-4) :: _) rfl rfl ?_
      refine E_ret rfl rfl ?_
      have e9 : e = 0 := by omega
      subst e9
      exact q1 m (-4) (by decide) (fun h9 => by unfold bk at h9; rw [hq] at h9; have h9 : (-4 : Int) = -1 := h9; omega) I1
    · refine E_go (p' := 18) (L' := [some (aA 3), some (aA a), some (aI (x)), some (aI (y)), some (aI ((i + 1 : Nat) : Int))]) (st' := []) rfl rfl rfl ?_
      refine E_s (p' := 19) (st' := aA 3 :: _) rfl rfl ?_
      refine E_s (p' := 21) (st' := aI ((i + 1 : Nat) : Int) :: _) rfl rfl ?_
      refine E_pI rfl rfl rfl rfl (Or.inl rfl) ?_
      refine E_s (p' := 25) (st' := aA 3 :: _) rfl rfl ?_
      refine E_s (p' := 26) (st' := aA a :: _) rfl rfl ?_
      refine E_callV (k' := 90) (a := 3) (r := []) (L0 := [some (aA 3), some (aA a), none, none]) rfl rfl rfl rfl rfl rfl rfl rfl rfl rfl ?_
      refine c_doRound hR (hC.of (fun b j g1 g2 _ => (up2_ne (by omega)).trans (I1 b j (by omega)))) hV hb (fun c hc => ⟨(up2_ne (by omega)).trans (I2 c hc).1, (up2_ne (by omega)).trans (I2 c hc).2⟩) (fun m1 F1 V1 => ?_)
      refine E_go (p' := 29) (L' := [some (aA 3), some (aA a), some (aI (x)), some (aI (y)), some (aI ((i + 1 : Nat) : Int))]) (st' := [aI (bi (rdC R lo hi (Cn R)))]) rfl rfl rfl ?_
      refine E_b_ne0 (b := (rdC R lo hi (Cn R))) rfl (by decide) (fun h_2 => ?_) (fun h_2 => ?_)
      · refine E_go (p' := 37) (L' := [some (aA 3), some (aA a), some (aI (x)), some (aI (y)), some (aI ((i + 1 : Nat) : Int))]) (st' := []) rfl rfl rfl ?_
        refine E_s (p' := 38) (st' := aA 3 :: _) rfl rfl ?_
        refine E_s (p' := 39) (st' := aA 3 :: _) rfl rfl ?_
        refine E_s (p' := 40) (st' := aA a :: _) rfl rfl ?_
        refine E_gA (b := a + 1) rfl rfl rfl (kR_0 hR) (hR_0_0 hR) rfl ?_
        refine E_gI (v := ((Cn R : Nat) : Int)) rfl rfl rfl (kR_1 hR) (hC.of (fun b j g1 g2 _ => (F1 b j (by omega)).trans ((up2_ne (by omega)).trans (I1 b j (by omega))))).1 ?_
        refine E_callV (k' := 93) (a := 3) (r := [aA 3]) (L0 := [some (aA 3), some (aI ((Cn R : Nat) : Int)), none]) rfl rfl rfl rfl rfl rfl rfl rfl rfl rfl ?_
        refine c_firstNone hn60 V1 (fun cb hc1 hc2 hc3 => ?_) (fun hno => ?_)
        · refine E_go (p' := 49) (L' := [some (aA 3), some (aA a), some (aI (x)), some (aI (y)), some (aI ((i + 1 : Nat) : Int))]) (st' := [aI ((cb : Nat) : Int), aA 3]) rfl rfl rfl ?_
          refine E_pI rfl rfl rfl rfl (Or.inl rfl) ?_
          refine E_s (p' := 53) (st' := aA 3 :: _) rfl rfl ?_
          refine E_gI (v := ((cb : Nat) : Int)) rfl rfl rfl rfl up2_eq ?_
          refine E_s (p' := 57) (st' := aI (-1) :: _) rfl rfl ?_
          refine E_icmp_eq (x := ((cb : Nat) : Int)) (y := (-1)) rfl (by decide) (fun q => absurd q (by omega)) (fun h_3 => ?_)
          refine E_go (p' := 60) (L' := [some (aA 3), some (aA a), some (aI (x)), some (aI (y)), some (aI ((i + 1 : Nat) : Int))]) (st' := []) rfl rfl rfl ?_
          refine E_s (p' := 61) (st' := aI (-1) :: _) rfl rfl ?_
          refine E_ret rfl rfl ?_
          have eb : brk (rdS R lo hi (Sn R)).1 (rdS R lo hi (Sn R)).2 (Cn R) = true := brk_t hc1 hc2
          obtain ⟨e1, ee⟩ : ∃ z, e = z + 1 := ⟨e - 1, by omega⟩
          have er : rnd R (e1 + 1) i lo hi = (-1, rdS R lo hi (Sn R)) := by show (bif rdC R lo hi (Cn R) then _ else _) = _; rw [show rdC R lo hi (Cn R) = true by assumption, eb]; rfl
          have ei : itr R (sL R x y) (sH R x y) (i + 1) = rdS R lo hi (Sn R) := by show rdS R (itr R (sL R x y) (sH R x y) i).1 (itr R (sL R x y) (sH R x y) i).2 (Sn R) = _; rw [I3]
          exact q0 _ (i + 1) cb ⟨by omega, by omega, hc1, by rw [ei]; exact hc2⟩ (by unfold bk; rw [hq, ee, er]) ((up2_sl (by decide)).trans ((F1 _ _ (by omega)).trans up2_eq)) up2_eq ((I1.up (by omega) (by omega)).tr (F1.wide (by omega) (by omega)) |>.up (by omega) (by omega))
        · refine E_go (p' := 49) (L' := [some (aA 3), some (aA a), some (aI (x)), some (aI (y)), some (aI ((i + 1 : Nat) : Int))]) (st' := [aI (-1), aA 3]) rfl rfl rfl ?_
          refine E_pI rfl rfl rfl rfl (Or.inl rfl) ?_
          refine E_s (p' := 53) (st' := aA 3 :: _) rfl rfl ?_
          refine E_gI (v := (-1)) rfl rfl rfl rfl up2_eq ?_
          refine E_s (p' := 57) (st' := aI (-1) :: _) rfl rfl ?_
          refine E_s (p' := 62) rfl rfl ?_
          refine E_inc (x := ((i + 1 : Nat) : Int)) (w := ((i + 2 : Nat) : Int)) (L' := [some (aA 3), some (aA a), some (aI (x)), some (aI (y)), some (aI ((i + 2 : Nat) : Int))]) rfl rfl rfl (by omega) (by omega) rfl ?_
          refine E_s (p' := 10) rfl rfl ?_
          obtain ⟨e1, ee⟩ : ∃ z, e = z + 1 := ⟨e - 1, by omega⟩
          refine ih e1 (i + 1) (rdS R lo hi (Sn R)).1 (rdS R lo hi (Sn R)).2 _ (by omega) (by omega) ?_ (fun c hc => ?_) ((I1.up (by omega) (by omega)).tr (F1.wide (by omega) (by omega)) |>.up (by omega) (by omega)) (fun c hc => ⟨(up2_ne (by omega)).trans (V1 c hc).1, (up2_ne (by omega)).trans (V1 c hc).2⟩) (by show rdS R (itr R (sL R x y) (sH R x y) i).1 (itr R (sL R x y) (sH R x y) i).2 (Sn R) = _; rw [I3])
          · rw [hq, ee]
            show (bif rdC R lo hi (Cn R) then _ else _) = _
            rw [show rdC R lo hi (Cn R) = true by assumption, brk_f.mpr hno]; rfl
          · have h1 := rdS_m (R := R) (lo := lo) (hi := hi) (Sn R) c
            have h2 := hb c hc
            have h3 := hno c hc
            omega
      · refine E_go (p' := 32) (L' := [some (aA 3), some (aA a), some (aI (x)), some (aI (y)), some (aI ((i + 1 : Nat) : Int))]) (st' := []) rfl rfl rfl ?_
        refine E_s (p' := 34) (st' := aI ((i + 1 : Nat) : Int) :: _) rfl rfl ?_
        refine E_s (p' := 35) (st' := aI 1 :: _) rfl rfl ?_
        refine E_sub (v := ((i : Nat) : Int)) rfl (by omega) (by omega) ?_
        refine E_ret rfl rfl ?_
        obtain ⟨e1, ee⟩ : ∃ z, e = z + 1 := ⟨e - 1, by omega⟩
        have er : rnd R (e1 + 1) i lo hi = ((i : Int), rdS R lo hi (Sn R)) := by show (bif rdC R lo hi (Cn R) then _ else _) = _; rw [show rdC R lo hi (Cn R) = false by assumption]; rfl
        exact q1 m1 _ (by omega) (fun h9 => by unfold bk at h9; rw [hq, ee, er] at h9; have h9 : (i : Int) = -1 := h9; omega) ((I1.up (by omega) (by omega)).tr (F1.wide (by omega) (by omega)))
theorem c_run3 (hR : isR a) (hC : CR R a m0) (hV : VR R) (hd : RdC R a m0) (q1 : ∀ (m1 : Mm) (v : Int), v ≠ -1 → ¬ bk R x y → Fx 3 7 m0 m1 → Q (some (aI v)) (m1, tl len)) (q0 : ∀ (m1 : Mm) (dn cb : Nat), bkA R x y dn cb → bk R x y → m1 3 4 = (dn : Int) → m1 3 5 = (cb : Int) → Fx 3 7 m0 m1 → Q (some (aI (-1))) (m1, tl len)) : E 86 0 [some (aA 3), some (aA a), some (aI (x)), some (aI (y)), none] [] (m0, tl len) Q := by
  have hab := isR_b hR
  refine E_s (p' := 1) (st' := aA 3 :: _) rfl rfl ?_
  refine E_s (p' := 2) (st' := aA a :: _) rfl rfl ?_
  refine E_s (p' := 3) (st' := aI (x) :: _) rfl rfl ?_
  refine E_s (p' := 4) (st' := aI (y) :: _) rfl rfl ?_
  refine E_callV (k' := 87) (a := 3) (r := []) (L0 := [some (aA 3), some (aA a), some (aI (x)), some (aI (y)), none, none, none]) rfl rfl rfl rfl rfl rfl rfl rfl rfl rfl ?_
  refine c_takeOwn hR hC hV hd (fun m1 F1 V1 => ?_)
  refine E_go (p' := 7) (L' := [some (aA 3), some (aA a), some (aI (x)), some (aI (y)), none]) (st' := []) rfl rfl rfl ?_
  refine E_s (p' := 8) (st' := aI 1 :: _) rfl rfl ?_
  refine E_s (p' := 10) (L' := [some (aA 3), some (aA a), some (aI (x)), some (aI (y)), some (aI 1)]) rfl rfl ?_
  exact yl_rn3 hR (hC.of (fun b j g1 g2 _ => F1 b j (by omega))) hV (hd.of (fun b j g1 g2 => F1 b j (by omega))) (fun m2 v g1 g2 F2 => q1 m2 v g1 g2 ((F1.wide (by omega) (by omega)).tr F2)) (fun m2 dn cb g1 g2 g3 g4 F2 => q0 m2 dn cb g1 g2 g3 g4 ((F1.wide (by omega) (by omega)).tr F2)) 201 200 0 (sL R x y) (sH R x y) m1 (by omega) (by omega) rfl (own_b hV x y) Fx.rf V1 rfl
theorem yl_ab3 (hR : isR a) (hC : CR R a m) (hV : VR R) {s : Nat} (hs : s < Sn R) (q : Q (some (aJ ((abA R s : Nat) : Int))) (m, tl len)) : ∀ (d : Nat) (k : Nat), (Sp R s < k + d) → (k ≤ Sp R s) → E 101 12 [some (aA (a + 9)), some (aI ((s : Nat) : Int)), some (aJ ((abN R s k : Nat) : Int)), none, some (aI ((k : Nat) : Int))] [] (m, tl len) Q := by
  intro d
  induction d with
  | zero => intro k hd hk; omega
  | succ d ih =>
    intro k hd hk
    have hab := isR_b hR
    have hs40 := hV.2.2.2.2.1
    have hp12 := (hV.2.2.2.2.2.1 s hs).2
    have hn60 := hV.1
    have hsw := (hV.2.2.2.2.2.1 s hs).1
    have hal := abN_lt hV hs k hk
    refine E_s (p' := 14) (st' := aI ((k : Nat) : Int) :: _) rfl rfl ?_
    refine E_s (p' := 15) (st' := aA (a + 9) :: _) rfl rfl ?_
    refine E_gA (b := a + 11) rfl rfl rfl (kR_9 hR) (hR_9_1 hR) rfl ?_
    refine E_s (p' := 19) (st' := aI ((s : Nat) : Int) :: _) rfl rfl ?_
    refine E_ald (e := s) (N := 40) (v := ((Sp R s : Nat) : Int)) rfl (kR_11 hR) (rfl) (by omega) (CR_11 hC (by omega)) ?_
    refine E_icmp_ge (x := ((k : Nat) : Int)) (y := ((Sp R s : Nat) : Int)) rfl (by decide) (fun h_1 => ?_) (fun h_1 => ?_)
    · refine E_go (p' := 41) (L' := [some (aA (a + 9)), some (aI ((s : Nat) : Int)), some (aJ ((abN R s k : Nat) : Int)), none, some (aI ((k : Nat) : Int))]) (st' := []) rfl rfl rfl ?_
      refine E_s (p' := 42) (st' := aJ ((abN R s k : Nat) : Int) :: _) rfl rfl ?_
      refine E_ret rfl rfl ?_
      have ek : k = Sp R s := by omega
      subst ek
      exact q
    · refine E_go (p' := 23) (L' := [some (aA (a + 9)), some (aI ((s : Nat) : Int)), some (aJ ((abN R s k : Nat) : Int)), none, some (aI ((k : Nat) : Int))]) (st' := []) rfl rfl rfl ?_
      have hsq := hV.2.2.2.2.2.2 s k hs (show k < Sp R s by omega)
      refine E_s (p' := 24) (st' := aJ ((abN R s k : Nat) : Int) :: _) rfl rfl ?_
      refine E_s (p' := 25) (st' := aJ 1 :: _) rfl rfl ?_
      refine E_s (p' := 26) (st' := aA (a + 9) :: _) rfl rfl ?_
      refine E_s (p' := 27) (st' := aI ((s : Nat) : Int) :: _) rfl rfl ?_
      refine E_s (p' := 29) (st' := aI ((k : Nat) : Int) :: _) rfl rfl ?_
      refine E_callV (k' := 79) (a := a + 9) (r := [aJ 1, aJ ((abN R s k : Nat) : Int)]) (L0 := [some (aA (a + 9)), some (aI ((s : Nat) : Int)), some (aI ((k : Nat) : Int))]) rfl rfl rfl rfl rfl (kR_9 hR) rfl rfl rfl rfl ?_
      refine c_partOf hR hC hV (s := s) (p := k) (by omega) (by omega) ?_
      refine E_go (p' := 32) (L' := [some (aA (a + 9)), some (aI ((s : Nat) : Int)), some (aJ ((abN R s k : Nat) : Int)), none, some (aI ((k : Nat) : Int))]) (st' := [aI ((Sq R s k : Nat) : Int), aJ 1, aJ ((abN R s k : Nat) : Int)]) rfl rfl rfl ?_
      refine E_s (p' := 33) rfl rfl ?_
      rw [s64_bit (by omega)]
      refine E_s (p' := 34) rfl rfl ?_
      rw [b64_or hal (p60 (by omega))]
      refine E_s (p' := 35) (L' := [some (aA (a + 9)), some (aI ((s : Nat) : Int)), some (aJ ((abN R s k ||| 2 ^ Sq R s k : Nat) : Int)), none, some (aI ((k : Nat) : Int))]) rfl rfl ?_
      refine E_inc (x := ((k : Nat) : Int)) (w := ((k + 1 : Nat) : Int)) (L' := [some (aA (a + 9)), some (aI ((s : Nat) : Int)), some (aJ ((abN R s k ||| 2 ^ Sq R s k : Nat) : Int)), none, some (aI ((k + 1 : Nat) : Int))]) rfl rfl rfl (by omega) (by omega) rfl ?_
      refine E_s (p' := 12) rfl rfl ?_
      exact ih (k + 1) (by omega) (by omega)
theorem c_asBits3 (hR : isR a) (hC : CR R a m) (hV : VR R) {s : Nat} (hs : s < Sn R) (q : Q (some (aJ ((abA R s : Nat) : Int))) (m, tl len)) : E 101 0 [some (aA (a + 9)), some (aI ((s : Nat) : Int)), none, none, none] [] (m, tl len) Q := by
  have hab := isR_b hR
  have hs40 := hV.2.2.2.2.1
  have hp12 := (hV.2.2.2.2.2.1 s hs).2
  have hn60 := hV.1
  have hsw := (hV.2.2.2.2.2.1 s hs).1
  refine E_s (p' := 1) (st' := aJ 1 :: _) rfl rfl ?_
  refine E_s (p' := 2) (st' := aA (a + 9) :: _) rfl rfl ?_
  refine E_gA (b := a + 10) rfl rfl rfl (kR_9 hR) (hR_9_0 hR) rfl ?_
  refine E_s (p' := 6) (st' := aI ((s : Nat) : Int) :: _) rfl rfl ?_
  refine E_ald (e := s) (N := 40) (v := ((Sw R s : Nat) : Int)) rfl (kR_10 hR) (rfl) (by omega) (CR_10 hC (by omega)) ?_
  refine E_s (p' := 8) rfl rfl ?_
  rw [s64_bit (by omega)]
  refine E_s (p' := 9) (L' := [some (aA (a + 9)), some (aI ((s : Nat) : Int)), some (aJ ((2 ^ Sw R s : Nat) : Int)), none, none]) rfl rfl ?_
  refine E_s (p' := 10) (st' := aI 0 :: _) rfl rfl ?_
  refine E_s (p' := 12) (L' := [some (aA (a + 9)), some (aI ((s : Nat) : Int)), some (aJ ((2 ^ Sw R s : Nat) : Int)), none, some (aI 0)]) rfl rfl ?_
  exact yl_ab3 hR hC hV hs q (Sp R s + 1) 0 (by omega) (by omega)
theorem yl_wd3 (hR : isR a) (hC : CR R a m) (hV : VR R) {u : Nat} (hu : u < 1152921504606846976) (q : Q (some (aJ ((wdN R u (Sn R) : Nat) : Int))) (m, tl len)) : ∀ (d : Nat) (s : Nat) (x6 x7 : Option AV), (Sn R < s + d) → (s ≤ Sn R) → E 100 5 [some (aA (a + 9)), some (aJ ((u : Nat) : Int)), none, some (aJ ((wdN R u s : Nat) : Int)), none, some (aI ((s : Nat) : Int)), x6, x7] [] (m, tl len) Q := by
  intro d
  induction d with
  | zero => intro s x6 x7 hd hs; omega
  | succ d ih =>
    intro s x6 x7 hd hs
    have hab := isR_b hR
    have hs40 := hV.2.2.2.2.1
    have hwl := wdN_lt hV hu s hs
    refine E_s (p' := 7) (st' := aI ((s : Nat) : Int) :: _) rfl rfl ?_
    refine E_s (p' := 8) (st' := aA (a + 9) :: _) rfl rfl ?_
    refine E_gI (v := ((Sn R : Nat) : Int)) rfl rfl rfl (kR_9 hR) (CRS hC) ?_
    refine E_icmp_ge (x := ((s : Nat) : Int)) (y := ((Sn R : Nat) : Int)) rfl (by decide) (fun h_1 => ?_) (fun h_1 => ?_)
    · refine E_go (p' := 51) (L' := [some (aA (a + 9)), some (aJ ((u : Nat) : Int)), none, some (aJ ((wdN R u s : Nat) : Int)), none, some (aI ((s : Nat) : Int)), x6, x7]) (st' := []) rfl rfl rfl ?_
      refine E_s (p' := 52) (st' := aJ ((wdN R u s : Nat) : Int) :: _) rfl rfl ?_
      refine E_ret rfl rfl ?_
      have es : s = Sn R := by omega
      subst es
      exact q
    · refine E_go (p' := 14) (L' := [some (aA (a + 9)), some (aJ ((u : Nat) : Int)), none, some (aJ ((wdN R u s : Nat) : Int)), none, some (aI ((s : Nat) : Int)), x6, x7]) (st' := []) rfl rfl rfl ?_
      have hal : abA R s < 1152921504606846976 := abN_lt hV (by omega) _ (Nat.le_refl _)
      refine E_s (p' := 15) (st' := aA (a + 9) :: _) rfl rfl ?_
      refine E_s (p' := 17) (st' := aI ((s : Nat) : Int) :: _) rfl rfl ?_
      refine E_callV (k' := 101) (a := a + 9) (r := []) (L0 := [some (aA (a + 9)), some (aI ((s : Nat) : Int)), none, none, none]) rfl rfl rfl rfl rfl (kR_9 hR) rfl rfl rfl rfl ?_
      refine c_asBits3 hR hC hV (s := s) (by omega) ?_
      refine E_go (p' := 20) (L' := [some (aA (a + 9)), some (aJ ((u : Nat) : Int)), none, some (aJ ((wdN R u s : Nat) : Int)), none, some (aI ((s : Nat) : Int)), x6, x7]) (st' := [aJ ((abA R s : Nat) : Int)]) rfl rfl rfl ?_
      refine E_s (p' := 22) (L' := [some (aA (a + 9)), some (aJ ((u : Nat) : Int)), none, some (aJ ((wdN R u s : Nat) : Int)), none, some (aI ((s : Nat) : Int)), some (aJ ((abA R s : Nat) : Int)), none]) rfl rfl ?_
      refine E_s (p' := 23) (st' := aA (a + 9) :: _) rfl rfl ?_
      refine E_s (p' := 25) (st' := aI ((s : Nat) : Int) :: _) rfl rfl ?_
      refine E_callV (k' := 84) (a := a + 9) (r := []) (L0 := [some (aA (a + 9)), some (aI ((s : Nat) : Int))]) rfl rfl rfl rfl rfl (kR_9 hR) rfl rfl rfl rfl ?_
      refine c_counts hR hC hV (s := s) (by omega) (fun h2 => ?_) (fun h2 => ?_)
      · refine E_go (p' := 28) (L' := [some (aA (a + 9)), some (aJ ((u : Nat) : Int)), none, some (aJ ((wdN R u s : Nat) : Int)), none, some (aI ((s : Nat) : Int)), some (aJ ((abA R s : Nat) : Int)), none]) (st' := [aI 1]) rfl rfl rfl ?_
        refine E_s (p' := 31) rfl rfl ?_
        refine E_s (p' := 33) (st' := aJ ((abA R s : Nat) : Int) :: _) rfl rfl ?_
        refine E_s (p' := 34) (st' := aJ ((u : Nat) : Int) :: _) rfl rfl ?_
        refine E_s (p' := 35) rfl rfl ?_
        rw [b64_and hal]
        refine E_s (p' := 36) (st' := aJ 0 :: _) rfl rfl ?_
        refine E_s (p' := 37) rfl rfl ?_
        refine E_go (p' := 37) (L' := [some (aA (a + 9)), some (aJ ((u : Nat) : Int)), none, some (aJ ((wdN R u s : Nat) : Int)), none, some (aI ((s : Nat) : Int)), some (aJ ((abA R s : Nat) : Int)), none]) (st' := [aI (((if 0 < ((abA R s &&& u : Nat) : Int) then 1 else if ((abA R s &&& u : Nat) : Int) = 0 then 0 else -1)))]) rfl rfl rfl ?_
        refine E_if_eq (x := (((if 0 < ((abA R s &&& u : Nat) : Int) then 1 else if ((abA R s &&& u : Nat) : Int) = 0 then 0 else -1)))) rfl (by decide) (fun h_2 => ?_) (fun h_2 => ?_)
        · refine E_go (p' := 45) (L' := [some (aA (a + 9)), some (aJ ((u : Nat) : Int)), none, some (aJ ((wdN R u s : Nat) : Int)), none, some (aI ((s : Nat) : Int)), some (aJ ((abA R s : Nat) : Int)), none]) (st' := []) rfl rfl rfl ?_
          refine E_inc (x := ((s : Nat) : Int)) (w := ((s + 1 : Nat) : Int)) (L' := [some (aA (a + 9)), some (aJ ((u : Nat) : Int)), none, some (aJ ((wdN R u s : Nat) : Int)), none, some (aI ((s + 1 : Nat) : Int)), some (aJ ((abA R s : Nat) : Int)), none]) rfl rfl rfl (by omega) (by omega) rfl ?_
          refine E_s (p' := 5) rfl rfl ?_
          have e9 : wdN R u (s + 1) = wdN R u s := if_neg (fun g => g.2 (lc0.mp (by assumption)))
          rw [← e9]
          exact ih (s + 1) _ _ (by omega) (by omega)
        · refine E_go (p' := 40) (L' := [some (aA (a + 9)), some (aJ ((u : Nat) : Int)), none, some (aJ ((wdN R u s : Nat) : Int)), none, some (aI ((s : Nat) : Int)), some (aJ ((abA R s : Nat) : Int)), none]) (st' := []) rfl rfl rfl ?_
          have hne : abA R s &&& u ≠ 0 := fun g => absurd (lc0.mpr g) (by assumption)
          refine E_s (p' := 41) (st' := aJ ((wdN R u s : Nat) : Int) :: _) rfl rfl ?_
          refine E_s (p' := 43) (st' := aJ ((abA R s : Nat) : Int) :: _) rfl rfl ?_
          refine E_s (p' := 44) rfl rfl ?_
          rw [b64_or hwl hal]
          refine E_s (p' := 45) (L' := [some (aA (a + 9)), some (aJ ((u : Nat) : Int)), none, some (aJ ((wdN R u s ||| abA R s : Nat) : Int)), none, some (aI ((s : Nat) : Int)), some (aJ ((abA R s : Nat) : Int)), none]) rfl rfl ?_
          refine E_inc (x := ((s : Nat) : Int)) (w := ((s + 1 : Nat) : Int)) (L' := [some (aA (a + 9)), some (aJ ((u : Nat) : Int)), none, some (aJ ((wdN R u s ||| abA R s : Nat) : Int)), none, some (aI ((s + 1 : Nat) : Int)), some (aJ ((abA R s : Nat) : Int)), none]) rfl rfl rfl (by omega) (by omega) rfl ?_
          refine E_s (p' := 5) rfl rfl ?_
          have e9 : wdN R u (s + 1) = wdN R u s ||| abA R s := if_pos ⟨h2, hne⟩
          rw [← e9]
          exact ih (s + 1) _ _ (by omega) (by omega)
      · refine E_go (p' := 28) (L' := [some (aA (a + 9)), some (aJ ((u : Nat) : Int)), none, some (aJ ((wdN R u s : Nat) : Int)), none, some (aI ((s : Nat) : Int)), some (aJ ((abA R s : Nat) : Int)), none]) (st' := [aI 0]) rfl rfl rfl ?_
        refine E_s (p' := 45) rfl rfl ?_
        refine E_inc (x := ((s : Nat) : Int)) (w := ((s + 1 : Nat) : Int)) (L' := [some (aA (a + 9)), some (aJ ((u : Nat) : Int)), none, some (aJ ((wdN R u s : Nat) : Int)), none, some (aI ((s + 1 : Nat) : Int)), some (aJ ((abA R s : Nat) : Int)), none]) rfl rfl rfl (by omega) (by omega) rfl ?_
        refine E_s (p' := 5) rfl rfl ?_
        have e9 : wdN R u (s + 1) = wdN R u s := if_neg (fun g => absurd g.1 (by omega))
        rw [← e9]
        exact ih (s + 1) _ _ (by omega) (by omega)
theorem c_widen3 (hR : isR a) (hC : CR R a m) (hV : VR R) {u : Nat} (hu : u < 1152921504606846976) (q : Q (some (aJ ((wdN R u (Sn R) : Nat) : Int))) (m, tl len)) : E 100 0 [some (aA (a + 9)), some (aJ ((u : Nat) : Int)), none, none, none, none, none, none] [] (m, tl len) Q := by
  refine E_s (p' := 1) (st' := aJ ((u : Nat) : Int) :: _) rfl rfl ?_
  refine E_s (p' := 2) (L' := [some (aA (a + 9)), some (aJ ((u : Nat) : Int)), none, some (aJ ((u : Nat) : Int)), none, none, none, none]) rfl rfl ?_
  refine E_s (p' := 3) (st' := aI 0 :: _) rfl rfl ?_
  refine E_s (p' := 5) (L' := [some (aA (a + 9)), some (aJ ((u : Nat) : Int)), none, some (aJ ((u : Nat) : Int)), none, some (aI 0), none, none]) rfl rfl ?_
  exact yl_wd3 hR hC hV hu q (Sn R + 1) 0 _ _ (by omega) (by omega)
theorem c_isIn3 {v c : Nat} (hv : v < 1152921504606846976) (hc : c < 60) (q1 : Nat.testBit v c = true → Q (some (aI 1)) (m, tl len)) (q0 : Nat.testBit v c = false → Q (some (aI 0)) (m, tl len)) : E 102 0 [some (aJ ((v : Nat) : Int)), none, some (aI ((c : Nat) : Int))] [] (m, tl len) Q := by
  refine E_s (p' := 1) (st' := aJ ((v : Nat) : Int) :: _) rfl rfl ?_
  refine E_s (p' := 2) (st' := aI ((c : Nat) : Int) :: _) rfl rfl ?_
  refine E_s (p' := 3) rfl rfl ?_
  rw [s64_shr hv hc]
  refine E_s (p' := 4) (st' := aJ 1 :: _) rfl rfl ?_
  refine E_s (p' := 5) rfl rfl ?_
  rw [b64_and1 (by have := Nat.div_le_self v (2 ^ c); omega)]
  refine E_s (p' := 6) (st' := aJ 0 :: _) rfl rfl ?_
  refine E_s (p' := 7) rfl rfl ?_
  refine E_go (p' := 7) (L' := [some (aJ ((v : Nat) : Int)), none, some (aI ((c : Nat) : Int))]) (st' := [aI (((if 0 < ((v / 2 ^ c &&& 1 : Nat) : Int) then 1 else if ((v / 2 ^ c &&& 1 : Nat) : Int) = 0 then 0 else -1)))]) rfl rfl rfl ?_
  refine E_if_eq (x := (((if 0 < ((v / 2 ^ c &&& 1 : Nat) : Int) then 1 else if ((v / 2 ^ c &&& 1 : Nat) : Int) = 0 then 0 else -1)))) rfl (by decide) (fun h_1 => ?_) (fun h_1 => ?_)
  · refine E_go (p' := 14) (L' := [some (aJ ((v : Nat) : Int)), none, some (aI ((c : Nat) : Int))]) (st' := []) rfl rfl rfl ?_
    refine E_s (p' := 15) (st' := aI 0 :: _) rfl rfl ?_
    refine E_ret rfl rfl ?_
    exact q0 (tb0 (lc0.mp (by assumption)))
  · refine E_go (p' := 10) (L' := [some (aJ ((v : Nat) : Int)), none, some (aI ((c : Nat) : Int))]) (st' := []) rfl rfl rfl ?_
    refine E_s (p' := 11) (st' := aI 1 :: _) rfl rfl ?_
    refine E_s (p' := 15) rfl rfl ?_
    refine E_ret rfl rfl ?_
    exact q1 (shr1.mp (fun g => absurd (lc0.mpr g) (by assumption)))
theorem yl_rb3 (hR : isR a) (hC : CR R a m) (hV : VR R) {dn cb : Nat} (hcb : cb < Cn R) (hdn : dn ≤ 200) (h34 : m 3 4 = (dn : Int)) (h35 : m 3 5 = (cb : Int)) (q : Q (some (aJ ((rcN R cb dn : Nat) : Int))) (m, tl len)) : ∀ (d : Nat) (k : Nat) (x5 x6 : Option AV), (dn < k + d) → (k ≤ dn) → E 99 22 [some (aA a), some (aA 3), some (aJ ((rcN R cb k : Nat) : Int)), none, some (aI ((k : Nat) : Int)), x5, x6] [] (m, tl len) Q := by
  intro d
  induction d with
  | zero => intro k x5 x6 hd hk; omega
  | succ d ih =>
    intro k x5 x6 hd hk
    refine E_s (p' := 24) (st' := aI ((k : Nat) : Int) :: _) rfl rfl ?_
    refine E_s (p' := 25) (st' := aA 3 :: _) rfl rfl ?_
    refine E_gI (v := ((dn : Nat) : Int)) rfl rfl rfl rfl h34 ?_
    refine E_icmp_ge (x := ((k : Nat) : Int)) (y := ((dn : Nat) : Int)) rfl (by decide) (fun h_1 => ?_) (fun h_1 => ?_)
    · refine E_go (p' := 59) (L' := [some (aA a), some (aA 3), some (aJ ((rcN R cb k : Nat) : Int)), none, some (aI ((k : Nat) : Int)), x5, x6]) (st' := []) rfl rfl rfl ?_
      refine E_s (p' := 60) (st' := aJ ((rcN R cb k : Nat) : Int) :: _) rfl rfl ?_
      refine E_ret rfl rfl ?_
      have ek : k = dn := by omega
      subst ek
      exact q
    · refine E_go (p' := 31) (L' := [some (aA a), some (aA 3), some (aJ ((rcN R cb k : Nat) : Int)), none, some (aI ((k : Nat) : Int)), x5, x6]) (st' := []) rfl rfl rfl ?_
      refine E_s (p' := 32) (st' := aA a :: _) rfl rfl ?_
      refine E_gA (b := a + 9) rfl rfl rfl (kR_0 hR) (hR_0_1 hR) rfl ?_
      refine E_s (p' := 36) (st' := aJ ((rcN R cb k : Nat) : Int) :: _) rfl rfl ?_
      refine E_callL (p' := 39) (L0 := [some (aA (a + 9)), some (aJ ((rcN R cb k : Nat) : Int)), none, none, none, none, none, none]) rfl rfl rfl ?_
      refine c_widen3 hR hC hV (rcN_lt hV hcb k) ?_
      refine E_go (p' := 39) (L' := [some (aA a), some (aA 3), some (aJ ((rcN R cb k : Nat) : Int)), none, some (aI ((k : Nat) : Int)), x5, x6]) (st' := [aJ ((wdN R (rcN R cb k) (Sn R) : Nat) : Int)]) rfl rfl rfl ?_
      refine E_s (p' := 41) (L' := [some (aA a), some (aA 3), some (aJ ((rcN R cb k : Nat) : Int)), none, some (aI ((k : Nat) : Int)), some (aJ ((wdN R (rcN R cb k) (Sn R) : Nat) : Int)), none]) rfl rfl ?_
      refine E_s (p' := 43) (st' := aJ ((wdN R (rcN R cb k) (Sn R) : Nat) : Int) :: _) rfl rfl ?_
      refine E_s (p' := 44) (st' := aJ ((rcN R cb k : Nat) : Int) :: _) rfl rfl ?_
      refine E_s (p' := 45) rfl rfl ?_
      refine E_go (p' := 45) (L' := [some (aA a), some (aA 3), some (aJ ((rcN R cb k : Nat) : Int)), none, some (aI ((k : Nat) : Int)), some (aJ ((wdN R (rcN R cb k) (Sn R) : Nat) : Int)), none]) (st' := [aI (((if ((rcN R cb k : Nat) : Int) < ((wdN R (rcN R cb k) (Sn R) : Nat) : Int) then 1 else if ((wdN R (rcN R cb k) (Sn R) : Nat) : Int) = ((rcN R cb k : Nat) : Int) then 0 else -1)))]) rfl rfl rfl ?_
      refine E_if_ne (x := (((if ((rcN R cb k : Nat) : Int) < ((wdN R (rcN R cb k) (Sn R) : Nat) : Int) then 1 else if ((wdN R (rcN R cb k) (Sn R) : Nat) : Int) = ((rcN R cb k : Nat) : Int) then 0 else -1)))) rfl (by decide) (fun h_2 => ?_) (fun h_2 => ?_)
      · refine E_go (p' := 50) (L' := [some (aA a), some (aA 3), some (aJ ((rcN R cb k : Nat) : Int)), none, some (aI ((k : Nat) : Int)), some (aJ ((wdN R (rcN R cb k) (Sn R) : Nat) : Int)), none]) (st' := []) rfl rfl rfl ?_
        refine E_s (p' := 52) (st' := aJ ((wdN R (rcN R cb k) (Sn R) : Nat) : Int) :: _) rfl rfl ?_
        refine E_s (p' := 53) (L' := [some (aA a), some (aA 3), some (aJ ((wdN R (rcN R cb k) (Sn R) : Nat) : Int)), none, some (aI ((k : Nat) : Int)), some (aJ ((wdN R (rcN R cb k) (Sn R) : Nat) : Int)), none]) rfl rfl ?_
        refine E_inc (x := ((k : Nat) : Int)) (w := ((k + 1 : Nat) : Int)) (L' := [some (aA a), some (aA 3), some (aJ ((wdN R (rcN R cb k) (Sn R) : Nat) : Int)), none, some (aI ((k + 1 : Nat) : Int)), some (aJ ((wdN R (rcN R cb k) (Sn R) : Nat) : Int)), none]) rfl rfl rfl (by omega) (by omega) rfl ?_
        refine E_s (p' := 22) rfl rfl ?_
        exact ih (k + 1) _ _ (by omega) (by omega)
      · refine E_go (p' := 48) (L' := [some (aA a), some (aA 3), some (aJ ((rcN R cb k : Nat) : Int)), none, some (aI ((k : Nat) : Int)), some (aJ ((wdN R (rcN R cb k) (Sn R) : Nat) : Int)), none]) (st' := []) rfl rfl rfl ?_
        refine E_s (p' := 49) (st' := aJ ((rcN R cb k : Nat) : Int) :: _) rfl rfl ?_
        refine E_ret rfl rfl ?_
        have e9 := rcN_fix (R := R) (c := cb) (k := k) (by have h9 : ((wdN R (rcN R cb k) (Sn R) : Nat) : Int) = ((rcN R cb k : Nat) : Int) := lcE.mp (by assumption); omega) dn (show k ≤ dn by omega)
        rw [e9] at q
        exact q
theorem c_reach3 (hR : isR a) (hC : CR R a m) (hV : VR R) {dn cb : Nat} (hcb : cb < Cn R) (hdn : dn ≤ 200) (h34 : m 3 4 = (dn : Int)) (h35 : m 3 5 = (cb : Int)) (q : Q (some (aJ ((rcN R cb dn : Nat) : Int))) (m, tl len)) : E 99 0 [some (aA a), some (aA 3), none, none, none, none, none] [] (m, tl len) Q := by
  have hn60 := hV.1
  refine E_s (p' := 1) (st' := aA 3 :: _) rfl rfl ?_
  refine E_gI (v := ((cb : Nat) : Int)) rfl rfl rfl rfl h35 ?_
  refine E_s (p' := 5) (st' := aI (-1) :: _) rfl rfl ?_
  refine E_icmp_ne (x := ((cb : Nat) : Int)) (y := (-1)) rfl (by decide) (fun h_1 => ?_) (fun q => absurd q (by omega))
  refine E_go (p' := 12) (L' := [some (aA a), some (aA 3), none, none, none, none, none]) (st' := []) rfl rfl rfl ?_
  refine E_s (p' := 13) (st' := aJ 1 :: _) rfl rfl ?_
  refine E_s (p' := 14) (st' := aA 3 :: _) rfl rfl ?_
  refine E_gI (v := ((cb : Nat) : Int)) rfl rfl rfl rfl h35 ?_
  refine E_s (p' := 18) rfl rfl ?_
  rw [s64_bit (by omega)]
  refine E_s (p' := 19) (L' := [some (aA a), some (aA 3), some (aJ ((2 ^ cb : Nat) : Int)), none, none, none, none]) rfl rfl ?_
  refine E_s (p' := 20) (st' := aI 0 :: _) rfl rfl ?_
  refine E_s (p' := 22) (L' := [some (aA a), some (aA 3), some (aJ ((2 ^ cb : Nat) : Int)), none, some (aI 0), none, none]) rfl rfl ?_
  exact yl_rb3 hR hC hV hcb hdn h34 h35 q (dn + 1) 0 _ _ (by omega) (by omega)
end
