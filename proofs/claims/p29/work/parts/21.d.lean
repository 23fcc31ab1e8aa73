theorem cls_pl {R : RD} (hV : VR R) {c : Nat} (hc : c < Cn R) : ∀ k, k ≤ Ck R c → ∀ q ∈ cls R c k, 1 ≤ q.1 ∧ q.1 ≤ 600 := by
  intro k
  induction k with
  | zero => intro _ q hq; cases hq
  | succ k ih =>
    intro hk q hq
    cases he : ends R c k with
    | true =>
      rw [cls_t he] at hq
      rcases List.mem_append.mp hq with g | g
      · exact ih (by omega) q g
      · rw [List.mem_singleton.mp g]; exact clp_b hV hc (by omega)
    | false => rw [cls_f he] at hq; exact ih (by omega) q hq
theorem acl_pl {R : RD} (hV : VR R) : ∀ c, c ≤ Cn R → ∀ q ∈ acl R c, 1 ≤ q.1 ∧ q.1 ≤ 600 := by
  intro c
  induction c with
  | zero => intro _ q hq; cases hq
  | succ c ih =>
    intro hc q hq
    have hq' : q ∈ acl R c ++ clsA R c := hq
    rcases List.mem_append.mp hq' with g | g
    · exact ih (by omega) q g
    · exact cls_pl hV (by omega) _ (Nat.le_refl _) q g
theorem atp_0 {R : RD} (hV : VR R) : atp (RA R) 0 = 0 := by
  unfold atp
  rw [List.countP_eq_zero]
  intro q hq
  have := acl_pl hV (Cn R) (Nat.le_refl _) q hq
  simp
  omega
theorem atp_b {R : RD} (hV : VR R) (h : Nat) : atp (RA R) h ≤ 1800 := by
  have h1 := atp_le (RA R) h
  have h2 := acl_len hV (Cn R) (Nat.le_refl _)
  have h3 := hV.1
  have h4 : (RA R).length = (acl R (Cn R)).length := rfl
  omega
def Rtd (R : RD) (c : Nat) : Int := if Rft R c = 0 then (Rvl R c : Int) else -10 - (Rft R c : Int)
theorem Rft_b (R : RD) (c : Nat) : Rft R c ≤ 4 := by
  unfold Rft
  split
  · have := bn_le (Rkt R); omega
  · cases rMany R (clsA R c)
    · cases rTw R (clsA R c).reverse
      · cases rAs R (clsA R c)
        · exact Nat.zero_le 4
        · exact Nat.le_refl 4
      · show 3 ≤ 4; omega
    · show 2 ≤ 4; omega
theorem Rvl_b {R : RD} (hV : VR R) {c : Nat} (hc : c < Cn R) : Rvl R c ≤ 900000000 := by
  unfold Rvl
  split
  · omega
  · split
    · have h1 := rSum_le (c := c) (show 1 ≤ RL R by omega) (clsA R c) (cls_wb hV hc _ (Nat.le_refl _))
      have h2 := cls_len R c (Ck R c)
      have h3 := (hV.2.2.1 c hc).2.2.2.2.2
      have h4 : (clsA R c).length = (cls R c (Ck R c)).length := rfl
      omega
    · omega
section
variable {len : Nat} {m : Mm} {Q : Option AV → Sx → Prop} {R : RD} {a c : Nat}
theorem c_rwl {u : Bool} (hR : isR a) (hu : m (a + 15) 10 = bi u) (q : Q none (fillm (fillm (fillm m (a + 21) 0 60 (bn u : Int)) (a + 22) 0 60 0) (a + 23) 0 60 0, tl len)) : E 45 0 [some (aA (a + 15))] [] (m, tl len) Q := by
  refine E_s (p' := 1) (st' := aA (a + 15) :: _) rfl rfl ?_
  refine E_gA (b := a + 21) rfl rfl rfl (kR_15 hR) (hR_15_5 hR) rfl ?_
  refine E_s (p' := 5) (st' := aA (a + 15) :: _) rfl rfl ?_
  refine E_gI (v := (bi u)) rfl rfl rfl (kR_15 hR) hu ?_
  refine E_b_eq0 (b := u) rfl (by decide) (fun h_1 => ?_) (fun h_1 => ?_)
  · refine E_go (p' := 15) (L' := [some (aA (a + 15))]) (st' := [aA (a + 21)]) rfl rfl rfl ?_
    refine E_s (p' := 16) (st' := aI 0 :: _) rfl rfl ?_
    refine E_callL (p' := 19) (L0 := [some (aA (a + 21)), some (aI 0), none, none]) rfl rfl rfl ?_
    refine c_fillL (N := 60) (kR_21 hR) ?_
    refine E_go (p' := 19) (L' := [some (aA (a + 15))]) (st' := []) rfl rfl rfl ?_
    refine E_s (p' := 20) (st' := aA (a + 15) :: _) rfl rfl ?_
    refine E_gA (b := a + 22) rfl rfl rfl (kR_15 hR) (hR_15_6 hR) rfl ?_
    refine E_s (p' := 24) (st' := aI 0 :: _) rfl rfl ?_
    refine E_callL (p' := 27) (L0 := [some (aA (a + 22)), some (aI 0), none, none]) rfl rfl rfl ?_
    refine c_fillL (N := 60) (kR_22 hR) ?_
    refine E_go (p' := 27) (L' := [some (aA (a + 15))]) (st' := []) rfl rfl rfl ?_
    refine E_s (p' := 28) (st' := aA (a + 15) :: _) rfl rfl ?_
    refine E_gA (b := a + 23) rfl rfl rfl (kR_15 hR) (hR_15_7 hR) rfl ?_
    refine E_s (p' := 32) (st' := aI 0 :: _) rfl rfl ?_
    refine E_callL (p' := 35) (L0 := [some (aA (a + 23)), some (aI 0), none, none]) rfl rfl rfl ?_
    refine c_fillL (N := 60) (kR_23 hR) ?_
    refine E_go (p' := 35) (L' := [some (aA (a + 15))]) (st' := []) rfl rfl rfl ?_
    refine E_ret rfl rfl ?_
    rw [h_1] at q
    exact q
  · refine E_go (p' := 11) (L' := [some (aA (a + 15))]) (st' := [aA (a + 21)]) rfl rfl rfl ?_
    refine E_s (p' := 12) (st' := aI 1 :: _) rfl rfl ?_
    refine E_s (p' := 16) rfl rfl ?_
    refine E_callL (p' := 19) (L0 := [some (aA (a + 21)), some (aI 1), none, none]) rfl rfl rfl ?_
    refine c_fillL (N := 60) (kR_21 hR) ?_
    refine E_go (p' := 19) (L' := [some (aA (a + 15))]) (st' := []) rfl rfl rfl ?_
    refine E_s (p' := 20) (st' := aA (a + 15) :: _) rfl rfl ?_
    refine E_gA (b := a + 22) rfl rfl rfl (kR_15 hR) (hR_15_6 hR) rfl ?_
    refine E_s (p' := 24) (st' := aI 0 :: _) rfl rfl ?_
    refine E_callL (p' := 27) (L0 := [some (aA (a + 22)), some (aI 0), none, none]) rfl rfl rfl ?_
    refine c_fillL (N := 60) (kR_22 hR) ?_
    refine E_go (p' := 27) (L' := [some (aA (a + 15))]) (st' := []) rfl rfl rfl ?_
    refine E_s (p' := 28) (st' := aA (a + 15) :: _) rfl rfl ?_
    refine E_gA (b := a + 23) rfl rfl rfl (kR_15 hR) (hR_15_7 hR) rfl ?_
    refine E_s (p' := 32) (st' := aI 0 :: _) rfl rfl ?_
    refine E_callL (p' := 35) (L0 := [some (aA (a + 23)), some (aI 0), none, none]) rfl rfl rfl ?_
    refine c_fillL (N := 60) (kR_23 hR) ?_
    refine E_go (p' := 35) (L' := [some (aA (a + 15))]) (st' := []) rfl rfl rfl ?_
    refine E_ret rfl rfl ?_
    rw [h_1] at q
    exact q
end
section
variable {len : Nat} {m0 : Mm} {Q : Option AV → Sx → Prop} {R : RD} {a : Nat}
theorem yl_rd (hR : isR a) (hC : CR R a m0) (hV : VR R) (q : ∀ m1 : Mm, Fx (a + 15) (a + 25) m0 m1 → RdC R a m1 → Q none (m1, tl len)) (h1 : 1 ≤ RL R) : ∀ (d : Nat) (c g : Nat) (m : Mm), (Cn R < c + d) → (c ≤ Cn R) → (Fx (a + 15) (a + 25) m0 m) → (RL0 R a m) → (∀ l, l < RL R → m (a + 16) l = (RF R l : Int) ∧ m (a + 19) l = (Rme R l : Int)) → (∀ e, e < Cn R → m (a + 20) e = ((clsA R e).length : Int)) → (∀ e, e < c → m (a + 21) e = (Rft R e : Int) ∧ m (a + 22) e = (Rvl R e : Int) ∧ m (a + 23) e = (Rls R e : Int)) → E 36 28 [some (aA (a + 15)), some (aA (a + 1)), some (aI ((g : Nat) : Int)), some (aI ((c : Nat) : Int))] [] (m, tl len) Q := by
  intro d
  induction d with
  | zero => intro c g m hd hcn I1 hL I2 I3 I4; omega
  | succ d ih =>
    intro c g m hd hcn I1 hL I2 I3 I4
    have hab := isR_b hR
    have hn60 := hV.1
    have hCm : CR R a m := hC.of (fun b j g1 g2 _ => I1 b j (by omega))
    refine E_s (p' := 29) (st' := aI ((c : Nat) : Int) :: _) rfl rfl ?_
    refine E_s (p' := 30) (st' := aA (a + 1) :: _) rfl rfl ?_
    refine E_gI (v := ((Cn R : Nat) : Int)) rfl rfl rfl (kR_1 hR) hCm.1 ?_
    refine E_icmp_ge (x := ((c : Nat) : Int)) (y := ((Cn R : Nat) : Int)) rfl (by decide) (fun h_1 => ?_) (fun h_1 => ?_)
    · refine E_go (p' := 48) (L' := [some (aA (a + 15)), some (aA (a + 1)), some (aI ((g : Nat) : Int)), some (aI ((c : Nat) : Int))]) (st' := []) rfl rfl rfl ?_
      refine E_ret rfl rfl ?_
      have ec : c = Cn R := by omega
      subst ec
      exact q m I1 ⟨hL.1, hL.2.1, fun l hl => ⟨(I2 l hl).1, hL.2.2.1 l hl, hL.2.2.2 l hl, (I2 l hl).2⟩, fun e he => ⟨I3 e he, I4 e he⟩⟩
    · refine E_go (p' := 36) (L' := [some (aA (a + 15)), some (aA (a + 1)), some (aI ((g : Nat) : Int)), some (aI ((c : Nat) : Int))]) (st' := []) rfl rfl rfl ?_
      refine E_s (p' := 37) (st' := aA (a + 15) :: _) rfl rfl ?_
      refine E_s (p' := 38) (st' := aA (a + 1) :: _) rfl rfl ?_
      refine E_s (p' := 39) (st' := aI ((c : Nat) : Int) :: _) rfl rfl ?_
      refine E_callV (k' := 47) (a := a + 15) (r := []) (L0 := [some (aA (a + 15)), some (aA (a + 1)), some (aI ((c : Nat) : Int)), none, none, none, none, none, none, none]) rfl rfl rfl rfl rfl (kR_15 hR) rfl rfl rfl rfl ?_
      refine c_readCord hR hCm hV (by omega) h1 hL (fun m1 J1 J2 J3 J4 => ?_)
      refine E_go (p' := 42) (L' := [some (aA (a + 15)), some (aA (a + 1)), some (aI ((g : Nat) : Int)), some (aI ((c : Nat) : Int))]) (st' := []) rfl rfl rfl ?_
      refine E_inc (x := ((c : Nat) : Int)) (w := ((c + 1 : Nat) : Int)) (L' := [some (aA (a + 15)), some (aA (a + 1)), some (aI ((g : Nat) : Int)), some (aI ((c + 1 : Nat) : Int))]) rfl rfl rfl (by omega) (by omega) rfl ?_
      refine E_s (p' := 28) rfl rfl ?_
      refine ih (c + 1) g m1 (by omega) (by omega) (fun b j hb => (J1 b j (by omega) (by omega)).trans (I1 b j hb)) ⟨(J1 _ _ (by omega) (by omega)).trans hL.1, (J1 _ _ (by omega) (by omega)).trans hL.2.1, fun l hl => (J1 _ _ (by omega) (by omega)).trans (hL.2.2.1 l hl), fun l hl => (J1 _ _ (by omega) (by omega)).trans (hL.2.2.2 l hl)⟩ (fun l hl => ⟨(J1 _ _ (by omega) (by omega)).trans (I2 l hl).1, (J1 _ _ (by omega) (by omega)).trans (I2 l hl).2⟩) (fun e he => (J1 _ _ (by omega) (by omega)).trans (I3 e he)) (fun e he => ?_)
      by_cases g9 : e = c
      · subst g9; exact ⟨J2, J3, J4⟩
      · obtain ⟨k1, k2, k3⟩ := I4 e (by omega)
        exact ⟨(J1 _ _ (by omega) (by omega)).trans k1, (J1 _ _ (by omega) (by omega)).trans k2, (J1 _ _ (by omega) (by omega)).trans k3⟩
theorem c_read (hR : isR a) (hC : CR R a m0) (hV : VR R) (q : ∀ m1 : Mm, Fx (a + 15) (a + 25) m0 m1 → RdC R a m1 → Q none (m1, tl len)) : E 36 0 [some (aA (a + 15)), some (aA (a + 1)), some (aI ((Cq R : Nat) : Int)), none] [] (m0, tl len) Q := by
  have hab := isR_b hR
  have hgp := hV.2.1
  have hn60 := hV.1
  refine E_s (p' := 1) (st' := aA (a + 15) :: _) rfl rfl ?_
  refine E_s (p' := 2) (st' := aA (a + 1) :: _) rfl rfl ?_
  refine E_callV (k' := 37) (a := a + 15) (r := []) (L0 := [some (aA (a + 15)), some (aA (a + 1)), none, none]) rfl rfl rfl rfl rfl (kR_15 hR) rfl rfl rfl rfl ?_
  refine c_countPlaces hR hC hV (fun m1 hI => ?_)
  refine E_go (p' := 5) (L' := [some (aA (a + 15)), some (aA (a + 1)), some (aI ((Cq R : Nat) : Int)), none]) (st' := []) rfl rfl rfl ?_
  obtain ⟨i1, i2, i3, i4, i5, i6, i7⟩ := id hI
  refine E_s (p' := 6) (st' := aA (a + 15) :: _) rfl rfl ?_
  refine E_s (p' := 7) (st' := aI ((Cq R : Nat) : Int) :: _) rfl rfl ?_
  refine E_callV (k' := 43) (a := a + 15) (r := []) (L0 := [some (aA (a + 15)), some (aI ((Cq R : Nat) : Int)), none]) rfl rfl rfl rfl rfl (kR_15 hR) rfl rfl rfl rfl ?_
  refine c_findLevels (f := atp (RA R)) (u := Run R) (g := Cq R) hR i2 i7 (atp_b hV) (by omega) (atp_0 hV) (fun m2 F2 K2 L2 A2 => ?_)
  refine E_go (p' := 10) (L' := [some (aA (a + 15)), some (aA (a + 1)), some (aI ((Cq R : Nat) : Int)), none]) (st' := []) rfl rfl rfl ?_
  refine E_s (p' := 11) (st' := aA (a + 15) :: _) rfl rfl ?_
  refine E_gI (v := ((RL R : Nat) : Int)) rfl rfl rfl (kR_15 hR) L2 ?_
  refine E_if_ne (x := ((RL R : Nat) : Int)) rfl (by decide) (fun h_1 => ?_) (fun h_1 => ?_)
  · refine E_go (p' := 22) (L' := [some (aA (a + 15)), some (aA (a + 1)), some (aI ((Cq R : Nat) : Int)), none]) (st' := []) rfl rfl rfl ?_
    have h1 : 1 ≤ RL R := by omega
    have hnm : ¬ mxv (Run R) < (lvS (atp (RA R)) (Cq R) 601).1 := fun g => by have : RL R = 0 := if_pos g; omega
    have hrl : (lvS (atp (RA R)) (Cq R) 601).1 = RL R := (if_neg hnm).symm
    have A2b := A2 hnm
    rw [hrl] at A2b
    refine E_s (p' := 23) (st' := aA (a + 15) :: _) rfl rfl ?_
    refine E_callV (k' := 46) (a := a + 15) (r := []) (L0 := [some (aA (a + 15)), none, none]) rfl rfl rfl rfl rfl (kR_15 hR) rfl rfl rfl rfl ?_
    refine c_countLevels (n := RL R) (u := Run R) hR (RL_mx R) L2 ((K2 _ (by decide)).trans i7) (fun m3 F3 C3 => ?_)
    refine E_go (p' := 26) (L' := [some (aA (a + 15)), some (aA (a + 1)), some (aI ((Cq R : Nat) : Int)), none]) (st' := []) rfl rfl rfl ?_
    refine E_s (p' := 27) (st' := aI 0 :: _) rfl rfl ?_
    refine E_s (p' := 28) (L' := [some (aA (a + 15)), some (aA (a + 1)), some (aI ((Cq R : Nat) : Int)), some (aI 0)]) rfl rfl ?_
    exact yl_rd hR hC hV q h1 (Cn R + 1) 0 _ m3 (by omega) (by omega) (fun b j hb => (F3 _ _ (by omega)).trans ((F2 _ _ (by omega)).trans (i1 b j hb))) ⟨(F3 _ _ (by omega)).trans ((K2 _ (by decide)).trans i7), (F3 _ _ (by omega)).trans L2, fun l hl => (F3 _ _ (by omega)).trans (A2b l hl).2.1, fun l hl => C3 l hl⟩ (fun l hl => ⟨(F3 _ _ (by omega)).trans (A2b l hl).1, (F3 _ _ (by omega)).trans (A2b l hl).2.2⟩) (fun e he => (F3 _ _ (by omega)).trans ((F2 _ _ (by omega)).trans (i3 e he))) (fun e he => absurd he (by omega))
  · refine E_go (p' := 17) (L' := [some (aA (a + 15)), some (aA (a + 1)), some (aI ((Cq R : Nat) : Int)), none]) (st' := []) rfl rfl rfl ?_
    have h0 : RL R = 0 := by omega
    refine E_s (p' := 18) (st' := aA (a + 15) :: _) rfl rfl ?_
    refine E_callV (k' := 45) (a := a + 15) (r := []) (L0 := [some (aA (a + 15))]) rfl rfl rfl rfl rfl (kR_15 hR) rfl rfl rfl rfl ?_
    refine c_rwl (u := Rkt R) hR ((K2 _ (by decide)).trans i6) ?_
    refine E_go (p' := 21) (L' := [some (aA (a + 15)), some (aA (a + 1)), some (aI ((Cq R : Nat) : Int)), none]) (st' := []) rfl rfl rfl ?_
    refine E_ret rfl rfl ?_
    refine q _ (((((i1.tr (F2.wide (by omega) (by omega))).fill (by omega) (by omega)).fill (by omega) (by omega)).fill (by omega) (by omega))) ⟨?_, ?_, fun l hl => absurd hl (by omega), fun e he => ⟨?_, ?_, ?_, ?_⟩⟩
    · exact (fillm_ne (by omega)).trans ((fillm_ne (by omega)).trans ((fillm_ne (by omega)).trans ((K2 _ (by decide)).trans i7)))
    · exact (fillm_ne (by omega)).trans ((fillm_ne (by omega)).trans ((fillm_ne (by omega)).trans L2))
    · exact (fillm_ne (by omega)).trans ((fillm_ne (by omega)).trans ((fillm_ne (by omega)).trans ((F2 _ _ (by omega)).trans (i3 e he))))
    · refine (fillm_ne (by omega)).trans ((fillm_ne (by omega)).trans ((fillm_in (by omega)).trans ?_))
      unfold Rft; rw [if_pos h0]
    · refine (fillm_ne (by omega)).trans ((fillm_in (by omega)).trans ?_)
      unfold Rvl; rw [if_pos h0]; rfl
    · refine (fillm_in (by omega)).trans ?_
      unfold Rls; rw [if_pos h0]; rfl
end
section
variable {len : Nat} {m : Mm} {Q : Option AV → Sx → Prop} {R : RD} {a c : Nat} {S : Nat → RD} {r : Int}
theorem c_readNow (hR : isR a) (h : CS1 R a m) (q : ∀ m1 : Mm, CS1 R a m1 → RdC R a m1 → Fx a (a + 25) m m1 → Q (some (aA (a + 15))) (m1, tl len)) : E 35 0 [some (aA a)] [] (m, tl len) Q := by
  obtain ⟨hV, hC, hrd⟩ := id h
  have hab := isR_b hR
  refine E_s (p' := 1) (st' := aA a :: _) rfl rfl ?_
  refine E_gI (v := ((m a 7))) rfl rfl rfl (kR_0 hR) rfl ?_
  refine E_if_ne (x := ((m a 7))) rfl (by decide) (fun h_1 => ?_) (fun h_1 => ?_)
  · refine E_go (p' := 27) (L' := [some (aA a)]) (st' := []) rfl rfl rfl ?_
    refine E_s (p' := 28) (st' := aA a :: _) rfl rfl ?_
    refine E_gA (b := a + 15) rfl rfl rfl (kR_0 hR) (hR_0_4 hR) rfl ?_
    refine E_ret rfl rfl ?_
    rcases hrd with g | ⟨g, g2⟩
    · omega
    · exact q m h g2 Fx.rf
  · refine E_go (p' := 7) (L' := [some (aA a)]) (st' := []) rfl rfl rfl ?_
    refine E_s (p' := 8) (st' := aA a :: _) rfl rfl ?_
    refine E_gA (b := a + 15) rfl rfl rfl (kR_0 hR) (hR_0_4 hR) rfl ?_
    refine E_s (p' := 12) (st' := aA a :: _) rfl rfl ?_
    refine E_gA (b := a + 1) rfl rfl rfl (kR_0 hR) (hR_0_0 hR) rfl ?_
    refine E_s (p' := 16) (st' := aA a :: _) rfl rfl ?_
    refine E_gI (v := ((Cq R : Nat) : Int)) rfl rfl rfl (kR_0 hR) hC.2.1 ?_
    refine E_callV (k' := 36) (a := a + 15) (r := []) (L0 := [some (aA (a + 15)), some (aA (a + 1)), some (aI ((Cq R : Nat) : Int)), none]) rfl rfl rfl rfl rfl (kR_15 hR) rfl rfl rfl rfl ?_
    refine c_read hR hC hV (fun m1 F1 D1 => ?_)
    refine E_go (p' := 22) (L' := [some (aA a)]) (st' := []) rfl rfl rfl ?_
    refine E_s (p' := 23) (st' := aA a :: _) rfl rfl ?_
    refine E_s (p' := 24) (st' := aI 1 :: _) rfl rfl ?_
    refine E_pI rfl rfl rfl (kR_0 hR) (Or.inr (by decide)) ?_
    refine E_s (p' := 28) (st' := aA a :: _) rfl rfl ?_
    refine E_gA (b := a + 15) rfl rfl rfl (kR_0 hR) (hR_0_4 hR) rfl ?_
    refine E_ret rfl rfl ?_
    exact q _ ⟨hV, hC.of (fun b j g1 g2 g3 => (up2_o (by omega)).trans (F1 b j (by omega))), Or.inr ⟨up2_eq, D1.of (fun b j g1 g2 => up2_ne (by omega))⟩⟩ (D1.of (fun b j g1 g2 => up2_ne (by omega))) (fun b j hb => (up2_ne (by omega)).trans (F1 b j (by omega)))
theorem c_readOf (hS : CS S m) (q1 : ∀ (i a : Nat) (m1 : Mm), i < 4 → r = i → a = tgA i → isR a → CS S m1 → CS1 (S i) a m1 → RdC (S i) a m1 → Mo m m1 → Q (some (aA a)) (m1, tl len)) (q0 : (r < 0 ∨ 3 < r) → Q (some aN) (m, tl len)) : E 34 0 [some (aA 1), some (aI (r)), none] [] (m, tl len) Q := by
  refine E_s (p' := 1) (st' := aA 1 :: _) rfl rfl ?_
  refine E_s (p' := 2) (st' := aI (r) :: _) rfl rfl ?_
  refine E_callV (k' := 12) (a := 1) (r := []) (L0 := [some (aA 1), some (aI (r))]) rfl rfl rfl rfl rfl rfl rfl rfl rfl rfl ?_
  refine c_recordOf' (fun i a hi hr ha hR => ?_) (fun hr => ?_)
  · refine E_go (p' := 5) (L' := [some (aA 1), some (aI (r)), none]) (st' := [aA a]) rfl rfl rfl ?_
    refine E_s (p' := 6) (L' := [some (aA 1), some (aI (r)), some (aA a)]) rfl rfl ?_
    refine E_s (p' := 7) (st' := aA a :: _) rfl rfl ?_
    refine E_s (p' := 10) rfl rfl ?_
    refine E_s (p' := 11) (st' := aA a :: _) rfl rfl ?_
    refine E_callV (k' := 35) (a := a) (r := []) (L0 := [some (aA a)]) rfl rfl rfl rfl rfl (kR_0 hR) rfl rfl rfl rfl ?_
    refine c_readNow hR (ha ▸ hS i hi) (fun m1 h1 hd1 hF1 => ?_)
    refine E_go (p' := 14) (L' := [some (aA 1), some (aI (r)), some (aA a)]) (st' := [aA (a + 15)]) rfl rfl rfl ?_
    refine E_s (p' := 15) rfl rfl ?_
    refine E_s (p' := 16) (st' := aA a :: _) rfl rfl ?_
    refine E_ret rfl rfl ?_
    have hab := isR_b hR
    have e9 : upf S i (S i) = S := upf_self
    exact q1 i a m1 hi hr ha hR (e9 ▸ hS.set hi ha h1 (fun b j hb => hF1 b j (by omega))) h1 hd1 (fun b j hb => hF1 b j (by omega))
  · refine E_go (p' := 5) (L' := [some (aA 1), some (aI (r)), none]) (st' := [aN]) rfl rfl rfl ?_
    refine E_s (p' := 6) (L' := [some (aA 1), some (aI (r)), some (aN)]) rfl rfl ?_
    refine E_s (p' := 7) (st' := aN :: _) rfl rfl ?_
    refine E_s (p' := 15) rfl rfl ?_
    refine E_s (p' := 16) (st' := aN :: _) rfl rfl ?_
    refine E_ret rfl rfl ?_
    exact q0 hr
theorem c_told (hR : isR a) (hn : Cn R ≤ 60) (hd : RdC R a m) (hc : c < Cn R) (q : Q (some (aI (Rtd R c))) (m, tl len)) : E 55 0 [some (aA (a + 15)), some (aI ((c : Nat) : Int))] [] (m, tl len) Q := by
  have hfb := Rft_b R c
  refine E_s (p' := 1) (st' := aA (a + 15) :: _) rfl rfl ?_
  refine E_gA (b := a + 21) rfl rfl rfl (kR_15 hR) (hR_15_5 hR) rfl ?_
  refine E_s (p' := 5) (st' := aI ((c : Nat) : Int) :: _) rfl rfl ?_
  refine E_ald (e := c) (N := 60) (v := ((Rft R c : Nat) : Int)) rfl (kR_21 hR) (rfl) (by omega) (hd.2.2.2 _ hc).2.1 ?_
  refine E_if_ne (x := ((Rft R c : Nat) : Int)) rfl (by decide) (fun h_1 => ?_) (fun h_1 => ?_)
  · refine E_go (p' := 18) (L' := [some (aA (a + 15)), some (aI ((c : Nat) : Int))]) (st' := []) rfl rfl rfl ?_
    refine E_s (p' := 20) (st' := aI (-10) :: _) rfl rfl ?_
    refine E_s (p' := 21) (st' := aA (a + 15) :: _) rfl rfl ?_
    refine E_gA (b := a + 21) rfl rfl rfl (kR_15 hR) (hR_15_5 hR) rfl ?_
    refine E_s (p' := 25) (st' := aI ((c : Nat) : Int) :: _) rfl rfl ?_
    refine E_ald (e := c) (N := 60) (v := ((Rft R c : Nat) : Int)) rfl (kR_21 hR) (rfl) (by omega) (hd.2.2.2 _ hc).2.1 ?_
    refine E_sub (v := (-(Rft R c : Int) - 10)) rfl (by omega) (by omega) ?_
    refine E_ret rfl rfl ?_
    rw [show Rtd R c = (-(Rft R c : Int) - 10) by unfold Rtd; rw [if_neg (by omega)]; omega] at q
    exact q
  · refine E_go (p' := 9) (L' := [some (aA (a + 15)), some (aI ((c : Nat) : Int))]) (st' := []) rfl rfl rfl ?_
    refine E_s (p' := 10) (st' := aA (a + 15) :: _) rfl rfl ?_
    refine E_gA (b := a + 22) rfl rfl rfl (kR_15 hR) (hR_15_6 hR) rfl ?_
    refine E_s (p' := 14) (st' := aI ((c : Nat) : Int) :: _) rfl rfl ?_
    refine E_ald (e := c) (N := 60) (v := ((Rvl R c : Nat) : Int)) rfl (kR_22 hR) (rfl) (by omega) (hd.2.2.2 _ hc).2.2.1 ?_
    refine E_s (p' := 27) rfl rfl ?_
    refine E_ret rfl rfl ?_
    rw [show Rtd R c = ((Rvl R c : Nat) : Int) by unfold Rtd; rw [if_pos (by omega)]] at q
    exact q
theorem c_isSound (hR : isR a) (hn : Cn R ≤ 60) (hC : CR R a m) (hd : RdC R a m) (hc : c < Cn R) (q1 : Ct R c = 0 → Rft R c = 0 → Q (some (aI 1)) (m, tl len)) (q0 : (Ct R c ≠ 0 ∨ Rft R c ≠ 0) → Q (some (aI 0)) (m, tl len)) : E 74 0 [some (aA a), some (aI ((c : Nat) : Int))] [] (m, tl len) Q := by
  refine E_s (p' := 1) (st' := aA a :: _) rfl rfl ?_
  refine E_gA (b := a + 1) rfl rfl rfl (kR_0 hR) (hR_0_0 hR) rfl ?_
  refine E_gA (b := a + 6) rfl rfl rfl (kR_1 hR) (hR_1_4 hR) rfl ?_
  refine E_s (p' := 8) (st' := aI ((c : Nat) : Int) :: _) rfl rfl ?_
  refine E_ald (e := c) (N := 60) (v := ((Ct R c : Nat) : Int)) rfl (kR_6 hR) (rfl) (by omega) (CR_6 hC (by omega)) ?_
  refine E_if_ne (x := ((Ct R c : Nat) : Int)) rfl (by decide) (fun h_1 => ?_) (fun h_1 => ?_)
  · refine E_go (p' := 28) (L' := [some (aA a), some (aI ((c : Nat) : Int))]) (st' := []) rfl rfl rfl ?_
    refine E_s (p' := 29) (st' := aI 0 :: _) rfl rfl ?_
    refine E_ret rfl rfl ?_
    exact q0 (by omega)
  · refine E_go (p' := 12) (L' := [some (aA a), some (aI ((c : Nat) : Int))]) (st' := []) rfl rfl rfl ?_
    refine E_s (p' := 13) (st' := aA a :: _) rfl rfl ?_
    refine E_gA (b := a + 15) rfl rfl rfl (kR_0 hR) (hR_0_4 hR) rfl ?_
    refine E_gA (b := a + 21) rfl rfl rfl (kR_15 hR) (hR_15_5 hR) rfl ?_
    refine E_s (p' := 20) (st' := aI ((c : Nat) : Int) :: _) rfl rfl ?_
    refine E_ald (e := c) (N := 60) (v := ((Rft R c : Nat) : Int)) rfl (kR_21 hR) (rfl) (by omega) (hd.2.2.2 _ hc).2.1 ?_
    refine E_if_ne (x := ((Rft R c : Nat) : Int)) rfl (by decide) (fun h_2 => ?_) (fun h_2 => ?_)
    · refine E_go (p' := 28) (L' := [some (aA a), some (aI ((c : Nat) : Int))]) (st' := []) rfl rfl rfl ?_
      refine E_s (p' := 29) (st' := aI 0 :: _) rfl rfl ?_
      refine E_ret rfl rfl ?_
      exact q0 (by omega)
    · refine E_go (p' := 24) (L' := [some (aA a), some (aI ((c : Nat) : Int))]) (st' := []) rfl rfl rfl ?_
      refine E_s (p' := 25) (st' := aI 1 :: _) rfl rfl ?_
      refine E_s (p' := 29) rfl rfl ?_
      refine E_ret rfl rfl ?_
      exact q1 (by omega) (by omega)
end
