section
variable {len : Nat} {m0 : Mm} {Q : Option AV → Sx → Prop} {R O : RD} {a b c : Nat} {r o : Int}
theorem c_growLikeness (hR : isR a) (hRb : isR b) (hC : CR R a m0) (hCb : CR O b m0) (hn : Cn R ≤ 60) (hnb : Cn O ≤ 60) (hda : RdC R a m0) (hdb : RdC O b m0) (hc : c < Cn R) (hsd : sdR R c = true) (hrow : ∀ j, j ≤ Cn O → m0 19 j = (lkR R O c j : Int)) (q : ∀ m1 : Mm, Fx 19 19 m0 m1 → (∀ j, j ≤ Cn O → m1 19 j = (lkR R O (c + 1) j : Int)) → Q none (m1, tl len)) : E 120 0 [some (aA 1), some (aA a), some (aI ((c : Nat) : Int)), some (aA b), none, none, none] [] (m0, tl len) Q := by
  refine E_s (p' := 1) (st' := aI 0 :: _) rfl rfl ?_
  refine E_s (p' := 3) (L' := [some (aA 1), some (aA a), some (aI ((c : Nat) : Int)), some (aA b), some (aI 0), none, none]) rfl rfl ?_
  refine E_s (p' := 4) (st' := aI 1 :: _) rfl rfl ?_
  refine E_s (p' := 6) (L' := [some (aA 1), some (aA a), some (aI ((c : Nat) : Int)), some (aA b), some (aI 0), some (aI 1), none]) rfl rfl ?_
  have e0 := lkR_z R O c
  have h := yl_gl hR hRb hC hCb hn hnb hda hdb hc hsd q (Cn O + 1) 0 m0 none (by omega) (by omega) Fx.rf (fun t ht9 => by rw [show t = 0 by omega, hrow 0 (by omega), lkR_z, lkR_z]) (fun t h1 h2 => hrow t h2)
  rw [e0] at h
  exact h
theorem yl_lk (hR : isR a) (hRb : isR b) (hC : CR R a m0) (hCb : CR O b m0) (hn : Cn R ≤ 60) (hnb : Cn O ≤ 60) (hda : RdC R a m0) (hdb : RdC O b m0) (q : ∀ m1 : Mm, Fx 19 19 m0 m1 → Q (some (aI (lkR R O (Cn R) (Cn O) : Int))) (m1, tl len)) : ∀ (d : Nat) (c : Nat) (m : Mm), (Cn R < c + d) → (c ≤ Cn R) → (Fx 19 19 m0 m) → (∀ j, j ≤ Cn O → m 19 j = (lkR R O c j : Int)) → E 119 36 [some (aA 1), some (aI (r)), some (aI (o)), some (aA a), some (aA b), some (aI ((c : Nat) : Int))] [] (m, tl len) Q := by
  intro d
  induction d with
  | zero => intro c m hd hc I1 J1; omega
  | succ d ih =>
    intro c m hd hc I1 J1
    have hab := isR_b hR
    have hbb := isR_b hRb
    have hCm : CR R a m := hC.of (fun b j g1 g2 _ => I1 b j (by omega))
    have hCbm : CR O b m := hCb.of (fun b j g1 g2 _ => I1 b j (by omega))
    have hdam : RdC R a m := hda.of (fun b j g1 g2 => I1 b j (by omega))
    have hdbm : RdC O b m := hdb.of (fun b j g1 g2 => I1 b j (by omega))
    refine E_s (p' := 38) (st' := aI ((c : Nat) : Int) :: _) rfl rfl ?_
    refine E_s (p' := 39) (st' := aA a :: _) rfl rfl ?_
    refine E_gA (b := a + 1) rfl rfl rfl (kR_0 hR) (hR_0_0 hR) rfl ?_
    refine E_gI (v := ((Cn R : Nat) : Int)) rfl rfl rfl (kR_1 hR) hCm.1 ?_
    refine E_icmp_ge (x := ((c : Nat) : Int)) (y := ((Cn R : Nat) : Int)) rfl (by decide) (fun h_1 => ?_) (fun h_1 => ?_)
    · refine E_go (p' := 72) (L' := [some (aA 1), some (aI (r)), some (aI (o)), some (aA a), some (aA b), some (aI ((c : Nat) : Int))]) (st' := []) rfl rfl rfl ?_
      refine E_s (p' := 73) (st' := aA 1 :: _) rfl rfl ?_
      refine E_gA (b := 19) rfl rfl rfl rfl rfl rfl ?_
      refine E_s (p' := 78) (st' := aA b :: _) rfl rfl ?_
      refine E_gA (b := b + 1) rfl rfl rfl (kR_0 hRb) (hR_0_0 hRb) rfl ?_
      refine E_gI (v := ((Cn O : Nat) : Int)) rfl rfl rfl (kR_1 hRb) hCbm.1 ?_
      refine E_ald (e := Cn O) (N := 61) (v := ((lkR R O (Cn R) (Cn O) : Nat) : Int)) rfl rfl (rfl) (by omega) (by rw [show Cn R = c by omega]; exact J1 _ (Nat.le_refl _)) ?_
      refine E_ret rfl rfl ?_
      exact q m I1
    · refine E_go (p' := 48) (L' := [some (aA 1), some (aI (r)), some (aI (o)), some (aA a), some (aA b), some (aI ((c : Nat) : Int))]) (st' := []) rfl rfl rfl ?_
      refine E_s (p' := 49) (st' := aA a :: _) rfl rfl ?_
      refine E_s (p' := 51) (st' := aI ((c : Nat) : Int) :: _) rfl rfl ?_
      refine E_callV (k' := 74) (a := a) (r := []) (L0 := [some (aA a), some (aI ((c : Nat) : Int))]) rfl rfl rfl rfl rfl (kR_0 hR) rfl rfl rfl rfl ?_
      refine c_isSound hR hn hCm hdam (c := c) (by omega) (fun hs1 hs2 => ?_) (fun hs0 => ?_)
      · refine E_go (p' := 54) (L' := [some (aA 1), some (aI (r)), some (aI (o)), some (aA a), some (aA b), some (aI ((c : Nat) : Int))]) (st' := [aI 1]) rfl rfl rfl ?_
        refine E_s (p' := 57) rfl rfl ?_
        refine E_s (p' := 58) (st' := aA 1 :: _) rfl rfl ?_
        refine E_s (p' := 59) (st' := aA a :: _) rfl rfl ?_
        refine E_s (p' := 61) (st' := aI ((c : Nat) : Int) :: _) rfl rfl ?_
        refine E_s (p' := 63) (st' := aA b :: _) rfl rfl ?_
        refine E_callV (k' := 120) (a := 1) (r := []) (L0 := [some (aA 1), some (aA a), some (aI ((c : Nat) : Int)), some (aA b), none, none, none]) rfl rfl rfl rfl rfl rfl rfl rfl rfl rfl ?_
        refine c_growLikeness hR hRb hCm hCbm hn hnb hdam hdbm (c := c) (by omega) (sdR_t hs1 hs2) J1 (fun m1 F1 K1 => ?_)
        refine E_go (p' := 66) (L' := [some (aA 1), some (aI (r)), some (aI (o)), some (aA a), some (aA b), some (aI ((c : Nat) : Int))]) (st' := []) rfl rfl rfl ?_
        refine E_inc (x := ((c : Nat) : Int)) (w := ((c + 1 : Nat) : Int)) (L' := [some (aA 1), some (aI (r)), some (aI (o)), some (aA a), some (aA b), some (aI ((c + 1 : Nat) : Int))]) rfl rfl rfl (by omega) (by omega) rfl ?_
        refine E_s (p' := 36) rfl rfl ?_
        exact ih (c + 1) m1 (by omega) (by omega) (I1.tr F1) K1
      · refine E_go (p' := 54) (L' := [some (aA 1), some (aI (r)), some (aI (o)), some (aA a), some (aA b), some (aI ((c : Nat) : Int))]) (st' := [aI 0]) rfl rfl rfl ?_
        refine E_s (p' := 66) rfl rfl ?_
        refine E_inc (x := ((c : Nat) : Int)) (w := ((c + 1 : Nat) : Int)) (L' := [some (aA 1), some (aI (r)), some (aI (o)), some (aA a), some (aA b), some (aI ((c + 1 : Nat) : Int))]) rfl rfl rfl (by omega) (by omega) rfl ?_
        refine E_s (p' := 36) rfl rfl ?_
        exact ih (c + 1) m (by omega) (by omega) I1 (fun j hj => by rw [lkR_s (sdR_f hs0)]; exact J1 j hj)
end
section
variable {len : Nat} {m : Mm} {Q : Option AV → Sx → Prop} {S : Nat → RD} {r o : Int}
theorem C_likeness (hS : CS S m) (q : ∀ (v : Int) (m1 : Mm), spLike S r o v → CS S m1 → Mo m m1 → Q (some (aI v)) (m1, tl len)) : E 119 0 [some (aA 1), some (aI (r)), some (aI (o)), none, none, none] [] (m, tl len) Q := by
  refine E_s (p' := 1) (st' := aA 1 :: _) rfl rfl ?_
  refine E_s (p' := 2) (st' := aI (r) :: _) rfl rfl ?_
  refine E_callV (k' := 34) (a := 1) (r := []) (L0 := [some (aA 1), some (aI (r)), none]) rfl rfl rfl rfl rfl rfl rfl rfl rfl rfl ?_
  refine c_readOf2 hS (fun i a m1 hi hr ha hR hS1 h7a hk1 hMo1 => ?_) (fun hr => ?_)
  · refine E_go (p' := 5) (L' := [some (aA 1), some (aI (r)), some (aI (o)), none, none, none]) (st' := [aA a]) rfl rfl rfl ?_
    refine E_s (p' := 6) (L' := [some (aA 1), some (aI (r)), some (aI (o)), some (aA a), none, none]) rfl rfl ?_
    refine E_s (p' := 7) (st' := aA 1 :: _) rfl rfl ?_
    refine E_s (p' := 8) (st' := aI (o) :: _) rfl rfl ?_
    refine E_callV (k' := 34) (a := 1) (r := []) (L0 := [some (aA 1), some (aI (o)), none]) rfl rfl rfl rfl rfl rfl rfl rfl rfl rfl ?_
    refine c_readOf2 hS1 (fun k b m2 hk ho hb hRb hS2 h7b hk2 hMo2 => ?_) (fun ho => ?_)
    · refine E_go (p' := 11) (L' := [some (aA 1), some (aI (r)), some (aI (o)), some (aA a), none, none]) (st' := [aA b]) rfl rfl rfl ?_
      refine E_s (p' := 13) (L' := [some (aA 1), some (aI (r)), some (aI (o)), some (aA a), some (aA b), none]) rfl rfl ?_
      refine E_s (p' := 14) (st' := aA a :: _) rfl rfl ?_
      refine E_s (p' := 17) rfl rfl ?_
      refine E_s (p' := 19) (st' := aA b :: _) rfl rfl ?_
      refine E_s (p' := 25) rfl rfl ?_
      refine E_s (p' := 26) (st' := aA 1 :: _) rfl rfl ?_
      refine E_gA (b := 19) rfl rfl rfl rfl rfl rfl ?_
      refine E_s (p' := 30) (st' := aI 0 :: _) rfl rfl ?_
      refine E_callL (p' := 33) (L0 := [some (aA 19), some (aI 0), none, none]) rfl rfl rfl ?_
      refine c_fillL (N := 61) rfl ?_
      refine E_go (p' := 33) (L' := [some (aA 1), some (aI (r)), some (aI (o)), some (aA a), some (aA b), none]) (st' := []) rfl rfl rfl ?_
      refine E_s (p' := 34) (st' := aI 0 :: _) rfl rfl ?_
      refine E_s (p' := 36) (L' := [some (aA 1), some (aI (r)), some (aI (o)), some (aA a), some (aA b), some (aI 0)]) rfl rfl ?_
      have hab := isR_b hR
      have hbb := isR_b hRb
      obtain ⟨hVa, hCa, hrda⟩ := hS2 i hi
      obtain ⟨hVb, hCb, hrdb⟩ := hS2 k hk
      rw [← ha] at hCa hrda
      rw [← hb] at hCb hrdb
      have h7a2 : m2 a 7 = 1 := by have := hk2 i hi (by rw [← ha]; exact h7a); rw [← ha] at this; exact this
      have hda : RdC (S i) a m2 := by rcases hrda with g9 | g9; omega; exact g9.2
      have hdb : RdC (S k) b m2 := by rcases hrdb with g9 | g9; omega; exact g9.2
      have hF : Fx 19 19 m2 (fillm m2 19 0 61 0) := Fx.rf.fill (by omega) (by omega)
      refine yl_lk hR hRb (hCa.of (fun b j g1 g2 _ => hF b j (by omega))) (hCb.of (fun b j g1 g2 _ => hF b j (by omega))) hVa.1 hVb.1 (hda.of (fun b j g1 g2 => hF b j (by omega))) (hdb.of (fun b j g1 g2 => hF b j (by omega))) (fun m9 F9 => ?_) (Cn (S i) + 1) 0 _ (by omega) (by omega) Fx.rf (fun j hj => (fillm_in (by have := hVb.1; omega)).trans rfl)
      exact q _ m9 (Or.inl ⟨i, k, hi, hk, hr, ho, rfl⟩) (fun x hx => (hS2 x hx).of (fun b j g1 g2 => (F9 b j (by unfold tgA at g1; omega)).trans (hF b j (by unfold tgA at g1; omega)))) (fun b j hb => (F9 b j (by omega)).trans ((hF b j (by omega)).trans ((hMo2 b j hb).trans (hMo1 b j hb))))
    · refine E_go (p' := 11) (L' := [some (aA 1), some (aI (r)), some (aI (o)), some (aA a), none, none]) (st' := [aN]) rfl rfl rfl ?_
      refine E_s (p' := 13) (L' := [some (aA 1), some (aI (r)), some (aI (o)), some (aA a), some (aN), none]) rfl rfl ?_
      refine E_s (p' := 14) (st' := aA a :: _) rfl rfl ?_
      refine E_s (p' := 17) rfl rfl ?_
      refine E_s (p' := 19) (st' := aN :: _) rfl rfl ?_
      refine E_s (p' := 22) rfl rfl ?_
      refine E_s (p' := 24) (st' := aI (-2) :: _) rfl rfl ?_
      refine E_ret rfl rfl ?_
      exact q _ m1 (Or.inr ⟨by omega, rfl⟩) hS1 hMo1
  · refine E_go (p' := 5) (L' := [some (aA 1), some (aI (r)), some (aI (o)), none, none, none]) (st' := [aN]) rfl rfl rfl ?_
    refine E_s (p' := 6) (L' := [some (aA 1), some (aI (r)), some (aI (o)), some (aN), none, none]) rfl rfl ?_
    refine E_s (p' := 7) (st' := aA 1 :: _) rfl rfl ?_
    refine E_s (p' := 8) (st' := aI (o) :: _) rfl rfl ?_
    refine E_callV (k' := 34) (a := 1) (r := []) (L0 := [some (aA 1), some (aI (o)), none]) rfl rfl rfl rfl rfl rfl rfl rfl rfl rfl ?_
    refine c_readOf2 hS (fun k b m2 hk ho hb hRb hS2 h7b hk2 hMo2 => ?_) (fun ho => ?_)
    · refine E_go (p' := 11) (L' := [some (aA 1), some (aI (r)), some (aI (o)), some (aN), none, none]) (st' := [aA b]) rfl rfl rfl ?_
      refine E_s (p' := 13) (L' := [some (aA 1), some (aI (r)), some (aI (o)), some (aN), some (aA b), none]) rfl rfl ?_
      refine E_s (p' := 14) (st' := aN :: _) rfl rfl ?_
      refine E_s (p' := 22) rfl rfl ?_
      refine E_s (p' := 24) (st' := aI (-2) :: _) rfl rfl ?_
      refine E_ret rfl rfl ?_
      exact q _ m2 (Or.inr ⟨by omega, rfl⟩) hS2 hMo2
    · refine E_go (p' := 11) (L' := [some (aA 1), some (aI (r)), some (aI (o)), some (aN), none, none]) (st' := [aN]) rfl rfl rfl ?_
      refine E_s (p' := 13) (L' := [some (aA 1), some (aI (r)), some (aI (o)), some (aN), some (aN), none]) rfl rfl ?_
      refine E_s (p' := 14) (st' := aN :: _) rfl rfl ?_
      refine E_s (p' := 22) rfl rfl ?_
      refine E_s (p' := 24) (st' := aI (-2) :: _) rfl rfl ?_
      refine E_ret rfl rfl ?_
      exact q _ m (Or.inr ⟨by omega, rfl⟩) hS Mo.rf
end
