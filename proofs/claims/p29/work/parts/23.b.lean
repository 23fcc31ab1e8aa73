/-! likeness -/
def alk (R O : RD) (x y : Nat) : Bool := sdR R x && (sdR O y && (decide (Rvl R x = Rvl O y) && decide (Cc R x = Cc O y)))
def lkS (al : Nat → Bool) (old : Nat → Nat) : Nat → Nat
  | 0 => 0
  | j + 1 => bif al j then old j + 1 else max (old (j + 1)) (lkS al old j)
def lkR (R O : RD) : Nat → Nat → Nat
  | 0 => fun _ => 0
  | x + 1 => lkS (alk R O x) (lkR R O x)
theorem lkS_u {al : Nat → Bool} {old : Nat → Nat} (hm : ∀ j, old j ≤ old (j + 1)) : ∀ j, lkS al old j ≤ old j + 1 := by
  intro j
  induction j with
  | zero => exact Nat.zero_le _
  | succ j ih =>
    have := hm j
    show (bif al j then old j + 1 else max (old (j + 1)) (lkS al old j)) ≤ _
    cases al j
    · show max _ _ ≤ _; omega
    · show old j + 1 ≤ _; omega
theorem lkS_m {al : Nat → Bool} {old : Nat → Nat} (hm : ∀ j, old j ≤ old (j + 1)) : ∀ j, lkS al old j ≤ lkS al old (j + 1) := by
  intro j
  have := lkS_u (al := al) hm j
  show _ ≤ (bif al j then old j + 1 else max (old (j + 1)) (lkS al old j))
  cases al j
  · show _ ≤ max _ _; omega
  · show _ ≤ old j + 1; omega
theorem lkR_m (R O : RD) : ∀ x j, lkR R O x j ≤ lkR R O x (j + 1) := by
  intro x
  induction x with
  | zero => intro j; exact Nat.le_refl _
  | succ x ih => exact lkS_m ih
theorem lkR_b (R O : RD) : ∀ x j, lkR R O x j ≤ j := by
  intro x
  induction x with
  | zero => intro j; exact Nat.zero_le _
  | succ x ih =>
    intro j
    induction j with
    | zero => exact Nat.le_refl _
    | succ j ihj =>
      have h1 := ih j
      have h2 := ih (j + 1)
      have h3 : lkS (alk R O x) (lkR R O x) j ≤ j := ihj
      show (bif alk R O x j then lkR R O x j + 1 else max (lkR R O x (j + 1)) (lkS (alk R O x) (lkR R O x) j)) ≤ _
      cases alk R O x j
      · show max _ _ ≤ _; omega
      · show lkR R O x j + 1 ≤ _; omega
theorem lkR_z (R O : RD) (x : Nat) : lkR R O x 0 = 0 := Nat.le_zero.mp (lkR_b R O x 0)
/-- a CORD that is not sound leaves the row as it is -/
theorem lkR_s {R O : RD} {x : Nat} (h : sdR R x = false) : lkR R O (x + 1) = lkR R O x := by
  funext j
  induction j with
  | zero => rw [lkR_z, lkR_z]
  | succ j ih =>
    have hm := lkR_m R O x j
    have ih' : lkS (alk R O x) (lkR R O x) j = lkR R O x j := ih
    show (bif alk R O x j then lkR R O x j + 1 else max (lkR R O x (j + 1)) (lkS (alk R O x) (lkR R O x) j)) = _
    have ha : alk R O x j = false := by unfold alk; rw [h]; rfl
    rw [ha, ih']
    show max _ _ = _
    omega
def spLike (S : Nat → RD) (r o v : Int) : Prop := (∃ i k : Nat, i < 4 ∧ k < 4 ∧ r = i ∧ o = k ∧ v = (lkR (S i) (S k) (Cn (S i)) (Cn (S k)) : Int)) ∨ (((r < 0 ∨ 3 < r) ∨ (o < 0 ∨ 3 < o)) ∧ v = -2)
section
variable {len : Nat} {m : Mm} {Q : Option AV → Sx → Prop} {R O : RD} {a b c : Nat} {S : Nat → RD} {r o : Int}
theorem c_readNow2 (hR : isR a) (h : CS1 R a m) (q : ∀ m1 : Mm, CS1 R a m1 → RdC R a m1 → m1 a 7 = 1 → Fx a (a + 25) m m1 → Q (some (aA (a + 15))) (m1, tl len)) : E 35 0 [some (aA a)] [] (m, tl len) Q := by
  obtain ⟨hV, hC, hrd⟩ := id h
  have hab := isR_b hR
  refine E_s (p' := 1) (st' := aA a :: _) rfl rfl ?_
  refine E_gI (v := ((m a 7))) rfl rfl rfl (kR_0 hR) rfl ?_
  refine E_if_ne (x := ((m a 7))) rfl (by decide) (fun h_1 => ?_) (fun h_1 => ?_)
  · refine E_go (p' := 27) (L' := [some (aA a)]) (st' := []) rfl rfl rfl ?_
    refine E_s (p' := 28) (st' := aA a :: _) rfl rfl ?_
    refine E_gA (b := a + 15) rfl rfl rfl (kR_0 hR) (hR_0_4 hR) rfl ?_
    refine E_ret rfl rfl ?_
    rcases hrd with g | ⟨g, g2⟩
    · omega
    · exact q m h g2 g Fx.rf
  · refine E_go (p' := 7) (L' := [some (aA a)]) (st' := []) rfl rfl rfl ?_
    refine E_s (p' := 8) (st' := aA a :: _) rfl rfl ?_
    refine E_gA (b := a + 15) rfl rfl rfl (kR_0 hR) (hR_0_4 hR) rfl ?_
    refine E_s (p' := 12) (st' := aA a :: _) rfl rfl ?_
    refine E_gA (b := a + 1) rfl rfl rfl (kR_0 hR) (hR_0_0 hR) rfl ?_
    refine E_s (p' := 16) (st' := aA a :: _) rfl rfl ?_
    refine E_gI (v := ((Cq R : Nat) : Int)) rfl rfl rfl (kR_0 hR) hC.2.1 ?_
    refine E_callV (k' := 36) (a := a + 15) (r := []) (L0 := [some (aA (a + 15)), some (aA (a + 1)), some (aI ((Cq R : Nat) : Int)), none]) rfl rfl rfl rfl rfl (kR_15 hR) rfl rfl rfl rfl ?_
    refine c_read hR hC hV (fun m1 F1 D1 => ?_)
    refine E_go (p' := 22) (L' := [some (aA a)]) (st' := []) rfl rfl rfl ?_
    refine E_s (p' := 23) (st' := aA a :: _) rfl rfl ?_
    refine E_s (p' := 24) (st' := aI 1 :: _) rfl rfl ?_
    refine E_pI rfl rfl rfl (kR_0 hR) (Or.inr (by decide)) ?_
    refine E_s (p' := 28) (st' := aA a :: _) rfl rfl ?_
    refine E_gA (b := a + 15) rfl rfl rfl (kR_0 hR) (hR_0_4 hR) rfl ?_
    refine E_ret rfl rfl ?_
    exact q _ ⟨hV, hC.of (fun b j g1 g2 g3 => (up2_o (by omega)).trans (F1 b j (by omega))), Or.inr ⟨up2_eq, D1.of (fun b j g1 g2 => up2_ne (by omega))⟩⟩ (D1.of (fun b j g1 g2 => up2_ne (by omega))) up2_eq (fun b j hb => (up2_ne (by omega)).trans (F1 b j (by omega)))
theorem c_readOf2 (hS : CS S m) (q1 : ∀ (i a : Nat) (m1 : Mm), i < 4 → r = i → a = tgA i → isR a → CS S m1 → m1 a 7 = 1 → (∀ k, k < 4 → m (tgA k) 7 = 1 → m1 (tgA k) 7 = 1) → Mo m m1 → Q (some (aA a)) (m1, tl len)) (q0 : (r < 0 ∨ 3 < r) → Q (some aN) (m, tl len)) : E 34 0 [some (aA 1), some (aI (r)), none] [] (m, tl len) Q := by
  refine E_s (p' := 1) (st' := aA 1 :: _) rfl rfl ?_
  refine E_s (p' := 2) (st' := aI (r) :: _) rfl rfl ?_
  refine E_callV (k' := 12) (a := 1) (r := []) (L0 := [some (aA 1), some (aI (r))]) rfl rfl rfl rfl rfl rfl rfl rfl rfl rfl ?_
  refine c_recordOf' (fun i a hi hr ha hR => ?_) (fun hr => ?_)
  · refine E_go (p' := 5) (L' := [some (aA 1), some (aI (r)), none]) (st' := [aA a]) rfl rfl rfl ?_
    refine E_s (p' := 6) (L' := [some (aA 1), some (aI (r)), some (aA a)]) rfl rfl ?_
    refine E_s (p' := 7) (st' := aA a :: _) rfl rfl ?_
    refine E_s (p' := 10) rfl rfl ?_
    refine E_s (p' := 11) (st' := aA a :: _) rfl rfl ?_
    refine E_callV (k' := 35) (a := a) (r := []) (L0 := [some (aA a)]) rfl rfl rfl rfl rfl (kR_0 hR) rfl rfl rfl rfl ?_
    refine c_readNow2 hR (ha ▸ hS i hi) (fun m1 h1 hd1 h7 hF1 => ?_)
    refine E_go (p' := 14) (L' := [some (aA 1), some (aI (r)), some (aA a)]) (st' := [aA (a + 15)]) rfl rfl rfl ?_
    refine E_s (p' := 15) rfl rfl ?_
    refine E_s (p' := 16) (st' := aA a :: _) rfl rfl ?_
    refine E_ret rfl rfl ?_
    have hab := isR_b hR
    have e9 : upf S i (S i) = S := upf_self
    refine q1 i a m1 hi hr ha hR (e9 ▸ hS.set hi ha h1 (fun b j hb => hF1 b j (by omega))) h7 (fun k hk h9 => ?_) (fun b j hb => hF1 b j (by omega))
    by_cases g9 : k = i
    · rw [g9, ← ha]; exact h7
    · rw [hF1 _ _ (by rw [ha]; unfold tgA; omega)]; exact h9
  · refine E_go (p' := 5) (L' := [some (aA 1), some (aI (r)), none]) (st' := [aN]) rfl rfl rfl ?_
    refine E_s (p' := 6) (L' := [some (aA 1), some (aI (r)), some (aN)]) rfl rfl ?_
    refine E_s (p' := 7) (st' := aN :: _) rfl rfl ?_
    refine E_s (p' := 15) rfl rfl ?_
    refine E_s (p' := 16) (st' := aN :: _) rfl rfl ?_
    refine E_ret rfl rfl ?_
    exact q0 hr
theorem c_alike (hR : isR a) (hRb : isR b) (hC : CR R a m) (hCb : CR O b m) (hn : Cn R ≤ 60) (hnb : Cn O ≤ 60) (hda : RdC R a m) (hdb : RdC O b m) {d : Nat} (hc : c < Cn R) (hd : d < Cn O) (hsd : sdR R c = true) (q : Q (some (aI (bi (alk R O c d)))) (m, tl len)) : E 121 0 [some (aA a), some (aI ((c : Nat) : Int)), some (aA b), some (aI ((d : Nat) : Int))] [] (m, tl len) Q := by
  refine E_s (p' := 1) (st' := aA a :: _) rfl rfl ?_
  refine E_gA (b := a + 1) rfl rfl rfl (kR_0 hR) (hR_0_0 hR) rfl ?_
  refine E_gA (b := a + 4) rfl rfl rfl (kR_1 hR) (hR_1_2 hR) rfl ?_
  refine E_s (p' := 8) (st' := aI ((c : Nat) : Int) :: _) rfl rfl ?_
  refine E_ald (e := c) (N := 60) (v := ((Cc R c : Nat) : Int)) rfl (kR_4 hR) (rfl) (by omega) (CR_4 hC (by omega)) ?_
  refine E_s (p' := 10) (st' := aA b :: _) rfl rfl ?_
  refine E_gA (b := b + 1) rfl rfl rfl (kR_0 hRb) (hR_0_0 hRb) rfl ?_
  refine E_gA (b := b + 4) rfl rfl rfl (kR_1 hRb) (hR_1_2 hRb) rfl ?_
  refine E_s (p' := 17) (st' := aI ((d : Nat) : Int) :: _) rfl rfl ?_
  refine E_ald (e := d) (N := 60) (v := ((Cc O d : Nat) : Int)) rfl (kR_4 hRb) (rfl) (by omega) (CR_4 hCb (by omega)) ?_
  refine E_icmp_ne (x := ((Cc R c : Nat) : Int)) (y := ((Cc O d : Nat) : Int)) rfl (by decide) (fun h_1 => ?_) (fun h_1 => ?_)
  · refine E_go (p' := 54) (L' := [some (aA a), some (aI ((c : Nat) : Int)), some (aA b), some (aI ((d : Nat) : Int))]) (st' := []) rfl rfl rfl ?_
    refine E_s (p' := 55) (st' := aI 0 :: _) rfl rfl ?_
    refine E_ret rfl rfl ?_
    rw [show alk R O c d = false by unfold alk; rw [hsd]; first   | (rw [decide_eq_false (p := Cc R c = Cc O d) (by omega)]; simp)   | (rw [sdR_f hs0]; rfl)   | (rw [decide_eq_false (p := Rvl R c = Rvl O d) (by omega)]; simp)] at q
    exact q
  · refine E_go (p' := 21) (L' := [some (aA a), some (aI ((c : Nat) : Int)), some (aA b), some (aI ((d : Nat) : Int))]) (st' := []) rfl rfl rfl ?_
    refine E_s (p' := 22) (st' := aA b :: _) rfl rfl ?_
    refine E_s (p' := 23) (st' := aI ((d : Nat) : Int) :: _) rfl rfl ?_
    refine E_callV (k' := 74) (a := b) (r := []) (L0 := [some (aA b), some (aI ((d : Nat) : Int))]) rfl rfl rfl rfl rfl (kR_0 hRb) rfl rfl rfl rfl ?_
    refine c_isSound hRb hnb hCb hdb hd (fun hs1 hs2 => ?_) (fun hs0 => ?_)
    · refine E_go (p' := 26) (L' := [some (aA a), some (aI ((c : Nat) : Int)), some (aA b), some (aI ((d : Nat) : Int))]) (st' := [aI 1]) rfl rfl rfl ?_
      refine E_s (p' := 29) rfl rfl ?_
      refine E_s (p' := 30) (st' := aA a :: _) rfl rfl ?_
      refine E_gA (b := a + 15) rfl rfl rfl (kR_0 hR) (hR_0_4 hR) rfl ?_
      refine E_gA (b := a + 22) rfl rfl rfl (kR_15 hR) (hR_15_6 hR) rfl ?_
      refine E_s (p' := 37) (st' := aI ((c : Nat) : Int) :: _) rfl rfl ?_
      refine E_ald (e := c) (N := 60) (v := ((Rvl R c : Nat) : Int)) rfl (kR_22 hR) (rfl) (by omega) (hda.2.2.2 _ (by omega)).2.2.1 ?_
      refine E_s (p' := 39) (st' := aA b :: _) rfl rfl ?_
      refine E_gA (b := b + 15) rfl rfl rfl (kR_0 hRb) (hR_0_4 hRb) rfl ?_
      refine E_gA (b := b + 22) rfl rfl rfl (kR_15 hRb) (hR_15_6 hRb) rfl ?_
      refine E_s (p' := 46) (st' := aI ((d : Nat) : Int) :: _) rfl rfl ?_
      refine E_ald (e := d) (N := 60) (v := ((Rvl O d : Nat) : Int)) rfl (kR_22 hRb) (rfl) (by omega) (hdb.2.2.2 _ (by omega)).2.2.1 ?_
      refine E_icmp_ne (x := ((Rvl R c : Nat) : Int)) (y := ((Rvl O d : Nat) : Int)) rfl (by decide) (fun h_2 => ?_) (fun h_2 => ?_)
      · refine E_go (p' := 54) (L' := [some (aA a), some (aI ((c : Nat) : Int)), some (aA b), some (aI ((d : Nat) : Int))]) (st' := []) rfl rfl rfl ?_
        refine E_s (p' := 55) (st' := aI 0 :: _) rfl rfl ?_
        refine E_ret rfl rfl ?_
        rw [show alk R O c d = false by unfold alk; rw [hsd]; first   | (rw [decide_eq_false (p := Cc R c = Cc O d) (by omega)]; simp)   | (rw [sdR_f hs0]; rfl)   | (rw [decide_eq_false (p := Rvl R c = Rvl O d) (by omega)]; simp)] at q
        exact q
      · refine E_go (p' := 50) (L' := [some (aA a), some (aI ((c : Nat) : Int)), some (aA b), some (aI ((d : Nat) : Int))]) (st' := []) rfl rfl rfl ?_
        refine E_s (p' := 51) (st' := aI 1 :: _) rfl rfl ?_
        refine E_s (p' := 55) rfl rfl ?_
        refine E_ret rfl rfl ?_
        rw [show alk R O c d = true by unfold alk; rw [hsd]; rw [sdR_t hs1 hs2, decide_eq_true (by omega), decide_eq_true (by omega)]; rfl] at q
        exact q
    · refine E_go (p' := 26) (L' := [some (aA a), some (aI ((c : Nat) : Int)), some (aA b), some (aI ((d : Nat) : Int))]) (st' := [aI 0]) rfl rfl rfl ?_
      refine E_s (p' := 54) rfl rfl ?_
      refine E_s (p' := 55) (st' := aI 0 :: _) rfl rfl ?_
      refine E_ret rfl rfl ?_
      rw [show alk R O c d = false by unfold alk; rw [hsd]; first   | (rw [decide_eq_false (p := Cc R c = Cc O d) (by omega)]; simp)   | (rw [sdR_f hs0]; rfl)   | (rw [decide_eq_false (p := Rvl R c = Rvl O d) (by omega)]; simp)] at q
      exact q
end
section
variable {len : Nat} {m0 : Mm} {Q : Option AV → Sx → Prop} {R O : RD} {a b c : Nat} {S : Nat → RD} {r o : Int}
theorem yl_gl (hR : isR a) (hRb : isR b) (hC : CR R a m0) (hCb : CR O b m0) (hn : Cn R ≤ 60) (hnb : Cn O ≤ 60) (hda : RdC R a m0) (hdb : RdC O b m0) (hc : c < Cn R) (hsd : sdR R c = true) (q : ∀ m1 : Mm, Fx 19 19 m0 m1 → (∀ j, j ≤ Cn O → m1 19 j = (lkR R O (c + 1) j : Int)) → Q none (m1, tl len)) : ∀ (d : Nat) (jp : Nat) (m : Mm) (x6 : Option AV), (Cn O < jp + d) → (jp ≤ Cn O) → (Fx 19 19 m0 m) → (∀ t, t ≤ jp → m 19 t = (lkR R O (c + 1) t : Int)) → (∀ t, jp < t → t ≤ Cn O → m 19 t = (lkR R O c t : Int)) → E 120 6 [some (aA 1), some (aA a), some (aI ((c : Nat) : Int)), some (aA b), some (aI ((lkR R O c jp : Nat) : Int)), some (aI ((jp + 1 : Nat) : Int)), x6] [] (m, tl len) Q := by
  intro d
  induction d with
  | zero => intro jp m x6 hd hj I1 J1 J2; omega
  | succ d ih =>
    intro jp m x6 hd hj I1 J1 J2
    have hab := isR_b hR
    have hbb := isR_b hRb
    have hCm : CR R a m := hC.of (fun b j g1 g2 _ => I1 b j (by omega))
    have hCbm : CR O b m := hCb.of (fun b j g1 g2 _ => I1 b j (by omega))
    have hdam : RdC R a m := hda.of (fun b j g1 g2 => I1 b j (by omega))
    have hdbm : RdC O b m := hdb.of (fun b j g1 g2 => I1 b j (by omega))
    have hb1 := lkR_b R O c jp
    have hb2 := lkR_b R O c (jp + 1)
    have hb3 := lkR_b R O (c + 1) jp
    refine E_s (p' := 8) (st' := aI ((jp + 1 : Nat) : Int) :: _) rfl rfl ?_
    refine E_s (p' := 9) (st' := aA b :: _) rfl rfl ?_
    refine E_gA (b := b + 1) rfl rfl rfl (kR_0 hRb) (hR_0_0 hRb) rfl ?_
    refine E_gI (v := ((Cn O : Nat) : Int)) rfl rfl rfl (kR_1 hRb) hCbm.1 ?_
    refine E_icmp_gt (x := ((jp + 1 : Nat) : Int)) (y := ((Cn O : Nat) : Int)) rfl (by decide) (fun h_1 => ?_) (fun h_1 => ?_)
    · refine E_go (p' := 78) (L' := [some (aA 1), some (aA a), some (aI ((c : Nat) : Int)), some (aA b), some (aI ((lkR R O c jp : Nat) : Int)), some (aI ((jp + 1 : Nat) : Int)), x6]) (st' := []) rfl rfl rfl ?_
      refine E_ret rfl rfl ?_
      have e9 : jp = Cn O := by omega
      subst e9
      exact q m I1 J1
    · refine E_go (p' := 18) (L' := [some (aA 1), some (aA a), some (aI ((c : Nat) : Int)), some (aA b), some (aI ((lkR R O c jp : Nat) : Int)), some (aI ((jp + 1 : Nat) : Int)), x6]) (st' := []) rfl rfl rfl ?_
      refine E_s (p' := 19) (st' := aA 1 :: _) rfl rfl ?_
      refine E_gA (b := 19) rfl rfl rfl rfl rfl rfl ?_
      refine E_s (p' := 24) (st' := aI ((jp + 1 : Nat) : Int) :: _) rfl rfl ?_
      refine E_ald (e := jp + 1) (N := 61) (v := ((lkR R O c (jp + 1) : Nat) : Int)) rfl rfl (rfl) (by omega) (J2 _ (by omega) (by omega)) ?_
      refine E_s (p' := 27) (L' := [some (aA 1), some (aA a), some (aI ((c : Nat) : Int)), some (aA b), some (aI ((lkR R O c jp : Nat) : Int)), some (aI ((jp + 1 : Nat) : Int)), some (aI ((lkR R O c (jp + 1) : Nat) : Int))]) rfl rfl ?_
      refine E_s (p' := 28) (st' := aA 1 :: _) rfl rfl ?_
      refine E_gA (b := 19) rfl rfl rfl rfl rfl rfl ?_
      refine E_s (p' := 33) (st' := aI ((jp + 1 : Nat) : Int) :: _) rfl rfl ?_
      refine E_s (p' := 34) (st' := aA a :: _) rfl rfl ?_
      refine E_s (p' := 35) (st' := aI ((c : Nat) : Int) :: _) rfl rfl ?_
      refine E_s (p' := 36) (st' := aA b :: _) rfl rfl ?_
      refine E_s (p' := 38) (st' := aI ((jp + 1 : Nat) : Int) :: _) rfl rfl ?_
      refine E_s (p' := 39) (st' := aI 1 :: _) rfl rfl ?_
      refine E_sub (v := ((jp : Nat) : Int)) rfl (by omega) (by omega) ?_
      refine E_callL (p' := 43) (L0 := [some (aA a), some (aI ((c : Nat) : Int)), some (aA b), some (aI ((jp : Nat) : Int))]) rfl rfl rfl ?_
      refine c_alike hR hRb hCm hCbm hn hnb hdam hdbm (c := c) (d := jp) hc (by omega) hsd ?_
      refine E_go (p' := 43) (L' := [some (aA 1), some (aA a), some (aI ((c : Nat) : Int)), some (aA b), some (aI ((lkR R O c jp : Nat) : Int)), some (aI ((jp + 1 : Nat) : Int)), some (aI ((lkR R O c (jp + 1) : Nat) : Int))]) (st' := [aI (bi (alk R O c jp)), aI ((jp + 1 : Nat) : Int), aA 19]) rfl rfl rfl ?_
      refine E_b_eq0 (b := (alk R O c jp)) rfl (by decide) (fun h_2 => ?_) (fun h_2 => ?_)
      · refine E_go (p' := 53) (L' := [some (aA 1), some (aA a), some (aI ((c : Nat) : Int)), some (aA b), some (aI ((lkR R O c jp : Nat) : Int)), some (aI ((jp + 1 : Nat) : Int)), some (aI ((lkR R O c (jp + 1) : Nat) : Int))]) (st' := [aI ((jp + 1 : Nat) : Int), aA 19]) rfl rfl rfl ?_
        refine E_s (p' := 55) (st' := aI ((lkR R O c (jp + 1) : Nat) : Int) :: _) rfl rfl ?_
        refine E_s (p' := 56) (st' := aA 1 :: _) rfl rfl ?_
        refine E_gA (b := 19) rfl rfl rfl rfl rfl rfl ?_
        refine E_s (p' := 61) (st' := aI ((jp + 1 : Nat) : Int) :: _) rfl rfl ?_
        refine E_s (p' := 62) (st' := aI 1 :: _) rfl rfl ?_
        refine E_sub (v := ((jp : Nat) : Int)) rfl (by omega) (by omega) ?_
        refine E_ald (e := jp) (N := 61) (v := ((lkR R O (c + 1) jp : Nat) : Int)) rfl rfl (rfl) (by omega) (J1 _ (by omega)) ?_
        refine E_s (p' := 67) (st' := aI ((if ((lkR R O c (jp + 1) : Nat) : Int) < ((lkR R O (c + 1) jp : Nat) : Int) then ((lkR R O (c + 1) jp : Nat) : Int) else ((lkR R O c (jp + 1) : Nat) : Int))) :: _) rfl rfl ?_
        refine E_ast (e := jp + 1) (N := 61) rfl rfl (rfl) (by omega) ?_
        refine E_s (p' := 70) (st' := aI ((lkR R O c (jp + 1) : Nat) : Int) :: _) rfl rfl ?_
        refine E_s (p' := 72) (L' := [some (aA 1), some (aA a), some (aI ((c : Nat) : Int)), some (aA b), some (aI ((lkR R O c (jp + 1) : Nat) : Int)), some (aI ((jp + 1 : Nat) : Int)), some (aI ((lkR R O c (jp + 1) : Nat) : Int))]) rfl rfl ?_
        refine E_inc (x := ((jp + 1 : Nat) : Int)) (w := ((jp + 2 : Nat) : Int)) (L' := [some (aA 1), some (aA a), some (aI ((c : Nat) : Int)), some (aA b), some (aI ((lkR R O c (jp + 1) : Nat) : Int)), some (aI ((jp + 2 : Nat) : Int)), some (aI ((lkR R O c (jp + 1) : Nat) : Int))]) rfl rfl rfl (by omega) (by omega) rfl ?_
        refine E_s (p' := 6) rfl rfl ?_
        refine ih (jp + 1) _ _ (by omega) (by omega) (I1.up (by omega) (by omega)) (fun t ht9 => ?_) (fun t h1 h2 => (up2_sl (by omega)).trans (J2 t (by omega) h2))
        by_cases g9 : t = jp + 1
        · rw [g9]
          refine up2_eq.trans ?_
          show _ = ((bif alk R O c jp then lkR R O c jp + 1 else max (lkR R O c (jp + 1)) (lkR R O (c + 1) jp) : Nat) : Int)
          rw [show alk R O c jp = false by assumption]
          show _ = ((max (lkR R O c (jp + 1)) (lkR R O (c + 1) jp) : Nat) : Int)
          split <;> omega
        · exact (up2_sl g9).trans (J1 t (by omega))
      · refine E_go (p' := 46) (L' := [some (aA 1), some (aA a), some (aI ((c : Nat) : Int)), some (aA b), some (aI ((lkR R O c jp : Nat) : Int)), some (aI ((jp + 1 : Nat) : Int)), some (aI ((lkR R O c (jp + 1) : Nat) : Int))]) (st' := [aI ((jp + 1 : Nat) : Int), aA 19]) rfl rfl rfl ?_
        refine E_s (p' := 48) (st' := aI ((lkR R O c jp : Nat) : Int) :: _) rfl rfl ?_
        refine E_s (p' := 49) (st' := aI 1 :: _) rfl rfl ?_
        refine E_add (v := ((lkR R O c jp + 1 : Nat) : Int)) rfl (by omega) (by omega) ?_
        refine E_s (p' := 67) rfl rfl ?_
        refine E_ast (e := jp + 1) (N := 61) rfl rfl (rfl) (by omega) ?_
        refine E_s (p' := 70) (st' := aI ((lkR R O c (jp + 1) : Nat) : Int) :: _) rfl rfl ?_
        refine E_s (p' := 72) (L' := [some (aA 1), some (aA a), some (aI ((c : Nat) : Int)), some (aA b), some (aI ((lkR R O c (jp + 1) : Nat) : Int)), some (aI ((jp + 1 : Nat) : Int)), some (aI ((lkR R O c (jp + 1) : Nat) : Int))]) rfl rfl ?_
        refine E_inc (x := ((jp + 1 : Nat) : Int)) (w := ((jp + 2 : Nat) : Int)) (L' := [some (aA 1), some (aA a), some (aI ((c : Nat) : Int)), some (aA b), some (aI ((lkR R O c (jp + 1) : Nat) : Int)), some (aI ((jp + 2 : Nat) : Int)), some (aI ((lkR R O c (jp + 1) : Nat) : Int))]) rfl rfl rfl (by omega) (by omega) rfl ?_
        refine E_s (p' := 6) rfl rfl ?_
        refine ih (jp + 1) _ _ (by omega) (by omega) (I1.up (by omega) (by omega)) (fun t ht9 => ?_) (fun t h1 h2 => (up2_sl (by omega)).trans (J2 t (by omega) h2))
        by_cases g9 : t = jp + 1
        · rw [g9]
          refine up2_eq.trans ?_
          show _ = ((bif alk R O c jp then lkR R O c jp + 1 else max (lkR R O c (jp + 1)) (lkR R O (c + 1) jp) : Nat) : Int)
          rw [show alk R O c jp = true by assumption]
          rfl
        · exact (up2_sl g9).trans (J1 t (by omega))
end
