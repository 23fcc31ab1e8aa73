def due (R : RD) (c X e : Nat) : Int := if e = c then (X : Int) else Rtd R e
theorem Rkn_self {R : RD} {c : Nat} : Rkn R c (Ck R c) (Cp R c) = R := by
  show mkR (Cn R) (Cq R) (Cg R) (Co R) (Cc R) (Cl R) (Ct R) (upf (Ck R) c (Ck R c)) (upf (Cp R) c (Cp R c)) (Sn R) (Sw R) (Sp R) (Sq R) = R
  rw [upf_self, upf_self]
  rfl
/-- nothing but the Knotter and the RECORD at a has changed -/
def FkA (a : Nat) (m m' : Mm) : Prop := ∀ b j, b < 15 ∨ (18 < b ∧ b < a) ∨ a + 25 < b → m' b j = m b j
theorem FkA.tr {a : Nat} {m m' m'' : Mm} (h : FkA a m m') (h' : FkA a m' m'') : FkA a m m'' := fun b j g => (h' b j g).trans (h b j g)
theorem FkA.rf {a : Nat} {m : Mm} : FkA a m m := fun _ _ _ => rfl
/-- nothing but the KNOTS of a CORD and the RECORD's marks has changed -/
def FrP (a c : Nat) (m m' : Mm) : Prop := ∀ b j, ¬ (b = a ∧ j = 7) → ¬ (b = a + 7 ∧ j = c) → ¬ (b = a + 8 ∧ 30 * c ≤ j ∧ j < 30 * c + 30) → m' b j = m b j
theorem finT {S : Nat → RD} {m m1 m2 : Mm} {r d v : Int} {f : RD → Int × RD} {i a len : Nat} {R : RD} {Q : Option AV → Sx → Prop} (hS : CS S m1) (hMo : Mo m m1) (hi : i < 4) (hr : r = (i : Int)) (ha : a = tgA i) (q : ∀ m1, CS (on1 S r d f).2 m1 → Mo m m1 → Q (some (aI (on1 S r d f).1)) (m1, tl len)) (e : f (S i) = (v, R)) (h : CS1 R a m2) (hF : FkA a m1 m2) : Q (some (aI v)) (m2, tl len) := by
  rw [on1_in hi hr e] at q
  have hb : 20 ≤ a ∧ a ≤ 98 := by subst ha; unfold tgA; omega
  exact q m2 (hS.set hi ha h (fun b j hb => hF b j (by omega))) (fun b j hb => (hF b j (by omega)).trans (hMo b j hb))
section
variable {len : Nat} {m m0 : Mm} {Q : Option AV → Sx → Prop} {R : RD} {a c n X : Nat} {P : Nat → Nat}
theorem c_rdAgain (hR : isR a) (q : Q none (up2 m a 7 0, tl len)) : E 57 0 [some (aA a)] [] (m, tl len) Q := by
  refine E_s (p' := 1) (st' := aA a :: _) rfl rfl ?_
  refine E_s (p' := 2) (st' := aI 0 :: _) rfl rfl ?_
  refine E_pI rfl rfl rfl (kR_0 hR) (Or.inr (by decide)) ?_
  refine E_ret rfl rfl ?_
  exact q
theorem yl_pt16 (hR : isR a) (hC : CR R a m0) (hV : VR R) (hc : c < Cn R) (hn : n ≤ 30) (hP : ∀ k, k < n → m0 16 k = (P k : Int)) (q : ∀ (o : Bool) (m1 : Mm), CR (Rkn R c n P) a m1 → m1 a 7 = 0 → FrP a c m0 m1 → Q (some (aI (bi o))) (m1, tl len))  : ∀ (d : Nat) (k : Nat) (m : Mm) (o : Bool), (n < k + d) → (k ≤ n) → (m (a + 7) c = (n : Int)) → (∀ i, i < k → m (a + 8) (30 * c + i) = (P i : Int)) → (∀ b j, ¬ (b = a + 7 ∧ j = c) → ¬ (b = a + 8 ∧ 30 * c ≤ j ∧ j < 30 * c + 30) → m b j = m0 b j) → E 56 33 [some (aA a), some (aI ((c : Nat) : Int)), some (aA 16), some (aI ((n : Nat) : Int)), some (aI (bi o)), some (aI ((k : Nat) : Int))] [] (m, tl len) Q := by
  intro d
  induction d with
  | zero => intro k m o hd hk I1 I2 I3; omega
  | succ d ih =>
    intro k m o hd hk I1 I2 I3
    have hab := isR_b hR
    have hn60 := hV.1
    refine E_s (p' := 35) (st' := aI ((k : Nat) : Int) :: _) rfl rfl ?_
    refine E_s (p' := 36) (st' := aI ((n : Nat) : Int) :: _) rfl rfl ?_
    refine E_icmp_ge (x := ((k : Nat) : Int)) (y := ((n : Nat) : Int)) rfl (by decide) (fun h_1 => ?_) (fun h_1 => ?_)
    · refine E_go (p' := 96) (L' := [some (aA a), some (aI ((c : Nat) : Int)), some (aA 16), some (aI ((n : Nat) : Int)), some (aI (bi o)), some (aI ((k : Nat) : Int))]) (st' := []) rfl rfl rfl ?_
      refine E_s (p' := 97) (st' := aA a :: _) rfl rfl ?_
      refine E_callV (k' := 57) (a := a) (r := []) (L0 := [some (aA a)]) rfl rfl rfl rfl rfl (kR_0 hR) rfl rfl rfl rfl ?_
      refine c_rdAgain hR ?_
      refine E_go (p' := 100) (L' := [some (aA a), some (aI ((c : Nat) : Int)), some (aA 16), some (aI ((n : Nat) : Int)), some (aI (bi o)), some (aI ((k : Nat) : Int))]) (st' := []) rfl rfl rfl ?_
      refine E_s (p' := 102) (st' := aI (bi o) :: _) rfl rfl ?_
      refine E_retB rfl rfl (bi01 _) ?_
      have ek : k = n := by omega
      subst ek
      refine q _ _ (hC.kn hV hn ((up2_ne (by omega)).trans I1) (fun i hi => (up2_ne (by omega)).trans (I2 i hi)) (fun b j g1 g2 g3 g4 g5 => (up2_o (by omega)).trans (I3 b j g3 (by omega)))) up2_eq (fun b j g1 g2 g3 => (up2_o g1).trans (I3 b j g2 g3))
    · refine E_go (p' := 39) (L' := [some (aA a), some (aI ((c : Nat) : Int)), some (aA 16), some (aI ((n : Nat) : Int)), some (aI (bi o)), some (aI ((k : Nat) : Int))]) (st' := []) rfl rfl rfl ?_
      refine E_s (p' := 41) (st' := aI (bi o) :: _) rfl rfl ?_
      refine E_s (p' := 42) (st' := aA a :: _) rfl rfl ?_
      refine E_gA (b := a + 1) rfl rfl rfl (kR_0 hR) (hR_0_0 hR) rfl ?_
      refine E_gA (b := a + 8) rfl rfl rfl (kR_1 hR) (hR_1_6 hR) rfl ?_
      refine E_s (p' := 49) (st' := aI ((c : Nat) : Int) :: _) rfl rfl ?_
      refine E_s (p' := 51) (st' := aI 30 :: _) rfl rfl ?_
      refine E_mul (v := ((30 * c : Nat) : Int)) rfl (by omega) (by omega) ?_
      refine E_s (p' := 54) (st' := aI ((k : Nat) : Int) :: _) rfl rfl ?_
      refine E_add (v := ((30 * c + k : Nat) : Int)) rfl (by omega) (by omega) ?_
      refine E_ald (e := 30 * c + k) (N := 1800) (v := ((m (a + 8) (30 * c + k)))) rfl (kR_8 hR) (rfl) (by omega) rfl ?_
      refine E_s (p' := 57) (st' := aA 16 :: _) rfl rfl ?_
      refine E_s (p' := 59) (st' := aI ((k : Nat) : Int) :: _) rfl rfl ?_
      refine E_ald (e := k) (N := 30) (v := ((P k : Nat) : Int)) rfl rfl (rfl) (by omega) ((I3 _ _ (by omega) (by omega)).trans (hP _ (by omega))) ?_
      refine E_icmp_eq (x := ((m (a + 8) (30 * c + k)))) (y := ((P k : Nat) : Int)) rfl (by decide) (fun h_2 => ?_) (fun h_2 => ?_)
      · refine E_go (p' := 67) (L' := [some (aA a), some (aI ((c : Nat) : Int)), some (aA 16), some (aI ((n : Nat) : Int)), some (aI (bi o)), some (aI ((k : Nat) : Int))]) (st' := [aI (bi o)]) rfl rfl rfl ?_
        refine E_s (p' := 68) (st' := aI 0 :: _) rfl rfl ?_
        refine E_orb (x := o) (y := false) rfl ?_
        refine E_s (p' := 71) (L' := [some (aA a), some (aI ((c : Nat) : Int)), some (aA 16), some (aI ((n : Nat) : Int)), some (aI (bi (o || false))), some (aI ((k : Nat) : Int))]) rfl rfl ?_
        refine E_s (p' := 72) (st' := aA a :: _) rfl rfl ?_
        refine E_gA (b := a + 1) rfl rfl rfl (kR_0 hR) (hR_0_0 hR) rfl ?_
        refine E_gA (b := a + 8) rfl rfl rfl (kR_1 hR) (hR_1_6 hR) rfl ?_
        refine E_s (p' := 79) (st' := aI ((c : Nat) : Int) :: _) rfl rfl ?_
        refine E_s (p' := 81) (st' := aI 30 :: _) rfl rfl ?_
        refine E_mul (v := ((30 * c : Nat) : Int)) rfl (by omega) (by omega) ?_
        refine E_s (p' := 84) (st' := aI ((k : Nat) : Int) :: _) rfl rfl ?_
        refine E_add (v := ((30 * c + k : Nat) : Int)) rfl (by omega) (by omega) ?_
        refine E_s (p' := 86) (st' := aA 16 :: _) rfl rfl ?_
        refine E_s (p' := 88) (st' := aI ((k : Nat) : Int) :: _) rfl rfl ?_
        refine E_ald (e := k) (N := 30) (v := ((P k : Nat) : Int)) rfl rfl (rfl) (by omega) ((I3 _ _ (by omega) (by omega)).trans (hP _ (by omega))) ?_
        refine E_ast (e := 30 * c + k) (N := 1800) rfl (kR_8 hR) (rfl) (by omega) ?_
        refine E_inc (x := ((k : Nat) : Int)) (w := ((k + 1 : Nat) : Int)) (L' := [some (aA a), some (aI ((c : Nat) : Int)), some (aA 16), some (aI ((n : Nat) : Int)), some (aI (bi (o || false))), some (aI ((k + 1 : Nat) : Int))]) rfl rfl rfl (by omega) (by omega) rfl ?_
        refine E_s (p' := 33) rfl rfl ?_
        refine ih (k + 1) _ (o || false) (by omega) (by omega) ((up2_ne (by omega)).trans I1) (fun i hi => ?_) (fun b j g1 g2 => (up2_o (by omega)).trans (I3 b j g1 g2))
        · by_cases g : i = k
          · subst g; exact up2_eq
          · exact (up2_sl (by omega)).trans (I2 i (by omega))
      · refine E_go (p' := 63) (L' := [some (aA a), some (aI ((c : Nat) : Int)), some (aA 16), some (aI ((n : Nat) : Int)), some (aI (bi o)), some (aI ((k : Nat) : Int))]) (st' := [aI (bi o)]) rfl rfl rfl ?_
        refine E_s (p' := 64) (st' := aI 1 :: _) rfl rfl ?_
        refine E_s (p' := 68) rfl rfl ?_
        refine E_orb (x := o) (y := true) rfl ?_
        refine E_s (p' := 71) (L' := [some (aA a), some (aI ((c : Nat) : Int)), some (aA 16), some (aI ((n : Nat) : Int)), some (aI (bi (o || true))), some (aI ((k : Nat) : Int))]) rfl rfl ?_
        refine E_s (p' := 72) (st' := aA a :: _) rfl rfl ?_
        refine E_gA (b := a + 1) rfl rfl rfl (kR_0 hR) (hR_0_0 hR) rfl ?_
        refine E_gA (b := a + 8) rfl rfl rfl (kR_1 hR) (hR_1_6 hR) rfl ?_
        refine E_s (p' := 79) (st' := aI ((c : Nat) : Int) :: _) rfl rfl ?_
        refine E_s (p' := 81) (st' := aI 30 :: _) rfl rfl ?_
        refine E_mul (v := ((30 * c : Nat) : Int)) rfl (by omega) (by omega) ?_
        refine E_s (p' := 84) (st' := aI ((k : Nat) : Int) :: _) rfl rfl ?_
        refine E_add (v := ((30 * c + k : Nat) : Int)) rfl (by omega) (by omega) ?_
        refine E_s (p' := 86) (st' := aA 16 :: _) rfl rfl ?_
        refine E_s (p' := 88) (st' := aI ((k : Nat) : Int) :: _) rfl rfl ?_
        refine E_ald (e := k) (N := 30) (v := ((P k : Nat) : Int)) rfl rfl (rfl) (by omega) ((I3 _ _ (by omega) (by omega)).trans (hP _ (by omega))) ?_
        refine E_ast (e := 30 * c + k) (N := 1800) rfl (kR_8 hR) (rfl) (by omega) ?_
        refine E_inc (x := ((k : Nat) : Int)) (w := ((k + 1 : Nat) : Int)) (L' := [some (aA a), some (aI ((c : Nat) : Int)), some (aA 16), some (aI ((n : Nat) : Int)), some (aI (bi (o || true))), some (aI ((k + 1 : Nat) : Int))]) rfl rfl rfl (by omega) (by omega) rfl ?_
        refine E_s (p' := 33) rfl rfl ?_
        refine ih (k + 1) _ (o || true) (by omega) (by omega) ((up2_ne (by omega)).trans I1) (fun i hi => ?_) (fun b j g1 g2 => (up2_o (by omega)).trans (I3 b j g1 g2))
        · by_cases g : i = k
          · subst g; exact up2_eq
          · exact (up2_sl (by omega)).trans (I2 i (by omega))
theorem c_put16 (hR : isR a) (hC : CR R a m0) (hV : VR R) (hc : c < Cn R) (hn : n ≤ 30) (hP : ∀ k, k < n → m0 16 k = (P k : Int)) (q : ∀ (o : Bool) (m1 : Mm), CR (Rkn R c n P) a m1 → m1 a 7 = 0 → FrP a c m0 m1 → Q (some (aI (bi o))) (m1, tl len))  : E 56 0 [some (aA a), some (aI ((c : Nat) : Int)), some (aA 16), some (aI ((n : Nat) : Int)), none, none] [] (m0, tl len) Q := by
  have hab := isR_b hR
  have hn60 := hV.1
  refine E_s (p' := 1) (st' := aA a :: _) rfl rfl ?_
  refine E_gA (b := a + 1) rfl rfl rfl (kR_0 hR) (hR_0_0 hR) rfl ?_
  refine E_gA (b := a + 7) rfl rfl rfl (kR_1 hR) (hR_1_5 hR) rfl ?_
  refine E_s (p' := 8) (st' := aI ((c : Nat) : Int) :: _) rfl rfl ?_
  refine E_ald (e := c) (N := 60) (v := ((Ck R c : Nat) : Int)) rfl (kR_7 hR) (rfl) (by omega) (CR_7 hC (by omega)) ?_
  refine E_s (p' := 10) (st' := aI ((n : Nat) : Int) :: _) rfl rfl ?_
  refine E_icmp_eq (x := ((Ck R c : Nat) : Int)) (y := ((n : Nat) : Int)) rfl (by decide) (fun h_1 => ?_) (fun h_1 => ?_)
  · refine E_go (p' := 17) (L' := [some (aA a), some (aI ((c : Nat) : Int)), some (aA 16), some (aI ((n : Nat) : Int)), none, none]) (st' := []) rfl rfl rfl ?_
    refine E_s (p' := 18) (st' := aI 0 :: _) rfl rfl ?_
    refine E_s (p' := 20) (L' := [some (aA a), some (aI ((c : Nat) : Int)), some (aA 16), some (aI ((n : Nat) : Int)), some (aI 0), none]) rfl rfl ?_
    refine E_s (p' := 21) (st' := aA a :: _) rfl rfl ?_
    refine E_gA (b := a + 1) rfl rfl rfl (kR_0 hR) (hR_0_0 hR) rfl ?_
    refine E_gA (b := a + 7) rfl rfl rfl (kR_1 hR) (hR_1_5 hR) rfl ?_
    refine E_s (p' := 28) (st' := aI ((c : Nat) : Int) :: _) rfl rfl ?_
    refine E_s (p' := 29) (st' := aI ((n : Nat) : Int) :: _) rfl rfl ?_
    refine E_ast (e := c) (N := 60) rfl (kR_7 hR) (rfl) (by omega) ?_
    refine E_s (p' := 31) (st' := aI 0 :: _) rfl rfl ?_
    refine E_s (p' := 33) (L' := [some (aA a), some (aI ((c : Nat) : Int)), some (aA 16), some (aI ((n : Nat) : Int)), some (aI 0), some (aI 0)]) rfl rfl ?_
    exact yl_pt16 hR hC hV hc hn hP q (n + 1) 0 _ false (by omega) (by omega) up2_eq (fun i hi => absurd hi (Nat.not_lt_zero _)) (fun b j g1 g2 => up2_o g1)
  · refine E_go (p' := 13) (L' := [some (aA a), some (aI ((c : Nat) : Int)), some (aA 16), some (aI ((n : Nat) : Int)), none, none]) (st' := []) rfl rfl rfl ?_
    refine E_s (p' := 14) (st' := aI 1 :: _) rfl rfl ?_
    refine E_s (p' := 18) rfl rfl ?_
    refine E_s (p' := 20) (L' := [some (aA a), some (aI ((c : Nat) : Int)), some (aA 16), some (aI ((n : Nat) : Int)), some (aI 1), none]) rfl rfl ?_
    refine E_s (p' := 21) (st' := aA a :: _) rfl rfl ?_
    refine E_gA (b := a + 1) rfl rfl rfl (kR_0 hR) (hR_0_0 hR) rfl ?_
    refine E_gA (b := a + 7) rfl rfl rfl (kR_1 hR) (hR_1_5 hR) rfl ?_
    refine E_s (p' := 28) (st' := aI ((c : Nat) : Int) :: _) rfl rfl ?_
    refine E_s (p' := 29) (st' := aI ((n : Nat) : Int) :: _) rfl rfl ?_
    refine E_ast (e := c) (N := 60) rfl (kR_7 hR) (rfl) (by omega) ?_
    refine E_s (p' := 31) (st' := aI 0 :: _) rfl rfl ?_
    refine E_s (p' := 33) (L' := [some (aA a), some (aI ((c : Nat) : Int)), some (aA 16), some (aI ((n : Nat) : Int)), some (aI 1), some (aI 0)]) rfl rfl ?_
    exact yl_pt16 hR hC hV hc hn hP q (n + 1) 0 _ true (by omega) (by omega) up2_eq (fun i hi => absurd hi (Nat.not_lt_zero _)) (fun b j g1 g2 => up2_o g1)
theorem yl_pt17 (hR : isR a) (hC : CR R a m0) (hV : VR R) (hc : c < Cn R) (hn : n ≤ 30) (hP : ∀ k, k < n → m0 17 k = (P k : Int)) (q : ∀ (o : Bool) (m1 : Mm), CR (Rkn R c n P) a m1 → m1 a 7 = 0 → FrP a c m0 m1 → Q (some (aI (bi o))) (m1, tl len))  : ∀ (d : Nat) (k : Nat) (m : Mm) (o : Bool), (n < k + d) → (k ≤ n) → (m (a + 7) c = (n : Int)) → (∀ i, i < k → m (a + 8) (30 * c + i) = (P i : Int)) → (∀ b j, ¬ (b = a + 7 ∧ j = c) → ¬ (b = a + 8 ∧ 30 * c ≤ j ∧ j < 30 * c + 30) → m b j = m0 b j) → E 56 33 [some (aA a), some (aI ((c : Nat) : Int)), some (aA 17), some (aI ((n : Nat) : Int)), some (aI (bi o)), some (aI ((k : Nat) : Int))] [] (m, tl len) Q := by
  intro d
  induction d with
  | zero => intro k m o hd hk I1 I2 I3; omega
  | succ d ih =>
    intro k m o hd hk I1 I2 I3
    have hab := isR_b hR
    have hn60 := hV.1
    refine E_s (p' := 35) (st' := aI ((k : Nat) : Int) :: _) rfl rfl ?_
    refine E_s (p' := 36) (st' := aI ((n : Nat) : Int) :: _) rfl rfl ?_
    refine E_icmp_ge (x := ((k : Nat) : Int)) (y := ((n : Nat) : Int)) rfl (by decide) (fun h_1 => ?_) (fun h_1 => ?_)
    · refine E_go (p' := 96) (L' := [some (aA a), some (aI ((c : Nat) : Int)), some (aA 17), some (aI ((n : Nat) : Int)), some (aI (bi o)), some (aI ((k : Nat) : Int))]) (st' := []) rfl rfl rfl ?_
      refine E_s (p' := 97) (st' := aA a :: _) rfl rfl ?_
      refine E_callV (k' := 57) (a := a) (r := []) (L0 := [some (aA a)]) rfl rfl rfl rfl rfl (kR_0 hR) rfl rfl rfl rfl ?_
      refine c_rdAgain hR ?_
      refine E_go (p' := 100) (L' := [some (aA a), some (aI ((c : Nat) : Int)), some (aA 17), some (aI ((n : Nat) : Int)), some (aI (bi o)), some (aI ((k : Nat) : Int))]) (st' := []) rfl rfl rfl ?_
      refine E_s (p' := 102) (st' := aI (bi o) :: _) rfl rfl ?_
      refine E_retB rfl rfl (bi01 _) ?_
      have ek : k = n := by omega
      subst ek
      refine q _ _ (hC.kn hV hn ((up2_ne (by omega)).trans I1) (fun i hi => (up2_ne (by omega)).trans (I2 i hi)) (fun b j g1 g2 g3 g4 g5 => (up2_o (by omega)).trans (I3 b j g3 (by omega)))) up2_eq (fun b j g1 g2 g3 => (up2_o g1).trans (I3 b j g2 g3))
    · refine E_go (p' := 39) (L' := [some (aA a), some (aI ((c : Nat) : Int)), some (aA 17), some (aI ((n : Nat) : Int)), some (aI (bi o)), some (aI ((k : Nat) : Int))]) (st' := []) rfl rfl rfl ?_
      refine E_s (p' := 41) (st' := aI (bi o) :: _) rfl rfl ?_
      refine E_s (p' := 42) (st' := aA a :: _) rfl rfl ?_
      refine E_gA (b := a + 1) rfl rfl rfl (kR_0 hR) (hR_0_0 hR) rfl ?_
      refine E_gA (b := a + 8) rfl rfl rfl (kR_1 hR) (hR_1_6 hR) rfl ?_
      refine E_s (p' := 49) (st' := aI ((c : Nat) : Int) :: _) rfl rfl ?_
      refine E_s (p' := 51) (st' := aI 30 :: _) rfl rfl ?_
      refine E_mul (v := ((30 * c : Nat) : Int)) rfl (by omega) (by omega) ?_
      refine E_s (p' := 54) (st' := aI ((k : Nat) : Int) :: _) rfl rfl ?_
      refine E_add (v := ((30 * c + k : Nat) : Int)) rfl (by omega) (by omega) ?_
      refine E_ald (e := 30 * c + k) (N := 1800) (v := ((m (a + 8) (30 * c + k)))) rfl (kR_8 hR) (rfl) (by omega) rfl ?_
      refine E_s (p' := 57) (st' := aA 17 :: _) rfl rfl ?_
      refine E_s (p' := 59) (st' := aI ((k : Nat) : Int) :: _) rfl rfl ?_
      refine E_ald (e := k) (N := 30) (v := ((P k : Nat) : Int)) rfl rfl (rfl) (by omega) ((I3 _ _ (by omega) (by omega)).trans (hP _ (by omega))) ?_
      refine E_icmp_eq (x := ((m (a + 8) (30 * c + k)))) (y := ((P k : Nat) : Int)) rfl (by decide) (fun h_2 => ?_) (fun h_2 => ?_)
      · refine E_go (p' := 67) (L' := [some (aA a), some (aI ((c : Nat) : Int)), some (aA 17), some (aI ((n : Nat) : Int)), some (aI (bi o)), some (aI ((k : Nat) : Int))]) (st' := [aI (bi o)]) rfl rfl rfl ?_
        refine E_s (p' := 68) (st' := aI 0 :: _) rfl rfl ?_
        refine E_orb (x := o) (y := false) rfl ?_
        refine E_s (p' := 71) (L' := [some (aA a), some (aI ((c : Nat) : Int)), some (aA 17), some (aI ((n : Nat) : Int)), some (aI (bi (o || false))), some (aI ((k : Nat) : Int))]) rfl rfl ?_
        refine E_s (p' := 72) (st' := aA a :: _) rfl rfl ?_
        refine E_gA (b := a + 1) rfl rfl rfl (kR_0 hR) (hR_0_0 hR) rfl ?_
        refine E_gA (b := a + 8) rfl rfl rfl (kR_1 hR) (hR_1_6 hR) rfl ?_
        refine E_s (p' := 79) (st' := aI ((c : Nat) : Int) :: _) rfl rfl ?_
        refine E_s (p' := 81) (st' := aI 30 :: _) rfl rfl ?_
        refine E_mul (v := ((30 * c : Nat) : Int)) rfl (by omega) (by omega) ?_
        refine E_s (p' := 84) (st' := aI ((k : Nat) : Int) :: _) rfl rfl ?_
        refine E_add (v := ((30 * c + k : Nat) : Int)) rfl (by omega) (by omega) ?_
        refine E_s (p' := 86) (st' := aA 17 :: _) rfl rfl ?_
        refine E_s (p' := 88) (st' := aI ((k : Nat) : Int) :: _) rfl rfl ?_
        refine E_ald (e := k) (N := 30) (v := ((P k : Nat) : Int)) rfl rfl (rfl) (by omega) ((I3 _ _ (by omega) (by omega)).trans (hP _ (by omega))) ?_
        refine E_ast (e := 30 * c + k) (N := 1800) rfl (kR_8 hR) (rfl) (by omega) ?_
        refine E_inc (x := ((k : Nat) : Int)) (w := ((k + 1 : Nat) : Int)) (L' := [some (aA a), some (aI ((c : Nat) : Int)), some (aA 17), some (aI ((n : Nat) : Int)), some (aI (bi (o || false))), some (aI ((k + 1 : Nat) : Int))]) rfl rfl rfl (by omega) (by omega) rfl ?_
        refine E_s (p' := 33) rfl rfl ?_
        refine ih (k + 1) _ (o || false) (by omega) (by omega) ((up2_ne (by omega)).trans I1) (fun i hi => ?_) (fun b j g1 g2 => (up2_o (by omega)).trans (I3 b j g1 g2))
        · by_cases g : i = k
          · subst g; exact up2_eq
          · exact (up2_sl (by omega)).trans (I2 i (by omega))
      · refine E_go (p' := 63) (L' := [some (aA a), some (aI ((c : Nat) : Int)), some (aA 17), some (aI ((n : Nat) : Int)), some (aI (bi o)), some (aI ((k : Nat) : Int))]) (st' := [aI (bi o)]) rfl rfl rfl ?_
        refine E_s (p' := 64) (st' := aI 1 :: _) rfl rfl ?_
        refine E_s (p' := 68) rfl rfl ?_
        refine E_orb (x := o) (y := true) rfl ?_
        refine E_s (p' := 71) (L' := [some (aA a), some (aI ((c : Nat) : Int)), some (aA 17), some (aI ((n : Nat) : Int)), some (aI (bi (o || true))), some (aI ((k : Nat) : Int))]) rfl rfl ?_
        refine E_s (p' := 72) (st' := aA a :: _) rfl rfl ?_
        refine E_gA (b := a + 1) rfl rfl rfl (kR_0 hR) (hR_0_0 hR) rfl ?_
        refine E_gA (b := a + 8) rfl rfl rfl (kR_1 hR) (hR_1_6 hR) rfl ?_
        refine E_s (p' := 79) (st' := aI ((c : Nat) : Int) :: _) rfl rfl ?_
        refine E_s (p' := 81) (st' := aI 30 :: _) rfl rfl ?_
        refine E_mul (v := ((30 * c : Nat) : Int)) rfl (by omega) (by omega) ?_
        refine E_s (p' := 84) (st' := aI ((k : Nat) : Int) :: _) rfl rfl ?_
        refine E_add (v := ((30 * c + k : Nat) : Int)) rfl (by omega) (by omega) ?_
        refine E_s (p' := 86) (st' := aA 17 :: _) rfl rfl ?_
        refine E_s (p' := 88) (st' := aI ((k : Nat) : Int) :: _) rfl rfl ?_
        refine E_ald (e := k) (N := 30) (v := ((P k : Nat) : Int)) rfl rfl (rfl) (by omega) ((I3 _ _ (by omega) (by omega)).trans (hP _ (by omega))) ?_
        refine E_ast (e := 30 * c + k) (N := 1800) rfl (kR_8 hR) (rfl) (by omega) ?_
        refine E_inc (x := ((k : Nat) : Int)) (w := ((k + 1 : Nat) : Int)) (L' := [some (aA a), some (aI ((c : Nat) : Int)), some (aA 17), some (aI ((n : Nat) : Int)), some (aI (bi (o || true))), some (aI ((k + 1 : Nat) : Int))]) rfl rfl rfl (by omega) (by omega) rfl ?_
        refine E_s (p' := 33) rfl rfl ?_
        refine ih (k + 1) _ (o || true) (by omega) (by omega) ((up2_ne (by omega)).trans I1) (fun i hi => ?_) (fun b j g1 g2 => (up2_o (by omega)).trans (I3 b j g1 g2))
        · by_cases g : i = k
          · subst g; exact up2_eq
          · exact (up2_sl (by omega)).trans (I2 i (by omega))
theorem c_put17 (hR : isR a) (hC : CR R a m0) (hV : VR R) (hc : c < Cn R) (hn : n ≤ 30) (hP : ∀ k, k < n → m0 17 k = (P k : Int)) (q : ∀ (o : Bool) (m1 : Mm), CR (Rkn R c n P) a m1 → m1 a 7 = 0 → FrP a c m0 m1 → Q (some (aI (bi o))) (m1, tl len))  : E 56 0 [some (aA a), some (aI ((c : Nat) : Int)), some (aA 17), some (aI ((n : Nat) : Int)), none, none] [] (m0, tl len) Q := by
  have hab := isR_b hR
  have hn60 := hV.1
  refine E_s (p' := 1) (st' := aA a :: _) rfl rfl ?_
  refine E_gA (b := a + 1) rfl rfl rfl (kR_0 hR) (hR_0_0 hR) rfl ?_
  refine E_gA (b := a + 7) rfl rfl rfl (kR_1 hR) (hR_1_5 hR) rfl ?_
  refine E_s (p' := 8) (st' := aI ((c : Nat) : Int) :: _) rfl rfl ?_
  refine E_ald (e := c) (N := 60) (v := ((Ck R c : Nat) : Int)) rfl (kR_7 hR) (rfl) (by omega) (CR_7 hC (by omega)) ?_
  refine E_s (p' := 10) (st' := aI ((n : Nat) : Int) :: _) rfl rfl ?_
  refine E_icmp_eq (x := ((Ck R c : Nat) : Int)) (y := ((n : Nat) : Int)) rfl (by decide) (fun h_1 => ?_) (fun h_1 => ?_)
  · refine E_go (p' := 17) (L' := [some (aA a), some (aI ((c : Nat) : Int)), some (aA 17), some (aI ((n : Nat) : Int)), none, none]) (st' := []) rfl rfl rfl ?_
    refine E_s (p' := 18) (st' := aI 0 :: _) rfl rfl ?_
    refine E_s (p' := 20) (L' := [some (aA a), some (aI ((c : Nat) : Int)), some (aA 17), some (aI ((n : Nat) : Int)), some (aI 0), none]) rfl rfl ?_
    refine E_s (p' := 21) (st' := aA a :: _) rfl rfl ?_
    refine E_gA (b := a + 1) rfl rfl rfl (kR_0 hR) (hR_0_0 hR) rfl ?_
    refine E_gA (b := a + 7) rfl rfl rfl (kR_1 hR) (hR_1_5 hR) rfl ?_
    refine E_s (p' := 28) (st' := aI ((c : Nat) : Int) :: _) rfl rfl ?_
    refine E_s (p' := 29) (st' := aI ((n : Nat) : Int) :: _) rfl rfl ?_
    refine E_ast (e := c) (N := 60) rfl (kR_7 hR) (rfl) (by omega) ?_
    refine E_s (p' := 31) (st' := aI 0 :: _) rfl rfl ?_
    refine E_s (p' := 33) (L' := [some (aA a), some (aI ((c : Nat) : Int)), some (aA 17), some (aI ((n : Nat) : Int)), some (aI 0), some (aI 0)]) rfl rfl ?_
    exact yl_pt17 hR hC hV hc hn hP q (n + 1) 0 _ false (by omega) (by omega) up2_eq (fun i hi => absurd hi (Nat.not_lt_zero _)) (fun b j g1 g2 => up2_o g1)
  · refine E_go (p' := 13) (L' := [some (aA a), some (aI ((c : Nat) : Int)), some (aA 17), some (aI ((n : Nat) : Int)), none, none]) (st' := []) rfl rfl rfl ?_
    refine E_s (p' := 14) (st' := aI 1 :: _) rfl rfl ?_
    refine E_s (p' := 18) rfl rfl ?_
    refine E_s (p' := 20) (L' := [some (aA a), some (aI ((c : Nat) : Int)), some (aA 17), some (aI ((n : Nat) : Int)), some (aI 1), none]) rfl rfl ?_
    refine E_s (p' := 21) (st' := aA a :: _) rfl rfl ?_
    refine E_gA (b := a + 1) rfl rfl rfl (kR_0 hR) (hR_0_0 hR) rfl ?_
    refine E_gA (b := a + 7) rfl rfl rfl (kR_1 hR) (hR_1_5 hR) rfl ?_
    refine E_s (p' := 28) (st' := aI ((c : Nat) : Int) :: _) rfl rfl ?_
    refine E_s (p' := 29) (st' := aI ((n : Nat) : Int) :: _) rfl rfl ?_
    refine E_ast (e := c) (N := 60) rfl (kR_7 hR) (rfl) (by omega) ?_
    refine E_s (p' := 31) (st' := aI 0 :: _) rfl rfl ?_
    refine E_s (p' := 33) (L' := [some (aA a), some (aI ((c : Nat) : Int)), some (aA 17), some (aI ((n : Nat) : Int)), some (aI 1), some (aI 0)]) rfl rfl ?_
    exact yl_pt17 hR hC hV hc hn hP q (n + 1) 0 _ true (by omega) (by omega) up2_eq (fun i hi => absurd hi (Nat.not_lt_zero _)) (fun b j g1 g2 => up2_o g1)
theorem yl_rad {D : Nat → Int} (hR : isR a) (hC : CR R a m) (hd9 : RdC R a m) (hn : Cn R ≤ 60) (hD : ∀ e, e < Cn R → m 18 e = D e) (q1 : (∀ e, e < Cn R → Rtd R e = D e) → Q (some (aI 1)) (m, tl len)) (q0 : ¬ (∀ e, e < Cn R → Rtd R e = D e) → Q (some (aI 0)) (m, tl len))  : ∀ (d : Nat) (e : Nat), (Cn R < e + d) → (e ≤ Cn R) → (∀ t, t < e → Rtd R t = D t) → E 58 2 [some (aA 15), some (aA a), some (aI ((e : Nat) : Int))] [] (m, tl len) Q := by
  intro d
  induction d with
  | zero => intro e hd he I1; omega
  | succ d ih =>
    intro e hd he I1
    have hab := isR_b hR
    refine E_s (p' := 3) (st' := aI ((e : Nat) : Int) :: _) rfl rfl ?_
    refine E_s (p' := 4) (st' := aA a :: _) rfl rfl ?_
    refine E_gA (b := a + 1) rfl rfl rfl (kR_0 hR) (hR_0_0 hR) rfl ?_
    refine E_gI (v := ((Cn R : Nat) : Int)) rfl rfl rfl (kR_1 hR) hC.1 ?_
    refine E_icmp_ge (x := ((e : Nat) : Int)) (y := ((Cn R : Nat) : Int)) rfl (by decide) (fun h_1 => ?_) (fun h_1 => ?_)
    · refine E_go (p' := 38) (L' := [some (aA 15), some (aA a), some (aI ((e : Nat) : Int))]) (st' := []) rfl rfl rfl ?_
      refine E_s (p' := 39) (st' := aI 1 :: _) rfl rfl ?_
      refine E_ret rfl rfl ?_
      exact q1 (fun t ht9 => I1 t (by omega))
    · refine E_go (p' := 13) (L' := [some (aA 15), some (aA a), some (aI ((e : Nat) : Int))]) (st' := []) rfl rfl rfl ?_
      refine E_s (p' := 14) (st' := aA a :: _) rfl rfl ?_
      refine E_gA (b := a + 15) rfl rfl rfl (kR_0 hR) (hR_0_4 hR) rfl ?_
      refine E_s (p' := 18) (st' := aI ((e : Nat) : Int) :: _) rfl rfl ?_
      refine E_callV (k' := 55) (a := a + 15) (r := []) (L0 := [some (aA (a + 15)), some (aI ((e : Nat) : Int))]) rfl rfl rfl rfl rfl (kR_15 hR) rfl rfl rfl rfl ?_
      refine c_told hR hn hd9 (c := e) (by omega) ?_
      refine E_go (p' := 21) (L' := [some (aA 15), some (aA a), some (aI ((e : Nat) : Int))]) (st' := [aI ((Rtd R e))]) rfl rfl rfl ?_
      refine E_s (p' := 22) (st' := aA 15 :: _) rfl rfl ?_
      refine E_gA (b := 18) rfl rfl rfl rfl hm_15_2 rfl ?_
      refine E_s (p' := 26) (st' := aI ((e : Nat) : Int) :: _) rfl rfl ?_
      refine E_ald (e := e) (N := 60) (v := ((D e))) rfl rfl (rfl) (by omega) (hD _ (by omega)) ?_
      refine E_icmp_eq (x := ((Rtd R e))) (y := ((D e))) rfl (by decide) (fun h_2 => ?_) (fun h_2 => ?_)
      · refine E_go (p' := 32) (L' := [some (aA 15), some (aA a), some (aI ((e : Nat) : Int))]) (st' := []) rfl rfl rfl ?_
        refine E_inc (x := ((e : Nat) : Int)) (w := ((e + 1 : Nat) : Int)) (L' := [some (aA 15), some (aA a), some (aI ((e + 1 : Nat) : Int))]) rfl rfl rfl (by omega) (by omega) rfl ?_
        refine E_s (p' := 2) rfl rfl ?_
        exact ih (e + 1) (by omega) (by omega) (fun t ht9 => by rcases Nat.lt_succ_iff_lt_or_eq.mp ht9 with g | g; exact I1 t g; subst g; assumption)
      · refine E_go (p' := 30) (L' := [some (aA 15), some (aA a), some (aI ((e : Nat) : Int))]) (st' := []) rfl rfl rfl ?_
        refine E_s (p' := 31) (st' := aI 0 :: _) rfl rfl ?_
        refine E_ret rfl rfl ?_
        exact q0 (fun g => absurd (g e (by omega)) (by assumption))
theorem c_rad {D : Nat → Int} (hR : isR a) (hC : CR R a m) (hd9 : RdC R a m) (hn : Cn R ≤ 60) (hD : ∀ e, e < Cn R → m 18 e = D e) (q1 : (∀ e, e < Cn R → Rtd R e = D e) → Q (some (aI 1)) (m, tl len)) (q0 : ¬ (∀ e, e < Cn R → Rtd R e = D e) → Q (some (aI 0)) (m, tl len))  : E 58 0 [some (aA 15), some (aA a), none] [] (m, tl len) Q := by
  refine E_s (p' := 1) (st' := aI 0 :: _) rfl rfl ?_
  refine E_s (p' := 2) (L' := [some (aA 15), some (aA a), some (aI 0)]) rfl rfl ?_
  exact yl_rad hR hC hd9 hn hD q1 q0 (Cn R + 1) 0 (by omega) (by omega) (fun t ht9 => absurd ht9 (Nat.not_lt_zero _))
theorem yl_due (hR : isR a) (hC : CR R a m0) (hV : VR R) (hd9 : RdC R a m0) (hc : c < Cn R) (hk : ∀ m1 : Mm, (∀ e, e < Cn R → m1 18 e = due R c X e) → (∀ b j, b ≠ 18 → m1 b j = m0 b j) → E 54 51 [some (aA 15), some (aA a), some (aI ((c : Nat) : Int)), some (aI ((X : Nat) : Int)), some (aA (a + 1)), some (aI ((Cn R : Nat) : Int)), none] [] (m1, tl len) Q) : ∀ (d : Nat) (e : Nat) (m : Mm), (Cn R < e + d) → (e ≤ Cn R) → (∀ t, t < e → m 18 t = due R c X t) → (∀ b j, b ≠ 18 → m b j = m0 b j) → E 54 9 [some (aA 15), some (aA a), some (aI ((c : Nat) : Int)), some (aI ((X : Nat) : Int)), some (aA (a + 1)), some (aI ((e : Nat) : Int)), none] [] (m, tl len) Q := by
  intro d
  induction d with
  | zero => intro e m hd he J1 J2; omega
  | succ d ih =>
    intro e m hd he J1 J2
    have hab := isR_b hR
    have hn60 := hV.1
    have hCm : CR R a m := hC.of (fun b j g1 g2 _ => J2 b j (by omega))
    have hdm : RdC R a m := hd9.of (fun b j g1 g2 => J2 b j (by omega))
    refine E_s (p' := 11) (st' := aI ((e : Nat) : Int) :: _) rfl rfl ?_
    refine E_s (p' := 13) (st' := aA (a + 1) :: _) rfl rfl ?_
    refine E_gI (v := ((Cn R : Nat) : Int)) rfl rfl rfl (kR_1 hR) hCm.1 ?_
    refine E_icmp_ge (x := ((e : Nat) : Int)) (y := ((Cn R : Nat) : Int)) rfl (by decide) (fun h_1 => ?_) (fun h_1 => ?_)
    · refine E_go (p' := 51) (L' := [some (aA 15), some (aA a), some (aI ((c : Nat) : Int)), some (aI ((X : Nat) : Int)), some (aA (a + 1)), some (aI ((e : Nat) : Int)), none]) (st' := []) rfl rfl rfl ?_
      have ee : e = Cn R := by omega
      subst ee
      exact hk m J1 J2
    · refine E_go (p' := 19) (L' := [some (aA 15), some (aA a), some (aI ((c : Nat) : Int)), some (aI ((X : Nat) : Int)), some (aA (a + 1)), some (aI ((e : Nat) : Int)), none]) (st' := []) rfl rfl rfl ?_
      refine E_s (p' := 20) (st' := aA 15 :: _) rfl rfl ?_
      refine E_gA (b := 18) rfl rfl rfl rfl hm_15_2 rfl ?_
      refine E_s (p' := 25) (st' := aI ((e : Nat) : Int) :: _) rfl rfl ?_
      refine E_s (p' := 27) (st' := aI ((e : Nat) : Int) :: _) rfl rfl ?_
      refine E_s (p' := 28) (st' := aI ((c : Nat) : Int) :: _) rfl rfl ?_
      refine E_icmp_ne (x := ((e : Nat) : Int)) (y := ((c : Nat) : Int)) rfl (by decide) (fun h_2 => ?_) (fun h_2 => ?_)
      · refine E_go (p' := 35) (L' := [some (aA 15), some (aA a), some (aI ((c : Nat) : Int)), some (aI ((X : Nat) : Int)), some (aA (a + 1)), some (aI ((e : Nat) : Int)), none]) (st' := [aI ((e : Nat) : Int), aA 18]) rfl rfl rfl ?_
        refine E_s (p' := 36) (st' := aA a :: _) rfl rfl ?_
        refine E_gA (b := a + 15) rfl rfl rfl (kR_0 hR) (hR_0_4 hR) rfl ?_
        refine E_s (p' := 41) (st' := aI ((e : Nat) : Int) :: _) rfl rfl ?_
        refine E_callV (k' := 55) (a := a + 15) (r := [aI ((e : Nat) : Int), aA 18]) (L0 := [some (aA (a + 15)), some (aI ((e : Nat) : Int))]) rfl rfl rfl rfl rfl (kR_15 hR) rfl rfl rfl rfl ?_
        refine c_told hR hn60 hdm (c := e) (by omega) ?_
        refine E_go (p' := 44) (L' := [some (aA 15), some (aA a), some (aI ((c : Nat) : Int)), some (aI ((X : Nat) : Int)), some (aA (a + 1)), some (aI ((e : Nat) : Int)), none]) (st' := [aI ((Rtd R e)), aI ((e : Nat) : Int), aA 18]) rfl rfl rfl ?_
        refine E_ast (e := e) (N := 60) rfl rfl (rfl) (by omega) ?_
        refine E_inc (x := ((e : Nat) : Int)) (w := ((e + 1 : Nat) : Int)) (L' := [some (aA 15), some (aA a), some (aI ((c : Nat) : Int)), some (aI ((X : Nat) : Int)), some (aA (a + 1)), some (aI ((e + 1 : Nat) : Int)), none]) rfl rfl rfl (by omega) (by omega) rfl ?_
        refine E_s (p' := 9) rfl rfl ?_
        refine ih (e + 1) _ (by omega) (by omega) (fun t ht9 => ?_) (fun b j hb => (up2_ne hb).trans (J2 b j hb))
        · by_cases g : t = e
          · subst g; refine up2_eq.trans ?_; unfold due; rw [if_neg (by omega)]
          · exact (up2_sl (by omega)).trans (J1 t (by omega))
      · refine E_go (p' := 31) (L' := [some (aA 15), some (aA a), some (aI ((c : Nat) : Int)), some (aI ((X : Nat) : Int)), some (aA (a + 1)), some (aI ((e : Nat) : Int)), none]) (st' := [aI ((e : Nat) : Int), aA 18]) rfl rfl rfl ?_
        refine E_s (p' := 32) (st' := aI ((X : Nat) : Int) :: _) rfl rfl ?_
        refine E_s (p' := 44) rfl rfl ?_
        refine E_ast (e := e) (N := 60) rfl rfl (rfl) (by omega) ?_
        refine E_inc (x := ((e : Nat) : Int)) (w := ((e + 1 : Nat) : Int)) (L' := [some (aA 15), some (aA a), some (aI ((c : Nat) : Int)), some (aI ((X : Nat) : Int)), some (aA (a + 1)), some (aI ((e + 1 : Nat) : Int)), none]) rfl rfl rfl (by omega) (by omega) rfl ?_
        refine E_s (p' := 9) rfl rfl ?_
        refine ih (e + 1) _ (by omega) (by omega) (fun t ht9 => ?_) (fun b j hb => (up2_ne hb).trans (J2 b j hb))
        · by_cases g : t = e
          · subst g; refine up2_eq.trans ?_; unfold due; rw [if_pos (by omega)]
          · exact (up2_sl (by omega)).trans (J1 t (by omega))
theorem c_kap (hR : isR a) (hC : CR R a m0) (hV : VR R) (hd9 : RdC R a m0) (hc : c < Cn R) {y : KR} (hX : okK R c y) (hP : PK y m0) (q1 : ∀ m1 : Mm, tdD R (Rkn R c y.1 y.2) c (X : Int) → CS1 (Rkn R c y.1 y.2) a m1 → FkA a m0 m1 → Q (some (aI 1)) (m1, tl len)) (q0 : ∀ m1 : Mm, ¬ tdD R (Rkn R c y.1 y.2) c (X : Int) → CS1 R a m1 → FkA a m0 m1 → Q (some (aI 0)) (m1, tl len)) : E 54 0 [some (aA 15), some (aA a), some (aI ((c : Nat) : Int)), some (aI ((X : Nat) : Int)), none, none, none] [] (m0, tl len) Q := by
  have hab := isR_b hR
  have hn60 := hV.1
  have hk30 := (hV.2.2.1 c hc).2.2.2.2.2
  refine E_s (p' := 1) (st' := aA a :: _) rfl rfl ?_
  refine E_gA (b := a + 1) rfl rfl rfl (kR_0 hR) (hR_0_0 hR) rfl ?_
  refine E_s (p' := 6) (L' := [some (aA 15), some (aA a), some (aI ((c : Nat) : Int)), some (aI ((X : Nat) : Int)), some (aA (a + 1)), none, none]) rfl rfl ?_
  refine E_s (p' := 7) (st' := aI 0 :: _) rfl rfl ?_
  refine E_s (p' := 9) (L' := [some (aA 15), some (aA a), some (aI ((c : Nat) : Int)), some (aI ((X : Nat) : Int)), some (aA (a + 1)), some (aI 0), none]) rfl rfl ?_
  refine yl_due hR hC hV hd9 hc (fun m1 D1 D2 => ?_) (Cn R + 1) 0 m0 (by omega) (by omega) (fun t ht9 => absurd ht9 (Nat.not_lt_zero _)) (fun _ _ _ => rfl)
  have hC1 : CR R a m1 := hC.of (fun b j g1 g2 _ => D2 b j (by omega))
  refine E_s (p' := 53) (st' := aA (a + 1) :: _) rfl rfl ?_
  refine E_gA (b := a + 7) rfl rfl rfl (kR_1 hR) (hR_1_5 hR) rfl ?_
  refine E_s (p' := 57) (st' := aI ((c : Nat) : Int) :: _) rfl rfl ?_
  refine E_ald (e := c) (N := 60) (v := ((Ck R c : Nat) : Int)) rfl (kR_7 hR) (rfl) (by omega) (CR_7 hC1 (by omega)) ?_
  refine E_s (p' := 60) (L' := [some (aA 15), some (aA a), some (aI ((c : Nat) : Int)), some (aI ((X : Nat) : Int)), some (aA (a + 1)), some (aI ((Ck R c : Nat) : Int)), none]) rfl rfl ?_
  refine E_s (p' := 62) (st' := aA (a + 1) :: _) rfl rfl ?_
  refine E_gA (b := a + 8) rfl rfl rfl (kR_1 hR) (hR_1_6 hR) rfl ?_
  refine E_s (p' := 66) (st' := aI ((c : Nat) : Int) :: _) rfl rfl ?_
  refine E_s (p' := 68) (st' := aI 30 :: _) rfl rfl ?_
  refine E_mul (v := ((30 * c : Nat) : Int)) rfl (by omega) (by omega) ?_
  refine E_s (p' := 70) (st' := aA 15 :: _) rfl rfl ?_
  refine E_gA (b := 17) rfl rfl rfl rfl hm_15_1 rfl ?_
  refine E_s (p' := 74) (st' := aI 0 :: _) rfl rfl ?_
  refine E_s (p' := 76) (st' := aI ((Ck R c : Nat) : Int) :: _) rfl rfl ?_
  refine E_acp (e1 := 30 * c) (e2 := 0) (e3 := Ck R c) rfl rfl (kR_8 hR) rfl (rfl) (rfl) (rfl) (by omega) (by omega) rfl ?_
  refine E_go (p' := 79) (L' := [some (aA 15), some (aA a), some (aI ((c : Nat) : Int)), some (aI ((X : Nat) : Int)), some (aA (a + 1)), some (aI ((Ck R c : Nat) : Int)), none]) (st' := []) rfl rfl rfl ?_
  have hB : ∀ i, i < Ck R c → cpm m1 (a + 8) (30 * c) 17 0 (Ck R c) 17 i = (Cp R c i : Int) := fun i hi => (cpm_in (by omega)).trans (CR_8 hC1 hc hi (by omega))
  have hF2 : ∀ b j, b ≠ 17 → cpm m1 (a + 8) (30 * c) 17 0 (Ck R c) b j = m1 b j := fun b j hb => cpm_ne hb
  generalize cpm m1 (a + 8) (30 * c) 17 0 (Ck R c) = m2 at hB hF2 ⊢
  have D5 : ∀ b j, b ≠ 17 → b ≠ 18 → m2 b j = m0 b j := fun b j g1 g2 => (hF2 b j g1).trans (D2 b j g2)
  have hC2 : CR R a m2 := hC.of (fun b j g1 g2 _ => D5 b j (by omega) (by omega))
  refine E_s (p' := 80) (st' := aA a :: _) rfl rfl ?_
  refine E_s (p' := 81) (st' := aI ((c : Nat) : Int) :: _) rfl rfl ?_
  refine E_s (p' := 82) (st' := aA 15 :: _) rfl rfl ?_
  refine E_gA (b := 16) rfl rfl rfl rfl hm_15_0 rfl ?_
  refine E_s (p' := 86) (st' := aA 15 :: _) rfl rfl ?_
  refine E_gI (v := ((y.1 : Nat) : Int)) rfl rfl rfl rfl ((D5 _ _ (by omega) (by omega)).trans hP.1) ?_
  refine E_callL (p' := 92) (L0 := [some (aA a), some (aI ((c : Nat) : Int)), some (aA 16), some (aI ((y.1 : Nat) : Int)), none, none]) rfl rfl rfl ?_
  refine c_put16 (n := y.1) (P := y.2) hR hC2 hV hc (hX.n30 hc) (fun k hk => (D5 _ _ (by omega) (by omega)).trans (hP.2 k hk)) (fun o m3 hC3 h73 hF3 => ?_)
  refine E_go (p' := 92) (L' := [some (aA 15), some (aA a), some (aI ((c : Nat) : Int)), some (aI ((X : Nat) : Int)), some (aA (a + 1)), some (aI ((Ck R c : Nat) : Int)), none]) (st' := [aI (bi o)]) rfl rfl rfl ?_
  have hS3 : CS1 (Rkn R c y.1 y.2) a m3 := ⟨hX, hC3, Or.inl h73⟩
  refine E_s (p' := 94) (L' := [some (aA 15), some (aA a), some (aI ((c : Nat) : Int)), some (aI ((X : Nat) : Int)), some (aA (a + 1)), some (aI ((Ck R c : Nat) : Int)), some (aI (bi o))]) rfl rfl ?_
  refine E_s (p' := 95) (st' := aA a :: _) rfl rfl ?_
  refine E_callV (k' := 35) (a := a) (r := []) (L0 := [some (aA a)]) rfl rfl rfl rfl rfl (kR_0 hR) rfl rfl rfl rfl ?_
  refine c_readNow hR hS3 (fun m4 hS4 hd4 hF4 => ?_)
  refine E_go (p' := 98) (L' := [some (aA 15), some (aA a), some (aI ((c : Nat) : Int)), some (aI ((X : Nat) : Int)), some (aA (a + 1)), some (aI ((Ck R c : Nat) : Int)), some (aI (bi o))]) (st' := [aA (a + 15)]) rfl rfl rfl ?_
  have hD4 : ∀ e, e < Cn R → m4 18 e = due R c X e := fun e he => (hF4 _ _ (by omega)).trans ((hF3 _ _ (by omega) (by omega) (by omega)).trans ((hF2 _ _ (by omega)).trans (D1 e he)))
  refine E_s (p' := 99) rfl rfl ?_
  refine E_s (p' := 100) (st' := aA 15 :: _) rfl rfl ?_
  refine E_s (p' := 101) (st' := aA a :: _) rfl rfl ?_
  refine E_callV (k' := 58) (a := 15) (r := []) (L0 := [some (aA 15), some (aA a), none]) rfl rfl rfl rfl rfl rfl rfl rfl rfl rfl ?_
  refine c_rad (R := Rkn R c y.1 y.2) (D := due R c X) hR hS4.2.1 hd4 hn60 hD4 (fun hyr => ?_) (fun hnr => ?_)
  · refine E_go (p' := 104) (L' := [some (aA 15), some (aA a), some (aI ((c : Nat) : Int)), some (aI ((X : Nat) : Int)), some (aA (a + 1)), some (aI ((Ck R c : Nat) : Int)), some (aI (bi o))]) (st' := [aI 1]) rfl rfl rfl ?_
    refine E_s (p' := 121) rfl rfl ?_
    refine E_s (p' := 123) (st' := aI (bi o) :: _) rfl rfl ?_
    refine E_b_eq0 (b := o) rfl (by decide) (fun h_1 => ?_) (fun h_1 => ?_)
    · refine E_go (p' := 130) (L' := [some (aA 15), some (aA a), some (aI ((c : Nat) : Int)), some (aI ((X : Nat) : Int)), some (aA (a + 1)), some (aI ((Ck R c : Nat) : Int)), some (aI (bi o))]) (st' := []) rfl rfl rfl ?_
      refine E_s (p' := 131) (st' := aI 1 :: _) rfl rfl ?_
      refine E_ret rfl rfl ?_
      exact q1 m4 (fun e he => hyr e he) hS4 (fun b j hb => (hF4 b j (by omega)).trans ((hF3 b j (by omega) (by omega) (by omega)).trans (D5 b j (by omega) (by omega))))
    · refine E_go (p' := 126) (L' := [some (aA 15), some (aA a), some (aI ((c : Nat) : Int)), some (aI ((X : Nat) : Int)), some (aA (a + 1)), some (aI ((Ck R c : Nat) : Int)), some (aI (bi o))]) (st' := []) rfl rfl rfl ?_
      refine E_s (p' := 127) (st' := aA a :: _) rfl rfl ?_
      refine E_callV (k' := 15) (a := a) (r := []) (L0 := [some (aA a)]) rfl rfl rfl rfl rfl (kR_0 hR) rfl rfl rfl rfl ?_
      refine c_changed hR ?_
      refine E_go (p' := 130) (L' := [some (aA 15), some (aA a), some (aI ((c : Nat) : Int)), some (aI ((X : Nat) : Int)), some (aA (a + 1)), some (aI ((Ck R c : Nat) : Int)), some (aI (bi o))]) (st' := []) rfl rfl rfl ?_
      refine E_s (p' := 131) (st' := aI 1 :: _) rfl rfl ?_
      refine E_ret rfl rfl ?_
      exact q1 _ (fun e he => hyr e he) ⟨hX, hS4.2.1.of (fun b j g1 g2 g3 => (up2_o (by omega)).trans (up2_o (by omega))), Or.inl ((up2_sl (by decide)).trans up2_eq)⟩ (fun b j hb => (up2_ne (by omega)).trans ((up2_ne (by omega)).trans ((hF4 b j (by omega)).trans ((hF3 b j (by omega) (by omega) (by omega)).trans (D5 b j (by omega) (by omega))))))
  · refine E_go (p' := 104) (L' := [some (aA 15), some (aA a), some (aI ((c : Nat) : Int)), some (aI ((X : Nat) : Int)), some (aA (a + 1)), some (aI ((Ck R c : Nat) : Int)), some (aI (bi o))]) (st' := [aI 0]) rfl rfl rfl ?_
    refine E_s (p' := 107) rfl rfl ?_
    refine E_s (p' := 108) (st' := aA a :: _) rfl rfl ?_
    refine E_s (p' := 109) (st' := aI ((c : Nat) : Int) :: _) rfl rfl ?_
    refine E_s (p' := 110) (st' := aA 15 :: _) rfl rfl ?_
    refine E_gA (b := 17) rfl rfl rfl rfl hm_15_1 rfl ?_
    refine E_s (p' := 115) (st' := aI ((Ck R c : Nat) : Int) :: _) rfl rfl ?_
    refine E_callL (p' := 118) (L0 := [some (aA a), some (aI ((c : Nat) : Int)), some (aA 17), some (aI ((Ck R c : Nat) : Int)), none, none]) rfl rfl rfl ?_
    refine c_put17 (R := Rkn R c y.1 y.2) (n := Ck R c) (P := Cp R c) hR hS4.2.1 hX hc hk30 (fun k hk => (hF4 _ _ (by omega)).trans ((hF3 _ _ (by omega) (by omega) (by omega)).trans (hB k hk))) (fun o2 m5 hC5 h75 hF5 => ?_)
    refine E_go (p' := 118) (L' := [some (aA 15), some (aA a), some (aI ((c : Nat) : Int)), some (aI ((X : Nat) : Int)), some (aA (a + 1)), some (aI ((Ck R c : Nat) : Int)), some (aI (bi o))]) (st' := [aI (bi o2)]) rfl rfl rfl ?_
    refine E_s (p' := 119) rfl rfl ?_
    refine E_s (p' := 120) (st' := aI 0 :: _) rfl rfl ?_
    refine E_ret rfl rfl ?_
    rw [Rkn_kn, Rkn_self] at hC5
    exact q0 m5 (fun g => hnr (fun e he => g e he)) ⟨hV, hC5, Or.inl h75⟩ (fun b j hb => (hF5 b j (by omega) (by omega) (by omega)).trans ((hF4 b j (by omega)).trans ((hF3 b j (by omega) (by omega) (by omega)).trans (D5 b j (by omega) (by omega)))))
end
section
variable {len : Nat} {m : Mm} {Q : Option AV → Sx → Prop} {r c x : Int}
theorem C_tie {S : Nat → RD} (hS : CS S m) (q : ∀ m1, CS (on1 S r (-2) (oTie c x)).2 m1 → Mo m m1 → Q (some (aI (on1 S r (-2) (oTie c x)).1)) (m1, tl len)) : E 33 0 [some (aA 1), some (aI (r)), some (aI (c)), some (aI (x)), none, none] [] (m, tl len) Q := by
  refine E_s (p' := 1) (st' := aA 1 :: _) rfl rfl ?_
  refine E_s (p' := 2) (st' := aI (r) :: _) rfl rfl ?_
  refine E_callV (k' := 34) (a := 1) (r := []) (L0 := [some (aA 1), some (aI (r)), none]) rfl rfl rfl rfl rfl rfl rfl rfl rfl rfl ?_
  refine c_readOf hS (fun i a m1 hi hr ha hR hS1 hCS hd hMo => ?_) (fun hr => ?_)
  · refine E_go (p' := 5) (L' := [some (aA 1), some (aI (r)), some (aI (c)), some (aI (x)), none, none]) (st' := [aA a]) rfl rfl rfl ?_
    obtain ⟨hV, hC, -⟩ := id hCS
    have hn60 := hV.1
    have hab := isR_b hR
    have hs40 := hV.2.2.2.2.1
    refine E_s (p' := 7) (L' := [some (aA 1), some (aI (r)), some (aI (c)), some (aI (x)), some (aA a), none]) rfl rfl ?_
    refine E_s (p' := 9) (st' := aA a :: _) rfl rfl ?_
    refine E_s (p' := 12) rfl rfl ?_
    refine E_s (p' := 14) (st' := aA a :: _) rfl rfl ?_
    refine E_gA (b := a + 1) rfl rfl rfl (kR_0 hR) (hR_0_0 hR) rfl ?_
    refine E_s (p' := 18) (st' := aI (c) :: _) rfl rfl ?_
    refine E_callV (k' := 17) (a := a + 1) (r := []) (L0 := [some (aA (a + 1)), some (aI (c))]) rfl rfl rfl rfl rfl (kR_1 hR) rfl rfl rfl rfl ?_
    refine c_has hR hC (fun ci he_ci hc_ci => ?_) (fun hno => ?_)
    · refine E_go (p' := 21) (L' := [some (aA 1), some (aI (r)), some (aI (c)), some (aI (x)), some (aA a), none]) (st' := [aI 1]) rfl rfl rfl ?_
      subst he_ci
      refine E_s (p' := 24) rfl rfl ?_
      refine E_s (p' := 25) (st' := aI (x) :: _) rfl rfl ?_
      refine E_if_lt (x := (x)) rfl (by decide) (fun h_1 => ?_) (fun h_1 => ?_)
      · refine E_go (p' := 34) (L' := [some (aA 1), some (aI (r)), some (aI ((ci : Nat) : Int)), some (aI (x)), some (aA a), none]) (st' := []) rfl rfl rfl ?_
        refine E_s (p' := 36) (st' := aI (-2) :: _) rfl rfl ?_
        refine E_ret rfl rfl ?_
        exact finT hS1 hMo hi hr ha q (by unfold oTie; rw [cif_neg (by unfold inC; omega)]) hCS FkA.rf
      · refine E_go (p' := 28) (L' := [some (aA 1), some (aI (r)), some (aI ((ci : Nat) : Int)), some (aI (x)), some (aA a), none]) (st' := []) rfl rfl rfl ?_
        refine E_s (p' := 29) (st' := aI (x) :: _) rfl rfl ?_
        refine E_s (p' := 31) (st' := aI 999999 :: _) rfl rfl ?_
        refine E_icmp_le (x := (x)) (y := 999999) rfl (by decide) (fun h_2 => ?_) (fun h_2 => ?_)
        · refine E_go (p' := 37) (L' := [some (aA 1), some (aI (r)), some (aI ((ci : Nat) : Int)), some (aI (x)), some (aA a), none]) (st' := []) rfl rfl rfl ?_
          obtain ⟨xn, ex⟩ : ∃ y : Nat, x = (y : Int) := ⟨x.toNat, by omega⟩
          subst ex
          refine E_s (p' := 39) (st' := aA a :: _) rfl rfl ?_
          refine E_gA (b := a + 1) rfl rfl rfl (kR_0 hR) (hR_0_0 hR) rfl ?_
          refine E_gA (b := a + 6) rfl rfl rfl (kR_1 hR) (hR_1_4 hR) rfl ?_
          refine E_s (p' := 46) (st' := aI ((ci : Nat) : Int) :: _) rfl rfl ?_
          refine E_ald (e := ci) (N := 60) (v := ((Ct (S i) ci : Nat) : Int)) rfl (kR_6 hR) (rfl) (by omega) (CR_6 hC (by omega)) ?_
          refine E_if_ne (x := ((Ct (S i) ci : Nat) : Int)) rfl (by decide) (fun h_3 => ?_) (fun h_3 => ?_)
          · refine E_go (p' := 80) (L' := [some (aA 1), some (aI (r)), some (aI ((ci : Nat) : Int)), some (aI ((xn : Nat) : Int)), some (aA a), none]) (st' := []) rfl rfl rfl ?_
            refine E_s (p' := 81) (st' := aI 0 :: _) rfl rfl ?_
            refine E_s (p' := 83) (L' := [some (aA 1), some (aI (r)), some (aI ((ci : Nat) : Int)), some (aI ((xn : Nat) : Int)), some (aA a), some (aI 0)]) rfl rfl ?_
            refine E_s (p' := 85) (st' := aI 0 :: _) rfl rfl ?_
            refine E_s (p' := 106) rfl rfl ?_
            refine E_s (p' := 107) (st' := aI (-1) :: _) rfl rfl ?_
            refine E_ret rfl rfl ?_
            exact finT hS1 hMo hi hr ha q (by unfold oTie; simp only [Int.toNat_natCast]; rw [cif_pos (by unfold inC; omega), cif_neg (by omega)]) hCS FkA.rf
          · refine E_go (p' := 50) (L' := [some (aA 1), some (aI (r)), some (aI ((ci : Nat) : Int)), some (aI ((xn : Nat) : Int)), some (aA a), none]) (st' := []) rfl rfl rfl ?_
            refine E_s (p' := 51) (st' := aA 1 :: _) rfl rfl ?_
            refine E_gA (b := 15) rfl rfl rfl rfl rfl rfl ?_
            refine E_s (p' := 56) (st' := aA a :: _) rfl rfl ?_
            refine E_gA (b := a + 15) rfl rfl rfl (kR_0 hR) (hR_0_4 hR) rfl ?_
            refine E_s (p' := 61) (st' := aA a :: _) rfl rfl ?_
            refine E_gA (b := a + 1) rfl rfl rfl (kR_0 hR) (hR_0_0 hR) rfl ?_
            refine E_gA (b := a + 5) rfl rfl rfl (kR_1 hR) (hR_1_3 hR) rfl ?_
            refine E_s (p' := 68) (st' := aI ((ci : Nat) : Int) :: _) rfl rfl ?_
            refine E_ald (e := ci) (N := 60) (v := ((Cl (S i) ci : Nat) : Int)) rfl (kR_5 hR) (rfl) (by omega) (CR_5 hC (by omega)) ?_
            refine E_s (p' := 70) (st' := aI ((xn : Nat) : Int) :: _) rfl rfl ?_
            refine E_callV (k' := 51) (a := 15) (r := []) (L0 := [some (aA 15), some (aA (a + 15)), some (aI ((Cl (S i) ci : Nat) : Int)), some (aI ((xn : Nat) : Int)), none, none, none, none]) rfl rfl rfl rfl rfl rfl rfl rfl rfl rfl ?_
            refine c_plan (c := ci) (X := xn) hR hV hc_ci (by omega) hd (by omega) (fun m2 y hpl hX hP2 hF2 => ?_) (fun m2 hpl hF2 => ?_)
            · refine E_go (p' := 73) (L' := [some (aA 1), some (aI (r)), some (aI ((ci : Nat) : Int)), some (aI ((xn : Nat) : Int)), some (aA a), none]) (st' := [aI 1]) rfl rfl rfl ?_
              have hC2 : CR (S i) a m2 := hC.of (fun b j g1 g2 _ => hF2 b j (by omega) (by omega))
              have hd2 : RdC (S i) a m2 := hd.of (fun b j g1 g2 => hF2 b j (by omega) (by omega))
              refine E_s (p' := 76) rfl rfl ?_
              refine E_s (p' := 77) (st' := aI 1 :: _) rfl rfl ?_
              refine E_s (p' := 81) rfl rfl ?_
              refine E_s (p' := 83) (L' := [some (aA 1), some (aI (r)), some (aI ((ci : Nat) : Int)), some (aI ((xn : Nat) : Int)), some (aA a), some (aI 1)]) rfl rfl ?_
              refine E_s (p' := 85) (st' := aI 1 :: _) rfl rfl ?_
              refine E_s (p' := 88) rfl rfl ?_
              refine E_s (p' := 89) (st' := aA 1 :: _) rfl rfl ?_
              refine E_gA (b := 15) rfl rfl rfl rfl rfl rfl ?_
              refine E_s (p' := 94) (st' := aA a :: _) rfl rfl ?_
              refine E_s (p' := 95) (st' := aI ((ci : Nat) : Int) :: _) rfl rfl ?_
              refine E_s (p' := 96) (st' := aI ((xn : Nat) : Int) :: _) rfl rfl ?_
              refine E_callV (k' := 54) (a := 15) (r := []) (L0 := [some (aA 15), some (aA a), some (aI ((ci : Nat) : Int)), some (aI ((xn : Nat) : Int)), none, none, none]) rfl rfl rfl rfl rfl rfl rfl rfl rfl rfl ?_
              refine c_kap (c := ci) (X := xn) hR hC2 hV hd2 hc_ci hX hP2 (fun m3 htd hS3 hF3 => ?_) (fun m3 htd hS3 hF3 => ?_)
              · refine E_go (p' := 99) (L' := [some (aA 1), some (aI (r)), some (aI ((ci : Nat) : Int)), some (aI ((xn : Nat) : Int)), some (aA a), some (aI 1)]) (st' := [aI 1]) rfl rfl rfl ?_
                refine E_s (p' := 102) rfl rfl ?_
                refine E_s (p' := 103) (st' := aI ((xn : Nat) : Int) :: _) rfl rfl ?_
                refine E_s (p' := 107) rfl rfl ?_
                refine E_ret rfl rfl ?_
                exact finT hS1 hMo hi hr ha q (by unfold oTie; simp only [Int.toNat_natCast]; rw [cif_pos (by unfold inC; omega), cif_pos (by omega)]; unfold tieN; rw [hpl]; exact cif_pos htd) hS3 (fun b j hb => (hF3 b j hb).trans (hF2 b j (by omega) (by omega)))
              · refine E_go (p' := 99) (L' := [some (aA 1), some (aI (r)), some (aI ((ci : Nat) : Int)), some (aI ((xn : Nat) : Int)), some (aA a), some (aI 1)]) (st' := [aI 0]) rfl rfl rfl ?_
                refine E_s (p' := 106) rfl rfl ?_
                refine E_s (p' := 107) (st' := aI (-1) :: _) rfl rfl ?_
                refine E_ret rfl rfl ?_
                exact finT hS1 hMo hi hr ha q (by unfold oTie; simp only [Int.toNat_natCast]; rw [cif_pos (by unfold inC; omega), cif_pos (by omega)]; unfold tieN; rw [hpl]; exact cif_neg htd) hS3 (fun b j hb => (hF3 b j hb).trans (hF2 b j (by omega) (by omega)))
            · refine E_go (p' := 73) (L' := [some (aA 1), some (aI (r)), some (aI ((ci : Nat) : Int)), some (aI ((xn : Nat) : Int)), some (aA a), none]) (st' := [aI 0]) rfl rfl rfl ?_
              refine E_s (p' := 80) rfl rfl ?_
              refine E_s (p' := 81) (st' := aI 0 :: _) rfl rfl ?_
              refine E_s (p' := 83) (L' := [some (aA 1), some (aI (r)), some (aI ((ci : Nat) : Int)), some (aI ((xn : Nat) : Int)), some (aA a), some (aI 0)]) rfl rfl ?_
              refine E_s (p' := 85) (st' := aI 0 :: _) rfl rfl ?_
              refine E_s (p' := 106) rfl rfl ?_
              refine E_s (p' := 107) (st' := aI (-1) :: _) rfl rfl ?_
              refine E_ret rfl rfl ?_
              exact finT hS1 hMo hi hr ha q (by unfold oTie; simp only [Int.toNat_natCast]; rw [cif_pos (by unfold inC; omega), cif_pos (by omega)]; unfold tieN; rw [hpl]) (hCS.of (fun b j g1 g2 => hF2 b j (by omega) (by omega))) (fun b j hb => hF2 b j (by omega) (by omega))
        · refine E_go (p' := 34) (L' := [some (aA 1), some (aI (r)), some (aI ((ci : Nat) : Int)), some (aI (x)), some (aA a), none]) (st' := []) rfl rfl rfl ?_
          refine E_s (p' := 36) (st' := aI (-2) :: _) rfl rfl ?_
          refine E_ret rfl rfl ?_
          exact finT hS1 hMo hi hr ha q (by unfold oTie; rw [cif_neg (by unfold inC; omega)]) hCS FkA.rf
    · refine E_go (p' := 21) (L' := [some (aA 1), some (aI (r)), some (aI (c)), some (aI (x)), some (aA a), none]) (st' := [aI 0]) rfl rfl rfl ?_
      refine E_s (p' := 34) rfl rfl ?_
      refine E_s (p' := 36) (st' := aI (-2) :: _) rfl rfl ?_
      refine E_ret rfl rfl ?_
      exact finT hS1 hMo hi hr ha q (by unfold oTie; rw [cif_neg (by unfold inC; omega)]) hCS FkA.rf
  · refine E_go (p' := 5) (L' := [some (aA 1), some (aI (r)), some (aI (c)), some (aI (x)), none, none]) (st' := [aN]) rfl rfl rfl ?_
    refine E_s (p' := 7) (L' := [some (aA 1), some (aI (r)), some (aI (c)), some (aI (x)), some (aN), none]) rfl rfl ?_
    refine E_s (p' := 9) (st' := aN :: _) rfl rfl ?_
    refine E_s (p' := 34) rfl rfl ?_
    refine E_s (p' := 36) (st' := aI (-2) :: _) rfl rfl ?_
    refine E_ret rfl rfl ?_
    exact fin_out hS q hr
end
