/-! tie: the KNOTS of a number, one behind the other -/
theorem upf_upf {α : Type} {f : Nat → α} {i : Nat} {x y : α} : upf (upf f i x) i y = upf f i y := by
  funext j
  unfold upf
  split <;> rfl
theorem Rkn_kn {R : RD} {c n n' : Nat} {P P' : Nat → Nat} : Rkn (Rkn R c n P) c n' P' = Rkn R c n' P' := by
  show mkR (Cn R) (Cq R) (Cg R) (Co R) (Cc R) (Cl R) (Ct R) (upf (upf (Ck R) c n) c n') (upf (upf (Cp R) c P) c P') (Sn R) (Sw R) (Sp R) (Sq R) = _
  rw [upf_upf, upf_upf]
  rfl
theorem Ckn {R : RD} {c n : Nat} {P : Nat → Nat} : Ck (Rkn R c n P) c = n := upf_eq
theorem Cpn {R : RD} {c n : Nat} {P : Nat → Nat} : Cp (Rkn R c n P) c = P := upf_eq
/-- a row of KNOTS: how many, and each of them -/
abbrev KR : Type := Nat × (Nat → Nat)
/-- a KNOT to be tied: height, sort, turns -/
abbrev KI : Type := Int × (Nat × Nat)
def fitK (len n : Nat) (P : Nat → Nat) (h : Int) : Prop := n < 30 ∧ 1 ≤ h ∧ h ≤ (len : Int) ∧ ∀ k, k < n → (ht (P k) : Int) ≠ h
def inK (n : Nat) (P : Nat → Nat) (q : KI) : Nat → Nat := insP P (posn P q.1.toNat n) (pck q.1.toNat q.2.1 q.2.2)
noncomputable def stK (len : Nat) (x : KR) (q : KI) : Option KR := cif (fitK len x.1 x.2 q.1) (some (x.1 + 1, inK x.1 x.2 q)) none
noncomputable def stO (len : Nat) (o : Option KR) (q : KI) : Option KR := o.bind fun x => stK len x q
def itk (q : KI) : Prop := q.2.1 < 4 ∧ q.2.2 < 16
theorem insP_comm {P : Nat → Nat} {a b x y : Nat} (h : a ≤ b) : insP (insP P a x) (b + 1) y = insP (insP P b y) a x := by
  funext i
  unfold insP
  rcases Nat.lt_trichotomy i a with g | g | g
  · rw [if_pos (show i < b + 1 by omega), if_pos g, if_pos g, if_pos (show i < b by omega)]
  · subst g
    rw [if_pos (show i < b + 1 by omega), if_neg (by omega), if_pos rfl, if_neg (by omega), if_pos rfl]
  · rw [if_neg (show ¬ i < a by omega), if_neg (show ¬ i = a by omega), if_neg (show ¬ i < a by omega), if_neg (show ¬ i = a by omega)]
    rcases Nat.lt_trichotomy i (b + 1) with g2 | g2 | g2
    · rw [if_pos g2, if_pos (show i - 1 < b by omega)]
    · rw [if_neg (by omega), if_pos g2, if_neg (by omega), if_pos (by omega)]
    · rw [if_neg (by omega), if_neg (by omega), if_neg (show ¬ i - 1 < a by omega), if_neg (show ¬ i - 1 = a by omega), if_neg (by omega), if_neg (by omega)]
theorem insP_lt {P : Nat → Nat} {k x i : Nat} (h : i < k) : insP P k x i = P i := if_pos h
theorem insP_at {P : Nat → Nat} {k x : Nat} : insP P k x k = x := by unfold insP; rw [if_neg (by omega), if_pos rfl]
theorem insP_gt {P : Nat → Nat} {k x i : Nat} (h : k < i) : insP P k x i = P (i - 1) := by unfold insP; rw [if_neg (by omega), if_neg (by omega)]
theorem two_ins {P : Nat → Nat} {n hx hy x y : Nat} (ex : ht x = hx) (ey : ht y = hy) (h : hx < hy) : insP (insP P (posn P hx n) x) (posn (insP P (posn P hx n) x) hy (n + 1)) y = insP (insP P (posn P hy n) y) (posn (insP P (posn P hy n) y) hx (n + 1)) x := by
  have a1 := posn_le P hx n
  have a2 := posn_le P hy n
  have sx := posn_sp P hx n
  have sy := posn_sp P hy n
  have hle : posn P hx n ≤ posn P hy n := by
    rcases Nat.lt_or_ge (posn P hy n) (posn P hx n) with g | g
    · have g1 := sx.1 _ g
      have g2 := sy.2 (by omega)
      omega
    · exact g
  rw [← posn_u (P := insP P (posn P hx n) x) (h := hy) (n := n + 1) (k := posn P hy n + 1) (by omega) (fun i hi => ?_) (fun g => ?_), ← posn_u (P := insP P (posn P hy n) y) (h := hx) (n := n + 1) (k := posn P hx n) (by omega) (fun i hi => ?_) (fun g => ?_)]
  · exact insP_comm hle
  · rw [insP_lt (by omega)]
    exact sx.1 i hi
  · rcases Nat.lt_or_ge (posn P hx n) (posn P hy n) with g2 | g2
    · rw [insP_lt g2]; exact sx.2 (by omega)
    · have e9 : posn P hx n = posn P hy n := by omega
      rw [e9, insP_at, ey]
      omega
  · rcases Nat.lt_trichotomy i (posn P hx n) with g | g | g
    · rw [insP_lt g]
      have := sx.1 i g
      omega
    · subst g; rw [insP_at, ex]; exact h
    · rw [insP_gt g]; exact sy.1 _ (by omega)
  · rw [insP_gt (by omega), Nat.add_sub_cancel]
    exact sy.2 (by omega)
def twK (len : Nat) (x : KR) (p q : KI) : Prop := x.1 + 1 < 30 ∧ ((1 ≤ p.1 ∧ p.1 ≤ (len : Int)) ∧ (1 ≤ q.1 ∧ q.1 ≤ (len : Int))) ∧ ((∀ k, k < x.1 → (ht (x.2 k) : Int) ≠ p.1) ∧ ∀ k, k < x.1 → (ht (x.2 k) : Int) ≠ q.1) ∧ p.1 ≠ q.1
theorem stK_two {len : Nat} {x : KR} {p q : KI} (hp : itk p) : stO len (stK len x p) q = cif (twK len x p q) (some (x.1 + 2, inK (x.1 + 1) (inK x.1 x.2 p) q)) none := by
  have a1 := posn_le x.2 p.1.toNat x.1
  unfold stK
  by_cases h : fitK len x.1 x.2 p.1
  · rw [cif_pos h]
    show stK len _ q = _
    unfold stK
    obtain ⟨h1, h2, h3, h4⟩ := h
    have e0 := pck_ht (h := p.1.toNat) hp.1 hp.2
    by_cases g : fitK len (x.1 + 1) (inK x.1 x.2 p) q.1
    · rw [cif_pos g]
      obtain ⟨g1, g2, g3, g4⟩ := g
      rw [cif_pos]
      refine ⟨g1, ⟨⟨h2, h3⟩, g2, g3⟩, ⟨h4, fun k hk => ?_⟩, ?_⟩
      · rcases Nat.lt_or_ge k (posn x.2 p.1.toNat x.1) with g5 | g5
        · have := g4 k (by omega)
          unfold inK at this
          rw [insP_lt g5] at this
          exact this
        · have := g4 (k + 1) (by omega)
          unfold inK at this
          rw [insP_gt (by omega), Nat.add_sub_cancel] at this
          exact this
      · have := g4 (posn x.2 p.1.toNat x.1) (by omega)
        unfold inK at this
        rw [insP_at, e0] at this
        omega
    · rw [cif_neg g, cif_neg]
      intro ⟨k1, ⟨_, k2, k3⟩, ⟨_, k4⟩, k5⟩
      refine g ⟨k1, k2, k3, fun k hk => ?_⟩
      unfold inK
      rcases Nat.lt_trichotomy k (posn x.2 p.1.toNat x.1) with g5 | g5 | g5
      · rw [insP_lt g5]; exact k4 k (by omega)
      · subst g5; rw [insP_at, e0]; omega
      · rw [insP_gt g5]; exact k4 _ (by omega)
  · rw [cif_neg h, cif_neg]
    · rfl
    · intro ⟨k1, ⟨⟨k2, k3⟩, _⟩, ⟨k4, _⟩, _⟩
      exact h ⟨by omega, k2, k3, k4⟩
theorem inK_two {n : Nat} {P : Nat → Nat} {p q : KI} (hp : itk p) (hq : itk q) (h1 : 1 ≤ p.1) (h2 : 1 ≤ q.1) (hne : p.1 ≠ q.1) : inK (n + 1) (inK n P p) q = inK (n + 1) (inK n P q) p := by
  unfold inK
  rcases (show p.1.toNat < q.1.toNat ∨ q.1.toNat < p.1.toNat by omega) with g | g
  · exact two_ins (pck_ht hp.1 hp.2) (pck_ht hq.1 hq.2) g
  · exact (two_ins (pck_ht hq.1 hq.2) (pck_ht hp.1 hp.2) g).symm
theorem stO_comm {len : Nat} {p q : KI} (hp : itk p) (hq : itk q) (o : Option KR) : stO len (stO len o p) q = stO len (stO len o q) p := by
  cases o with
  | none => rfl
  | some x =>
    show stO len (stK len x p) q = stO len (stK len x q) p
    rw [stK_two hp, stK_two hq]
    by_cases h : twK len x p q
    · rw [cif_pos h]
      obtain ⟨h1, ⟨h2, h3⟩, ⟨h4, h5⟩, h6⟩ := h
      rw [cif_pos ⟨h1, ⟨h3, h2⟩, ⟨h5, h4⟩, Ne.symm h6⟩, inK_two hp hq h2.1 h3.1 h6]
    · rw [cif_neg h, cif_neg]
      intro ⟨h1, ⟨h2, h3⟩, ⟨h4, h5⟩, h6⟩
      exact h ⟨h1, ⟨h3, h2⟩, ⟨h5, h4⟩, Ne.symm h6⟩
noncomputable def fdK (len : Nat) (o : Option KR) (l : List KI) : Option KR := l.foldl (stO len) o
theorem fdK_perm {len : Nat} {l l' : List KI} (h : l.Perm l') (hi : ∀ q, q ∈ l → itk q) (o : Option KR) : fdK len o l = fdK len o l' := h.foldl_eq' (fun p hp q hq z => stO_comm (hi p hp) (hi q hq) z) o
theorem fdK_app {len : Nat} {l l' : List KI} {o : Option KR} : fdK len o (l ++ l') = fdK len (fdK len o l) l' := List.foldl_append
theorem fdK_none {len : Nat} : ∀ l : List KI, fdK len none l = none := by
  intro l
  induction l with
  | nil => rfl
  | cons q l ih => exact ih
theorem fdK_one {len : Nat} {x : KR} {q : KI} : fdK len (some x) [q] = stK len x q := rfl
def itU (f d : Nat) : KI := ((f : Int), if d = 1 then (2, 0) else (1, d))
def itS (f e i : Nat) : KI := ((f : Int) - (3 * e / 2 : Int) + 3 * (i : Int), (0, 0))
def smK (f e : Nat) : Nat → List KI
  | 0 => []
  | i + 1 => smK f e i ++ [itS f e i]
/-- the KNOTS of a digit -/
def dgK (f : Nat) (u : Bool) (d : Nat) : List KI := if d = 0 then [] else bif u then [itU f d] else smK f (d - 1) d
def Ru (R : RD) : Nat := bif Run R then 1 else 10
/-- the KNOTS of a LEVEL -/
def lvK (R : RD) (x l : Nat) : List KI := dgK (RF R l) (Run R && decide (l + 1 = RL R)) (x / Rct R l % 10)
def upK (R : RD) (x : Nat) : Nat → List KI
  | 0 => []
  | l + 1 => upK R x l ++ lvK R x l
def dnK (R : RD) (x : Nat) : Nat → List KI
  | 0 => []
  | j + 1 => dnK R x j ++ lvK R x (RL R - 1 - j)
theorem dn_up (R : RD) (x : Nat) : ∀ j, j ≤ RL R → (upK R x (RL R - j) ++ dnK R x j).Perm (upK R x (RL R)) := by
  intro j
  induction j with
  | zero => intro _; rw [Nat.sub_zero]; show (upK R x (RL R) ++ []).Perm _; rw [List.append_nil]
  | succ j ih =>
    intro hj
    refine List.Perm.trans ?_ (ih (by omega))
    have e9 : upK R x (RL R - j) = upK R x (RL R - (j + 1)) ++ lvK R x (RL R - 1 - j) := by
      rw [show RL R - j = (RL R - (j + 1)) + 1 by omega, show RL R - 1 - j = RL R - (j + 1) by omega]
      rfl
    rw [e9]
    show (upK R x (RL R - (j + 1)) ++ (dnK R x j ++ lvK R x (RL R - 1 - j))).Perm _
    rw [List.append_assoc]
    exact List.Perm.append_left _ List.perm_append_comm
theorem itS_it {f e i : Nat} : itk (itS f e i) := ⟨(show (0 : Nat) < 4 by decide), (show (0 : Nat) < 16 by decide)⟩
theorem smK_it {f e : Nat} {q : KI} : ∀ i, q ∈ smK f e i → itk q := by
  intro i
  induction i with
  | zero => intro h; cases h
  | succ i ih =>
    intro h
    rcases List.mem_append.mp h with g | g
    · exact ih g
    · rw [List.mem_singleton.mp g]; exact itS_it
theorem itU_it {f d : Nat} (hd : d ≤ 9) : itk (itU f d) := by
  unfold itU itk
  by_cases h : d = 1
  · simp only [if_pos h]; decide
  · simp only [if_neg h]; omega
theorem dgK_it {f d : Nat} {u : Bool} {q : KI} (hd : d ≤ 9) (h : q ∈ dgK f u d) : itk q := by
  unfold dgK at h
  by_cases g : d = 0
  · rw [if_pos g] at h; cases h
  · rw [if_neg g] at h
    cases u
    · exact smK_it _ h
    · rw [List.mem_singleton.mp h]; exact itU_it hd
theorem upK_it {R : RD} {x : Nat} {q : KI} : ∀ l, q ∈ upK R x l → itk q := by
  intro l
  induction l with
  | zero => intro h; cases h
  | succ l ih =>
    intro h
    rcases List.mem_append.mp h with g | g
    · exact ih g
    · exact dgK_it (by have := Nat.mod_lt (x / Rct R l) (show 0 < 10 by decide); omega) g
theorem fdK_dn (R : RD) (x len : Nat) (o : Option KR) : fdK len o (dnK R x (RL R)) = fdK len o (upK R x (RL R)) := by
  have h := dn_up R x (RL R) (Nat.le_refl _)
  rw [Nat.sub_self] at h
  have h : (dnK R x (RL R)).Perm (upK R x (RL R)) := h
  exact (fdK_perm h.symm (fun q hq => upK_it _ hq) o).symm
def K0 : KR := (0, fun _ => 0)
/-- the KNOTS of a number on a CORD; none: it has none -/
noncomputable def plN (R : RD) (c x : Nat) : Option KR := cif (0 < RL R ∧ x % Ru R = 0 ∧ x / Ru R / 10 ^ RL R = 0) (fdK (Cl R c) (some K0) (upK R x (RL R))) none
def tdD (R X : RD) (c : Nat) (x : Int) : Prop := ∀ d, d < Cn R → Rtd X d = if d = c then x else Rtd R d
noncomputable def tieN (c x : Nat) (R : RD) : Int × RD := match plN R c x with
  | none => (-1, R)
  | some k => cif (tdD R (Rkn R c k.1 k.2) c (x : Int)) ((x : Int), Rkn R c k.1 k.2) (-1, R)
noncomputable def oTie (c x : Int) (R : RD) : Int × RD := cif (inC R c ∧ 0 ≤ x ∧ x ≤ 999999) (cif (Ct R c.toNat = 0) (tieN c.toNat x.toNat R) (-1, R)) (-2, R)
/-- a row that may lie on the CORD -/
def okK (R : RD) (c : Nat) (x : KR) : Prop := VR (Rkn R c x.1 x.2)
theorem okK.fit {R : RD} {c : Nat} {x : KR} {q : KI} (hV : okK R c x) (hc : c < Cn R) (ht0 : Ct R c = 0) (h : fitK (Cl R c) x.1 x.2 q.1) (hq : itk q) (hk : kok (pck 0 q.2.1 q.2.2)) : okK R c (x.1 + 1, inK x.1 x.2 q) := by
  obtain ⟨h1, h2, h3, h4⟩ := h
  unfold okK at hV ⊢
  have e0 := pck_ht (h := q.1.toNat) hq.1 hq.2
  have e1 := pck_so (h := q.1.toNat) hq.1 hq.2
  have e2 := pck_tu (h := q.1.toNat) (s := q.2.1) hq.2
  have e3 := pck_so (h := 0) hq.1 hq.2
  have e4 := pck_tu (h := 0) (s := q.2.1) hq.2
  have hps := posn_sp x.2 q.1.toNat x.1
  have := V_ins (R := Rkn R c x.1 x.2) (c := c) (x := pck q.1.toNat q.2.1 q.2.2) (k := posn x.2 q.1.toNat x.1) hV hc (by rw [Ckn]; exact h1) (by unfold kok at hk ⊢; rw [e1, e2]; rw [e3, e4] at hk; exact hk) (by rw [e0]; exact ⟨by omega, (show q.1.toNat ≤ Cl R c by omega), Or.inl ht0⟩) (by rw [Ckn, Cpn, e0]; intro i hi g; exact h4 i hi (by omega)) (by rw [Ckn]; exact posn_le _ _ _) (by rw [Cpn, e0]; exact hps.1) (by rw [Ckn, Cpn, e0]; exact hps.2)
  rw [Rkn_kn, Ckn, Cpn] at this
  exact this
theorem okK0 {R : RD} {c : Nat} (hV : VR R) : okK R c K0 := V_kn hV (by show 0 ≤ 30; omega) (fun _ k hk => absurd hk (Nat.not_lt_zero _))

/-- the class's plan holds these KNOTS -/
def PK (x : KR) (m : Mm) : Prop := m 15 3 = (x.1 : Int) ∧ ∀ k, k < x.1 → m 16 k = (x.2 k : Int)
def FrK (m m' : Mm) : Prop := ∀ b j, ¬ (b = 15 ∧ j = 3) → b ≠ 16 → m' b j = m b j
theorem FrK.rf {m : Mm} : FrK m m := fun _ _ _ _ => rfl
theorem FrK.tr {m m' m'' : Mm} (h : FrK m m') (h' : FrK m' m'') : FrK m m'' := fun b j g1 g2 => (h' b j g1 g2).trans (h b j g1 g2)
theorem okK.n30 {R : RD} {c : Nat} {x : KR} (h : okK R c x) (hc : c < Cn R) : x.1 ≤ 30 := by
  have := (h.2.2.1 c hc).2.2.2.2.2
  rw [Ckn] at this
  exact this
theorem okK.srt {R : RD} {c : Nat} {x : KR} (h : okK R c x) (hc : c < Cn R) : ∀ i j, i < j → j < x.1 → ht (x.2 i) < ht (x.2 j) := by
  intro i j g1 g2
  have := VR.mono h (c := c) hc g1 (by rw [Ckn]; exact g2)
  rw [Cpn] at this
  exact this
theorem okK.lt {R : RD} {c : Nat} {x : KR} (h : okK R c x) (hc : c < Cn R) : ∀ k, k < x.1 → x.2 k < 2147483648 := by
  intro k hk
  have := kok_lt (R := Rkn R c x.1 x.2) (c := c) (k := k) h hc (by rw [Ckn]; exact hk) rfl
  rw [Cpn] at this
  omega
theorem pck_lt {h s t : Nat} (h1 : h ≤ 600) (h2 : s < 4) (h3 : t < 16) : pck h s t < 2147483648 := by unfold pck; omega
theorem RF_le {R : RD} {l : Nat} (h : l < RL R) : RF R l ≤ 600 := by
  have h1 : l < (RLV R).1 := by
    unfold RL at h
    by_cases g : Rmx R < (RLV R).1
    · rw [if_pos g] at h; omega
    · rw [if_neg g] at h; exact h
  have h2 : RF R l ≤ Rla R l ∧ Rla R l < 601 := (lvS_str (f := atp (RA R)) (g := Cq R) 601).1 l h1
  omega
theorem kok0 : kok (pck 0 0 0) := Or.inl ⟨rfl, rfl⟩
section
variable {len : Nat} {m m0 : Mm} {Q : Option AV → Sx → Prop} {R : RD} {c s t : Nat} {h : Int} {x : KR}
theorem c_planKnot (hX : okK R c x) (hV : VR R) (hc : c < Cn R) (ht0 : Ct R c = 0) (hP : PK x m) (hq : s < 4 ∧ t < 16) (q1 : ∀ m1 : Mm, fitK (Cl R c) x.1 x.2 h → PK (x.1 + 1, inK x.1 x.2 (h, (s, t))) m1 → FrK m m1 → Q (some (aI 1)) (m1, tl len)) (q0 : ¬ fitK (Cl R c) x.1 x.2 h → Q (some (aI 0)) (m, tl len)) : E 53 0 [some (aA 15), some (aI (h)), some (aI ((s : Nat) : Int)), some (aI ((t : Nat) : Int)), some (aI ((Cl R c : Nat) : Int))] [] (m, tl len) Q := by
  have hn30 := hX.n30 hc
  have hl600 := (hV.2.2.1 c hc).2.2.2.1
  refine E_s (p' := 1) (st' := aA 15 :: _) rfl rfl ?_
  refine E_gI (v := ((x.1 : Nat) : Int)) rfl rfl rfl rfl hP.1 ?_
  refine E_s (p' := 6) (st' := aI 30 :: _) rfl rfl ?_
  refine E_icmp_ge (x := ((x.1 : Nat) : Int)) (y := 30) rfl (by decide) (fun h_1 => ?_) (fun h_1 => ?_)
  · refine E_go (p' := 36) (L' := [some (aA 15), some (aI (h)), some (aI ((s : Nat) : Int)), some (aI ((t : Nat) : Int)), some (aI ((Cl R c : Nat) : Int))]) (st' := []) rfl rfl rfl ?_
    refine E_s (p' := 37) (st' := aI 0 :: _) rfl rfl ?_
    refine E_ret rfl rfl ?_
    exact q0 (fun g => by first | exact absurd g.1 (by omega) | exact absurd g.2.1 (by omega) | exact absurd g.2.2.1 (by omega) | exact g.2.2.2 _ hk1 hk3)
  · refine E_go (p' := 9) (L' := [some (aA 15), some (aI (h)), some (aI ((s : Nat) : Int)), some (aI ((t : Nat) : Int)), some (aI ((Cl R c : Nat) : Int))]) (st' := []) rfl rfl rfl ?_
    refine E_s (p' := 10) (st' := aI (h) :: _) rfl rfl ?_
    refine E_s (p' := 11) (st' := aI 1 :: _) rfl rfl ?_
    refine E_icmp_lt (x := (h)) (y := 1) rfl (by decide) (fun h_2 => ?_) (fun h_2 => ?_)
    · refine E_go (p' := 36) (L' := [some (aA 15), some (aI (h)), some (aI ((s : Nat) : Int)), some (aI ((t : Nat) : Int)), some (aI ((Cl R c : Nat) : Int))]) (st' := []) rfl rfl rfl ?_
      refine E_s (p' := 37) (st' := aI 0 :: _) rfl rfl ?_
      refine E_ret rfl rfl ?_
      exact q0 (fun g => by first | exact absurd g.1 (by omega) | exact absurd g.2.1 (by omega) | exact absurd g.2.2.1 (by omega) | exact g.2.2.2 _ hk1 hk3)
    · refine E_go (p' := 14) (L' := [some (aA 15), some (aI (h)), some (aI ((s : Nat) : Int)), some (aI ((t : Nat) : Int)), some (aI ((Cl R c : Nat) : Int))]) (st' := []) rfl rfl rfl ?_
      refine E_s (p' := 15) (st' := aI (h) :: _) rfl rfl ?_
      refine E_s (p' := 17) (st' := aI ((Cl R c : Nat) : Int) :: _) rfl rfl ?_
      refine E_icmp_gt (x := (h)) (y := ((Cl R c : Nat) : Int)) rfl (by decide) (fun h_3 => ?_) (fun h_3 => ?_)
      · refine E_go (p' := 36) (L' := [some (aA 15), some (aI (h)), some (aI ((s : Nat) : Int)), some (aI ((t : Nat) : Int)), some (aI ((Cl R c : Nat) : Int))]) (st' := []) rfl rfl rfl ?_
        refine E_s (p' := 37) (st' := aI 0 :: _) rfl rfl ?_
        refine E_ret rfl rfl ?_
        exact q0 (fun g => by first | exact absurd g.1 (by omega) | exact absurd g.2.1 (by omega) | exact absurd g.2.2.1 (by omega) | exact g.2.2.2 _ hk1 hk3)
      · refine E_go (p' := 20) (L' := [some (aA 15), some (aI (h)), some (aI ((s : Nat) : Int)), some (aI ((t : Nat) : Int)), some (aI ((Cl R c : Nat) : Int))]) (st' := []) rfl rfl rfl ?_
        refine E_s (p' := 21) (st' := aA 15 :: _) rfl rfl ?_
        refine E_gA (b := 16) rfl rfl rfl rfl hm_15_0 rfl ?_
        refine E_s (p' := 25) (st' := aI 0 :: _) rfl rfl ?_
        refine E_s (p' := 26) (st' := aA 15 :: _) rfl rfl ?_
        refine E_gI (v := ((x.1 : Nat) : Int)) rfl rfl rfl rfl hP.1 ?_
        refine E_s (p' := 30) (st' := aI (h) :: _) rfl rfl ?_
        refine E_callL (p' := 33) (L0 := [some (aA 16), some (aI 0), some (aI ((x.1 : Nat) : Int)), some (aI (h)), none]) rfl rfl rfl ?_
        refine c_isAt (f := 0) (n := x.1) (N := 30) (P := x.2) rfl (by omega) (by decide) (fun e k hk he => by rw [he, Nat.zero_add]; exact hP.2 k hk) (hX.lt hc) (hX.srt hc) (fun k1 hk1 hk2 hk3 => ?_) (fun hno => ?_)
        · refine E_go (p' := 33) (L' := [some (aA 15), some (aI (h)), some (aI ((s : Nat) : Int)), some (aI ((t : Nat) : Int)), some (aI ((Cl R c : Nat) : Int))]) (st' := [aI 1]) rfl rfl rfl ?_
          refine E_s (p' := 36) rfl rfl ?_
          refine E_s (p' := 37) (st' := aI 0 :: _) rfl rfl ?_
          refine E_ret rfl rfl ?_
          exact q0 (fun g => by first | exact absurd g.1 (by omega) | exact absurd g.2.1 (by omega) | exact absurd g.2.2.1 (by omega) | exact g.2.2.2 _ hk1 hk3)
        · refine E_go (p' := 33) (L' := [some (aA 15), some (aI (h)), some (aI ((s : Nat) : Int)), some (aI ((t : Nat) : Int)), some (aI ((Cl R c : Nat) : Int))]) (st' := [aI 0]) rfl rfl rfl ?_
          refine E_s (p' := 38) rfl rfl ?_
          obtain ⟨hn, eh⟩ : ∃ y : Nat, h = (y : Int) := ⟨h.toNat, by omega⟩
          subst eh
          have hpl := pck_lt (h := hn) (s := s) (t := t) (by omega) hq.1 hq.2
          refine E_s (p' := 39) (st' := aA 15 :: _) rfl rfl ?_
          refine E_gA (b := 16) rfl rfl rfl rfl hm_15_0 rfl ?_
          refine E_s (p' := 43) (st' := aI 0 :: _) rfl rfl ?_
          refine E_s (p' := 44) (st' := aA 15 :: _) rfl rfl ?_
          refine E_gI (v := ((x.1 : Nat) : Int)) rfl rfl rfl rfl hP.1 ?_
          refine E_s (p' := 48) (st' := aI ((hn : Nat) : Int) :: _) rfl rfl ?_
          refine E_s (p' := 49) (st' := aI ((s : Nat) : Int) :: _) rfl rfl ?_
          refine E_s (p' := 50) (st' := aI ((t : Nat) : Int) :: _) rfl rfl ?_
          refine E_callL (p' := 53) (L0 := [some (aI ((hn : Nat) : Int)), some (aI ((s : Nat) : Int)), some (aI ((t : Nat) : Int))]) rfl rfl rfl ?_
          refine c_pack (h := hn) (s := s) (t := t) (by omega) hq.1 hq.2 ?_
          refine E_go (p' := 53) (L' := [some (aA 15), some (aI ((hn : Nat) : Int)), some (aI ((s : Nat) : Int)), some (aI ((t : Nat) : Int)), some (aI ((Cl R c : Nat) : Int))]) (st' := [aI ((pck hn s t : Nat) : Int), aI ((x.1 : Nat) : Int), aI 0, aA 16]) rfl rfl rfl ?_
          refine E_callL (p' := 56) (L0 := [some (aA 16), some (aI 0), some (aI ((x.1 : Nat) : Int)), some (aI ((pck hn s t : Nat) : Int)), none]) rfl rfl rfl ?_
          refine c_insertInto (f := 0) (n := x.1) (N := 30) (P := x.2) (x := pck hn s t) rfl (by omega) (by decide) (fun e k hk he => by rw [he, Nat.zero_add]; exact hP.2 k hk) (hX.lt hc) hpl (fun k1 m1 hk1 hk2 hk3 hF1 hF2 hI1 => ?_)
          refine E_go (p' := 56) (L' := [some (aA 15), some (aI ((hn : Nat) : Int)), some (aI ((s : Nat) : Int)), some (aI ((t : Nat) : Int)), some (aI ((Cl R c : Nat) : Int))]) (st' := []) rfl rfl rfl ?_
          refine E_s (p' := 57) (st' := aA 15 :: _) rfl rfl ?_
          refine E_s (p' := 58) (st' := aA 15 :: _) rfl rfl ?_
          refine E_gI (v := ((x.1 : Nat) : Int)) rfl rfl rfl rfl ((hF1 _ _ (by decide)).trans hP.1) ?_
          refine E_s (p' := 62) (st' := aI 1 :: _) rfl rfl ?_
          refine E_add (v := ((x.1 + 1 : Nat) : Int)) rfl (by omega) (by omega) ?_
          refine E_pI rfl rfl rfl rfl (Or.inl rfl) ?_
          refine E_s (p' := 67) (st' := aI 1 :: _) rfl rfl ?_
          refine E_ret rfl rfl ?_
          have ef : fitK (Cl R c) x.1 x.2 (hn : Int) := ⟨by omega, by omega, by omega, hno⟩
          have e0 := pck_ht (h := hn) hq.1 hq.2
          rw [e0] at hk2 hk3
          have ep := posn_u (P := x.2) (h := hn) (n := x.1) hk1 hk2 hk3
          have ei : inK x.1 x.2 ((hn : Int), (s, t)) = insP x.2 k1 (pck hn s t) := by unfold inK; rw [Int.toNat_natCast, ← ep]
          refine q1 _ ef ⟨?_, fun k hk => ?_⟩ (fun b j g1 g2 => ?_)
          · exact up2_eq
          · rw [ei]
            have := hI1 k (by have hk : k < x.1 + 1 := hk; omega)
            rw [Nat.zero_add] at this
            exact (up2_ne (by omega)).trans this
          · exact (up2_o g1).trans (hF1 b j (by omega))
end
section
variable {len : Nat} {m m0 : Mm} {Q : Option AV → Sx → Prop} {R : RD} {c f e d9 : Nat} {u : Bool} {x : KR}
theorem smK_none {f e n : Nat} {x : KR} {i : Nat} (h : fdK n (some x) (smK f e i) = none) : ∀ j, i ≤ j → fdK n (some x) (smK f e j) = none := by
  intro j
  induction j with
  | zero => intro hk; have e9 : i = 0 := by omega
            subst e9; exact h
  | succ j ih =>
    intro hk
    by_cases e9 : i = j + 1
    · subst e9; exact h
    · show fdK n (some x) (smK f e j ++ _) = none
      rw [fdK_app, ih (by omega)]; exact fdK_none _
theorem yl_dg (hV : VR R) (hc : c < Cn R) (ht0 : Ct R c = 0) (hf : f ≤ 600) (he : e ≤ 8) (q1 : ∀ (m1 : Mm) (y : KR), fdK (Cl R c) (some x) (smK f e (e + 1)) = some y → okK R c y → PK y m1 → FrK m0 m1 → Q (some (aI 1)) (m1, tl len)) (q0 : ∀ m1 : Mm, fdK (Cl R c) (some x) (smK f e (e + 1)) = none → FrK m0 m1 → Q (some (aI 0)) (m1, tl len))  : ∀ (d : Nat) (i : Nat) (m : Mm) (y : KR), (e + 1 < i + d) → (i ≤ e + 1) → (fdK (Cl R c) (some x) (smK f e i) = some y) → (okK R c y) → (PK y m) → (FrK m0 m) → E 52 52 [some (aA 15), some (aI ((f : Nat) : Int)), some (aI 0), some (aI ((e + 1 : Nat) : Int)), some (aI ((Cl R c : Nat) : Int)), some (aI ((f : Int) - (3 * e / 2 : Int))), some (aI ((i : Nat) : Int))] [] (m, tl len) Q := by
  intro d
  induction d with
  | zero => intro i m y hd hi I1 I2 I3 I4; omega
  | succ d ih =>
    intro i m y hd hi I1 I2 I3 I4
    refine E_s (p' := 54) (st' := aI ((i : Nat) : Int) :: _) rfl rfl ?_
    refine E_s (p' := 55) (st' := aI ((e + 1 : Nat) : Int) :: _) rfl rfl ?_
    refine E_icmp_ge (x := ((i : Nat) : Int)) (y := ((e + 1 : Nat) : Int)) rfl (by decide) (fun h_1 => ?_) (fun h_1 => ?_)
    · refine E_go (p' := 84) (L' := [some (aA 15), some (aI ((f : Nat) : Int)), some (aI 0), some (aI ((e + 1 : Nat) : Int)), some (aI ((Cl R c : Nat) : Int)), some (aI ((f : Int) - (3 * e / 2 : Int))), some (aI ((i : Nat) : Int))]) (st' := []) rfl rfl rfl ?_
      refine E_s (p' := 85) (st' := aI 1 :: _) rfl rfl ?_
      refine E_ret rfl rfl ?_
      have ei : i = e + 1 := by omega
      subst ei
      exact q1 m y I1 I2 I3 I4
    · refine E_go (p' := 58) (L' := [some (aA 15), some (aI ((f : Nat) : Int)), some (aI 0), some (aI ((e + 1 : Nat) : Int)), some (aI ((Cl R c : Nat) : Int)), some (aI ((f : Int) - (3 * e / 2 : Int))), some (aI ((i : Nat) : Int))]) (st' := []) rfl rfl rfl ?_
      refine E_s (p' := 59) (st' := aA 15 :: _) rfl rfl ?_
      refine E_s (p' := 61) (st' := aI ((f : Int) - (3 * e / 2 : Int)) :: _) rfl rfl ?_
      refine E_s (p' := 62) (st' := aI 3 :: _) rfl rfl ?_
      refine E_s (p' := 64) (st' := aI ((i : Nat) : Int) :: _) rfl rfl ?_
      refine E_mul (v := ((3 * i : Nat) : Int)) rfl (by omega) (by omega) ?_
      refine E_add (v := ((f : Int) - (3 * e / 2 : Int) + 3 * (i : Int))) rfl (by omega) (by omega) ?_
      refine E_s (p' := 67) (st' := aI 0 :: _) rfl rfl ?_
      refine E_s (p' := 68) (st' := aI 0 :: _) rfl rfl ?_
      refine E_s (p' := 70) (st' := aI ((Cl R c : Nat) : Int) :: _) rfl rfl ?_
      refine E_callV (k' := 53) (a := 15) (r := []) (L0 := [some (aA 15), some (aI ((f : Int) - (3 * e / 2 : Int) + 3 * (i : Int))), some (aI 0), some (aI 0), some (aI ((Cl R c : Nat) : Int))]) rfl rfl rfl rfl rfl rfl rfl rfl rfl rfl ?_
      refine c_planKnot (x := y) I2 hV hc ht0 I3 (s := 0) (t := 0) (h := ((f : Int) - (3 * e / 2 : Int) + 3 * (i : Int))) (by decide) (fun m1 ef hP1 hF1 => ?_) (fun nf => ?_)
      · refine E_go (p' := 73) (L' := [some (aA 15), some (aI ((f : Nat) : Int)), some (aI 0), some (aI ((e + 1 : Nat) : Int)), some (aI ((Cl R c : Nat) : Int)), some (aI ((f : Int) - (3 * e / 2 : Int))), some (aI ((i : Nat) : Int))]) (st' := [aI 1]) rfl rfl rfl ?_
        refine E_s (p' := 78) rfl rfl ?_
        refine E_inc (x := ((i : Nat) : Int)) (w := ((i + 1 : Nat) : Int)) (L' := [some (aA 15), some (aI ((f : Nat) : Int)), some (aI 0), some (aI ((e + 1 : Nat) : Int)), some (aI ((Cl R c : Nat) : Int)), some (aI ((f : Int) - (3 * e / 2 : Int))), some (aI ((i + 1 : Nat) : Int))]) rfl rfl rfl (by omega) (by omega) rfl ?_
        refine E_s (p' := 52) rfl rfl ?_
        have e9 : fdK (Cl R c) (some x) (smK f e (i + 1)) = some (y.1 + 1, inK y.1 y.2 (itS f e i)) := by
          show fdK (Cl R c) (some x) (smK f e i ++ [itS f e i]) = _
          rw [fdK_app, I1, fdK_one]
          unfold stK itS
          exact cif_pos ef
        exact ih (i + 1) m1 _ (by omega) (by omega) e9 (I2.fit hc ht0 (q := itS f e i) ef itS_it kok0) hP1 (I4.tr hF1)
      · refine E_go (p' := 73) (L' := [some (aA 15), some (aI ((f : Nat) : Int)), some (aI 0), some (aI ((e + 1 : Nat) : Int)), some (aI ((Cl R c : Nat) : Int)), some (aI ((f : Int) - (3 * e / 2 : Int))), some (aI ((i : Nat) : Int))]) (st' := [aI 0]) rfl rfl rfl ?_
        refine E_s (p' := 76) rfl rfl ?_
        refine E_s (p' := 77) (st' := aI 0 :: _) rfl rfl ?_
        refine E_ret rfl rfl ?_
        have e9 : fdK (Cl R c) (some x) (smK f e (i + 1)) = none := by
          show fdK (Cl R c) (some x) (smK f e i ++ [itS f e i]) = _
          rw [fdK_app, I1, fdK_one]
          unfold stK itS
          exact cif_neg nf
        exact q0 m (smK_none e9 (e + 1) (by omega)) I4
theorem c_pdT (hX : okK R c x) (hV : VR R) (hc : c < Cn R) (ht0 : Ct R c = 0) (hP : PK x m0) (hf : f ≤ 600) (hd9 : d9 ≤ 9) (q1 : ∀ (m1 : Mm) (y : KR), fdK (Cl R c) (some x) (dgK f true d9) = some y → okK R c y → PK y m1 → FrK m0 m1 → Q (some (aI 1)) (m1, tl len)) (q0 : ∀ m1 : Mm, fdK (Cl R c) (some x) (dgK f true d9) = none → FrK m0 m1 → Q (some (aI 0)) (m1, tl len))  : E 52 0 [some (aA 15), some (aI ((f : Nat) : Int)), some (aI 1), some (aI ((d9 : Nat) : Int)), some (aI ((Cl R c : Nat) : Int)), none, none] [] (m0, tl len) Q := by
  refine E_s (p' := 1) (st' := aI ((d9 : Nat) : Int) :: _) rfl rfl ?_
  refine E_if_ne (x := ((d9 : Nat) : Int)) rfl (by decide) (fun h_1 => ?_) (fun h_1 => ?_)
  · refine E_go (p' := 6) (L' := [some (aA 15), some (aI ((f : Nat) : Int)), some (aI 1), some (aI ((d9 : Nat) : Int)), some (aI ((Cl R c : Nat) : Int)), none, none]) (st' := []) rfl rfl rfl ?_
    refine E_s (p' := 7) (st' := aI 1 :: _) rfl rfl ?_
    refine E_s (p' := 10) rfl rfl ?_
    refine E_s (p' := 11) (st' := aA 15 :: _) rfl rfl ?_
    refine E_s (p' := 12) (st' := aI ((f : Nat) : Int) :: _) rfl rfl ?_
    refine E_s (p' := 13) (st' := aI ((d9 : Nat) : Int) :: _) rfl rfl ?_
    refine E_s (p' := 14) (st' := aI 1 :: _) rfl rfl ?_
    refine E_icmp_ne (x := ((d9 : Nat) : Int)) (y := 1) rfl (by decide) (fun h_2 => ?_) (fun h_2 => ?_)
    · refine E_go (p' := 21) (L' := [some (aA 15), some (aI ((f : Nat) : Int)), some (aI 1), some (aI ((d9 : Nat) : Int)), some (aI ((Cl R c : Nat) : Int)), none, none]) (st' := [aI ((f : Nat) : Int), aA 15]) rfl rfl rfl ?_
      refine E_s (p' := 22) (st' := aI 1 :: _) rfl rfl ?_
      refine E_s (p' := 23) (st' := aI ((d9 : Nat) : Int) :: _) rfl rfl ?_
      refine E_s (p' := 24) (st' := aI 1 :: _) rfl rfl ?_
      refine E_icmp_ne (x := ((d9 : Nat) : Int)) (y := 1) rfl (by decide) (fun h_3 => ?_) (fun q => absurd q (by omega))
      refine E_go (p' := 31) (L' := [some (aA 15), some (aI ((f : Nat) : Int)), some (aI 1), some (aI ((d9 : Nat) : Int)), some (aI ((Cl R c : Nat) : Int)), none, none]) (st' := [aI 1, aI ((f : Nat) : Int), aA 15]) rfl rfl rfl ?_
      refine E_s (p' := 32) (st' := aI ((d9 : Nat) : Int) :: _) rfl rfl ?_
      refine E_s (p' := 34) (st' := aI ((Cl R c : Nat) : Int) :: _) rfl rfl ?_
      refine E_callV (k' := 53) (a := 15) (r := []) (L0 := [some (aA 15), some (aI ((f : Nat) : Int)), some (aI 1), some (aI ((d9 : Nat) : Int)), some (aI ((Cl R c : Nat) : Int))]) rfl rfl rfl rfl rfl rfl rfl rfl rfl rfl ?_
      refine c_planKnot (x := x) hX hV hc ht0 hP (s := 1) (t := d9) (h := (f : Int)) (by omega) (fun m1 ef hP1 hF1 => ?_) (fun nf => ?_)
      · refine E_go (p' := 37) (L' := [some (aA 15), some (aI ((f : Nat) : Int)), some (aI 1), some (aI ((d9 : Nat) : Int)), some (aI ((Cl R c : Nat) : Int)), none, none]) (st' := [aI 1]) rfl rfl rfl ?_
        refine E_ret rfl rfl ?_
        have e0 : dgK f true d9 = [itU f d9] := by unfold dgK; rw [if_neg (by omega)]; rfl
        have e1 : itU f d9 = ((f : Int), (1, d9)) := by unfold itU; rw [if_neg (by omega)]
        rw [e0, fdK_one, e1] at q1 q0
        exact q1 m1 _ (by unfold stK; exact cif_pos ef) (hX.fit hc ht0 (q := ((f : Int), (1, d9))) ef (by unfold itk; dsimp only; omega) (by unfold kok; rw [pck_so (by dsimp only; omega) (by dsimp only; omega), pck_tu (by dsimp only; omega)]; dsimp only; omega)) hP1 hF1
      · refine E_go (p' := 37) (L' := [some (aA 15), some (aI ((f : Nat) : Int)), some (aI 1), some (aI ((d9 : Nat) : Int)), some (aI ((Cl R c : Nat) : Int)), none, none]) (st' := [aI 0]) rfl rfl rfl ?_
        refine E_ret rfl rfl ?_
        have e0 : dgK f true d9 = [itU f d9] := by unfold dgK; rw [if_neg (by omega)]; rfl
        have e1 : itU f d9 = ((f : Int), (1, d9)) := by unfold itU; rw [if_neg (by omega)]
        rw [e0, fdK_one, e1] at q1 q0
        exact q0 m0 (by unfold stK; exact cif_neg nf) FrK.rf
    · refine E_go (p' := 17) (L' := [some (aA 15), some (aI ((f : Nat) : Int)), some (aI 1), some (aI ((d9 : Nat) : Int)), some (aI ((Cl R c : Nat) : Int)), none, none]) (st' := [aI ((f : Nat) : Int), aA 15]) rfl rfl rfl ?_
      refine E_s (p' := 18) (st' := aI 2 :: _) rfl rfl ?_
      refine E_s (p' := 22) rfl rfl ?_
      refine E_s (p' := 23) (st' := aI ((d9 : Nat) : Int) :: _) rfl rfl ?_
      refine E_s (p' := 24) (st' := aI 1 :: _) rfl rfl ?_
      refine E_icmp_ne (x := ((d9 : Nat) : Int)) (y := 1) rfl (by decide) (fun q => absurd q (by omega)) (fun h_4 => ?_)
      refine E_go (p' := 27) (L' := [some (aA 15), some (aI ((f : Nat) : Int)), some (aI 1), some (aI ((d9 : Nat) : Int)), some (aI ((Cl R c : Nat) : Int)), none, none]) (st' := [aI 2, aI ((f : Nat) : Int), aA 15]) rfl rfl rfl ?_
      refine E_s (p' := 28) (st' := aI 0 :: _) rfl rfl ?_
      refine E_s (p' := 32) rfl rfl ?_
      refine E_s (p' := 34) (st' := aI ((Cl R c : Nat) : Int) :: _) rfl rfl ?_
      refine E_callV (k' := 53) (a := 15) (r := []) (L0 := [some (aA 15), some (aI ((f : Nat) : Int)), some (aI 2), some (aI 0), some (aI ((Cl R c : Nat) : Int))]) rfl rfl rfl rfl rfl rfl rfl rfl rfl rfl ?_
      refine c_planKnot (x := x) hX hV hc ht0 hP (s := 2) (t := 0) (h := (f : Int)) (by omega) (fun m1 ef hP1 hF1 => ?_) (fun nf => ?_)
      · refine E_go (p' := 37) (L' := [some (aA 15), some (aI ((f : Nat) : Int)), some (aI 1), some (aI ((d9 : Nat) : Int)), some (aI ((Cl R c : Nat) : Int)), none, none]) (st' := [aI 1]) rfl rfl rfl ?_
        refine E_ret rfl rfl ?_
        have e0 : dgK f true d9 = [itU f d9] := by unfold dgK; rw [if_neg (by omega)]; rfl
        have e1 : itU f d9 = ((f : Int), (2, 0)) := by unfold itU; rw [if_pos (by omega)]
        rw [e0, fdK_one, e1] at q1 q0
        exact q1 m1 _ (by unfold stK; exact cif_pos ef) (hX.fit hc ht0 (q := ((f : Int), ((2, 0) : Nat × Nat))) ef (by unfold itk; dsimp only; omega) (by unfold kok; rw [pck_so (by dsimp only; omega) (by dsimp only; omega), pck_tu (by dsimp only; omega)]; dsimp only; omega)) hP1 hF1
      · refine E_go (p' := 37) (L' := [some (aA 15), some (aI ((f : Nat) : Int)), some (aI 1), some (aI ((d9 : Nat) : Int)), some (aI ((Cl R c : Nat) : Int)), none, none]) (st' := [aI 0]) rfl rfl rfl ?_
        refine E_ret rfl rfl ?_
        have e0 : dgK f true d9 = [itU f d9] := by unfold dgK; rw [if_neg (by omega)]; rfl
        have e1 : itU f d9 = ((f : Int), (2, 0)) := by unfold itU; rw [if_pos (by omega)]
        rw [e0, fdK_one, e1] at q1 q0
        exact q0 m0 (by unfold stK; exact cif_neg nf) FrK.rf
  · refine E_go (p' := 4) (L' := [some (aA 15), some (aI ((f : Nat) : Int)), some (aI 1), some (aI ((d9 : Nat) : Int)), some (aI ((Cl R c : Nat) : Int)), none, none]) (st' := []) rfl rfl rfl ?_
    refine E_s (p' := 5) (st' := aI 1 :: _) rfl rfl ?_
    refine E_ret rfl rfl ?_
    exact q1 m0 x (by rw [show d9 = 0 by omega]; rfl) hX hP FrK.rf
theorem c_pdF (hX : okK R c x) (hV : VR R) (hc : c < Cn R) (ht0 : Ct R c = 0) (hP : PK x m0) (hf : f ≤ 600) (hd9 : d9 ≤ 9) (q1 : ∀ (m1 : Mm) (y : KR), fdK (Cl R c) (some x) (dgK f false d9) = some y → okK R c y → PK y m1 → FrK m0 m1 → Q (some (aI 1)) (m1, tl len)) (q0 : ∀ m1 : Mm, fdK (Cl R c) (some x) (dgK f false d9) = none → FrK m0 m1 → Q (some (aI 0)) (m1, tl len))  : E 52 0 [some (aA 15), some (aI ((f : Nat) : Int)), some (aI 0), some (aI ((d9 : Nat) : Int)), some (aI ((Cl R c : Nat) : Int)), none, none] [] (m0, tl len) Q := by
  refine E_s (p' := 1) (st' := aI ((d9 : Nat) : Int) :: _) rfl rfl ?_
  refine E_if_ne (x := ((d9 : Nat) : Int)) rfl (by decide) (fun h_1 => ?_) (fun h_1 => ?_)
  · refine E_go (p' := 6) (L' := [some (aA 15), some (aI ((f : Nat) : Int)), some (aI 0), some (aI ((d9 : Nat) : Int)), some (aI ((Cl R c : Nat) : Int)), none, none]) (st' := []) rfl rfl rfl ?_
    refine E_s (p' := 7) (st' := aI 0 :: _) rfl rfl ?_
    refine E_s (p' := 38) rfl rfl ?_
    obtain ⟨e, ee⟩ : ∃ y : Nat, d9 = y + 1 := ⟨d9 - 1, by omega⟩
    subst ee
    have e0 : dgK f false (e + 1) = smK f e (e + 1) := by unfold dgK; rw [if_neg (by omega), Nat.add_sub_cancel]; rfl
    rw [e0] at q1 q0
    refine E_s (p' := 39) (st' := aI ((f : Nat) : Int) :: _) rfl rfl ?_
    refine E_s (p' := 40) (st' := aI 3 :: _) rfl rfl ?_
    refine E_s (p' := 41) (st' := aI ((e + 1 : Nat) : Int) :: _) rfl rfl ?_
    refine E_s (p' := 42) (st' := aI 1 :: _) rfl rfl ?_
    refine E_sub (v := ((e : Nat) : Int)) rfl (by omega) (by omega) ?_
    refine E_mul (v := ((3 * e : Nat) : Int)) rfl (by omega) (by omega) ?_
    refine E_s (p' := 45) (st' := aI 2 :: _) rfl rfl ?_
    refine E_div (v := (((3 * e) / 2 : Nat) : Int)) rfl (by omega) (by omega) (by omega) (by omega) ?_
    refine E_sub (v := ((f : Int) - ((3 * e) / 2 : Int))) rfl (by omega) (by omega) ?_
    refine E_s (p' := 49) (L' := [some (aA 15), some (aI ((f : Nat) : Int)), some (aI 0), some (aI ((e + 1 : Nat) : Int)), some (aI ((Cl R c : Nat) : Int)), some (aI ((f : Int) - ((3 * e) / 2 : Int))), none]) rfl rfl ?_
    refine E_s (p' := 50) (st' := aI 0 :: _) rfl rfl ?_
    refine E_s (p' := 52) (L' := [some (aA 15), some (aI ((f : Nat) : Int)), some (aI 0), some (aI ((e + 1 : Nat) : Int)), some (aI ((Cl R c : Nat) : Int)), some (aI ((f : Int) - ((3 * e) / 2 : Int))), some (aI 0)]) rfl rfl ?_
    exact yl_dg hV hc ht0 hf (by omega) q1 q0 (e + 2) 0 m0 x (by omega) (by omega) rfl hX hP FrK.rf
  · refine E_go (p' := 4) (L' := [some (aA 15), some (aI ((f : Nat) : Int)), some (aI 0), some (aI ((d9 : Nat) : Int)), some (aI ((Cl R c : Nat) : Int)), none, none]) (st' := []) rfl rfl rfl ?_
    refine E_s (p' := 5) (st' := aI 1 :: _) rfl rfl ?_
    refine E_ret rfl rfl ?_
    exact q1 m0 x (by rw [show d9 = 0 by omega]; rfl) hX hP FrK.rf
end
section
variable {len : Nat} {m m0 : Mm} {Q : Option AV → Sx → Prop} {R : RD} {a c X N0 : Nat}
theorem cif_same {α : Type} {P : Prop} {x : α} : cif P x x = x := by unfold cif; exact ite_self _
theorem dnK_none {R : RD} {x n : Nat} {o : Option KR} {i : Nat} (h : fdK n o (dnK R x i) = none) : ∀ j, i ≤ j → fdK n o (dnK R x j) = none := by
  intro j
  induction j with
  | zero => intro hk; have e9 : i = 0 := by omega
            subst e9; exact h
  | succ j ih =>
    intro hk
    by_cases e9 : i = j + 1
    · subst e9; exact h
    · show fdK n o (dnK R x j ++ _) = none
      rw [fdK_app, ih (by omega)]; exact fdK_none _
theorem Ru_10 (R : RD) : (Run R = true ∧ Ru R = 1) ∨ (Run R = false ∧ Ru R = 10) := by
  unfold Ru
  cases Run R
  · exact Or.inr ⟨rfl, rfl⟩
  · exact Or.inl ⟨rfl, rfl⟩
theorem plan_lv {l j : Nat} (h : l + 1 + j = RL R) (hN : N0 = X / Ru R) : lvK R X (RL R - 1 - j) = dgK (RF R l) (Run R && decide (l + 1 = RL R)) (N0 / 10 ^ j % 10) := by
  have e1 : RL R - 1 - j = l := by omega
  have e2 : X / Rct R l = N0 / 10 ^ j := by
    unfold Rct
    rw [hN, Nat.div_div_eq_div_mul, Nat.mul_comm, show RL R - 1 - l = j by omega]
    rfl
  unfold lvK
  rw [e1, e2]
theorem yl_pl (hR : isR a) (hV : VR R) (hc : c < Cn R) (ht0 : Ct R c = 0) (hd9 : RdC R a m0) (hx : X ≤ 999999) (h0 : 0 < RL R) (hN : N0 = X / Ru R) (hmd : X % Ru R = 0) (q1 : ∀ (m1 : Mm) (y : KR), plN R c X = some y → okK R c y → PK y m1 → FrK m0 m1 → Q (some (aI 1)) (m1, tl len)) (q0 : ∀ m1 : Mm, plN R c X = none → FrK m0 m1 → Q (some (aI 0)) (m1, tl len))  : ∀ (d : Nat) (z : Int) (j t : Nat) (m : Mm) (y : KR) (x6 x7 : Option AV), (RL R < j + d) → (t = N0 / 10 ^ j) → (z + 1 + (j : Int) = (RL R : Int)) → (j ≤ RL R) → (fdK (Cl R c) (some K0) (dnK R X j) = some y) → (okK R c y) → (PK y m) → (FrK m0 m) → E 51 53 [some (aA 15), some (aA (a + 15)), some (aI ((Cl R c : Nat) : Int)), some (aI ((X : Nat) : Int)), some (aI ((t : Nat) : Int)), some (aI (z)), x6, x7] [] (m, tl len) Q := by
  intro d
  induction d with
  | zero => intro z j t m y x6 x7 hd I0 hz hj I1 I2 I3 I4; omega
  | succ d ih =>
    intro z j t m y x6 x7 hd I0 hz hj I1 I2 I3 I4
    have hab := isR_b hR
    have hrl := RL_mx R
    have hm6 : mxv (Run R) ≤ 6 := by cases Run R <;> decide
    have htx : t ≤ X := by rw [I0, hN]; exact Nat.le_trans (Nat.div_le_self _ _) (Nat.div_le_self _ _)
    refine E_s (p' := 55) (st' := aI (z) :: _) rfl rfl ?_
    refine E_if_lt (x := (z)) rfl (by decide) (fun h_1 => ?_) (fun h_1 => ?_)
    · refine E_go (p' := 124) (L' := [some (aA 15), some (aA (a + 15)), some (aI ((Cl R c : Nat) : Int)), some (aI ((X : Nat) : Int)), some (aI ((t : Nat) : Int)), some (aI (z)), x6, x7]) (st' := []) rfl rfl rfl ?_
      refine E_s (p' := 126) (st' := aI ((t : Nat) : Int) :: _) rfl rfl ?_
      refine E_if_ne (x := ((t : Nat) : Int)) rfl (by decide) (fun h_2 => ?_) (fun h_2 => ?_)
      · refine E_go (p' := 133) (L' := [some (aA 15), some (aA (a + 15)), some (aI ((Cl R c : Nat) : Int)), some (aI ((X : Nat) : Int)), some (aI ((t : Nat) : Int)), some (aI (z)), x6, x7]) (st' := []) rfl rfl rfl ?_
        refine E_s (p' := 134) (st' := aI 0 :: _) rfl rfl ?_
        refine E_ret rfl rfl ?_
        have ej : j = RL R := by omega
        subst ej
        exact q0 m (by unfold plN; exact cif_neg (fun g => by have := g.2.2; rw [← hN, ← I0] at this; omega)) I4
      · refine E_go (p' := 129) (L' := [some (aA 15), some (aA (a + 15)), some (aI ((Cl R c : Nat) : Int)), some (aI ((X : Nat) : Int)), some (aI ((t : Nat) : Int)), some (aI (z)), x6, x7]) (st' := []) rfl rfl rfl ?_
        refine E_s (p' := 130) (st' := aI 1 :: _) rfl rfl ?_
        refine E_s (p' := 134) rfl rfl ?_
        refine E_ret rfl rfl ?_
        have ej : j = RL R := by omega
        subst ej
        exact q1 m y (by unfold plN; rw [cif_pos ⟨by omega, hmd, by rw [← hN, ← I0]; omega⟩, ← fdK_dn]; exact I1) I2 I3 I4
    · refine E_go (p' := 58) (L' := [some (aA 15), some (aA (a + 15)), some (aI ((Cl R c : Nat) : Int)), some (aI ((X : Nat) : Int)), some (aI ((t : Nat) : Int)), some (aI (z)), x6, x7]) (st' := []) rfl rfl rfl ?_
      obtain ⟨l, el⟩ : ∃ t : Nat, z = (t : Int) := ⟨z.toNat, by omega⟩
      subst el
      have hlv : lvK R X (RL R - 1 - j) = dgK (RF R l) (Run R && decide (l + 1 = RL R)) (t % 10) := by rw [I0]; exact plan_lv (by omega) hN
      have hrf := RF_le (R := R) (l := l) (by omega)
      have h10 := Nat.mod_lt t (show 0 < 10 by decide)
      refine E_s (p' := 60) (st' := aI ((t : Nat) : Int) :: _) rfl rfl ?_
      refine E_s (p' := 62) (st' := aI 10 :: _) rfl rfl ?_
      refine E_rem (v := (((t) % 10 : Nat) : Int)) rfl (by omega) (by omega) (by omega) (by omega) ?_
      refine E_s (p' := 65) (L' := [some (aA 15), some (aA (a + 15)), some (aI ((Cl R c : Nat) : Int)), some (aI ((X : Nat) : Int)), some (aI ((t : Nat) : Int)), some (aI ((l : Nat) : Int)), some (aI (((t) % 10 : Nat) : Int)), x7]) rfl rfl ?_
      refine E_s (p' := 67) (st' := aI ((t : Nat) : Int) :: _) rfl rfl ?_
      refine E_s (p' := 69) (st' := aI 10 :: _) rfl rfl ?_
      refine E_div (v := (((t) / 10 : Nat) : Int)) rfl (by omega) (by omega) (by omega) (by omega) ?_
      refine E_s (p' := 72) (L' := [some (aA 15), some (aA (a + 15)), some (aI ((Cl R c : Nat) : Int)), some (aI ((X : Nat) : Int)), some (aI (((t) / 10 : Nat) : Int)), some (aI ((l : Nat) : Int)), some (aI (((t) % 10 : Nat) : Int)), x7]) rfl rfl ?_
      refine E_s (p' := 73) (st' := aA (a + 15) :: _) rfl rfl ?_
      refine E_gI (v := (bi (Run R))) rfl rfl rfl (kR_15 hR) ((I4 _ _ (by omega) (by omega)).trans hd9.1) ?_
      refine E_b_eq0 (b := (Run R)) rfl (by decide) (fun h_3 => ?_) (fun h_3 => ?_)
      · refine E_go (p' := 94) (L' := [some (aA 15), some (aA (a + 15)), some (aI ((Cl R c : Nat) : Int)), some (aI ((X : Nat) : Int)), some (aI (((t) / 10 : Nat) : Int)), some (aI ((l : Nat) : Int)), some (aI (((t) % 10 : Nat) : Int)), x7]) (st' := []) rfl rfl rfl ?_
        refine E_s (p' := 95) (st' := aI 0 :: _) rfl rfl ?_
        refine E_s (p' := 97) (L' := [some (aA 15), some (aA (a + 15)), some (aI ((Cl R c : Nat) : Int)), some (aI ((X : Nat) : Int)), some (aI (((t) / 10 : Nat) : Int)), some (aI ((l : Nat) : Int)), some (aI (((t) % 10 : Nat) : Int)), some (aI 0)]) rfl rfl ?_
        refine E_s (p' := 98) (st' := aA 15 :: _) rfl rfl ?_
        refine E_s (p' := 99) (st' := aA (a + 15) :: _) rfl rfl ?_
        refine E_gA (b := a + 16) rfl rfl rfl (kR_15 hR) (hR_15_0 hR) rfl ?_
        refine E_s (p' := 104) (st' := aI ((l : Nat) : Int) :: _) rfl rfl ?_
        refine E_ald (e := l) (N := 6) (v := ((RF R l : Nat) : Int)) rfl (kR_16 hR) (rfl) (by omega) ((I4 _ _ (by omega) (by omega)).trans (hd9.2.2.1 _ (by omega)).1) ?_
        refine E_s (p' := 107) (st' := aI 0 :: _) rfl rfl ?_
        refine E_s (p' := 109) (st' := aI (((t) % 10 : Nat) : Int) :: _) rfl rfl ?_
        refine E_s (p' := 110) (st' := aI ((Cl R c : Nat) : Int) :: _) rfl rfl ?_
        refine E_callV (k' := 52) (a := 15) (r := []) (L0 := [some (aA 15), some (aI ((RF R l : Nat) : Int)), some (aI 0), some (aI (((t) % 10 : Nat) : Int)), some (aI ((Cl R c : Nat) : Int)), none, none]) rfl rfl rfl rfl rfl rfl rfl rfl rfl rfl ?_
        refine c_pdF I2 hV hc ht0 I3 (f := RF R l) (d9 := t % 10) hrf (by omega) (fun m1 y1 g1 g2 g3 g4 => ?_) (fun m1 g1 g4 => ?_)
        · refine E_go (p' := 113) (L' := [some (aA 15), some (aA (a + 15)), some (aI ((Cl R c : Nat) : Int)), some (aI ((X : Nat) : Int)), some (aI (((t) / 10 : Nat) : Int)), some (aI ((l : Nat) : Int)), some (aI (((t) % 10 : Nat) : Int)), some (aI 0)]) (st' := [aI 1]) rfl rfl rfl ?_
          refine E_s (p' := 118) rfl rfl ?_
          refine E_inc (x := ((l : Nat) : Int)) (w := ((l : Int) - 1)) (L' := [some (aA 15), some (aA (a + 15)), some (aI ((Cl R c : Nat) : Int)), some (aI ((X : Nat) : Int)), some (aI (((t) / 10 : Nat) : Int)), some (aI ((l : Int) - 1)), some (aI (((t) % 10 : Nat) : Int)), some (aI 0)]) rfl rfl rfl (by omega) (by omega) rfl ?_
          refine E_s (p' := 53) rfl rfl ?_
          have hu9 : (Run R && decide (l + 1 = RL R)) = false := by
            first | (rw [show Run R = false by assumption]; rfl) | (rw [decide_eq_false (by omega)]; exact Bool.and_false _)
          have e9 : fdK (Cl R c) (some K0) (dnK R X (j + 1)) = some y1 := by
            show fdK (Cl R c) (some K0) (dnK R X j ++ lvK R X (RL R - 1 - j)) = _
            rw [fdK_app, I1, hlv, hu9]
            exact g1
          have e8 : t / 10 = N0 / 10 ^ (j + 1) := by rw [I0, Nat.div_div_eq_div_mul, Nat.pow_succ]
          exact ih ((l : Int) - 1) (j + 1) (t / 10) m1 y1 _ _ (by omega) e8 (by omega) (by omega) e9 g2 g3 (I4.tr g4)
        · refine E_go (p' := 113) (L' := [some (aA 15), some (aA (a + 15)), some (aI ((Cl R c : Nat) : Int)), some (aI ((X : Nat) : Int)), some (aI (((t) / 10 : Nat) : Int)), some (aI ((l : Nat) : Int)), some (aI (((t) % 10 : Nat) : Int)), some (aI 0)]) (st' := [aI 0]) rfl rfl rfl ?_
          refine E_s (p' := 116) rfl rfl ?_
          refine E_s (p' := 117) (st' := aI 0 :: _) rfl rfl ?_
          refine E_ret rfl rfl ?_
          have hu9 : (Run R && decide (l + 1 = RL R)) = false := by
            first | (rw [show Run R = false by assumption]; rfl) | (rw [decide_eq_false (by omega)]; exact Bool.and_false _)
          have e9 : fdK (Cl R c) (some K0) (dnK R X (j + 1)) = none := by
            show fdK (Cl R c) (some K0) (dnK R X j ++ lvK R X (RL R - 1 - j)) = _
            rw [fdK_app, I1, hlv, hu9]
            exact g1
          exact q0 m1 (by unfold plN; rw [← fdK_dn, dnK_none e9 (RL R) (by omega)]; exact cif_same) (I4.tr g4)
      · refine E_go (p' := 79) (L' := [some (aA 15), some (aA (a + 15)), some (aI ((Cl R c : Nat) : Int)), some (aI ((X : Nat) : Int)), some (aI (((t) / 10 : Nat) : Int)), some (aI ((l : Nat) : Int)), some (aI (((t) % 10 : Nat) : Int)), x7]) (st' := []) rfl rfl rfl ?_
        refine E_s (p' := 81) (st' := aI ((l : Nat) : Int) :: _) rfl rfl ?_
        refine E_s (p' := 82) (st' := aA (a + 15) :: _) rfl rfl ?_
        refine E_gI (v := ((RL R : Nat) : Int)) rfl rfl rfl (kR_15 hR) ((I4 _ _ (by omega) (by omega)).trans hd9.2.1) ?_
        refine E_s (p' := 86) (st' := aI 1 :: _) rfl rfl ?_
        refine E_sub (v := ((RL R : Int) - 1)) rfl (by omega) (by omega) ?_
        refine E_icmp_ne (x := ((l : Nat) : Int)) (y := ((RL R : Int) - 1)) rfl (by decide) (fun h_4 => ?_) (fun h_4 => ?_)
        · refine E_go (p' := 94) (L' := [some (aA 15), some (aA (a + 15)), some (aI ((Cl R c : Nat) : Int)), some (aI ((X : Nat) : Int)), some (aI (((t) / 10 : Nat) : Int)), some (aI ((l : Nat) : Int)), some (aI (((t) % 10 : Nat) : Int)), x7]) (st' := []) rfl rfl rfl ?_
          refine E_s (p' := 95) (st' := aI 0 :: _) rfl rfl ?_
          refine E_s (p' := 97) (L' := [some (aA 15), some (aA (a + 15)), some (aI ((Cl R c : Nat) : Int)), some (aI ((X : Nat) : Int)), some (aI (((t) / 10 : Nat) : Int)), some (aI ((l : Nat) : Int)), some (aI (((t) % 10 : Nat) : Int)), some (aI 0)]) rfl rfl ?_
          refine E_s (p' := 98) (st' := aA 15 :: _) rfl rfl ?_
          refine E_s (p' := 99) (st' := aA (a + 15) :: _) rfl rfl ?_
          refine E_gA (b := a + 16) rfl rfl rfl (kR_15 hR) (hR_15_0 hR) rfl ?_
          refine E_s (p' := 104) (st' := aI ((l : Nat) : Int) :: _) rfl rfl ?_
          refine E_ald (e := l) (N := 6) (v := ((RF R l : Nat) : Int)) rfl (kR_16 hR) (rfl) (by omega) ((I4 _ _ (by omega) (by omega)).trans (hd9.2.2.1 _ (by omega)).1) ?_
          refine E_s (p' := 107) (st' := aI 0 :: _) rfl rfl ?_
          refine E_s (p' := 109) (st' := aI (((t) % 10 : Nat) : Int) :: _) rfl rfl ?_
          refine E_s (p' := 110) (st' := aI ((Cl R c : Nat) : Int) :: _) rfl rfl ?_
          refine E_callV (k' := 52) (a := 15) (r := []) (L0 := [some (aA 15), some (aI ((RF R l : Nat) : Int)), some (aI 0), some (aI (((t) % 10 : Nat) : Int)), some (aI ((Cl R c : Nat) : Int)), none, none]) rfl rfl rfl rfl rfl rfl rfl rfl rfl rfl ?_
          refine c_pdF I2 hV hc ht0 I3 (f := RF R l) (d9 := t % 10) hrf (by omega) (fun m1 y1 g1 g2 g3 g4 => ?_) (fun m1 g1 g4 => ?_)
          · refine E_go (p' := 113) (L' := [some (aA 15), some (aA (a + 15)), some (aI ((Cl R c : Nat) : Int)), some (aI ((X : Nat) : Int)), some (aI (((t) / 10 : Nat) : Int)), some (aI ((l : Nat) : Int)), some (aI (((t) % 10 : Nat) : Int)), some (aI 0)]) (st' := [aI 1]) rfl rfl rfl ?_
            refine E_s (p' := 118) rfl rfl ?_
            refine E_inc (x := ((l : Nat) : Int)) (w := ((l : Int) - 1)) (L' := [some (aA 15), some (aA (a + 15)), some (aI ((Cl R c : Nat) : Int)), some (aI ((X : Nat) : Int)), some (aI (((t) / 10 : Nat) : Int)), some (aI ((l : Int) - 1)), some (aI (((t) % 10 : Nat) : Int)), some (aI 0)]) rfl rfl rfl (by omega) (by omega) rfl ?_
            refine E_s (p' := 53) rfl rfl ?_
            have hu9 : (Run R && decide (l + 1 = RL R)) = false := by
              first | (rw [show Run R = false by assumption]; rfl) | (rw [decide_eq_false (by omega)]; exact Bool.and_false _)
            have e9 : fdK (Cl R c) (some K0) (dnK R X (j + 1)) = some y1 := by
              show fdK (Cl R c) (some K0) (dnK R X j ++ lvK R X (RL R - 1 - j)) = _
              rw [fdK_app, I1, hlv, hu9]
              exact g1
            have e8 : t / 10 = N0 / 10 ^ (j + 1) := by rw [I0, Nat.div_div_eq_div_mul, Nat.pow_succ]
            exact ih ((l : Int) - 1) (j + 1) (t / 10) m1 y1 _ _ (by omega) e8 (by omega) (by omega) e9 g2 g3 (I4.tr g4)
          · refine E_go (p' := 113) (L' := [some (aA 15), some (aA (a + 15)), some (aI ((Cl R c : Nat) : Int)), some (aI ((X : Nat) : Int)), some (aI (((t) / 10 : Nat) : Int)), some (aI ((l : Nat) : Int)), some (aI (((t) % 10 : Nat) : Int)), some (aI 0)]) (st' := [aI 0]) rfl rfl rfl ?_
            refine E_s (p' := 116) rfl rfl ?_
            refine E_s (p' := 117) (st' := aI 0 :: _) rfl rfl ?_
            refine E_ret rfl rfl ?_
            have hu9 : (Run R && decide (l + 1 = RL R)) = false := by
              first | (rw [show Run R = false by assumption]; rfl) | (rw [decide_eq_false (by omega)]; exact Bool.and_false _)
            have e9 : fdK (Cl R c) (some K0) (dnK R X (j + 1)) = none := by
              show fdK (Cl R c) (some K0) (dnK R X j ++ lvK R X (RL R - 1 - j)) = _
              rw [fdK_app, I1, hlv, hu9]
              exact g1
            exact q0 m1 (by unfold plN; rw [← fdK_dn, dnK_none e9 (RL R) (by omega)]; exact cif_same) (I4.tr g4)
        · refine E_go (p' := 90) (L' := [some (aA 15), some (aA (a + 15)), some (aI ((Cl R c : Nat) : Int)), some (aI ((X : Nat) : Int)), some (aI (((t) / 10 : Nat) : Int)), some (aI ((l : Nat) : Int)), some (aI (((t) % 10 : Nat) : Int)), x7]) (st' := []) rfl rfl rfl ?_
          refine E_s (p' := 91) (st' := aI 1 :: _) rfl rfl ?_
          refine E_s (p' := 95) rfl rfl ?_
          refine E_s (p' := 97) (L' := [some (aA 15), some (aA (a + 15)), some (aI ((Cl R c : Nat) : Int)), some (aI ((X : Nat) : Int)), some (aI (((t) / 10 : Nat) : Int)), some (aI ((l : Nat) : Int)), some (aI (((t) % 10 : Nat) : Int)), some (aI 1)]) rfl rfl ?_
          refine E_s (p' := 98) (st' := aA 15 :: _) rfl rfl ?_
          refine E_s (p' := 99) (st' := aA (a + 15) :: _) rfl rfl ?_
          refine E_gA (b := a + 16) rfl rfl rfl (kR_15 hR) (hR_15_0 hR) rfl ?_
          refine E_s (p' := 104) (st' := aI ((l : Nat) : Int) :: _) rfl rfl ?_
          refine E_ald (e := l) (N := 6) (v := ((RF R l : Nat) : Int)) rfl (kR_16 hR) (rfl) (by omega) ((I4 _ _ (by omega) (by omega)).trans (hd9.2.2.1 _ (by omega)).1) ?_
          refine E_s (p' := 107) (st' := aI 1 :: _) rfl rfl ?_
          refine E_s (p' := 109) (st' := aI (((t) % 10 : Nat) : Int) :: _) rfl rfl ?_
          refine E_s (p' := 110) (st' := aI ((Cl R c : Nat) : Int) :: _) rfl rfl ?_
          refine E_callV (k' := 52) (a := 15) (r := []) (L0 := [some (aA 15), some (aI ((RF R l : Nat) : Int)), some (aI 1), some (aI (((t) % 10 : Nat) : Int)), some (aI ((Cl R c : Nat) : Int)), none, none]) rfl rfl rfl rfl rfl rfl rfl rfl rfl rfl ?_
          refine c_pdT I2 hV hc ht0 I3 (f := RF R l) (d9 := t % 10) hrf (by omega) (fun m1 y1 g1 g2 g3 g4 => ?_) (fun m1 g1 g4 => ?_)
          · refine E_go (p' := 113) (L' := [some (aA 15), some (aA (a + 15)), some (aI ((Cl R c : Nat) : Int)), some (aI ((X : Nat) : Int)), some (aI (((t) / 10 : Nat) : Int)), some (aI ((l : Nat) : Int)), some (aI (((t) % 10 : Nat) : Int)), some (aI 1)]) (st' := [aI 1]) rfl rfl rfl ?_
            refine E_s (p' := 118) rfl rfl ?_
            refine E_inc (x := ((l : Nat) : Int)) (w := ((l : Int) - 1)) (L' := [some (aA 15), some (aA (a + 15)), some (aI ((Cl R c : Nat) : Int)), some (aI ((X : Nat) : Int)), some (aI (((t) / 10 : Nat) : Int)), some (aI ((l : Int) - 1)), some (aI (((t) % 10 : Nat) : Int)), some (aI 1)]) rfl rfl rfl (by omega) (by omega) rfl ?_
            refine E_s (p' := 53) rfl rfl ?_
            have hu9 : (Run R && decide (l + 1 = RL R)) = true := by
              rw [show Run R = true by assumption, decide_eq_true (by omega)]; rfl
            have e9 : fdK (Cl R c) (some K0) (dnK R X (j + 1)) = some y1 := by
              show fdK (Cl R c) (some K0) (dnK R X j ++ lvK R X (RL R - 1 - j)) = _
              rw [fdK_app, I1, hlv, hu9]
              exact g1
            have e8 : t / 10 = N0 / 10 ^ (j + 1) := by rw [I0, Nat.div_div_eq_div_mul, Nat.pow_succ]
            exact ih ((l : Int) - 1) (j + 1) (t / 10) m1 y1 _ _ (by omega) e8 (by omega) (by omega) e9 g2 g3 (I4.tr g4)
          · refine E_go (p' := 113) (L' := [some (aA 15), some (aA (a + 15)), some (aI ((Cl R c : Nat) : Int)), some (aI ((X : Nat) : Int)), some (aI (((t) / 10 : Nat) : Int)), some (aI ((l : Nat) : Int)), some (aI (((t) % 10 : Nat) : Int)), some (aI 1)]) (st' := [aI 0]) rfl rfl rfl ?_
            refine E_s (p' := 116) rfl rfl ?_
            refine E_s (p' := 117) (st' := aI 0 :: _) rfl rfl ?_
            refine E_ret rfl rfl ?_
            have hu9 : (Run R && decide (l + 1 = RL R)) = true := by
              rw [show Run R = true by assumption, decide_eq_true (by omega)]; rfl
            have e9 : fdK (Cl R c) (some K0) (dnK R X (j + 1)) = none := by
              show fdK (Cl R c) (some K0) (dnK R X j ++ lvK R X (RL R - 1 - j)) = _
              rw [fdK_app, I1, hlv, hu9]
              exact g1
            exact q0 m1 (by unfold plN; rw [← fdK_dn, dnK_none e9 (RL R) (by omega)]; exact cif_same) (I4.tr g4)
theorem c_plan (hR : isR a) (hV : VR R) (hc : c < Cn R) (ht0 : Ct R c = 0) (hd9 : RdC R a m0) (hx : X ≤ 999999) (q1 : ∀ (m1 : Mm) (y : KR), plN R c X = some y → okK R c y → PK y m1 → FrK m0 m1 → Q (some (aI 1)) (m1, tl len)) (q0 : ∀ m1 : Mm, plN R c X = none → FrK m0 m1 → Q (some (aI 0)) (m1, tl len))  : E 51 0 [some (aA 15), some (aA (a + 15)), some (aI ((Cl R c : Nat) : Int)), some (aI ((X : Nat) : Int)), none, none, none, none] [] (m0, tl len) Q := by
  have hab := isR_b hR
  have hrl := RL_mx R
  have hm6 : mxv (Run R) ≤ 6 := by cases Run R <;> decide
  refine E_s (p' := 1) (st' := aA 15 :: _) rfl rfl ?_
  refine E_s (p' := 2) (st' := aI 0 :: _) rfl rfl ?_
  refine E_pI rfl rfl rfl rfl (Or.inl rfl) ?_
  refine E_s (p' := 6) (st' := aA (a + 15) :: _) rfl rfl ?_
  refine E_gI (v := ((RL R : Nat) : Int)) rfl rfl rfl (kR_15 hR) ((up2_ne (by omega)).trans (hd9.2.1)) ?_
  refine E_if_eq (x := ((RL R : Nat) : Int)) rfl (by decide) (fun h_1 => ?_) (fun h_1 => ?_)
  · refine E_go (p' := 26) (L' := [some (aA 15), some (aA (a + 15)), some (aI ((Cl R c : Nat) : Int)), some (aI ((X : Nat) : Int)), none, none, none, none]) (st' := []) rfl rfl rfl ?_
    refine E_s (p' := 27) (st' := aI 0 :: _) rfl rfl ?_
    refine E_ret rfl rfl ?_
    refine q0 _ ?_ (fun b j g1 g2 => up2_o g1)
    unfold plN
    refine cif_neg (fun g => ?_)
    first
    | exact absurd g.1 (by omega)
    | (have g2 := g.2.1; unfold Ru at g2; rw [show Run R = false by assumption] at g2; have g2 : X % 10 = 0 := g2; omega)
  · refine E_go (p' := 12) (L' := [some (aA 15), some (aA (a + 15)), some (aI ((Cl R c : Nat) : Int)), some (aI ((X : Nat) : Int)), none, none, none, none]) (st' := []) rfl rfl rfl ?_
    refine E_s (p' := 13) (st' := aA (a + 15) :: _) rfl rfl ?_
    refine E_gI (v := (bi (Run R))) rfl rfl rfl (kR_15 hR) ((up2_ne (by omega)).trans (hd9.1)) ?_
    refine E_b_ne0 (b := (Run R)) rfl (by decide) (fun h_2 => ?_) (fun h_2 => ?_)
    · refine E_go (p' := 28) (L' := [some (aA 15), some (aA (a + 15)), some (aI ((Cl R c : Nat) : Int)), some (aI ((X : Nat) : Int)), none, none, none, none]) (st' := []) rfl rfl rfl ?_
      refine E_s (p' := 29) (st' := aA (a + 15) :: _) rfl rfl ?_
      refine E_gI (v := (bi (Run R))) rfl rfl rfl (kR_15 hR) ((up2_ne (by omega)).trans (hd9.1)) ?_
      refine E_b_eq0 (b := (Run R)) rfl (by decide) (fun h_3 => ?_) (fun h_3 => ?_)
      · refine E_go (p' := 39) (L' := [some (aA 15), some (aA (a + 15)), some (aI ((Cl R c : Nat) : Int)), some (aI ((X : Nat) : Int)), none, none, none, none]) (st' := []) rfl rfl rfl ?_
        refine E_s (p' := 40) (st' := aI ((X : Nat) : Int) :: _) rfl rfl ?_
        refine E_s (p' := 42) (st' := aI 10 :: _) rfl rfl ?_
        refine E_div (v := (((X) / 10 : Nat) : Int)) rfl (by omega) (by omega) (by omega) (by omega) ?_
        refine E_s (p' := 45) (L' := [some (aA 15), some (aA (a + 15)), some (aI ((Cl R c : Nat) : Int)), some (aI ((X : Nat) : Int)), some (aI (((X) / 10 : Nat) : Int)), none, none, none]) rfl rfl ?_
        refine E_s (p' := 46) (st' := aA (a + 15) :: _) rfl rfl ?_
        refine E_gI (v := ((RL R : Nat) : Int)) rfl rfl rfl (kR_15 hR) ((up2_ne (by omega)).trans (hd9.2.1)) ?_
        refine E_s (p' := 50) (st' := aI 1 :: _) rfl rfl ?_
        refine E_sub (v := ((RL R : Int) - 1)) rfl (by omega) (by omega) ?_
        refine E_s (p' := 53) (L' := [some (aA 15), some (aA (a + 15)), some (aI ((Cl R c : Nat) : Int)), some (aI ((X : Nat) : Int)), some (aI (((X) / 10 : Nat) : Int)), some (aI ((RL R : Int) - 1)), none, none]) rfl rfl ?_
        exact absurd (show Run R = false by assumption) (by rw [show Run R = true by assumption]; decide)
      · refine E_go (p' := 35) (L' := [some (aA 15), some (aA (a + 15)), some (aI ((Cl R c : Nat) : Int)), some (aI ((X : Nat) : Int)), none, none, none, none]) (st' := []) rfl rfl rfl ?_
        refine E_s (p' := 36) (st' := aI ((X : Nat) : Int) :: _) rfl rfl ?_
        refine E_s (p' := 43) rfl rfl ?_
        refine E_s (p' := 45) (L' := [some (aA 15), some (aA (a + 15)), some (aI ((Cl R c : Nat) : Int)), some (aI ((X : Nat) : Int)), some (aI ((X : Nat) : Int)), none, none, none]) rfl rfl ?_
        refine E_s (p' := 46) (st' := aA (a + 15) :: _) rfl rfl ?_
        refine E_gI (v := ((RL R : Nat) : Int)) rfl rfl rfl (kR_15 hR) ((up2_ne (by omega)).trans (hd9.2.1)) ?_
        refine E_s (p' := 50) (st' := aI 1 :: _) rfl rfl ?_
        refine E_sub (v := ((RL R : Int) - 1)) rfl (by omega) (by omega) ?_
        refine E_s (p' := 53) (L' := [some (aA 15), some (aA (a + 15)), some (aI ((Cl R c : Nat) : Int)), some (aI ((X : Nat) : Int)), some (aI ((X : Nat) : Int)), some (aI ((RL R : Int) - 1)), none, none]) rfl rfl ?_
        have e0 : Ru R = 1 := by unfold Ru; rw [show Run R = true by assumption]; rfl
        have e1 : X = X / Ru R := by rw [e0]; omega
        have e2 : X % Ru R = 0 := by rw [e0]; omega
        have e3 : X = (X) / 10 ^ 0 := by rw [Nat.pow_zero, Nat.div_one]
        exact yl_pl (Q := Q) (len := len) hR hV hc ht0 hd9 hx (by omega) e1 e2 q1 q0 (RL R + 1) ((RL R : Int) - 1) 0 _ (up2 m0 15 3 0) K0 none none (by omega) e3 (by omega) (by omega) rfl (okK0 hV) ⟨up2_eq, fun k hk => absurd hk (Nat.not_lt_zero _)⟩ (fun b j g1 g2 => up2_o g1)
    · refine E_go (p' := 19) (L' := [some (aA 15), some (aA (a + 15)), some (aI ((Cl R c : Nat) : Int)), some (aI ((X : Nat) : Int)), none, none, none, none]) (st' := []) rfl rfl rfl ?_
      refine E_s (p' := 20) (st' := aI ((X : Nat) : Int) :: _) rfl rfl ?_
      refine E_s (p' := 22) (st' := aI 10 :: _) rfl rfl ?_
      refine E_rem (v := (((X) % 10 : Nat) : Int)) rfl (by omega) (by omega) (by omega) (by omega) ?_
      refine E_if_eq (x := (((X) % 10 : Nat) : Int)) rfl (by decide) (fun h_4 => ?_) (fun h_4 => ?_)
      · refine E_go (p' := 28) (L' := [some (aA 15), some (aA (a + 15)), some (aI ((Cl R c : Nat) : Int)), some (aI ((X : Nat) : Int)), none, none, none, none]) (st' := []) rfl rfl rfl ?_
        refine E_s (p' := 29) (st' := aA (a + 15) :: _) rfl rfl ?_
        refine E_gI (v := (bi (Run R))) rfl rfl rfl (kR_15 hR) ((up2_ne (by omega)).trans (hd9.1)) ?_
        refine E_b_eq0 (b := (Run R)) rfl (by decide) (fun h_5 => ?_) (fun h_5 => ?_)
        · refine E_go (p' := 39) (L' := [some (aA 15), some (aA (a + 15)), some (aI ((Cl R c : Nat) : Int)), some (aI ((X : Nat) : Int)), none, none, none, none]) (st' := []) rfl rfl rfl ?_
          refine E_s (p' := 40) (st' := aI ((X : Nat) : Int) :: _) rfl rfl ?_
          refine E_s (p' := 42) (st' := aI 10 :: _) rfl rfl ?_
          refine E_div (v := (((X) / 10 : Nat) : Int)) rfl (by omega) (by omega) (by omega) (by omega) ?_
          refine E_s (p' := 45) (L' := [some (aA 15), some (aA (a + 15)), some (aI ((Cl R c : Nat) : Int)), some (aI ((X : Nat) : Int)), some (aI (((X) / 10 : Nat) : Int)), none, none, none]) rfl rfl ?_
          refine E_s (p' := 46) (st' := aA (a + 15) :: _) rfl rfl ?_
          refine E_gI (v := ((RL R : Nat) : Int)) rfl rfl rfl (kR_15 hR) ((up2_ne (by omega)).trans (hd9.2.1)) ?_
          refine E_s (p' := 50) (st' := aI 1 :: _) rfl rfl ?_
          refine E_sub (v := ((RL R : Int) - 1)) rfl (by omega) (by omega) ?_
          refine E_s (p' := 53) (L' := [some (aA 15), some (aA (a + 15)), some (aI ((Cl R c : Nat) : Int)), some (aI ((X : Nat) : Int)), some (aI (((X) / 10 : Nat) : Int)), some (aI ((RL R : Int) - 1)), none, none]) rfl rfl ?_
          have e0 : Ru R = 10 := by unfold Ru; rw [show Run R = false by assumption]; rfl
          have e1 : (X) / 10 = X / Ru R := by rw [e0]
          have e2 : X % Ru R = 0 := by rw [e0]; omega
          have e3 : (X) / 10 = ((X) / 10) / 10 ^ 0 := by rw [Nat.pow_zero, Nat.div_one]
          exact yl_pl (Q := Q) (len := len) hR hV hc ht0 hd9 hx (by omega) e1 e2 q1 q0 (RL R + 1) ((RL R : Int) - 1) 0 _ (up2 m0 15 3 0) K0 none none (by omega) e3 (by omega) (by omega) rfl (okK0 hV) ⟨up2_eq, fun k hk => absurd hk (Nat.not_lt_zero _)⟩ (fun b j g1 g2 => up2_o g1)
        · refine E_go (p' := 35) (L' := [some (aA 15), some (aA (a + 15)), some (aI ((Cl R c : Nat) : Int)), some (aI ((X : Nat) : Int)), none, none, none, none]) (st' := []) rfl rfl rfl ?_
          refine E_s (p' := 36) (st' := aI ((X : Nat) : Int) :: _) rfl rfl ?_
          refine E_s (p' := 43) rfl rfl ?_
          refine E_s (p' := 45) (L' := [some (aA 15), some (aA (a + 15)), some (aI ((Cl R c : Nat) : Int)), some (aI ((X : Nat) : Int)), some (aI ((X : Nat) : Int)), none, none, none]) rfl rfl ?_
          refine E_s (p' := 46) (st' := aA (a + 15) :: _) rfl rfl ?_
          refine E_gI (v := ((RL R : Nat) : Int)) rfl rfl rfl (kR_15 hR) ((up2_ne (by omega)).trans (hd9.2.1)) ?_
          refine E_s (p' := 50) (st' := aI 1 :: _) rfl rfl ?_
          refine E_sub (v := ((RL R : Int) - 1)) rfl (by omega) (by omega) ?_
          refine E_s (p' := 53) (L' := [some (aA 15), some (aA (a + 15)), some (aI ((Cl R c : Nat) : Int)), some (aI ((X : Nat) : Int)), some (aI ((X : Nat) : Int)), some (aI ((RL R : Int) - 1)), none, none]) rfl rfl ?_
          exact absurd (show Run R = false by assumption) (by rw [show Run R = true by assumption]; decide)
      · refine E_go (p' := 26) (L' := [some (aA 15), some (aA (a + 15)), some (aI ((Cl R c : Nat) : Int)), some (aI ((X : Nat) : Int)), none, none, none, none]) (st' := []) rfl rfl rfl ?_
        refine E_s (p' := 27) (st' := aI 0 :: _) rfl rfl ?_
        refine E_ret rfl rfl ?_
        refine q0 _ ?_ (fun b j g1 g2 => up2_o g1)
        unfold plN
        refine cif_neg (fun g => ?_)
        first
        | exact absurd g.1 (by omega)
        | (have g2 := g.2.1; unfold Ru at g2; rw [show Run R = false by assumption] at g2; have g2 : X % 10 = 0 := g2; omega)
end

def due (R : RD) (c X e : Nat) : Int := if e = c then (X : Int) else Rtd R e
theorem Rkn_self {R : RD} {c : Nat} : Rkn R c (Ck R c) (Cp R c) = R := by
  show mkR (Cn R) (Cq R) (Cg R) (Co R) (Cc R) (Cl R) (Ct R) (upf (Ck R) c (Ck R c)) (upf (Cp R) c (Cp R c)) (Sn R) (Sw R) (Sp R) (Sq R) = R
  rw [upf_self, upf_self]
  rfl
/-- nothing but the Knotter and the RECORD at a has changed -/
def FkA (a : Nat) (m m' : Mm) : Prop := ∀ b j, b < 15 ∨ (18 < b ∧ b < a) ∨ a + 25 < b → m' b j = m b j
theorem FkA.tr {a : Nat} {m m' m'' : Mm} (h : FkA a m m') (h' : FkA a m' m'') : FkA a m m'' := fun b j g => (h' b j g).trans (h b j g)
theorem FkA.rf {a : Nat} {m : Mm} : FkA a m m := fun _ _ _ => rfl
/-- nothing but the KNOTS of a CORD and the RECORD's marks has changed -/
def FrP (a c : Nat) (m m' : Mm) : Prop := ∀ b j, ¬ (b = a ∧ j = 7) → ¬ (b = a + 7 ∧ j = c) → ¬ (b = a + 8 ∧ 30 * c ≤ j ∧ j < 30 * c + 30) → m' b j = m b j
theorem finT {S : Nat → RD} {m m1 m2 : Mm} {r d v : Int} {f : RD → Int × RD} {i a len : Nat} {R : RD} {Q : Option AV → Sx → Prop} (hS : CS S m1) (hMo : Mo m m1) (hi : i < 4) (hr : r = (i : Int)) (ha : a = tgA i) (q : ∀ m1, CS (on1 S r d f).2 m1 → Mo m m1 → Q (some (aI (on1 S r d f).1)) (m1, tl len)) (e : f (S i) = (v, R)) (h : CS1 R a m2) (hF : FkA a m1 m2) : Q (some (aI v)) (m2, tl len) := by
  rw [on1_in hi hr e] at q
  have hb : 20 ≤ a ∧ a ≤ 98 := by subst ha; unfold tgA; omega
  exact q m2 (hS.set hi ha h (fun b j hb => hF b j (by omega))) (fun b j hb => (hF b j (by omega)).trans (hMo b j hb))
section
variable {len : Nat} {m m0 : Mm} {Q : Option AV → Sx → Prop} {R : RD} {a c n X : Nat} {P : Nat → Nat}
theorem c_rdAgain (hR : isR a) (q : Q none (up2 m a 7 0, tl len)) : E 57 0 [some (aA a)] [] (m, tl len) Q := by
  refine E_s (p' := 1) (st' := aA a :: _) rfl rfl ?_
  refine E_s (p' := 2) (st' := aI 0 :: _) rfl rfl ?_
  refine E_pI rfl rfl rfl (kR_0 hR) (Or.inr (by decide)) ?_
  refine E_ret rfl rfl ?_
  exact q
theorem yl_pt16 (hR : isR a) (hC : CR R a m0) (hV : VR R) (hc : c < Cn R) (hn : n ≤ 30) (hP : ∀ k, k < n → m0 16 k = (P k : Int)) (q : ∀ (o : Bool) (m1 : Mm), CR (Rkn R c n P) a m1 → m1 a 7 = 0 → FrP a c m0 m1 → Q (some (aI (bi o))) (m1, tl len))  : ∀ (d : Nat) (k : Nat) (m : Mm) (o : Bool), (n < k + d) → (k ≤ n) → (m (a + 7) c = (n : Int)) → (∀ i, i < k → m (a + 8) (30 * c + i) = (P i : Int)) → (∀ b j, ¬ (b = a + 7 ∧ j = c) → ¬ (b = a + 8 ∧ 30 * c ≤ j ∧ j < 30 * c + 30) → m b j = m0 b j) → E 56 33 [some (aA a), some (aI ((c : Nat) : Int)), some (aA 16), some (aI ((n : Nat) : Int)), some (aI (bi o)), some (aI ((k : Nat) : Int))] [] (m, tl len) Q := by
  intro d
  induction d with
  | zero => intro k m o hd hk I1 I2 I3; omega
  | succ d ih =>
    intro k m o hd hk I1 I2 I3
    have hab := isR_b hR
    have hn60 := hV.1
    refine E_s (p' := 35) (st' := aI ((k : Nat) : Int) :: _) rfl rfl ?_
    refine E_s (p' := 36) (st' := aI ((n : Nat) : Int) :: _) rfl rfl ?_
    refine E_icmp_ge (x := ((k : Nat) : Int)) (y := ((n : Nat) : Int)) rfl (by decide) (fun h_1 => ?_) (fun h_1 => ?_)
    · refine E_go (p' := 96) (L' := [some (aA a), some (aI ((c : Nat) : Int)), some (aA 16), some (aI ((n : Nat) : Int)), some (aI (bi o)), some (aI ((k : Nat) : Int))]) (st' := []) rfl rfl rfl ?_
      refine E_s (p' := 97) (st' := aA a :: _) rfl rfl ?_
      refine E_callV (k' := 57) (a := a) (r := []) (L0 := [some (aA a)]) rfl rfl rfl rfl rfl (kR_0 hR) rfl rfl rfl rfl ?_
      refine c_rdAgain hR ?_
      refine E_go (p' := 100) (L' := [some (aA a), some (aI ((c : Nat) : Int)), some (aA 16), some (aI ((n : Nat) : Int)), some (aI (bi o)), some (aI ((k : Nat) : Int))]) (st' := []) rfl rfl rfl ?_
      refine E_s (p' := 102) (st' := aI (bi o) :: _) rfl rfl ?_
      refine E_retB rfl rfl (bi01 _) ?_
      have ek : k = n := by omega
      subst ek
      refine q _ _ (hC.kn hV hn ((up2_ne (by omega)).trans I1) (fun i hi => (up2_ne (by omega)).trans (I2 i hi)) (fun b j g1 g2 g3 g4 g5 => (up2_o (by omega)).trans (I3 b j g3 (by omega)))) up2_eq (fun b j g1 g2 g3 => (up2_o g1).trans (I3 b j g2 g3))
    · refine E_go (p' := 39) (L' := [some (aA a), some (aI ((c : Nat) : Int)), some (aA 16), some (aI ((n : Nat) : Int)), some (aI (bi o)), some (aI ((k : Nat) : Int))]) (st' := []) rfl rfl rfl ?_
      refine E_s (p' := 41) (st' := aI (bi o) :: _) rfl rfl ?_
      refine E_s (p' := 42) (st' := aA a :: _) rfl rfl ?_
      refine E_gA (b := a + 1) rfl rfl rfl (kR_0 hR) (hR_0_0 hR) rfl ?_
      refine E_gA (b := a + 8) rfl rfl rfl (kR_1 hR) (hR_1_6 hR) rfl ?_
      refine E_s (p' := 49) (st' := aI ((c : Nat) : Int) :: _) rfl rfl ?_
      refine E_s (p' := 51) (st' := aI 30 :: _) rfl rfl ?_
      refine E_mul (v := ((30 * c : Nat) : Int)) rfl (by omega) (by omega) ?_
      refine E_s (p' := 54) (st' := aI ((k : Nat) : Int) :: _) rfl rfl ?_
      refine E_add (v := ((30 * c + k : Nat) : Int)) rfl (by omega) (by omega) ?_
      refine E_ald (e := 30 * c + k) (N := 1800) (v := ((m (a + 8) (30 * c + k)))) rfl (kR_8 hR) (rfl) (by omega) rfl ?_
      refine E_s (p' := 57) (st' := aA 16 :: _) rfl rfl ?_
      refine E_s (p' := 59) (st' := aI ((k : Nat) : Int) :: _) rfl rfl ?_
      refine E_ald (e := k) (N := 30) (v := ((P k : Nat) : Int)) rfl rfl (rfl) (by omega) ((I3 _ _ (by omega) (by omega)).trans (hP _ (by omega))) ?_
      refine E_icmp_eq (x := ((m (a + 8) (30 * c + k)))) (y := ((P k : Nat) : Int)) rfl (by decide) (fun h_2 => ?_) (fun h_2 => ?_)
      · refine E_go (p' := 67) (L' := [some (aA a), some (aI ((c : Nat) : Int)), some (aA 16), some (aI ((n : Nat) : Int)), some (aI (bi o)), some (aI ((k : Nat) : Int))]) (st' := [aI (bi o)]) rfl rfl rfl ?_
        refine E_s (p' := 68) (st' := aI 0 :: _) rfl rfl ?_
        refine E_orb (x := o) (y := false) rfl ?_
        refine E_s (p' := 71) (L' := [some (aA a), some (aI ((c : Nat) : Int)), some (aA 16), some (aI ((n : Nat) : Int)), some (aI (bi (o || false))), some (aI ((k : Nat) : Int))]) rfl rfl ?_
        refine E_s (p' := 72) (st' := aA a :: _) rfl rfl ?_
        refine E_gA (b := a + 1) rfl rfl rfl (kR_0 hR) (hR_0_0 hR) rfl ?_
        refine E_gA (b := a + 8) rfl rfl rfl (kR_1 hR) (hR_1_6 hR) rfl ?_
        refine E_s (p' := 79) (st' := aI ((c : Nat) : Int) :: _) rfl rfl ?_
        refine E_s (p' := 81) (st' := aI 30 :: _) rfl rfl ?_
        refine E_mul (v := ((30 * c : Nat) : Int)) rfl (by omega) (by omega) ?_
        refine E_s (p' := 84) (st' := aI ((k : Nat) : Int) :: _) rfl rfl ?_
        refine E_add (v := ((30 * c + k : Nat) : Int)) rfl (by omega) (by omega) ?_
        refine E_s (p' := 86) (st' := aA 16 :: _) rfl rfl ?_
        refine E_s (p' := 88) (st' := aI ((k : Nat) : Int) :: _) rfl rfl ?_
        refine E_ald (e := k) (N := 30) (v := ((P k : Nat) : Int)) rfl rfl (rfl) (by omega) ((I3 _ _ (by omega) (by omega)).trans (hP _ (by omega))) ?_
        refine E_ast (e := 30 * c + k) (N := 1800) rfl (kR_8 hR) (rfl) (by omega) ?_
        refine E_inc (x := ((k : Nat) : Int)) (w := ((k + 1 : Nat) : Int)) (L' := [some (aA a), some (aI ((c : Nat) : Int)), some (aA 16), some (aI ((n : Nat) : Int)), some (aI (bi (o || false))), some (aI ((k + 1 : Nat) : Int))]) rfl rfl rfl (by omega) (by omega) rfl ?_
        refine E_s (p' := 33) rfl rfl ?_
        refine ih (k + 1) _ (o || false) (by omega) (by omega) ((up2_ne (by omega)).trans I1) (fun i hi => ?_) (fun b j g1 g2 => (up2_o (by omega)).trans (I3 b j g1 g2))
        · by_cases g : i = k
          · subst g; exact up2_eq
          · exact (up2_sl (by omega)).trans (I2 i (by omega))
      · refine E_go (p' := 63) (L' := [some (aA a), some (aI ((c : Nat) : Int)), some (aA 16), some (aI ((n : Nat) : Int)), some (aI (bi o)), some (aI ((k : Nat) : Int))]) (st' := [aI (bi o)]) rfl rfl rfl ?_
        refine E_s (p' := 64) (st' := aI 1 :: _) rfl rfl ?_
        refine E_s (p' := 68) rfl rfl ?_
        refine E_orb (x := o) (y := true) rfl ?_
        refine E_s (p' := 71) (L' := [some (aA a), some (aI ((c : Nat) : Int)), some (aA 16), some (aI ((n : Nat) : Int)), some (aI (bi (o || true))), some (aI ((k : Nat) : Int))]) rfl rfl ?_
        refine E_s (p' := 72) (st' := aA a :: _) rfl rfl ?_
        refine E_gA (b := a + 1) rfl rfl rfl (kR_0 hR) (hR_0_0 hR) rfl ?_
        refine E_gA (b := a + 8) rfl rfl rfl (kR_1 hR) (hR_1_6 hR) rfl ?_
        refine E_s (p' := 79) (st' := aI ((c : Nat) : Int) :: _) rfl rfl ?_
        refine E_s (p' := 81) (st' := aI 30 :: _) rfl rfl ?_
        refine E_mul (v := ((30 * c : Nat) : Int)) rfl (by omega) (by omega) ?_
        refine E_s (p' := 84) (st' := aI ((k : Nat) : Int) :: _) rfl rfl ?_
        refine E_add (v := ((30 * c + k : Nat) : Int)) rfl (by omega) (by omega) ?_
        refine E_s (p' := 86) (st' := aA 16 :: _) rfl rfl ?_
        refine E_s (p' := 88) (st' := aI ((k : Nat) : Int) :: _) rfl rfl ?_
        refine E_ald (e := k) (N := 30) (v := ((P k : Nat) : Int)) rfl rfl (rfl) (by omega) ((I3 _ _ (by omega) (by omega)).trans (hP _ (by omega))) ?_
        refine E_ast (e := 30 * c + k) (N := 1800) rfl (kR_8 hR) (rfl) (by omega) ?_
        refine E_inc (x := ((k : Nat) : Int)) (w := ((k + 1 : Nat) : Int)) (L' := [some (aA a), some (aI ((c : Nat) : Int)), some (aA 16), some (aI ((n : Nat) : Int)), some (aI (bi (o || true))), some (aI ((k + 1 : Nat) : Int))]) rfl rfl rfl (by omega) (by omega) rfl ?_
        refine E_s (p' := 33) rfl rfl ?_
        refine ih (k + 1) _ (o || true) (by omega) (by omega) ((up2_ne (by omega)).trans I1) (fun i hi => ?_) (fun b j g1 g2 => (up2_o (by omega)).trans (I3 b j g1 g2))
        · by_cases g : i = k
          · subst g; exact up2_eq
          · exact (up2_sl (by omega)).trans (I2 i (by omega))
theorem c_put16 (hR : isR a) (hC : CR R a m0) (hV : VR R) (hc : c < Cn R) (hn : n ≤ 30) (hP : ∀ k, k < n → m0 16 k = (P k : Int)) (q : ∀ (o : Bool) (m1 : Mm), CR (Rkn R c n P) a m1 → m1 a 7 = 0 → FrP a c m0 m1 → Q (some (aI (bi o))) (m1, tl len))  : E 56 0 [some (aA a), some (aI ((c : Nat) : Int)), some (aA 16), some (aI ((n : Nat) : Int)), none, none] [] (m0, tl len) Q := by
  have hab := isR_b hR
  have hn60 := hV.1
  refine E_s (p' := 1) (st' := aA a :: _) rfl rfl ?_
  refine E_gA (b := a + 1) rfl rfl rfl (kR_0 hR) (hR_0_0 hR) rfl ?_
  refine E_gA (b := a + 7) rfl rfl rfl (kR_1 hR) (hR_1_5 hR) rfl ?_
  refine E_s (p' := 8) (st' := aI ((c : Nat) : Int) :: _) rfl rfl ?_
  refine E_ald (e := c) (N := 60) (v := ((Ck R c : Nat) : Int)) rfl (kR_7 hR) (rfl) (by omega) (CR_7 hC (by omega)) ?_
  refine E_s (p' := 10) (st' := aI ((n : Nat) : Int) :: _) rfl rfl ?_
  refine E_icmp_eq (x := ((Ck R c : Nat) : Int)) (y := ((n : Nat) : Int)) rfl (by decide) (fun h_1 => ?_) (fun h_1 => ?_)
  · refine E_go (p' := 17) (L' := [some (aA a), some (aI ((c : Nat) : Int)), some (aA 16), some (aI ((n : Nat) : Int)), none, none]) (st' := []) rfl rfl rfl ?_
    refine E_s (p' := 18) (st' := aI 0 :: _) rfl rfl ?_
    refine E_s (p' := 20) (L' := [some (aA a), some (aI ((c : Nat) : Int)), some (aA 16), some (aI ((n : Nat) : Int)), some (aI 0), none]) rfl rfl ?_
    refine E_s (p' := 21) (st' := aA a :: _) rfl rfl ?_
    refine E_gA (b := a + 1) rfl rfl rfl (kR_0 hR) (hR_0_0 hR) rfl ?_
    refine E_gA (b := a + 7) rfl rfl rfl (kR_1 hR) (hR_1_5 hR) rfl ?_
    refine E_s (p' := 28) (st' := aI ((c : Nat) : Int) :: _) rfl rfl ?_
    refine E_s (p' := 29) (st' := aI ((n : Nat) : Int) :: _) rfl rfl ?_
    refine E_ast (e := c) (N := 60) rfl (kR_7 hR) (rfl) (by omega) ?_
    refine E_s (p' := 31) (st' := aI 0 :: _) rfl rfl ?_
    refine E_s (p' := 33) (L' := [some (aA a), some (aI ((c : Nat) : Int)), some (aA 16), some (aI ((n : Nat) : Int)), some (aI 0), some (aI 0)]) rfl rfl ?_
    exact yl_pt16 hR hC hV hc hn hP q (n + 1) 0 _ false (by omega) (by omega) up2_eq (fun i hi => absurd hi (Nat.not_lt_zero _)) (fun b j g1 g2 => up2_o g1)
  · refine E_go (p' := 13) (L' := [some (aA a), some (aI ((c : Nat) : Int)), some (aA 16), some (aI ((n : Nat) : Int)), none, none]) (st' := []) rfl rfl rfl ?_
    refine E_s (p' := 14) (st' := aI 1 :: _) rfl rfl ?_
    refine E_s (p' := 18) rfl rfl ?_
    refine E_s (p' := 20) (L' := [some (aA a), some (aI ((c : Nat) : Int)), some (aA 16), some (aI ((n : Nat) : Int)), some (aI 1), none]) rfl rfl ?_
    refine E_s (p' := 21) (st' := aA a :: _) rfl rfl ?_
    refine E_gA (b := a + 1) rfl rfl rfl (kR_0 hR) (hR_0_0 hR) rfl ?_
    refine E_gA (b := a + 7) rfl rfl rfl (kR_1 hR) (hR_1_5 hR) rfl ?_
    refine E_s (p' := 28) (st' := aI ((c : Nat) : Int) :: _) rfl rfl ?_
    refine E_s (p' := 29) (st' := aI ((n : Nat) : Int) :: _) rfl rfl ?_
    refine E_ast (e := c) (N := 60) rfl (kR_7 hR) (rfl) (by omega) ?_
    refine E_s (p' := 31) (st' := aI 0 :: _) rfl rfl ?_
    refine E_s (p' := 33) (L' := [some (aA a), some (aI ((c : Nat) : Int)), some (aA 16), some (aI ((n : Nat) : Int)), some (aI 1), some (aI 0)]) rfl rfl ?_
    exact yl_pt16 hR hC hV hc hn hP q (n + 1) 0 _ true (by omega) (by omega) up2_eq (fun i hi => absurd hi (Nat.not_lt_zero _)) (fun b j g1 g2 => up2_o g1)
theorem yl_pt17 (hR : isR a) (hC : CR R a m0) (hV : VR R) (hc : c < Cn R) (hn : n ≤ 30) (hP : ∀ k, k < n → m0 17 k = (P k : Int)) (q : ∀ (o : Bool) (m1 : Mm), CR (Rkn R c n P) a m1 → m1 a 7 = 0 → FrP a c m0 m1 → Q (some (aI (bi o))) (m1, tl len))  : ∀ (d : Nat) (k : Nat) (m : Mm) (o : Bool), (n < k + d) → (k ≤ n) → (m (a + 7) c = (n : Int)) → (∀ i, i < k → m (a + 8) (30 * c + i) = (P i : Int)) → (∀ b j, ¬ (b = a + 7 ∧ j = c) → ¬ (b = a + 8 ∧ 30 * c ≤ j ∧ j < 30 * c + 30) → m b j = m0 b j) → E 56 33 [some (aA a), some (aI ((c : Nat) : Int)), some (aA 17), some (aI ((n : Nat) : Int)), some (aI (bi o)), some (aI ((k : Nat) : Int))] [] (m, tl len) Q := by
  intro d
  induction d with
  | zero => intro k m o hd hk I1 I2 I3; omega
  | succ d ih =>
    intro k m o hd hk I1 I2 I3
    have hab := isR_b hR
    have hn60 := hV.1
    refine E_s (p' := 35) (st' := aI ((k : Nat) : Int) :: _) rfl rfl ?_
    refine E_s (p' := 36) (st' := aI ((n : Nat) : Int) :: _) rfl rfl ?_
    refine E_icmp_ge (x := ((k : Nat) : Int)) (y := ((n : Nat) : Int)) rfl (by decide) (fun h_1 => ?_) (fun h_1 => ?_)
    · refine E_go (p' := 96) (L' := [some (aA a), some (aI ((c : Nat) : Int)), some (aA 17), some (aI ((n : Nat) : Int)), some (aI (bi o)), some (aI ((k : Nat) : Int))]) (st' := []) rfl rfl rfl ?_
      refine E_s (p' := 97) (st' := aA a :: _) rfl rfl ?_
      refine E_callV (k' := 57) (a := a) (r := []) (L0 := [some (aA a)]) rfl rfl rfl rfl rfl (kR_0 hR) rfl rfl rfl rfl ?_
      refine c_rdAgain hR ?_
      refine E_go (p' := 100) (L' := [some (aA a), some (aI ((c : Nat) : Int)), some (aA 17), some (aI ((n : Nat) : Int)), some (aI (bi o)), some (aI ((k : Nat) : Int))]) (st' := []) rfl rfl rfl ?_
      refine E_s (p' := 102) (st' := aI (bi o) :: _) rfl rfl ?_
      refine E_retB rfl rfl (bi01 _) ?_
      have ek : k = n := by omega
      subst ek
      refine q _ _ (hC.kn hV hn ((up2_ne (by omega)).trans I1) (fun i hi => (up2_ne (by omega)).trans (I2 i hi)) (fun b j g1 g2 g3 g4 g5 => (up2_o (by omega)).trans (I3 b j g3 (by omega)))) up2_eq (fun b j g1 g2 g3 => (up2_o g1).trans (I3 b j g2 g3))
    · refine E_go (p' := 39) (L' := [some (aA a), some (aI ((c : Nat) : Int)), some (aA 17), some (aI ((n : Nat) : Int)), some (aI (bi o)), some (aI ((k : Nat) : Int))]) (st' := []) rfl rfl rfl ?_
      refine E_s (p' := 41) (st' := aI (bi o) :: _) rfl rfl ?_
      refine E_s (p' := 42) (st' := aA a :: _) rfl rfl ?_
      refine E_gA (b := a + 1) rfl rfl rfl (kR_0 hR) (hR_0_0 hR) rfl ?_
      refine E_gA (b := a + 8) rfl rfl rfl (kR_1 hR) (hR_1_6 hR) rfl ?_
      refine E_s (p' := 49) (st' := aI ((c : Nat) : Int) :: _) rfl rfl ?_
      refine E_s (p' := 51) (st' := aI 30 :: _) rfl rfl ?_
      refine E_mul (v := ((30 * c : Nat) : Int)) rfl (by omega) (by omega) ?_
      refine E_s (p' := 54) (st' := aI ((k : Nat) : Int) :: _) rfl rfl ?_
      refine E_add (v := ((30 * c + k : Nat) : Int)) rfl (by omega) (by omega) ?_
      refine E_ald (e := 30 * c + k) (N := 1800) (v := ((m (a + 8) (30 * c + k)))) rfl (kR_8 hR) (rfl) (by omega) rfl ?_
      refine E_s (p' := 57) (st' := aA 17 :: _) rfl rfl ?_
      refine E_s (p' := 59) (st' := aI ((k : Nat) : Int) :: _) rfl rfl ?_
      refine E_ald (e := k) (N := 30) (v := ((P k : Nat) : Int)) rfl rfl (rfl) (by omega) ((I3 _ _ (by omega) (by omega)).trans (hP _ (by omega))) ?_
      refine E_icmp_eq (x := ((m (a + 8) (30 * c + k)))) (y := ((P k : Nat) : Int)) rfl (by decide) (fun h_2 => ?_) (fun h_2 => ?_)
      · refine E_go (p' := 67) (L' := [some (aA a), some (aI ((c : Nat) : Int)), some (aA 17), some (aI ((n : Nat) : Int)), some (aI (bi o)), some (aI ((k : Nat) : Int))]) (st' := [aI (bi o)]) rfl rfl rfl ?_
        refine E_s (p' := 68) (st' := aI 0 :: _) rfl rfl ?_
        refine E_orb (x := o) (y := false) rfl ?_
        refine E_s (p' := 71) (L' := [some (aA a), some (aI ((c : Nat) : Int)), some (aA 17), some (aI ((n : Nat) : Int)), some (aI (bi (o || false))), some (aI ((k : Nat) : Int))]) rfl rfl ?_
        refine E_s (p' := 72) (st' := aA a :: _) rfl rfl ?_
        refine E_gA (b := a + 1) rfl rfl rfl (kR_0 hR) (hR_0_0 hR) rfl ?_
        refine E_gA (b := a + 8) rfl rfl rfl (kR_1 hR) (hR_1_6 hR) rfl ?_
        refine E_s (p' := 79) (st' := aI ((c : Nat) : Int) :: _) rfl rfl ?_
        refine E_s (p' := 81) (st' := aI 30 :: _) rfl rfl ?_
        refine E_mul (v := ((30 * c : Nat) : Int)) rfl (by omega) (by omega) ?_
        refine E_s (p' := 84) (st' := aI ((k : Nat) : Int) :: _) rfl rfl ?_
        refine E_add (v := ((30 * c + k : Nat) : Int)) rfl (by omega) (by omega) ?_
        refine E_s (p' := 86) (st' := aA 17 :: _) rfl rfl ?_
        refine E_s (p' := 88) (st' := aI ((k : Nat) : Int) :: _) rfl rfl ?_
        refine E_ald (e := k) (N := 30) (v := ((P k : Nat) : Int)) rfl rfl (rfl) (by omega) ((I3 _ _ (by omega) (by omega)).trans (hP _ (by omega))) ?_
        refine E_ast (e := 30 * c + k) (N := 1800) rfl (kR_8 hR) (rfl) (by omega) ?_
        refine E_inc (x := ((k : Nat) : Int)) (w := ((k + 1 : Nat) : Int)) (L' := [some (aA a), some (aI ((c : Nat) : Int)), some (aA 17), some (aI ((n : Nat) : Int)), some (aI (bi (o || false))), some (aI ((k + 1 : Nat) : Int))]) rfl rfl rfl (by omega) (by omega) rfl ?_
        refine E_s (p' := 33) rfl rfl ?_
        refine ih (k + 1) _ (o || false) (by omega) (by omega) ((up2_ne (by omega)).trans I1) (fun i hi => ?_) (fun b j g1 g2 => (up2_o (by omega)).trans (I3 b j g1 g2))
        · by_cases g : i = k
          · subst g; exact up2_eq
          · exact (up2_sl (by omega)).trans (I2 i (by omega))
      · refine E_go (p' := 63) (L' := [some (aA a), some (aI ((c : Nat) : Int)), some (aA 17), some (aI ((n : Nat) : Int)), some (aI (bi o)), some (aI ((k : Nat) : Int))]) (st' := [aI (bi o)]) rfl rfl rfl ?_
        refine E_s (p' := 64) (st' := aI 1 :: _) rfl rfl ?_
        refine E_s (p' := 68) rfl rfl ?_
        refine E_orb (x := o) (y := true) rfl ?_
        refine E_s (p' := 71) (L' := [some (aA a), some (aI ((c : Nat) : Int)), some (aA 17), some (aI ((n : Nat) : Int)), some (aI (bi (o || true))), some (aI ((k : Nat) : Int))]) rfl rfl ?_
        refine E_s (p' := 72) (st' := aA a :: _) rfl rfl ?_
        refine E_gA (b := a + 1) rfl rfl rfl (kR_0 hR) (hR_0_0 hR) rfl ?_
        refine E_gA (b := a + 8) rfl rfl rfl (kR_1 hR) (hR_1_6 hR) rfl ?_
        refine E_s (p' := 79) (st' := aI ((c : Nat) : Int) :: _) rfl rfl ?_
        refine E_s (p' := 81) (st' := aI 30 :: _) rfl rfl ?_
        refine E_mul (v := ((30 * c : Nat) : Int)) rfl (by omega) (by omega) ?_
        refine E_s (p' := 84) (st' := aI ((k : Nat) : Int) :: _) rfl rfl ?_
        refine E_add (v := ((30 * c + k : Nat) : Int)) rfl (by omega) (by omega) ?_
        refine E_s (p' := 86) (st' := aA 17 :: _) rfl rfl ?_
        refine E_s (p' := 88) (st' := aI ((k : Nat) : Int) :: _) rfl rfl ?_
        refine E_ald (e := k) (N := 30) (v := ((P k : Nat) : Int)) rfl rfl (rfl) (by omega) ((I3 _ _ (by omega) (by omega)).trans (hP _ (by omega))) ?_
        refine E_ast (e := 30 * c + k) (N := 1800) rfl (kR_8 hR) (rfl) (by omega) ?_
        refine E_inc (x := ((k : Nat) : Int)) (w := ((k + 1 : Nat) : Int)) (L' := [some (aA a), some (aI ((c : Nat) : Int)), some (aA 17), some (aI ((n : Nat) : Int)), some (aI (bi (o || true))), some (aI ((k + 1 : Nat) : Int))]) rfl rfl rfl (by omega) (by omega) rfl ?_
        refine E_s (p' := 33) rfl rfl ?_
        refine ih (k + 1) _ (o || true) (by omega) (by omega) ((up2_ne (by omega)).trans I1) (fun i hi => ?_) (fun b j g1 g2 => (up2_o (by omega)).trans (I3 b j g1 g2))
        · by_cases g : i = k
          · subst g; exact up2_eq
          · exact (up2_sl (by omega)).trans (I2 i (by omega))
theorem c_put17 (hR : isR a) (hC : CR R a m0) (hV : VR R) (hc : c < Cn R) (hn : n ≤ 30) (hP : ∀ k, k < n → m0 17 k = (P k : Int)) (q : ∀ (o : Bool) (m1 : Mm), CR (Rkn R c n P) a m1 → m1 a 7 = 0 → FrP a c m0 m1 → Q (some (aI (bi o))) (m1, tl len))  : E 56 0 [some (aA a), some (aI ((c : Nat) : Int)), some (aA 17), some (aI ((n : Nat) : Int)), none, none] [] (m0, tl len) Q := by
  have hab := isR_b hR
  have hn60 := hV.1
  refine E_s (p' := 1) (st' := aA a :: _) rfl rfl ?_
  refine E_gA (b := a + 1) rfl rfl rfl (kR_0 hR) (hR_0_0 hR) rfl ?_
  refine E_gA (b := a + 7) rfl rfl rfl (kR_1 hR) (hR_1_5 hR) rfl ?_
  refine E_s (p' := 8) (st' := aI ((c : Nat) : Int) :: _) rfl rfl ?_
  refine E_ald (e := c) (N := 60) (v := ((Ck R c : Nat) : Int)) rfl (kR_7 hR) (rfl) (by omega) (CR_7 hC (by omega)) ?_
  refine E_s (p' := 10) (st' := aI ((n : Nat) : Int) :: _) rfl rfl ?_
  refine E_icmp_eq (x := ((Ck R c : Nat) : Int)) (y := ((n : Nat) : Int)) rfl (by decide) (fun h_1 => ?_) (fun h_1 => ?_)
  · refine E_go (p' := 17) (L' := [some (aA a), some (aI ((c : Nat) : Int)), some (aA 17), some (aI ((n : Nat) : Int)), none, none]) (st' := []) rfl rfl rfl ?_
    refine E_s (p' := 18) (st' := aI 0 :: _) rfl rfl ?_
    refine E_s (p' := 20) (L' := [some (aA a), some (aI ((c : Nat) : Int)), some (aA 17), some (aI ((n : Nat) : Int)), some (aI 0), none]) rfl rfl ?_
    refine E_s (p' := 21) (st' := aA a :: _) rfl rfl ?_
    refine E_gA (b := a + 1) rfl rfl rfl (kR_0 hR) (hR_0_0 hR) rfl ?_
    refine E_gA (b := a + 7) rfl rfl rfl (kR_1 hR) (hR_1_5 hR) rfl ?_
    refine E_s (p' := 28) (st' := aI ((c : Nat) : Int) :: _) rfl rfl ?_
    refine E_s (p' := 29) (st' := aI ((n : Nat) : Int) :: _) rfl rfl ?_
    refine E_ast (e := c) (N := 60) rfl (kR_7 hR) (rfl) (by omega) ?_
    refine E_s (p' := 31) (st' := aI 0 :: _) rfl rfl ?_
    refine E_s (p' := 33) (L' := [some (aA a), some (aI ((c : Nat) : Int)), some (aA 17), some (aI ((n : Nat) : Int)), some (aI 0), some (aI 0)]) rfl rfl ?_
    exact yl_pt17 hR hC hV hc hn hP q (n + 1) 0 _ false (by omega) (by omega) up2_eq (fun i hi => absurd hi (Nat.not_lt_zero _)) (fun b j g1 g2 => up2_o g1)
  · refine E_go (p' := 13) (L' := [some (aA a), some (aI ((c : Nat) : Int)), some (aA 17), some (aI ((n : Nat) : Int)), none, none]) (st' := []) rfl rfl rfl ?_
    refine E_s (p' := 14) (st' := aI 1 :: _) rfl rfl ?_
    refine E_s (p' := 18) rfl rfl ?_
    refine E_s (p' := 20) (L' := [some (aA a), some (aI ((c : Nat) : Int)), some (aA 17), some (aI ((n : Nat) : Int)), some (aI 1), none]) rfl rfl ?_
    refine E_s (p' := 21) (st' := aA a :: _) rfl rfl ?_
    refine E_gA (b := a + 1) rfl rfl rfl (kR_0 hR) (hR_0_0 hR) rfl ?_
    refine E_gA (b := a + 7) rfl rfl rfl (kR_1 hR) (hR_1_5 hR) rfl ?_
    refine E_s (p' := 28) (st' := aI ((c : Nat) : Int) :: _) rfl rfl ?_
    refine E_s (p' := 29) (st' := aI ((n : Nat) : Int) :: _) rfl rfl ?_
    refine E_ast (e := c) (N := 60) rfl (kR_7 hR) (rfl) (by omega) ?_
    refine E_s (p' := 31) (st' := aI 0 :: _) rfl rfl ?_
    refine E_s (p' := 33) (L' := [some (aA a), some (aI ((c : Nat) : Int)), some (aA 17), some (aI ((n : Nat) : Int)), some (aI 1), some (aI 0)]) rfl rfl ?_
    exact yl_pt17 hR hC hV hc hn hP q (n + 1) 0 _ true (by omega) (by omega) up2_eq (fun i hi => absurd hi (Nat.not_lt_zero _)) (fun b j g1 g2 => up2_o g1)
theorem yl_rad {D : Nat → Int} (hR : isR a) (hC : CR R a m) (hd9 : RdC R a m) (hn : Cn R ≤ 60) (hD : ∀ e, e < Cn R → m 18 e = D e) (q1 : (∀ e, e < Cn R → Rtd R e = D e) → Q (some (aI 1)) (m, tl len)) (q0 : ¬ (∀ e, e < Cn R → Rtd R e = D e) → Q (some (aI 0)) (m, tl len))  : ∀ (d : Nat) (e : Nat), (Cn R < e + d) → (e ≤ Cn R) → (∀ t, t < e → Rtd R t = D t) → E 58 2 [some (aA 15), some (aA a), some (aI ((e : Nat) : Int))] [] (m, tl len) Q := by
  intro d
  induction d with
  | zero => intro e hd he I1; omega
  | succ d ih =>
    intro e hd he I1
    have hab := isR_b hR
    refine E_s (p' := 3) (st' := aI ((e : Nat) : Int) :: _) rfl rfl ?_
    refine E_s (p' := 4) (st' := aA a :: _) rfl rfl ?_
    refine E_gA (b := a + 1) rfl rfl rfl (kR_0 hR) (hR_0_0 hR) rfl ?_
    refine E_gI (v := ((Cn R : Nat) : Int)) rfl rfl rfl (kR_1 hR) hC.1 ?_
    refine E_icmp_ge (x := ((e : Nat) : Int)) (y := ((Cn R : Nat) : Int)) rfl (by decide) (fun h_1 => ?_) (fun h_1 => ?_)
    · refine E_go (p' := 38) (L' := [some (aA 15), some (aA a), some (aI ((e : Nat) : Int))]) (st' := []) rfl rfl rfl ?_
      refine E_s (p' := 39) (st' := aI 1 :: _) rfl rfl ?_
      refine E_ret rfl rfl ?_
      exact q1 (fun t ht9 => I1 t (by omega))
    · refine E_go (p' := 13) (L' := [some (aA 15), some (aA a), some (aI ((e : Nat) : Int))]) (st' := []) rfl rfl rfl ?_
      refine E_s (p' := 14) (st' := aA a :: _) rfl rfl ?_
      refine E_gA (b := a + 15) rfl rfl rfl (kR_0 hR) (hR_0_4 hR) rfl ?_
      refine E_s (p' := 18) (st' := aI ((e : Nat) : Int) :: _) rfl rfl ?_
      refine E_callV (k' := 55) (a := a + 15) (r := []) (L0 := [some (aA (a + 15)), some (aI ((e : Nat) : Int))]) rfl rfl rfl rfl rfl (kR_15 hR) rfl rfl rfl rfl ?_
      refine c_told hR hn hd9 (c := e) (by omega) ?_
      refine E_go (p' := 21) (L' := [some (aA 15), some (aA a), some (aI ((e : Nat) : Int))]) (st' := [aI ((Rtd R e))]) rfl rfl rfl ?_
      refine E_s (p' := 22) (st' := aA 15 :: _) rfl rfl ?_
      refine E_gA (b := 18) rfl rfl rfl rfl hm_15_2 rfl ?_
      refine E_s (p' := 26) (st' := aI ((e : Nat) : Int) :: _) rfl rfl ?_
      refine E_ald (e := e) (N := 60) (v := ((D e))) rfl rfl (rfl) (by omega) (hD _ (by omega)) ?_
      refine E_icmp_eq (x := ((Rtd R e))) (y := ((D e))) rfl (by decide) (fun h_2 => ?_) (fun h_2 => ?_)
      · refine E_go (p' := 32) (L' := [some (aA 15), some (aA a), some (aI ((e : Nat) : Int))]) (st' := []) rfl rfl rfl ?_
        refine E_inc (x := ((e : Nat) : Int)) (w := ((e + 1 : Nat) : Int)) (L' := [some (aA 15), some (aA a), some (aI ((e + 1 : Nat) : Int))]) rfl rfl rfl (by omega) (by omega) rfl ?_
        refine E_s (p' := 2) rfl rfl ?_
        exact ih (e + 1) (by omega) (by omega) (fun t ht9 => by rcases Nat.lt_succ_iff_lt_or_eq.mp ht9 with g | g; exact I1 t g; subst g; assumption)
      · refine E_go (p' := 30) (L' := [some (aA 15), some (aA a), some (aI ((e : Nat) : Int))]) (st' := []) rfl rfl rfl ?_
        refine E_s (p' := 31) (st' := aI 0 :: _) rfl rfl ?_
        refine E_ret rfl rfl ?_
        exact q0 (fun g => absurd (g e (by omega)) (by assumption))
theorem c_rad {D : Nat → Int} (hR : isR a) (hC : CR R a m) (hd9 : RdC R a m) (hn : Cn R ≤ 60) (hD : ∀ e, e < Cn R → m 18 e = D e) (q1 : (∀ e, e < Cn R → Rtd R e = D e) → Q (some (aI 1)) (m, tl len)) (q0 : ¬ (∀ e, e < Cn R → Rtd R e = D e) → Q (some (aI 0)) (m, tl len))  : E 58 0 [some (aA 15), some (aA a), none] [] (m, tl len) Q := by
  refine E_s (p' := 1) (st' := aI 0 :: _) rfl rfl ?_
  refine E_s (p' := 2) (L' := [some (aA 15), some (aA a), some (aI 0)]) rfl rfl ?_
  exact yl_rad hR hC hd9 hn hD q1 q0 (Cn R + 1) 0 (by omega) (by omega) (fun t ht9 => absurd ht9 (Nat.not_lt_zero _))
theorem yl_due (hR : isR a) (hC : CR R a m0) (hV : VR R) (hd9 : RdC R a m0) (hc : c < Cn R) (hk : ∀ m1 : Mm, (∀ e, e < Cn R → m1 18 e = due R c X e) → (∀ b j, b ≠ 18 → m1 b j = m0 b j) → E 54 51 [some (aA 15), some (aA a), some (aI ((c : Nat) : Int)), some (aI ((X : Nat) : Int)), some (aA (a + 1)), some (aI ((Cn R : Nat) : Int)), none] [] (m1, tl len) Q) : ∀ (d : Nat) (e : Nat) (m : Mm), (Cn R < e + d) → (e ≤ Cn R) → (∀ t, t < e → m 18 t = due R c X t) → (∀ b j, b ≠ 18 → m b j = m0 b j) → E 54 9 [some (aA 15), some (aA a), some (aI ((c : Nat) : Int)), some (aI ((X : Nat) : Int)), some (aA (a + 1)), some (aI ((e : Nat) : Int)), none] [] (m, tl len) Q := by
  intro d
  induction d with
  | zero => intro e m hd he J1 J2; omega
  | succ d ih =>
    intro e m hd he J1 J2
    have hab := isR_b hR
    have hn60 := hV.1
    have hCm : CR R a m := hC.of (fun b j g1 g2 _ => J2 b j (by omega))
    have hdm : RdC R a m := hd9.of (fun b j g1 g2 => J2 b j (by omega))
    refine E_s (p' := 11) (st' := aI ((e : Nat) : Int) :: _) rfl rfl ?_
    refine E_s (p' := 13) (st' := aA (a + 1) :: _) rfl rfl ?_
    refine E_gI (v := ((Cn R : Nat) : Int)) rfl rfl rfl (kR_1 hR) hCm.1 ?_
    refine E_icmp_ge (x := ((e : Nat) : Int)) (y := ((Cn R : Nat) : Int)) rfl (by decide) (fun h_1 => ?_) (fun h_1 => ?_)
    · refine E_go (p' := 51) (L' := [some (aA 15), some (aA a), some (aI ((c : Nat) : Int)), some (aI ((X : Nat) : Int)), some (aA (a + 1)), some (aI ((e : Nat) : Int)), none]) (st' := []) rfl rfl rfl ?_
      have ee : e = Cn R := by omega
      subst ee
      exact hk m J1 J2
    · refine E_go (p' := 19) (L' := [some (aA 15), some (aA a), some (aI ((c : Nat) : Int)), some (aI ((X : Nat) : Int)), some (aA (a + 1)), some (aI ((e : Nat) : Int)), none]) (st' := []) rfl rfl rfl ?_
      refine E_s (p' := 20) (st' := aA 15 :: _) rfl rfl ?_
      refine E_gA (b := 18) rfl rfl rfl rfl hm_15_2 rfl ?_
      refine E_s (p' := 25) (st' := aI ((e : Nat) : Int) :: _) rfl rfl ?_
      refine E_s (p' := 27) (st' := aI ((e : Nat) : Int) :: _) rfl rfl ?_
      refine E_s (p' := 28) (st' := aI ((c : Nat) : Int) :: _) rfl rfl ?_
      refine E_icmp_ne (x := ((e : Nat) : Int)) (y := ((c : Nat) : Int)) rfl (by decide) (fun h_2 => ?_) (fun h_2 => ?_)
      · refine E_go (p' := 35) (L' := [some (aA 15), some (aA a), some (aI ((c : Nat) : Int)), some (aI ((X : Nat) : Int)), some (aA (a + 1)), some (aI ((e : Nat) : Int)), none]) (st' := [aI ((e : Nat) : Int), aA 18]) rfl rfl rfl ?_
        refine E_s (p' := 36) (st' := aA a :: _) rfl rfl ?_
        refine E_gA (b := a + 15) rfl rfl rfl (kR_0 hR) (hR_0_4 hR) rfl ?_
        refine E_s (p' := 41) (st' := aI ((e : Nat) : Int) :: _) rfl rfl ?_
        refine E_callV (k' := 55) (a := a + 15) (r := [aI ((e : Nat) : Int), aA 18]) (L0 := [some (aA (a + 15)), some (aI ((e : Nat) : Int))]) rfl rfl rfl rfl rfl (kR_15 hR) rfl rfl rfl rfl ?_
        refine c_told hR hn60 hdm (c := e) (by omega) ?_
        refine E_go (p' := 44) (L' := [some (aA 15), some (aA a), some (aI ((c : Nat) : Int)), some (aI ((X : Nat) : Int)), some (aA (a + 1)), some (aI ((e : Nat) : Int)), none]) (st' := [aI ((Rtd R e)), aI ((e : Nat) : Int), aA 18]) rfl rfl rfl ?_
        refine E_ast (e := e) (N := 60) rfl rfl (rfl) (by omega) ?_
        refine E_inc (x := ((e : Nat) : Int)) (w := ((e + 1 : Nat) : Int)) (L' := [some (aA 15), some (aA a), some (aI ((c : Nat) : Int)), some (aI ((X : Nat) : Int)), some (aA (a + 1)), some (aI ((e + 1 : Nat) : Int)), none]) rfl rfl rfl (by omega) (by omega) rfl ?_
        refine E_s (p' := 9) rfl rfl ?_
        refine ih (e + 1) _ (by omega) (by omega) (fun t ht9 => ?_) (fun b j hb => (up2_ne hb).trans (J2 b j hb))
        · by_cases g : t = e
          · subst g; refine up2_eq.trans ?_; unfold due; rw [if_neg (by omega)]
          · exact (up2_sl (by omega)).trans (J1 t (by omega))
      · refine E_go (p' := 31) (L' := [some (aA 15), some (aA a), some (aI ((c : Nat) : Int)), some (aI ((X : Nat) : Int)), some (aA (a + 1)), some (aI ((e : Nat) : Int)), none]) (st' := [aI ((e : Nat) : Int), aA 18]) rfl rfl rfl ?_
        refine E_s (p' := 32) (st' := aI ((X : Nat) : Int) :: _) rfl rfl ?_
        refine E_s (p' := 44) rfl rfl ?_
        refine E_ast (e := e) (N := 60) rfl rfl (rfl) (by omega) ?_
        refine E_inc (x := ((e : Nat) : Int)) (w := ((e + 1 : Nat) : Int)) (L' := [some (aA 15), some (aA a), some (aI ((c : Nat) : Int)), some (aI ((X : Nat) : Int)), some (aA (a + 1)), some (aI ((e + 1 : Nat) : Int)), none]) rfl rfl rfl (by omega) (by omega) rfl ?_
        refine E_s (p' := 9) rfl rfl ?_
        refine ih (e + 1) _ (by omega) (by omega) (fun t ht9 => ?_) (fun b j hb => (up2_ne hb).trans (J2 b j hb))
        · by_cases g : t = e
          · subst g; refine up2_eq.trans ?_; unfold due; rw [if_pos (by omega)]
          · exact (up2_sl (by omega)).trans (J1 t (by omega))
theorem c_kap (hR : isR a) (hC : CR R a m0) (hV : VR R) (hd9 : RdC R a m0) (hc : c < Cn R) {y : KR} (hX : okK R c y) (hP : PK y m0) (q1 : ∀ m1 : Mm, tdD R (Rkn R c y.1 y.2) c (X : Int) → CS1 (Rkn R c y.1 y.2) a m1 → FkA a m0 m1 → Q (some (aI 1)) (m1, tl len)) (q0 : ∀ m1 : Mm, ¬ tdD R (Rkn R c y.1 y.2) c (X : Int) → CS1 R a m1 → FkA a m0 m1 → Q (some (aI 0)) (m1, tl len)) : E 54 0 [some (aA 15), some (aA a), some (aI ((c : Nat) : Int)), some (aI ((X : Nat) : Int)), none, none, none] [] (m0, tl len) Q := by
  have hab := isR_b hR
  have hn60 := hV.1
  have hk30 := (hV.2.2.1 c hc).2.2.2.2.2
  refine E_s (p' := 1) (st' := aA a :: _) rfl rfl ?_
  refine E_gA (b := a + 1) rfl rfl rfl (kR_0 hR) (hR_0_0 hR) rfl ?_
  refine E_s (p' := 6) (L' := [some (aA 15), some (aA a), some (aI ((c : Nat) : Int)), some (aI ((X : Nat) : Int)), some (aA (a + 1)), none, none]) rfl rfl ?_
  refine E_s (p' := 7) (st' := aI 0 :: _) rfl rfl ?_
  refine E_s (p' := 9) (L' := [some (aA 15), some (aA a), some (aI ((c : Nat) : Int)), some (aI ((X : Nat) : Int)), some (aA (a + 1)), some (aI 0), none]) rfl rfl ?_
  refine yl_due hR hC hV hd9 hc (fun m1 D1 D2 => ?_) (Cn R + 1) 0 m0 (by omega) (by omega) (fun t ht9 => absurd ht9 (Nat.not_lt_zero _)) (fun _ _ _ => rfl)
  have hC1 : CR R a m1 := hC.of (fun b j g1 g2 _ => D2 b j (by omega))
  refine E_s (p' := 53) (st' := aA (a + 1) :: _) rfl rfl ?_
  refine E_gA (b := a + 7) rfl rfl rfl (kR_1 hR) (hR_1_5 hR) rfl ?_
  refine E_s (p' := 57) (st' := aI ((c : Nat) : Int) :: _) rfl rfl ?_
  refine E_ald (e := c) (N := 60) (v := ((Ck R c : Nat) : Int)) rfl (kR_7 hR) (rfl) (by omega) (CR_7 hC1 (by omega)) ?_
  refine E_s (p' := 60) (L' := [some (aA 15), some (aA a), some (aI ((c : Nat) : Int)), some (aI ((X : Nat) : Int)), some (aA (a + 1)), some (aI ((Ck R c : Nat) : Int)), none]) rfl rfl ?_
  refine E_s (p' := 62) (st' := aA (a + 1) :: _) rfl rfl ?_
  refine E_gA (b := a + 8) rfl rfl rfl (kR_1 hR) (hR_1_6 hR) rfl ?_
  refine E_s (p' := 66) (st' := aI ((c : Nat) : Int) :: _) rfl rfl ?_
  refine E_s (p' := 68) (st' := aI 30 :: _) rfl rfl ?_
  refine E_mul (v := ((30 * c : Nat) : Int)) rfl (by omega) (by omega) ?_
  refine E_s (p' := 70) (st' := aA 15 :: _) rfl rfl ?_
  refine E_gA (b := 17) rfl rfl rfl rfl hm_15_1 rfl ?_
  refine E_s (p' := 74) (st' := aI 0 :: _) rfl rfl ?_
  refine E_s (p' := 76) (st' := aI ((Ck R c : Nat) : Int) :: _) rfl rfl ?_
  refine E_acp (e1 := 30 * c) (e2 := 0) (e3 := Ck R c) rfl rfl (kR_8 hR) rfl (rfl) (rfl) (rfl) (by omega) (by omega) rfl ?_
  refine E_go (p' := 79) (L' := [some (aA 15), some (aA a), some (aI ((c : Nat) : Int)), some (aI ((X : Nat) : Int)), some (aA (a + 1)), some (aI ((Ck R c : Nat) : Int)), none]) (st' := []) rfl rfl rfl ?_
  have hB : ∀ i, i < Ck R c → cpm m1 (a + 8) (30 * c) 17 0 (Ck R c) 17 i = (Cp R c i : Int) := fun i hi => (cpm_in (by omega)).trans (CR_8 hC1 hc hi (by omega))
  have hF2 : ∀ b j, b ≠ 17 → cpm m1 (a + 8) (30 * c) 17 0 (Ck R c) b j = m1 b j := fun b j hb => cpm_ne hb
  generalize cpm m1 (a + 8) (30 * c) 17 0 (Ck R c) = m2 at hB hF2 ⊢
  have D5 : ∀ b j, b ≠ 17 → b ≠ 18 → m2 b j = m0 b j := fun b j g1 g2 => (hF2 b j g1).trans (D2 b j g2)
  have hC2 : CR R a m2 := hC.of (fun b j g1 g2 _ => D5 b j (by omega) (by omega))
  refine E_s (p' := 80) (st' := aA a :: _) rfl rfl ?_
  refine E_s (p' := 81) (st' := aI ((c : Nat) : Int) :: _) rfl rfl ?_
  refine E_s (p' := 82) (st' := aA 15 :: _) rfl rfl ?_
  refine E_gA (b := 16) rfl rfl rfl rfl hm_15_0 rfl ?_
  refine E_s (p' := 86) (st' := aA 15 :: _) rfl rfl ?_
  refine E_gI (v := ((y.1 : Nat) : Int)) rfl rfl rfl rfl ((D5 _ _ (by omega) (by omega)).trans hP.1) ?_
  refine E_callL (p' := 92) (L0 := [some (aA a), some (aI ((c : Nat) : Int)), some (aA 16), some (aI ((y.1 : Nat) : Int)), none, none]) rfl rfl rfl ?_
  refine c_put16 (n := y.1) (P := y.2) hR hC2 hV hc (hX.n30 hc) (fun k hk => (D5 _ _ (by omega) (by omega)).trans (hP.2 k hk)) (fun o m3 hC3 h73 hF3 => ?_)
  refine E_go (p' := 92) (L' := [some (aA 15), some (aA a), some (aI ((c : Nat) : Int)), some (aI ((X : Nat) : Int)), some (aA (a + 1)), some (aI ((Ck R c : Nat) : Int)), none]) (st' := [aI (bi o)]) rfl rfl rfl ?_
  have hS3 : CS1 (Rkn R c y.1 y.2) a m3 := ⟨hX, hC3, Or.inl h73⟩
  refine E_s (p' := 94) (L' := [some (aA 15), some (aA a), some (aI ((c : Nat) : Int)), some (aI ((X : Nat) : Int)), some (aA (a + 1)), some (aI ((Ck R c : Nat) : Int)), some (aI (bi o))]) rfl rfl ?_
  refine E_s (p' := 95) (st' := aA a :: _) rfl rfl ?_
  refine E_callV (k' := 35) (a := a) (r := []) (L0 := [some (aA a)]) rfl rfl rfl rfl rfl (kR_0 hR) rfl rfl rfl rfl ?_
  refine c_readNow hR hS3 (fun m4 hS4 hd4 hF4 => ?_)
  refine E_go (p' := 98) (L' := [some (aA 15), some (aA a), some (aI ((c : Nat) : Int)), some (aI ((X : Nat) : Int)), some (aA (a + 1)), some (aI ((Ck R c : Nat) : Int)), some (aI (bi o))]) (st' := [aA (a + 15)]) rfl rfl rfl ?_
  have hD4 : ∀ e, e < Cn R → m4 18 e = due R c X e := fun e he => (hF4 _ _ (by omega)).trans ((hF3 _ _ (by omega) (by omega) (by omega)).trans ((hF2 _ _ (by omega)).trans (D1 e he)))
  refine E_s (p' := 99) rfl rfl ?_
  refine E_s (p' := 100) (st' := aA 15 :: _) rfl rfl ?_
  refine E_s (p' := 101) (st' := aA a :: _) rfl rfl ?_
  refine E_callV (k' := 58) (a := 15) (r := []) (L0 := [some (aA 15), some (aA a), none]) rfl rfl rfl rfl rfl rfl rfl rfl rfl rfl ?_
  refine c_rad (R := Rkn R c y.1 y.2) (D := due R c X) hR hS4.2.1 hd4 hn60 hD4 (fun hyr => ?_) (fun hnr => ?_)
  · refine E_go (p' := 104) (L' := [some (aA 15), some (aA a), some (aI ((c : Nat) : Int)), some (aI ((X : Nat) : Int)), some (aA (a + 1)), some (aI ((Ck R c : Nat) : Int)), some (aI (bi o))]) (st' := [aI 1]) rfl rfl rfl ?_
    refine E_s (p' := 121) rfl rfl ?_
    refine E_s (p' := 123) (st' := aI (bi o) :: _) rfl rfl ?_
    refine E_b_eq0 (b := o) rfl (by decide) (fun h_1 => ?_) (fun h_1 => ?_)
    · refine E_go (p' := 130) (L' := [some (aA 15), some (aA a), some (aI ((c : Nat) : Int)), some (aI ((X : Nat) : Int)), some (aA (a + 1)), some (aI ((Ck R c : Nat) : Int)), some (aI (bi o))]) (st' := []) rfl rfl rfl ?_
      refine E_s (p' := 131) (st' := aI 1 :: _) rfl rfl ?_
      refine E_ret rfl rfl ?_
      exact q1 m4 (fun e he => hyr e he) hS4 (fun b j hb => (hF4 b j (by omega)).trans ((hF3 b j (by omega) (by omega) (by omega)).trans (D5 b j (by omega) (by omega))))
    · refine E_go (p' := 126) (L' := [some (aA 15), some (aA a), some (aI ((c : Nat) : Int)), some (aI ((X : Nat) : Int)), some (aA (a + 1)), some (aI ((Ck R c : Nat) : Int)), some (aI (bi o))]) (st' := []) rfl rfl rfl ?_
      refine E_s (p' := 127) (st' := aA a :: _) rfl rfl ?_
      refine E_callV (k' := 15) (a := a) (r := []) (L0 := [some (aA a)]) rfl rfl rfl rfl rfl (kR_0 hR) rfl rfl rfl rfl ?_
      refine c_changed hR ?_
      refine E_go (p' := 130) (L' := [some (aA 15), some (aA a), some (aI ((c : Nat) : Int)), some (aI ((X : Nat) : Int)), some (aA (a + 1)), some (aI ((Ck R c : Nat) : Int)), some (aI (bi o))]) (st' := []) rfl rfl rfl ?_
      refine E_s (p' := 131) (st' := aI 1 :: _) rfl rfl ?_
      refine E_ret rfl rfl ?_
      exact q1 _ (fun e he => hyr e he) ⟨hX, hS4.2.1.of (fun b j g1 g2 g3 => (up2_o (by omega)).trans (up2_o (by omega))), Or.inl ((up2_sl (by decide)).trans up2_eq)⟩ (fun b j hb => (up2_ne (by omega)).trans ((up2_ne (by omega)).trans ((hF4 b j (by omega)).trans ((hF3 b j (by omega) (by omega) (by omega)).trans (D5 b j (by omega) (by omega))))))
  · refine E_go (p' := 104) (L' := [some (aA 15), some (aA a), some (aI ((c : Nat) : Int)), some (aI ((X : Nat) : Int)), some (aA (a + 1)), some (aI ((Ck R c : Nat) : Int)), some (aI (bi o))]) (st' := [aI 0]) rfl rfl rfl ?_
    refine E_s (p' := 107) rfl rfl ?_
    refine E_s (p' := 108) (st' := aA a :: _) rfl rfl ?_
    refine E_s (p' := 109) (st' := aI ((c : Nat) : Int) :: _) rfl rfl ?_
    refine E_s (p' := 110) (st' := aA 15 :: _) rfl rfl ?_
    refine E_gA (b := 17) rfl rfl rfl rfl hm_15_1 rfl ?_
    refine E_s (p' := 115) (st' := aI ((Ck R c : Nat) : Int) :: _) rfl rfl ?_
    refine E_callL (p' := 118) (L0 := [some (aA a), some (aI ((c : Nat) : Int)), some (aA 17), some (aI ((Ck R c : Nat) : Int)), none, none]) rfl rfl rfl ?_
    refine c_put17 (R := Rkn R c y.1 y.2) (n := Ck R c) (P := Cp R c) hR hS4.2.1 hX hc hk30 (fun k hk => (hF4 _ _ (by omega)).trans ((hF3 _ _ (by omega) (by omega) (by omega)).trans (hB k hk))) (fun o2 m5 hC5 h75 hF5 => ?_)
    refine E_go (p' := 118) (L' := [some (aA 15), some (aA a), some (aI ((c : Nat) : Int)), some (aI ((X : Nat) : Int)), some (aA (a + 1)), some (aI ((Ck R c : Nat) : Int)), some (aI (bi o))]) (st' := [aI (bi o2)]) rfl rfl rfl ?_
    refine E_s (p' := 119) rfl rfl ?_
    refine E_s (p' := 120) (st' := aI 0 :: _) rfl rfl ?_
    refine E_ret rfl rfl ?_
    rw [Rkn_kn, Rkn_self] at hC5
    exact q0 m5 (fun g => hnr (fun e he => g e he)) ⟨hV, hC5, Or.inl h75⟩ (fun b j hb => (hF5 b j (by omega) (by omega) (by omega)).trans ((hF4 b j (by omega)).trans ((hF3 b j (by omega) (by omega) (by omega)).trans (D5 b j (by omega) (by omega)))))
end
section
variable {len : Nat} {m : Mm} {Q : Option AV → Sx → Prop} {r c x : Int}
theorem C_tie {S : Nat → RD} (hS : CS S m) (q : ∀ m1, CS (on1 S r (-2) (oTie c x)).2 m1 → Mo m m1 → Q (some (aI (on1 S r (-2) (oTie c x)).1)) (m1, tl len)) : E 33 0 [some (aA 1), some (aI (r)), some (aI (c)), some (aI (x)), none, none] [] (m, tl len) Q := by
  refine E_s (p' := 1) (st' := aA 1 :: _) rfl rfl ?_
  refine E_s (p' := 2) (st' := aI (r) :: _) rfl rfl ?_
  refine E_callV (k' := 34) (a := 1) (r := []) (L0 := [some (aA 1), some (aI (r)), none]) rfl rfl rfl rfl rfl rfl rfl rfl rfl rfl ?_
  refine c_readOf hS (fun i a m1 hi hr ha hR hS1 hCS hd hMo => ?_) (fun hr => ?_)
  · refine E_go (p' := 5) (L' := [some (aA 1), some (aI (r)), some (aI (c)), some (aI (x)), none, none]) (st' := [aA a]) rfl rfl rfl ?_
    obtain ⟨hV, hC, -⟩ := id hCS
    have hn60 := hV.1
    have hab := isR_b hR
    have hs40 := hV.2.2.2.2.1
    refine E_s (p' := 7) (L' := [some (aA 1), some (aI (r)), some (aI (c)), some (aI (x)), some (aA a), none]) rfl rfl ?_
    refine E_s (p' := 9) (st' := aA a :: _) rfl rfl ?_
    refine E_s (p' := 12) rfl rfl ?_
    refine E_s (p' := 14) (st' := aA a :: _) rfl rfl ?_
    refine E_gA (b := a + 1) rfl rfl rfl (kR_0 hR) (hR_0_0 hR) rfl ?_
    refine E_s (p' := 18) (st' := aI (c) :: _) rfl rfl ?_
    refine E_callV (k' := 17) (a := a + 1) (r := []) (L0 := [some (aA (a + 1)), some (aI (c))]) rfl rfl rfl rfl rfl (kR_1 hR) rfl rfl rfl rfl ?_
    refine c_has hR hC (fun ci he_ci hc_ci => ?_) (fun hno => ?_)
    · refine E_go (p' := 21) (L' := [some (aA 1), some (aI (r)), some (aI (c)), some (aI (x)), some (aA a), none]) (st' := [aI 1]) rfl rfl rfl ?_
      subst he_ci
      refine E_s (p' := 24) rfl rfl ?_
      refine E_s (p' := 25) (st' := aI (x) :: _) rfl rfl ?_
      refine E_if_lt (x := (x)) rfl (by decide) (fun h_1 => ?_) (fun h_1 => ?_)
      · refine E_go (p' := 34) (L' := [some (aA 1), some (aI (r)), some (aI ((ci : Nat) : Int)), some (aI (x)), some (aA a), none]) (st' := []) rfl rfl rfl ?_
        refine E_s (p' := 36) (st' := aI (-2) :: _) rfl rfl ?_
        refine E_ret rfl rfl ?_
        exact finT hS1 hMo hi hr ha q (by unfold oTie; rw [cif_neg (by unfold inC; omega)]) hCS FkA.rf
      · refine E_go (p' := 28) (L' := [some (aA 1), some (aI (r)), some (aI ((ci : Nat) : Int)), some (aI (x)), some (aA a), none]) (st' := []) rfl rfl rfl ?_
        refine E_s (p' := 29) (st' := aI (x) :: _) rfl rfl ?_
        refine E_s (p' := 31) (st' := aI 999999 :: _) rfl rfl ?_
        refine E_icmp_le (x := (x)) (y := 999999) rfl (by decide) (fun h_2 => ?_) (fun h_2 => ?_)
        · refine E_go (p' := 37) (L' := [some (aA 1), some (aI (r)), some (aI ((ci : Nat) : Int)), some (aI (x)), some (aA a), none]) (st' := []) rfl rfl rfl ?_
          obtain ⟨xn, ex⟩ : ∃ y : Nat, x = (y : Int) := ⟨x.toNat, by omega⟩
          subst ex
          refine E_s (p' := 39) (st' := aA a :: _) rfl rfl ?_
          refine E_gA (b := a + 1) rfl rfl rfl (kR_0 hR) (hR_0_0 hR) rfl ?_
          refine E_gA (b := a + 6) rfl rfl rfl (kR_1 hR) (hR_1_4 hR) rfl ?_
          refine E_s (p' := 46) (st' := aI ((ci : Nat) : Int) :: _) rfl rfl ?_
          refine E_ald (e := ci) (N := 60) (v := ((Ct (S i) ci : Nat) : Int)) rfl (kR_6 hR) (rfl) (by omega) (CR_6 hC (by omega)) ?_
          refine E_if_ne (x := ((Ct (S i) ci : Nat) : Int)) rfl (by decide) (fun h_3 => ?_) (fun h_3 => ?_)
          · refine E_go (p' := 80) (L' := [some (aA 1), some (aI (r)), some (aI ((ci : Nat) : Int)), some (aI ((xn : Nat) : Int)), some (aA a), none]) (st' := []) rfl rfl rfl ?_
            refine E_s (p' := 81) (st' := aI 0 :: _) rfl rfl ?_
            refine E_s (p' := 83) (L' := [some (aA 1), some (aI (r)), some (aI ((ci : Nat) : Int)), some (aI ((xn : Nat) : Int)), some (aA a), some (aI 0)]) rfl rfl ?_
            refine E_s (p' := 85) (st' := aI 0 :: _) rfl rfl ?_
            refine E_s (p' := 106) rfl rfl ?_
            refine E_s (p' := 107) (st' := aI (-1) :: _) rfl rfl ?_
            refine E_ret rfl rfl ?_
            exact finT hS1 hMo hi hr ha q (by unfold oTie; simp only [Int.toNat_natCast]; rw [cif_pos (by unfold inC; omega), cif_neg (by omega)]) hCS FkA.rf
          · refine E_go (p' := 50) (L' := [some (aA 1), some (aI (r)), some (aI ((ci : Nat) : Int)), some (aI ((xn : Nat) : Int)), some (aA a), none]) (st' := []) rfl rfl rfl ?_
            refine E_s (p' := 51) (st' := aA 1 :: _) rfl rfl ?_
            refine E_gA (b := 15) rfl rfl rfl rfl rfl rfl ?_
            refine E_s (p' := 56) (st' := aA a :: _) rfl rfl ?_
            refine E_gA (b := a + 15) rfl rfl rfl (kR_0 hR) (hR_0_4 hR) rfl ?_
            refine E_s (p' := 61) (st' := aA a :: _) rfl rfl ?_
            refine E_gA (b := a + 1) rfl rfl rfl (kR_0 hR) (hR_0_0 hR) rfl ?_
            refine E_gA (b := a + 5) rfl rfl rfl (kR_1 hR) (hR_1_3 hR) rfl ?_
            refine E_s (p' := 68) (st' := aI ((ci : Nat) : Int) :: _) rfl rfl ?_
            refine E_ald (e := ci) (N := 60) (v := ((Cl (S i) ci : Nat) : Int)) rfl (kR_5 hR) (rfl) (by omega) (CR_5 hC (by omega)) ?_
            refine E_s (p' := 70) (st' := aI ((xn : Nat) : Int) :: _) rfl rfl ?_
            refine E_callV (k' := 51) (a := 15) (r := []) (L0 := [some (aA 15), some (aA (a + 15)), some (aI ((Cl (S i) ci : Nat) : Int)), some (aI ((xn : Nat) : Int)), none, none, none, none]) rfl rfl rfl rfl rfl rfl rfl rfl rfl rfl ?_
            refine c_plan (c := ci) (X := xn) hR hV hc_ci (by omega) hd (by omega) (fun m2 y hpl hX hP2 hF2 => ?_) (fun m2 hpl hF2 => ?_)
            · refine E_go (p' := 73) (L' := [some (aA 1), some (aI (r)), some (aI ((ci : Nat) : Int)), some (aI ((xn : Nat) : Int)), some (aA a), none]) (st' := [aI 1]) rfl rfl rfl ?_
              have hC2 : CR (S i) a m2 := hC.of (fun b j g1 g2 _ => hF2 b j (by omega) (by omega))
              have hd2 : RdC (S i) a m2 := hd.of (fun b j g1 g2 => hF2 b j (by omega) (by omega))
              refine E_s (p' := 76) rfl rfl ?_
              refine E_s (p' := 77) (st' := aI 1 :: _) rfl rfl ?_
              refine E_s (p' := 81) rfl rfl ?_
              refine E_s (p' := 83) (L' := [some (aA 1), some (aI (r)), some (aI ((ci : Nat) : Int)), some (aI ((xn : Nat) : Int)), some (aA a), some (aI 1)]) rfl rfl ?_
              refine E_s (p' := 85) (st' := aI 1 :: _) rfl rfl ?_
              refine E_s (p' := 88) rfl rfl ?_
              refine E_s (p' := 89) (st' := aA 1 :: _) rfl rfl ?_
              refine E_gA (b := 15) rfl rfl rfl rfl rfl rfl ?_
              refine E_s (p' := 94) (st' := aA a :: _) rfl rfl ?_
              refine E_s (p' := 95) (st' := aI ((ci : Nat) : Int) :: _) rfl rfl ?_
              refine E_s (p' := 96) (st' := aI ((xn : Nat) : Int) :: _) rfl rfl ?_
              refine E_callV (k' := 54) (a := 15) (r := []) (L0 := [some (aA 15), some (aA a), some (aI ((ci : Nat) : Int)), some (aI ((xn : Nat) : Int)), none, none, none]) rfl rfl rfl rfl rfl rfl rfl rfl rfl rfl ?_
              refine c_kap (c := ci) (X := xn) hR hC2 hV hd2 hc_ci hX hP2 (fun m3 htd hS3 hF3 => ?_) (fun m3 htd hS3 hF3 => ?_)
              · refine E_go (p' := 99) (L' := [some (aA 1), some (aI (r)), some (aI ((ci : Nat) : Int)), some (aI ((xn : Nat) : Int)), some (aA a), some (aI 1)]) (st' := [aI 1]) rfl rfl rfl ?_
                refine E_s (p' := 102) rfl rfl ?_
                refine E_s (p' := 103) (st' := aI ((xn : Nat) : Int) :: _) rfl rfl ?_
                refine E_s (p' := 107) rfl rfl ?_
                refine E_ret rfl rfl ?_
                exact finT hS1 hMo hi hr ha q (by unfold oTie; simp only [Int.toNat_natCast]; rw [cif_pos (by unfold inC; omega), cif_pos (by omega)]; unfold tieN; rw [hpl]; exact cif_pos htd) hS3 (fun b j hb => (hF3 b j hb).trans (hF2 b j (by omega) (by omega)))
              · refine E_go (p' := 99) (L' := [some (aA 1), some (aI (r)), some (aI ((ci : Nat) : Int)), some (aI ((xn : Nat) : Int)), some (aA a), some (aI 1)]) (st' := [aI 0]) rfl rfl rfl ?_
                refine E_s (p' := 106) rfl rfl ?_
                refine E_s (p' := 107) (st' := aI (-1) :: _) rfl rfl ?_
                refine E_ret rfl rfl ?_
                exact finT hS1 hMo hi hr ha q (by unfold oTie; simp only [Int.toNat_natCast]; rw [cif_pos (by unfold inC; omega), cif_pos (by omega)]; unfold tieN; rw [hpl]; exact cif_neg htd) hS3 (fun b j hb => (hF3 b j hb).trans (hF2 b j (by omega) (by omega)))
            · refine E_go (p' := 73) (L' := [some (aA 1), some (aI (r)), some (aI ((ci : Nat) : Int)), some (aI ((xn : Nat) : Int)), some (aA a), none]) (st' := [aI 0]) rfl rfl rfl ?_
              refine E_s (p' := 80) rfl rfl ?_
              refine E_s (p' := 81) (st' := aI 0 :: _) rfl rfl ?_
              refine E_s (p' := 83) (L' := [some (aA 1), some (aI (r)), some (aI ((ci : Nat) : Int)), some (aI ((xn : Nat) : Int)), some (aA a), some (aI 0)]) rfl rfl ?_
              refine E_s (p' := 85) (st' := aI 0 :: _) rfl rfl ?_
              refine E_s (p' := 106) rfl rfl ?_
              refine E_s (p' := 107) (st' := aI (-1) :: _) rfl rfl ?_
              refine E_ret rfl rfl ?_
              exact finT hS1 hMo hi hr ha q (by unfold oTie; simp only [Int.toNat_natCast]; rw [cif_pos (by unfold inC; omega), cif_pos (by omega)]; unfold tieN; rw [hpl]) (hCS.of (fun b j g1 g2 => hF2 b j (by omega) (by omega))) (fun b j hb => hF2 b j (by omega) (by omega))
        · refine E_go (p' := 34) (L' := [some (aA 1), some (aI (r)), some (aI ((ci : Nat) : Int)), some (aI (x)), some (aA a), none]) (st' := []) rfl rfl rfl ?_
          refine E_s (p' := 36) (st' := aI (-2) :: _) rfl rfl ?_
          refine E_ret rfl rfl ?_
          exact finT hS1 hMo hi hr ha q (by unfold oTie; rw [cif_neg (by unfold inC; omega)]) hCS FkA.rf
    · refine E_go (p' := 21) (L' := [some (aA 1), some (aI (r)), some (aI (c)), some (aI (x)), some (aA a), none]) (st' := [aI 0]) rfl rfl rfl ?_
      refine E_s (p' := 34) rfl rfl ?_
      refine E_s (p' := 36) (st' := aI (-2) :: _) rfl rfl ?_
      refine E_ret rfl rfl ?_
      exact finT hS1 hMo hi hr ha q (by unfold oTie; rw [cif_neg (by unfold inC; omega)]) hCS FkA.rf
  · refine E_go (p' := 5) (L' := [some (aA 1), some (aI (r)), some (aI (c)), some (aI (x)), none, none]) (st' := [aN]) rfl rfl rfl ?_
    refine E_s (p' := 7) (L' := [some (aA 1), some (aI (r)), some (aI (c)), some (aI (x)), some (aN), none]) rfl rfl ?_
    refine E_s (p' := 9) (st' := aN :: _) rfl rfl ?_
    refine E_s (p' := 34) rfl rfl ?_
    refine E_s (p' := 36) (st' := aI (-2) :: _) rfl rfl ?_
    refine E_ret rfl rfl ?_
    exact fin_out hS q hr
end

theorem Rct_pos (R : RD) (l : Nat) : 0 < Rct R l := by
  unfold Rct
  refine Nat.mul_pos (Nat.pow_pos (by decide)) ?_
  cases Run R <;> decide
theorem Rct_Ru (R : RD) (l : Nat) : Rct R l = 10 ^ (RL R - 1 - l) * Ru R := rfl
theorem Rct_step {R : RD} {l : Nat} (h : l + 1 < RL R) : Rct R l = Rct R (l + 1) * 10 := by
  rw [Rct_Ru, Rct_Ru, show RL R - 1 - l = (RL R - 1 - (l + 1)) + 1 by omega, Nat.pow_succ, Nat.mul_right_comm]
theorem Rct_one {R : RD} {l : Nat} (h : l < RL R) : (Run R && decide (l + 1 = RL R)) = decide (Rct R l = 1) := by
  rw [Rct_Ru]
  rcases Ru_10 R with ⟨h1, h2⟩ | ⟨h1, h2⟩
  · rw [h1, h2, Nat.mul_one]
    by_cases g : l + 1 = RL R
    · rw [decide_eq_true g, show RL R - 1 - l = 0 by omega]; rfl
    · rw [decide_eq_false g, decide_eq_false]
      · rfl
      · obtain ⟨n, hn⟩ : ∃ n, RL R - 1 - l = n + 1 := ⟨RL R - 1 - l - 1, by omega⟩
        rw [hn, Nat.pow_succ]
        omega
  · rw [h1, h2, decide_eq_false (p := 10 ^ (RL R - 1 - l) * 10 = 1) (by omega)]
    rfl
theorem top9 {R : RD} {X : Nat} (h : 0 < RL R) : X / Rct R 0 / 10 = X / Ru R / 10 ^ RL R := by
  rw [Nat.div_div_eq_div_mul, Nat.div_div_eq_div_mul, Rct_Ru]
  congr 1
  obtain ⟨n, hn⟩ : ∃ n, RL R = n + 1 := ⟨RL R - 1, by omega⟩
  rw [hn, Nat.add_sub_cancel, Nat.sub_zero, Nat.pow_succ, Nat.mul_right_comm, Nat.mul_comm]
/-- what is left of the number ahead of a LEVEL -/
def rstP (R : RD) (X l t : Nat) : Prop := (l = 0 ∧ t = X) ∨ (0 < l ∧ t = X % Rct R (l - 1) ∧ X / Rct R 0 ≤ 9)
theorem rst_d {R : RD} {X l t : Nat} (hl : l < RL R) (h : rstP R X l t) (hg : t / Rct R l ≤ 9) : t / Rct R l = X / Rct R l % 10 ∧ rstP R X (l + 1) (t % Rct R l) := by
  rcases h with ⟨h1, h2⟩ | ⟨h1, h2, h3⟩
  · subst h1 h2
    exact ⟨(Nat.mod_eq_of_lt (by omega)).symm, Or.inr ⟨by omega, rfl, hg⟩⟩
  · obtain ⟨k, hk⟩ : ∃ k, l = k + 1 := ⟨l - 1, by omega⟩
    subst hk
    rw [Nat.add_sub_cancel, Rct_step hl] at h2
    subst h2
    refine ⟨Nat.mod_mul_right_div_self .., Or.inr ⟨by omega, ?_, h3⟩⟩
    rw [Nat.add_sub_cancel]
    exact Nat.mod_mul_right_mod ..
theorem rst_9 {R : RD} {X l t : Nat} (hl : l < RL R) (h : rstP R X l t) (hg : ¬ t / Rct R l ≤ 9) : ¬ (X / Ru R / 10 ^ RL R = 0) := by
  rcases h with ⟨h1, h2⟩ | ⟨h1, h2, h3⟩
  · subst h1 h2
    rw [← top9 (by omega)]
    omega
  · obtain ⟨k, hk⟩ : ∃ k, l = k + 1 := ⟨l - 1, by omega⟩
    subst hk
    rw [Nat.add_sub_cancel, Rct_step hl] at h2
    subst h2
    rw [Nat.mod_mul_right_div_self] at hg
    have := Nat.mod_lt (X / Rct R (k + 1)) (show 0 < 10 by decide)
    omega
theorem rst_le {R : RD} {X l t : Nat} (h : rstP R X l t) : t ≤ X := by
  rcases h with ⟨h1, h2⟩ | ⟨h1, h2, h3⟩
  · omega
  · rw [h2]; exact Nat.mod_le _ _
theorem rst_e {R : RD} {X t : Nat} (h0 : 0 < RL R) (h : rstP R X (RL R) t) : t = X % Ru R ∧ X / Ru R / 10 ^ RL R = 0 := by
  rcases h with ⟨h1, h2⟩ | ⟨h1, h2, h3⟩
  · omega
  · rw [Rct_Ru, show RL R - 1 - (RL R - 1) = 0 by omega, Nat.pow_zero, Nat.one_mul] at h2
    rw [← top9 h0]
    exact ⟨h2, Nat.div_eq_of_lt (by omega)⟩
theorem upK_none {R : RD} {x n : Nat} {o : Option KR} {i : Nat} (h : fdK n o (upK R x i) = none) : ∀ j, i ≤ j → fdK n o (upK R x j) = none := by
  intro j
  induction j with
  | zero => intro hk; have e9 : i = 0 := by omega
            subst e9; exact h
  | succ j ih =>
    intro hk
    by_cases e9 : i = j + 1
    · subst e9; exact h
    · show fdK n o (upK R x j ++ _) = none
      rw [fdK_app, ih (by omega)]; exact fdK_none _
/-- the model's CORD bears this row -/
def MK9 (R : RD) (c i : Nat) (m0 : Mm) (y : KR) (m : Mm) : Prop := okK R c y ∧ MR (Rkn R c y.1 y.2) i m ∧ Mx i m0 m ∧ Fx 132 135 m0 m
theorem MK9.tr {R : RD} {c i : Nat} {m0 m m1 : Mm} {x y : KR} (h : MK9 R c i m0 x m) (h' : MK9 R c i m y m1) : MK9 R c i m0 y m1 := ⟨h'.1, h'.2.1, h.2.2.1.tr h'.2.2.1, h.2.2.2.tr h'.2.2.2⟩
theorem MK9.rf {R : RD} {c i : Nat} {m0 m : Mm} {x : KR} (h : MK9 R c i m0 x m) : MK9 R c i m x m := ⟨h.1, h.2.1, Mx.rf, Fx.rf⟩
section
variable {len : Nat} {m m0 : Mm} {Q : Option AV → Sx → Prop} {R : RD} {i c X f e l C t : Nat} {x : KR}
theorem yl_mg (hi : i < 4) (hV : VR R) (hc : c < Cn R) (ht0 : Ct R c = 0) (hf : f ≤ 600) (he : e ≤ 8) (q0 : ∀ (m1 : Mm) (y : KR), fdK (Cl R c) (some x) (smK f e (e + 1)) = none → MK9 R c i m0 y m1 → Q (some (aI 0)) (m1, tl len)) (hk : ∀ (m1 : Mm) (y : KR) (x11 : Option AV), fdK (Cl R c) (some x) (smK f e (e + 1)) = some y → MK9 R c i m0 y m1 → E 160 220 [some (aA 124), some (aI ((60 * i + c : Nat) : Int)), some (aI ((X : Nat) : Int)), some (aI ((t : Nat) : Int)), some (aI ((l : Nat) : Int)), some (aI ((C : Nat) : Int)), some (aI ((e + 1 : Nat) : Int)), some (aI 0), some (aI ((f : Int) - (3 * e / 2 : Int))), some (aI ((e + 1 : Nat) : Int)), some (aI ((e + 1 : Nat) : Int)), x11] [] (m1, tl len) Q) : ∀ (d : Nat) (j : Nat) (m : Mm) (y : KR) (x11 : Option AV), (e + 1 < j + d) → (j ≤ e + 1) → (fdK (Cl R c) (some x) (smK f e j) = some y) → (MK9 R c i m0 y m) → E 160 115 [some (aA 124), some (aI ((60 * i + c : Nat) : Int)), some (aI ((X : Nat) : Int)), some (aI ((t : Nat) : Int)), some (aI ((l : Nat) : Int)), some (aI ((C : Nat) : Int)), some (aI ((e + 1 : Nat) : Int)), some (aI 0), some (aI ((f : Int) - (3 * e / 2 : Int))), some (aI ((e + 1 : Nat) : Int)), some (aI ((j : Nat) : Int)), x11] [] (m, tl len) Q := by
  intro d
  induction d with
  | zero => intro j m y x11 hd hj I1 I2; omega
  | succ d ih =>
    intro j m y x11 hd hj I1 I2
    have hy30 := I2.1.n30 hc
    have hn60 := hV.1
    have hl600 := (hV.2.2.1 c hc).2.2.2.1
    refine E_s (p' := 117) (st' := aI ((j : Nat) : Int) :: _) rfl rfl ?_
    refine E_s (p' := 119) (st' := aI ((e + 1 : Nat) : Int) :: _) rfl rfl ?_
    refine E_icmp_ge (x := ((j : Nat) : Int)) (y := ((e + 1 : Nat) : Int)) rfl (by decide) (fun h_1 => ?_) (fun h_1 => ?_)
    · refine E_go (p' := 220) (L' := [some (aA 124), some (aI ((60 * i + c : Nat) : Int)), some (aI ((X : Nat) : Int)), some (aI ((t : Nat) : Int)), some (aI ((l : Nat) : Int)), some (aI ((C : Nat) : Int)), some (aI ((e + 1 : Nat) : Int)), some (aI 0), some (aI ((f : Int) - (3 * e / 2 : Int))), some (aI ((e + 1 : Nat) : Int)), some (aI ((j : Nat) : Int)), x11]) (st' := []) rfl rfl rfl ?_
      have ej : j = e + 1 := by omega
      subst ej
      exact hk m y x11 I1 I2
    · refine E_go (p' := 122) (L' := [some (aA 124), some (aI ((60 * i + c : Nat) : Int)), some (aI ((X : Nat) : Int)), some (aI ((t : Nat) : Int)), some (aI ((l : Nat) : Int)), some (aI ((C : Nat) : Int)), some (aI ((e + 1 : Nat) : Int)), some (aI 0), some (aI ((f : Int) - (3 * e / 2 : Int))), some (aI ((e + 1 : Nat) : Int)), some (aI ((j : Nat) : Int)), x11]) (st' := []) rfl rfl rfl ?_
      refine E_s (p' := 124) (st' := aI ((f : Int) - (3 * e / 2 : Int)) :: _) rfl rfl ?_
      refine E_s (p' := 125) (st' := aI 3 :: _) rfl rfl ?_
      refine E_s (p' := 127) (st' := aI ((j : Nat) : Int) :: _) rfl rfl ?_
      refine E_mul (v := ((3 * j : Nat) : Int)) rfl (by omega) (by omega) ?_
      refine E_add (v := ((f : Int) - (3 * e / 2 : Int) + 3 * (j : Int))) rfl (by omega) (by omega) ?_
      refine E_s (p' := 131) (L' := [some (aA 124), some (aI ((60 * i + c : Nat) : Int)), some (aI ((X : Nat) : Int)), some (aI ((t : Nat) : Int)), some (aI ((l : Nat) : Int)), some (aI ((C : Nat) : Int)), some (aI ((e + 1 : Nat) : Int)), some (aI 0), some (aI ((f : Int) - (3 * e / 2 : Int))), some (aI ((e + 1 : Nat) : Int)), some (aI ((j : Nat) : Int)), some (aI ((f : Int) - (3 * e / 2 : Int) + 3 * (j : Int)))]) rfl rfl ?_
      refine E_s (p' := 133) (st' := aI ((f : Int) - (3 * e / 2 : Int) + 3 * (j : Int)) :: _) rfl rfl ?_
      refine E_s (p' := 134) (st' := aI 1 :: _) rfl rfl ?_
      refine E_s (p' := 135) (st' := aA 124 :: _) rfl rfl ?_
      refine E_gA (b := 130) rfl rfl rfl rfl rfl rfl ?_
      refine E_s (p' := 139) (st' := aI ((60 * i + c : Nat) : Int) :: _) rfl rfl ?_
      refine E_ald (e := 60 * i + c) (N := 240) (v := ((Cl R c : Nat) : Int)) rfl rfl (rfl) (by omega) (MR_130 (R := Rkn R c y.1 y.2) I2.2.1 hc rfl) ?_
      refine E_callL (p' := 143) (L0 := [some (aI ((f : Int) - (3 * e / 2 : Int) + 3 * (j : Int))), some (aI 1), some (aI ((Cl R c : Nat) : Int))]) rfl rfl rfl ?_
      refine m_in (fun hr1 hr2 => ?_) (fun hr0 => ?_)
      · refine E_go (p' := 143) (L' := [some (aA 124), some (aI ((60 * i + c : Nat) : Int)), some (aI ((X : Nat) : Int)), some (aI ((t : Nat) : Int)), some (aI ((l : Nat) : Int)), some (aI ((C : Nat) : Int)), some (aI ((e + 1 : Nat) : Int)), some (aI 0), some (aI ((f : Int) - (3 * e / 2 : Int))), some (aI ((e + 1 : Nat) : Int)), some (aI ((j : Nat) : Int)), some (aI ((f : Int) - (3 * e / 2 : Int) + 3 * (j : Int)))]) (st' := [aI 1]) rfl rfl rfl ?_
        refine E_s (p' := 146) rfl rfl ?_
        refine E_s (p' := 147) (st' := aA 124 :: _) rfl rfl ?_
        refine E_s (p' := 148) (st' := aI ((60 * i + c : Nat) : Int) :: _) rfl rfl ?_
        refine E_s (p' := 150) (st' := aI ((f : Int) - (3 * e / 2 : Int) + 3 * (j : Int)) :: _) rfl rfl ?_
        refine E_callV (k' := 137) (a := 124) (r := []) (L0 := [some (aA 124), some (aI ((60 * i + c : Nat) : Int)), some (aI ((f : Int) - (3 * e / 2 : Int) + 3 * (j : Int))), none]) rfl rfl rfl rfl rfl rfl rfl rfl rfl rfl ?_
        refine m_find hi I2.2.1 I2.1 hc (fun k1 hk1 hk2 => ?_) (fun hnf => ?_)
        · refine E_go (p' := 153) (L' := [some (aA 124), some (aI ((60 * i + c : Nat) : Int)), some (aI ((X : Nat) : Int)), some (aI ((t : Nat) : Int)), some (aI ((l : Nat) : Int)), some (aI ((C : Nat) : Int)), some (aI ((e + 1 : Nat) : Int)), some (aI 0), some (aI ((f : Int) - (3 * e / 2 : Int))), some (aI ((e + 1 : Nat) : Int)), some (aI ((j : Nat) : Int)), some (aI ((f : Int) - (3 * e / 2 : Int) + 3 * (j : Int)))]) (st' := [aI ((k1 : Nat) : Int)]) rfl rfl rfl ?_
          rw [Ckn] at hk1
          rw [Cpn] at hk2
          refine E_s (p' := 154) (st' := aI (-1) :: _) rfl rfl ?_
          refine E_icmp_ne (x := ((k1 : Nat) : Int)) (y := (-1)) rfl (by decide) (fun h_2 => ?_) (fun q => absurd q (by omega))
          refine E_go (p' := 168) (L' := [some (aA 124), some (aI ((60 * i + c : Nat) : Int)), some (aI ((X : Nat) : Int)), some (aI ((t : Nat) : Int)), some (aI ((l : Nat) : Int)), some (aI ((C : Nat) : Int)), some (aI ((e + 1 : Nat) : Int)), some (aI 0), some (aI ((f : Int) - (3 * e / 2 : Int))), some (aI ((e + 1 : Nat) : Int)), some (aI ((j : Nat) : Int)), some (aI ((f : Int) - (3 * e / 2 : Int) + 3 * (j : Int)))]) (st' := []) rfl rfl rfl ?_
          refine E_s (p' := 169) (st' := aI 0 :: _) rfl rfl ?_
          refine E_ret rfl rfl ?_
          have nf : ¬ fitK (Cl R c) y.1 y.2 ((f : Int) - (3 * e / 2 : Int) + 3 * (j : Int)) := fun g => by first | exact absurd g.1 (by omega) | exact absurd g.2.1 (by omega) | exact absurd g.2.2.1 (by omega) | (have g8 := g.2.1; have g7 := g.2.2.1; omega) | exact g.2.2.2 _ hk1 hk2
          have e9 : fdK (Cl R c) (some x) (smK f e (j + 1)) = none := by
            show fdK (Cl R c) (some x) (smK f e j ++ [itS f e j]) = _
            rw [fdK_app, I1, fdK_one]
            unfold stK itS
            exact cif_neg nf
          exact q0 m y (smK_none e9 (e + 1) (by omega)) I2
        · refine E_go (p' := 153) (L' := [some (aA 124), some (aI ((60 * i + c : Nat) : Int)), some (aI ((X : Nat) : Int)), some (aI ((t : Nat) : Int)), some (aI ((l : Nat) : Int)), some (aI ((C : Nat) : Int)), some (aI ((e + 1 : Nat) : Int)), some (aI 0), some (aI ((f : Int) - (3 * e / 2 : Int))), some (aI ((e + 1 : Nat) : Int)), some (aI ((j : Nat) : Int)), some (aI ((f : Int) - (3 * e / 2 : Int) + 3 * (j : Int)))]) (st' := [aI (-1)]) rfl rfl rfl ?_
          rw [Ckn, Cpn] at hnf
          refine E_s (p' := 154) (st' := aI (-1) :: _) rfl rfl ?_
          refine E_s (p' := 157) rfl rfl ?_
          refine E_s (p' := 158) (st' := aA 124 :: _) rfl rfl ?_
          refine E_gA (b := 132) rfl rfl rfl rfl rfl rfl ?_
          refine E_s (p' := 162) (st' := aI ((60 * i + c : Nat) : Int) :: _) rfl rfl ?_
          refine E_ald (e := 60 * i + c) (N := 240) (v := ((y.1 : Nat) : Int)) rfl rfl (rfl) (by omega) ((MR_132 (R := Rkn R c y.1 y.2) I2.2.1 hc rfl).trans (by rw [Ckn])) ?_
          refine E_s (p' := 165) (st' := aI 30 :: _) rfl rfl ?_
          refine E_icmp_ne (x := ((y.1 : Nat) : Int)) (y := 30) rfl (by decide) (fun h_3 => ?_) (fun h_3 => ?_)
          · refine E_go (p' := 170) (L' := [some (aA 124), some (aI ((60 * i + c : Nat) : Int)), some (aI ((X : Nat) : Int)), some (aI ((t : Nat) : Int)), some (aI ((l : Nat) : Int)), some (aI ((C : Nat) : Int)), some (aI ((e + 1 : Nat) : Int)), some (aI 0), some (aI ((f : Int) - (3 * e / 2 : Int))), some (aI ((e + 1 : Nat) : Int)), some (aI ((j : Nat) : Int)), some (aI ((f : Int) - (3 * e / 2 : Int) + 3 * (j : Int)))]) (st' := []) rfl rfl rfl ?_
            obtain ⟨hn, eh⟩ : ∃ z : Nat, ((f : Int) - (3 * e / 2 : Int) + 3 * (j : Int)) = (z : Int) := ⟨(((f : Int) - (3 * e / 2 : Int) + 3 * (j : Int))).toNat, by omega⟩
            rw [eh]
            rw [eh] at hnf hr1 hr2
            refine E_s (p' := 171) (st' := aA 124 :: _) rfl rfl ?_
            refine E_s (p' := 172) (st' := aI ((60 * i + c : Nat) : Int) :: _) rfl rfl ?_
            refine E_s (p' := 174) (st' := aI ((hn : Nat) : Int) :: _) rfl rfl ?_
            refine E_s (p' := 176) (st' := aI 0 :: _) rfl rfl ?_
            refine E_s (p' := 193) rfl rfl ?_
            refine E_s (p' := 194) (st' := aI 0 :: _) rfl rfl ?_
            refine E_s (p' := 196) (st' := aI 0 :: _) rfl rfl ?_
            refine E_s (p' := 210) rfl rfl ?_
            refine E_s (p' := 211) (st' := aI 0 :: _) rfl rfl ?_
            refine E_callV (k' := 138) (a := 124) (r := []) (L0 := [some (aA 124), some (aI ((60 * i + c : Nat) : Int)), some (aI ((hn : Nat) : Int)), some (aI 0), some (aI 0), none]) rfl rfl rfl rfl rfl rfl rfl rfl rfl rfl ?_
            refine m_put hi I2.2.1 I2.1 hc (hn := hn) (sn := 0) (tn := 0) (by rw [Ckn]; omega) (by omega) (by omega) (by rw [Ckn, Cpn]; exact fun k hk g => hnf k hk (by omega)) (fun m1 hM1 hx1 hF1 => ?_)
            refine E_go (p' := 214) (L' := [some (aA 124), some (aI ((60 * i + c : Nat) : Int)), some (aI ((X : Nat) : Int)), some (aI ((t : Nat) : Int)), some (aI ((l : Nat) : Int)), some (aI ((C : Nat) : Int)), some (aI ((e + 1 : Nat) : Int)), some (aI 0), some (aI ((f : Int) - (3 * e / 2 : Int))), some (aI ((e + 1 : Nat) : Int)), some (aI ((j : Nat) : Int)), some (aI ((hn : Nat) : Int))]) (st' := []) rfl rfl rfl ?_
            rw [Rkn_kn, Ckn, Cpn] at hM1
            refine E_inc (x := ((j : Nat) : Int)) (w := ((j + 1 : Nat) : Int)) (L' := [some (aA 124), some (aI ((60 * i + c : Nat) : Int)), some (aI ((X : Nat) : Int)), some (aI ((t : Nat) : Int)), some (aI ((l : Nat) : Int)), some (aI ((C : Nat) : Int)), some (aI ((e + 1 : Nat) : Int)), some (aI 0), some (aI ((f : Int) - (3 * e / 2 : Int))), some (aI ((e + 1 : Nat) : Int)), some (aI ((j + 1 : Nat) : Int)), some (aI ((hn : Nat) : Int))]) rfl rfl rfl (by omega) (by omega) rfl ?_
            refine E_s (p' := 115) rfl rfl ?_
            have eit : itS f e j = ((hn : Int), (0, 0)) := by unfold itS; rw [eh]
            have ef : fitK (Cl R c) y.1 y.2 (itS f e j).1 := by rw [eit]; exact ⟨by have := I2.1.n30 hc; omega, hr1, hr2, hnf⟩
            have e9 : fdK (Cl R c) (some x) (smK f e (j + 1)) = some (y.1 + 1, inK y.1 y.2 (itS f e j)) := by
              show fdK (Cl R c) (some x) (smK f e j ++ [itS f e j]) = _
              rw [fdK_app, I1, fdK_one]
              unfold stK
              exact cif_pos ef
            refine ih (j + 1) m1 _ _ (by omega) (by omega) e9 (I2.tr ⟨I2.1.fit hc ht0 (q := itS f e j) ef itS_it kok0, ?_, hx1, hF1⟩)
            rw [eit]
            unfold inK
            exact hM1
          · refine E_go (p' := 168) (L' := [some (aA 124), some (aI ((60 * i + c : Nat) : Int)), some (aI ((X : Nat) : Int)), some (aI ((t : Nat) : Int)), some (aI ((l : Nat) : Int)), some (aI ((C : Nat) : Int)), some (aI ((e + 1 : Nat) : Int)), some (aI 0), some (aI ((f : Int) - (3 * e / 2 : Int))), some (aI ((e + 1 : Nat) : Int)), some (aI ((j : Nat) : Int)), some (aI ((f : Int) - (3 * e / 2 : Int) + 3 * (j : Int)))]) (st' := []) rfl rfl rfl ?_
            refine E_s (p' := 169) (st' := aI 0 :: _) rfl rfl ?_
            refine E_ret rfl rfl ?_
            have nf : ¬ fitK (Cl R c) y.1 y.2 ((f : Int) - (3 * e / 2 : Int) + 3 * (j : Int)) := fun g => by first | exact absurd g.1 (by omega) | exact absurd g.2.1 (by omega) | exact absurd g.2.2.1 (by omega) | (have g8 := g.2.1; have g7 := g.2.2.1; omega) | exact g.2.2.2 _ hk1 hk2
            have e9 : fdK (Cl R c) (some x) (smK f e (j + 1)) = none := by
              show fdK (Cl R c) (some x) (smK f e j ++ [itS f e j]) = _
              rw [fdK_app, I1, fdK_one]
              unfold stK itS
              exact cif_neg nf
            exact q0 m y (smK_none e9 (e + 1) (by omega)) I2
      · refine E_go (p' := 143) (L' := [some (aA 124), some (aI ((60 * i + c : Nat) : Int)), some (aI ((X : Nat) : Int)), some (aI ((t : Nat) : Int)), some (aI ((l : Nat) : Int)), some (aI ((C : Nat) : Int)), some (aI ((e + 1 : Nat) : Int)), some (aI 0), some (aI ((f : Int) - (3 * e / 2 : Int))), some (aI ((e + 1 : Nat) : Int)), some (aI ((j : Nat) : Int)), some (aI ((f : Int) - (3 * e / 2 : Int) + 3 * (j : Int)))]) (st' := [aI 0]) rfl rfl rfl ?_
        refine E_s (p' := 168) rfl rfl ?_
        refine E_s (p' := 169) (st' := aI 0 :: _) rfl rfl ?_
        refine E_ret rfl rfl ?_
        have nf : ¬ fitK (Cl R c) y.1 y.2 ((f : Int) - (3 * e / 2 : Int) + 3 * (j : Int)) := fun g => by first | exact absurd g.1 (by omega) | exact absurd g.2.1 (by omega) | exact absurd g.2.2.1 (by omega) | (have g8 := g.2.1; have g7 := g.2.2.1; omega) | exact g.2.2.2 _ hk1 hk2
        have e9 : fdK (Cl R c) (some x) (smK f e (j + 1)) = none := by
          show fdK (Cl R c) (some x) (smK f e j ++ [itS f e j]) = _
          rw [fdK_app, I1, fdK_one]
          unfold stK itS
          exact cif_neg nf
        exact q0 m y (smK_none e9 (e + 1) (by omega)) I2
end

section
variable {len : Nat} {m m0 : Mm} {Q : Option AV → Sx → Prop} {R : RD} {i c X : Nat}
theorem yl_tl (hi : i < 4) (hV : VR R) (hc : c < Cn R) (ht0 : Ct R c = 0) (hd0 : RdM R m0) (h0 : 0 < RL R) (hx : X ≤ 999999) (q1 : ∀ (m1 : Mm) (y : KR), plN R c X = some y → MK9 R c i m0 y m1 → Q (some (aI 1)) (m1, tl len)) (q0 : ∀ (m1 : Mm) (y : KR), plN R c X = none → MK9 R c i m0 y m1 → Q (some (aI 0)) (m1, tl len))  : ∀ (d : Nat) (l t : Nat) (m : Mm) (y : KR) (x5 x6 x7 x8 x9 x10 x11 : Option AV), (RL R < l + d) → (l ≤ RL R) → (rstP R X l t) → (fdK (Cl R c) (some K0) (upK R X l) = some y) → (MK9 R c i m0 y m) → E 160 5 [some (aA 124), some (aI ((60 * i + c : Nat) : Int)), some (aI ((X : Nat) : Int)), some (aI ((t : Nat) : Int)), some (aI ((l : Nat) : Int)), x5, x6, x7, x8, x9, x10, x11] [] (m, tl len) Q := by
  intro d
  induction d with
  | zero => intro l t m y x5 x6 x7 x8 x9 x10 x11 hd hl hrs I1 I2; omega
  | succ d ih =>
    intro l t m y x5 x6 x7 x8 x9 x10 x11 hd hl hrs I1 I2
    have hy30 := I2.1.n30 hc
    have hn60 := hV.1
    have hl600 := (hV.2.2.1 c hc).2.2.2.1
    have hrl := RL_mx R
    have hm6 : mxv (Run R) ≤ 6 := by cases Run R <;> decide
    have htl := rst_le hrs
    have hdm : RdM R m := hd0.of (fun b j hb => I2.2.2.2 b j (by omega))
    refine E_s (p' := 7) (st' := aI ((l : Nat) : Int) :: _) rfl rfl ?_
    refine E_s (p' := 8) (st' := aA 124 :: _) rfl rfl ?_
    refine E_gI (v := ((RL R : Nat) : Int)) rfl rfl rfl rfl hdm.1 ?_
    refine E_icmp_ge (x := ((l : Nat) : Int)) (y := ((RL R : Nat) : Int)) rfl (by decide) (fun h_1 => ?_) (fun h_1 => ?_)
    · refine E_go (p' := 226) (L' := [some (aA 124), some (aI ((60 * i + c : Nat) : Int)), some (aI ((X : Nat) : Int)), some (aI ((t : Nat) : Int)), some (aI ((l : Nat) : Int)), x5, x6, x7, x8, x9, x10, x11]) (st' := []) rfl rfl rfl ?_
      refine E_s (p' := 227) (st' := aI ((t : Nat) : Int) :: _) rfl rfl ?_
      refine E_if_ne (x := ((t : Nat) : Int)) rfl (by decide) (fun h_2 => ?_) (fun h_2 => ?_)
      · refine E_go (p' := 234) (L' := [some (aA 124), some (aI ((60 * i + c : Nat) : Int)), some (aI ((X : Nat) : Int)), some (aI ((t : Nat) : Int)), some (aI ((l : Nat) : Int)), x5, x6, x7, x8, x9, x10, x11]) (st' := []) rfl rfl rfl ?_
        refine E_s (p' := 235) (st' := aI 0 :: _) rfl rfl ?_
        refine E_ret rfl rfl ?_
        have el : l = RL R := by omega
        subst el
        have hre := rst_e h0 hrs
        exact q0 m y (by unfold plN; exact cif_neg (fun g9 => by have := g9.2.1; omega)) I2
      · refine E_go (p' := 230) (L' := [some (aA 124), some (aI ((60 * i + c : Nat) : Int)), some (aI ((X : Nat) : Int)), some (aI ((t : Nat) : Int)), some (aI ((l : Nat) : Int)), x5, x6, x7, x8, x9, x10, x11]) (st' := []) rfl rfl rfl ?_
        refine E_s (p' := 231) (st' := aI 1 :: _) rfl rfl ?_
        refine E_s (p' := 235) rfl rfl ?_
        refine E_ret rfl rfl ?_
        have el : l = RL R := by omega
        subst el
        have hre := rst_e h0 hrs
        exact q1 m y (by unfold plN; rw [cif_pos ⟨h0, by omega, hre.2⟩]; exact I1) I2
    · refine E_go (p' := 14) (L' := [some (aA 124), some (aI ((60 * i + c : Nat) : Int)), some (aI ((X : Nat) : Int)), some (aI ((t : Nat) : Int)), some (aI ((l : Nat) : Int)), x5, x6, x7, x8, x9, x10, x11]) (st' := []) rfl rfl rfl ?_
      have hrf := RF_le (R := R) (l := l) (by omega)
      refine E_s (p' := 15) (st' := aA 124 :: _) rfl rfl ?_
      refine E_s (p' := 17) (st' := aI ((l : Nat) : Int) :: _) rfl rfl ?_
      refine E_callV (k' := 151) (a := 124) (r := []) (L0 := [some (aA 124), some (aI ((l : Nat) : Int)), none, none]) rfl rfl rfl rfl rfl rfl rfl rfl rfl rfl ?_
      refine m_counts hdm (l := l) (by omega) ?_
      refine E_go (p' := 20) (L' := [some (aA 124), some (aI ((60 * i + c : Nat) : Int)), some (aI ((X : Nat) : Int)), some (aI ((t : Nat) : Int)), some (aI ((l : Nat) : Int)), x5, x6, x7, x8, x9, x10, x11]) (st' := [aI ((Rct R l : Nat) : Int)]) rfl rfl rfl ?_
      refine E_s (p' := 22) (L' := [some (aA 124), some (aI ((60 * i + c : Nat) : Int)), some (aI ((X : Nat) : Int)), some (aI ((t : Nat) : Int)), some (aI ((l : Nat) : Int)), some (aI ((Rct R l : Nat) : Int)), x6, x7, x8, x9, x10, x11]) rfl rfl ?_
      obtain ⟨C, hC⟩ : ∃ C, C = Rct R l := ⟨_, rfl⟩
      rw [← hC]
      have hCp := Rct_pos R l
      have hC5 := Rct_le5 (R := R) (by omega) l
      rw [← hC] at hCp hC5
      have hdv := Nat.div_le_self t C
      have hdz := Int.natCast_nonneg (t / C)
      refine E_s (p' := 23) (st' := aI ((t : Nat) : Int) :: _) rfl rfl ?_
      refine E_s (p' := 25) (st' := aI ((C : Nat) : Int) :: _) rfl rfl ?_
      refine E_div (v := (((t) / C : Nat) : Int)) rfl (by omega) (by omega) (by omega) (by omega) ?_
      refine E_s (p' := 28) (L' := [some (aA 124), some (aI ((60 * i + c : Nat) : Int)), some (aI ((X : Nat) : Int)), some (aI ((t : Nat) : Int)), some (aI ((l : Nat) : Int)), some (aI ((C : Nat) : Int)), some (aI (((t) / C : Nat) : Int)), x7, x8, x9, x10, x11]) rfl rfl ?_
      obtain ⟨g, hg⟩ : ∃ g, g = t / C := ⟨_, rfl⟩
      rw [← hg]
      refine E_s (p' := 30) (st' := aI ((g : Nat) : Int) :: _) rfl rfl ?_
      refine E_s (p' := 32) (st' := aI 9 :: _) rfl rfl ?_
      refine E_icmp_le (x := ((g : Nat) : Int)) (y := 9) rfl (by decide) (fun h_3 => ?_) (fun h_3 => ?_)
      · refine E_go (p' := 37) (L' := [some (aA 124), some (aI ((60 * i + c : Nat) : Int)), some (aI ((X : Nat) : Int)), some (aI ((t : Nat) : Int)), some (aI ((l : Nat) : Int)), some (aI ((C : Nat) : Int)), some (aI ((g : Nat) : Int)), x7, x8, x9, x10, x11]) (st' := []) rfl rfl rfl ?_
        have hgd := rst_d (by omega) hrs (by rw [← hC, ← hg]; omega)
        rw [← hC, ← hg] at hgd
        have hgm := Nat.div_add_mod' t C
        rw [← hg] at hgm
        refine E_s (p' := 38) (st' := aI ((t : Nat) : Int) :: _) rfl rfl ?_
        refine E_s (p' := 40) (st' := aI ((g : Nat) : Int) :: _) rfl rfl ?_
        refine E_s (p' := 42) (st' := aI ((C : Nat) : Int) :: _) rfl rfl ?_
        refine E_mulN (x := g) (y := C) rfl (by omega) ?_
        refine E_sub (v := ((t : Int) - ((g) * (C) : Int))) rfl (by omega) (by omega) ?_
        refine E_valv (show ((t : Int) - ((g) * (C) : Int)) = ((t % C : Nat) : Int) by omega) ?_
        refine E_s (p' := 45) (L' := [some (aA 124), some (aI ((60 * i + c : Nat) : Int)), some (aI ((X : Nat) : Int)), some (aI ((t % C : Nat) : Int)), some (aI ((l : Nat) : Int)), some (aI ((C : Nat) : Int)), some (aI ((g : Nat) : Int)), x7, x8, x9, x10, x11]) rfl rfl ?_
        refine E_s (p' := 47) (st' := aI ((g : Nat) : Int) :: _) rfl rfl ?_
        refine E_if_ne (x := ((g : Nat) : Int)) rfl (by decide) (fun h_4 => ?_) (fun h_4 => ?_)
        · refine E_go (p' := 53) (L' := [some (aA 124), some (aI ((60 * i + c : Nat) : Int)), some (aI ((X : Nat) : Int)), some (aI ((t % C : Nat) : Int)), some (aI ((l : Nat) : Int)), some (aI ((C : Nat) : Int)), some (aI ((g : Nat) : Int)), x7, x8, x9, x10, x11]) (st' := []) rfl rfl rfl ?_
          refine E_s (p' := 55) (st' := aI ((C : Nat) : Int) :: _) rfl rfl ?_
          refine E_s (p' := 56) (st' := aI 1 :: _) rfl rfl ?_
          refine E_icmp_ne (x := ((C : Nat) : Int)) (y := 1) rfl (by decide) (fun h_5 => ?_) (fun h_5 => ?_)
          · refine E_go (p' := 63) (L' := [some (aA 124), some (aI ((60 * i + c : Nat) : Int)), some (aI ((X : Nat) : Int)), some (aI ((t % C : Nat) : Int)), some (aI ((l : Nat) : Int)), some (aI ((C : Nat) : Int)), some (aI ((g : Nat) : Int)), x7, x8, x9, x10, x11]) (st' := []) rfl rfl rfl ?_
            refine E_s (p' := 64) (st' := aI 0 :: _) rfl rfl ?_
            refine E_s (p' := 66) (L' := [some (aA 124), some (aI ((60 * i + c : Nat) : Int)), some (aI ((X : Nat) : Int)), some (aI ((t % C : Nat) : Int)), some (aI ((l : Nat) : Int)), some (aI ((C : Nat) : Int)), some (aI ((g : Nat) : Int)), some (aI 0), x8, x9, x10, x11]) rfl rfl ?_
            refine E_s (p' := 68) (st' := aI 0 :: _) rfl rfl ?_
            refine E_s (p' := 81) rfl rfl ?_
            obtain ⟨e, he⟩ : ∃ e, g = e + 1 := ⟨g - 1, by omega⟩
            subst he
            refine E_s (p' := 82) (st' := aA 124 :: _) rfl rfl ?_
            refine E_gA (b := 145) rfl rfl rfl rfl rfl rfl ?_
            refine E_s (p' := 87) (st' := aI ((l : Nat) : Int) :: _) rfl rfl ?_
            refine E_ald (e := l) (N := 601) (v := ((RF R l : Nat) : Int)) rfl rfl (rfl) (by omega) (hdm.2.2.2 _ (by omega)).1 ?_
            refine E_s (p' := 89) (st' := aI 3 :: _) rfl rfl ?_
            refine E_s (p' := 91) (st' := aI ((e + 1 : Nat) : Int) :: _) rfl rfl ?_
            refine E_s (p' := 92) (st' := aI 1 :: _) rfl rfl ?_
            refine E_sub (v := ((e : Nat) : Int)) rfl (by omega) (by omega) ?_
            refine E_mul (v := ((3 * e : Nat) : Int)) rfl (by omega) (by omega) ?_
            refine E_s (p' := 95) (st' := aI 2 :: _) rfl rfl ?_
            refine E_div (v := (((3 * e) / 2 : Nat) : Int)) rfl (by omega) (by omega) (by omega) (by omega) ?_
            refine E_sub (v := ((RF R l : Int) - ((3 * e) / 2 : Int))) rfl (by omega) (by omega) ?_
            refine E_s (p' := 99) (L' := [some (aA 124), some (aI ((60 * i + c : Nat) : Int)), some (aI ((X : Nat) : Int)), some (aI ((t % C : Nat) : Int)), some (aI ((l : Nat) : Int)), some (aI ((C : Nat) : Int)), some (aI ((e + 1 : Nat) : Int)), some (aI 0), some (aI ((RF R l : Int) - ((3 * e) / 2 : Int))), x9, x10, x11]) rfl rfl ?_
            refine E_s (p' := 101) (st' := aI 0 :: _) rfl rfl ?_
            refine E_s (p' := 108) rfl rfl ?_
            refine E_s (p' := 110) (st' := aI ((e + 1 : Nat) : Int) :: _) rfl rfl ?_
            refine E_s (p' := 112) (L' := [some (aA 124), some (aI ((60 * i + c : Nat) : Int)), some (aI ((X : Nat) : Int)), some (aI ((t % C : Nat) : Int)), some (aI ((l : Nat) : Int)), some (aI ((C : Nat) : Int)), some (aI ((e + 1 : Nat) : Int)), some (aI 0), some (aI ((RF R l : Int) - ((3 * e) / 2 : Int))), some (aI ((e + 1 : Nat) : Int)), x10, x11]) rfl rfl ?_
            refine E_s (p' := 113) (st' := aI 0 :: _) rfl rfl ?_
            refine E_s (p' := 115) (L' := [some (aA 124), some (aI ((60 * i + c : Nat) : Int)), some (aI ((X : Nat) : Int)), some (aI ((t % C : Nat) : Int)), some (aI ((l : Nat) : Int)), some (aI ((C : Nat) : Int)), some (aI ((e + 1 : Nat) : Int)), some (aI 0), some (aI ((RF R l : Int) - ((3 * e) / 2 : Int))), some (aI ((e + 1 : Nat) : Int)), some (aI 0), x11]) rfl rfl ?_
            have elv : lvK R X l = smK (RF R l) e (e + 1) := by unfold lvK; rw [Rct_one (by omega), ← hC, ← hgd.1]; rw [decide_eq_false (by omega)]; unfold dgK; rw [if_neg (by omega), Nat.add_sub_cancel]; rfl
            refine yl_mg (m0 := m) (x := y) hi hV hc ht0 (RF_le (R := R) (l := l) (by omega)) (by omega) (fun m1 y1 g1 g2 => q0 m1 y1 (by
              have e9 : fdK (Cl R c) (some K0) (upK R X (l + 1)) = none := by
                show fdK (Cl R c) (some K0) (upK R X l ++ lvK R X l) = _
                rw [fdK_app, I1, elv]
                exact g1
              unfold plN; rw [upK_none e9 (RL R) (by omega)]; exact cif_same) (I2.tr g2)) (fun m1 y1 x12 g1 g2 => ?_) (e + 2) 0 m y _ (by omega) (by omega) rfl I2.rf
            refine E_inc (x := ((l : Nat) : Int)) (w := ((l + 1 : Nat) : Int)) (L' := [some (aA 124), some (aI ((60 * i + c : Nat) : Int)), some (aI ((X : Nat) : Int)), some (aI ((t % C : Nat) : Int)), some (aI ((l + 1 : Nat) : Int)), some (aI ((C : Nat) : Int)), some (aI ((e + 1 : Nat) : Int)), some (aI 0), some (aI ((RF R l : Int) - ((3 * e) / 2 : Int))), some (aI ((e + 1 : Nat) : Int)), some (aI ((e + 1 : Nat) : Int)), x12]) rfl rfl rfl (by omega) (by omega) rfl ?_
            refine E_s (p' := 5) rfl rfl ?_
            have elv : lvK R X l = smK (RF R l) e (e + 1) := by unfold lvK; rw [Rct_one (by omega), ← hC, ← hgd.1]; rw [decide_eq_false (by omega)]; unfold dgK; rw [if_neg (by omega), Nat.add_sub_cancel]; rfl
            have e9 : fdK (Cl R c) (some K0) (upK R X (l + 1)) = some y1 := by
              show fdK (Cl R c) (some K0) (upK R X l ++ lvK R X l) = _
              rw [fdK_app, I1, elv]
              exact g1
            exact ih (l + 1) (t % C) m1 y1 _ _ _ _ _ _ _ (by omega) (by omega) hgd.2 e9 (I2.tr g2)
          · refine E_go (p' := 59) (L' := [some (aA 124), some (aI ((60 * i + c : Nat) : Int)), some (aI ((X : Nat) : Int)), some (aI ((t % C : Nat) : Int)), some (aI ((l : Nat) : Int)), some (aI ((C : Nat) : Int)), some (aI ((g : Nat) : Int)), x7, x8, x9, x10, x11]) (st' := []) rfl rfl rfl ?_
            refine E_s (p' := 60) (st' := aI 1 :: _) rfl rfl ?_
            refine E_s (p' := 64) rfl rfl ?_
            refine E_s (p' := 66) (L' := [some (aA 124), some (aI ((60 * i + c : Nat) : Int)), some (aI ((X : Nat) : Int)), some (aI ((t % C : Nat) : Int)), some (aI ((l : Nat) : Int)), some (aI ((C : Nat) : Int)), some (aI ((g : Nat) : Int)), some (aI 1), x8, x9, x10, x11]) rfl rfl ?_
            refine E_s (p' := 68) (st' := aI 1 :: _) rfl rfl ?_
            refine E_s (p' := 71) rfl rfl ?_
            refine E_s (p' := 72) (st' := aA 124 :: _) rfl rfl ?_
            refine E_gA (b := 145) rfl rfl rfl rfl rfl rfl ?_
            refine E_s (p' := 77) (st' := aI ((l : Nat) : Int) :: _) rfl rfl ?_
            refine E_ald (e := l) (N := 601) (v := ((RF R l : Nat) : Int)) rfl rfl (rfl) (by omega) (hdm.2.2.2 _ (by omega)).1 ?_
            refine E_s (p' := 97) rfl rfl ?_
            refine E_s (p' := 99) (L' := [some (aA 124), some (aI ((60 * i + c : Nat) : Int)), some (aI ((X : Nat) : Int)), some (aI ((t % C : Nat) : Int)), some (aI ((l : Nat) : Int)), some (aI ((C : Nat) : Int)), some (aI ((g : Nat) : Int)), some (aI 1), some (aI ((RF R l : Nat) : Int)), x9, x10, x11]) rfl rfl ?_
            refine E_s (p' := 101) (st' := aI 1 :: _) rfl rfl ?_
            refine E_s (p' := 104) rfl rfl ?_
            refine E_s (p' := 105) (st' := aI 1 :: _) rfl rfl ?_
            refine E_s (p' := 110) rfl rfl ?_
            refine E_s (p' := 112) (L' := [some (aA 124), some (aI ((60 * i + c : Nat) : Int)), some (aI ((X : Nat) : Int)), some (aI ((t % C : Nat) : Int)), some (aI ((l : Nat) : Int)), some (aI ((C : Nat) : Int)), some (aI ((g : Nat) : Int)), some (aI 1), some (aI ((RF R l : Nat) : Int)), some (aI 1), x10, x11]) rfl rfl ?_
            refine E_s (p' := 113) (st' := aI 0 :: _) rfl rfl ?_
            refine E_s (p' := 115) (L' := [some (aA 124), some (aI ((60 * i + c : Nat) : Int)), some (aI ((X : Nat) : Int)), some (aI ((t % C : Nat) : Int)), some (aI ((l : Nat) : Int)), some (aI ((C : Nat) : Int)), some (aI ((g : Nat) : Int)), some (aI 1), some (aI ((RF R l : Nat) : Int)), some (aI 1), some (aI 0), x11]) rfl rfl ?_
            refine E_s (p' := 117) (st' := aI 0 :: _) rfl rfl ?_
            refine E_s (p' := 119) (st' := aI 1 :: _) rfl rfl ?_
            refine E_s (p' := 122) rfl rfl ?_
            refine E_s (p' := 124) (st' := aI ((RF R l : Nat) : Int) :: _) rfl rfl ?_
            refine E_s (p' := 125) (st' := aI 3 :: _) rfl rfl ?_
            refine E_s (p' := 127) (st' := aI 0 :: _) rfl rfl ?_
            refine E_s (p' := 128) (st' := aI 0 :: _) rfl rfl ?_
            refine E_add (v := ((RF R l : Nat) : Int)) rfl (by omega) (by omega) ?_
            refine E_s (p' := 131) (L' := [some (aA 124), some (aI ((60 * i + c : Nat) : Int)), some (aI ((X : Nat) : Int)), some (aI ((t % C : Nat) : Int)), some (aI ((l : Nat) : Int)), some (aI ((C : Nat) : Int)), some (aI ((g : Nat) : Int)), some (aI 1), some (aI ((RF R l : Nat) : Int)), some (aI 1), some (aI 0), some (aI ((RF R l : Nat) : Int))]) rfl rfl ?_
            refine E_s (p' := 133) (st' := aI ((RF R l : Nat) : Int) :: _) rfl rfl ?_
            refine E_s (p' := 134) (st' := aI 1 :: _) rfl rfl ?_
            refine E_s (p' := 135) (st' := aA 124 :: _) rfl rfl ?_
            refine E_gA (b := 130) rfl rfl rfl rfl rfl rfl ?_
            refine E_s (p' := 139) (st' := aI ((60 * i + c : Nat) : Int) :: _) rfl rfl ?_
            refine E_ald (e := 60 * i + c) (N := 240) (v := ((Cl R c : Nat) : Int)) rfl rfl (rfl) (by omega) (MR_130 (R := Rkn R c y.1 y.2) I2.2.1 hc rfl) ?_
            refine E_callL (p' := 143) (L0 := [some (aI ((RF R l : Nat) : Int)), some (aI 1), some (aI ((Cl R c : Nat) : Int))]) rfl rfl rfl ?_
            refine m_in (fun hr1 hr2 => ?_) (fun hr0 => ?_)
            · refine E_go (p' := 143) (L' := [some (aA 124), some (aI ((60 * i + c : Nat) : Int)), some (aI ((X : Nat) : Int)), some (aI ((t % C : Nat) : Int)), some (aI ((l : Nat) : Int)), some (aI ((C : Nat) : Int)), some (aI ((g : Nat) : Int)), some (aI 1), some (aI ((RF R l : Nat) : Int)), some (aI 1), some (aI 0), some (aI ((RF R l : Nat) : Int))]) (st' := [aI 1]) rfl rfl rfl ?_
              refine E_s (p' := 146) rfl rfl ?_
              refine E_s (p' := 147) (st' := aA 124 :: _) rfl rfl ?_
              refine E_s (p' := 148) (st' := aI ((60 * i + c : Nat) : Int) :: _) rfl rfl ?_
              refine E_s (p' := 150) (st' := aI ((RF R l : Nat) : Int) :: _) rfl rfl ?_
              refine E_callV (k' := 137) (a := 124) (r := []) (L0 := [some (aA 124), some (aI ((60 * i + c : Nat) : Int)), some (aI ((RF R l : Nat) : Int)), none]) rfl rfl rfl rfl rfl rfl rfl rfl rfl rfl ?_
              refine m_find hi I2.2.1 I2.1 hc (fun k1 hk1 hk2 => ?_) (fun hnf => ?_)
              · refine E_go (p' := 153) (L' := [some (aA 124), some (aI ((60 * i + c : Nat) : Int)), some (aI ((X : Nat) : Int)), some (aI ((t % C : Nat) : Int)), some (aI ((l : Nat) : Int)), some (aI ((C : Nat) : Int)), some (aI ((g : Nat) : Int)), some (aI 1), some (aI ((RF R l : Nat) : Int)), some (aI 1), some (aI 0), some (aI ((RF R l : Nat) : Int))]) (st' := [aI ((k1 : Nat) : Int)]) rfl rfl rfl ?_
                rw [Ckn] at hk1
                rw [Cpn] at hk2
                refine E_s (p' := 154) (st' := aI (-1) :: _) rfl rfl ?_
                refine E_icmp_ne (x := ((k1 : Nat) : Int)) (y := (-1)) rfl (by decide) (fun h_6 => ?_) (fun q => absurd q (by omega))
                refine E_go (p' := 168) (L' := [some (aA 124), some (aI ((60 * i + c : Nat) : Int)), some (aI ((X : Nat) : Int)), some (aI ((t % C : Nat) : Int)), some (aI ((l : Nat) : Int)), some (aI ((C : Nat) : Int)), some (aI ((g : Nat) : Int)), some (aI 1), some (aI ((RF R l : Nat) : Int)), some (aI 1), some (aI 0), some (aI ((RF R l : Nat) : Int))]) (st' := []) rfl rfl rfl ?_
                refine E_s (p' := 169) (st' := aI 0 :: _) rfl rfl ?_
                refine E_ret rfl rfl ?_
                have elv : lvK R X l = [itU (RF R l) g] := by unfold lvK; rw [Rct_one (by omega), ← hC, ← hgd.1]; rw [decide_eq_true (by omega)]; unfold dgK; rw [if_neg (by omega)]; rfl
                have nf : ¬ fitK (Cl R c) y.1 y.2 (RF R l : Int) := fun g => by first | exact absurd g.1 (by omega) | exact absurd g.2.1 (by omega) | exact absurd g.2.2.1 (by omega) | (have g8 := g.2.1; have g7 := g.2.2.1; omega) | exact g.2.2.2 _ hk1 hk2
                have e9 : fdK (Cl R c) (some K0) (upK R X (l + 1)) = none := by
                  show fdK (Cl R c) (some K0) (upK R X l ++ lvK R X l) = _
                  rw [fdK_app, I1, elv]
                  rw [fdK_one]; unfold stK itU; exact cif_neg nf
                exact q0 m y (by unfold plN; rw [upK_none e9 (RL R) (by omega)]; exact cif_same) I2
              · refine E_go (p' := 153) (L' := [some (aA 124), some (aI ((60 * i + c : Nat) : Int)), some (aI ((X : Nat) : Int)), some (aI ((t % C : Nat) : Int)), some (aI ((l : Nat) : Int)), some (aI ((C : Nat) : Int)), some (aI ((g : Nat) : Int)), some (aI 1), some (aI ((RF R l : Nat) : Int)), some (aI 1), some (aI 0), some (aI ((RF R l : Nat) : Int))]) (st' := [aI (-1)]) rfl rfl rfl ?_
                rw [Ckn, Cpn] at hnf
                refine E_s (p' := 154) (st' := aI (-1) :: _) rfl rfl ?_
                refine E_s (p' := 157) rfl rfl ?_
                refine E_s (p' := 158) (st' := aA 124 :: _) rfl rfl ?_
                refine E_gA (b := 132) rfl rfl rfl rfl rfl rfl ?_
                refine E_s (p' := 162) (st' := aI ((60 * i + c : Nat) : Int) :: _) rfl rfl ?_
                refine E_ald (e := 60 * i + c) (N := 240) (v := ((y.1 : Nat) : Int)) rfl rfl (rfl) (by omega) ((MR_132 (R := Rkn R c y.1 y.2) I2.2.1 hc rfl).trans (by rw [Ckn])) ?_
                refine E_s (p' := 165) (st' := aI 30 :: _) rfl rfl ?_
                refine E_icmp_ne (x := ((y.1 : Nat) : Int)) (y := 30) rfl (by decide) (fun h_7 => ?_) (fun h_7 => ?_)
                · refine E_go (p' := 170) (L' := [some (aA 124), some (aI ((60 * i + c : Nat) : Int)), some (aI ((X : Nat) : Int)), some (aI ((t % C : Nat) : Int)), some (aI ((l : Nat) : Int)), some (aI ((C : Nat) : Int)), some (aI ((g : Nat) : Int)), some (aI 1), some (aI ((RF R l : Nat) : Int)), some (aI 1), some (aI 0), some (aI ((RF R l : Nat) : Int))]) (st' := []) rfl rfl rfl ?_
                  obtain ⟨hn, eh⟩ : ∃ z : Nat, RF R l = z := ⟨_, rfl⟩
                  rw [eh] at hnf hr1 hr2 ⊢
                  refine E_s (p' := 171) (st' := aA 124 :: _) rfl rfl ?_
                  refine E_s (p' := 172) (st' := aI ((60 * i + c : Nat) : Int) :: _) rfl rfl ?_
                  refine E_s (p' := 174) (st' := aI ((hn : Nat) : Int) :: _) rfl rfl ?_
                  refine E_s (p' := 176) (st' := aI 1 :: _) rfl rfl ?_
                  refine E_s (p' := 179) rfl rfl ?_
                  refine E_s (p' := 181) (st' := aI ((g : Nat) : Int) :: _) rfl rfl ?_
                  refine E_s (p' := 182) (st' := aI 1 :: _) rfl rfl ?_
                  refine E_icmp_ne (x := ((g : Nat) : Int)) (y := 1) rfl (by decide) (fun h_8 => ?_) (fun h_8 => ?_)
                  · refine E_go (p' := 189) (L' := [some (aA 124), some (aI ((60 * i + c : Nat) : Int)), some (aI ((X : Nat) : Int)), some (aI ((t % C : Nat) : Int)), some (aI ((l : Nat) : Int)), some (aI ((C : Nat) : Int)), some (aI ((g : Nat) : Int)), some (aI 1), some (aI ((hn : Nat) : Int)), some (aI 1), some (aI 0), some (aI ((hn : Nat) : Int))]) (st' := [aI ((hn : Nat) : Int), aI ((60 * i + c : Nat) : Int), aA 124]) rfl rfl rfl ?_
                    refine E_s (p' := 190) (st' := aI 1 :: _) rfl rfl ?_
                    refine E_s (p' := 194) rfl rfl ?_
                    refine E_s (p' := 196) (st' := aI 1 :: _) rfl rfl ?_
                    refine E_s (p' := 199) rfl rfl ?_
                    refine E_s (p' := 201) (st' := aI ((g : Nat) : Int) :: _) rfl rfl ?_
                    refine E_s (p' := 202) (st' := aI 1 :: _) rfl rfl ?_
                    refine E_icmp_le (x := ((g : Nat) : Int)) (y := 1) rfl (by decide) (fun q => absurd q (by omega)) (fun h_9 => ?_)
                    refine E_go (p' := 205) (L' := [some (aA 124), some (aI ((60 * i + c : Nat) : Int)), some (aI ((X : Nat) : Int)), some (aI ((t % C : Nat) : Int)), some (aI ((l : Nat) : Int)), some (aI ((C : Nat) : Int)), some (aI ((g : Nat) : Int)), some (aI 1), some (aI ((hn : Nat) : Int)), some (aI 1), some (aI 0), some (aI ((hn : Nat) : Int))]) (st' := [aI 1, aI ((hn : Nat) : Int), aI ((60 * i + c : Nat) : Int), aA 124]) rfl rfl rfl ?_
                    refine E_s (p' := 207) (st' := aI ((g : Nat) : Int) :: _) rfl rfl ?_
                    refine E_s (p' := 211) rfl rfl ?_
                    refine E_callV (k' := 138) (a := 124) (r := []) (L0 := [some (aA 124), some (aI ((60 * i + c : Nat) : Int)), some (aI ((hn : Nat) : Int)), some (aI 1), some (aI ((g : Nat) : Int)), none]) rfl rfl rfl rfl rfl rfl rfl rfl rfl rfl ?_
                    refine m_put hi I2.2.1 I2.1 hc (hn := hn) (sn := 1) (tn := g) (by rw [Ckn]; omega) (by omega) (by omega) (by rw [Ckn, Cpn]; exact fun k hk g => hnf k hk (by omega)) (fun m1 hM1 hx1 hF1 => ?_)
                    refine E_go (p' := 214) (L' := [some (aA 124), some (aI ((60 * i + c : Nat) : Int)), some (aI ((X : Nat) : Int)), some (aI ((t % C : Nat) : Int)), some (aI ((l : Nat) : Int)), some (aI ((C : Nat) : Int)), some (aI ((g : Nat) : Int)), some (aI 1), some (aI ((hn : Nat) : Int)), some (aI 1), some (aI 0), some (aI ((hn : Nat) : Int))]) (st' := []) rfl rfl rfl ?_
                    rw [Rkn_kn, Ckn, Cpn] at hM1
                    refine E_inc (x := 0) (w := 1) (L' := [some (aA 124), some (aI ((60 * i + c : Nat) : Int)), some (aI ((X : Nat) : Int)), some (aI ((t % C : Nat) : Int)), some (aI ((l : Nat) : Int)), some (aI ((C : Nat) : Int)), some (aI ((g : Nat) : Int)), some (aI 1), some (aI ((hn : Nat) : Int)), some (aI 1), some (aI 1), some (aI ((hn : Nat) : Int))]) rfl rfl rfl (by omega) (by omega) rfl ?_
                    refine E_s (p' := 115) rfl rfl ?_
                    refine E_s (p' := 117) (st' := aI 1 :: _) rfl rfl ?_
                    refine E_s (p' := 119) (st' := aI 1 :: _) rfl rfl ?_
                    refine E_s (p' := 220) rfl rfl ?_
                    refine E_inc (x := ((l : Nat) : Int)) (w := ((l + 1 : Nat) : Int)) (L' := [some (aA 124), some (aI ((60 * i + c : Nat) : Int)), some (aI ((X : Nat) : Int)), some (aI ((t % C : Nat) : Int)), some (aI ((l + 1 : Nat) : Int)), some (aI ((C : Nat) : Int)), some (aI ((g : Nat) : Int)), some (aI 1), some (aI ((hn : Nat) : Int)), some (aI 1), some (aI 1), some (aI ((hn : Nat) : Int))]) rfl rfl rfl (by omega) (by omega) rfl ?_
                    refine E_s (p' := 5) rfl rfl ?_
                    have elv : lvK R X l = [itU (RF R l) g] := by unfold lvK; rw [Rct_one (by omega), ← hC, ← hgd.1]; rw [decide_eq_true (by omega)]; unfold dgK; rw [if_neg (by omega)]; rfl
                    have e1 : itU (RF R l) g = ((hn : Int), (1, g)) := by unfold itU; rw [if_neg (by omega), eh]
                    have ef : fitK (Cl R c) y.1 y.2 (hn : Int) := ⟨by have := I2.1.n30 hc; omega, hr1, hr2, hnf⟩
                    have e9 : fdK (Cl R c) (some K0) (upK R X (l + 1)) = some (y.1 + 1, inK y.1 y.2 ((hn : Int), (1, g))) := by
                      show fdK (Cl R c) (some K0) (upK R X l ++ lvK R X l) = _
                      rw [fdK_app, I1, elv]
                      rw [fdK_one, e1]; unfold stK; exact cif_pos ef
                    exact ih (l + 1) (t % C) m1 _ _ _ _ _ _ _ _ (by omega) (by omega) hgd.2 e9 (I2.tr ⟨I2.1.fit hc ht0 (q := ((hn : Int), (1, g))) ef (by unfold itk; dsimp only; omega) (by unfold kok; rw [pck_so (by dsimp only; omega) (by dsimp only; omega), pck_tu (by dsimp only; omega)]; dsimp only; omega), by unfold inK; exact hM1, hx1, hF1⟩)
                  · refine E_go (p' := 185) (L' := [some (aA 124), some (aI ((60 * i + c : Nat) : Int)), some (aI ((X : Nat) : Int)), some (aI ((t % C : Nat) : Int)), some (aI ((l : Nat) : Int)), some (aI ((C : Nat) : Int)), some (aI ((g : Nat) : Int)), some (aI 1), some (aI ((hn : Nat) : Int)), some (aI 1), some (aI 0), some (aI ((hn : Nat) : Int))]) (st' := [aI ((hn : Nat) : Int), aI ((60 * i + c : Nat) : Int), aA 124]) rfl rfl rfl ?_
                    refine E_s (p' := 186) (st' := aI 2 :: _) rfl rfl ?_
                    refine E_s (p' := 194) rfl rfl ?_
                    refine E_s (p' := 196) (st' := aI 1 :: _) rfl rfl ?_
                    refine E_s (p' := 199) rfl rfl ?_
                    refine E_s (p' := 201) (st' := aI ((g : Nat) : Int) :: _) rfl rfl ?_
                    refine E_s (p' := 202) (st' := aI 1 :: _) rfl rfl ?_
                    refine E_icmp_le (x := ((g : Nat) : Int)) (y := 1) rfl (by decide) (fun h_10 => ?_) (fun q => absurd q (by omega))
                    refine E_go (p' := 210) (L' := [some (aA 124), some (aI ((60 * i + c : Nat) : Int)), some (aI ((X : Nat) : Int)), some (aI ((t % C : Nat) : Int)), some (aI ((l : Nat) : Int)), some (aI ((C : Nat) : Int)), some (aI ((g : Nat) : Int)), some (aI 1), some (aI ((hn : Nat) : Int)), some (aI 1), some (aI 0), some (aI ((hn : Nat) : Int))]) (st' := [aI 2, aI ((hn : Nat) : Int), aI ((60 * i + c : Nat) : Int), aA 124]) rfl rfl rfl ?_
                    refine E_s (p' := 211) (st' := aI 0 :: _) rfl rfl ?_
                    refine E_callV (k' := 138) (a := 124) (r := []) (L0 := [some (aA 124), some (aI ((60 * i + c : Nat) : Int)), some (aI ((hn : Nat) : Int)), some (aI 2), some (aI 0), none]) rfl rfl rfl rfl rfl rfl rfl rfl rfl rfl ?_
                    refine m_put hi I2.2.1 I2.1 hc (hn := hn) (sn := 2) (tn := 0) (by rw [Ckn]; omega) (by omega) (by omega) (by rw [Ckn, Cpn]; exact fun k hk g => hnf k hk (by omega)) (fun m1 hM1 hx1 hF1 => ?_)
                    refine E_go (p' := 214) (L' := [some (aA 124), some (aI ((60 * i + c : Nat) : Int)), some (aI ((X : Nat) : Int)), some (aI ((t % C : Nat) : Int)), some (aI ((l : Nat) : Int)), some (aI ((C : Nat) : Int)), some (aI ((g : Nat) : Int)), some (aI 1), some (aI ((hn : Nat) : Int)), some (aI 1), some (aI 0), some (aI ((hn : Nat) : Int))]) (st' := []) rfl rfl rfl ?_
                    rw [Rkn_kn, Ckn, Cpn] at hM1
                    refine E_inc (x := 0) (w := 1) (L' := [some (aA 124), some (aI ((60 * i + c : Nat) : Int)), some (aI ((X : Nat) : Int)), some (aI ((t % C : Nat) : Int)), some (aI ((l : Nat) : Int)), some (aI ((C : Nat) : Int)), some (aI ((g : Nat) : Int)), some (aI 1), some (aI ((hn : Nat) : Int)), some (aI 1), some (aI 1), some (aI ((hn : Nat) : Int))]) rfl rfl rfl (by omega) (by omega) rfl ?_
                    refine E_s (p' := 115) rfl rfl ?_
                    refine E_s (p' := 117) (st' := aI 1 :: _) rfl rfl ?_
                    refine E_s (p' := 119) (st' := aI 1 :: _) rfl rfl ?_
                    refine E_s (p' := 220) rfl rfl ?_
                    refine E_inc (x := ((l : Nat) : Int)) (w := ((l + 1 : Nat) : Int)) (L' := [some (aA 124), some (aI ((60 * i + c : Nat) : Int)), some (aI ((X : Nat) : Int)), some (aI ((t % C : Nat) : Int)), some (aI ((l + 1 : Nat) : Int)), some (aI ((C : Nat) : Int)), some (aI ((g : Nat) : Int)), some (aI 1), some (aI ((hn : Nat) : Int)), some (aI 1), some (aI 1), some (aI ((hn : Nat) : Int))]) rfl rfl rfl (by omega) (by omega) rfl ?_
                    refine E_s (p' := 5) rfl rfl ?_
                    have elv : lvK R X l = [itU (RF R l) g] := by unfold lvK; rw [Rct_one (by omega), ← hC, ← hgd.1]; rw [decide_eq_true (by omega)]; unfold dgK; rw [if_neg (by omega)]; rfl
                    have e1 : itU (RF R l) g = ((hn : Int), ((2, 0) : Nat × Nat)) := by unfold itU; rw [if_pos (by omega), eh]
                    have ef : fitK (Cl R c) y.1 y.2 (hn : Int) := ⟨by have := I2.1.n30 hc; omega, hr1, hr2, hnf⟩
                    have e9 : fdK (Cl R c) (some K0) (upK R X (l + 1)) = some (y.1 + 1, inK y.1 y.2 ((hn : Int), ((2, 0) : Nat × Nat))) := by
                      show fdK (Cl R c) (some K0) (upK R X l ++ lvK R X l) = _
                      rw [fdK_app, I1, elv]
                      rw [fdK_one, e1]; unfold stK; exact cif_pos ef
                    exact ih (l + 1) (t % C) m1 _ _ _ _ _ _ _ _ (by omega) (by omega) hgd.2 e9 (I2.tr ⟨I2.1.fit hc ht0 (q := ((hn : Int), ((2, 0) : Nat × Nat))) ef (by unfold itk; dsimp only; omega) (by unfold kok; rw [pck_so (by dsimp only; omega) (by dsimp only; omega), pck_tu (by dsimp only; omega)]; dsimp only; omega), by unfold inK; exact hM1, hx1, hF1⟩)
                · refine E_go (p' := 168) (L' := [some (aA 124), some (aI ((60 * i + c : Nat) : Int)), some (aI ((X : Nat) : Int)), some (aI ((t % C : Nat) : Int)), some (aI ((l : Nat) : Int)), some (aI ((C : Nat) : Int)), some (aI ((g : Nat) : Int)), some (aI 1), some (aI ((RF R l : Nat) : Int)), some (aI 1), some (aI 0), some (aI ((RF R l : Nat) : Int))]) (st' := []) rfl rfl rfl ?_
                  refine E_s (p' := 169) (st' := aI 0 :: _) rfl rfl ?_
                  refine E_ret rfl rfl ?_
                  have elv : lvK R X l = [itU (RF R l) g] := by unfold lvK; rw [Rct_one (by omega), ← hC, ← hgd.1]; rw [decide_eq_true (by omega)]; unfold dgK; rw [if_neg (by omega)]; rfl
                  have nf : ¬ fitK (Cl R c) y.1 y.2 (RF R l : Int) := fun g => by first | exact absurd g.1 (by omega) | exact absurd g.2.1 (by omega) | exact absurd g.2.2.1 (by omega) | (have g8 := g.2.1; have g7 := g.2.2.1; omega) | exact g.2.2.2 _ hk1 hk2
                  have e9 : fdK (Cl R c) (some K0) (upK R X (l + 1)) = none := by
                    show fdK (Cl R c) (some K0) (upK R X l ++ lvK R X l) = _
                    rw [fdK_app, I1, elv]
                    rw [fdK_one]; unfold stK itU; exact cif_neg nf
                  exact q0 m y (by unfold plN; rw [upK_none e9 (RL R) (by omega)]; exact cif_same) I2
            · refine E_go (p' := 143) (L' := [some (aA 124), some (aI ((60 * i + c : Nat) : Int)), some (aI ((X : Nat) : Int)), some (aI ((t % C : Nat) : Int)), some (aI ((l : Nat) : Int)), some (aI ((C : Nat) : Int)), some (aI ((g : Nat) : Int)), some (aI 1), some (aI ((RF R l : Nat) : Int)), some (aI 1), some (aI 0), some (aI ((RF R l : Nat) : Int))]) (st' := [aI 0]) rfl rfl rfl ?_
              refine E_s (p' := 168) rfl rfl ?_
              refine E_s (p' := 169) (st' := aI 0 :: _) rfl rfl ?_
              refine E_ret rfl rfl ?_
              have elv : lvK R X l = [itU (RF R l) g] := by unfold lvK; rw [Rct_one (by omega), ← hC, ← hgd.1]; rw [decide_eq_true (by omega)]; unfold dgK; rw [if_neg (by omega)]; rfl
              have nf : ¬ fitK (Cl R c) y.1 y.2 (RF R l : Int) := fun g => by first | exact absurd g.1 (by omega) | exact absurd g.2.1 (by omega) | exact absurd g.2.2.1 (by omega) | (have g8 := g.2.1; have g7 := g.2.2.1; omega) | exact g.2.2.2 _ hk1 hk2
              have e9 : fdK (Cl R c) (some K0) (upK R X (l + 1)) = none := by
                show fdK (Cl R c) (some K0) (upK R X l ++ lvK R X l) = _
                rw [fdK_app, I1, elv]
                rw [fdK_one]; unfold stK itU; exact cif_neg nf
              exact q0 m y (by unfold plN; rw [upK_none e9 (RL R) (by omega)]; exact cif_same) I2
        · refine E_go (p' := 50) (L' := [some (aA 124), some (aI ((60 * i + c : Nat) : Int)), some (aI ((X : Nat) : Int)), some (aI ((t % C : Nat) : Int)), some (aI ((l : Nat) : Int)), some (aI ((C : Nat) : Int)), some (aI ((g : Nat) : Int)), x7, x8, x9, x10, x11]) (st' := []) rfl rfl rfl ?_
          refine E_s (p' := 220) rfl rfl ?_
          refine E_inc (x := ((l : Nat) : Int)) (w := ((l + 1 : Nat) : Int)) (L' := [some (aA 124), some (aI ((60 * i + c : Nat) : Int)), some (aI ((X : Nat) : Int)), some (aI ((t % C : Nat) : Int)), some (aI ((l + 1 : Nat) : Int)), some (aI ((C : Nat) : Int)), some (aI ((g : Nat) : Int)), x7, x8, x9, x10, x11]) rfl rfl rfl (by omega) (by omega) rfl ?_
          refine E_s (p' := 5) rfl rfl ?_
          have elv : lvK R X l = [] := by unfold lvK; rw [Rct_one (by omega), ← hC, ← hgd.1]; unfold dgK; rw [if_pos (by omega)]
          have e9 : fdK (Cl R c) (some K0) (upK R X (l + 1)) = some y := by
            show fdK (Cl R c) (some K0) (upK R X l ++ lvK R X l) = _
            rw [fdK_app, I1, elv]
            rfl
          exact ih (l + 1) (t % C) m y _ _ _ _ _ _ _ (by omega) (by omega) hgd.2 e9 I2
      · refine E_go (p' := 35) (L' := [some (aA 124), some (aI ((60 * i + c : Nat) : Int)), some (aI ((X : Nat) : Int)), some (aI ((t : Nat) : Int)), some (aI ((l : Nat) : Int)), some (aI ((C : Nat) : Int)), some (aI ((g : Nat) : Int)), x7, x8, x9, x10, x11]) (st' := []) rfl rfl rfl ?_
        refine E_s (p' := 36) (st' := aI 0 :: _) rfl rfl ?_
        refine E_ret rfl rfl ?_
        exact q0 m y (by unfold plN; exact cif_neg (fun g9 => rst_9 (by omega) hrs (by rw [← hC, ← hg]; omega) g9.2.2)) I2
theorem m_ties (hi : i < 4) (hV : VR R) (hc : c < Cn R) (ht0 : Ct R c = 0) (hd0 : RdM R m0) (h0 : 0 < RL R) (hx : X ≤ 999999) (hM0 : MR (Rkn R c 0 (fun _ => 0)) i m0) (q1 : ∀ (m1 : Mm) (y : KR), plN R c X = some y → MK9 R c i m0 y m1 → Q (some (aI 1)) (m1, tl len)) (q0 : ∀ (m1 : Mm) (y : KR), plN R c X = none → MK9 R c i m0 y m1 → Q (some (aI 0)) (m1, tl len))  : E 160 0 [some (aA 124), some (aI ((60 * i + c : Nat) : Int)), some (aI ((X : Nat) : Int)), none, none, none, none, none, none, none, none, none] [] (m0, tl len) Q := by
  refine E_s (p' := 1) (st' := aI ((X : Nat) : Int) :: _) rfl rfl ?_
  refine E_s (p' := 2) (L' := [some (aA 124), some (aI ((60 * i + c : Nat) : Int)), some (aI ((X : Nat) : Int)), some (aI ((X : Nat) : Int)), none, none, none, none, none, none, none, none]) rfl rfl ?_
  refine E_s (p' := 3) (st' := aI 0 :: _) rfl rfl ?_
  refine E_s (p' := 5) (L' := [some (aA 124), some (aI ((60 * i + c : Nat) : Int)), some (aI ((X : Nat) : Int)), some (aI ((X : Nat) : Int)), some (aI 0), none, none, none, none, none, none, none]) rfl rfl ?_
  exact yl_tl hi hV hc ht0 hd0 h0 hx q1 q0 (RL R + 1) 0 X m0 K0 _ _ _ _ _ _ _ (by omega) (by omega) (Or.inl ⟨rfl, rfl⟩) rfl ⟨okK0 hV, hM0, Mx.rf, Fx.rf⟩
end

section
variable {len : Nat} {m m0 : Mm} {Q : Option AV → Sx → Prop} {R : RD} {i c X : Nat} {y : KR}
theorem yl_ke (hi : i < 4) (hV : VR R) (hc : c < Cn R) (hM : MR R i m0) (hk : ∀ m1 : Mm, (∀ e, e < Ck R c → m1 150 e = (ht (Cp R c e) : Int) ∧ m1 151 e = (so (Cp R c e) : Int) ∧ m1 152 e = (tu (Cp R c e) : Int)) → (∀ b j, b ≠ 150 → b ≠ 151 → b ≠ 152 → m1 b j = m0 b j) → E 159 145 [some (aA 124), some (aI ((i : Nat) : Int)), some (aI ((c : Nat) : Int)), some (aI ((X : Nat) : Int)), some (aI ((60 * i + c : Nat) : Int)), some (aI ((Ck R c : Nat) : Int)), some (aI ((Ck R c : Nat) : Int)), none] [] (m1, tl len) Q) : ∀ (d : Nat) (k : Nat) (m : Mm), (Ck R c < k + d) → (k ≤ Ck R c) → (∀ e, e < k → m 150 e = (ht (Cp R c e) : Int) ∧ m 151 e = (so (Cp R c e) : Int) ∧ m 152 e = (tu (Cp R c e) : Int)) → (∀ b j, b ≠ 150 → b ≠ 151 → b ≠ 152 → m b j = m0 b j) → E 159 72 [some (aA 124), some (aI ((i : Nat) : Int)), some (aI ((c : Nat) : Int)), some (aI ((X : Nat) : Int)), some (aI ((60 * i + c : Nat) : Int)), some (aI ((Ck R c : Nat) : Int)), some (aI ((k : Nat) : Int)), none] [] (m, tl len) Q := by
  intro d
  induction d with
  | zero => intro k m hd hk9 I1 I2; omega
  | succ d ih =>
    intro k m hd hk9 I1 I2
    have hn60 := hV.1
    have hk30 := (hV.2.2.1 c hc).2.2.2.2.2
    have hMm : MR R i m := hM.of (fun b j g1 g2 => I2 b j (by omega) (by omega) (by omega))
    refine E_s (p' := 74) (st' := aI ((k : Nat) : Int) :: _) rfl rfl ?_
    refine E_s (p' := 76) (st' := aI ((Ck R c : Nat) : Int) :: _) rfl rfl ?_
    refine E_icmp_ge (x := ((k : Nat) : Int)) (y := ((Ck R c : Nat) : Int)) rfl (by decide) (fun h_1 => ?_) (fun h_1 => ?_)
    · refine E_go (p' := 145) (L' := [some (aA 124), some (aI ((i : Nat) : Int)), some (aI ((c : Nat) : Int)), some (aI ((X : Nat) : Int)), some (aI ((60 * i + c : Nat) : Int)), some (aI ((Ck R c : Nat) : Int)), some (aI ((k : Nat) : Int)), none]) (st' := []) rfl rfl rfl ?_
      have ek : k = Ck R c := by omega
      subst ek
      exact hk m I1 I2
    · refine E_go (p' := 79) (L' := [some (aA 124), some (aI ((i : Nat) : Int)), some (aI ((c : Nat) : Int)), some (aI ((X : Nat) : Int)), some (aI ((60 * i + c : Nat) : Int)), some (aI ((Ck R c : Nat) : Int)), some (aI ((k : Nat) : Int)), none]) (st' := []) rfl rfl rfl ?_
      refine E_s (p' := 80) (st' := aA 124 :: _) rfl rfl ?_
      refine E_gA (b := 150) rfl rfl rfl rfl rfl rfl ?_
      refine E_s (p' := 85) (st' := aI ((k : Nat) : Int) :: _) rfl rfl ?_
      refine E_s (p' := 86) (st' := aA 124 :: _) rfl rfl ?_
      refine E_gA (b := 133) rfl rfl rfl rfl rfl rfl ?_
      refine E_s (p' := 91) (st' := aI 30 :: _) rfl rfl ?_
      refine E_s (p' := 93) (st' := aI ((60 * i + c : Nat) : Int) :: _) rfl rfl ?_
      refine E_mul (v := ((1800 * i + 30 * c : Nat) : Int)) rfl (by omega) (by omega) ?_
      refine E_s (p' := 96) (st' := aI ((k : Nat) : Int) :: _) rfl rfl ?_
      refine E_add (v := ((1800 * i + 30 * c + k : Nat) : Int)) rfl (by omega) (by omega) ?_
      refine E_ald (e := 1800 * i + 30 * c + k) (N := 7200) (v := ((ht (Cp R c k) : Nat) : Int)) rfl rfl (rfl) (by omega) (MR_133 hMm (by omega) (by omega) (by omega)) ?_
      refine E_ast (e := k) (N := 30) rfl rfl (rfl) (by omega) ?_
      refine E_s (p' := 100) (st' := aA 124 :: _) rfl rfl ?_
      refine E_gA (b := 151) rfl rfl rfl rfl rfl rfl ?_
      refine E_s (p' := 105) (st' := aI ((k : Nat) : Int) :: _) rfl rfl ?_
      refine E_s (p' := 106) (st' := aA 124 :: _) rfl rfl ?_
      refine E_gA (b := 134) rfl rfl rfl rfl rfl rfl ?_
      refine E_s (p' := 111) (st' := aI 30 :: _) rfl rfl ?_
      refine E_s (p' := 113) (st' := aI ((60 * i + c : Nat) : Int) :: _) rfl rfl ?_
      refine E_mul (v := ((1800 * i + 30 * c : Nat) : Int)) rfl (by omega) (by omega) ?_
      refine E_s (p' := 116) (st' := aI ((k : Nat) : Int) :: _) rfl rfl ?_
      refine E_add (v := ((1800 * i + 30 * c + k : Nat) : Int)) rfl (by omega) (by omega) ?_
      refine E_ald (e := 1800 * i + 30 * c + k) (N := 7200) (v := ((so (Cp R c k) : Nat) : Int)) rfl rfl (rfl) (by omega) ((up2_ne (by omega)).trans ((MR_134 hMm (by omega) (by omega) (by omega)))) ?_
      refine E_ast (e := k) (N := 30) rfl rfl (rfl) (by omega) ?_
      refine E_s (p' := 120) (st' := aA 124 :: _) rfl rfl ?_
      refine E_gA (b := 152) rfl rfl rfl rfl rfl rfl ?_
      refine E_s (p' := 125) (st' := aI ((k : Nat) : Int) :: _) rfl rfl ?_
      refine E_s (p' := 126) (st' := aA 124 :: _) rfl rfl ?_
      refine E_gA (b := 135) rfl rfl rfl rfl rfl rfl ?_
      refine E_s (p' := 131) (st' := aI 30 :: _) rfl rfl ?_
      refine E_s (p' := 133) (st' := aI ((60 * i + c : Nat) : Int) :: _) rfl rfl ?_
      refine E_mul (v := ((1800 * i + 30 * c : Nat) : Int)) rfl (by omega) (by omega) ?_
      refine E_s (p' := 136) (st' := aI ((k : Nat) : Int) :: _) rfl rfl ?_
      refine E_add (v := ((1800 * i + 30 * c + k : Nat) : Int)) rfl (by omega) (by omega) ?_
      refine E_ald (e := 1800 * i + 30 * c + k) (N := 7200) (v := ((tu (Cp R c k) : Nat) : Int)) rfl rfl (rfl) (by omega) ((up2_ne (by omega)).trans ((up2_ne (by omega)).trans ((MR_135 hMm (by omega) (by omega) (by omega))))) ?_
      refine E_ast (e := k) (N := 30) rfl rfl (rfl) (by omega) ?_
      refine E_inc (x := ((k : Nat) : Int)) (w := ((k + 1 : Nat) : Int)) (L' := [some (aA 124), some (aI ((i : Nat) : Int)), some (aI ((c : Nat) : Int)), some (aI ((X : Nat) : Int)), some (aI ((60 * i + c : Nat) : Int)), some (aI ((Ck R c : Nat) : Int)), some (aI ((k + 1 : Nat) : Int)), none]) rfl rfl rfl (by omega) (by omega) rfl ?_
      refine E_s (p' := 72) rfl rfl ?_
      refine ih (k + 1) _ (by omega) (by omega) (fun e he => ?_) (fun b j g1 g2 g3 => (up2_ne g3).trans ((up2_ne g2).trans ((up2_ne g1).trans (I2 b j g1 g2 g3))))
      by_cases g : e = k
      · subst g
        exact ⟨(up2_ne (by omega)).trans ((up2_ne (by omega)).trans up2_eq), (up2_ne (by omega)).trans up2_eq, up2_eq⟩
      · obtain ⟨g1, g2, g3⟩ := I1 e (by omega)
        exact ⟨(up2_ne (by omega)).trans ((up2_ne (by omega)).trans ((up2_sl g).trans g1)), (up2_ne (by omega)).trans ((up2_sl g).trans ((up2_ne (by omega)).trans g2)), (up2_sl g).trans ((up2_ne (by omega)).trans ((up2_ne (by omega)).trans g3))⟩
theorem yl_bk (hi : i < 4) (hV : VR R) (hc : c < Cn R) (hX : okK R c y) (hM : MR (Rkn R c y.1 y.2) i m0) (hK : ∀ e, e < Ck R c → m0 150 e = (ht (Cp R c e) : Int) ∧ m0 151 e = (so (Cp R c e) : Int) ∧ m0 152 e = (tu (Cp R c e) : Int)) (q : ∀ m1 : Mm, MR R i m1 → Mx i m0 m1 → Fx 132 135 m0 m1 → Q (some (aI (-1))) (m1, tl len))  : ∀ (d : Nat) (k : Nat) (m : Mm) (o : Bool), (Ck R c < k + d) → (k ≤ Ck R c) → (m 132 (60 * i + c) = (Ck R c : Int)) → (∀ e, e < k → m 133 (1800 * i + 30 * c + e) = (ht (Cp R c e) : Int) ∧ m 134 (1800 * i + 30 * c + e) = (so (Cp R c e) : Int) ∧ m 135 (1800 * i + 30 * c + e) = (tu (Cp R c e) : Int)) → (∀ b z, ¬ (b = 132 ∧ z = 60 * i + c) → ¬ (133 ≤ b ∧ b ≤ 135 ∧ 1800 * i + 30 * c ≤ z ∧ z < 1800 * i + 30 * c + 30) → m b z = m0 b z) → E 159 259 [some (aA 124), some (aI ((i : Nat) : Int)), some (aI ((c : Nat) : Int)), some (aI ((X : Nat) : Int)), some (aI ((60 * i + c : Nat) : Int)), some (aI ((Ck R c : Nat) : Int)), some (aI (bi o)), some (aI ((k : Nat) : Int))] [] (m, tl len) Q := by
  intro d
  induction d with
  | zero => intro k m o hd hk9 I1 I2 I3; omega
  | succ d ih =>
    intro k m o hd hk9 I1 I2 I3
    have hn60 := hV.1
    have hk30 := (hV.2.2.1 c hc).2.2.2.2.2
    refine E_s (p' := 261) (st' := aI ((k : Nat) : Int) :: _) rfl rfl ?_
    refine E_s (p' := 263) (st' := aI ((Ck R c : Nat) : Int) :: _) rfl rfl ?_
    refine E_icmp_ge (x := ((k : Nat) : Int)) (y := ((Ck R c : Nat) : Int)) rfl (by decide) (fun h_1 => ?_) (fun h_1 => ?_)
    · refine E_go (p' := 332) (L' := [some (aA 124), some (aI ((i : Nat) : Int)), some (aI ((c : Nat) : Int)), some (aI ((X : Nat) : Int)), some (aI ((60 * i + c : Nat) : Int)), some (aI ((Ck R c : Nat) : Int)), some (aI (bi o)), some (aI ((k : Nat) : Int))]) (st' := []) rfl rfl rfl ?_
      refine E_s (p' := 333) (st' := aI (-1) :: _) rfl rfl ?_
      refine E_ret rfl rfl ?_
      have ek : k = Ck R c := by omega
      have hR9 := MR.kn (P := Cp R c) (n := Ck R c) (c := c) hM hX hk30 I1 (fun e he => I2 e (by omega)) (fun b z g1 g2 g3 g4 => I3 b z g3 g4)
      rw [Rkn_kn, Rkn_self] at hR9
      exact q m hR9 (fun b z hb => I3 b z (fun g => hb (by unfold blk; omega)) (fun g => hb (by unfold blk; omega))) (fun b z hb => I3 b z (by omega) (by omega))
    · refine E_go (p' := 266) (L' := [some (aA 124), some (aI ((i : Nat) : Int)), some (aI ((c : Nat) : Int)), some (aI ((X : Nat) : Int)), some (aI ((60 * i + c : Nat) : Int)), some (aI ((Ck R c : Nat) : Int)), some (aI (bi o)), some (aI ((k : Nat) : Int))]) (st' := []) rfl rfl rfl ?_
      refine E_s (p' := 267) (st' := aA 124 :: _) rfl rfl ?_
      refine E_gA (b := 133) rfl rfl rfl rfl rfl rfl ?_
      refine E_s (p' := 272) (st' := aI 30 :: _) rfl rfl ?_
      refine E_s (p' := 274) (st' := aI ((60 * i + c : Nat) : Int) :: _) rfl rfl ?_
      refine E_mul (v := ((1800 * i + 30 * c : Nat) : Int)) rfl (by omega) (by omega) ?_
      refine E_s (p' := 277) (st' := aI ((k : Nat) : Int) :: _) rfl rfl ?_
      refine E_add (v := ((1800 * i + 30 * c + k : Nat) : Int)) rfl (by omega) (by omega) ?_
      refine E_s (p' := 279) (st' := aA 124 :: _) rfl rfl ?_
      refine E_gA (b := 150) rfl rfl rfl rfl rfl rfl ?_
      refine E_s (p' := 284) (st' := aI ((k : Nat) : Int) :: _) rfl rfl ?_
      refine E_ald (e := k) (N := 30) (v := ((ht (Cp R c k) : Nat) : Int)) rfl rfl (rfl) (by omega) ((I3 _ _ (by omega) (by omega)).trans (hK _ (by omega)).1) ?_
      refine E_ast (e := 1800 * i + 30 * c + k) (N := 7200) rfl rfl (rfl) (by omega) ?_
      refine E_s (p' := 287) (st' := aA 124 :: _) rfl rfl ?_
      refine E_gA (b := 134) rfl rfl rfl rfl rfl rfl ?_
      refine E_s (p' := 292) (st' := aI 30 :: _) rfl rfl ?_
      refine E_s (p' := 294) (st' := aI ((60 * i + c : Nat) : Int) :: _) rfl rfl ?_
      refine E_mul (v := ((1800 * i + 30 * c : Nat) : Int)) rfl (by omega) (by omega) ?_
      refine E_s (p' := 297) (st' := aI ((k : Nat) : Int) :: _) rfl rfl ?_
      refine E_add (v := ((1800 * i + 30 * c + k : Nat) : Int)) rfl (by omega) (by omega) ?_
      refine E_s (p' := 299) (st' := aA 124 :: _) rfl rfl ?_
      refine E_gA (b := 151) rfl rfl rfl rfl rfl rfl ?_
      refine E_s (p' := 304) (st' := aI ((k : Nat) : Int) :: _) rfl rfl ?_
      refine E_ald (e := k) (N := 30) (v := ((so (Cp R c k) : Nat) : Int)) rfl rfl (rfl) (by omega) ((up2_ne (by omega)).trans (((I3 _ _ (by omega) (by omega)).trans (hK _ (by omega)).2.1))) ?_
      refine E_ast (e := 1800 * i + 30 * c + k) (N := 7200) rfl rfl (rfl) (by omega) ?_
      refine E_s (p' := 307) (st' := aA 124 :: _) rfl rfl ?_
      refine E_gA (b := 135) rfl rfl rfl rfl rfl rfl ?_
      refine E_s (p' := 312) (st' := aI 30 :: _) rfl rfl ?_
      refine E_s (p' := 314) (st' := aI ((60 * i + c : Nat) : Int) :: _) rfl rfl ?_
      refine E_mul (v := ((1800 * i + 30 * c : Nat) : Int)) rfl (by omega) (by omega) ?_
      refine E_s (p' := 317) (st' := aI ((k : Nat) : Int) :: _) rfl rfl ?_
      refine E_add (v := ((1800 * i + 30 * c + k : Nat) : Int)) rfl (by omega) (by omega) ?_
      refine E_s (p' := 319) (st' := aA 124 :: _) rfl rfl ?_
      refine E_gA (b := 152) rfl rfl rfl rfl rfl rfl ?_
      refine E_s (p' := 324) (st' := aI ((k : Nat) : Int) :: _) rfl rfl ?_
      refine E_ald (e := k) (N := 30) (v := ((tu (Cp R c k) : Nat) : Int)) rfl rfl (rfl) (by omega) ((up2_ne (by omega)).trans ((up2_ne (by omega)).trans (((I3 _ _ (by omega) (by omega)).trans (hK _ (by omega)).2.2)))) ?_
      refine E_ast (e := 1800 * i + 30 * c + k) (N := 7200) rfl rfl (rfl) (by omega) ?_
      refine E_inc (x := ((k : Nat) : Int)) (w := ((k + 1 : Nat) : Int)) (L' := [some (aA 124), some (aI ((i : Nat) : Int)), some (aI ((c : Nat) : Int)), some (aI ((X : Nat) : Int)), some (aI ((60 * i + c : Nat) : Int)), some (aI ((Ck R c : Nat) : Int)), some (aI (bi o)), some (aI ((k + 1 : Nat) : Int))]) rfl rfl rfl (by omega) (by omega) rfl ?_
      refine E_s (p' := 259) rfl rfl ?_
      refine ih (k + 1) _ o (by omega) (by omega) ((up2_ne (by omega)).trans ((up2_ne (by omega)).trans ((up2_ne (by omega)).trans I1))) (fun e he => ?_) (fun b z g1 g2 => (up2_o (by omega)).trans ((up2_o (by omega)).trans ((up2_o (by omega)).trans (I3 b z g1 g2))))
      by_cases g : e = k
      · subst g
        exact ⟨(up2_ne (by omega)).trans ((up2_ne (by omega)).trans up2_eq), (up2_ne (by omega)).trans up2_eq, up2_eq⟩
      · obtain ⟨g1, g2, g3⟩ := I2 e (by omega)
        exact ⟨(up2_ne (by omega)).trans ((up2_ne (by omega)).trans ((up2_sl (by omega)).trans g1)), (up2_ne (by omega)).trans ((up2_sl (by omega)).trans ((up2_ne (by omega)).trans g2)), (up2_sl (by omega)).trans ((up2_ne (by omega)).trans ((up2_ne (by omega)).trans g3))⟩
theorem m_back (hi : i < 4) (hV : VR R) (hc : c < Cn R) (hX : okK R c y) (hM : MR (Rkn R c y.1 y.2) i m0) (hK : ∀ e, e < Ck R c → m0 150 e = (ht (Cp R c e) : Int) ∧ m0 151 e = (so (Cp R c e) : Int) ∧ m0 152 e = (tu (Cp R c e) : Int)) (q : ∀ m1 : Mm, MR R i m1 → Mx i m0 m1 → Fx 132 135 m0 m1 → Q (some (aI (-1))) (m1, tl len)) {o : Bool} {x7 : Option AV} : E 159 247 [some (aA 124), some (aI ((i : Nat) : Int)), some (aI ((c : Nat) : Int)), some (aI ((X : Nat) : Int)), some (aI ((60 * i + c : Nat) : Int)), some (aI ((Ck R c : Nat) : Int)), some (aI (bi o)), x7] [] (m0, tl len) Q := by
  have hn60 := hV.1
  have hk30 := (hV.2.2.1 c hc).2.2.2.2.2
  refine E_s (p' := 248) (st' := aA 124 :: _) rfl rfl ?_
  refine E_gA (b := 132) rfl rfl rfl rfl rfl rfl ?_
  refine E_s (p' := 253) (st' := aI ((60 * i + c : Nat) : Int) :: _) rfl rfl ?_
  refine E_s (p' := 255) (st' := aI ((Ck R c : Nat) : Int) :: _) rfl rfl ?_
  refine E_ast (e := 60 * i + c) (N := 240) rfl rfl (rfl) (by omega) ?_
  refine E_s (p' := 257) (st' := aI 0 :: _) rfl rfl ?_
  refine E_s (p' := 259) (L' := [some (aA 124), some (aI ((i : Nat) : Int)), some (aI ((c : Nat) : Int)), some (aI ((X : Nat) : Int)), some (aI ((60 * i + c : Nat) : Int)), some (aI ((Ck R c : Nat) : Int)), some (aI (bi o)), some (aI 0)]) rfl rfl ?_
  exact yl_bk hi hV hc hX hM hK q (Ck R c + 1) 0 _ o (by omega) (by omega) up2_eq (fun e he => absurd he (Nat.not_lt_zero _)) (fun b z g1 g2 => up2_o g1)
theorem yl_cm (hi : i < 4) (hV : VR R) (hc : c < Cn R) (hM : MR (Rkn R c y.1 y.2) i m) (h1 : ∀ d, d < Cn R → m 148 d = Rtd (Rkn R c y.1 y.2) d) (h2 : ∀ d, d < Cn R → m 149 d = Rtd R d) (hk : ∀ o : Bool, (o = true → tdD R (Rkn R c y.1 y.2) c (X : Int)) → (o = false → ¬ tdD R (Rkn R c y.1 y.2) c (X : Int)) → E 159 235 [some (aA 124), some (aI ((i : Nat) : Int)), some (aI ((c : Nat) : Int)), some (aI ((X : Nat) : Int)), some (aI ((60 * i + c : Nat) : Int)), some (aI ((Ck R c : Nat) : Int)), some (aI (bi o)), some (aI ((Cn R : Nat) : Int))] [] (m, tl len) Q)  : ∀ (d : Nat) (t : Nat) (o : Bool), (Cn R < t + d) → (t ≤ Cn R) → (o = true → ∀ e, e < t → Rtd (Rkn R c y.1 y.2) e = if e = c then (X : Int) else Rtd R e) → (o = false → ¬ (∀ e, e < t → Rtd (Rkn R c y.1 y.2) e = if e = c then (X : Int) else Rtd R e)) → E 159 179 [some (aA 124), some (aI ((i : Nat) : Int)), some (aI ((c : Nat) : Int)), some (aI ((X : Nat) : Int)), some (aI ((60 * i + c : Nat) : Int)), some (aI ((Ck R c : Nat) : Int)), some (aI (bi o)), some (aI ((t : Nat) : Int))] [] (m, tl len) Q := by
  intro d
  induction d with
  | zero => intro t o hd ht9 I1 I2; omega
  | succ d ih =>
    intro t o hd ht9 I1 I2
    have hn60 := hV.1
    refine E_s (p' := 181) (st' := aI ((t : Nat) : Int) :: _) rfl rfl ?_
    refine E_s (p' := 182) (st' := aA 124 :: _) rfl rfl ?_
    refine E_gA (b := 125) rfl rfl rfl rfl rfl rfl ?_
    refine E_s (p' := 186) (st' := aI ((i : Nat) : Int) :: _) rfl rfl ?_
    refine E_ald (e := i) (N := 4) (v := ((Cn R : Nat) : Int)) rfl rfl (rfl) (by omega) (MR_125 (R := Rkn R c y.1 y.2) hM) ?_
    refine E_icmp_ge (x := ((t : Nat) : Int)) (y := ((Cn R : Nat) : Int)) rfl (by decide) (fun h_1 => ?_) (fun h_1 => ?_)
    · refine E_go (p' := 235) (L' := [some (aA 124), some (aI ((i : Nat) : Int)), some (aI ((c : Nat) : Int)), some (aI ((X : Nat) : Int)), some (aI ((60 * i + c : Nat) : Int)), some (aI ((Ck R c : Nat) : Int)), some (aI (bi o)), some (aI ((t : Nat) : Int))]) (st' := []) rfl rfl rfl ?_
      have et : t = Cn R := by omega
      subst et
      exact hk o (fun g => I1 g) (fun g => I2 g)
    · refine E_go (p' := 190) (L' := [some (aA 124), some (aI ((i : Nat) : Int)), some (aI ((c : Nat) : Int)), some (aI ((X : Nat) : Int)), some (aI ((60 * i + c : Nat) : Int)), some (aI ((Ck R c : Nat) : Int)), some (aI (bi o)), some (aI ((t : Nat) : Int))]) (st' := []) rfl rfl rfl ?_
      refine E_s (p' := 192) (st' := aI (bi o) :: _) rfl rfl ?_
      refine E_b_eq0 (b := o) rfl (by decide) (fun h_2 => ?_) (fun h_2 => ?_)
      · refine E_go (p' := 226) (L' := [some (aA 124), some (aI ((i : Nat) : Int)), some (aI ((c : Nat) : Int)), some (aI ((X : Nat) : Int)), some (aI ((60 * i + c : Nat) : Int)), some (aI ((Ck R c : Nat) : Int)), some (aI (bi o)), some (aI ((t : Nat) : Int))]) (st' := []) rfl rfl rfl ?_
        refine E_s (p' := 227) (st' := aI 0 :: _) rfl rfl ?_
        refine E_s (p' := 229) (L' := [some (aA 124), some (aI ((i : Nat) : Int)), some (aI ((c : Nat) : Int)), some (aI ((X : Nat) : Int)), some (aI ((60 * i + c : Nat) : Int)), some (aI ((Ck R c : Nat) : Int)), some (aI 0), some (aI ((t : Nat) : Int))]) rfl rfl ?_
        refine E_inc (x := ((t : Nat) : Int)) (w := ((t + 1 : Nat) : Int)) (L' := [some (aA 124), some (aI ((i : Nat) : Int)), some (aI ((c : Nat) : Int)), some (aI ((X : Nat) : Int)), some (aI ((60 * i + c : Nat) : Int)), some (aI ((Ck R c : Nat) : Int)), some (aI 0), some (aI ((t + 1 : Nat) : Int))]) rfl rfl rfl (by omega) (by omega) rfl ?_
        refine E_s (p' := 179) rfl rfl ?_
        refine ih (t + 1) false (by omega) (by omega) (fun g => absurd g (by decide)) (fun _ g => ?_)
        first
        | exact I2 (by assumption) (fun e he => g e (by omega))
        | (have g9 := g t (by omega); first | (rw [if_pos (by omega)] at g9; exact absurd g9 (by assumption)) | (rw [if_neg (by omega)] at g9; exact absurd g9 (by assumption)))
      · refine E_go (p' := 195) (L' := [some (aA 124), some (aI ((i : Nat) : Int)), some (aI ((c : Nat) : Int)), some (aI ((X : Nat) : Int)), some (aI ((60 * i + c : Nat) : Int)), some (aI ((Ck R c : Nat) : Int)), some (aI (bi o)), some (aI ((t : Nat) : Int))]) (st' := []) rfl rfl rfl ?_
        refine E_s (p' := 196) (st' := aA 124 :: _) rfl rfl ?_
        refine E_gA (b := 148) rfl rfl rfl rfl rfl rfl ?_
        refine E_s (p' := 201) (st' := aI ((t : Nat) : Int) :: _) rfl rfl ?_
        refine E_ald (e := t) (N := 60) (v := ((Rtd (Rkn R c y.1 y.2) t))) rfl rfl (rfl) (by omega) (h1 _ (by omega)) ?_
        refine E_s (p' := 204) (st' := aI ((t : Nat) : Int) :: _) rfl rfl ?_
        refine E_s (p' := 205) (st' := aI ((c : Nat) : Int) :: _) rfl rfl ?_
        refine E_icmp_ne (x := ((t : Nat) : Int)) (y := ((c : Nat) : Int)) rfl (by decide) (fun h_3 => ?_) (fun h_3 => ?_)
        · refine E_go (p' := 212) (L' := [some (aA 124), some (aI ((i : Nat) : Int)), some (aI ((c : Nat) : Int)), some (aI ((X : Nat) : Int)), some (aI ((60 * i + c : Nat) : Int)), some (aI ((Ck R c : Nat) : Int)), some (aI (bi o)), some (aI ((t : Nat) : Int))]) (st' := [aI ((Rtd (Rkn R c y.1 y.2) t))]) rfl rfl rfl ?_
          refine E_s (p' := 213) (st' := aA 124 :: _) rfl rfl ?_
          refine E_gA (b := 149) rfl rfl rfl rfl rfl rfl ?_
          refine E_s (p' := 218) (st' := aI ((t : Nat) : Int) :: _) rfl rfl ?_
          refine E_ald (e := t) (N := 60) (v := ((Rtd R t))) rfl rfl (rfl) (by omega) (h2 _ (by omega)) ?_
          refine E_icmp_ne (x := ((Rtd (Rkn R c y.1 y.2) t))) (y := ((Rtd R t))) rfl (by decide) (fun h_4 => ?_) (fun h_4 => ?_)
          · refine E_go (p' := 226) (L' := [some (aA 124), some (aI ((i : Nat) : Int)), some (aI ((c : Nat) : Int)), some (aI ((X : Nat) : Int)), some (aI ((60 * i + c : Nat) : Int)), some (aI ((Ck R c : Nat) : Int)), some (aI (bi o)), some (aI ((t : Nat) : Int))]) (st' := []) rfl rfl rfl ?_
            refine E_s (p' := 227) (st' := aI 0 :: _) rfl rfl ?_
            refine E_s (p' := 229) (L' := [some (aA 124), some (aI ((i : Nat) : Int)), some (aI ((c : Nat) : Int)), some (aI ((X : Nat) : Int)), some (aI ((60 * i + c : Nat) : Int)), some (aI ((Ck R c : Nat) : Int)), some (aI 0), some (aI ((t : Nat) : Int))]) rfl rfl ?_
            refine E_inc (x := ((t : Nat) : Int)) (w := ((t + 1 : Nat) : Int)) (L' := [some (aA 124), some (aI ((i : Nat) : Int)), some (aI ((c : Nat) : Int)), some (aI ((X : Nat) : Int)), some (aI ((60 * i + c : Nat) : Int)), some (aI ((Ck R c : Nat) : Int)), some (aI 0), some (aI ((t + 1 : Nat) : Int))]) rfl rfl rfl (by omega) (by omega) rfl ?_
            refine E_s (p' := 179) rfl rfl ?_
            refine ih (t + 1) false (by omega) (by omega) (fun g => absurd g (by decide)) (fun _ g => ?_)
            first
            | exact I2 (by assumption) (fun e he => g e (by omega))
            | (have g9 := g t (by omega); first | (rw [if_pos (by omega)] at g9; exact absurd g9 (by assumption)) | (rw [if_neg (by omega)] at g9; exact absurd g9 (by assumption)))
          · refine E_go (p' := 222) (L' := [some (aA 124), some (aI ((i : Nat) : Int)), some (aI ((c : Nat) : Int)), some (aI ((X : Nat) : Int)), some (aI ((60 * i + c : Nat) : Int)), some (aI ((Ck R c : Nat) : Int)), some (aI (bi o)), some (aI ((t : Nat) : Int))]) (st' := []) rfl rfl rfl ?_
            refine E_s (p' := 223) (st' := aI 1 :: _) rfl rfl ?_
            refine E_s (p' := 227) rfl rfl ?_
            refine E_s (p' := 229) (L' := [some (aA 124), some (aI ((i : Nat) : Int)), some (aI ((c : Nat) : Int)), some (aI ((X : Nat) : Int)), some (aI ((60 * i + c : Nat) : Int)), some (aI ((Ck R c : Nat) : Int)), some (aI 1), some (aI ((t : Nat) : Int))]) rfl rfl ?_
            refine E_inc (x := ((t : Nat) : Int)) (w := ((t + 1 : Nat) : Int)) (L' := [some (aA 124), some (aI ((i : Nat) : Int)), some (aI ((c : Nat) : Int)), some (aI ((X : Nat) : Int)), some (aI ((60 * i + c : Nat) : Int)), some (aI ((Ck R c : Nat) : Int)), some (aI 1), some (aI ((t + 1 : Nat) : Int))]) rfl rfl rfl (by omega) (by omega) rfl ?_
            refine E_s (p' := 179) rfl rfl ?_
            refine ih (t + 1) true (by omega) (by omega) (fun _ e he => ?_) (fun g => absurd g (by decide))
            by_cases g : e = t
            · subst g
              first | (rw [if_pos (by omega)]; assumption) | (rw [if_neg (by omega)]; assumption)
            · exact I1 (by assumption) e (by omega)
        · refine E_go (p' := 208) (L' := [some (aA 124), some (aI ((i : Nat) : Int)), some (aI ((c : Nat) : Int)), some (aI ((X : Nat) : Int)), some (aI ((60 * i + c : Nat) : Int)), some (aI ((Ck R c : Nat) : Int)), some (aI (bi o)), some (aI ((t : Nat) : Int))]) (st' := [aI ((Rtd (Rkn R c y.1 y.2) t))]) rfl rfl rfl ?_
          refine E_s (p' := 209) (st' := aI ((X : Nat) : Int) :: _) rfl rfl ?_
          refine E_s (p' := 219) rfl rfl ?_
          refine E_icmp_ne (x := ((Rtd (Rkn R c y.1 y.2) t))) (y := ((X : Nat) : Int)) rfl (by decide) (fun h_5 => ?_) (fun h_5 => ?_)
          · refine E_go (p' := 226) (L' := [some (aA 124), some (aI ((i : Nat) : Int)), some (aI ((c : Nat) : Int)), some (aI ((X : Nat) : Int)), some (aI ((60 * i + c : Nat) : Int)), some (aI ((Ck R c : Nat) : Int)), some (aI (bi o)), some (aI ((t : Nat) : Int))]) (st' := []) rfl rfl rfl ?_
            refine E_s (p' := 227) (st' := aI 0 :: _) rfl rfl ?_
            refine E_s (p' := 229) (L' := [some (aA 124), some (aI ((i : Nat) : Int)), some (aI ((c : Nat) : Int)), some (aI ((X : Nat) : Int)), some (aI ((60 * i + c : Nat) : Int)), some (aI ((Ck R c : Nat) : Int)), some (aI 0), some (aI ((t : Nat) : Int))]) rfl rfl ?_
            refine E_inc (x := ((t : Nat) : Int)) (w := ((t + 1 : Nat) : Int)) (L' := [some (aA 124), some (aI ((i : Nat) : Int)), some (aI ((c : Nat) : Int)), some (aI ((X : Nat) : Int)), some (aI ((60 * i + c : Nat) : Int)), some (aI ((Ck R c : Nat) : Int)), some (aI 0), some (aI ((t + 1 : Nat) : Int))]) rfl rfl rfl (by omega) (by omega) rfl ?_
            refine E_s (p' := 179) rfl rfl ?_
            refine ih (t + 1) false (by omega) (by omega) (fun g => absurd g (by decide)) (fun _ g => ?_)
            first
            | exact I2 (by assumption) (fun e he => g e (by omega))
            | (have g9 := g t (by omega); first | (rw [if_pos (by omega)] at g9; exact absurd g9 (by assumption)) | (rw [if_neg (by omega)] at g9; exact absurd g9 (by assumption)))
          · refine E_go (p' := 222) (L' := [some (aA 124), some (aI ((i : Nat) : Int)), some (aI ((c : Nat) : Int)), some (aI ((X : Nat) : Int)), some (aI ((60 * i + c : Nat) : Int)), some (aI ((Ck R c : Nat) : Int)), some (aI (bi o)), some (aI ((t : Nat) : Int))]) (st' := []) rfl rfl rfl ?_
            refine E_s (p' := 223) (st' := aI 1 :: _) rfl rfl ?_
            refine E_s (p' := 227) rfl rfl ?_
            refine E_s (p' := 229) (L' := [some (aA 124), some (aI ((i : Nat) : Int)), some (aI ((c : Nat) : Int)), some (aI ((X : Nat) : Int)), some (aI ((60 * i + c : Nat) : Int)), some (aI ((Ck R c : Nat) : Int)), some (aI 1), some (aI ((t : Nat) : Int))]) rfl rfl ?_
            refine E_inc (x := ((t : Nat) : Int)) (w := ((t + 1 : Nat) : Int)) (L' := [some (aA 124), some (aI ((i : Nat) : Int)), some (aI ((c : Nat) : Int)), some (aI ((X : Nat) : Int)), some (aI ((60 * i + c : Nat) : Int)), some (aI ((Ck R c : Nat) : Int)), some (aI 1), some (aI ((t + 1 : Nat) : Int))]) rfl rfl rfl (by omega) (by omega) rfl ?_
            refine E_s (p' := 179) rfl rfl ?_
            refine ih (t + 1) true (by omega) (by omega) (fun _ e he => ?_) (fun g => absurd g (by decide))
            by_cases g : e = t
            · subst g
              first | (rw [if_pos (by omega)]; assumption) | (rw [if_neg (by omega)]; assumption)
            · exact I1 (by assumption) e (by omega)
end
section
variable {len : Nat} {m : Mm} {Q : Option AV → Sx → Prop} {S : Nat → RD} {r c x : Int}
theorem M_tie (hS : MS S m) (q : ∀ m1, MS (on1 S r (-2) (oTie c x)).2 m1 → Co1 m m1 → Q (some (aI (on1 S r (-2) (oTie c x)).1)) (m1, tl len)) : E 159 0 [some (aA 124), some (aI (r)), some (aI (c)), some (aI (x)), none, none, none, none] [] (m, tl len) Q := by
  refine E_s (p' := 1) (st' := aA 124 :: _) rfl rfl ?_
  refine E_s (p' := 2) (st' := aI (r) :: _) rfl rfl ?_
  refine E_s (p' := 3) (st' := aI (c) :: _) rfl rfl ?_
  refine E_callV (k' := 135) (a := 124) (r := []) (L0 := [some (aA 124), some (aI (r)), some (aI (c))]) rfl rfl rfl rfl rfl rfl rfl rfl rfl rfl ?_
  refine m_isCord hS (fun i ci hi hr hc hcc => ?_) (fun hno => ?_)
  · refine E_go (p' := 6) (L' := [some (aA 124), some (aI (r)), some (aI (c)), some (aI (x)), none, none, none, none]) (st' := [aI 1]) rfl rfl rfl ?_
    obtain ⟨hV, hM⟩ := hS i hi
    have hn60 := hV.1
    have hs40 := hV.2.2.2.2.1
    subst hr hc
    refine E_s (p' := 9) rfl rfl ?_
    refine E_s (p' := 10) (st' := aI (x) :: _) rfl rfl ?_
    refine E_s (p' := 11) (st' := aI 0 :: _) rfl rfl ?_
    refine E_s (p' := 13) (st' := aI 999999 :: _) rfl rfl ?_
    refine E_callL (p' := 16) (L0 := [some (aI (x)), some (aI 0), some (aI 999999)]) rfl rfl rfl ?_
    refine m_in (fun hr1 hr2 => ?_) (fun hr0 => ?_)
    · refine E_go (p' := 16) (L' := [some (aA 124), some (aI ((i : Nat) : Int)), some (aI ((ci : Nat) : Int)), some (aI (x)), none, none, none, none]) (st' := [aI 1]) rfl rfl rfl ?_
      refine E_s (p' := 22) rfl rfl ?_
      obtain ⟨xn, ex⟩ : ∃ y : Nat, x = (y : Int) := ⟨x.toNat, by omega⟩
      subst ex
      have hctz := Ctz_c (S i) ci
      have hn60 := hV.1
      have hk30 := (hV.2.2.1 ci hcc).2.2.2.2.2
      refine E_s (p' := 24) (st' := aI 60 :: _) rfl rfl ?_
      refine E_s (p' := 25) (st' := aI ((i : Nat) : Int) :: _) rfl rfl ?_
      refine E_mul (v := ((60 * i : Nat) : Int)) rfl (by omega) (by omega) ?_
      refine E_s (p' := 27) (st' := aI ((ci : Nat) : Int) :: _) rfl rfl ?_
      refine E_add (v := ((60 * i + ci : Nat) : Int)) rfl (by omega) (by omega) ?_
      refine E_s (p' := 30) (L' := [some (aA 124), some (aI ((i : Nat) : Int)), some (aI ((ci : Nat) : Int)), some (aI ((xn : Nat) : Int)), some (aI ((60 * i + ci : Nat) : Int)), none, none, none]) rfl rfl ?_
      refine E_s (p' := 31) (st' := aA 124 :: _) rfl rfl ?_
      refine E_gA (b := 131) rfl rfl rfl rfl rfl rfl ?_
      refine E_s (p' := 36) (st' := aI ((60 * i + ci : Nat) : Int) :: _) rfl rfl ?_
      refine E_ald (e := 60 * i + ci) (N := 240) (v := (((Ctz (S i) ci)))) rfl rfl (rfl) (by omega) (MR_131 hM (by omega) (by omega)) ?_
      refine E_s (p' := 38) (st' := aI (-1) :: _) rfl rfl ?_
      refine E_icmp_ne (x := (((Ctz (S i) ci)))) (y := (-1)) rfl (by decide) (fun h_1 => ?_) (fun h_1 => ?_)
      · refine E_go (p' := 49) (L' := [some (aA 124), some (aI ((i : Nat) : Int)), some (aI ((ci : Nat) : Int)), some (aI ((xn : Nat) : Int)), some (aI ((60 * i + ci : Nat) : Int)), none, none, none]) (st' := []) rfl rfl rfl ?_
        refine E_s (p' := 50) (st' := aI (-1) :: _) rfl rfl ?_
        refine E_ret rfl rfl ?_
        exact finM_same hS hi rfl q (by unfold oTie; (try simp only [Int.toNat_natCast]); rw [cif_pos (by unfold inC; omega), cif_neg (by omega)]) hS (fun _ _ _ => rfl)
      · refine E_go (p' := 41) (L' := [some (aA 124), some (aI ((i : Nat) : Int)), some (aI ((ci : Nat) : Int)), some (aI ((xn : Nat) : Int)), some (aI ((60 * i + ci : Nat) : Int)), none, none, none]) (st' := []) rfl rfl rfl ?_
        refine E_s (p' := 42) (st' := aA 124 :: _) rfl rfl ?_
        refine E_s (p' := 43) (st' := aI ((i : Nat) : Int) :: _) rfl rfl ?_
        refine E_callV (k' := 147) (a := 124) (r := []) (L0 := [some (aA 124), some (aI ((i : Nat) : Int)), none, none]) rfl rfl rfl rfl rfl rfl rfl rfl rfl rfl ?_
        refine m_read hi hM hV (fun m1 K1 hd1 => ?_)
        refine E_go (p' := 46) (L' := [some (aA 124), some (aI ((i : Nat) : Int)), some (aI ((ci : Nat) : Int)), some (aI ((xn : Nat) : Int)), some (aI ((60 * i + ci : Nat) : Int)), none, none, none]) (st' := [aI (bi (decide (0 < RL (S i))))]) rfl rfl rfl ?_
        have hM1 := K1.MR hM
        have X1 : Mx i m m1 := fun b j hb => K1 b j (by unfold blk at hb; omega) (by unfold blk at hb; omega)
        have Y1 : Co1 m m1 := K1.Co1
        refine E_b_ne0 (b := (decide (0 < RL (S i)))) rfl (by decide) (fun h_2 => ?_) (fun h_2 => ?_)
        · refine E_go (p' := 51) (L' := [some (aA 124), some (aI ((i : Nat) : Int)), some (aI ((ci : Nat) : Int)), some (aI ((xn : Nat) : Int)), some (aI ((60 * i + ci : Nat) : Int)), none, none, none]) (st' := []) rfl rfl rfl ?_
          refine E_s (p' := 52) (st' := aA 124 :: _) rfl rfl ?_
          refine E_s (p' := 53) (st' := aI ((i : Nat) : Int) :: _) rfl rfl ?_
          refine E_s (p' := 54) (st' := aA 124 :: _) rfl rfl ?_
          refine E_gA (b := 149) rfl rfl rfl rfl rfl rfl ?_
          refine E_callV (k' := 157) (a := 124) (r := []) (L0 := [some (aA 124), some (aI ((i : Nat) : Int)), some (aA 149), none]) rfl rfl rfl rfl rfl rfl rfl rfl rfl rfl ?_
          refine m_readAll hi (Or.inr rfl) hM1 hV (fun m2 K2 hd2 hn2 => ?_)
          refine E_go (p' := 60) (L' := [some (aA 124), some (aI ((i : Nat) : Int)), some (aI ((ci : Nat) : Int)), some (aI ((xn : Nat) : Int)), some (aI ((60 * i + ci : Nat) : Int)), none, none, none]) (st' := []) rfl rfl rfl ?_
          have hM2 : MR (S i) i m2 := hM1.of (fun b j g1 g2 => K2 b j (by omega) (by omega) (by omega))
          refine E_s (p' := 61) (st' := aA 124 :: _) rfl rfl ?_
          refine E_gA (b := 132) rfl rfl rfl rfl rfl rfl ?_
          refine E_s (p' := 66) (st' := aI ((60 * i + ci : Nat) : Int) :: _) rfl rfl ?_
          refine E_ald (e := 60 * i + ci) (N := 240) (v := ((Ck (S i) ci : Nat) : Int)) rfl rfl (rfl) (by omega) (MR_132 hM2 hcc rfl) ?_
          refine E_s (p' := 69) (L' := [some (aA 124), some (aI ((i : Nat) : Int)), some (aI ((ci : Nat) : Int)), some (aI ((xn : Nat) : Int)), some (aI ((60 * i + ci : Nat) : Int)), some (aI ((Ck (S i) ci : Nat) : Int)), none, none]) rfl rfl ?_
          refine E_s (p' := 70) (st' := aI 0 :: _) rfl rfl ?_
          refine E_s (p' := 72) (L' := [some (aA 124), some (aI ((i : Nat) : Int)), some (aI ((ci : Nat) : Int)), some (aI ((xn : Nat) : Int)), some (aI ((60 * i + ci : Nat) : Int)), some (aI ((Ck (S i) ci : Nat) : Int)), some (aI 0), none]) rfl rfl ?_
          refine yl_ke (R := S i) (c := ci) (X := xn) (m0 := m2) hi hV hcc hM2 (fun m3 D1 D2 => ?_) (Ck (S i) ci + 1) 0 m2 (by omega) (by omega) (fun e he => absurd he (Nat.not_lt_zero _)) (fun _ _ _ _ _ => rfl)
          have hM3 : MR (S i) i m3 := hM2.of (fun b j g1 g2 => D2 b j (by omega) (by omega) (by omega))
          have X3 : Mx i m (up2 m3 132 (60 * i + ci) 0) := (fun b j hb => (up2_o (fun g => hb (by unfold blk; omega))).trans ((D2 b j (by unfold blk at hb; omega) (by unfold blk at hb; omega) (by unfold blk at hb; omega)).trans ((K2 b j (by unfold blk at hb; omega) (by unfold blk at hb; omega) (by unfold blk at hb; omega)).trans (X1 b j hb))))
          have Y3 : Co1 m (up2 m3 132 (60 * i + ci) 0) := (fun b j hb => (up2_ne (by omega)).trans ((D2 b j (by omega) (by omega) (by omega)).trans ((K2 b j (by omega) (by omega) (by omega)).trans (Y1 b j hb))))
          refine E_s (p' := 146) (st' := aA 124 :: _) rfl rfl ?_
          refine E_gA (b := 132) rfl rfl rfl rfl rfl rfl ?_
          refine E_s (p' := 151) (st' := aI ((60 * i + ci : Nat) : Int) :: _) rfl rfl ?_
          refine E_s (p' := 152) (st' := aI 0 :: _) rfl rfl ?_
          refine E_ast (e := 60 * i + ci) (N := 240) rfl rfl (rfl) (by omega) ?_
          refine E_s (p' := 154) (st' := aA 124 :: _) rfl rfl ?_
          refine E_s (p' := 156) (st' := aI ((60 * i + ci : Nat) : Int) :: _) rfl rfl ?_
          refine E_s (p' := 157) (st' := aI ((xn : Nat) : Int) :: _) rfl rfl ?_
          refine E_callV (k' := 160) (a := 124) (r := []) (L0 := [some (aA 124), some (aI ((60 * i + ci : Nat) : Int)), some (aI ((xn : Nat) : Int)), none, none, none, none, none, none, none, none, none]) rfl rfl rfl rfl rfl rfl rfl rfl rfl rfl ?_
          refine m_ties (R := S i) (c := ci) (X := xn) (m0 := (up2 m3 132 (60 * i + ci) 0)) hi hV hcc (by omega) (hd2.of (fun b j hb => (up2_ne (by omega)).trans (D2 b j (by omega) (by omega) (by omega)))) (of_decide_eq_true (by assumption)) (by omega) (MR.kn (m := m3) hM3 hV (by omega) up2_eq (fun e he => absurd he (Nat.not_lt_zero _)) (fun b j g1 g2 g3 g4 => up2_o g3)) (fun m4 y hpl hk9 => ?_) (fun m4 y hpl hk9 => ?_)
          · refine E_go (p' := 160) (L' := [some (aA 124), some (aI ((i : Nat) : Int)), some (aI ((ci : Nat) : Int)), some (aI ((xn : Nat) : Int)), some (aI ((60 * i + ci : Nat) : Int)), some (aI ((Ck (S i) ci : Nat) : Int)), some (aI ((Ck (S i) ci : Nat) : Int)), none]) (st' := [aI 1]) rfl rfl rfl ?_
            refine E_s (p' := 162) (L' := [some (aA 124), some (aI ((i : Nat) : Int)), some (aI ((ci : Nat) : Int)), some (aI ((xn : Nat) : Int)), some (aI ((60 * i + ci : Nat) : Int)), some (aI ((Ck (S i) ci : Nat) : Int)), some (aI 1), none]) rfl rfl ?_
            refine E_s (p' := 164) (st' := aI 1 :: _) rfl rfl ?_
            refine E_s (p' := 167) rfl rfl ?_
            refine E_s (p' := 168) (st' := aA 124 :: _) rfl rfl ?_
            refine E_s (p' := 169) (st' := aI ((i : Nat) : Int) :: _) rfl rfl ?_
            refine E_s (p' := 170) (st' := aA 124 :: _) rfl rfl ?_
            refine E_gA (b := 148) rfl rfl rfl rfl rfl rfl ?_
            refine E_callV (k' := 157) (a := 124) (r := []) (L0 := [some (aA 124), some (aI ((i : Nat) : Int)), some (aA 148), none]) rfl rfl rfl rfl rfl rfl rfl rfl rfl rfl ?_
            refine m_readAll (R := Rkn (S i) ci y.1 y.2) hi (Or.inl rfl) hk9.2.1 hk9.1 (fun m5 K5 hd5 hn5 => ?_)
            refine E_go (p' := 176) (L' := [some (aA 124), some (aI ((i : Nat) : Int)), some (aI ((ci : Nat) : Int)), some (aI ((xn : Nat) : Int)), some (aI ((60 * i + ci : Nat) : Int)), some (aI ((Ck (S i) ci : Nat) : Int)), some (aI 1), none]) (st' := []) rfl rfl rfl ?_
            have hM5 : MR (Rkn (S i) ci y.1 y.2) i m5 := hk9.2.1.of (fun b j g1 g2 => K5 b j (by omega) (by omega) (by omega))
            refine E_s (p' := 177) (st' := aI 0 :: _) rfl rfl ?_
            refine E_s (p' := 179) (L' := [some (aA 124), some (aI ((i : Nat) : Int)), some (aI ((ci : Nat) : Int)), some (aI ((xn : Nat) : Int)), some (aI ((60 * i + ci : Nat) : Int)), some (aI ((Ck (S i) ci : Nat) : Int)), some (aI 1), some (aI 0)]) rfl rfl ?_
            have X4 : Mx i m m4 := X3.tr hk9.2.2.1
            have Y4 : Co1 m m4 := fun b j hb => (hk9.2.2.2 b j (by omega)).trans (Y3 b j hb)
            have X5 : Mx i m m5 := X4.tr (fun b j hb => K5 b j (by unfold blk at hb; omega) (by unfold blk at hb; omega) (by unfold blk at hb; omega))
            have Y5 : Co1 m m5 := fun b j hb => (K5 b j (by omega) (by omega) (by omega)).trans (Y4 b j hb)
            refine yl_cm (R := S i) (c := ci) (X := xn) (y := y) hi hV hcc hM5 hn5 (fun d hd => (K5 _ _ (by omega) (by omega) (by omega)).trans ((hk9.2.2.2 _ _ (by omega)).trans ((up2_ne (by omega)).trans ((D2 _ _ (by omega) (by omega) (by omega)).trans (hn2 d hd))))) (fun o c1 c0 => ?_) (Cn (S i) + 1) 0 true (by omega) (by omega) (fun _ e he => absurd he (Nat.not_lt_zero _)) (fun g => absurd g (by decide))
            refine E_s (p' := 237) (st' := aI (bi o) :: _) rfl rfl ?_
            refine E_b_eq0 (b := o) rfl (by decide) (fun h_3 => ?_) (fun h_3 => ?_)
            · refine E_go (p' := 247) (L' := [some (aA 124), some (aI ((i : Nat) : Int)), some (aI ((ci : Nat) : Int)), some (aI ((xn : Nat) : Int)), some (aI ((60 * i + ci : Nat) : Int)), some (aI ((Ck (S i) ci : Nat) : Int)), some (aI (bi o)), some (aI ((Cn (S i) : Nat) : Int))]) (st' := []) rfl rfl rfl ?_
              refine m_back (R := S i) (c := ci) (X := xn) (y := y) (o := o) hi hV hcc hk9.1 hM5 (fun e he => ⟨((K5 _ _ (by omega) (by omega) (by omega)).trans ((hk9.2.2.2 _ _ (by omega)).trans (up2_ne (by omega)))).trans (D1 e he).1, ((K5 _ _ (by omega) (by omega) (by omega)).trans ((hk9.2.2.2 _ _ (by omega)).trans (up2_ne (by omega)))).trans (D1 e he).2.1, ((K5 _ _ (by omega) (by omega) (by omega)).trans ((hk9.2.2.2 _ _ (by omega)).trans (up2_ne (by omega)))).trans (D1 e he).2.2⟩) (fun m6 B1 B2 B3 => ?_)
              exact finMx hS hi rfl q (by unfold oTie; simp only [Int.toNat_natCast]; rw [cif_pos (by unfold inC; omega), cif_pos (by omega)]; unfold tieN; rw [hpl]; exact cif_neg (c0 (by assumption))) hV B1 (X5.tr B2) (fun b j hb => (B3 b j (by omega)).trans (Y5 b j hb))
            · refine E_go (p' := 240) (L' := [some (aA 124), some (aI ((i : Nat) : Int)), some (aI ((ci : Nat) : Int)), some (aI ((xn : Nat) : Int)), some (aI ((60 * i + ci : Nat) : Int)), some (aI ((Ck (S i) ci : Nat) : Int)), some (aI (bi o)), some (aI ((Cn (S i) : Nat) : Int))]) (st' := []) rfl rfl rfl ?_
              refine E_s (p' := 241) (st' := aA 124 :: _) rfl rfl ?_
              refine E_s (p' := 242) (st' := aI ((i : Nat) : Int) :: _) rfl rfl ?_
              refine E_callV (k' := 133) (a := 124) (r := []) (L0 := [some (aA 124), some (aI ((i : Nat) : Int))]) rfl rfl rfl rfl rfl rfl rfl rfl rfl rfl ?_
              refine m_changes (i := i) (by omega) ?_
              refine E_go (p' := 245) (L' := [some (aA 124), some (aI ((i : Nat) : Int)), some (aI ((ci : Nat) : Int)), some (aI ((xn : Nat) : Int)), some (aI ((60 * i + ci : Nat) : Int)), some (aI ((Ck (S i) ci : Nat) : Int)), some (aI (bi o)), some (aI ((Cn (S i) : Nat) : Int))]) (st' := []) rfl rfl rfl ?_
              refine E_s (p' := 246) (st' := aI ((xn : Nat) : Int) :: _) rfl rfl ?_
              refine E_ret rfl rfl ?_
              exact finMx hS hi rfl q (by unfold oTie; (try simp only [Int.toNat_natCast]); rw [cif_pos (by unfold inC; omega), cif_pos (by omega)]; unfold tieN; rw [hpl]; exact cif_pos (c1 (by assumption))) hk9.1 (hM5.of (fun b j g1 g2 => up2_ne (by omega))) (X5.up (by unfold blk; omega)) (fun b j hb => (up2_ne (by omega)).trans (Y5 b j hb))
          · refine E_go (p' := 160) (L' := [some (aA 124), some (aI ((i : Nat) : Int)), some (aI ((ci : Nat) : Int)), some (aI ((xn : Nat) : Int)), some (aI ((60 * i + ci : Nat) : Int)), some (aI ((Ck (S i) ci : Nat) : Int)), some (aI ((Ck (S i) ci : Nat) : Int)), none]) (st' := [aI 0]) rfl rfl rfl ?_
            refine E_s (p' := 162) (L' := [some (aA 124), some (aI ((i : Nat) : Int)), some (aI ((ci : Nat) : Int)), some (aI ((xn : Nat) : Int)), some (aI ((60 * i + ci : Nat) : Int)), some (aI ((Ck (S i) ci : Nat) : Int)), some (aI 0), none]) rfl rfl ?_
            refine E_s (p' := 164) (st' := aI 0 :: _) rfl rfl ?_
            refine E_s (p' := 235) rfl rfl ?_
            refine E_s (p' := 237) (st' := aI 0 :: _) rfl rfl ?_
            refine E_s (p' := 247) rfl rfl ?_
            have X4 : Mx i m m4 := X3.tr hk9.2.2.1
            have Y4 : Co1 m m4 := fun b j hb => (hk9.2.2.2 b j (by omega)).trans (Y3 b j hb)
            refine m_back (R := S i) (c := ci) (X := xn) (y := y) (o := false) hi hV hcc hk9.1 hk9.2.1 (fun e he => ⟨((hk9.2.2.2 _ _ (by omega)).trans (up2_ne (by omega))).trans (D1 e he).1, ((hk9.2.2.2 _ _ (by omega)).trans (up2_ne (by omega))).trans (D1 e he).2.1, ((hk9.2.2.2 _ _ (by omega)).trans (up2_ne (by omega))).trans (D1 e he).2.2⟩) (fun m6 B1 B2 B3 => ?_)
            exact finMx hS hi rfl q (by unfold oTie; simp only [Int.toNat_natCast]; rw [cif_pos (by unfold inC; omega), cif_pos (by omega)]; unfold tieN; rw [hpl]) hV B1 (X4.tr B2) (fun b j hb => (B3 b j (by omega)).trans (Y4 b j hb))
        · refine E_go (p' := 49) (L' := [some (aA 124), some (aI ((i : Nat) : Int)), some (aI ((ci : Nat) : Int)), some (aI ((xn : Nat) : Int)), some (aI ((60 * i + ci : Nat) : Int)), none, none, none]) (st' := []) rfl rfl rfl ?_
          refine E_s (p' := 50) (st' := aI (-1) :: _) rfl rfl ?_
          refine E_ret rfl rfl ?_
          exact finM_same hS hi rfl q (by unfold oTie; (try simp only [Int.toNat_natCast]); rw [cif_pos (by unfold inC; omega), cif_pos (by omega)]; unfold tieN; rw [show plN (S i) ci xn = none by unfold plN; exact cif_neg (fun g => absurd g.1 (of_decide_eq_false (by assumption)))]) (K1.MS hS) Y1
    · refine E_go (p' := 16) (L' := [some (aA 124), some (aI ((i : Nat) : Int)), some (aI ((ci : Nat) : Int)), some (aI (x)), none, none, none, none]) (st' := [aI 0]) rfl rfl rfl ?_
      refine E_s (p' := 19) rfl rfl ?_
      refine E_s (p' := 21) (st' := aI (-2) :: _) rfl rfl ?_
      refine E_ret rfl rfl ?_
      exact finM_same hS hi rfl q (by unfold oTie; (try simp only [Int.toNat_natCast]); rw [cif_neg (by first | (unfold inC; omega) | exact fun g9 => absurd g9.2 (by omega))]) hS (fun _ _ _ => rfl)
  · refine E_go (p' := 6) (L' := [some (aA 124), some (aI (r)), some (aI (c)), some (aI (x)), none, none, none, none]) (st' := [aI 0]) rfl rfl rfl ?_
    refine E_s (p' := 19) rfl rfl ?_
    refine E_s (p' := 21) (st' := aI (-2) :: _) rfl rfl ?_
    refine E_ret rfl rfl ?_
    rcases hno with hr | ⟨i, hi, hr, hno⟩
    · exact finM_out hS q hr
    · exact finM_same hS hi hr q (by unfold oTie; rw [cif_neg (fun g9 => hno g9.1)]) hS (fun _ _ _ => rfl)
end

