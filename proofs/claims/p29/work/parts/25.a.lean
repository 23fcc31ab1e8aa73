/-! tie: the KNOTS of a number, one behind the other -/
theorem upf_upf {α : Type} {f : Nat → α} {i : Nat} {x y : α} : upf (upf f i x) i y = upf f i y := by
  funext j
  unfold upf
  split <;> rfl
theorem Rkn_kn {R : RD} {c n n' : Nat} {P P' : Nat → Nat} : Rkn (Rkn R c n P) c n' P' = Rkn R c n' P' := by
  show mkR (Cn R) (Cq R) (Cg R) (Co R) (Cc R) (Cl R) (Ct R) (upf (upf (Ck R) c n) c n') (upf (upf (Cp R) c P) c P') (Sn R) (Sw R) (Sp R) (Sq R) = _
  rw [upf_upf, upf_upf]
  rfl
theorem Ckn {R : RD} {c n : Nat} {P : Nat → Nat} : Ck (Rkn R c n P) c = n := upf_eq
theorem Cpn {R : RD} {c n : Nat} {P : Nat → Nat} : Cp (Rkn R c n P) c = P := upf_eq
/-- a row of KNOTS: how many, and each of them -/
abbrev KR : Type := Nat × (Nat → Nat)
/-- a KNOT to be tied: height, sort, turns -/
abbrev KI : Type := Int × (Nat × Nat)
def fitK (len n : Nat) (P : Nat → Nat) (h : Int) : Prop := n < 30 ∧ 1 ≤ h ∧ h ≤ (len : Int) ∧ ∀ k, k < n → (ht (P k) : Int) ≠ h
def inK (n : Nat) (P : Nat → Nat) (q : KI) : Nat → Nat := insP P (posn P q.1.toNat n) (pck q.1.toNat q.2.1 q.2.2)
noncomputable def stK (len : Nat) (x : KR) (q : KI) : Option KR := cif (fitK len x.1 x.2 q.1) (some (x.1 + 1, inK x.1 x.2 q)) none
noncomputable def stO (len : Nat) (o : Option KR) (q : KI) : Option KR := o.bind fun x => stK len x q
def itk (q : KI) : Prop := q.2.1 < 4 ∧ q.2.2 < 16
theorem insP_comm {P : Nat → Nat} {a b x y : Nat} (h : a ≤ b) : insP (insP P a x) (b + 1) y = insP (insP P b y) a x := by
  funext i
  unfold insP
  rcases Nat.lt_trichotomy i a with g | g | g
  · rw [if_pos (show i < b + 1 by omega), if_pos g, if_pos g, if_pos (show i < b by omega)]
  · subst g
    rw [if_pos (show i < b + 1 by omega), if_neg (by omega), if_pos rfl, if_neg (by omega), if_pos rfl]
  · rw [if_neg (show ¬ i < a by omega), if_neg (show ¬ i = a by omega), if_neg (show ¬ i < a by omega), if_neg (show ¬ i = a by omega)]
    rcases Nat.lt_trichotomy i (b + 1) with g2 | g2 | g2
    · rw [if_pos g2, if_pos (show i - 1 < b by omega)]
    · rw [if_neg (by omega), if_pos g2, if_neg (by omega), if_pos (by omega)]
    · rw [if_neg (by omega), if_neg (by omega), if_neg (show ¬ i - 1 < a by omega), if_neg (show ¬ i - 1 = a by omega), if_neg (by omega), if_neg (by omega)]
theorem insP_lt {P : Nat → Nat} {k x i : Nat} (h : i < k) : insP P k x i = P i := if_pos h
theorem insP_at {P : Nat → Nat} {k x : Nat} : insP P k x k = x := by unfold insP; rw [if_neg (by omega), if_pos rfl]
theorem insP_gt {P : Nat → Nat} {k x i : Nat} (h : k < i) : insP P k x i = P (i - 1) := by unfold insP; rw [if_neg (by omega), if_neg (by omega)]
theorem two_ins {P : Nat → Nat} {n hx hy x y : Nat} (ex : ht x = hx) (ey : ht y = hy) (h : hx < hy) : insP (insP P (posn P hx n) x) (posn (insP P (posn P hx n) x) hy (n + 1)) y = insP (insP P (posn P hy n) y) (posn (insP P (posn P hy n) y) hx (n + 1)) x := by
  have a1 := posn_le P hx n
  have a2 := posn_le P hy n
  have sx := posn_sp P hx n
  have sy := posn_sp P hy n
  have hle : posn P hx n ≤ posn P hy n := by
    rcases Nat.lt_or_ge (posn P hy n) (posn P hx n) with g | g
    · have g1 := sx.1 _ g
      have g2 := sy.2 (by omega)
      omega
    · exact g
  rw [← posn_u (P := insP P (posn P hx n) x) (h := hy) (n := n + 1) (k := posn P hy n + 1) (by omega) (fun i hi => ?_) (fun g => ?_), ← posn_u (P := insP P (posn P hy n) y) (h := hx) (n := n + 1) (k := posn P hx n) (by omega) (fun i hi => ?_) (fun g => ?_)]
  · exact insP_comm hle
  · rw [insP_lt (by omega)]
    exact sx.1 i hi
  · rcases Nat.lt_or_ge (posn P hx n) (posn P hy n) with g2 | g2
    · rw [insP_lt g2]; exact sx.2 (by omega)
    · have e9 : posn P hx n = posn P hy n := by omega
      rw [e9, insP_at, ey]
      omega
  · rcases Nat.lt_trichotomy i (posn P hx n) with g | g | g
    · rw [insP_lt g]
      have := sx.1 i g
      omega
    · subst g; rw [insP_at, ex]; exact h
    · rw [insP_gt g]; exact sy.1 _ (by omega)
  · rw [insP_gt (by omega), Nat.add_sub_cancel]
    exact sy.2 (by omega)
def twK (len : Nat) (x : KR) (p q : KI) : Prop := x.1 + 1 < 30 ∧ ((1 ≤ p.1 ∧ p.1 ≤ (len : Int)) ∧ (1 ≤ q.1 ∧ q.1 ≤ (len : Int))) ∧ ((∀ k, k < x.1 → (ht (x.2 k) : Int) ≠ p.1) ∧ ∀ k, k < x.1 → (ht (x.2 k) : Int) ≠ q.1) ∧ p.1 ≠ q.1
theorem stK_two {len : Nat} {x : KR} {p q : KI} (hp : itk p) : stO len (stK len x p) q = cif (twK len x p q) (some (x.1 + 2, inK (x.1 + 1) (inK x.1 x.2 p) q)) none := by
  have a1 := posn_le x.2 p.1.toNat x.1
  unfold stK
  by_cases h : fitK len x.1 x.2 p.1
  · rw [cif_pos h]
    show stK len _ q = _
    unfold stK
    obtain ⟨h1, h2, h3, h4⟩ := h
    have e0 := pck_ht (h := p.1.toNat) hp.1 hp.2
    by_cases g : fitK len (x.1 + 1) (inK x.1 x.2 p) q.1
    · rw [cif_pos g]
      obtain ⟨g1, g2, g3, g4⟩ := g
      rw [cif_pos]
      refine ⟨g1, ⟨⟨h2, h3⟩, g2, g3⟩, ⟨h4, fun k hk => ?_⟩, ?_⟩
      · rcases Nat.lt_or_ge k (posn x.2 p.1.toNat x.1) with g5 | g5
        · have := g4 k (by omega)
          unfold inK at this
          rw [insP_lt g5] at this
          exact this
        · have := g4 (k + 1) (by omega)
          unfold inK at this
          rw [insP_gt (by omega), Nat.add_sub_cancel] at this
          exact this
      · have := g4 (posn x.2 p.1.toNat x.1) (by omega)
        unfold inK at this
        rw [insP_at, e0] at this
        omega
    · rw [cif_neg g, cif_neg]
      intro ⟨k1, ⟨_, k2, k3⟩, ⟨_, k4⟩, k5⟩
      refine g ⟨k1, k2, k3, fun k hk => ?_⟩
      unfold inK
      rcases Nat.lt_trichotomy k (posn x.2 p.1.toNat x.1) with g5 | g5 | g5
      · rw [insP_lt g5]; exact k4 k (by omega)
      · subst g5; rw [insP_at, e0]; omega
      · rw [insP_gt g5]; exact k4 _ (by omega)
  · rw [cif_neg h, cif_neg]
    · rfl
    · intro ⟨k1, ⟨⟨k2, k3⟩, _⟩, ⟨k4, _⟩, _⟩
      exact h ⟨by omega, k2, k3, k4⟩
theorem inK_two {n : Nat} {P : Nat → Nat} {p q : KI} (hp : itk p) (hq : itk q) (h1 : 1 ≤ p.1) (h2 : 1 ≤ q.1) (hne : p.1 ≠ q.1) : inK (n + 1) (inK n P p) q = inK (n + 1) (inK n P q) p := by
  unfold inK
  rcases (show p.1.toNat < q.1.toNat ∨ q.1.toNat < p.1.toNat by omega) with g | g
  · exact two_ins (pck_ht hp.1 hp.2) (pck_ht hq.1 hq.2) g
  · exact (two_ins (pck_ht hq.1 hq.2) (pck_ht hp.1 hp.2) g).symm
theorem stO_comm {len : Nat} {p q : KI} (hp : itk p) (hq : itk q) (o : Option KR) : stO len (stO len o p) q = stO len (stO len o q) p := by
  cases o with
  | none => rfl
  | some x =>
    show stO len (stK len x p) q = stO len (stK len x q) p
    rw [stK_two hp, stK_two hq]
    by_cases h : twK len x p q
    · rw [cif_pos h]
      obtain ⟨h1, ⟨h2, h3⟩, ⟨h4, h5⟩, h6⟩ := h
      rw [cif_pos ⟨h1, ⟨h3, h2⟩, ⟨h5, h4⟩, Ne.symm h6⟩, inK_two hp hq h2.1 h3.1 h6]
    · rw [cif_neg h, cif_neg]
      intro ⟨h1, ⟨h2, h3⟩, ⟨h4, h5⟩, h6⟩
      exact h ⟨h1, ⟨h3, h2⟩, ⟨h5, h4⟩, Ne.symm h6⟩
noncomputable def fdK (len : Nat) (o : Option KR) (l : List KI) : Option KR := l.foldl (stO len) o
theorem fdK_perm {len : Nat} {l l' : List KI} (h : l.Perm l') (hi : ∀ q, q ∈ l → itk q) (o : Option KR) : fdK len o l = fdK len o l' := h.foldl_eq' (fun p hp q hq z => stO_comm (hi p hp) (hi q hq) z) o
theorem fdK_app {len : Nat} {l l' : List KI} {o : Option KR} : fdK len o (l ++ l') = fdK len (fdK len o l) l' := List.foldl_append
theorem fdK_none {len : Nat} : ∀ l : List KI, fdK len none l = none := by
  intro l
  induction l with
  | nil => rfl
  | cons q l ih => exact ih
theorem fdK_one {len : Nat} {x : KR} {q : KI} : fdK len (some x) [q] = stK len x q := rfl
def itU (f d : Nat) : KI := ((f : Int), if d = 1 then (2, 0) else (1, d))
def itS (f e i : Nat) : KI := ((f : Int) - (3 * e / 2 : Int) + 3 * (i : Int), (0, 0))
def smK (f e : Nat) : Nat → List KI
  | 0 => []
  | i + 1 => smK f e i ++ [itS f e i]
/-- the KNOTS of a digit -/
def dgK (f : Nat) (u : Bool) (d : Nat) : List KI := if d = 0 then [] else bif u then [itU f d] else smK f (d - 1) d
def Ru (R : RD) : Nat := bif Run R then 1 else 10
/-- the KNOTS of a LEVEL -/
def lvK (R : RD) (x l : Nat) : List KI := dgK (RF R l) (Run R && decide (l + 1 = RL R)) (x / Rct R l % 10)
def upK (R : RD) (x : Nat) : Nat → List KI
  | 0 => []
  | l + 1 => upK R x l ++ lvK R x l
def dnK (R : RD) (x : Nat) : Nat → List KI
  | 0 => []
  | j + 1 => dnK R x j ++ lvK R x (RL R - 1 - j)
theorem dn_up (R : RD) (x : Nat) : ∀ j, j ≤ RL R → (upK R x (RL R - j) ++ dnK R x j).Perm (upK R x (RL R)) := by
  intro j
  induction j with
  | zero => intro _; rw [Nat.sub_zero]; show (upK R x (RL R) ++ []).Perm _; rw [List.append_nil]
  | succ j ih =>
    intro hj
    refine List.Perm.trans ?_ (ih (by omega))
    have e9 : upK R x (RL R - j) = upK R x (RL R - (j + 1)) ++ lvK R x (RL R - 1 - j) := by
      rw [show RL R - j = (RL R - (j + 1)) + 1 by omega, show RL R - 1 - j = RL R - (j + 1) by omega]
      rfl
    rw [e9]
    show (upK R x (RL R - (j + 1)) ++ (dnK R x j ++ lvK R x (RL R - 1 - j))).Perm _
    rw [List.append_assoc]
    exact List.Perm.append_left _ List.perm_append_comm
theorem itS_it {f e i : Nat} : itk (itS f e i) := ⟨(show (0 : Nat) < 4 by decide), (show (0 : Nat) < 16 by decide)⟩
theorem smK_it {f e : Nat} {q : KI} : ∀ i, q ∈ smK f e i → itk q := by
  intro i
  induction i with
  | zero => intro h; cases h
  | succ i ih =>
    intro h
    rcases List.mem_append.mp h with g | g
    · exact ih g
    · rw [List.mem_singleton.mp g]; exact itS_it
theorem itU_it {f d : Nat} (hd : d ≤ 9) : itk (itU f d) := by
  unfold itU itk
  by_cases h : d = 1
  · simp only [if_pos h]; decide
  · simp only [if_neg h]; omega
theorem dgK_it {f d : Nat} {u : Bool} {q : KI} (hd : d ≤ 9) (h : q ∈ dgK f u d) : itk q := by
  unfold dgK at h
  by_cases g : d = 0
  · rw [if_pos g] at h; cases h
  · rw [if_neg g] at h
    cases u
    · exact smK_it _ h
    · rw [List.mem_singleton.mp h]; exact itU_it hd
theorem upK_it {R : RD} {x : Nat} {q : KI} : ∀ l, q ∈ upK R x l → itk q := by
  intro l
  induction l with
  | zero => intro h; cases h
  | succ l ih =>
    intro h
    rcases List.mem_append.mp h with g | g
    · exact ih g
    · exact dgK_it (by have := Nat.mod_lt (x / Rct R l) (show 0 < 10 by decide); omega) g
theorem fdK_dn (R : RD) (x len : Nat) (o : Option KR) : fdK len o (dnK R x (RL R)) = fdK len o (upK R x (RL R)) := by
  have h := dn_up R x (RL R) (Nat.le_refl _)
  rw [Nat.sub_self] at h
  have h : (dnK R x (RL R)).Perm (upK R x (RL R)) := h
  exact (fdK_perm h.symm (fun q hq => upK_it _ hq) o).symm
def K0 : KR := (0, fun _ => 0)
/-- the KNOTS of a number on a CORD; none: it has none -/
noncomputable def plN (R : RD) (c x : Nat) : Option KR := cif (0 < RL R ∧ x % Ru R = 0 ∧ x / Ru R / 10 ^ RL R = 0) (fdK (Cl R c) (some K0) (upK R x (RL R))) none
def tdD (R X : RD) (c : Nat) (x : Int) : Prop := ∀ d, d < Cn R → Rtd X d = if d = c then x else Rtd R d
noncomputable def tieN (c x : Nat) (R : RD) : Int × RD := match plN R c x with
  | none => (-1, R)
  | some k => cif (tdD R (Rkn R c k.1 k.2) c (x : Int)) ((x : Int), Rkn R c k.1 k.2) (-1, R)
noncomputable def oTie (c x : Int) (R : RD) : Int × RD := cif (inC R c ∧ 0 ≤ x ∧ x ≤ 999999) (cif (Ct R c.toNat = 0) (tieN c.toNat x.toNat R) (-1, R)) (-2, R)
/-- a row that may lie on the CORD -/
def okK (R : RD) (c : Nat) (x : KR) : Prop := VR (Rkn R c x.1 x.2)
theorem okK.fit {R : RD} {c : Nat} {x : KR} {q : KI} (hV : okK R c x) (hc : c < Cn R) (ht0 : Ct R c = 0) (h : fitK (Cl R c) x.1 x.2 q.1) (hq : itk q) (hk : kok (pck 0 q.2.1 q.2.2)) : okK R c (x.1 + 1, inK x.1 x.2 q) := by
  obtain ⟨h1, h2, h3, h4⟩ := h
  unfold okK at hV ⊢
  have e0 := pck_ht (h := q.1.toNat) hq.1 hq.2
  have e1 := pck_so (h := q.1.toNat) hq.1 hq.2
  have e2 := pck_tu (h := q.1.toNat) (s := q.2.1) hq.2
  have e3 := pck_so (h := 0) hq.1 hq.2
  have e4 := pck_tu (h := 0) (s := q.2.1) hq.2
  have hps := posn_sp x.2 q.1.toNat x.1
  have := V_ins (R := Rkn R c x.1 x.2) (c := c) (x := pck q.1.toNat q.2.1 q.2.2) (k := posn x.2 q.1.toNat x.1) hV hc (by rw [Ckn]; exact h1) (by unfold kok at hk ⊢; rw [e1, e2]; rw [e3, e4] at hk; exact hk) (by rw [e0]; exact ⟨by omega, (show q.1.toNat ≤ Cl R c by omega), Or.inl ht0⟩) (by rw [Ckn, Cpn, e0]; intro i hi g; exact h4 i hi (by omega)) (by rw [Ckn]; exact posn_le _ _ _) (by rw [Cpn, e0]; exact hps.1) (by rw [Ckn, Cpn, e0]; exact hps.2)
  rw [Rkn_kn, Ckn, Cpn] at this
  exact this
theorem okK0 {R : RD} {c : Nat} (hV : VR R) : okK R c K0 := V_kn hV (by show 0 ≤ 30; omega) (fun _ k hk => absurd hk (Nat.not_lt_zero _))
