set_option maxRecDepth 100000 in
theorem hm_3_0 {len : Nat} {m : Mm} : hasM (m, tl len) 3 0 = true := rfl
set_option maxRecDepth 100000 in
theorem hm_3_1 {len : Nat} {m : Mm} : hasM (m, tl len) 3 1 = true := rfl
set_option maxRecDepth 100000 in
theorem hm_3_2 {len : Nat} {m : Mm} : hasM (m, tl len) 3 2 = true := rfl
set_option maxRecDepth 100000 in
theorem hm_3_3 {len : Nat} {m : Mm} : hasM (m, tl len) 3 3 = true := rfl
set_option maxRecDepth 100000 in
theorem hm_8_0 {len : Nat} {m : Mm} : hasM (m, tl len) 8 0 = true := rfl
set_option maxRecDepth 100000 in
theorem hm_15_0 {len : Nat} {m : Mm} : hasM (m, tl len) 15 0 = true := rfl
set_option maxRecDepth 100000 in
theorem hm_15_1 {len : Nat} {m : Mm} : hasM (m, tl len) 15 1 = true := rfl
set_option maxRecDepth 100000 in
theorem hm_15_2 {len : Nat} {m : Mm} : hasM (m, tl len) 15 2 = true := rfl
/-! the rounds that make SPANS closer -/
abbrev Sp2 : Type := (Nat → Int) × (Nat → Int)
def kw (p : Sp2) (c : Nat) (l g : Int) : Sp2 := (upf p.1 c (max (p.1 c) l), upf p.2 c (min (p.2 c) g))
def smI (f : Nat → Int) : Nat → Int
  | 0 => 0
  | n + 1 => smI f n + f n
def lsS (R : RD) (f : Nat → Int) (s k : Nat) : Int := smI (fun j => f (Sq R s j)) k
def nrP (R : RD) (lo hi : Nat → Int) (s : Nat) (p : Sp2) : Nat → Sp2
  | 0 => kw p (Sw R s) (lsS R lo s (Sp R s)) (lsS R hi s (Sp R s))
  | k + 1 => kw (nrP R lo hi s p k) (Sq R s k) (lo (Sw R s) - lsS R hi s (Sp R s) + hi (Sq R s k)) (hi (Sw R s) - lsS R lo s (Sp R s) + lo (Sq R s k))
def rdS (R : RD) (lo hi : Nat → Int) : Nat → Sp2
  | 0 => (lo, hi)
  | s + 1 => if 2 ≤ Sp R s then nrP R lo hi s (rdS R lo hi s) (Sp R s) else rdS R lo hi s
/-- SPANS that are some, within 0 .. M -/
def bnd (n : Nat) (lo hi : Nat → Int) : Prop := ∀ c, c < n → 0 ≤ lo c ∧ lo c ≤ hi c ∧ hi c ≤ 33000000
theorem lsS_b {R : RD} (hV : VR R) {lo hi : Nat → Int} (hb : bnd (Cn R) lo hi) {s : Nat} (hs : s < Sn R) : ∀ k, k ≤ Sp R s → 0 ≤ lsS R lo s k ∧ lsS R lo s k ≤ lsS R hi s k ∧ lsS R hi s k ≤ 33000000 * k := by
  intro k
  induction k with
  | zero => intro _; exact ⟨Int.le_refl _, Int.le_refl _, Int.le_refl _⟩
  | succ k ih =>
    intro hk
    obtain ⟨h1, h2, h3⟩ := ih (by omega)
    obtain ⟨g1, g2, g3⟩ := hb _ (hV.2.2.2.2.2.2 s k hs (by omega))
    show 0 ≤ lsS R lo s k + lo (Sq R s k) ∧ lsS R lo s k + lo (Sq R s k) ≤ lsS R hi s k + hi (Sq R s k) ∧ lsS R hi s k + hi (Sq R s k) ≤ _
    omega
theorem kw_m {p : Sp2} {c : Nat} {l g : Int} (x : Nat) : p.1 x ≤ (kw p c l g).1 x ∧ (kw p c l g).2 x ≤ p.2 x := by
  unfold kw
  show p.1 x ≤ upf _ _ _ x ∧ upf _ _ _ x ≤ p.2 x
  by_cases h : x = c
  · rw [h, upf_eq, upf_eq]; omega
  · rw [upf_ne h, upf_ne h]; omega
theorem nrP_m {R : RD} {lo hi : Nat → Int} {s : Nat} {p : Sp2} : ∀ k x, p.1 x ≤ (nrP R lo hi s p k).1 x ∧ (nrP R lo hi s p k).2 x ≤ p.2 x := by
  intro k
  induction k with
  | zero => intro x; exact kw_m x
  | succ k ih =>
    intro x
    have h1 := ih x
    have h2 := kw_m (p := nrP R lo hi s p k) (c := Sq R s k) (l := lo (Sw R s) - lsS R hi s (Sp R s) + hi (Sq R s k)) (g := hi (Sw R s) - lsS R lo s (Sp R s) + lo (Sq R s k)) x
    exact ⟨Int.le_trans h1.1 h2.1, Int.le_trans h2.2 h1.2⟩
theorem rdS_m {R : RD} {lo hi : Nat → Int} : ∀ s x, lo x ≤ (rdS R lo hi s).1 x ∧ (rdS R lo hi s).2 x ≤ hi x := by
  intro s
  induction s with
  | zero => intro x; exact ⟨Int.le_refl _, Int.le_refl _⟩
  | succ s ih =>
    intro x
    show lo x ≤ (if 2 ≤ Sp R s then nrP R lo hi s (rdS R lo hi s) (Sp R s) else rdS R lo hi s).1 x ∧ (if 2 ≤ Sp R s then nrP R lo hi s (rdS R lo hi s) (Sp R s) else rdS R lo hi s).2 x ≤ hi x
    have h1 := ih x
    by_cases h : 2 ≤ Sp R s
    · rw [if_pos h]
      have h2 := nrP_m (R := R) (lo := lo) (hi := hi) (s := s) (p := rdS R lo hi s) (Sp R s) x
      exact ⟨Int.le_trans h1.1 h2.1, Int.le_trans h2.2 h1.2⟩
    · rw [if_neg h]; exact h1
/-- whether a round changes something of the first n -/
def rdC (R : RD) (lo hi : Nat → Int) (n : Nat) : Bool := (List.range n).any fun c => decide ((rdS R lo hi (Sn R)).1 c ≠ lo c) || decide ((rdS R lo hi (Sn R)).2 c ≠ hi c)
/-- whether a SPAN of the first n is none -/
def brk (lo hi : Nat → Int) (n : Nat) : Bool := (List.range n).any fun c => decide (hi c < lo c)
/-- the rounds from the i-th on, d of them left: the answer, and the SPANS as they ended -/
def rnd (R : RD) : Nat → Nat → (Nat → Int) → (Nat → Int) → Int × Sp2
  | 0, _, lo, hi => (-4, (lo, hi))
  | d + 1, i, lo, hi => bif rdC R lo hi (Cn R) then (bif brk (rdS R lo hi (Sn R)).1 (rdS R lo hi (Sn R)).2 (Cn R) then (-1, rdS R lo hi (Sn R)) else rnd R d (i + 1) (rdS R lo hi (Sn R)).1 (rdS R lo hi (Sn R)).2) else ((i : Int), (rdS R lo hi (Sn R)))
def oL (R : RD) (c : Nat) : Int := if Rft R c = 0 then (Rvl R c : Int) else 0
def oH (R : RD) (c : Nat) : Int := if Rft R c = 0 then ((Rvl R c + Rls R c : Nat) : Int) else 999999
def sL (R : RD) (x y : Int) (c : Nat) : Int := if (c : Int) = x ∨ (c : Int) = y then 0 else oL R c
def sH (R : RD) (x y : Int) (c : Nat) : Int := if (c : Int) = x ∨ (c : Int) = y then 999999 else oH R c
theorem rdC_f {R : RD} {lo hi : Nat → Int} {n : Nat} : rdC R lo hi n = false ↔ ∀ c, c < n → (rdS R lo hi (Sn R)).1 c = lo c ∧ (rdS R lo hi (Sn R)).2 c = hi c := by
  unfold rdC
  rw [List.any_eq_false]
  constructor
  · intro h c hc
    have := h c (List.mem_range.mpr hc)
    simp at this
    exact this
  · intro h c hc
    have := h c (List.mem_range.mp hc)
    simp [this]
theorem brk_f {lo hi : Nat → Int} {n : Nat} : brk lo hi n = false ↔ ∀ c, c < n → lo c ≤ hi c := by
  unfold brk
  rw [List.any_eq_false]
  constructor
  · intro h c hc
    have := h c (List.mem_range.mpr hc)
    simp at this
    exact this
  · intro h c hc
    have := h c (List.mem_range.mp hc)
    simp [this]
theorem brk_t {lo hi : Nat → Int} {n c : Nat} (hc : c < n) (h : hi c < lo c) : brk lo hi n = true := by
  unfold brk
  rw [List.any_eq_true]
  exact ⟨c, List.mem_range.mpr hc, decide_eq_true h⟩
theorem Rls_b {R : RD} (c : Nat) : Rls R c ≤ 5400009 := by
  unfold Rls
  split
  · omega
  · next h0 =>
    split
    · unfold rLost
      have h1 := sumN_le (f := fun l => bif lst R c l then 9 * Rct R l else 0) (b := 900000) (RL R) (fun i hi => by have := Rct_l5 (show 1 ≤ RL R by omega) i; show (bif lst R c i then 9 * Rct R i else 0) ≤ _; cases lst R c i <;> simp <;> omega)
      have h2 := RL_mx R
      have h3 : mxv (Run R) ≤ 6 := by cases Run R <;> decide
      have h4 : (bif !Run R && lst R c (RL R - 1) then 9 else 0) ≤ 9 := by cases (!Run R && lst R c (RL R - 1)) <;> decide
      omega
    · omega
theorem own_b {R : RD} (hV : VR R) (x y : Int) : bnd (Cn R) (sL R x y) (sH R x y) := by
  intro c hc
  have h1 := Rvl_c hV hc
  have h2 := Rls_b (R := R) c
  unfold sL sH oL oH
  split
  · omega
  · split <;> omega
section
variable {len : Nat} {m m0 : Mm} {Q : Option AV → Sx → Prop} {R : RD} {a n : Nat} {lo hi : Nat → Int} {p : Sp2}
def RW (n : Nat) (lo hi : Nat → Int) (p : Sp2) (m : Mm) : Prop := ∀ c, c < n → m 4 c = lo c ∧ m 5 c = hi c ∧ m 6 c = p.1 c ∧ m 7 c = p.2 c
theorem c_keepWithin {c : Nat} {l g : Int} (hn : n ≤ 60) (hc : c < n) (hW : RW n lo hi p m) (q : ∀ m1 : Mm, Fx 6 7 m m1 → RW n lo hi (kw p c l g) m1 → Q none (m1, tl len)) : E 92 0 [some (aA 3), some (aI ((c : Nat) : Int)), some (aI (l)), some (aI (g))] [] (m, tl len) Q := by
  refine E_s (p' := 1) (st' := aA 3 :: _) rfl rfl ?_
  refine E_gA (b := 6) rfl rfl rfl rfl hm_3_2 rfl ?_
  refine E_s (p' := 5) (st' := aI ((c : Nat) : Int) :: _) rfl rfl ?_
  refine E_ald (e := c) (N := 60) (v := (((p.1 c)))) rfl rfl (rfl) (by omega) (hW c hc).2.2.1 ?_
  refine E_s (p' := 7) (st' := aI (l) :: _) rfl rfl ?_
  refine E_icmp_ge (x := (((p.1 c)))) (y := (l)) rfl (by decide) (fun h_1 => ?_) (fun h_1 => ?_)
  · refine E_go (p' := 17) (L' := [some (aA 3), some (aI ((c : Nat) : Int)), some (aI (l)), some (aI (g))]) (st' := []) rfl rfl rfl ?_
    refine E_s (p' := 18) (st' := aA 3 :: _) rfl rfl ?_
    refine E_gA (b := 7) rfl rfl rfl rfl hm_3_3 rfl ?_
    refine E_s (p' := 22) (st' := aI ((c : Nat) : Int) :: _) rfl rfl ?_
    refine E_ald (e := c) (N := 60) (v := (((p.2 c)))) rfl rfl (rfl) (by omega) (hW c hc).2.2.2 ?_
    refine E_s (p' := 24) (st' := aI (g) :: _) rfl rfl ?_
    refine E_icmp_le (x := (((p.2 c)))) (y := (g)) rfl (by decide) (fun h_2 => ?_) (fun h_2 => ?_)
    · refine E_go (p' := 34) (L' := [some (aA 3), some (aI ((c : Nat) : Int)), some (aI (l)), some (aI (g))]) (st' := []) rfl rfl rfl ?_
      refine E_ret rfl rfl ?_
      refine q _ (fun b j hb => rfl) (fun x hx => ?_)
      obtain ⟨k1, k2, k3, k4⟩ := hW x hx
      have kc := hW c hc
      refine ⟨k1, k2, ?_, ?_⟩
      · show _ = upf p.1 c (max (p.1 c) l) x
        by_cases g9 : x = c
        · rw [g9, upf_eq]; exact (kc.2.2.1.trans (by omega))
        · rw [upf_ne g9]; exact k3
      · show _ = upf p.2 c (min (p.2 c) g) x
        by_cases g9 : x = c
        · rw [g9, upf_eq]; exact (kc.2.2.2.trans (by omega))
        · rw [upf_ne g9]; exact k4
    · refine E_go (p' := 27) (L' := [some (aA 3), some (aI ((c : Nat) : Int)), some (aI (l)), some (aI (g))]) (st' := []) rfl rfl rfl ?_
      refine E_s (p' := 28) (st' := aA 3 :: _) rfl rfl ?_
      refine E_gA (b := 7) rfl rfl rfl rfl hm_3_3 rfl ?_
      refine E_s (p' := 32) (st' := aI ((c : Nat) : Int) :: _) rfl rfl ?_
      refine E_s (p' := 33) (st' := aI (g) :: _) rfl rfl ?_
      refine E_ast (e := c) (N := 60) rfl rfl (rfl) (by omega) ?_
      refine E_ret rfl rfl ?_
      refine q _ (fun b j hb => (up2_ne (by omega))) (fun x hx => ?_)
      obtain ⟨k1, k2, k3, k4⟩ := hW x hx
      have kc := hW c hc
      refine ⟨(up2_ne (by omega)).trans k1, (up2_ne (by omega)).trans k2, ?_, ?_⟩
      · show _ = upf p.1 c (max (p.1 c) l) x
        by_cases g9 : x = c
        · rw [g9, upf_eq]; exact (up2_ne (by omega)).trans (kc.2.2.1.trans (by omega))
        · rw [upf_ne g9]; exact (up2_o (by omega)).trans k3
      · show _ = upf p.2 c (min (p.2 c) g) x
        by_cases g9 : x = c
        · rw [g9, upf_eq]; exact (up2_eq).trans (by omega)
        · rw [upf_ne g9]; exact (up2_o (by omega)).trans k4
  · refine E_go (p' := 10) (L' := [some (aA 3), some (aI ((c : Nat) : Int)), some (aI (l)), some (aI (g))]) (st' := []) rfl rfl rfl ?_
    refine E_s (p' := 11) (st' := aA 3 :: _) rfl rfl ?_
    refine E_gA (b := 6) rfl rfl rfl rfl hm_3_2 rfl ?_
    refine E_s (p' := 15) (st' := aI ((c : Nat) : Int) :: _) rfl rfl ?_
    refine E_s (p' := 16) (st' := aI (l) :: _) rfl rfl ?_
    refine E_ast (e := c) (N := 60) rfl rfl (rfl) (by omega) ?_
    refine E_s (p' := 18) (st' := aA 3 :: _) rfl rfl ?_
    refine E_gA (b := 7) rfl rfl rfl rfl hm_3_3 rfl ?_
    refine E_s (p' := 22) (st' := aI ((c : Nat) : Int) :: _) rfl rfl ?_
    refine E_ald (e := c) (N := 60) (v := (((p.2 c)))) rfl rfl (rfl) (by omega) ((up2_ne (by omega)).trans ((hW c hc).2.2.2)) ?_
    refine E_s (p' := 24) (st' := aI (g) :: _) rfl rfl ?_
    refine E_icmp_le (x := (((p.2 c)))) (y := (g)) rfl (by decide) (fun h_3 => ?_) (fun h_3 => ?_)
    · refine E_go (p' := 34) (L' := [some (aA 3), some (aI ((c : Nat) : Int)), some (aI (l)), some (aI (g))]) (st' := []) rfl rfl rfl ?_
      refine E_ret rfl rfl ?_
      refine q _ (fun b j hb => (up2_ne (by omega))) (fun x hx => ?_)
      obtain ⟨k1, k2, k3, k4⟩ := hW x hx
      have kc := hW c hc
      refine ⟨(up2_ne (by omega)).trans k1, (up2_ne (by omega)).trans k2, ?_, ?_⟩
      · show _ = upf p.1 c (max (p.1 c) l) x
        by_cases g9 : x = c
        · rw [g9, upf_eq]; exact (up2_eq).trans (by omega)
        · rw [upf_ne g9]; exact (up2_o (by omega)).trans k3
      · show _ = upf p.2 c (min (p.2 c) g) x
        by_cases g9 : x = c
        · rw [g9, upf_eq]; exact (up2_ne (by omega)).trans (kc.2.2.2.trans (by omega))
        · rw [upf_ne g9]; exact (up2_o (by omega)).trans k4
    · refine E_go (p' := 27) (L' := [some (aA 3), some (aI ((c : Nat) : Int)), some (aI (l)), some (aI (g))]) (st' := []) rfl rfl rfl ?_
      refine E_s (p' := 28) (st' := aA 3 :: _) rfl rfl ?_
      refine E_gA (b := 7) rfl rfl rfl rfl hm_3_3 rfl ?_
      refine E_s (p' := 32) (st' := aI ((c : Nat) : Int) :: _) rfl rfl ?_
      refine E_s (p' := 33) (st' := aI (g) :: _) rfl rfl ?_
      refine E_ast (e := c) (N := 60) rfl rfl (rfl) (by omega) ?_
      refine E_ret rfl rfl ?_
      refine q _ (fun b j hb => ((up2_ne (by omega)).trans (up2_ne (by omega)))) (fun x hx => ?_)
      obtain ⟨k1, k2, k3, k4⟩ := hW x hx
      have kc := hW c hc
      refine ⟨((up2_ne (by omega)).trans (up2_ne (by omega))).trans k1, ((up2_ne (by omega)).trans (up2_ne (by omega))).trans k2, ?_, ?_⟩
      · show _ = upf p.1 c (max (p.1 c) l) x
        by_cases g9 : x = c
        · rw [g9, upf_eq]; exact ((up2_ne (by omega)).trans (up2_eq)).trans (by omega)
        · rw [upf_ne g9]; exact ((up2_o (by omega)).trans (up2_o (by omega))).trans k3
      · show _ = upf p.2 c (min (p.2 c) g) x
        by_cases g9 : x = c
        · rw [g9, upf_eq]; exact (up2_eq).trans (by omega)
        · rw [upf_ne g9]; exact ((up2_o (by omega)).trans (up2_o (by omega))).trans k4
theorem yl_nr2 (hR : isR a) (hC : CR R a m0) (hV : VR R) {s : Nat} (hs : s < Sn R) (hb : bnd (Cn R) lo hi) (q : ∀ m1 : Mm, Fx 6 7 m0 m1 → RW (Cn R) lo hi (nrP R lo hi s p (Sp R s)) m1 → Q none (m1, tl len)) : ∀ (d : Nat) (k : Nat) (m : Mm) (x7 : Option AV), (Sp R s < k + d) → (k ≤ Sp R s) → (Fx 6 7 m0 m) → (RW (Cn R) lo hi (nrP R lo hi s p k) m) → E 91 77 [some (aA 3), some (aA (a + 9)), some (aI ((s : Nat) : Int)), some (aI (((lsS R lo s (Sp R s))))), some (aI (((lsS R hi s (Sp R s))))), some (aI ((Sw R s : Nat) : Int)), some (aI ((k : Nat) : Int)), x7] [] (m, tl len) Q := by
  intro d
  induction d with
  | zero => intro k m x7 hd hk I1 W1; omega
  | succ d ih =>
    intro k m x7 hd hk I1 W1
    have hab := isR_b hR
    have hn60 := hV.1
    have hs40 := hV.2.2.2.2.1
    have hp12 := (hV.2.2.2.2.2.1 s hs).2
    have hwn := (hV.2.2.2.2.2.1 s hs).1
    have hCm : CR R a m := hC.of (fun b j g1 g2 _ => I1 b j (by omega))
    have hsb := lsS_b hV hb hs (Sp R s) (Nat.le_refl _)
    have hbw := hb _ hwn
    refine E_s (p' := 79) (st' := aI ((k : Nat) : Int) :: _) rfl rfl ?_
    refine E_s (p' := 80) (st' := aA (a + 9) :: _) rfl rfl ?_
    refine E_gA (b := a + 11) rfl rfl rfl (kR_9 hR) (hR_9_1 hR) rfl ?_
    refine E_s (p' := 84) (st' := aI ((s : Nat) : Int) :: _) rfl rfl ?_
    refine E_ald (e := s) (N := 40) (v := ((Sp R s : Nat) : Int)) rfl (kR_11 hR) (rfl) (by omega) (CR_11 hCm (by omega)) ?_
    refine E_icmp_ge (x := ((k : Nat) : Int)) (y := ((Sp R s : Nat) : Int)) rfl (by decide) (fun h_1 => ?_) (fun h_1 => ?_)
    · refine E_go (p' := 144) (L' := [some (aA 3), some (aA (a + 9)), some (aI ((s : Nat) : Int)), some (aI (((lsS R lo s (Sp R s))))), some (aI (((lsS R hi s (Sp R s))))), some (aI ((Sw R s : Nat) : Int)), some (aI ((k : Nat) : Int)), x7]) (st' := []) rfl rfl rfl ?_
      refine E_ret rfl rfl ?_
      have e9 : k = Sp R s := by omega
      subst e9
      exact q m I1 W1
    · refine E_go (p' := 88) (L' := [some (aA 3), some (aA (a + 9)), some (aI ((s : Nat) : Int)), some (aI (((lsS R lo s (Sp R s))))), some (aI (((lsS R hi s (Sp R s))))), some (aI ((Sw R s : Nat) : Int)), some (aI ((k : Nat) : Int)), x7]) (st' := []) rfl rfl rfl ?_
      have hsq := hV.2.2.2.2.2.2 s k hs (show k < Sp R s by omega)
      have hbq := hb _ hsq
      refine E_s (p' := 89) (st' := aA (a + 9) :: _) rfl rfl ?_
      refine E_s (p' := 90) (st' := aI ((s : Nat) : Int) :: _) rfl rfl ?_
      refine E_s (p' := 92) (st' := aI ((k : Nat) : Int) :: _) rfl rfl ?_
      refine E_callV (k' := 79) (a := a + 9) (r := []) (L0 := [some (aA (a + 9)), some (aI ((s : Nat) : Int)), some (aI ((k : Nat) : Int))]) rfl rfl rfl rfl rfl (kR_9 hR) rfl rfl rfl rfl ?_
      refine c_partOf hR hCm hV (s := s) (p := k) (by omega) (by omega) ?_
      refine E_go (p' := 95) (L' := [some (aA 3), some (aA (a + 9)), some (aI ((s : Nat) : Int)), some (aI (((lsS R lo s (Sp R s))))), some (aI (((lsS R hi s (Sp R s))))), some (aI ((Sw R s : Nat) : Int)), some (aI ((k : Nat) : Int)), x7]) (st' := [aI ((Sq R s k : Nat) : Int)]) rfl rfl rfl ?_
      refine E_s (p' := 97) (L' := [some (aA 3), some (aA (a + 9)), some (aI ((s : Nat) : Int)), some (aI (((lsS R lo s (Sp R s))))), some (aI (((lsS R hi s (Sp R s))))), some (aI ((Sw R s : Nat) : Int)), some (aI ((k : Nat) : Int)), some (aI ((Sq R s k : Nat) : Int))]) rfl rfl ?_
      refine E_s (p' := 98) (st' := aA 3 :: _) rfl rfl ?_
      refine E_s (p' := 100) (st' := aI ((Sq R s k : Nat) : Int) :: _) rfl rfl ?_
      refine E_s (p' := 101) (st' := aA 3 :: _) rfl rfl ?_
      refine E_gA (b := 4) rfl rfl rfl rfl hm_3_0 rfl ?_
      refine E_s (p' := 106) (st' := aI ((Sw R s : Nat) : Int) :: _) rfl rfl ?_
      refine E_ald (e := Sw R s) (N := 60) (v := (((lo (Sw R s))))) rfl rfl (rfl) (by omega) (W1 _ (by omega)).1 ?_
      refine E_s (p' := 109) (st' := aI (((lsS R hi s (Sp R s)))) :: _) rfl rfl ?_
      refine E_s (p' := 110) (st' := aA 3 :: _) rfl rfl ?_
      refine E_gA (b := 5) rfl rfl rfl rfl hm_3_1 rfl ?_
      refine E_s (p' := 115) (st' := aI ((Sq R s k : Nat) : Int) :: _) rfl rfl ?_
      refine E_ald (e := Sq R s k) (N := 60) (v := (((hi (Sq R s k))))) rfl rfl (rfl) (by omega) (W1 _ (by omega)).2.1 ?_
      refine E_sub (v := (((lsS R hi s (Sp R s))) - ((hi (Sq R s k))))) rfl (by omega) (by omega) ?_
      refine E_sub (v := (((lo (Sw R s))) - ((lsS R hi s (Sp R s))) + ((hi (Sq R s k))))) rfl (by omega) (by omega) ?_
      refine E_s (p' := 119) (st' := aA 3 :: _) rfl rfl ?_
      refine E_gA (b := 5) rfl rfl rfl rfl hm_3_1 rfl ?_
      refine E_s (p' := 124) (st' := aI ((Sw R s : Nat) : Int) :: _) rfl rfl ?_
      refine E_ald (e := Sw R s) (N := 60) (v := (((hi (Sw R s))))) rfl rfl (rfl) (by omega) (W1 _ (by omega)).2.1 ?_
      refine E_s (p' := 126) (st' := aI (((lsS R lo s (Sp R s)))) :: _) rfl rfl ?_
      refine E_s (p' := 127) (st' := aA 3 :: _) rfl rfl ?_
      refine E_gA (b := 4) rfl rfl rfl rfl hm_3_0 rfl ?_
      refine E_s (p' := 132) (st' := aI ((Sq R s k : Nat) : Int) :: _) rfl rfl ?_
      refine E_ald (e := Sq R s k) (N := 60) (v := (((lo (Sq R s k))))) rfl rfl (rfl) (by omega) (W1 _ (by omega)).1 ?_
      refine E_sub (v := (((lsS R lo s (Sp R s))) - ((lo (Sq R s k))))) rfl (by omega) (by omega) ?_
      refine E_sub (v := (((hi (Sw R s))) - ((lsS R lo s (Sp R s))) + ((lo (Sq R s k))))) rfl (by omega) (by omega) ?_
      refine E_callV (k' := 92) (a := 3) (r := []) (L0 := [some (aA 3), some (aI ((Sq R s k : Nat) : Int)), some (aI (((lo (Sw R s))) - ((lsS R hi s (Sp R s))) + ((hi (Sq R s k))))), some (aI (((hi (Sw R s))) - ((lsS R lo s (Sp R s))) + ((lo (Sq R s k)))))]) rfl rfl rfl rfl rfl rfl rfl rfl rfl rfl ?_
      refine c_keepWithin hn60 (by omega) W1 (fun m1 F1 W2 => ?_)
      refine E_go (p' := 138) (L' := [some (aA 3), some (aA (a + 9)), some (aI ((s : Nat) : Int)), some (aI (((lsS R lo s (Sp R s))))), some (aI (((lsS R hi s (Sp R s))))), some (aI ((Sw R s : Nat) : Int)), some (aI ((k : Nat) : Int)), some (aI ((Sq R s k : Nat) : Int))]) (st' := []) rfl rfl rfl ?_
      refine E_inc (x := ((k : Nat) : Int)) (w := ((k + 1 : Nat) : Int)) (L' := [some (aA 3), some (aA (a + 9)), some (aI ((s : Nat) : Int)), some (aI (((lsS R lo s (Sp R s))))), some (aI (((lsS R hi s (Sp R s))))), some (aI ((Sw R s : Nat) : Int)), some (aI ((k + 1 : Nat) : Int)), some (aI ((Sq R s k : Nat) : Int))]) rfl rfl rfl (by omega) (by omega) rfl ?_
      refine E_s (p' := 77) rfl rfl ?_
      exact ih (k + 1) m1 _ (by omega) (by omega) (I1.tr F1) W2
theorem yl_nr1 (hR : isR a) (hC : CR R a m) (hV : VR R) {s : Nat} (hs : s < Sn R) (hb : bnd (Cn R) lo hi) (hW : RW (Cn R) lo hi p m) (hk : E 91 57 [some (aA 3), some (aA (a + 9)), some (aI (s : Int)), some (aI (lsS R lo s (Sp R s))), some (aI (lsS R hi s (Sp R s))), some (aI (Sp R s : Int)), none, none] [] (m, tl len) Q) : ∀ (d : Nat) (k : Nat), (Sp R s < k + d) → (k ≤ Sp R s) → E 91 8 [some (aA 3), some (aA (a + 9)), some (aI ((s : Nat) : Int)), some (aI (((lsS R lo s k)))), some (aI (((lsS R hi s k)))), some (aI ((k : Nat) : Int)), none, none] [] (m, tl len) Q := by
  intro d
  induction d with
  | zero => intro k hd hk9; omega
  | succ d ih =>
    intro k hd hk9
    have hab := isR_b hR
    have hn60 := hV.1
    have hs40 := hV.2.2.2.2.1
    have hp12 := (hV.2.2.2.2.2.1 s hs).2
    have hwn := (hV.2.2.2.2.2.1 s hs).1
    have hsb := lsS_b hV hb hs k hk9
    refine E_s (p' := 10) (st' := aI ((k : Nat) : Int) :: _) rfl rfl ?_
    refine E_s (p' := 11) (st' := aA (a + 9) :: _) rfl rfl ?_
    refine E_gA (b := a + 11) rfl rfl rfl (kR_9 hR) (hR_9_1 hR) rfl ?_
    refine E_s (p' := 15) (st' := aI ((s : Nat) : Int) :: _) rfl rfl ?_
    refine E_ald (e := s) (N := 40) (v := ((Sp R s : Nat) : Int)) rfl (kR_11 hR) (rfl) (by omega) (CR_11 hC (by omega)) ?_
    refine E_icmp_ge (x := ((k : Nat) : Int)) (y := ((Sp R s : Nat) : Int)) rfl (by decide) (fun h_1 => ?_) (fun h_1 => ?_)
    · refine E_go (p' := 57) (L' := [some (aA 3), some (aA (a + 9)), some (aI ((s : Nat) : Int)), some (aI (((lsS R lo s k)))), some (aI (((lsS R hi s k)))), some (aI ((k : Nat) : Int)), none, none]) (st' := []) rfl rfl rfl ?_
      have e9 : k = Sp R s := by omega
      rw [e9]
      exact hk
    · refine E_go (p' := 19) (L' := [some (aA 3), some (aA (a + 9)), some (aI ((s : Nat) : Int)), some (aI (((lsS R lo s k)))), some (aI (((lsS R hi s k)))), some (aI ((k : Nat) : Int)), none, none]) (st' := []) rfl rfl rfl ?_
      have hsq := hV.2.2.2.2.2.2 s k hs (show k < Sp R s by omega)
      have hbq := hb _ hsq
      refine E_s (p' := 20) (st' := aI (((lsS R lo s k))) :: _) rfl rfl ?_
      refine E_s (p' := 21) (st' := aA 3 :: _) rfl rfl ?_
      refine E_gA (b := 4) rfl rfl rfl rfl hm_3_0 rfl ?_
      refine E_s (p' := 25) (st' := aA (a + 9) :: _) rfl rfl ?_
      refine E_s (p' := 26) (st' := aI ((s : Nat) : Int) :: _) rfl rfl ?_
      refine E_s (p' := 28) (st' := aI ((k : Nat) : Int) :: _) rfl rfl ?_
      refine E_callV (k' := 79) (a := a + 9) (r := [aA 4, aI (((lsS R lo s k)))]) (L0 := [some (aA (a + 9)), some (aI ((s : Nat) : Int)), some (aI ((k : Nat) : Int))]) rfl rfl rfl rfl rfl (kR_9 hR) rfl rfl rfl rfl ?_
      refine c_partOf hR hC hV (s := s) (p := k) (by omega) (by omega) ?_
      refine E_go (p' := 31) (L' := [some (aA 3), some (aA (a + 9)), some (aI ((s : Nat) : Int)), some (aI (((lsS R lo s k)))), some (aI (((lsS R hi s k)))), some (aI ((k : Nat) : Int)), none, none]) (st' := [aI ((Sq R s k : Nat) : Int), aA 4, aI (((lsS R lo s k)))]) rfl rfl rfl ?_
      refine E_ald (e := Sq R s k) (N := 60) (v := (((lo (Sq R s k))))) rfl rfl (rfl) (by omega) (hW _ (by omega)).1 ?_
      refine E_add (v := (((lsS R lo s k)) + ((lo (Sq R s k))))) rfl (by omega) (by omega) ?_
      refine E_s (p' := 34) (L' := [some (aA 3), some (aA (a + 9)), some (aI ((s : Nat) : Int)), some (aI (((lsS R lo s k)) + ((lo (Sq R s k))))), some (aI (((lsS R hi s k)))), some (aI ((k : Nat) : Int)), none, none]) rfl rfl ?_
      refine E_s (p' := 36) (st' := aI (((lsS R hi s k))) :: _) rfl rfl ?_
      refine E_s (p' := 37) (st' := aA 3 :: _) rfl rfl ?_
      refine E_gA (b := 5) rfl rfl rfl rfl hm_3_1 rfl ?_
      refine E_s (p' := 41) (st' := aA (a + 9) :: _) rfl rfl ?_
      refine E_s (p' := 42) (st' := aI ((s : Nat) : Int) :: _) rfl rfl ?_
      refine E_s (p' := 44) (st' := aI ((k : Nat) : Int) :: _) rfl rfl ?_
      refine E_callV (k' := 79) (a := a + 9) (r := [aA 5, aI (((lsS R hi s k)))]) (L0 := [some (aA (a + 9)), some (aI ((s : Nat) : Int)), some (aI ((k : Nat) : Int))]) rfl rfl rfl rfl rfl (kR_9 hR) rfl rfl rfl rfl ?_
      refine c_partOf hR hC hV (s := s) (p := k) (by omega) (by omega) ?_
      refine E_go (p' := 47) (L' := [some (aA 3), some (aA (a + 9)), some (aI ((s : Nat) : Int)), some (aI (((lsS R lo s k)) + ((lo (Sq R s k))))), some (aI (((lsS R hi s k)))), some (aI ((k : Nat) : Int)), none, none]) (st' := [aI ((Sq R s k : Nat) : Int), aA 5, aI (((lsS R hi s k)))]) rfl rfl rfl ?_
      refine E_ald (e := Sq R s k) (N := 60) (v := (((hi (Sq R s k))))) rfl rfl (rfl) (by omega) (hW _ (by omega)).2.1 ?_
      refine E_add (v := (((lsS R hi s k)) + ((hi (Sq R s k))))) rfl (by omega) (by omega) ?_
      refine E_s (p' := 51) (L' := [some (aA 3), some (aA (a + 9)), some (aI ((s : Nat) : Int)), some (aI (((lsS R lo s k)) + ((lo (Sq R s k))))), some (aI (((lsS R hi s k)) + ((hi (Sq R s k))))), some (aI ((k : Nat) : Int)), none, none]) rfl rfl ?_
      refine E_inc (x := ((k : Nat) : Int)) (w := ((k + 1 : Nat) : Int)) (L' := [some (aA 3), some (aA (a + 9)), some (aI ((s : Nat) : Int)), some (aI (((lsS R lo s k)) + ((lo (Sq R s k))))), some (aI (((lsS R hi s k)) + ((hi (Sq R s k))))), some (aI ((k + 1 : Nat) : Int)), none, none]) rfl rfl rfl (by omega) (by omega) rfl ?_
      refine E_s (p' := 8) rfl rfl ?_
      exact ih (k + 1) (by omega) (by omega)
theorem c_narrow (hR : isR a) (hC : CR R a m0) (hV : VR R) {s : Nat} (hs : s < Sn R) (hb : bnd (Cn R) lo hi) (hW : RW (Cn R) lo hi p m0) (q : ∀ m1 : Mm, Fx 6 7 m0 m1 → RW (Cn R) lo hi (nrP R lo hi s p (Sp R s)) m1 → Q none (m1, tl len)) : E 91 0 [some (aA 3), some (aA (a + 9)), some (aI ((s : Nat) : Int)), none, none, none, none, none] [] (m0, tl len) Q := by
  have hab := isR_b hR
  have hn60 := hV.1
  have hs40 := hV.2.2.2.2.1
  have hp12 := (hV.2.2.2.2.2.1 s hs).2
  have hwn := (hV.2.2.2.2.2.1 s hs).1
  refine E_s (p' := 1) (st' := aI 0 :: _) rfl rfl ?_
  refine E_s (p' := 2) (L' := [some (aA 3), some (aA (a + 9)), some (aI ((s : Nat) : Int)), some (aI 0), none, none, none, none]) rfl rfl ?_
  refine E_s (p' := 3) (st' := aI 0 :: _) rfl rfl ?_
  refine E_s (p' := 5) (L' := [some (aA 3), some (aA (a + 9)), some (aI ((s : Nat) : Int)), some (aI 0), some (aI 0), none, none, none]) rfl rfl ?_
  refine E_s (p' := 6) (st' := aI 0 :: _) rfl rfl ?_
  refine E_s (p' := 8) (L' := [some (aA 3), some (aA (a + 9)), some (aI ((s : Nat) : Int)), some (aI 0), some (aI 0), some (aI 0), none, none]) rfl rfl ?_
  refine yl_nr1 hR hC hV hs hb hW ?_ (Sp R s + 1) 0 (by omega) (by omega)
  refine E_s (p' := 58) (st' := aA (a + 9) :: _) rfl rfl ?_
  refine E_gA (b := a + 10) rfl rfl rfl (kR_9 hR) (hR_9_0 hR) rfl ?_
  refine E_s (p' := 62) (st' := aI ((s : Nat) : Int) :: _) rfl rfl ?_
  refine E_ald (e := s) (N := 40) (v := ((Sw R s : Nat) : Int)) rfl (kR_10 hR) (rfl) (by omega) (CR_10 hC (by omega)) ?_
  refine E_s (p' := 65) (L' := [some (aA 3), some (aA (a + 9)), some (aI ((s : Nat) : Int)), some (aI (((lsS R lo s (Sp R s))))), some (aI (((lsS R hi s (Sp R s))))), some (aI ((Sw R s : Nat) : Int)), none, none]) rfl rfl ?_
  refine E_s (p' := 66) (st' := aA 3 :: _) rfl rfl ?_
  refine E_s (p' := 68) (st' := aI ((Sw R s : Nat) : Int) :: _) rfl rfl ?_
  refine E_s (p' := 69) (st' := aI (((lsS R lo s (Sp R s)))) :: _) rfl rfl ?_
  refine E_s (p' := 71) (st' := aI (((lsS R hi s (Sp R s)))) :: _) rfl rfl ?_
  refine E_callV (k' := 92) (a := 3) (r := []) (L0 := [some (aA 3), some (aI ((Sw R s : Nat) : Int)), some (aI (((lsS R lo s (Sp R s))))), some (aI (((lsS R hi s (Sp R s)))))]) rfl rfl rfl rfl rfl rfl rfl rfl rfl rfl ?_
  refine c_keepWithin hn60 (by omega) hW (fun m1 F1 W2 => ?_)
  refine E_go (p' := 74) (L' := [some (aA 3), some (aA (a + 9)), some (aI ((s : Nat) : Int)), some (aI (((lsS R lo s (Sp R s))))), some (aI (((lsS R hi s (Sp R s))))), some (aI ((Sw R s : Nat) : Int)), none, none]) (st' := []) rfl rfl rfl ?_
  refine E_s (p' := 75) (st' := aI 0 :: _) rfl rfl ?_
  refine E_s (p' := 77) (L' := [some (aA 3), some (aA (a + 9)), some (aI ((s : Nat) : Int)), some (aI (((lsS R lo s (Sp R s))))), some (aI (((lsS R hi s (Sp R s))))), some (aI ((Sw R s : Nat) : Int)), some (aI 0), none]) rfl rfl ?_
  exact yl_nr2 hR (hC.of (fun b j g1 g2 _ => F1 b j (by omega))) hV hs hb (p := p) (fun m2 F2 W3 => q m2 (F1.tr F2) W3) (Sp R s + 1) 0 m1 none (by omega) (by omega) Fx.rf W2
end
