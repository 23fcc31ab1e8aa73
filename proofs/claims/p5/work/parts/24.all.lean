set_option maxRecDepth 100000 in
theorem hm_3_0 {len : Nat} {m : Mm} : hasM (m, tl len) 3 0 = true := rfl
set_option maxRecDepth 100000 in
theorem hm_3_1 {len : Nat} {m : Mm} : hasM (m, tl len) 3 1 = true := rfl
set_option maxRecDepth 100000 in
theorem hm_3_2 {len : Nat} {m : Mm} : hasM (m, tl len) 3 2 = true := rfl
set_option maxRecDepth 100000 in
theorem hm_3_3 {len : Nat} {m : Mm} : hasM (m, tl len) 3 3 = true := rfl
set_option maxRecDepth 100000 in
theorem hm_8_0 {len : Nat} {m : Mm} : hasM (m, tl len) 8 0 = true := rfl
set_option maxRecDepth 100000 in
theorem hm_15_0 {len : Nat} {m : Mm} : hasM (m, tl len) 15 0 = true := rfl
set_option maxRecDepth 100000 in
theorem hm_15_1 {len : Nat} {m : Mm} : hasM (m, tl len) 15 1 = true := rfl
set_option maxRecDepth 100000 in
theorem hm_15_2 {len : Nat} {m : Mm} : hasM (m, tl len) 15 2 = true := rfl
/-! the rounds that make SPANS closer -/
abbrev Sp2 : Type := (Nat → Int) × (Nat → Int)
def kw (p : Sp2) (c : Nat) (l g : Int) : Sp2 := (upf p.1 c (max (p.1 c) l), upf p.2 c (min (p.2 c) g))
def smI (f : Nat → Int) : Nat → Int
  | 0 => 0
  | n + 1 => smI f n + f n
def lsS (R : RD) (f : Nat → Int) (s k : Nat) : Int := smI (fun j => f (Sq R s j)) k
def nrP (R : RD) (lo hi : Nat → Int) (s : Nat) (p : Sp2) : Nat → Sp2
  | 0 => kw p (Sw R s) (lsS R lo s (Sp R s)) (lsS R hi s (Sp R s))
  | k + 1 => kw (nrP R lo hi s p k) (Sq R s k) (lo (Sw R s) - lsS R hi s (Sp R s) + hi (Sq R s k)) (hi (Sw R s) - lsS R lo s (Sp R s) + lo (Sq R s k))
def rdS (R : RD) (lo hi : Nat → Int) : Nat → Sp2
  | 0 => (lo, hi)
  | s + 1 => if 2 ≤ Sp R s then nrP R lo hi s (rdS R lo hi s) (Sp R s) else rdS R lo hi s
/-- SPANS that are some, within 0 .. M -/
def bnd (n : Nat) (lo hi : Nat → Int) : Prop := ∀ c, c < n → 0 ≤ lo c ∧ lo c ≤ hi c ∧ hi c ≤ 33000000
theorem lsS_b {R : RD} (hV : VR R) {lo hi : Nat → Int} (hb : bnd (Cn R) lo hi) {s : Nat} (hs : s < Sn R) : ∀ k, k ≤ Sp R s → 0 ≤ lsS R lo s k ∧ lsS R lo s k ≤ lsS R hi s k ∧ lsS R hi s k ≤ 33000000 * k := by
  intro k
  induction k with
  | zero => intro _; exact ⟨Int.le_refl _, Int.le_refl _, Int.le_refl _⟩
  | succ k ih =>
    intro hk
    obtain ⟨h1, h2, h3⟩ := ih (by omega)
    obtain ⟨g1, g2, g3⟩ := hb _ (hV.2.2.2.2.2.2 s k hs (by omega))
    show 0 ≤ lsS R lo s k + lo (Sq R s k) ∧ lsS R lo s k + lo (Sq R s k) ≤ lsS R hi s k + hi (Sq R s k) ∧ lsS R hi s k + hi (Sq R s k) ≤ _
    omega
theorem kw_m {p : Sp2} {c : Nat} {l g : Int} (x : Nat) : p.1 x ≤ (kw p c l g).1 x ∧ (kw p c l g).2 x ≤ p.2 x := by
  unfold kw
  show p.1 x ≤ upf _ _ _ x ∧ upf _ _ _ x ≤ p.2 x
  by_cases h : x = c
  · rw [h, upf_eq, upf_eq]; omega
  · rw [upf_ne h, upf_ne h]; omega
theorem nrP_m {R : RD} {lo hi : Nat → Int} {s : Nat} {p : Sp2} : ∀ k x, p.1 x ≤ (nrP R lo hi s p k).1 x ∧ (nrP R lo hi s p k).2 x ≤ p.2 x := by
  intro k
  induction k with
  | zero => intro x; exact kw_m x
  | succ k ih =>
    intro x
    have h1 := ih x
    have h2 := kw_m (p := nrP R lo hi s p k) (c := Sq R s k) (l := lo (Sw R s) - lsS R hi s (Sp R s) + hi (Sq R s k)) (g := hi (Sw R s) - lsS R lo s (Sp R s) + lo (Sq R s k)) x
    exact ⟨Int.le_trans h1.1 h2.1, Int.le_trans h2.2 h1.2⟩
theorem rdS_m {R : RD} {lo hi : Nat → Int} : ∀ s x, lo x ≤ (rdS R lo hi s).1 x ∧ (rdS R lo hi s).2 x ≤ hi x := by
  intro s
  induction s with
  | zero => intro x; exact ⟨Int.le_refl _, Int.le_refl _⟩
  | succ s ih =>
    intro x
    show lo x ≤ (if 2 ≤ Sp R s then nrP R lo hi s (rdS R lo hi s) (Sp R s) else rdS R lo hi s).1 x ∧ (if 2 ≤ Sp R s then nrP R lo hi s (rdS R lo hi s) (Sp R s) else rdS R lo hi s).2 x ≤ hi x
    have h1 := ih x
    by_cases h : 2 ≤ Sp R s
    · rw [if_pos h]
      have h2 := nrP_m (R := R) (lo := lo) (hi := hi) (s := s) (p := rdS R lo hi s) (Sp R s) x
      exact ⟨Int.le_trans h1.1 h2.1, Int.le_trans h2.2 h1.2⟩
    · rw [if_neg h]; exact h1
/-- whether a round changes something of the first n -/
def rdC (R : RD) (lo hi : Nat → Int) (n : Nat) : Bool := (List.range n).any fun c => decide ((rdS R lo hi (Sn R)).1 c ≠ lo c) || decide ((rdS R lo hi (Sn R)).2 c ≠ hi c)
/-- whether a SPAN of the first n is none -/
def brk (lo hi : Nat → Int) (n : Nat) : Bool := (List.range n).any fun c => decide (hi c < lo c)
/-- the rounds from the i-th on, d of them left: the answer, and the SPANS as they ended -/
def rnd (R : RD) : Nat → Nat → (Nat → Int) → (Nat → Int) → Int × Sp2
  | 0, _, lo, hi => (-4, (lo, hi))
  | d + 1, i, lo, hi => bif rdC R lo hi (Cn R) then (bif brk (rdS R lo hi (Sn R)).1 (rdS R lo hi (Sn R)).2 (Cn R) then (-1, rdS R lo hi (Sn R)) else rnd R d (i + 1) (rdS R lo hi (Sn R)).1 (rdS R lo hi (Sn R)).2) else ((i : Int), (rdS R lo hi (Sn R)))
def oL (R : RD) (c : Nat) : Int := if Rft R c = 0 then (Rvl R c : Int) else 0
def oH (R : RD) (c : Nat) : Int := if Rft R c = 0 then ((Rvl R c + Rls R c : Nat) : Int) else 999999
def sL (R : RD) (x y : Int) (c : Nat) : Int := if (c : Int) = x ∨ (c : Int) = y then 0 else oL R c
def sH (R : RD) (x y : Int) (c : Nat) : Int := if (c : Int) = x ∨ (c : Int) = y then 999999 else oH R c
theorem rdC_f {R : RD} {lo hi : Nat → Int} {n : Nat} : rdC R lo hi n = false ↔ ∀ c, c < n → (rdS R lo hi (Sn R)).1 c = lo c ∧ (rdS R lo hi (Sn R)).2 c = hi c := by
  unfold rdC
  rw [List.any_eq_false]
  constructor
  · intro h c hc
    have := h c (List.mem_range.mpr hc)
    simp at this
    exact this
  · intro h c hc
    have := h c (List.mem_range.mp hc)
    simp [this]
theorem brk_f {lo hi : Nat → Int} {n : Nat} : brk lo hi n = false ↔ ∀ c, c < n → lo c ≤ hi c := by
  unfold brk
  rw [List.any_eq_false]
  constructor
  · intro h c hc
    have := h c (List.mem_range.mpr hc)
    simp at this
    exact this
  · intro h c hc
    have := h c (List.mem_range.mp hc)
    simp [this]
theorem brk_t {lo hi : Nat → Int} {n c : Nat} (hc : c < n) (h : hi c < lo c) : brk lo hi n = true := by
  unfold brk
  rw [List.any_eq_true]
  exact ⟨c, List.mem_range.mpr hc, decide_eq_true h⟩
theorem Rls_b {R : RD} (c : Nat) : Rls R c ≤ 5400009 := by
  unfold Rls
  split
  · omega
  · next h0 =>
    split
    · unfold rLost
      have h1 := sumN_le (f := fun l => bif lst R c l then 9 * Rct R l else 0) (b := 900000) (RL R) (fun i hi => by have := Rct_l5 (show 1 ≤ RL R by omega) i; show (bif lst R c i then 9 * Rct R i else 0) ≤ _; cases lst R c i <;> simp <;> omega)
      have h2 := RL_mx R
      have h3 : mxv (Run R) ≤ 6 := by cases Run R <;> decide
      have h4 : (bif !Run R && lst R c (RL R - 1) then 9 else 0) ≤ 9 := by cases (!Run R && lst R c (RL R - 1)) <;> decide
      omega
    · omega
theorem own_b {R : RD} (hV : VR R) (x y : Int) : bnd (Cn R) (sL R x y) (sH R x y) := by
  intro c hc
  have h1 := Rvl_c hV hc
  have h2 := Rls_b (R := R) c
  unfold sL sH oL oH
  split
  · omega
  · split <;> omega
section
variable {len : Nat} {m m0 : Mm} {Q : Option AV → Sx → Prop} {R : RD} {a n : Nat} {lo hi : Nat → Int} {p : Sp2}
def RW (n : Nat) (lo hi : Nat → Int) (p : Sp2) (m : Mm) : Prop := ∀ c, c < n → m 4 c = lo c ∧ m 5 c = hi c ∧ m 6 c = p.1 c ∧ m 7 c = p.2 c
theorem c_keepWithin {c : Nat} {l g : Int} (hn : n ≤ 60) (hc : c < n) (hW : RW n lo hi p m) (q : ∀ m1 : Mm, Fx 6 7 m m1 → RW n lo hi (kw p c l g) m1 → Q none (m1, tl len)) : E 92 0 [some (aA 3), some (aI ((c : Nat) : Int)), some (aI (l)), some (aI (g))] [] (m, tl len) Q := by
  refine E_s (p' := 1) (st' := aA 3 :: _) rfl rfl ?_
  refine E_gA (b := 6) rfl rfl rfl rfl hm_3_2 rfl ?_
  refine E_s (p' := 5) (st' := aI ((c : Nat) : Int) :: _) rfl rfl ?_
  refine E_ald (e := c) (N := 60) (v := (((p.1 c)))) rfl rfl (rfl) (by omega) (hW c hc).2.2.1 ?_
  refine E_s (p' := 7) (st' := aI (l) :: _) rfl rfl ?_
  refine E_icmp_ge (x := (((p.1 c)))) (y := (l)) rfl (by decide) (fun h_1 => ?_) (fun h_1 => ?_)
  · refine E_go (p' := 17) (L' := [some (aA 3), some (aI ((c : Nat) : Int)), some (aI (l)), some (aI (g))]) (st' := []) rfl rfl rfl ?_
    refine E_s (p' := 18) (st' := aA 3 :: _) rfl rfl ?_
    refine E_gA (b := 7) rfl rfl rfl rfl hm_3_3 rfl ?_
    refine E_s (p' := 22) (st' := aI ((c : Nat) : Int) :: _) rfl rfl ?_
    refine E_ald (e := c) (N := 60) (v := (((p.2 c)))) rfl rfl (rfl) (by omega) (hW c hc).2.2.2 ?_
    refine E_s (p' := 24) (st' := aI (g) :: _) rfl rfl ?_
    refine E_icmp_le (x := (((p.2 c)))) (y := (g)) rfl (by decide) (fun h_2 => ?_) (fun h_2 => ?_)
    · refine E_go (p' := 34) (L' := [some (aA 3), some (aI ((c : Nat) : Int)), some (aI (l)), some (aI (g))]) (st' := []) rfl rfl rfl ?_
      refine E_ret rfl rfl ?_
      refine q _ (fun b j hb => rfl) (fun x hx => ?_)
      obtain ⟨k1, k2, k3, k4⟩ := hW x hx
      have kc := hW c hc
      refine ⟨k1, k2, ?_, ?_⟩
      · show _ = upf p.1 c (max (p.1 c) l) x
        by_cases g9 : x = c
        · rw [g9, upf_eq]; exact (kc.2.2.1.trans (by omega))
        · rw [upf_ne g9]; exact k3
      · show _ = upf p.2 c (min (p.2 c) g) x
        by_cases g9 : x = c
        · rw [g9, upf_eq]; exact (kc.2.2.2.trans (by omega))
        · rw [upf_ne g9]; exact k4
    · refine E_go (p' := 27) (L' := [some (aA 3), some (aI ((c : Nat) : Int)), some (aI (l)), some (aI (g))]) (st' := []) rfl rfl rfl ?_
      refine E_s (p' := 28) (st' := aA 3 :: _) rfl rfl ?_
      refine E_gA (b := 7) rfl rfl rfl rfl hm_3_3 rfl ?_
      refine E_s (p' := 32) (st' := aI ((c : Nat) : Int) :: _) rfl rfl ?_
      refine E_s (p' := 33) (st' := aI (g) :: _) rfl rfl ?_
      refine E_ast (e := c) (N := 60) rfl rfl (rfl) (by omega) ?_
      refine E_ret rfl rfl ?_
      refine q _ (fun b j hb => (up2_ne (by omega))) (fun x hx => ?_)
      obtain ⟨k1, k2, k3, k4⟩ := hW x hx
      have kc := hW c hc
      refine ⟨(up2_ne (by omega)).trans k1, (up2_ne (by omega)).trans k2, ?_, ?_⟩
      · show _ = upf p.1 c (max (p.1 c) l) x
        by_cases g9 : x = c
        · rw [g9, upf_eq]; exact (up2_ne (by omega)).trans (kc.2.2.1.trans (by omega))
        · rw [upf_ne g9]; exact (up2_o (by omega)).trans k3
      · show _ = upf p.2 c (min (p.2 c) g) x
        by_cases g9 : x = c
        · rw [g9, upf_eq]; exact (up2_eq).trans (by omega)
        · rw [upf_ne g9]; exact (up2_o (by omega)).trans k4
  · refine E_go (p' := 10) (L' := [some (aA 3), some (aI ((c : Nat) : Int)), some (aI (l)), some (aI (g))]) (st' := []) rfl rfl rfl ?_
    refine E_s (p' := 11) (st' := aA 3 :: _) rfl rfl ?_
    refine E_gA (b := 6) rfl rfl rfl rfl hm_3_2 rfl ?_
    refine E_s (p' := 15) (st' := aI ((c : Nat) : Int) :: _) rfl rfl ?_
    refine E_s (p' := 16) (st' := aI (l) :: _) rfl rfl ?_
    refine E_ast (e := c) (N := 60) rfl rfl (rfl) (by omega) ?_
    refine E_s (p' := 18) (st' := aA 3 :: _) rfl rfl ?_
    refine E_gA (b := 7) rfl rfl rfl rfl hm_3_3 rfl ?_
    refine E_s (p' := 22) (st' := aI ((c : Nat) : Int) :: _) rfl rfl ?_
    refine E_ald (e := c) (N := 60) (v := (((p.2 c)))) rfl rfl (rfl) (by omega) ((up2_ne (by omega)).trans ((hW c hc).2.2.2)) ?_
    refine E_s (p' := 24) (st' := aI (g) :: _) rfl rfl ?_
    refine E_icmp_le (x := (((p.2 c)))) (y := (g)) rfl (by decide) (fun h_3 => ?_) (fun h_3 => ?_)
    · refine E_go (p' := 34) (L' := [some (aA 3), some (aI ((c : Nat) : Int)), some (aI (l)), some (aI (g))]) (st' := []) rfl rfl rfl ?_
      refine E_ret rfl rfl ?_
      refine q _ (fun b j hb => (up2_ne (by omega))) (fun x hx => ?_)
      obtain ⟨k1, k2, k3, k4⟩ := hW x hx
      have kc := hW c hc
      refine ⟨(up2_ne (by omega)).trans k1, (up2_ne (by omega)).trans k2, ?_, ?_⟩
      · show _ = upf p.1 c (max (p.1 c) l) x
        by_cases g9 : x = c
        · rw [g9, upf_eq]; exact (up2_eq).trans (by omega)
        · rw [upf_ne g9]; exact (up2_o (by omega)).trans k3
      · show _ = upf p.2 c (min (p.2 c) g) x
        by_cases g9 : x = c
        · rw [g9, upf_eq]; exact (up2_ne (by omega)).trans (kc.2.2.2.trans (by omega))
        · rw [upf_ne g9]; exact (up2_o (by omega)).trans k4
    · refine E_go (p' := 27) (L' := [some (aA 3), some (aI ((c : Nat) : Int)), some (aI (l)), some (aI (g))]) (st' := []) rfl rfl rfl ?_
      refine E_s (p' := 28) (st' := aA 3 :: _) rfl rfl ?_
      refine E_gA (b := 7) rfl rfl rfl rfl hm_3_3 rfl ?_
      refine E_s (p' := 32) (st' := aI ((c : Nat) : Int) :: _) rfl rfl ?_
      refine E_s (p' := 33) (st' := aI (g) :: _) rfl rfl ?_
      refine E_ast (e := c) (N := 60) rfl rfl (rfl) (by omega) ?_
      refine E_ret rfl rfl ?_
      refine q _ (fun b j hb => ((up2_ne (by omega)).trans (up2_ne (by omega)))) (fun x hx => ?_)
      obtain ⟨k1, k2, k3, k4⟩ := hW x hx
      have kc := hW c hc
      refine ⟨((up2_ne (by omega)).trans (up2_ne (by omega))).trans k1, ((up2_ne (by omega)).trans (up2_ne (by omega))).trans k2, ?_, ?_⟩
      · show _ = upf p.1 c (max (p.1 c) l) x
        by_cases g9 : x = c
        · rw [g9, upf_eq]; exact ((up2_ne (by omega)).trans (up2_eq)).trans (by omega)
        · rw [upf_ne g9]; exact ((up2_o (by omega)).trans (up2_o (by omega))).trans k3
      · show _ = upf p.2 c (min (p.2 c) g) x
        by_cases g9 : x = c
        · rw [g9, upf_eq]; exact (up2_eq).trans (by omega)
        · rw [upf_ne g9]; exact ((up2_o (by omega)).trans (up2_o (by omega))).trans k4
theorem yl_nr2 (hR : isR a) (hC : CR R a m0) (hV : VR R) {s : Nat} (hs : s < Sn R) (hb : bnd (Cn R) lo hi) (q : ∀ m1 : Mm, Fx 6 7 m0 m1 → RW (Cn R) lo hi (nrP R lo hi s p (Sp R s)) m1 → Q none (m1, tl len)) : ∀ (d : Nat) (k : Nat) (m : Mm) (x7 : Option AV), (Sp R s < k + d) → (k ≤ Sp R s) → (Fx 6 7 m0 m) → (RW (Cn R) lo hi (nrP R lo hi s p k) m) → E 91 77 [some (aA 3), some (aA (a + 9)), some (aI ((s : Nat) : Int)), some (aI (((lsS R lo s (Sp R s))))), some (aI (((lsS R hi s (Sp R s))))), some (aI ((Sw R s : Nat) : Int)), some (aI ((k : Nat) : Int)), x7] [] (m, tl len) Q := by
  intro d
  induction d with
  | zero => intro k m x7 hd hk I1 W1; omega
  | succ d ih =>
    intro k m x7 hd hk I1 W1
    have hab := isR_b hR
    have hn60 := hV.1
    have hs40 := hV.2.2.2.2.1
    have hp12 := (hV.2.2.2.2.2.1 s hs).2
    have hwn := (hV.2.2.2.2.2.1 s hs).1
    have hCm : CR R a m := hC.of (fun b j g1 g2 _ => I1 b j (by omega))
    have hsb := lsS_b hV hb hs (Sp R s) (Nat.le_refl _)
    have hbw := hb _ hwn
    refine E_s (p' := 79) (st' := aI ((k : Nat) : Int) :: _) rfl rfl ?_
    refine E_s (p' := 80) (st' := aA (a + 9) :: _) rfl rfl ?_
    refine E_gA (b := a + 11) rfl rfl rfl (kR_9 hR) (hR_9_1 hR) rfl ?_
    refine E_s (p' := 84) (st' := aI ((s : Nat) : Int) :: _) rfl rfl ?_
    refine E_ald (e := s) (N := 40) (v := ((Sp R s : Nat) : Int)) rfl (kR_11 hR) (rfl) (by omega) (CR_11 hCm (by omega)) ?_
    refine E_icmp_ge (x := ((k : Nat) : Int)) (y := ((Sp R s : Nat) : Int)) rfl (by decide) (fun h_1 => ?_) (fun h_1 => ?_)
    · refine E_go (p' := 144) (L' := [some (aA 3), some (aA (a + 9)), some (aI ((s : Nat) : Int)), some (aI (((lsS R lo s (Sp R s))))), some (aI (((lsS R hi s (Sp R s))))), some (aI ((Sw R s : Nat) : Int)), some (aI ((k : Nat) : Int)), x7]) (st' := []) rfl rfl rfl ?_
      refine E_ret rfl rfl ?_
      have e9 : k = Sp R s := by omega
      subst e9
      exact q m I1 W1
    · refine E_go (p' := 88) (L' := [some (aA 3), some (aA (a + 9)), some (aI ((s : Nat) : Int)), some (aI (((lsS R lo s (Sp R s))))), some (aI (((lsS R hi s (Sp R s))))), some (aI ((Sw R s : Nat) : Int)), some (aI ((k : Nat) : Int)), x7]) (st' := []) rfl rfl rfl ?_
      have hsq := hV.2.2.2.2.2.2 s k hs (show k < Sp R s by omega)
      have hbq := hb _ hsq
      refine E_s (p' := 89) (st' := aA (a + 9) :: _) rfl rfl ?_
      refine E_s (p' := 90) (st' := aI ((s : Nat) : Int) :: _) rfl rfl ?_
      refine E_s (p' := 92) (st' := aI ((k : Nat) : Int) :: _) rfl rfl ?_
      refine E_callV (k' := 79) (a := a + 9) (r := []) (L0 := [some (aA (a + 9)), some (aI ((s : Nat) : Int)), some (aI ((k : Nat) : Int))]) rfl rfl rfl rfl rfl (kR_9 hR) rfl rfl rfl rfl ?_
      refine c_partOf hR hCm hV (s := s) (p := k) (by omega) (by omega) ?_
      refine E_go (p' := 95) (L' := [some (aA 3), some (aA (a + 9)), some (aI ((s : Nat) : Int)), some (aI (((lsS R lo s (Sp R s))))), some (aI (((lsS R hi s (Sp R s))))), some (aI ((Sw R s : Nat) : Int)), some (aI ((k : Nat) : Int)), x7]) (st' := [aI ((Sq R s k : Nat) : Int)]) rfl rfl rfl ?_
      refine E_s (p' := 97) (L' := [some (aA 3), some (aA (a + 9)), some (aI ((s : Nat) : Int)), some (aI (((lsS R lo s (Sp R s))))), some (aI (((lsS R hi s (Sp R s))))), some (aI ((Sw R s : Nat) : Int)), some (aI ((k : Nat) : Int)), some (aI ((Sq R s k : Nat) : Int))]) rfl rfl ?_
      refine E_s (p' := 98) (st' := aA 3 :: _) rfl rfl ?_
      refine E_s (p' := 100) (st' := aI ((Sq R s k : Nat) : Int) :: _) rfl rfl ?_
      refine E_s (p' := 101) (st' := aA 3 :: _) rfl rfl ?_
      refine E_gA (b := 4) rfl rfl rfl rfl hm_3_0 rfl ?_
      refine E_s (p' := 106) (st' := aI ((Sw R s : Nat) : Int) :: _) rfl rfl ?_
      refine E_ald (e := Sw R s) (N := 60) (v := (((lo (Sw R s))))) rfl rfl (rfl) (by omega) (W1 _ (by omega)).1 ?_
      refine E_s (p' := 109) (st' := aI (((lsS R hi s (Sp R s)))) :: _) rfl rfl ?_
      refine E_s (p' := 110) (st' := aA 3 :: _) rfl rfl ?_
      refine E_gA (b := 5) rfl rfl rfl rfl hm_3_1 rfl ?_
      refine E_s (p' := 115) (st' := aI ((Sq R s k : Nat) : Int) :: _) rfl rfl ?_
      refine E_ald (e := Sq R s k) (N := 60) (v := (((hi (Sq R s k))))) rfl rfl (rfl) (by omega) (W1 _ (by omega)).2.1 ?_
      refine E_sub (v := (((lsS R hi s (Sp R s))) - ((hi (Sq R s k))))) rfl (by omega) (by omega) ?_
      refine E_sub (v := (((lo (Sw R s))) - ((lsS R hi s (Sp R s))) + ((hi (Sq R s k))))) rfl (by omega) (by omega) ?_
      refine E_s (p' := 119) (st' := aA 3 :: _) rfl rfl ?_
      refine E_gA (b := 5) rfl rfl rfl rfl hm_3_1 rfl ?_
      refine E_s (p' := 124) (st' := aI ((Sw R s : Nat) : Int) :: _) rfl rfl ?_
      refine E_ald (e := Sw R s) (N := 60) (v := (((hi (Sw R s))))) rfl rfl (rfl) (by omega) (W1 _ (by omega)).2.1 ?_
      refine E_s (p' := 126) (st' := aI (((lsS R lo s (Sp R s)))) :: _) rfl rfl ?_
      refine E_s (p' := 127) (st' := aA 3 :: _) rfl rfl ?_
      refine E_gA (b := 4) rfl rfl rfl rfl hm_3_0 rfl ?_
      refine E_s (p' := 132) (st' := aI ((Sq R s k : Nat) : Int) :: _) rfl rfl ?_
      refine E_ald (e := Sq R s k) (N := 60) (v := (((lo (Sq R s k))))) rfl rfl (rfl) (by omega) (W1 _ (by omega)).1 ?_
      refine E_sub (v := (((lsS R lo s (Sp R s))) - ((lo (Sq R s k))))) rfl (by omega) (by omega) ?_
      refine E_sub (v := (((hi (Sw R s))) - ((lsS R lo s (Sp R s))) + ((lo (Sq R s k))))) rfl (by omega) (by omega) ?_
      refine E_callV (k' := 92) (a := 3) (r := []) (L0 := [some (aA 3), some (aI ((Sq R s k : Nat) : Int)), some (aI (((lo (Sw R s))) - ((lsS R hi s (Sp R s))) + ((hi (Sq R s k))))), some (aI (((hi (Sw R s))) - ((lsS R lo s (Sp R s))) + ((lo (Sq R s k)))))]) rfl rfl rfl rfl rfl rfl rfl rfl rfl rfl ?_
      refine c_keepWithin hn60 (by omega) W1 (fun m1 F1 W2 => ?_)
      refine E_go (p' := 138) (L' := [some (aA 3), some (aA (a + 9)), some (aI ((s : Nat) : Int)), some (aI (((lsS R lo s (Sp R s))))), some (aI (((lsS R hi s (Sp R s))))), some (aI ((Sw R s : Nat) : Int)), some (aI ((k : Nat) : Int)), some (aI ((Sq R s k : Nat) : Int))]) (st' := []) rfl rfl rfl ?_
      refine E_inc (x := ((k : Nat) : Int)) (w := ((k + 1 : Nat) : Int)) (L' := [some (aA 3), some (aA (a + 9)), some (aI ((s : Nat) : Int)), some (aI (((lsS R lo s (Sp R s))))), some (aI (((lsS R hi s (Sp R s))))), some (aI ((Sw R s : Nat) : Int)), some (aI ((k + 1 : Nat) : Int)), some (aI ((Sq R s k : Nat) : Int))]) rfl rfl rfl (by omega) (by omega) rfl ?_
      refine E_s (p' := 77) rfl rfl ?_
      exact ih (k + 1) m1 _ (by omega) (by omega) (I1.tr F1) W2
theorem yl_nr1 (hR : isR a) (hC : CR R a m) (hV : VR R) {s : Nat} (hs : s < Sn R) (hb : bnd (Cn R) lo hi) (hW : RW (Cn R) lo hi p m) (hk : E 91 57 [some (aA 3), some (aA (a + 9)), some (aI (s : Int)), some (aI (lsS R lo s (Sp R s))), some (aI (lsS R hi s (Sp R s))), some (aI (Sp R s : Int)), none, none] [] (m, tl len) Q) : ∀ (d : Nat) (k : Nat), (Sp R s < k + d) → (k ≤ Sp R s) → E 91 8 [some (aA 3), some (aA (a + 9)), some (aI ((s : Nat) : Int)), some (aI (((lsS R lo s k)))), some (aI (((lsS R hi s k)))), some (aI ((k : Nat) : Int)), none, none] [] (m, tl len) Q := by
  intro d
  induction d with
  | zero => intro k hd hk9; omega
  | succ d ih =>
    intro k hd hk9
    have hab := isR_b hR
    have hn60 := hV.1
    have hs40 := hV.2.2.2.2.1
    have hp12 := (hV.2.2.2.2.2.1 s hs).2
    have hwn := (hV.2.2.2.2.2.1 s hs).1
    have hsb := lsS_b hV hb hs k hk9
    refine E_s (p' := 10) (st' := aI ((k : Nat) : Int) :: _) rfl rfl ?_
    refine E_s (p' := 11) (st' := aA (a + 9) :: _) rfl rfl ?_
    refine E_gA (b := a + 11) rfl rfl rfl (kR_9 hR) (hR_9_1 hR) rfl ?_
    refine E_s (p' := 15) (st' := aI ((s : Nat) : Int) :: _) rfl rfl ?_
    refine E_ald (e := s) (N := 40) (v := ((Sp R s : Nat) : Int)) rfl (kR_11 hR) (rfl) (by omega) (CR_11 hC (by omega)) ?_
    refine E_icmp_ge (x := ((k : Nat) : Int)) (y := ((Sp R s : Nat) : Int)) rfl (by decide) (fun h_1 => ?_) (fun h_1 => ?_)
    · refine E_go (p' := 57) (L' := [some (aA 3), some (aA (a + 9)), some (aI ((s : Nat) : Int)), some (aI (((lsS R lo s k)))), some (aI (((lsS R hi s k)))), some (aI ((k : Nat) : Int)), none, none]) (st' := []) rfl rfl rfl ?_
      have e9 : k = Sp R s := by omega
      rw [e9]
      exact hk
    · refine E_go (p' := 19) (L' := [some (aA 3), some (aA (a + 9)), some (aI ((s : Nat) : Int)), some (aI (((lsS R lo s k)))), some (aI (((lsS R hi s k)))), some (aI ((k : Nat) : Int)), none, none]) (st' := []) rfl rfl rfl ?_
      have hsq := hV.2.2.2.2.2.2 s k hs (show k < Sp R s by omega)
      have hbq := hb _ hsq
      refine E_s (p' := 20) (st' := aI (((lsS R lo s k))) :: _) rfl rfl ?_
      refine E_s (p' := 21) (st' := aA 3 :: _) rfl rfl ?_
      refine E_gA (b := 4) rfl rfl rfl rfl hm_3_0 rfl ?_
      refine E_s (p' := 25) (st' := aA (a + 9) :: _) rfl rfl ?_
      refine E_s (p' := 26) (st' := aI ((s : Nat) : Int) :: _) rfl rfl ?_
      refine E_s (p' := 28) (st' := aI ((k : Nat) : Int) :: _) rfl rfl ?_
      refine E_callV (k' := 79) (a := a + 9) (r := [aA 4, aI (((lsS R lo s k)))]) (L0 := [some (aA (a + 9)), some (aI ((s : Nat) : Int)), some (aI ((k : Nat) : Int))]) rfl rfl rfl rfl rfl (kR_9 hR) rfl rfl rfl rfl ?_
      refine c_partOf hR hC hV (s := s) (p := k) (by omega) (by omega) ?_
      refine E_go (p' := 31) (L' := [some (aA 3), some (aA (a + 9)), some (aI ((s : Nat) : Int)), some (aI (((lsS R lo s k)))), some (aI (((lsS R hi s k)))), some (aI ((k : Nat) : Int)), none, none]) (st' := [aI ((Sq R s k : Nat) : Int), aA 4, aI (((lsS R lo s k)))]) rfl rfl rfl ?_
      refine E_ald (e := Sq R s k) (N := 60) (v := (((lo (Sq R s k))))) rfl rfl (rfl) (by omega) (hW _ (by omega)).1 ?_
      refine E_add (v := (((lsS R lo s k)) + ((lo (Sq R s k))))) rfl (by omega) (by omega) ?_
      refine E_s (p' := 34) (L' := [some (aA 3), some (aA (a + 9)), some (aI ((s : Nat) : Int)), some (aI (((lsS R lo s k)) + ((lo (Sq R s k))))), some (aI (((lsS R hi s k)))), some (aI ((k : Nat) : Int)), none, none]) rfl rfl ?_
      refine E_s (p' := 36) (st' := aI (((lsS R hi s k))) :: _) rfl rfl ?_
      refine E_s (p' := 37) (st' := aA 3 :: _) rfl rfl ?_
      refine E_gA (b := 5) rfl rfl rfl rfl hm_3_1 rfl ?_
      refine E_s (p' := 41) (st' := aA (a + 9) :: _) rfl rfl ?_
      refine E_s (p' := 42) (st' := aI ((s : Nat) : Int) :: _) rfl rfl ?_
      refine E_s (p' := 44) (st' := aI ((k : Nat) : Int) :: _) rfl rfl ?_
      refine E_callV (k' := 79) (a := a + 9) (r := [aA 5, aI (((lsS R hi s k)))]) (L0 := [some (aA (a + 9)), some (aI ((s : Nat) : Int)), some (aI ((k : Nat) : Int))]) rfl rfl rfl rfl rfl (kR_9 hR) rfl rfl rfl rfl ?_
      refine c_partOf hR hC hV (s := s) (p := k) (by omega) (by omega) ?_
      refine E_go (p' := 47) (L' := [some (aA 3), some (aA (a + 9)), some (aI ((s : Nat) : Int)), some (aI (((lsS R lo s k)) + ((lo (Sq R s k))))), some (aI (((lsS R hi s k)))), some (aI ((k : Nat) : Int)), none, none]) (st' := [aI ((Sq R s k : Nat) : Int), aA 5, aI (((lsS R hi s k)))]) rfl rfl rfl ?_
      refine E_ald (e := Sq R s k) (N := 60) (v := (((hi (Sq R s k))))) rfl rfl (rfl) (by omega) (hW _ (by omega)).2.1 ?_
      refine E_add (v := (((lsS R hi s k)) + ((hi (Sq R s k))))) rfl (by omega) (by omega) ?_
      refine E_s (p' := 51) (L' := [some (aA 3), some (aA (a + 9)), some (aI ((s : Nat) : Int)), some (aI (((lsS R lo s k)) + ((lo (Sq R s k))))), some (aI (((lsS R hi s k)) + ((hi (Sq R s k))))), some (aI ((k : Nat) : Int)), none, none]) rfl rfl ?_
      refine E_inc (x := ((k : Nat) : Int)) (w := ((k + 1 : Nat) : Int)) (L' := [some (aA 3), some (aA (a + 9)), some (aI ((s : Nat) : Int)), some (aI (((lsS R lo s k)) + ((lo (Sq R s k))))), some (aI (((lsS R hi s k)) + ((hi (Sq R s k))))), some (aI ((k + 1 : Nat) : Int)), none, none]) rfl rfl rfl (by omega) (by omega) rfl ?_
      refine E_s (p' := 8) rfl rfl ?_
      exact ih (k + 1) (by omega) (by omega)
theorem c_narrow (hR : isR a) (hC : CR R a m0) (hV : VR R) {s : Nat} (hs : s < Sn R) (hb : bnd (Cn R) lo hi) (hW : RW (Cn R) lo hi p m0) (q : ∀ m1 : Mm, Fx 6 7 m0 m1 → RW (Cn R) lo hi (nrP R lo hi s p (Sp R s)) m1 → Q none (m1, tl len)) : E 91 0 [some (aA 3), some (aA (a + 9)), some (aI ((s : Nat) : Int)), none, none, none, none, none] [] (m0, tl len) Q := by
  have hab := isR_b hR
  have hn60 := hV.1
  have hs40 := hV.2.2.2.2.1
  have hp12 := (hV.2.2.2.2.2.1 s hs).2
  have hwn := (hV.2.2.2.2.2.1 s hs).1
  refine E_s (p' := 1) (st' := aI 0 :: _) rfl rfl ?_
  refine E_s (p' := 2) (L' := [some (aA 3), some (aA (a + 9)), some (aI ((s : Nat) : Int)), some (aI 0), none, none, none, none]) rfl rfl ?_
  refine E_s (p' := 3) (st' := aI 0 :: _) rfl rfl ?_
  refine E_s (p' := 5) (L' := [some (aA 3), some (aA (a + 9)), some (aI ((s : Nat) : Int)), some (aI 0), some (aI 0), none, none, none]) rfl rfl ?_
  refine E_s (p' := 6) (st' := aI 0 :: _) rfl rfl ?_
  refine E_s (p' := 8) (L' := [some (aA 3), some (aA (a + 9)), some (aI ((s : Nat) : Int)), some (aI 0), some (aI 0), some (aI 0), none, none]) rfl rfl ?_
  refine yl_nr1 hR hC hV hs hb hW ?_ (Sp R s + 1) 0 (by omega) (by omega)
  refine E_s (p' := 58) (st' := aA (a + 9) :: _) rfl rfl ?_
  refine E_gA (b := a + 10) rfl rfl rfl (kR_9 hR) (hR_9_0 hR) rfl ?_
  refine E_s (p' := 62) (st' := aI ((s : Nat) : Int) :: _) rfl rfl ?_
  refine E_ald (e := s) (N := 40) (v := ((Sw R s : Nat) : Int)) rfl (kR_10 hR) (rfl) (by omega) (CR_10 hC (by omega)) ?_
  refine E_s (p' := 65) (L' := [some (aA 3), some (aA (a + 9)), some (aI ((s : Nat) : Int)), some (aI (((lsS R lo s (Sp R s))))), some (aI (((lsS R hi s (Sp R s))))), some (aI ((Sw R s : Nat) : Int)), none, none]) rfl rfl ?_
  refine E_s (p' := 66) (st' := aA 3 :: _) rfl rfl ?_
  refine E_s (p' := 68) (st' := aI ((Sw R s : Nat) : Int) :: _) rfl rfl ?_
  refine E_s (p' := 69) (st' := aI (((lsS R lo s (Sp R s)))) :: _) rfl rfl ?_
  refine E_s (p' := 71) (st' := aI (((lsS R hi s (Sp R s)))) :: _) rfl rfl ?_
  refine E_callV (k' := 92) (a := 3) (r := []) (L0 := [some (aA 3), some (aI ((Sw R s : Nat) : Int)), some (aI (((lsS R lo s (Sp R s))))), some (aI (((lsS R hi s (Sp R s)))))]) rfl rfl rfl rfl rfl rfl rfl rfl rfl rfl ?_
  refine c_keepWithin hn60 (by omega) hW (fun m1 F1 W2 => ?_)
  refine E_go (p' := 74) (L' := [some (aA 3), some (aA (a + 9)), some (aI ((s : Nat) : Int)), some (aI (((lsS R lo s (Sp R s))))), some (aI (((lsS R hi s (Sp R s))))), some (aI ((Sw R s : Nat) : Int)), none, none]) (st' := []) rfl rfl rfl ?_
  refine E_s (p' := 75) (st' := aI 0 :: _) rfl rfl ?_
  refine E_s (p' := 77) (L' := [some (aA 3), some (aA (a + 9)), some (aI ((s : Nat) : Int)), some (aI (((lsS R lo s (Sp R s))))), some (aI (((lsS R hi s (Sp R s))))), some (aI ((Sw R s : Nat) : Int)), some (aI 0), none]) rfl rfl ?_
  exact yl_nr2 hR (hC.of (fun b j g1 g2 _ => F1 b j (by omega))) hV hs hb (p := p) (fun m2 F2 W3 => q m2 (F1.tr F2) W3) (Sp R s + 1) 0 m1 none (by omega) (by omega) Fx.rf W2
end

section
variable {len : Nat} {m0 : Mm} {Q : Option AV → Sx → Prop} {t l f n N1 N2 : Nat}
theorem yl_tk2 (ht : kd t = (1, N1)) (hl : kd l = (1, N2)) (hf1 : f + n ≤ N1) (hf2 : f + n ≤ N2) (hN : N1 ≤ 100000) (htl : t ≠ l) (q : ∀ (b : Bool) (m1 : Mm), Fx t t m0 m1 → (∀ j, f ≤ j → j < f + n → m1 t j = m0 l j) → (b = false → ∀ j, f ≤ j → j < f + n → m0 t j = m0 l j) → (b = true → ∃ j, f ≤ j ∧ j < f + n ∧ m0 t j ≠ m0 l j) → Q (some (aI (bi b))) (m1, tl len)) : ∀ (d : Nat) (i : Nat) (b : Bool) (m : Mm), (f + n < i + d) → (f ≤ i ∧ i ≤ f + n) → (Fx t t m0 m) → (∀ j, i ≤ j → m t j = m0 t j) → (∀ j, f ≤ j → j < i → m t j = m0 l j) → (b = false → ∀ j, f ≤ j → j < i → m0 t j = m0 l j) → (b = true → ∃ j, f ≤ j ∧ j < i ∧ m0 t j ≠ m0 l j) → E 65 6 [some (aA t), some (aA l), some (aI ((f : Nat) : Int)), some (aI ((n : Nat) : Int)), some (aI (bi b)), some (aI ((i : Nat) : Int))] [] (m, tl len) Q := by
  intro d
  induction d with
  | zero => intro i b m hd hi hF ho hw hb hb2; omega
  | succ d ih =>
    intro i b m hd hi hF ho hw hb hb2
    refine E_s (p' := 8) (st' := aI ((i : Nat) : Int) :: _) rfl rfl ?_
    refine E_s (p' := 9) (st' := aI ((f : Nat) : Int) :: _) rfl rfl ?_
    refine E_s (p' := 10) (st' := aI ((n : Nat) : Int) :: _) rfl rfl ?_
    refine E_add (v := ((f + n : Nat) : Int)) rfl (by omega) (by omega) ?_
    refine E_icmp_ge (x := ((i : Nat) : Int)) (y := ((f + n : Nat) : Int)) rfl (by decide) (fun h_1 => ?_) (fun h_1 => ?_)
    · refine E_go (p' := 49) (L' := [some (aA t), some (aA l), some (aI ((f : Nat) : Int)), some (aI ((n : Nat) : Int)), some (aI (bi b)), some (aI ((i : Nat) : Int))]) (st' := []) rfl rfl rfl ?_
      refine E_s (p' := 51) (st' := aI (bi b) :: _) rfl rfl ?_
      refine E_retB rfl rfl (bi01 _) ?_
      have ei : i = f + n := by omega
      subst ei
      exact q b m hF hw hb hb2
    · refine E_go (p' := 14) (L' := [some (aA t), some (aA l), some (aI ((f : Nat) : Int)), some (aI ((n : Nat) : Int)), some (aI (bi b)), some (aI ((i : Nat) : Int))]) (st' := []) rfl rfl rfl ?_
      have hml : m l i = m0 l i := hF l i (by omega)
      have hmt : m t i = m0 t i := ho i (by omega)
      refine E_s (p' := 16) (st' := aI (bi b) :: _) rfl rfl ?_
      refine E_s (p' := 17) (st' := aA t :: _) rfl rfl ?_
      refine E_s (p' := 19) (st' := aI ((i : Nat) : Int) :: _) rfl rfl ?_
      refine E_ald (e := i) (N := N1) (v := ((m t i))) rfl ht (rfl) (by omega) rfl ?_
      refine E_s (p' := 21) (st' := aA l :: _) rfl rfl ?_
      refine E_s (p' := 23) (st' := aI ((i : Nat) : Int) :: _) rfl rfl ?_
      refine E_ald (e := i) (N := N2) (v := ((m l i))) rfl hl (rfl) (by omega) rfl ?_
      suffices h_2 : E 65 32 [some (aA t), some (aA l), some (aI ((f : Nat) : Int)), some (aI ((n : Nat) : Int)), some (aI (bi b)), some (aI ((i : Nat) : Int))] [aI (bi (!decide (((m t i)) = ((m l i))))), aI (bi b)] (m, tl len) Q by
        refine E_icmp_eq (x := ((m t i))) (y := ((m l i))) rfl (by decide) (fun h_3 => ?_) (fun h_3 => ?_)
        · refine E_go (p' := 31) (L' := [some (aA t), some (aA l), some (aI ((f : Nat) : Int)), some (aI ((n : Nat) : Int)), some (aI (bi b)), some (aI ((i : Nat) : Int))]) (st' := [aI (bi b)]) rfl rfl rfl ?_
          refine E_s (p' := 32) (st' := aI 0 :: _) rfl rfl ?_
          rw [decide_eq_true (p := ((m t i)) = ((m l i))) (by omega)] at h_2
          exact h_2
        · refine E_go (p' := 27) (L' := [some (aA t), some (aA l), some (aI ((f : Nat) : Int)), some (aI ((n : Nat) : Int)), some (aI (bi b)), some (aI ((i : Nat) : Int))]) (st' := [aI (bi b)]) rfl rfl rfl ?_
          refine E_s (p' := 28) (st' := aI 1 :: _) rfl rfl ?_
          refine E_s (p' := 32) rfl rfl ?_
          rw [decide_eq_false (p := ((m t i)) = ((m l i))) (by omega)] at h_2
          exact h_2
      refine E_orb (x := b) (y := (!decide (((m t i)) = ((m l i))))) rfl ?_
      refine E_s (p' := 35) (L' := [some (aA t), some (aA l), some (aI ((f : Nat) : Int)), some (aI ((n : Nat) : Int)), some (aI (bi (b || (!decide (((m t i)) = ((m l i))))))), some (aI ((i : Nat) : Int))]) rfl rfl ?_
      refine E_s (p' := 36) (st' := aA t :: _) rfl rfl ?_
      refine E_s (p' := 38) (st' := aI ((i : Nat) : Int) :: _) rfl rfl ?_
      refine E_s (p' := 39) (st' := aA l :: _) rfl rfl ?_
      refine E_s (p' := 41) (st' := aI ((i : Nat) : Int) :: _) rfl rfl ?_
      refine E_ald (e := i) (N := N2) (v := ((m l i))) rfl hl (rfl) (by omega) rfl ?_
      refine E_ast (e := i) (N := N1) rfl ht (rfl) (by omega) ?_
      refine E_inc (x := ((i : Nat) : Int)) (w := ((i + 1 : Nat) : Int)) (L' := [some (aA t), some (aA l), some (aI ((f : Nat) : Int)), some (aI ((n : Nat) : Int)), some (aI (bi (b || (!decide (((m t i)) = ((m l i))))))), some (aI ((i + 1 : Nat) : Int))]) rfl rfl rfl (by omega) (by omega) rfl ?_
      refine E_s (p' := 6) rfl rfl ?_
      refine ih (i + 1) _ _ (by omega) (by omega) (hF.up (by omega) (by omega)) (fun j hj => (up2_sl (by omega)).trans (ho j (by omega))) (fun j h1 h2 => ?_) (fun hb9 j h1 h2 => ?_) (fun hb9 => ?_)
      · by_cases g : j = i
        · rw [g]; exact up2_eq.trans hml
        · exact (up2_sl g).trans (hw j h1 (by omega))
      · have hb3 := Bool.or_eq_false_iff.mp hb9
        by_cases g : j = i
        · rw [g]
          have he : m t i = m l i := by have := hb3.2; simpa using this
          rw [← hmt, ← hml]; exact he
        · exact hb hb3.1 j h1 (by omega)
      · rcases Bool.or_eq_true_iff.mp hb9 with h9 | h9
        · obtain ⟨j, h1, h2, h3⟩ := hb2 h9
          exact ⟨j, h1, by omega, h3⟩
        · have he : m t i ≠ m l i := by simpa using h9
          exact ⟨i, by omega, by omega, by rw [← hmt, ← hml]; exact he⟩
theorem c_takeRow2 (ht : kd t = (1, N1)) (hl : kd l = (1, N2)) (hf1 : f + n ≤ N1) (hf2 : f + n ≤ N2) (hN : N1 ≤ 100000) (htl : t ≠ l) (q : ∀ (b : Bool) (m1 : Mm), Fx t t m0 m1 → (∀ j, f ≤ j → j < f + n → m1 t j = m0 l j) → (b = false → ∀ j, f ≤ j → j < f + n → m0 t j = m0 l j) → (b = true → ∃ j, f ≤ j ∧ j < f + n ∧ m0 t j ≠ m0 l j) → Q (some (aI (bi b))) (m1, tl len)) : E 65 0 [some (aA t), some (aA l), some (aI ((f : Nat) : Int)), some (aI ((n : Nat) : Int)), none, none] [] (m0, tl len) Q := by
  refine E_s (p' := 1) (st' := aI 0 :: _) rfl rfl ?_
  refine E_s (p' := 3) (L' := [some (aA t), some (aA l), some (aI ((f : Nat) : Int)), some (aI ((n : Nat) : Int)), some (aI 0), none]) rfl rfl ?_
  refine E_s (p' := 4) (st' := aI ((f : Nat) : Int) :: _) rfl rfl ?_
  refine E_s (p' := 6) (L' := [some (aA t), some (aA l), some (aI ((f : Nat) : Int)), some (aI ((n : Nat) : Int)), some (aI 0), some (aI ((f : Nat) : Int))]) rfl rfl ?_
  exact yl_tk2 ht hl hf1 hf2 hN htl q (n + 1) f false m0 (by omega) (by omega) Fx.rf (fun j _ => rfl) (fun j h1 h2 => absurd h1 (by omega)) (fun _ j h1 h2 => absurd h1 (by omega)) (fun h9 => by cases h9)
end
section
variable {len : Nat} {m0 : Mm} {Q : Option AV → Sx → Prop} {R : RD} {a : Nat} {lo hi : Nat → Int}
theorem yl_dr (hR : isR a) (hC : CR R a m0) (hV : VR R) (hb : bnd (Cn R) lo hi) (hk : ∀ m1 : Mm, Fx 6 7 m0 m1 → RW (Cn R) lo hi (rdS R lo hi (Sn R)) m1 → E 90 75 [some (aA 3), some (aA a), some (aI (Cn R : Int)), some (aI (Sn R : Int))] [] (m1, tl len) Q) : ∀ (d : Nat) (s : Nat) (m : Mm), (Sn R < s + d) → (s ≤ Sn R) → (Fx 6 7 m0 m) → (RW (Cn R) lo hi (rdS R lo hi s) m) → E 90 38 [some (aA 3), some (aA a), some (aI ((Cn R : Nat) : Int)), some (aI ((s : Nat) : Int))] [] (m, tl len) Q := by
  intro d
  induction d with
  | zero => intro s m hd hs I1 W1; omega
  | succ d ih =>
    intro s m hd hs I1 W1
    have hab := isR_b hR
    have hs40 := hV.2.2.2.2.1
    have hCm : CR R a m := hC.of (fun b j g1 g2 _ => I1 b j (by omega))
    refine E_s (p' := 39) (st' := aI ((s : Nat) : Int) :: _) rfl rfl ?_
    refine E_s (p' := 40) (st' := aA a :: _) rfl rfl ?_
    refine E_gA (b := a + 9) rfl rfl rfl (kR_0 hR) (hR_0_1 hR) rfl ?_
    refine E_gI (v := ((Sn R : Nat) : Int)) rfl rfl rfl (kR_9 hR) (CRS hCm) ?_
    refine E_icmp_ge (x := ((s : Nat) : Int)) (y := ((Sn R : Nat) : Int)) rfl (by decide) (fun h_1 => ?_) (fun h_1 => ?_)
    · refine E_go (p' := 75) (L' := [some (aA 3), some (aA a), some (aI ((Cn R : Nat) : Int)), some (aI ((s : Nat) : Int))]) (st' := []) rfl rfl rfl ?_
      have e9 : s = Sn R := by omega
      subst e9
      exact hk m I1 W1
    · refine E_go (p' := 49) (L' := [some (aA 3), some (aA a), some (aI ((Cn R : Nat) : Int)), some (aI ((s : Nat) : Int))]) (st' := []) rfl rfl rfl ?_
      refine E_s (p' := 50) (st' := aA a :: _) rfl rfl ?_
      refine E_gA (b := a + 9) rfl rfl rfl (kR_0 hR) (hR_0_1 hR) rfl ?_
      refine E_s (p' := 54) (st' := aI ((s : Nat) : Int) :: _) rfl rfl ?_
      refine E_callV (k' := 84) (a := a + 9) (r := []) (L0 := [some (aA (a + 9)), some (aI ((s : Nat) : Int))]) rfl rfl rfl rfl rfl (kR_9 hR) rfl rfl rfl rfl ?_
      refine c_counts hR hCm hV (s := s) (by omega) (fun h2 => ?_) (fun h2 => ?_)
      · refine E_go (p' := 57) (L' := [some (aA 3), some (aA a), some (aI ((Cn R : Nat) : Int)), some (aI ((s : Nat) : Int))]) (st' := [aI 1]) rfl rfl rfl ?_
        refine E_s (p' := 60) rfl rfl ?_
        refine E_s (p' := 61) (st' := aA 3 :: _) rfl rfl ?_
        refine E_s (p' := 62) (st' := aA a :: _) rfl rfl ?_
        refine E_gA (b := a + 9) rfl rfl rfl (kR_0 hR) (hR_0_1 hR) rfl ?_
        refine E_s (p' := 66) (st' := aI ((s : Nat) : Int) :: _) rfl rfl ?_
        refine E_callV (k' := 91) (a := 3) (r := []) (L0 := [some (aA 3), some (aA (a + 9)), some (aI ((s : Nat) : Int)), none, none, none, none, none]) rfl rfl rfl rfl rfl rfl rfl rfl rfl rfl ?_
        refine c_narrow hR hCm hV (s := s) (by omega) hb W1 (fun m1 F1 W2 => ?_)
        refine E_go (p' := 69) (L' := [some (aA 3), some (aA a), some (aI ((Cn R : Nat) : Int)), some (aI ((s : Nat) : Int))]) (st' := []) rfl rfl rfl ?_
        refine E_inc (x := ((s : Nat) : Int)) (w := ((s + 1 : Nat) : Int)) (L' := [some (aA 3), some (aA a), some (aI ((Cn R : Nat) : Int)), some (aI ((s + 1 : Nat) : Int))]) rfl rfl rfl (by omega) (by omega) rfl ?_
        refine E_s (p' := 38) rfl rfl ?_
        exact ih (s + 1) m1 (by omega) (by omega) (I1.tr F1) (by show RW _ _ _ (if 2 ≤ Sp R s then _ else _) _; rw [if_pos h2]; exact W2)
      · refine E_go (p' := 57) (L' := [some (aA 3), some (aA a), some (aI ((Cn R : Nat) : Int)), some (aI ((s : Nat) : Int))]) (st' := [aI 0]) rfl rfl rfl ?_
        refine E_s (p' := 69) rfl rfl ?_
        refine E_inc (x := ((s : Nat) : Int)) (w := ((s + 1 : Nat) : Int)) (L' := [some (aA 3), some (aA a), some (aI ((Cn R : Nat) : Int)), some (aI ((s + 1 : Nat) : Int))]) rfl rfl rfl (by omega) (by omega) rfl ?_
        refine E_s (p' := 38) rfl rfl ?_
        exact ih (s + 1) m (by omega) (by omega) I1 (by show RW _ _ _ (if 2 ≤ Sp R s then _ else _) _; rw [if_neg (by omega)]; exact W1)
theorem c_doRound (hR : isR a) (hC : CR R a m0) (hV : VR R) (hb : bnd (Cn R) lo hi) (hlo : ∀ c, c < Cn R → m0 4 c = lo c ∧ m0 5 c = hi c) (q : ∀ m1 : Mm, Fx 4 7 m0 m1 → (∀ c, c < Cn R → m1 4 c = (rdS R lo hi (Sn R)).1 c ∧ m1 5 c = (rdS R lo hi (Sn R)).2 c) → Q (some (aI (bi (rdC R lo hi (Cn R))))) (m1, tl len)) : E 90 0 [some (aA 3), some (aA a), none, none] [] (m0, tl len) Q := by
  have hab := isR_b hR
  have hn60 := hV.1
  refine E_s (p' := 1) (st' := aA a :: _) rfl rfl ?_
  refine E_gA (b := a + 1) rfl rfl rfl (kR_0 hR) (hR_0_0 hR) rfl ?_
  refine E_gI (v := ((Cn R : Nat) : Int)) rfl rfl rfl (kR_1 hR) hC.1 ?_
  refine E_s (p' := 8) (L' := [some (aA 3), some (aA a), some (aI ((Cn R : Nat) : Int)), none]) rfl rfl ?_
  refine E_s (p' := 9) (st' := aA 3 :: _) rfl rfl ?_
  refine E_gA (b := 4) rfl rfl rfl rfl hm_3_0 rfl ?_
  refine E_s (p' := 13) (st' := aI 0 :: _) rfl rfl ?_
  refine E_s (p' := 14) (st' := aA 3 :: _) rfl rfl ?_
  refine E_gA (b := 6) rfl rfl rfl rfl hm_3_2 rfl ?_
  refine E_s (p' := 18) (st' := aI 0 :: _) rfl rfl ?_
  refine E_s (p' := 19) (st' := aI ((Cn R : Nat) : Int) :: _) rfl rfl ?_
  refine E_acp (e1 := 0) (e2 := 0) (e3 := Cn R) rfl rfl rfl rfl (rfl) (rfl) (rfl) (by omega) (by omega) rfl ?_
  refine E_go (p' := 22) (L' := [some (aA 3), some (aA a), some (aI ((Cn R : Nat) : Int)), none]) (st' := []) rfl rfl rfl ?_
  refine E_s (p' := 23) (st' := aA 3 :: _) rfl rfl ?_
  refine E_gA (b := 5) rfl rfl rfl rfl hm_3_1 rfl ?_
  refine E_s (p' := 27) (st' := aI 0 :: _) rfl rfl ?_
  refine E_s (p' := 28) (st' := aA 3 :: _) rfl rfl ?_
  refine E_gA (b := 7) rfl rfl rfl rfl hm_3_3 rfl ?_
  refine E_s (p' := 32) (st' := aI 0 :: _) rfl rfl ?_
  refine E_s (p' := 33) (st' := aI ((Cn R : Nat) : Int) :: _) rfl rfl ?_
  refine E_acp (e1 := 0) (e2 := 0) (e3 := Cn R) rfl rfl rfl rfl (rfl) (rfl) (rfl) (by omega) (by omega) rfl ?_
  refine E_go (p' := 36) (L' := [some (aA 3), some (aA a), some (aI ((Cn R : Nat) : Int)), none]) (st' := []) rfl rfl rfl ?_
  refine E_s (p' := 37) (st' := aI 0 :: _) rfl rfl ?_
  refine E_s (p' := 38) (L' := [some (aA 3), some (aA a), some (aI ((Cn R : Nat) : Int)), some (aI 0)]) rfl rfl ?_
  have hF6 : Fx 6 7 m0 (cpm (cpm m0 4 0 6 0 (Cn R)) 5 0 7 0 (Cn R)) := (Fx.rf.cp (by omega) (by omega)).cp (by omega) (by omega)
  refine yl_dr hR (hC.of (fun b j g1 g2 _ => hF6 b j (by omega))) hV hb (fun t0 F0z W1 => ?_) (Sn R + 1) 0 _ (by omega) (by omega) Fx.rf (fun c hc => ⟨(hF6 _ _ (by omega)).trans (hlo c hc).1, (hF6 _ _ (by omega)).trans (hlo c hc).2, (cpm_ne (by omega)).trans ((cpm_in (by omega)).trans (by rw [show 0 + (c - 0) = c by omega]; exact (hlo c hc).1)), (cpm_in (by omega)).trans ((cpm_ne (by omega)).trans (by rw [show 0 + (c - 0) = c by omega]; exact (hlo c hc).2))⟩)
  have F0 : Fx 6 7 m0 t0 := hF6.tr F0z
  refine E_s (p' := 76) (st' := aA 3 :: _) rfl rfl ?_
  refine E_gA (b := 4) rfl rfl rfl rfl hm_3_0 rfl ?_
  refine E_s (p' := 80) (st' := aA 3 :: _) rfl rfl ?_
  refine E_gA (b := 6) rfl rfl rfl rfl hm_3_2 rfl ?_
  refine E_s (p' := 84) (st' := aI 0 :: _) rfl rfl ?_
  refine E_s (p' := 85) (st' := aI ((Cn R : Nat) : Int) :: _) rfl rfl ?_
  refine E_callL (p' := 88) (L0 := [some (aA 4), some (aA 6), some (aI 0), some (aI ((Cn R : Nat) : Int)), none, none]) rfl rfl rfl ?_
  refine c_takeRow2 (f := 0) (n := Cn R) (N1 := 60) (N2 := 60) rfl rfl (by omega) (by omega) (by decide) (by decide) (fun b1 t1 F1 V1 X1 Y1 => ?_)
  refine E_go (p' := 88) (L' := [some (aA 3), some (aA a), some (aI ((Cn R : Nat) : Int)), some (aI ((Sn R : Nat) : Int))]) (st' := [aI (bi b1)]) rfl rfl rfl ?_
  refine E_s (p' := 89) (L' := [some (aA 3), some (aA a), some (aI ((Cn R : Nat) : Int)), some (aI (bi b1))]) rfl rfl ?_
  refine E_s (p' := 90) (st' := aA 3 :: _) rfl rfl ?_
  refine E_gA (b := 5) rfl rfl rfl rfl hm_3_1 rfl ?_
  refine E_s (p' := 94) (st' := aA 3 :: _) rfl rfl ?_
  refine E_gA (b := 7) rfl rfl rfl rfl hm_3_3 rfl ?_
  refine E_s (p' := 98) (st' := aI 0 :: _) rfl rfl ?_
  refine E_s (p' := 99) (st' := aI ((Cn R : Nat) : Int) :: _) rfl rfl ?_
  refine E_callL (p' := 102) (L0 := [some (aA 5), some (aA 7), some (aI 0), some (aI ((Cn R : Nat) : Int)), none, none]) rfl rfl rfl ?_
  refine c_takeRow2 (f := 0) (n := Cn R) (N1 := 60) (N2 := 60) rfl rfl (by omega) (by omega) (by decide) (by decide) (fun b2 t2 F2 V2 X2 Y2 => ?_)
  refine E_go (p' := 102) (L' := [some (aA 3), some (aA a), some (aI ((Cn R : Nat) : Int)), some (aI (bi b1))]) (st' := [aI (bi b2)]) rfl rfl rfl ?_
  refine E_b_ne0 (b := b2) rfl (by decide) (fun h_1 => ?_) (fun h_1 => ?_)
  · refine E_go (p' := 109) (L' := [some (aA 3), some (aA a), some (aI ((Cn R : Nat) : Int)), some (aI (bi b1))]) (st' := []) rfl rfl rfl ?_
    refine E_s (p' := 110) (st' := aI 1 :: _) rfl rfl ?_
    refine E_s (p' := 114) rfl rfl ?_
    refine E_ret rfl rfl ?_
    have hch : rdC R lo hi (Cn R) = true := by
      cases hx : rdC R lo hi (Cn R) with
      | true => rfl
      | false =>
        have hy := rdC_f.mp hx
        exfalso
        have hz : b2 = true ∨ b1 = true := by first | exact Or.inl (by assumption) | exact Or.inr (by assumption)
        rcases hz with z9 | z9
        · obtain ⟨j, k1, k2, k3⟩ := Y2 z9
          exact k3 (by rw [F1 _ _ (by omega), F1 _ _ (by omega), (W1 j (by omega)).2.1, (W1 j (by omega)).2.2.2]; exact (hy j (by omega)).2.symm)
        · obtain ⟨j, k1, k2, k3⟩ := Y1 z9
          exact k3 (by rw [(W1 j (by omega)).1, (W1 j (by omega)).2.2.1]; exact (hy j (by omega)).1.symm)
    rw [hch] at q
    exact q t2 ((F0.wide (by omega) (by omega)).tr (F1.wide (by omega) (by omega)) |>.tr (F2.wide (by omega) (by omega))) (fun c hc => ⟨(F2 _ _ (by omega)).trans ((V1 c (by omega) (by omega)).trans (W1 c hc).2.2.1), (V2 c (by omega) (by omega)).trans ((F1 _ _ (by omega)).trans (W1 c hc).2.2.2)⟩)
  · refine E_go (p' := 105) (L' := [some (aA 3), some (aA a), some (aI ((Cn R : Nat) : Int)), some (aI (bi b1))]) (st' := []) rfl rfl rfl ?_
    refine E_s (p' := 106) (st' := aI (bi b1) :: _) rfl rfl ?_
    refine E_b_eq0 (b := b1) rfl (by decide) (fun h_2 => ?_) (fun h_2 => ?_)
    · refine E_go (p' := 113) (L' := [some (aA 3), some (aA a), some (aI ((Cn R : Nat) : Int)), some (aI (bi b1))]) (st' := []) rfl rfl rfl ?_
      refine E_s (p' := 114) (st' := aI 0 :: _) rfl rfl ?_
      refine E_ret rfl rfl ?_
      have hch : rdC R lo hi (Cn R) = false := by
        rw [rdC_f]
        intro c hc
        have k1 := X1 (by assumption) c (by omega) (by omega)
        have k2 := X2 (by assumption) c (by omega) (by omega)
        rw [F1 _ _ (by omega), F1 _ _ (by omega), (W1 c hc).2.1, (W1 c hc).2.2.2] at k2
        rw [(W1 c hc).1, (W1 c hc).2.2.1] at k1
        exact ⟨k1.symm, k2.symm⟩
      rw [hch] at q
      exact q t2 ((F0.wide (by omega) (by omega)).tr (F1.wide (by omega) (by omega)) |>.tr (F2.wide (by omega) (by omega))) (fun c hc => ⟨(F2 _ _ (by omega)).trans ((V1 c (by omega) (by omega)).trans (W1 c hc).2.2.1), (V2 c (by omega) (by omega)).trans ((F1 _ _ (by omega)).trans (W1 c hc).2.2.2)⟩)
    · refine E_go (p' := 109) (L' := [some (aA 3), some (aA a), some (aI ((Cn R : Nat) : Int)), some (aI (bi b1))]) (st' := []) rfl rfl rfl ?_
      refine E_s (p' := 110) (st' := aI 1 :: _) rfl rfl ?_
      refine E_s (p' := 114) rfl rfl ?_
      refine E_ret rfl rfl ?_
      have hch : rdC R lo hi (Cn R) = true := by
        cases hx : rdC R lo hi (Cn R) with
        | true => rfl
        | false =>
          have hy := rdC_f.mp hx
          exfalso
          have hz : b2 = true ∨ b1 = true := by first | exact Or.inl (by assumption) | exact Or.inr (by assumption)
          rcases hz with z9 | z9
          · obtain ⟨j, k1, k2, k3⟩ := Y2 z9
            exact k3 (by rw [F1 _ _ (by omega), F1 _ _ (by omega), (W1 j (by omega)).2.1, (W1 j (by omega)).2.2.2]; exact (hy j (by omega)).2.symm)
          · obtain ⟨j, k1, k2, k3⟩ := Y1 z9
            exact k3 (by rw [(W1 j (by omega)).1, (W1 j (by omega)).2.2.1]; exact (hy j (by omega)).1.symm)
      rw [hch] at q
      exact q t2 ((F0.wide (by omega) (by omega)).tr (F1.wide (by omega) (by omega)) |>.tr (F2.wide (by omega) (by omega))) (fun c hc => ⟨(F2 _ _ (by omega)).trans ((V1 c (by omega) (by omega)).trans (W1 c hc).2.2.1), (V2 c (by omega) (by omega)).trans ((F1 _ _ (by omega)).trans (W1 c hc).2.2.2)⟩)
theorem yl_fn {m : Mm} {n : Nat} (hn : n ≤ 60) (hlo : ∀ c, c < n → m 4 c = lo c ∧ m 5 c = hi c) (q1 : ∀ c, c < n → hi c < lo c → (∀ x, x < c → lo x ≤ hi x) → Q (some (aI (c : Int))) (m, tl len)) (q0 : (∀ x, x < n → lo x ≤ hi x) → Q (some (aI (-1))) (m, tl len)) : ∀ (d : Nat) (c : Nat), (n < c + d) → (c ≤ n) → (∀ x, x < c → lo x ≤ hi x) → E 93 2 [some (aA 3), some (aI ((n : Nat) : Int)), some (aI ((c : Nat) : Int))] [] (m, tl len) Q := by
  intro d
  induction d with
  | zero => intro c hd hc I1; omega
  | succ d ih =>
    intro c hd hc I1
    refine E_s (p' := 3) (st' := aI ((c : Nat) : Int) :: _) rfl rfl ?_
    refine E_s (p' := 4) (st' := aI ((n : Nat) : Int) :: _) rfl rfl ?_
    refine E_icmp_ge (x := ((c : Nat) : Int)) (y := ((n : Nat) : Int)) rfl (by decide) (fun h_1 => ?_) (fun h_1 => ?_)
    · refine E_go (p' := 30) (L' := [some (aA 3), some (aI ((n : Nat) : Int)), some (aI ((c : Nat) : Int))]) (st' := []) rfl rfl rfl ?_
      refine E_s (p' := 31) (st' := aI (-1) :: _) rfl rfl ?_
      refine E_ret rfl rfl ?_
      exact q0 (fun x hx => I1 x (by omega))
    · refine E_go (p' := 7) (L' := [some (aA 3), some (aI ((n : Nat) : Int)), some (aI ((c : Nat) : Int))]) (st' := []) rfl rfl rfl ?_
      refine E_s (p' := 8) (st' := aA 3 :: _) rfl rfl ?_
      refine E_gA (b := 4) rfl rfl rfl rfl hm_3_0 rfl ?_
      refine E_s (p' := 12) (st' := aI ((c : Nat) : Int) :: _) rfl rfl ?_
      refine E_ald (e := c) (N := 60) (v := (((lo c)))) rfl rfl (rfl) (by omega) (hlo c (by omega)).1 ?_
      refine E_s (p' := 14) (st' := aA 3 :: _) rfl rfl ?_
      refine E_gA (b := 5) rfl rfl rfl rfl hm_3_1 rfl ?_
      refine E_s (p' := 18) (st' := aI ((c : Nat) : Int) :: _) rfl rfl ?_
      refine E_ald (e := c) (N := 60) (v := (((hi c)))) rfl rfl (rfl) (by omega) (hlo c (by omega)).2 ?_
      refine E_icmp_le (x := (((lo c)))) (y := (((hi c)))) rfl (by decide) (fun h_2 => ?_) (fun h_2 => ?_)
      · refine E_go (p' := 24) (L' := [some (aA 3), some (aI ((n : Nat) : Int)), some (aI ((c : Nat) : Int))]) (st' := []) rfl rfl rfl ?_
        refine E_inc (x := ((c : Nat) : Int)) (w := ((c + 1 : Nat) : Int)) (L' := [some (aA 3), some (aI ((n : Nat) : Int)), some (aI ((c + 1 : Nat) : Int))]) rfl rfl rfl (by omega) (by omega) rfl ?_
        refine E_s (p' := 2) rfl rfl ?_
        exact ih (c + 1) (by omega) (by omega) (fun x hx => by by_cases g9 : x = c; subst g9; omega; exact I1 x (by omega))
      · refine E_go (p' := 22) (L' := [some (aA 3), some (aI ((n : Nat) : Int)), some (aI ((c : Nat) : Int))]) (st' := []) rfl rfl rfl ?_
        refine E_s (p' := 23) (st' := aI ((c : Nat) : Int) :: _) rfl rfl ?_
        refine E_ret rfl rfl ?_
        exact q1 c (by omega) (by omega) I1
theorem c_firstNone {m : Mm} {n : Nat} (hn : n ≤ 60) (hlo : ∀ c, c < n → m 4 c = lo c ∧ m 5 c = hi c) (q1 : ∀ c, c < n → hi c < lo c → (∀ x, x < c → lo x ≤ hi x) → Q (some (aI (c : Int))) (m, tl len)) (q0 : (∀ x, x < n → lo x ≤ hi x) → Q (some (aI (-1))) (m, tl len)) : E 93 0 [some (aA 3), some (aI ((n : Nat) : Int)), none] [] (m, tl len) Q := by
  refine E_s (p' := 1) (st' := aI 0 :: _) rfl rfl ?_
  refine E_s (p' := 2) (L' := [some (aA 3), some (aI ((n : Nat) : Int)), some (aI 0)]) rfl rfl ?_
  exact yl_fn hn hlo q1 q0 (n + 1) 0 (by omega) (by omega) (fun x hx => absurd hx (by omega))
end

section
variable {len : Nat} {m m0 : Mm} {Q : Option AV → Sx → Prop} {R : RD} {a c : Nat} {x y : Int}
theorem c_ownLeast (hR : isR a) (hV : VR R) (hd9 : RdC R a m) (hc : c < Cn R) (q : Q (some (aI (oL R c))) (m, tl len)) : E 88 0 [some (aA (a + 15)), some (aI ((c : Nat) : Int))] [] (m, tl len) Q := by
  have hn60 := hV.1
  have hvb := Rvl_c hV hc
  have hlb := Rls_b (R := R) c
  refine E_s (p' := 1) (st' := aA (a + 15) :: _) rfl rfl ?_
  refine E_gA (b := a + 21) rfl rfl rfl (kR_15 hR) (hR_15_5 hR) rfl ?_
  refine E_s (p' := 5) (st' := aI ((c : Nat) : Int) :: _) rfl rfl ?_
  refine E_ald (e := c) (N := 60) (v := ((Rft R c : Nat) : Int)) rfl (kR_21 hR) (rfl) (by omega) (hd9.2.2.2 _ (by omega)).2.1 ?_
  refine E_if_ne (x := ((Rft R c : Nat) : Int)) rfl (by decide) (fun h_1 => ?_) (fun h_1 => ?_)
  · refine E_go (p' := 18) (L' := [some (aA (a + 15)), some (aI ((c : Nat) : Int))]) (st' := []) rfl rfl rfl ?_
    refine E_s (p' := 19) (st' := aI 0 :: _) rfl rfl ?_
    refine E_ret rfl rfl ?_
    rw [show oL R c = 0 by unfold oL; rw [if_neg (by omega)]] at q
    exact q
  · refine E_go (p' := 9) (L' := [some (aA (a + 15)), some (aI ((c : Nat) : Int))]) (st' := []) rfl rfl rfl ?_
    refine E_s (p' := 10) (st' := aA (a + 15) :: _) rfl rfl ?_
    refine E_gA (b := a + 22) rfl rfl rfl (kR_15 hR) (hR_15_6 hR) rfl ?_
    refine E_s (p' := 14) (st' := aI ((c : Nat) : Int) :: _) rfl rfl ?_
    refine E_ald (e := c) (N := 60) (v := ((Rvl R c : Nat) : Int)) rfl (kR_22 hR) (rfl) (by omega) (hd9.2.2.2 _ (by omega)).2.2.1 ?_
    refine E_s (p' := 19) rfl rfl ?_
    refine E_ret rfl rfl ?_
    rw [show oL R c = ((Rvl R c : Nat) : Int) by unfold oL; rw [if_pos (by omega)]] at q
    exact q
theorem c_ownGreatest (hR : isR a) (hV : VR R) (hd9 : RdC R a m) (hc : c < Cn R) (q : Q (some (aI (oH R c))) (m, tl len)) : E 89 0 [some (aA (a + 15)), some (aI ((c : Nat) : Int))] [] (m, tl len) Q := by
  have hn60 := hV.1
  have hvb := Rvl_c hV hc
  have hlb := Rls_b (R := R) c
  refine E_s (p' := 1) (st' := aA (a + 15) :: _) rfl rfl ?_
  refine E_gA (b := a + 21) rfl rfl rfl (kR_15 hR) (hR_15_5 hR) rfl ?_
  refine E_s (p' := 5) (st' := aI ((c : Nat) : Int) :: _) rfl rfl ?_
  refine E_ald (e := c) (N := 60) (v := ((Rft R c : Nat) : Int)) rfl (kR_21 hR) (rfl) (by omega) (hd9.2.2.2 _ (by omega)).2.1 ?_
  refine E_if_ne (x := ((Rft R c : Nat) : Int)) rfl (by decide) (fun h_1 => ?_) (fun h_1 => ?_)
  · refine E_go (p' := 25) (L' := [some (aA (a + 15)), some (aI ((c : Nat) : Int))]) (st' := []) rfl rfl rfl ?_
    refine E_s (p' := 27) (st' := aI 999999 :: _) rfl rfl ?_
    refine E_ret rfl rfl ?_
    rw [show oH R c = 999999 by unfold oH; rw [if_neg (by omega)]] at q
    exact q
  · refine E_go (p' := 9) (L' := [some (aA (a + 15)), some (aI ((c : Nat) : Int))]) (st' := []) rfl rfl rfl ?_
    refine E_s (p' := 10) (st' := aA (a + 15) :: _) rfl rfl ?_
    refine E_gA (b := a + 22) rfl rfl rfl (kR_15 hR) (hR_15_6 hR) rfl ?_
    refine E_s (p' := 14) (st' := aI ((c : Nat) : Int) :: _) rfl rfl ?_
    refine E_ald (e := c) (N := 60) (v := ((Rvl R c : Nat) : Int)) rfl (kR_22 hR) (rfl) (by omega) (hd9.2.2.2 _ (by omega)).2.2.1 ?_
    refine E_s (p' := 16) (st' := aA (a + 15) :: _) rfl rfl ?_
    refine E_gA (b := a + 23) rfl rfl rfl (kR_15 hR) (hR_15_7 hR) rfl ?_
    refine E_s (p' := 20) (st' := aI ((c : Nat) : Int) :: _) rfl rfl ?_
    refine E_ald (e := c) (N := 60) (v := ((Rls R c : Nat) : Int)) rfl (kR_23 hR) (rfl) (by omega) (hd9.2.2.2 _ (by omega)).2.2.2 ?_
    refine E_add (v := ((Rvl R c + Rls R c : Nat) : Int)) rfl (by omega) (by omega) ?_
    refine E_s (p' := 27) rfl rfl ?_
    refine E_ret rfl rfl ?_
    rw [show oH R c = ((Rvl R c + Rls R c : Nat) : Int) by unfold oH; rw [if_pos (by omega)]] at q
    exact q
theorem yl_ts (hR : isR a) (hC : CR R a m0) (hV : VR R) (hd : RdC R a m0) (q : ∀ m1 : Mm, Fx 3 5 m0 m1 → (∀ c, c < Cn R → m1 4 c = sL R x y c ∧ m1 5 c = sH R x y c) → Q none (m1, tl len)) : ∀ (d : Nat) (c : Nat) (m : Mm) (x6 : Option AV), (Cn R < c + d) → (c ≤ Cn R) → (Fx 3 5 m0 m) → (∀ d, d < c → m 4 d = sL R x y d ∧ m 5 d = sH R x y d) → E 87 14 [some (aA 3), some (aA a), some (aI (x)), some (aI (y)), some (aA (a + 15)), some (aI ((c : Nat) : Int)), x6] [] (m, tl len) Q := by
  intro d
  induction d with
  | zero => intro c m x6 hd9 hc I1 I2; omega
  | succ d ih =>
    intro c m x6 hd9 hc I1 I2
    have hab := isR_b hR
    have hn60 := hV.1
    have hCm : CR R a m := hC.of (fun b j g1 g2 _ => I1 b j (by omega))
    have hdm : RdC R a m := hd.of (fun b j g1 g2 => I1 b j (by omega))
    refine E_s (p' := 16) (st' := aI ((c : Nat) : Int) :: _) rfl rfl ?_
    refine E_s (p' := 17) (st' := aA a :: _) rfl rfl ?_
    refine E_gA (b := a + 1) rfl rfl rfl (kR_0 hR) (hR_0_0 hR) rfl ?_
    refine E_gI (v := ((Cn R : Nat) : Int)) rfl rfl rfl (kR_1 hR) hCm.1 ?_
    refine E_icmp_ge (x := ((c : Nat) : Int)) (y := ((Cn R : Nat) : Int)) rfl (by decide) (fun h_1 => ?_) (fun h_1 => ?_)
    · refine E_go (p' := 98) (L' := [some (aA 3), some (aA a), some (aI (x)), some (aI (y)), some (aA (a + 15)), some (aI ((c : Nat) : Int)), x6]) (st' := []) rfl rfl rfl ?_
      refine E_ret rfl rfl ?_
      have e9 : c = Cn R := by omega
      subst e9
      exact q m I1 I2
    · refine E_go (p' := 26) (L' := [some (aA 3), some (aA a), some (aI (x)), some (aI (y)), some (aA (a + 15)), some (aI ((c : Nat) : Int)), x6]) (st' := []) rfl rfl rfl ?_
      refine E_s (p' := 28) (st' := aI ((c : Nat) : Int) :: _) rfl rfl ?_
      refine E_s (p' := 29) (st' := aI (x) :: _) rfl rfl ?_
      refine E_icmp_eq (x := ((c : Nat) : Int)) (y := (x)) rfl (by decide) (fun h_2 => ?_) (fun h_2 => ?_)
      · refine E_go (p' := 38) (L' := [some (aA 3), some (aA a), some (aI (x)), some (aI (y)), some (aA (a + 15)), some (aI ((c : Nat) : Int)), x6]) (st' := []) rfl rfl rfl ?_
        refine E_s (p' := 39) (st' := aI 1 :: _) rfl rfl ?_
        refine E_s (p' := 43) rfl rfl ?_
        refine E_s (p' := 45) (L' := [some (aA 3), some (aA a), some (aI (x)), some (aI (y)), some (aA (a + 15)), some (aI ((c : Nat) : Int)), some (aI 1)]) rfl rfl ?_
        refine E_s (p' := 46) (st' := aA 3 :: _) rfl rfl ?_
        refine E_gA (b := 4) rfl rfl rfl rfl hm_3_0 rfl ?_
        refine E_s (p' := 51) (st' := aI ((c : Nat) : Int) :: _) rfl rfl ?_
        refine E_s (p' := 53) (st' := aI 1 :: _) rfl rfl ?_
        refine E_s (p' := 56) rfl rfl ?_
        refine E_s (p' := 57) (st' := aI 0 :: _) rfl rfl ?_
        refine E_s (p' := 67) rfl rfl ?_
        refine E_ast (e := c) (N := 60) rfl rfl (rfl) (by omega) ?_
        refine E_s (p' := 69) (st' := aA 3 :: _) rfl rfl ?_
        refine E_gA (b := 5) rfl rfl rfl rfl hm_3_1 rfl ?_
        refine E_s (p' := 74) (st' := aI ((c : Nat) : Int) :: _) rfl rfl ?_
        refine E_s (p' := 76) (st' := aI 1 :: _) rfl rfl ?_
        refine E_s (p' := 79) rfl rfl ?_
        refine E_s (p' := 81) (st' := aI 999999 :: _) rfl rfl ?_
        refine E_s (p' := 91) rfl rfl ?_
        refine E_ast (e := c) (N := 60) rfl rfl (rfl) (by omega) ?_
        refine E_inc (x := ((c : Nat) : Int)) (w := ((c + 1 : Nat) : Int)) (L' := [some (aA 3), some (aA a), some (aI (x)), some (aI (y)), some (aA (a + 15)), some (aI ((c + 1 : Nat) : Int)), some (aI 1)]) rfl rfl rfl (by omega) (by omega) rfl ?_
        refine E_s (p' := 14) rfl rfl ?_
        have ea : (((c : Nat) : Int) = x ∨ ((c : Nat) : Int) = y) = True := by simp only [eq_iff_iff, iff_true]; omega
        refine ih (c + 1) _ _ (by omega) (by omega) ((I1.up (by omega) (by omega)).up (by omega) (by omega)) (fun d hd8 => ?_)
        by_cases g9 : d = c
        · rw [g9]
          refine ⟨((up2_ne (by omega)).trans up2_eq).trans ?_, up2_eq.trans ?_⟩
          · unfold sL; simp only [ea, if_true, if_false]
          · unfold sH; simp only [ea, if_true, if_false]
        · exact ⟨(up2_ne (by omega)).trans ((up2_sl g9).trans (I2 d (by omega)).1), (up2_sl g9).trans ((up2_ne (by omega)).trans (I2 d (by omega)).2)⟩
      · refine E_go (p' := 32) (L' := [some (aA 3), some (aA a), some (aI (x)), some (aI (y)), some (aA (a + 15)), some (aI ((c : Nat) : Int)), x6]) (st' := []) rfl rfl rfl ?_
        refine E_s (p' := 34) (st' := aI ((c : Nat) : Int) :: _) rfl rfl ?_
        refine E_s (p' := 35) (st' := aI (y) :: _) rfl rfl ?_
        refine E_icmp_ne (x := ((c : Nat) : Int)) (y := (y)) rfl (by decide) (fun h_3 => ?_) (fun h_3 => ?_)
        · refine E_go (p' := 42) (L' := [some (aA 3), some (aA a), some (aI (x)), some (aI (y)), some (aA (a + 15)), some (aI ((c : Nat) : Int)), x6]) (st' := []) rfl rfl rfl ?_
          refine E_s (p' := 43) (st' := aI 0 :: _) rfl rfl ?_
          refine E_s (p' := 45) (L' := [some (aA 3), some (aA a), some (aI (x)), some (aI (y)), some (aA (a + 15)), some (aI ((c : Nat) : Int)), some (aI 0)]) rfl rfl ?_
          refine E_s (p' := 46) (st' := aA 3 :: _) rfl rfl ?_
          refine E_gA (b := 4) rfl rfl rfl rfl hm_3_0 rfl ?_
          refine E_s (p' := 51) (st' := aI ((c : Nat) : Int) :: _) rfl rfl ?_
          refine E_s (p' := 53) (st' := aI 0 :: _) rfl rfl ?_
          refine E_s (p' := 60) rfl rfl ?_
          refine E_s (p' := 62) (st' := aA (a + 15) :: _) rfl rfl ?_
          refine E_s (p' := 64) (st' := aI ((c : Nat) : Int) :: _) rfl rfl ?_
          refine E_callV (k' := 88) (a := a + 15) (r := [aI ((c : Nat) : Int), aA 4]) (L0 := [some (aA (a + 15)), some (aI ((c : Nat) : Int))]) rfl rfl rfl rfl rfl (kR_15 hR) rfl rfl rfl rfl ?_
          refine c_ownLeast hR hV (hdm.of (fun b j g1 g2 => rfl)) (c := c) (by omega) ?_
          refine E_go (p' := 67) (L' := [some (aA 3), some (aA a), some (aI (x)), some (aI (y)), some (aA (a + 15)), some (aI ((c : Nat) : Int)), some (aI 0)]) (st' := [aI ((oL R c)), aI ((c : Nat) : Int), aA 4]) rfl rfl rfl ?_
          refine E_ast (e := c) (N := 60) rfl rfl (rfl) (by omega) ?_
          refine E_s (p' := 69) (st' := aA 3 :: _) rfl rfl ?_
          refine E_gA (b := 5) rfl rfl rfl rfl hm_3_1 rfl ?_
          refine E_s (p' := 74) (st' := aI ((c : Nat) : Int) :: _) rfl rfl ?_
          refine E_s (p' := 76) (st' := aI 0 :: _) rfl rfl ?_
          refine E_s (p' := 84) rfl rfl ?_
          refine E_s (p' := 86) (st' := aA (a + 15) :: _) rfl rfl ?_
          refine E_s (p' := 88) (st' := aI ((c : Nat) : Int) :: _) rfl rfl ?_
          refine E_callV (k' := 89) (a := a + 15) (r := [aI ((c : Nat) : Int), aA 5]) (L0 := [some (aA (a + 15)), some (aI ((c : Nat) : Int))]) rfl rfl rfl rfl rfl (kR_15 hR) rfl rfl rfl rfl ?_
          refine c_ownGreatest hR hV (hdm.of (fun b j g1 g2 => (up2_ne (by omega)))) (c := c) (by omega) ?_
          refine E_go (p' := 91) (L' := [some (aA 3), some (aA a), some (aI (x)), some (aI (y)), some (aA (a + 15)), some (aI ((c : Nat) : Int)), some (aI 0)]) (st' := [aI ((oH R c)), aI ((c : Nat) : Int), aA 5]) rfl rfl rfl ?_
          refine E_ast (e := c) (N := 60) rfl rfl (rfl) (by omega) ?_
          refine E_inc (x := ((c : Nat) : Int)) (w := ((c + 1 : Nat) : Int)) (L' := [some (aA 3), some (aA a), some (aI (x)), some (aI (y)), some (aA (a + 15)), some (aI ((c + 1 : Nat) : Int)), some (aI 0)]) rfl rfl rfl (by omega) (by omega) rfl ?_
          refine E_s (p' := 14) rfl rfl ?_
          have ea : (((c : Nat) : Int) = x ∨ ((c : Nat) : Int) = y) = False := by simp only [eq_iff_iff, iff_false]; omega
          refine ih (c + 1) _ _ (by omega) (by omega) ((I1.up (by omega) (by omega)).up (by omega) (by omega)) (fun d hd8 => ?_)
          by_cases g9 : d = c
          · rw [g9]
            refine ⟨((up2_ne (by omega)).trans up2_eq).trans ?_, up2_eq.trans ?_⟩
            · unfold sL; simp only [ea, if_true, if_false]
            · unfold sH; simp only [ea, if_true, if_false]
          · exact ⟨(up2_ne (by omega)).trans ((up2_sl g9).trans (I2 d (by omega)).1), (up2_sl g9).trans ((up2_ne (by omega)).trans (I2 d (by omega)).2)⟩
        · refine E_go (p' := 38) (L' := [some (aA 3), some (aA a), some (aI (x)), some (aI (y)), some (aA (a + 15)), some (aI ((c : Nat) : Int)), x6]) (st' := []) rfl rfl rfl ?_
          refine E_s (p' := 39) (st' := aI 1 :: _) rfl rfl ?_
          refine E_s (p' := 43) rfl rfl ?_
          refine E_s (p' := 45) (L' := [some (aA 3), some (aA a), some (aI (x)), some (aI (y)), some (aA (a + 15)), some (aI ((c : Nat) : Int)), some (aI 1)]) rfl rfl ?_
          refine E_s (p' := 46) (st' := aA 3 :: _) rfl rfl ?_
          refine E_gA (b := 4) rfl rfl rfl rfl hm_3_0 rfl ?_
          refine E_s (p' := 51) (st' := aI ((c : Nat) : Int) :: _) rfl rfl ?_
          refine E_s (p' := 53) (st' := aI 1 :: _) rfl rfl ?_
          refine E_s (p' := 56) rfl rfl ?_
          refine E_s (p' := 57) (st' := aI 0 :: _) rfl rfl ?_
          refine E_s (p' := 67) rfl rfl ?_
          refine E_ast (e := c) (N := 60) rfl rfl (rfl) (by omega) ?_
          refine E_s (p' := 69) (st' := aA 3 :: _) rfl rfl ?_
          refine E_gA (b := 5) rfl rfl rfl rfl hm_3_1 rfl ?_
          refine E_s (p' := 74) (st' := aI ((c : Nat) : Int) :: _) rfl rfl ?_
          refine E_s (p' := 76) (st' := aI 1 :: _) rfl rfl ?_
          refine E_s (p' := 79) rfl rfl ?_
          refine E_s (p' := 81) (st' := aI 999999 :: _) rfl rfl ?_
          refine E_s (p' := 91) rfl rfl ?_
          refine E_ast (e := c) (N := 60) rfl rfl (rfl) (by omega) ?_
          refine E_inc (x := ((c : Nat) : Int)) (w := ((c + 1 : Nat) : Int)) (L' := [some (aA 3), some (aA a), some (aI (x)), some (aI (y)), some (aA (a + 15)), some (aI ((c + 1 : Nat) : Int)), some (aI 1)]) rfl rfl rfl (by omega) (by omega) rfl ?_
          refine E_s (p' := 14) rfl rfl ?_
          have ea : (((c : Nat) : Int) = x ∨ ((c : Nat) : Int) = y) = True := by simp only [eq_iff_iff, iff_true]; omega
          refine ih (c + 1) _ _ (by omega) (by omega) ((I1.up (by omega) (by omega)).up (by omega) (by omega)) (fun d hd8 => ?_)
          by_cases g9 : d = c
          · rw [g9]
            refine ⟨((up2_ne (by omega)).trans up2_eq).trans ?_, up2_eq.trans ?_⟩
            · unfold sL; simp only [ea, if_true, if_false]
            · unfold sH; simp only [ea, if_true, if_false]
          · exact ⟨(up2_ne (by omega)).trans ((up2_sl g9).trans (I2 d (by omega)).1), (up2_sl g9).trans ((up2_ne (by omega)).trans (I2 d (by omega)).2)⟩
theorem c_takeOwn (hR : isR a) (hC : CR R a m0) (hV : VR R) (hd : RdC R a m0) (q : ∀ m1 : Mm, Fx 3 5 m0 m1 → (∀ c, c < Cn R → m1 4 c = sL R x y c ∧ m1 5 c = sH R x y c) → Q none (m1, tl len)) : E 87 0 [some (aA 3), some (aA a), some (aI (x)), some (aI (y)), none, none, none] [] (m0, tl len) Q := by
  have hab := isR_b hR
  refine E_s (p' := 1) (st' := aA a :: _) rfl rfl ?_
  refine E_gA (b := a + 15) rfl rfl rfl (kR_0 hR) (hR_0_4 hR) rfl ?_
  refine E_s (p' := 6) (L' := [some (aA 3), some (aA a), some (aI (x)), some (aI (y)), some (aA (a + 15)), none, none]) rfl rfl ?_
  refine E_s (p' := 7) (st' := aA 3 :: _) rfl rfl ?_
  refine E_s (p' := 8) (st' := aI (-1) :: _) rfl rfl ?_
  refine E_pI rfl rfl rfl rfl (Or.inl rfl) ?_
  refine E_s (p' := 12) (st' := aI 0 :: _) rfl rfl ?_
  refine E_s (p' := 14) (L' := [some (aA 3), some (aA a), some (aI (x)), some (aI (y)), some (aA (a + 15)), some (aI 0), none]) rfl rfl ?_
  exact yl_ts hR (hC.of (fun b j g1 g2 _ => up2_ne (by omega))) hV (hd.of (fun b j g1 g2 => up2_ne (by omega))) (fun m1 F1 V1 => q m1 (fun b j hb => (F1 b j hb).trans (up2_ne (by omega))) V1) (Cn R + 1) 0 _ none (by omega) (by omega) Fx.rf (fun d hd8 => absurd hd8 (by omega))
theorem yl_rn (hR : isR a) (hC : CR R a m0) (hV : VR R) (hd : RdC R a m0) (q : ∀ m1 : Mm, Fx 3 7 m0 m1 → (∀ c, c < Cn R → m1 4 c = (rnd R 200 0 (sL R x y) (sH R x y)).2.1 c ∧ m1 5 c = (rnd R 200 0 (sL R x y) (sH R x y)).2.2 c) → Q (some (aI (rnd R 200 0 (sL R x y) (sH R x y)).1)) (m1, tl len)) : ∀ (d : Nat) (e i : Nat) (lo hi : Nat → Int) (m : Mm), (e < d) → (i + e = 200) → (rnd R 200 0 (sL R x y) (sH R x y) = rnd R e i lo hi) → (bnd (Cn R) lo hi) → (Fx 3 7 m0 m) → (∀ c, c < Cn R → m 4 c = lo c ∧ m 5 c = hi c) → E 86 10 [some (aA 3), some (aA a), some (aI (x)), some (aI (y)), some (aI ((i + 1 : Nat) : Int))] [] (m, tl len) Q := by
  intro d
  induction d with
  | zero => intro e i lo hi m hd9 hie hq hb I1 I2; omega
  | succ d ih =>
    intro e i lo hi m hd9 hie hq hb I1 I2
    have hab := isR_b hR
    have hn60 := hV.1
    refine E_s (p' := 12) (st' := aI ((i + 1 : Nat) : Int) :: _) rfl rfl ?_
    refine E_s (p' := 15) (st' := aI 200 :: _) rfl rfl ?_
    refine E_icmp_gt (x := ((i + 1 : Nat) : Int)) (y := 200) rfl (by decide) (fun h_1 => ?_) (fun h_1 => ?_)
    · refine E_go (p' := 68) (L' := [some (aA 3), some (aA a), some (aI (x)), some (aI (y)), some (aI ((i + 1 : Nat) : Int))]) (st' := []) rfl rfl rfl ?_
      refine E_s (p' := 70) (st' := aI (-4) :: _) rfl rfl ?_
      refine E_ret rfl rfl ?_
      have e9 : e = 0 := by omega
      subst e9
      rw [hq] at q
      exact q m I1 I2
    · refine E_go (p' := 18) (L' := [some (aA 3), some (aA a), some (aI (x)), some (aI (y)), some (aI ((i + 1 : Nat) : Int))]) (st' := []) rfl rfl rfl ?_
      refine E_s (p' := 19) (st' := aA 3 :: _) rfl rfl ?_
      refine E_s (p' := 21) (st' := aI ((i + 1 : Nat) : Int) :: _) rfl rfl ?_
      refine E_pI rfl rfl rfl rfl (Or.inl rfl) ?_
      refine E_s (p' := 25) (st' := aA 3 :: _) rfl rfl ?_
      refine E_s (p' := 26) (st' := aA a :: _) rfl rfl ?_
      refine E_callV (k' := 90) (a := 3) (r := []) (L0 := [some (aA 3), some (aA a), none, none]) rfl rfl rfl rfl rfl rfl rfl rfl rfl rfl ?_
      refine c_doRound hR (hC.of (fun b j g1 g2 _ => (up2_ne (by omega)).trans (I1 b j (by omega)))) hV hb (fun c hc => ⟨(up2_ne (by omega)).trans (I2 c hc).1, (up2_ne (by omega)).trans (I2 c hc).2⟩) (fun m1 F1 V1 => ?_)
      refine E_go (p' := 29) (L' := [some (aA 3), some (aA a), some (aI (x)), some (aI (y)), some (aI ((i + 1 : Nat) : Int))]) (st' := [aI (bi (rdC R lo hi (Cn R)))]) rfl rfl rfl ?_
      refine E_b_ne0 (b := (rdC R lo hi (Cn R))) rfl (by decide) (fun h_2 => ?_) (fun h_2 => ?_)
      · refine E_go (p' := 37) (L' := [some (aA 3), some (aA a), some (aI (x)), some (aI (y)), some (aI ((i + 1 : Nat) : Int))]) (st' := []) rfl rfl rfl ?_
        refine E_s (p' := 38) (st' := aA 3 :: _) rfl rfl ?_
        refine E_s (p' := 39) (st' := aA 3 :: _) rfl rfl ?_
        refine E_s (p' := 40) (st' := aA a :: _) rfl rfl ?_
        refine E_gA (b := a + 1) rfl rfl rfl (kR_0 hR) (hR_0_0 hR) rfl ?_
        refine E_gI (v := ((Cn R : Nat) : Int)) rfl rfl rfl (kR_1 hR) (hC.of (fun b j g1 g2 _ => (F1 b j (by omega)).trans ((up2_ne (by omega)).trans (I1 b j (by omega))))).1 ?_
        refine E_callV (k' := 93) (a := 3) (r := [aA 3]) (L0 := [some (aA 3), some (aI ((Cn R : Nat) : Int)), none]) rfl rfl rfl rfl rfl rfl rfl rfl rfl rfl ?_
        refine c_firstNone hn60 V1 (fun cb hc1 hc2 hc3 => ?_) (fun hno => ?_)
        · refine E_go (p' := 49) (L' := [some (aA 3), some (aA a), some (aI (x)), some (aI (y)), some (aI ((i + 1 : Nat) : Int))]) (st' := [aI ((cb : Nat) : Int), aA 3]) rfl rfl rfl ?_
          refine E_pI rfl rfl rfl rfl (Or.inl rfl) ?_
          refine E_s (p' := 53) (st' := aA 3 :: _) rfl rfl ?_
          refine E_gI (v := ((cb : Nat) : Int)) rfl rfl rfl rfl up2_eq ?_
          refine E_s (p' := 57) (st' := aI (-1) :: _) rfl rfl ?_
          refine E_icmp_eq (x := ((cb : Nat) : Int)) (y := (-1)) rfl (by decide) (fun q => absurd q (by omega)) (fun h_3 => ?_)
          refine E_go (p' := 60) (L' := [some (aA 3), some (aA a), some (aI (x)), some (aI (y)), some (aI ((i + 1 : Nat) : Int))]) (st' := []) rfl rfl rfl ?_
          refine E_s (p' := 61) (st' := aI (-1) :: _) rfl rfl ?_
          refine E_ret rfl rfl ?_
          have eb : brk (rdS R lo hi (Sn R)).1 (rdS R lo hi (Sn R)).2 (Cn R) = true := brk_t hc1 hc2
          obtain ⟨e1, ee⟩ : ∃ z, e = z + 1 := ⟨e - 1, by omega⟩
          rw [hq, ee] at q
          have er : rnd R (e1 + 1) i lo hi = (-1, rdS R lo hi (Sn R)) := by show (bif rdC R lo hi (Cn R) then _ else _) = _; rw [show rdC R lo hi (Cn R) = true by assumption, eb]; rfl
          rw [er] at q
          exact q _ ((I1.up (by omega) (by omega)).tr (F1.wide (by omega) (by omega)) |>.up (by omega) (by omega)) (fun c hc => ⟨(up2_ne (by omega)).trans (V1 c hc).1, (up2_ne (by omega)).trans (V1 c hc).2⟩)
        · refine E_go (p' := 49) (L' := [some (aA 3), some (aA a), some (aI (x)), some (aI (y)), some (aI ((i + 1 : Nat) : Int))]) (st' := [aI (-1), aA 3]) rfl rfl rfl ?_
          refine E_pI rfl rfl rfl rfl (Or.inl rfl) ?_
          refine E_s (p' := 53) (st' := aA 3 :: _) rfl rfl ?_
          refine E_gI (v := (-1)) rfl rfl rfl rfl up2_eq ?_
          refine E_s (p' := 57) (st' := aI (-1) :: _) rfl rfl ?_
          refine E_s (p' := 62) rfl rfl ?_
          refine E_inc (x := ((i + 1 : Nat) : Int)) (w := ((i + 2 : Nat) : Int)) (L' := [some (aA 3), some (aA a), some (aI (x)), some (aI (y)), some (aI ((i + 2 : Nat) : Int))]) rfl rfl rfl (by omega) (by omega) rfl ?_
          refine E_s (p' := 10) rfl rfl ?_
          obtain ⟨e1, ee⟩ : ∃ z, e = z + 1 := ⟨e - 1, by omega⟩
          refine ih e1 (i + 1) (rdS R lo hi (Sn R)).1 (rdS R lo hi (Sn R)).2 _ (by omega) (by omega) ?_ (fun c hc => ?_) ((I1.up (by omega) (by omega)).tr (F1.wide (by omega) (by omega)) |>.up (by omega) (by omega)) (fun c hc => ⟨(up2_ne (by omega)).trans (V1 c hc).1, (up2_ne (by omega)).trans (V1 c hc).2⟩)
          · rw [hq, ee]
            show (bif rdC R lo hi (Cn R) then _ else _) = _
            rw [show rdC R lo hi (Cn R) = true by assumption, brk_f.mpr hno]; rfl
          · have h1 := rdS_m (R := R) (lo := lo) (hi := hi) (Sn R) c
            have h2 := hb c hc
            have h3 := hno c hc
            omega
      · refine E_go (p' := 32) (L' := [some (aA 3), some (aA a), some (aI (x)), some (aI (y)), some (aI ((i + 1 : Nat) : Int))]) (st' := []) rfl rfl rfl ?_
        refine E_s (p' := 34) (st' := aI ((i + 1 : Nat) : Int) :: _) rfl rfl ?_
        refine E_s (p' := 35) (st' := aI 1 :: _) rfl rfl ?_
        refine E_sub (v := ((i : Nat) : Int)) rfl (by omega) (by omega) ?_
        refine E_ret rfl rfl ?_
        obtain ⟨e1, ee⟩ : ∃ z, e = z + 1 := ⟨e - 1, by omega⟩
        rw [hq, ee] at q
        have er : rnd R (e1 + 1) i lo hi = ((i : Int), rdS R lo hi (Sn R)) := by show (bif rdC R lo hi (Cn R) then _ else _) = _; rw [show rdC R lo hi (Cn R) = false by assumption]; rfl
        rw [er] at q
        exact q m1 ((I1.up (by omega) (by omega)).tr (F1.wide (by omega) (by omega))) V1
theorem c_run (hR : isR a) (hC : CR R a m0) (hV : VR R) (hd : RdC R a m0) (q : ∀ m1 : Mm, Fx 3 7 m0 m1 → (∀ c, c < Cn R → m1 4 c = (rnd R 200 0 (sL R x y) (sH R x y)).2.1 c ∧ m1 5 c = (rnd R 200 0 (sL R x y) (sH R x y)).2.2 c) → Q (some (aI (rnd R 200 0 (sL R x y) (sH R x y)).1)) (m1, tl len)) : E 86 0 [some (aA 3), some (aA a), some (aI (x)), some (aI (y)), none] [] (m0, tl len) Q := by
  have hab := isR_b hR
  refine E_s (p' := 1) (st' := aA 3 :: _) rfl rfl ?_
  refine E_s (p' := 2) (st' := aA a :: _) rfl rfl ?_
  refine E_s (p' := 3) (st' := aI (x) :: _) rfl rfl ?_
  refine E_s (p' := 4) (st' := aI (y) :: _) rfl rfl ?_
  refine E_callV (k' := 87) (a := 3) (r := []) (L0 := [some (aA 3), some (aA a), some (aI (x)), some (aI (y)), none, none, none]) rfl rfl rfl rfl rfl rfl rfl rfl rfl rfl ?_
  refine c_takeOwn hR hC hV hd (fun m1 F1 V1 => ?_)
  refine E_go (p' := 7) (L' := [some (aA 3), some (aA a), some (aI (x)), some (aI (y)), none]) (st' := []) rfl rfl rfl ?_
  refine E_s (p' := 8) (st' := aI 1 :: _) rfl rfl ?_
  refine E_s (p' := 10) (L' := [some (aA 3), some (aA a), some (aI (x)), some (aI (y)), some (aI 1)]) rfl rfl ?_
  exact yl_rn hR (hC.of (fun b j g1 g2 _ => F1 b j (by omega))) hV (hd.of (fun b j g1 g2 => F1 b j (by omega))) (fun m2 F2 V2 => q m2 ((F1.wide (by omega) (by omega)).tr F2) V2) 201 200 0 (sL R x y) (sH R x y) m1 (by omega) (by omega) rfl (own_b hV x y) Fx.rf V1
theorem c_keepSpans (hR : isR a) (hC : CR R a m0) (hn : Cn R ≤ 60) (q : ∀ m1 : Mm, (∀ b j, b ≠ a + 13 → b ≠ a + 14 → ¬ (b = a ∧ j = 6) → m1 b j = m0 b j) → Q none (m1, tl len)) : E 94 0 [some (aA a), some (aA 3)] [] (m0, tl len) Q := by
  have hab := isR_b hR
  refine E_s (p' := 1) (st' := aA 3 :: _) rfl rfl ?_
  refine E_gA (b := 4) rfl rfl rfl rfl hm_3_0 rfl ?_
  refine E_s (p' := 5) (st' := aI 0 :: _) rfl rfl ?_
  refine E_s (p' := 6) (st' := aA a :: _) rfl rfl ?_
  refine E_gA (b := a + 13) rfl rfl rfl (kR_0 hR) (hR_0_2 hR) rfl ?_
  refine E_s (p' := 10) (st' := aI 0 :: _) rfl rfl ?_
  refine E_s (p' := 11) (st' := aA a :: _) rfl rfl ?_
  refine E_gA (b := a + 1) rfl rfl rfl (kR_0 hR) (hR_0_0 hR) rfl ?_
  refine E_gI (v := ((Cn R : Nat) : Int)) rfl rfl rfl (kR_1 hR) hC.1 ?_
  refine E_acp (e1 := 0) (e2 := 0) (e3 := Cn R) rfl rfl rfl (kR_13 hR) (rfl) (rfl) (rfl) (by omega) (by omega) rfl ?_
  refine E_go (p' := 20) (L' := [some (aA a), some (aA 3)]) (st' := []) rfl rfl rfl ?_
  refine E_s (p' := 21) (st' := aA 3 :: _) rfl rfl ?_
  refine E_gA (b := 5) rfl rfl rfl rfl hm_3_1 rfl ?_
  refine E_s (p' := 25) (st' := aI 0 :: _) rfl rfl ?_
  refine E_s (p' := 26) (st' := aA a :: _) rfl rfl ?_
  refine E_gA (b := a + 14) rfl rfl rfl (kR_0 hR) (hR_0_3 hR) rfl ?_
  refine E_s (p' := 30) (st' := aI 0 :: _) rfl rfl ?_
  refine E_s (p' := 31) (st' := aA a :: _) rfl rfl ?_
  refine E_gA (b := a + 1) rfl rfl rfl (kR_0 hR) (hR_0_0 hR) rfl ?_
  refine E_gI (v := ((Cn R : Nat) : Int)) rfl rfl rfl (kR_1 hR) ((cpm_ne (by omega)).trans hC.1) ?_
  refine E_acp (e1 := 0) (e2 := 0) (e3 := Cn R) rfl rfl rfl (kR_14 hR) (rfl) (rfl) (rfl) (by omega) (by omega) rfl ?_
  refine E_go (p' := 40) (L' := [some (aA a), some (aA 3)]) (st' := []) rfl rfl rfl ?_
  refine E_s (p' := 41) (st' := aA a :: _) rfl rfl ?_
  refine E_s (p' := 42) (st' := aI 1 :: _) rfl rfl ?_
  refine E_pI rfl rfl rfl (kR_0 hR) (Or.inr (by decide)) ?_
  refine E_ret rfl rfl ?_
  exact q _ (fun b j g1 g2 g3 => (up2_o g3).trans ((cpm_ne g2).trans (cpm_ne g1)))
end
def aSettle (R : RD) : Int := (rnd R 200 0 (sL R (-1) (-1)) (sH R (-1) (-1))).1
section
variable {len : Nat} {m : Mm} {Q : Option AV → Sx → Prop} {S : Nat → RD} {r : Int}
theorem C_settle (hS : CS S m) (q : ∀ m1, CS S m1 → Mo m m1 → Q (some (aI (qy S r (-2) (aSettle)))) (m1, tl len)) : E 85 0 [some (aA 1), some (aI (r)), none, none] [] (m, tl len) Q := by
  refine E_s (p' := 1) (st' := aA 1 :: _) rfl rfl ?_
  refine E_s (p' := 2) (st' := aI (r) :: _) rfl rfl ?_
  refine E_callV (k' := 34) (a := 1) (r := []) (L0 := [some (aA 1), some (aI (r)), none]) rfl rfl rfl rfl rfl rfl rfl rfl rfl rfl ?_
  refine c_readOf hS (fun i a m1 hi hr ha hR hS1 hCS hd hMo => ?_) (fun hr => ?_)
  · refine E_go (p' := 5) (L' := [some (aA 1), some (aI (r)), none, none]) (st' := [aA a]) rfl rfl rfl ?_
    obtain ⟨hV, hC, -⟩ := hCS
    have hn60 := hV.1
    have hab := isR_b hR
    have hs40 := hV.2.2.2.2.1
    refine E_s (p' := 6) (L' := [some (aA 1), some (aI (r)), some (aA a), none]) rfl rfl ?_
    refine E_s (p' := 7) (st' := aA a :: _) rfl rfl ?_
    refine E_s (p' := 13) rfl rfl ?_
    refine E_s (p' := 14) (st' := aA 1 :: _) rfl rfl ?_
    refine E_gA (b := 3) rfl rfl rfl rfl rfl rfl ?_
    refine E_s (p' := 18) (st' := aA a :: _) rfl rfl ?_
    refine E_s (p' := 19) (st' := aI (-1) :: _) rfl rfl ?_
    refine E_s (p' := 20) (st' := aI (-1) :: _) rfl rfl ?_
    refine E_callV (k' := 86) (a := 3) (r := []) (L0 := [some (aA 3), some (aA a), some (aI (-1)), some (aI (-1)), none]) rfl rfl rfl rfl rfl rfl rfl rfl rfl rfl ?_
    refine c_run (x := -1) (y := -1) hR hC hV hd (fun m2 F2 V2 => ?_)
    refine E_go (p' := 23) (L' := [some (aA 1), some (aI (r)), some (aA a), none]) (st' := [aI ((aSettle (S i)))]) rfl rfl rfl ?_
    have hC2 : CR (S i) a m2 := hC.of (fun b j g1 g2 _ => F2 b j (by omega))
    refine E_s (p' := 24) (L' := [some (aA 1), some (aI (r)), some (aA a), some (aI ((aSettle (S i))))]) rfl rfl ?_
    refine E_s (p' := 25) (st' := aA a :: _) rfl rfl ?_
    refine E_s (p' := 26) (st' := aA 1 :: _) rfl rfl ?_
    refine E_gA (b := 3) rfl rfl rfl rfl rfl rfl ?_
    refine E_callV (k' := 94) (a := a) (r := []) (L0 := [some (aA a), some (aA 3)]) rfl rfl rfl rfl rfl (kR_0 hR) rfl rfl rfl rfl ?_
    refine c_keepSpans hR hC2 hn60 (fun m3 F3 => ?_)
    refine E_go (p' := 32) (L' := [some (aA 1), some (aI (r)), some (aA a), some (aI ((aSettle (S i))))]) (st' := []) rfl rfl rfl ?_
    refine E_s (p' := 33) (st' := aI ((aSettle (S i))) :: _) rfl rfl ?_
    refine E_ret rfl rfl ?_
    have hS3 : CS S m3 := by
      have h1 := hS1.set hi ha (R := S i) (m1 := m3) ⟨hV, hC.of (fun b j g1 g2 g3 => (F3 b j (by omega) (by omega) (by omega)).trans (F2 b j (by omega))), by
        have h7 : m3 a 7 = m1 a 7 := (F3 _ _ (by omega) (by omega) (by omega)).trans (F2 _ _ (by omega))
        rw [h7]
        rcases (hS1 i hi).2.2 with g9 | g9
        · rw [← ha] at g9; exact Or.inl g9
        · rw [← ha] at g9; exact Or.inr ⟨g9.1, g9.2.of (fun b j g1 g2 => (F3 b j (by omega) (by omega) (by omega)).trans (F2 b j (by omega)))⟩⟩ (fun b j hb => (F3 b j (by omega) (by omega) (by omega)).trans (F2 b j (by omega)))
      rw [upf_self] at h1
      exact h1
    exact fq_in hS3 hi hr q rfl (fun b j hb => (F3 b j (by omega) (by omega) (by omega)).trans ((F2 b j (by omega)).trans (hMo b j hb)))
  · refine E_go (p' := 5) (L' := [some (aA 1), some (aI (r)), none, none]) (st' := [aN]) rfl rfl rfl ?_
    refine E_s (p' := 6) (L' := [some (aA 1), some (aI (r)), some (aN), none]) rfl rfl ?_
    refine E_s (p' := 7) (st' := aN :: _) rfl rfl ?_
    refine E_s (p' := 10) rfl rfl ?_
    refine E_s (p' := 12) (st' := aI (-2) :: _) rfl rfl ?_
    refine E_ret rfl rfl ?_
    exact fq_out hS q hr
end

/-- nothing but the model's scratch of SPANS and of the reading has changed -/
def FrS (m m' : Mm) : Prop := ∀ b z, ¬ (b = 124 ∧ 19 ≤ z ∧ z ≤ 29) → ¬ (141 ≤ b ∧ b ≤ 147) → ¬ (153 ≤ b ∧ b ≤ 158) → m' b z = m b z
theorem FrS.rf {m : Mm} : FrS m m := fun _ _ _ _ _ => rfl
theorem FrS.tr {m m' m'' : Mm} (h : FrS m m') (h' : FrS m' m'') : FrS m m'' := fun b z g1 g2 g3 => (h' b z g1 g2 g3).trans (h b z g1 g2 g3)
theorem FrS.MS {S : Nat → RD} {m m' : Mm} (h : FrS m m') (hS : MS S m) : MS S m' := hS.of (fun b j g1 g2 => h b j (by omega) (by omega) (by omega))
theorem FrS.MR {R : RD} {i : Nat} {m m' : Mm} (h : FrS m m') (hM : MR R i m) : MR R i m' := hM.of (fun b j g1 g2 => h b j (by omega) (by omega) (by omega))
theorem FrS.Co1 {m m' : Mm} (h : FrS m m') : Co1 m m' := fun b j hb => h b j (by omega) (by omega) (by omega)
def RWm (n : Nat) (lo hi : Nat → Int) (p : Sp2) (m : Mm) : Prop := ∀ c, c < n → m 155 c = lo c ∧ m 156 c = hi c ∧ m 157 c = p.1 c ∧ m 158 c = p.2 c
theorem kw_1 {p : Sp2} {c : Nat} {l g : Int} {x : Nat} (h : x ≠ c) : (kw p c l g).1 x = p.1 x ∧ (kw p c l g).2 x = p.2 x := ⟨upf_ne h, upf_ne h⟩
theorem kw_0 {p : Sp2} {c : Nat} {l g : Int} : (kw p c l g).1 c = max (p.1 c) l ∧ (kw p c l g).2 c = min (p.2 c) g := ⟨upf_eq, upf_eq⟩
theorem RWm.kw {n : Nat} {lo hi : Nat → Int} {p : Sp2} {m : Mm} {c : Nat} {l g x y : Int} (h : RWm n lo hi p m) (hx : x = max (p.1 c) l) (hy : y = min (p.2 c) g) : RWm n lo hi (kw p c l g) (up2 (up2 m 157 c x) 158 c y) := by
  intro d hd
  obtain ⟨k1, k2, k3, k4⟩ := h d hd
  refine ⟨(up2_ne (by omega)).trans ((up2_ne (by omega)).trans k1), (up2_ne (by omega)).trans ((up2_ne (by omega)).trans k2), ?_, ?_⟩
  · by_cases g9 : d = c
    · rw [g9, kw_0.1]; exact (up2_ne (by omega)).trans (up2_eq.trans hx)
    · rw [(kw_1 g9).1]; exact (up2_ne (by omega)).trans ((up2_sl g9).trans k3)
  · by_cases g9 : d = c
    · rw [g9, kw_0.2]; exact up2_eq.trans hy
    · rw [(kw_1 g9).2]; exact (up2_sl g9).trans ((up2_ne (by omega)).trans k4)
section
variable {len : Nat} {m m0 : Mm} {Q : Option AV → Sx → Prop} {R : RD} {i : Nat} {lo hi : Nat → Int} {p : Sp2}
theorem yl_ow (hi9 : i < 4) (hM : MR R i m0) (hV : VR R) (q : ∀ m1 : Mm, FrS m0 m1 → (∀ d, d < Cn R → m1 153 d = oL R d ∧ m1 154 d = oH R d) → Q none (m1, tl len)) : ∀ (d : Nat) (c : Nat) (m : Mm), (Cn R < c + d) → (c ≤ Cn R) → (FrS m0 m) → (RdM R m) → (∀ d, d < c → m 153 d = oL R d ∧ m 154 d = oH R d) → E 166 8 [some (aA 124), some (aI ((i : Nat) : Int)), some (aI ((c : Nat) : Int))] [] (m, tl len) Q := by
  intro d
  induction d with
  | zero => intro c m hd hcn I1 I2 I3; omega
  | succ d ih =>
    intro c m hd hcn I1 I2 I3
    have hn60 := hV.1
    have hMm : MR R i m := I1.MR hM
    refine E_s (p' := 9) (st' := aI ((c : Nat) : Int) :: _) rfl rfl ?_
    refine E_s (p' := 10) (st' := aA 124 :: _) rfl rfl ?_
    refine E_gA (b := 125) rfl rfl rfl rfl rfl rfl ?_
    refine E_s (p' := 14) (st' := aI ((i : Nat) : Int) :: _) rfl rfl ?_
    refine E_ald (e := i) (N := 4) (v := ((Cn R : Nat) : Int)) rfl rfl (rfl) (by omega) (MR_125 hMm) ?_
    refine E_icmp_ge (x := ((c : Nat) : Int)) (y := ((Cn R : Nat) : Int)) rfl (by decide) (fun h_1 => ?_) (fun h_1 => ?_)
    · refine E_go (p' := 82) (L' := [some (aA 124), some (aI ((i : Nat) : Int)), some (aI ((c : Nat) : Int))]) (st' := []) rfl rfl rfl ?_
      refine E_ret rfl rfl ?_
      have ec : c = Cn R := by omega
      subst ec
      exact q m I1 I3
    · refine E_go (p' := 18) (L' := [some (aA 124), some (aI ((i : Nat) : Int)), some (aI ((c : Nat) : Int))]) (st' := []) rfl rfl rfl ?_
      refine E_s (p' := 19) (st' := aA 124 :: _) rfl rfl ?_
      refine E_s (p' := 21) (st' := aI 60 :: _) rfl rfl ?_
      refine E_s (p' := 22) (st' := aI ((i : Nat) : Int) :: _) rfl rfl ?_
      refine E_mul (v := ((60 * i : Nat) : Int)) rfl (by omega) (by omega) ?_
      refine E_s (p' := 24) (st' := aI ((c : Nat) : Int) :: _) rfl rfl ?_
      refine E_add (v := ((60 * i + c : Nat) : Int)) rfl (by omega) (by omega) ?_
      refine E_callV (k' := 148) (a := 124) (r := []) (L0 := [some (aA 124), some (aI ((60 * i + c : Nat) : Int)), none, none]) rfl rfl rfl rfl rfl rfl rfl rfl rfl rfl ?_
      refine m_readCord hi9 hMm hV (c := c) (by omega) I2 (fun m1 K1 K2 K3 K4 K5 => ?_)
      refine E_go (p' := 28) (L' := [some (aA 124), some (aI ((i : Nat) : Int)), some (aI ((c : Nat) : Int))]) (st' := []) rfl rfl rfl ?_
      have hfb := Rft_b R c
      have hvb := Rvl_c hV (show c < Cn R by omega)
      have hlb := Rls_b (R := R) c
      refine E_s (p' := 29) (st' := aA 124 :: _) rfl rfl ?_
      refine E_gA (b := 153) rfl rfl rfl rfl rfl rfl ?_
      refine E_s (p' := 33) (st' := aI ((c : Nat) : Int) :: _) rfl rfl ?_
      refine E_s (p' := 34) (st' := aA 124 :: _) rfl rfl ?_
      refine E_gI (v := ((Rft R c : Nat) : Int)) rfl rfl rfl rfl K3 ?_
      refine E_if_le (x := ((Rft R c : Nat) : Int)) rfl (by decide) (fun h_2 => ?_) (fun h_2 => ?_)
      · refine E_go (p' := 44) (L' := [some (aA 124), some (aI ((i : Nat) : Int)), some (aI ((c : Nat) : Int))]) (st' := [aI ((c : Nat) : Int), aA 153]) rfl rfl rfl ?_
        refine E_s (p' := 45) (st' := aA 124 :: _) rfl rfl ?_
        refine E_gI (v := ((Rvl R c : Nat) : Int)) rfl rfl rfl rfl K4 ?_
        refine E_ast (e := c) (N := 60) rfl rfl (rfl) (by omega) ?_
        refine E_s (p' := 50) (st' := aA 124 :: _) rfl rfl ?_
        refine E_gA (b := 154) rfl rfl rfl rfl rfl rfl ?_
        refine E_s (p' := 54) (st' := aI ((c : Nat) : Int) :: _) rfl rfl ?_
        refine E_s (p' := 55) (st' := aA 124 :: _) rfl rfl ?_
        refine E_gI (v := ((Rft R c : Nat) : Int)) rfl rfl rfl rfl ((up2_ne (by omega)).trans (K3)) ?_
        refine E_if_le (x := ((Rft R c : Nat) : Int)) rfl (by decide) (fun h_3 => ?_) (fun h_3 => ?_)
        · refine E_go (p' := 66) (L' := [some (aA 124), some (aI ((i : Nat) : Int)), some (aI ((c : Nat) : Int))]) (st' := [aI ((c : Nat) : Int), aA 154]) rfl rfl rfl ?_
          refine E_s (p' := 67) (st' := aA 124 :: _) rfl rfl ?_
          refine E_gI (v := ((Rvl R c : Nat) : Int)) rfl rfl rfl rfl ((up2_ne (by omega)).trans (K4)) ?_
          refine E_s (p' := 71) (st' := aA 124 :: _) rfl rfl ?_
          refine E_gI (v := ((Rls R c : Nat) : Int)) rfl rfl rfl rfl ((up2_ne (by omega)).trans (K5)) ?_
          refine E_add (v := ((Rvl R c + Rls R c : Nat) : Int)) rfl (by omega) (by omega) ?_
          refine E_ast (e := c) (N := 60) rfl rfl (rfl) (by omega) ?_
          refine E_inc (x := ((c : Nat) : Int)) (w := ((c + 1 : Nat) : Int)) (L' := [some (aA 124), some (aI ((i : Nat) : Int)), some (aI ((c + 1 : Nat) : Int))]) rfl rfl rfl (by omega) (by omega) rfl ?_
          refine E_s (p' := 8) rfl rfl ?_
          refine ih (c + 1) _ (by omega) (by omega) (fun b z g1 g2 g3 => (up2_ne (by omega)).trans ((up2_ne (by omega)).trans ((K1 b z g1 g2).trans (I1 b z g1 g2 g3)))) (K2.of (fun b j hb => (up2_ne (by omega)).trans (up2_ne (by omega)))) (fun d hd9 => ?_)
          by_cases g9 : d = c
          · rw [g9]
            refine ⟨((up2_ne (by omega)).trans up2_eq).trans ?_, up2_eq.trans ?_⟩
            · unfold oL; split <;> omega
            · unfold oH; split <;> omega
          · exact ⟨(up2_ne (by omega)).trans ((up2_sl g9).trans ((K1 _ _ (by omega) (by omega)).trans (I3 d (by omega)).1)), (up2_sl g9).trans ((up2_ne (by omega)).trans ((K1 _ _ (by omega) (by omega)).trans (I3 d (by omega)).2))⟩
        · refine E_go (p' := 61) (L' := [some (aA 124), some (aI ((i : Nat) : Int)), some (aI ((c : Nat) : Int))]) (st' := [aI ((c : Nat) : Int), aA 154]) rfl rfl rfl ?_
          refine E_s (p' := 63) (st' := aI 999999 :: _) rfl rfl ?_
          refine E_s (p' := 75) rfl rfl ?_
          refine E_ast (e := c) (N := 60) rfl rfl (rfl) (by omega) ?_
          refine E_inc (x := ((c : Nat) : Int)) (w := ((c + 1 : Nat) : Int)) (L' := [some (aA 124), some (aI ((i : Nat) : Int)), some (aI ((c + 1 : Nat) : Int))]) rfl rfl rfl (by omega) (by omega) rfl ?_
          refine E_s (p' := 8) rfl rfl ?_
          refine ih (c + 1) _ (by omega) (by omega) (fun b z g1 g2 g3 => (up2_ne (by omega)).trans ((up2_ne (by omega)).trans ((K1 b z g1 g2).trans (I1 b z g1 g2 g3)))) (K2.of (fun b j hb => (up2_ne (by omega)).trans (up2_ne (by omega)))) (fun d hd9 => ?_)
          by_cases g9 : d = c
          · rw [g9]
            refine ⟨((up2_ne (by omega)).trans up2_eq).trans ?_, up2_eq.trans ?_⟩
            · unfold oL; split <;> omega
            · unfold oH; split <;> omega
          · exact ⟨(up2_ne (by omega)).trans ((up2_sl g9).trans ((K1 _ _ (by omega) (by omega)).trans (I3 d (by omega)).1)), (up2_sl g9).trans ((up2_ne (by omega)).trans ((K1 _ _ (by omega) (by omega)).trans (I3 d (by omega)).2))⟩
      · refine E_go (p' := 40) (L' := [some (aA 124), some (aI ((i : Nat) : Int)), some (aI ((c : Nat) : Int))]) (st' := [aI ((c : Nat) : Int), aA 153]) rfl rfl rfl ?_
        refine E_s (p' := 41) (st' := aI 0 :: _) rfl rfl ?_
        refine E_s (p' := 48) rfl rfl ?_
        refine E_ast (e := c) (N := 60) rfl rfl (rfl) (by omega) ?_
        refine E_s (p' := 50) (st' := aA 124 :: _) rfl rfl ?_
        refine E_gA (b := 154) rfl rfl rfl rfl rfl rfl ?_
        refine E_s (p' := 54) (st' := aI ((c : Nat) : Int) :: _) rfl rfl ?_
        refine E_s (p' := 55) (st' := aA 124 :: _) rfl rfl ?_
        refine E_gI (v := ((Rft R c : Nat) : Int)) rfl rfl rfl rfl ((up2_ne (by omega)).trans (K3)) ?_
        refine E_if_le (x := ((Rft R c : Nat) : Int)) rfl (by decide) (fun h_4 => ?_) (fun h_4 => ?_)
        · refine E_go (p' := 66) (L' := [some (aA 124), some (aI ((i : Nat) : Int)), some (aI ((c : Nat) : Int))]) (st' := [aI ((c : Nat) : Int), aA 154]) rfl rfl rfl ?_
          refine E_s (p' := 67) (st' := aA 124 :: _) rfl rfl ?_
          refine E_gI (v := ((Rvl R c : Nat) : Int)) rfl rfl rfl rfl ((up2_ne (by omega)).trans (K4)) ?_
          refine E_s (p' := 71) (st' := aA 124 :: _) rfl rfl ?_
          refine E_gI (v := ((Rls R c : Nat) : Int)) rfl rfl rfl rfl ((up2_ne (by omega)).trans (K5)) ?_
          refine E_add (v := ((Rvl R c + Rls R c : Nat) : Int)) rfl (by omega) (by omega) ?_
          refine E_ast (e := c) (N := 60) rfl rfl (rfl) (by omega) ?_
          refine E_inc (x := ((c : Nat) : Int)) (w := ((c + 1 : Nat) : Int)) (L' := [some (aA 124), some (aI ((i : Nat) : Int)), some (aI ((c + 1 : Nat) : Int))]) rfl rfl rfl (by omega) (by omega) rfl ?_
          refine E_s (p' := 8) rfl rfl ?_
          refine ih (c + 1) _ (by omega) (by omega) (fun b z g1 g2 g3 => (up2_ne (by omega)).trans ((up2_ne (by omega)).trans ((K1 b z g1 g2).trans (I1 b z g1 g2 g3)))) (K2.of (fun b j hb => (up2_ne (by omega)).trans (up2_ne (by omega)))) (fun d hd9 => ?_)
          by_cases g9 : d = c
          · rw [g9]
            refine ⟨((up2_ne (by omega)).trans up2_eq).trans ?_, up2_eq.trans ?_⟩
            · unfold oL; split <;> omega
            · unfold oH; split <;> omega
          · exact ⟨(up2_ne (by omega)).trans ((up2_sl g9).trans ((K1 _ _ (by omega) (by omega)).trans (I3 d (by omega)).1)), (up2_sl g9).trans ((up2_ne (by omega)).trans ((K1 _ _ (by omega) (by omega)).trans (I3 d (by omega)).2))⟩
        · refine E_go (p' := 61) (L' := [some (aA 124), some (aI ((i : Nat) : Int)), some (aI ((c : Nat) : Int))]) (st' := [aI ((c : Nat) : Int), aA 154]) rfl rfl rfl ?_
          refine E_s (p' := 63) (st' := aI 999999 :: _) rfl rfl ?_
          refine E_s (p' := 75) rfl rfl ?_
          refine E_ast (e := c) (N := 60) rfl rfl (rfl) (by omega) ?_
          refine E_inc (x := ((c : Nat) : Int)) (w := ((c + 1 : Nat) : Int)) (L' := [some (aA 124), some (aI ((i : Nat) : Int)), some (aI ((c + 1 : Nat) : Int))]) rfl rfl rfl (by omega) (by omega) rfl ?_
          refine E_s (p' := 8) rfl rfl ?_
          refine ih (c + 1) _ (by omega) (by omega) (fun b z g1 g2 g3 => (up2_ne (by omega)).trans ((up2_ne (by omega)).trans ((K1 b z g1 g2).trans (I1 b z g1 g2 g3)))) (K2.of (fun b j hb => (up2_ne (by omega)).trans (up2_ne (by omega)))) (fun d hd9 => ?_)
          by_cases g9 : d = c
          · rw [g9]
            refine ⟨((up2_ne (by omega)).trans up2_eq).trans ?_, up2_eq.trans ?_⟩
            · unfold oL; split <;> omega
            · unfold oH; split <;> omega
          · exact ⟨(up2_ne (by omega)).trans ((up2_sl g9).trans ((K1 _ _ (by omega) (by omega)).trans (I3 d (by omega)).1)), (up2_sl g9).trans ((up2_ne (by omega)).trans ((K1 _ _ (by omega) (by omega)).trans (I3 d (by omega)).2))⟩
theorem m_own (hi9 : i < 4) (hM : MR R i m0) (hV : VR R) (q : ∀ m1 : Mm, FrS m0 m1 → (∀ d, d < Cn R → m1 153 d = oL R d ∧ m1 154 d = oH R d) → Q none (m1, tl len)) : E 166 0 [some (aA 124), some (aI ((i : Nat) : Int)), none] [] (m0, tl len) Q := by
  refine E_s (p' := 1) (st' := aA 124 :: _) rfl rfl ?_
  refine E_s (p' := 2) (st' := aI ((i : Nat) : Int) :: _) rfl rfl ?_
  refine E_callV (k' := 147) (a := 124) (r := []) (L0 := [some (aA 124), some (aI ((i : Nat) : Int)), none, none]) rfl rfl rfl rfl rfl rfl rfl rfl rfl rfl ?_
  refine m_read hi9 hM hV (fun m1 K1 K2 => ?_)
  refine E_go (p' := 5) (L' := [some (aA 124), some (aI ((i : Nat) : Int)), none]) (st' := [aI (bi (decide (0 < RL R)))]) rfl rfl rfl ?_
  refine E_s (p' := 6) rfl rfl ?_
  refine E_s (p' := 7) (st' := aI 0 :: _) rfl rfl ?_
  refine E_s (p' := 8) (L' := [some (aA 124), some (aI ((i : Nat) : Int)), some (aI 0)]) rfl rfl ?_
  exact yl_ow hi9 hM hV q (Cn R + 1) 0 m1 (by omega) (by omega) (fun b z g1 g2 _ => K1 b z g1 g2) K2 (fun d hd9 => absurd hd9 (by omega))
theorem yl_roA (hi9 : i < 4) (hM : MR R i m0) (hV : VR R) (hb : bnd (Cn R) lo hi) (hlo : ∀ c, c < Cn R → m0 155 c = lo c ∧ m0 156 c = hi c) (hk : ∀ m1 : Mm, (∀ b z, b ≠ 157 → b ≠ 158 → m1 b z = m0 b z) → RWm (Cn R) lo hi (lo, hi) m1 → E 168 42 [some (aA 124), some (aI (i : Int)), some (aI (Cn R : Int)), none, none, none, none, none] [] (m1, tl len) Q) : ∀ (d : Nat) (c : Nat) (m : Mm), (Cn R < c + d) → (c ≤ Cn R) → (∀ b z, b ≠ 157 → b ≠ 158 → m b z = m0 b z) → (∀ x, x < c → m 157 x = lo x ∧ m 158 x = hi x) → E 168 2 [some (aA 124), some (aI ((i : Nat) : Int)), some (aI ((c : Nat) : Int)), none, none, none, none, none] [] (m, tl len) Q := by
  intro d
  induction d with
  | zero => intro c m hd hc I0 I1; omega
  | succ d ih =>
    intro c m hd hc I0 I1
    have hn60 := hV.1
    have hMm : MR R i m := hM.of (fun b j g1 g2 => I0 b j (by omega) (by omega))
    refine E_s (p' := 3) (st' := aI ((c : Nat) : Int) :: _) rfl rfl ?_
    refine E_s (p' := 4) (st' := aA 124 :: _) rfl rfl ?_
    refine E_gA (b := 125) rfl rfl rfl rfl rfl rfl ?_
    refine E_s (p' := 8) (st' := aI ((i : Nat) : Int) :: _) rfl rfl ?_
    refine E_ald (e := i) (N := 4) (v := ((Cn R : Nat) : Int)) rfl rfl (rfl) (by omega) (MR_125 hMm) ?_
    refine E_icmp_ge (x := ((c : Nat) : Int)) (y := ((Cn R : Nat) : Int)) rfl (by decide) (fun h_1 => ?_) (fun h_1 => ?_)
    · refine E_go (p' := 42) (L' := [some (aA 124), some (aI ((i : Nat) : Int)), some (aI ((c : Nat) : Int)), none, none, none, none, none]) (st' := []) rfl rfl rfl ?_
      have e9 : c = Cn R := by omega
      subst e9
      exact hk m I0 (fun x hx => ⟨(I0 _ _ (by omega) (by omega)).trans (hlo x hx).1, (I0 _ _ (by omega) (by omega)).trans (hlo x hx).2, (I1 x hx).1, (I1 x hx).2⟩)
    · refine E_go (p' := 12) (L' := [some (aA 124), some (aI ((i : Nat) : Int)), some (aI ((c : Nat) : Int)), none, none, none, none, none]) (st' := []) rfl rfl rfl ?_
      refine E_s (p' := 13) (st' := aA 124 :: _) rfl rfl ?_
      refine E_gA (b := 157) rfl rfl rfl rfl rfl rfl ?_
      refine E_s (p' := 17) (st' := aI ((c : Nat) : Int) :: _) rfl rfl ?_
      refine E_s (p' := 18) (st' := aA 124 :: _) rfl rfl ?_
      refine E_gA (b := 155) rfl rfl rfl rfl rfl rfl ?_
      refine E_s (p' := 22) (st' := aI ((c : Nat) : Int) :: _) rfl rfl ?_
      refine E_ald (e := c) (N := 60) (v := (((lo c)))) rfl rfl (rfl) (by omega) ((I0 _ _ (by omega) (by omega)).trans (hlo c (by omega)).1) ?_
      refine E_ast (e := c) (N := 60) rfl rfl (rfl) (by omega) ?_
      refine E_s (p' := 25) (st' := aA 124 :: _) rfl rfl ?_
      refine E_gA (b := 158) rfl rfl rfl rfl rfl rfl ?_
      refine E_s (p' := 29) (st' := aI ((c : Nat) : Int) :: _) rfl rfl ?_
      refine E_s (p' := 30) (st' := aA 124 :: _) rfl rfl ?_
      refine E_gA (b := 156) rfl rfl rfl rfl rfl rfl ?_
      refine E_s (p' := 34) (st' := aI ((c : Nat) : Int) :: _) rfl rfl ?_
      refine E_ald (e := c) (N := 60) (v := (((hi c)))) rfl rfl (rfl) (by omega) ((up2_ne (by omega)).trans (((I0 _ _ (by omega) (by omega)).trans (hlo c (by omega)).2))) ?_
      refine E_ast (e := c) (N := 60) rfl rfl (rfl) (by omega) ?_
      refine E_inc (x := ((c : Nat) : Int)) (w := ((c + 1 : Nat) : Int)) (L' := [some (aA 124), some (aI ((i : Nat) : Int)), some (aI ((c + 1 : Nat) : Int)), none, none, none, none, none]) rfl rfl rfl (by omega) (by omega) rfl ?_
      refine E_s (p' := 2) rfl rfl ?_
      refine ih (c + 1) _ (by omega) (by omega) (fun b z g1 g2 => (up2_ne g2).trans ((up2_ne g1).trans (I0 b z g1 g2))) (fun x hx => ?_)
      by_cases g9 : x = c
      · rw [g9]; exact ⟨(up2_ne (by omega)).trans up2_eq, up2_eq⟩
      · exact ⟨(up2_ne (by omega)).trans ((up2_sl g9).trans (I1 x (by omega)).1), (up2_sl g9).trans ((up2_ne (by omega)).trans (I1 x (by omega)).2)⟩
theorem yl_roC (hi9 : i < 4) (hM : MR R i m) (hV : VR R) (hb : bnd (Cn R) lo hi) {s : Nat} (hs : s < Sn R) (hW : RWm (Cn R) lo hi p m) {x7 : Option AV} (hk : E 168 150 [some (aA 124), some (aI (i : Int)), some (aI ((40 * i + s : Nat) : Int)), some (aI (Sw R s : Int)), some (aI (lsS R lo s (Sp R s))), some (aI (lsS R hi s (Sp R s))), some (aI ((480 * i + 12 * s + Sp R s : Nat) : Int)), x7] [] (m, tl len) Q) : ∀ (d : Nat) (k : Nat), (Sp R s < k + d) → (k ≤ Sp R s) → E 168 94 [some (aA 124), some (aI ((i : Nat) : Int)), some (aI ((40 * i + s : Nat) : Int)), some (aI ((Sw R s : Nat) : Int)), some (aI (((lsS R lo s k)))), some (aI (((lsS R hi s k)))), some (aI ((480 * i + 12 * s + k : Nat) : Int)), x7] [] (m, tl len) Q := by
  intro d
  induction d with
  | zero => intro k hd hk9; omega
  | succ d ih =>
    intro k hd hk9
    have hn60 := hV.1
    have hs40 := hV.2.2.2.2.1
    have hp12 := (hV.2.2.2.2.2.1 s hs).2
    have hwn := (hV.2.2.2.2.2.1 s hs).1
    have hsb := lsS_b hV hb hs k hk9
    refine E_s (p' := 96) (st' := aI ((480 * i + 12 * s + k : Nat) : Int) :: _) rfl rfl ?_
    refine E_s (p' := 98) (st' := aI 12 :: _) rfl rfl ?_
    refine E_s (p' := 99) (st' := aI ((40 * i + s : Nat) : Int) :: _) rfl rfl ?_
    refine E_mul (v := ((480 * i + 12 * s : Nat) : Int)) rfl (by omega) (by omega) ?_
    refine E_s (p' := 101) (st' := aA 124 :: _) rfl rfl ?_
    refine E_gA (b := 138) rfl rfl rfl rfl rfl rfl ?_
    refine E_s (p' := 105) (st' := aI ((40 * i + s : Nat) : Int) :: _) rfl rfl ?_
    refine E_ald (e := 40 * i + s) (N := 160) (v := ((Sp R s : Nat) : Int)) rfl rfl (rfl) (by omega) (MR_138 hM (by omega) (by omega)) ?_
    refine E_add (v := ((480 * i + 12 * s + Sp R s : Nat) : Int)) rfl (by omega) (by omega) ?_
    refine E_icmp_ge (x := ((480 * i + 12 * s + k : Nat) : Int)) (y := ((480 * i + 12 * s + Sp R s : Nat) : Int)) rfl (by decide) (fun h_1 => ?_) (fun h_1 => ?_)
    · refine E_go (p' := 150) (L' := [some (aA 124), some (aI ((i : Nat) : Int)), some (aI ((40 * i + s : Nat) : Int)), some (aI ((Sw R s : Nat) : Int)), some (aI (((lsS R lo s k)))), some (aI (((lsS R hi s k)))), some (aI ((480 * i + 12 * s + k : Nat) : Int)), x7]) (st' := []) rfl rfl rfl ?_
      have e9 : k = Sp R s := by omega
      rw [e9]
      exact hk
    · refine E_go (p' := 110) (L' := [some (aA 124), some (aI ((i : Nat) : Int)), some (aI ((40 * i + s : Nat) : Int)), some (aI ((Sw R s : Nat) : Int)), some (aI (((lsS R lo s k)))), some (aI (((lsS R hi s k)))), some (aI ((480 * i + 12 * s + k : Nat) : Int)), x7]) (st' := []) rfl rfl rfl ?_
      have hsq := hV.2.2.2.2.2.2 s k hs (show k < Sp R s by omega)
      have hbq := hb _ hsq
      refine E_s (p' := 112) (st' := aI (((lsS R lo s k))) :: _) rfl rfl ?_
      refine E_s (p' := 113) (st' := aA 124 :: _) rfl rfl ?_
      refine E_gA (b := 155) rfl rfl rfl rfl rfl rfl ?_
      refine E_s (p' := 117) (st' := aA 124 :: _) rfl rfl ?_
      refine E_gA (b := 139) rfl rfl rfl rfl rfl rfl ?_
      refine E_s (p' := 122) (st' := aI ((480 * i + 12 * s + k : Nat) : Int) :: _) rfl rfl ?_
      refine E_ald (e := 480 * i + 12 * s + k) (N := 1920) (v := ((Sq R s k : Nat) : Int)) rfl rfl (rfl) (by omega) (MR_139 hM (by omega) (by omega) (by omega)) ?_
      refine E_ald (e := Sq R s k) (N := 60) (v := (((lo (Sq R s k))))) rfl rfl (rfl) (by omega) (hW _ (by omega)).1 ?_
      refine E_add (v := (((lsS R lo s k)) + ((lo (Sq R s k))))) rfl (by omega) (by omega) ?_
      refine E_s (p' := 127) (L' := [some (aA 124), some (aI ((i : Nat) : Int)), some (aI ((40 * i + s : Nat) : Int)), some (aI ((Sw R s : Nat) : Int)), some (aI (((lsS R lo s k)) + ((lo (Sq R s k))))), some (aI (((lsS R hi s k)))), some (aI ((480 * i + 12 * s + k : Nat) : Int)), x7]) rfl rfl ?_
      refine E_s (p' := 129) (st' := aI (((lsS R hi s k))) :: _) rfl rfl ?_
      refine E_s (p' := 130) (st' := aA 124 :: _) rfl rfl ?_
      refine E_gA (b := 156) rfl rfl rfl rfl rfl rfl ?_
      refine E_s (p' := 134) (st' := aA 124 :: _) rfl rfl ?_
      refine E_gA (b := 139) rfl rfl rfl rfl rfl rfl ?_
      refine E_s (p' := 139) (st' := aI ((480 * i + 12 * s + k : Nat) : Int) :: _) rfl rfl ?_
      refine E_ald (e := 480 * i + 12 * s + k) (N := 1920) (v := ((Sq R s k : Nat) : Int)) rfl rfl (rfl) (by omega) (MR_139 hM (by omega) (by omega) (by omega)) ?_
      refine E_ald (e := Sq R s k) (N := 60) (v := (((hi (Sq R s k))))) rfl rfl (rfl) (by omega) (hW _ (by omega)).2.1 ?_
      refine E_add (v := (((lsS R hi s k)) + ((hi (Sq R s k))))) rfl (by omega) (by omega) ?_
      refine E_s (p' := 144) (L' := [some (aA 124), some (aI ((i : Nat) : Int)), some (aI ((40 * i + s : Nat) : Int)), some (aI ((Sw R s : Nat) : Int)), some (aI (((lsS R lo s k)) + ((lo (Sq R s k))))), some (aI (((lsS R hi s k)) + ((hi (Sq R s k))))), some (aI ((480 * i + 12 * s + k : Nat) : Int)), x7]) rfl rfl ?_
      refine E_inc (x := ((480 * i + 12 * s + k : Nat) : Int)) (w := ((480 * i + 12 * s + k + 1 : Nat) : Int)) (L' := [some (aA 124), some (aI ((i : Nat) : Int)), some (aI ((40 * i + s : Nat) : Int)), some (aI ((Sw R s : Nat) : Int)), some (aI (((lsS R lo s k)) + ((lo (Sq R s k))))), some (aI (((lsS R hi s k)) + ((hi (Sq R s k))))), some (aI ((480 * i + 12 * s + k + 1 : Nat) : Int)), x7]) rfl rfl rfl (by omega) (by omega) rfl ?_
      refine E_s (p' := 94) rfl rfl ?_
      exact ih (k + 1) (by omega) (by omega)
theorem yl_roD (hi9 : i < 4) (hM : MR R i m0) (hV : VR R) (hb : bnd (Cn R) lo hi) {s : Nat} (hs : s < Sn R) (hk : ∀ (m1 : Mm) (x6 x7 : Option AV), (∀ b z, b ≠ 157 → b ≠ 158 → m1 b z = m0 b z) → RWm (Cn R) lo hi (nrP R lo hi s p (Sp R s)) m1 → E 168 289 [some (aA 124), some (aI (i : Int)), some (aI ((40 * i + s : Nat) : Int)), some (aI (Sw R s : Int)), some (aI (lsS R lo s (Sp R s))), some (aI (lsS R hi s (Sp R s))), x6, x7] [] (m1, tl len) Q) : ∀ (d : Nat) (k : Nat) (m : Mm) (x7 : Option AV), (Sp R s < k + d) → (k ≤ Sp R s) → (∀ b z, b ≠ 157 → b ≠ 158 → m b z = m0 b z) → (RWm (Cn R) lo hi (nrP R lo hi s p k) m) → E 168 190 [some (aA 124), some (aI ((i : Nat) : Int)), some (aI ((40 * i + s : Nat) : Int)), some (aI ((Sw R s : Nat) : Int)), some (aI (((lsS R lo s (Sp R s))))), some (aI (((lsS R hi s (Sp R s))))), some (aI ((480 * i + 12 * s + k : Nat) : Int)), x7] [] (m, tl len) Q := by
  intro d
  induction d with
  | zero => intro k m x7 hd hk9 I0 W1; omega
  | succ d ih =>
    intro k m x7 hd hk9 I0 W1
    have hn60 := hV.1
    have hs40 := hV.2.2.2.2.1
    have hp12 := (hV.2.2.2.2.2.1 s hs).2
    have hwn := (hV.2.2.2.2.2.1 s hs).1
    have hMm : MR R i m := hM.of (fun b j g1 g2 => I0 b j (by omega) (by omega))
    have hsb := lsS_b hV hb hs (Sp R s) (Nat.le_refl _)
    have hbw := hb _ hwn
    refine E_s (p' := 192) (st' := aI ((480 * i + 12 * s + k : Nat) : Int) :: _) rfl rfl ?_
    refine E_s (p' := 194) (st' := aI 12 :: _) rfl rfl ?_
    refine E_s (p' := 195) (st' := aI ((40 * i + s : Nat) : Int) :: _) rfl rfl ?_
    refine E_mul (v := ((480 * i + 12 * s : Nat) : Int)) rfl (by omega) (by omega) ?_
    refine E_s (p' := 197) (st' := aA 124 :: _) rfl rfl ?_
    refine E_gA (b := 138) rfl rfl rfl rfl rfl rfl ?_
    refine E_s (p' := 201) (st' := aI ((40 * i + s : Nat) : Int) :: _) rfl rfl ?_
    refine E_ald (e := 40 * i + s) (N := 160) (v := ((Sp R s : Nat) : Int)) rfl rfl (rfl) (by omega) (MR_138 hMm (by omega) (by omega)) ?_
    refine E_add (v := ((480 * i + 12 * s + Sp R s : Nat) : Int)) rfl (by omega) (by omega) ?_
    refine E_icmp_ge (x := ((480 * i + 12 * s + k : Nat) : Int)) (y := ((480 * i + 12 * s + Sp R s : Nat) : Int)) rfl (by decide) (fun h_1 => ?_) (fun h_1 => ?_)
    · refine E_go (p' := 289) (L' := [some (aA 124), some (aI ((i : Nat) : Int)), some (aI ((40 * i + s : Nat) : Int)), some (aI ((Sw R s : Nat) : Int)), some (aI (((lsS R lo s (Sp R s))))), some (aI (((lsS R hi s (Sp R s))))), some (aI ((480 * i + 12 * s + k : Nat) : Int)), x7]) (st' := []) rfl rfl rfl ?_
      have e9 : k = Sp R s := by omega
      subst e9
      exact hk m _ x7 I0 W1
    · refine E_go (p' := 206) (L' := [some (aA 124), some (aI ((i : Nat) : Int)), some (aI ((40 * i + s : Nat) : Int)), some (aI ((Sw R s : Nat) : Int)), some (aI (((lsS R lo s (Sp R s))))), some (aI (((lsS R hi s (Sp R s))))), some (aI ((480 * i + 12 * s + k : Nat) : Int)), x7]) (st' := []) rfl rfl rfl ?_
      have hsq := hV.2.2.2.2.2.2 s k hs (show k < Sp R s by omega)
      have hbq := hb _ hsq
      refine E_s (p' := 207) (st' := aA 124 :: _) rfl rfl ?_
      refine E_gA (b := 139) rfl rfl rfl rfl rfl rfl ?_
      refine E_s (p' := 212) (st' := aI ((480 * i + 12 * s + k : Nat) : Int) :: _) rfl rfl ?_
      refine E_ald (e := 480 * i + 12 * s + k) (N := 1920) (v := ((Sq R s k : Nat) : Int)) rfl rfl (rfl) (by omega) (MR_139 hMm (by omega) (by omega) (by omega)) ?_
      refine E_s (p' := 215) (L' := [some (aA 124), some (aI ((i : Nat) : Int)), some (aI ((40 * i + s : Nat) : Int)), some (aI ((Sw R s : Nat) : Int)), some (aI (((lsS R lo s (Sp R s))))), some (aI (((lsS R hi s (Sp R s))))), some (aI ((480 * i + 12 * s + k : Nat) : Int)), some (aI ((Sq R s k : Nat) : Int))]) rfl rfl ?_
      refine E_s (p' := 216) (st' := aA 124 :: _) rfl rfl ?_
      refine E_gA (b := 157) rfl rfl rfl rfl rfl rfl ?_
      refine E_s (p' := 221) (st' := aI ((Sq R s k : Nat) : Int) :: _) rfl rfl ?_
      refine E_s (p' := 222) (st' := aA 124 :: _) rfl rfl ?_
      refine E_gA (b := 157) rfl rfl rfl rfl rfl rfl ?_
      refine E_s (p' := 227) (st' := aI ((Sq R s k : Nat) : Int) :: _) rfl rfl ?_
      refine E_ald (e := Sq R s k) (N := 60) (v := ((((nrP R lo hi s p k).1 (Sq R s k))))) rfl rfl (rfl) (by omega) (W1 _ (by omega)).2.2.1 ?_
      refine E_s (p' := 229) (st' := aA 124 :: _) rfl rfl ?_
      refine E_gA (b := 155) rfl rfl rfl rfl rfl rfl ?_
      refine E_s (p' := 233) (st' := aI ((Sw R s : Nat) : Int) :: _) rfl rfl ?_
      refine E_ald (e := Sw R s) (N := 60) (v := (((lo (Sw R s))))) rfl rfl (rfl) (by omega) (W1 _ (by omega)).1 ?_
      refine E_s (p' := 236) (st' := aI (((lsS R hi s (Sp R s)))) :: _) rfl rfl ?_
      refine E_s (p' := 237) (st' := aA 124 :: _) rfl rfl ?_
      refine E_gA (b := 156) rfl rfl rfl rfl rfl rfl ?_
      refine E_s (p' := 242) (st' := aI ((Sq R s k : Nat) : Int) :: _) rfl rfl ?_
      refine E_ald (e := Sq R s k) (N := 60) (v := (((hi (Sq R s k))))) rfl rfl (rfl) (by omega) (W1 _ (by omega)).2.1 ?_
      refine E_sub (v := (((lsS R hi s (Sp R s))) - ((hi (Sq R s k))))) rfl (by omega) (by omega) ?_
      refine E_sub (v := (((lo (Sw R s))) - ((lsS R hi s (Sp R s))) + ((hi (Sq R s k))))) rfl (by omega) (by omega) ?_
      refine E_callL (p' := 248) (L0 := [some (aI ((((nrP R lo hi s p k).1 (Sq R s k))))), some (aI (((lo (Sw R s))) - ((lsS R hi s (Sp R s))) + ((hi (Sq R s k)))))]) rfl rfl rfl ?_
      refine m_greater (fun h_2 => ?_) (fun h_3 => ?_)
      · refine E_go (p' := 248) (L' := [some (aA 124), some (aI ((i : Nat) : Int)), some (aI ((40 * i + s : Nat) : Int)), some (aI ((Sw R s : Nat) : Int)), some (aI (((lsS R lo s (Sp R s))))), some (aI (((lsS R hi s (Sp R s))))), some (aI ((480 * i + 12 * s + k : Nat) : Int)), some (aI ((Sq R s k : Nat) : Int))]) (st' := [aI ((((nrP R lo hi s p k).1 (Sq R s k)))), aI ((Sq R s k : Nat) : Int), aA 157]) rfl rfl rfl ?_
        refine E_ast (e := Sq R s k) (N := 60) rfl rfl (rfl) (by omega) ?_
        refine E_s (p' := 250) (st' := aA 124 :: _) rfl rfl ?_
        refine E_gA (b := 158) rfl rfl rfl rfl rfl rfl ?_
        refine E_s (p' := 255) (st' := aI ((Sq R s k : Nat) : Int) :: _) rfl rfl ?_
        refine E_s (p' := 256) (st' := aA 124 :: _) rfl rfl ?_
        refine E_gA (b := 158) rfl rfl rfl rfl rfl rfl ?_
        refine E_s (p' := 261) (st' := aI ((Sq R s k : Nat) : Int) :: _) rfl rfl ?_
        refine E_ald (e := Sq R s k) (N := 60) (v := ((((nrP R lo hi s p k).2 (Sq R s k))))) rfl rfl (rfl) (by omega) ((up2_ne (by omega)).trans ((W1 _ (by omega)).2.2.2)) ?_
        refine E_s (p' := 263) (st' := aA 124 :: _) rfl rfl ?_
        refine E_gA (b := 156) rfl rfl rfl rfl rfl rfl ?_
        refine E_s (p' := 267) (st' := aI ((Sw R s : Nat) : Int) :: _) rfl rfl ?_
        refine E_ald (e := Sw R s) (N := 60) (v := (((hi (Sw R s))))) rfl rfl (rfl) (by omega) ((up2_ne (by omega)).trans ((W1 _ (by omega)).2.1)) ?_
        refine E_s (p' := 270) (st' := aI (((lsS R lo s (Sp R s)))) :: _) rfl rfl ?_
        refine E_s (p' := 271) (st' := aA 124 :: _) rfl rfl ?_
        refine E_gA (b := 155) rfl rfl rfl rfl rfl rfl ?_
        refine E_s (p' := 276) (st' := aI ((Sq R s k : Nat) : Int) :: _) rfl rfl ?_
        refine E_ald (e := Sq R s k) (N := 60) (v := (((lo (Sq R s k))))) rfl rfl (rfl) (by omega) ((up2_ne (by omega)).trans ((W1 _ (by omega)).1)) ?_
        refine E_sub (v := (((lsS R lo s (Sp R s))) - ((lo (Sq R s k))))) rfl (by omega) (by omega) ?_
        refine E_sub (v := (((hi (Sw R s))) - ((lsS R lo s (Sp R s))) + ((lo (Sq R s k))))) rfl (by omega) (by omega) ?_
        refine E_callL (p' := 282) (L0 := [some (aI ((((nrP R lo hi s p k).2 (Sq R s k))))), some (aI (((hi (Sw R s))) - ((lsS R lo s (Sp R s))) + ((lo (Sq R s k)))))]) rfl rfl rfl ?_
        refine m_less (fun h_4 => ?_) (fun h_5 => ?_)
        · refine E_go (p' := 282) (L' := [some (aA 124), some (aI ((i : Nat) : Int)), some (aI ((40 * i + s : Nat) : Int)), some (aI ((Sw R s : Nat) : Int)), some (aI (((lsS R lo s (Sp R s))))), some (aI (((lsS R hi s (Sp R s))))), some (aI ((480 * i + 12 * s + k : Nat) : Int)), some (aI ((Sq R s k : Nat) : Int))]) (st' := [aI ((((nrP R lo hi s p k).2 (Sq R s k)))), aI ((Sq R s k : Nat) : Int), aA 158]) rfl rfl rfl ?_
          refine E_ast (e := Sq R s k) (N := 60) rfl rfl (rfl) (by omega) ?_
          refine E_inc (x := ((480 * i + 12 * s + k : Nat) : Int)) (w := ((480 * i + 12 * s + k + 1 : Nat) : Int)) (L' := [some (aA 124), some (aI ((i : Nat) : Int)), some (aI ((40 * i + s : Nat) : Int)), some (aI ((Sw R s : Nat) : Int)), some (aI (((lsS R lo s (Sp R s))))), some (aI (((lsS R hi s (Sp R s))))), some (aI ((480 * i + 12 * s + k + 1 : Nat) : Int)), some (aI ((Sq R s k : Nat) : Int))]) rfl rfl rfl (by omega) (by omega) rfl ?_
          refine E_s (p' := 190) rfl rfl ?_
          exact ih (k + 1) _ _ (by omega) (by omega) (fun b z g1 g2 => (up2_ne g2).trans ((up2_ne g1).trans (I0 b z g1 g2))) (W1.kw (by omega) (by omega))
        · refine E_go (p' := 282) (L' := [some (aA 124), some (aI ((i : Nat) : Int)), some (aI ((40 * i + s : Nat) : Int)), some (aI ((Sw R s : Nat) : Int)), some (aI (((lsS R lo s (Sp R s))))), some (aI (((lsS R hi s (Sp R s))))), some (aI ((480 * i + 12 * s + k : Nat) : Int)), some (aI ((Sq R s k : Nat) : Int))]) (st' := [aI (((hi (Sw R s))) - ((lsS R lo s (Sp R s))) + ((lo (Sq R s k)))), aI ((Sq R s k : Nat) : Int), aA 158]) rfl rfl rfl ?_
          refine E_ast (e := Sq R s k) (N := 60) rfl rfl (rfl) (by omega) ?_
          refine E_inc (x := ((480 * i + 12 * s + k : Nat) : Int)) (w := ((480 * i + 12 * s + k + 1 : Nat) : Int)) (L' := [some (aA 124), some (aI ((i : Nat) : Int)), some (aI ((40 * i + s : Nat) : Int)), some (aI ((Sw R s : Nat) : Int)), some (aI (((lsS R lo s (Sp R s))))), some (aI (((lsS R hi s (Sp R s))))), some (aI ((480 * i + 12 * s + k + 1 : Nat) : Int)), some (aI ((Sq R s k : Nat) : Int))]) rfl rfl rfl (by omega) (by omega) rfl ?_
          refine E_s (p' := 190) rfl rfl ?_
          exact ih (k + 1) _ _ (by omega) (by omega) (fun b z g1 g2 => (up2_ne g2).trans ((up2_ne g1).trans (I0 b z g1 g2))) (W1.kw (by omega) (by omega))
      · refine E_go (p' := 248) (L' := [some (aA 124), some (aI ((i : Nat) : Int)), some (aI ((40 * i + s : Nat) : Int)), some (aI ((Sw R s : Nat) : Int)), some (aI (((lsS R lo s (Sp R s))))), some (aI (((lsS R hi s (Sp R s))))), some (aI ((480 * i + 12 * s + k : Nat) : Int)), some (aI ((Sq R s k : Nat) : Int))]) (st' := [aI (((lo (Sw R s))) - ((lsS R hi s (Sp R s))) + ((hi (Sq R s k)))), aI ((Sq R s k : Nat) : Int), aA 157]) rfl rfl rfl ?_
        refine E_ast (e := Sq R s k) (N := 60) rfl rfl (rfl) (by omega) ?_
        refine E_s (p' := 250) (st' := aA 124 :: _) rfl rfl ?_
        refine E_gA (b := 158) rfl rfl rfl rfl rfl rfl ?_
        refine E_s (p' := 255) (st' := aI ((Sq R s k : Nat) : Int) :: _) rfl rfl ?_
        refine E_s (p' := 256) (st' := aA 124 :: _) rfl rfl ?_
        refine E_gA (b := 158) rfl rfl rfl rfl rfl rfl ?_
        refine E_s (p' := 261) (st' := aI ((Sq R s k : Nat) : Int) :: _) rfl rfl ?_
        refine E_ald (e := Sq R s k) (N := 60) (v := ((((nrP R lo hi s p k).2 (Sq R s k))))) rfl rfl (rfl) (by omega) ((up2_ne (by omega)).trans ((W1 _ (by omega)).2.2.2)) ?_
        refine E_s (p' := 263) (st' := aA 124 :: _) rfl rfl ?_
        refine E_gA (b := 156) rfl rfl rfl rfl rfl rfl ?_
        refine E_s (p' := 267) (st' := aI ((Sw R s : Nat) : Int) :: _) rfl rfl ?_
        refine E_ald (e := Sw R s) (N := 60) (v := (((hi (Sw R s))))) rfl rfl (rfl) (by omega) ((up2_ne (by omega)).trans ((W1 _ (by omega)).2.1)) ?_
        refine E_s (p' := 270) (st' := aI (((lsS R lo s (Sp R s)))) :: _) rfl rfl ?_
        refine E_s (p' := 271) (st' := aA 124 :: _) rfl rfl ?_
        refine E_gA (b := 155) rfl rfl rfl rfl rfl rfl ?_
        refine E_s (p' := 276) (st' := aI ((Sq R s k : Nat) : Int) :: _) rfl rfl ?_
        refine E_ald (e := Sq R s k) (N := 60) (v := (((lo (Sq R s k))))) rfl rfl (rfl) (by omega) ((up2_ne (by omega)).trans ((W1 _ (by omega)).1)) ?_
        refine E_sub (v := (((lsS R lo s (Sp R s))) - ((lo (Sq R s k))))) rfl (by omega) (by omega) ?_
        refine E_sub (v := (((hi (Sw R s))) - ((lsS R lo s (Sp R s))) + ((lo (Sq R s k))))) rfl (by omega) (by omega) ?_
        refine E_callL (p' := 282) (L0 := [some (aI ((((nrP R lo hi s p k).2 (Sq R s k))))), some (aI (((hi (Sw R s))) - ((lsS R lo s (Sp R s))) + ((lo (Sq R s k)))))]) rfl rfl rfl ?_
        refine m_less (fun h_6 => ?_) (fun h_7 => ?_)
        · refine E_go (p' := 282) (L' := [some (aA 124), some (aI ((i : Nat) : Int)), some (aI ((40 * i + s : Nat) : Int)), some (aI ((Sw R s : Nat) : Int)), some (aI (((lsS R lo s (Sp R s))))), some (aI (((lsS R hi s (Sp R s))))), some (aI ((480 * i + 12 * s + k : Nat) : Int)), some (aI ((Sq R s k : Nat) : Int))]) (st' := [aI ((((nrP R lo hi s p k).2 (Sq R s k)))), aI ((Sq R s k : Nat) : Int), aA 158]) rfl rfl rfl ?_
          refine E_ast (e := Sq R s k) (N := 60) rfl rfl (rfl) (by omega) ?_
          refine E_inc (x := ((480 * i + 12 * s + k : Nat) : Int)) (w := ((480 * i + 12 * s + k + 1 : Nat) : Int)) (L' := [some (aA 124), some (aI ((i : Nat) : Int)), some (aI ((40 * i + s : Nat) : Int)), some (aI ((Sw R s : Nat) : Int)), some (aI (((lsS R lo s (Sp R s))))), some (aI (((lsS R hi s (Sp R s))))), some (aI ((480 * i + 12 * s + k + 1 : Nat) : Int)), some (aI ((Sq R s k : Nat) : Int))]) rfl rfl rfl (by omega) (by omega) rfl ?_
          refine E_s (p' := 190) rfl rfl ?_
          exact ih (k + 1) _ _ (by omega) (by omega) (fun b z g1 g2 => (up2_ne g2).trans ((up2_ne g1).trans (I0 b z g1 g2))) (W1.kw (by omega) (by omega))
        · refine E_go (p' := 282) (L' := [some (aA 124), some (aI ((i : Nat) : Int)), some (aI ((40 * i + s : Nat) : Int)), some (aI ((Sw R s : Nat) : Int)), some (aI (((lsS R lo s (Sp R s))))), some (aI (((lsS R hi s (Sp R s))))), some (aI ((480 * i + 12 * s + k : Nat) : Int)), some (aI ((Sq R s k : Nat) : Int))]) (st' := [aI (((hi (Sw R s))) - ((lsS R lo s (Sp R s))) + ((lo (Sq R s k)))), aI ((Sq R s k : Nat) : Int), aA 158]) rfl rfl rfl ?_
          refine E_ast (e := Sq R s k) (N := 60) rfl rfl (rfl) (by omega) ?_
          refine E_inc (x := ((480 * i + 12 * s + k : Nat) : Int)) (w := ((480 * i + 12 * s + k + 1 : Nat) : Int)) (L' := [some (aA 124), some (aI ((i : Nat) : Int)), some (aI ((40 * i + s : Nat) : Int)), some (aI ((Sw R s : Nat) : Int)), some (aI (((lsS R lo s (Sp R s))))), some (aI (((lsS R hi s (Sp R s))))), some (aI ((480 * i + 12 * s + k + 1 : Nat) : Int)), some (aI ((Sq R s k : Nat) : Int))]) rfl rfl rfl (by omega) (by omega) rfl ?_
          refine E_s (p' := 190) rfl rfl ?_
          exact ih (k + 1) _ _ (by omega) (by omega) (fun b z g1 g2 => (up2_ne g2).trans ((up2_ne g1).trans (I0 b z g1 g2))) (W1.kw (by omega) (by omega))
end

def chN (R : RD) (lo hi : Nat → Int) (n : Nat) : Bool := (List.range n).any fun c => decide ((rdS R lo hi (Sn R)).1 c ≠ lo c) || decide ((rdS R lo hi (Sn R)).2 c ≠ hi c)
theorem chN_s {R : RD} {lo hi : Nat → Int} {n : Nat} : chN R lo hi (n + 1) = (chN R lo hi n || (decide ((rdS R lo hi (Sn R)).1 n ≠ lo n) || decide ((rdS R lo hi (Sn R)).2 n ≠ hi n))) := by
  unfold chN
  rw [List.range_succ, List.any_append]
  simp only [List.any_cons, List.any_nil, Bool.or_false]
section
variable {len : Nat} {m m0 : Mm} {Q : Option AV → Sx → Prop} {R : RD} {i : Nat} {lo hi : Nat → Int} {p : Sp2}
theorem yl_roB (hi9 : i < 4) (hM : MR R i m0) (hV : VR R) (hb : bnd (Cn R) lo hi) (hk : ∀ (m1 : Mm) (x3 x4 x5 x6 x7 : Option AV), (∀ b z, b ≠ 157 → b ≠ 158 → m1 b z = m0 b z) → RWm (Cn R) lo hi (rdS R lo hi (Sn R)) m1 → E 168 295 [some (aA 124), some (aI (i : Int)), some (aI ((40 * i + Sn R : Nat) : Int)), x3, x4, x5, x6, x7] [] (m1, tl len) Q) : ∀ (d : Nat) (s : Nat) (m : Mm) (x3 x4 x5 x6 x7 : Option AV), (Sn R < s + d) → (s ≤ Sn R) → (∀ b z, b ≠ 157 → b ≠ 158 → m b z = m0 b z) → (RWm (Cn R) lo hi (rdS R lo hi s) m) → E 168 47 [some (aA 124), some (aI ((i : Nat) : Int)), some (aI ((40 * i + s : Nat) : Int)), x3, x4, x5, x6, x7] [] (m, tl len) Q := by
  intro d
  induction d with
  | zero => intro s m x3 x4 x5 x6 x7 hd hsn I0 W1; omega
  | succ d ih =>
    intro s m x3 x4 x5 x6 x7 hd hsn I0 W1
    have hn60 := hV.1
    have hs40 := hV.2.2.2.2.1
    have hMm : MR R i m := hM.of (fun b j g1 g2 => I0 b j (by omega) (by omega))
    refine E_s (p' := 48) (st' := aI ((40 * i + s : Nat) : Int) :: _) rfl rfl ?_
    refine E_s (p' := 50) (st' := aI 40 :: _) rfl rfl ?_
    refine E_s (p' := 51) (st' := aI ((i : Nat) : Int) :: _) rfl rfl ?_
    refine E_mul (v := ((40 * i : Nat) : Int)) rfl (by omega) (by omega) ?_
    refine E_s (p' := 53) (st' := aA 124 :: _) rfl rfl ?_
    refine E_gA (b := 136) rfl rfl rfl rfl rfl rfl ?_
    refine E_s (p' := 57) (st' := aI ((i : Nat) : Int) :: _) rfl rfl ?_
    refine E_ald (e := i) (N := 4) (v := ((Sn R : Nat) : Int)) rfl rfl (rfl) (by omega) (MR_136 hMm) ?_
    refine E_add (v := ((40 * i + Sn R : Nat) : Int)) rfl (by omega) (by omega) ?_
    refine E_icmp_ge (x := ((40 * i + s : Nat) : Int)) (y := ((40 * i + Sn R : Nat) : Int)) rfl (by decide) (fun h_1 => ?_) (fun h_1 => ?_)
    · refine E_go (p' := 295) (L' := [some (aA 124), some (aI ((i : Nat) : Int)), some (aI ((40 * i + s : Nat) : Int)), x3, x4, x5, x6, x7]) (st' := []) rfl rfl rfl ?_
      have e9 : s = Sn R := by omega
      subst e9
      exact hk m x3 x4 x5 x6 x7 I0 W1
    · refine E_go (p' := 62) (L' := [some (aA 124), some (aI ((i : Nat) : Int)), some (aI ((40 * i + s : Nat) : Int)), x3, x4, x5, x6, x7]) (st' := []) rfl rfl rfl ?_
      have hs9 : s < Sn R := by omega
      have hp12 := (hV.2.2.2.2.2.1 s hs9).2
      have hwn := (hV.2.2.2.2.2.1 s hs9).1
      refine E_s (p' := 63) (st' := aA 124 :: _) rfl rfl ?_
      refine E_gA (b := 138) rfl rfl rfl rfl rfl rfl ?_
      refine E_s (p' := 67) (st' := aI ((40 * i + s : Nat) : Int) :: _) rfl rfl ?_
      refine E_ald (e := 40 * i + s) (N := 160) (v := ((Sp R s : Nat) : Int)) rfl rfl (rfl) (by omega) (MR_138 hMm (by omega) (by omega)) ?_
      refine E_s (p' := 69) (st' := aI 2 :: _) rfl rfl ?_
      refine E_icmp_ge (x := ((Sp R s : Nat) : Int)) (y := 2) rfl (by decide) (fun h_2 => ?_) (fun h_2 => ?_)
      · refine E_go (p' := 75) (L' := [some (aA 124), some (aI ((i : Nat) : Int)), some (aI ((40 * i + s : Nat) : Int)), x3, x4, x5, x6, x7]) (st' := []) rfl rfl rfl ?_
        refine E_s (p' := 76) (st' := aA 124 :: _) rfl rfl ?_
        refine E_gA (b := 137) rfl rfl rfl rfl rfl rfl ?_
        refine E_s (p' := 80) (st' := aI ((40 * i + s : Nat) : Int) :: _) rfl rfl ?_
        refine E_ald (e := 40 * i + s) (N := 160) (v := ((Sw R s : Nat) : Int)) rfl rfl (rfl) (by omega) (MR_137 hMm (by omega) (by omega)) ?_
        refine E_s (p' := 82) (L' := [some (aA 124), some (aI ((i : Nat) : Int)), some (aI ((40 * i + s : Nat) : Int)), some (aI ((Sw R s : Nat) : Int)), x4, x5, x6, x7]) rfl rfl ?_
        refine E_s (p' := 83) (st' := aI 0 :: _) rfl rfl ?_
        refine E_s (p' := 85) (L' := [some (aA 124), some (aI ((i : Nat) : Int)), some (aI ((40 * i + s : Nat) : Int)), some (aI ((Sw R s : Nat) : Int)), some (aI 0), x5, x6, x7]) rfl rfl ?_
        refine E_s (p' := 86) (st' := aI 0 :: _) rfl rfl ?_
        refine E_s (p' := 88) (L' := [some (aA 124), some (aI ((i : Nat) : Int)), some (aI ((40 * i + s : Nat) : Int)), some (aI ((Sw R s : Nat) : Int)), some (aI 0), some (aI 0), x6, x7]) rfl rfl ?_
        refine E_s (p' := 90) (st' := aI 12 :: _) rfl rfl ?_
        refine E_s (p' := 91) (st' := aI ((40 * i + s : Nat) : Int) :: _) rfl rfl ?_
        refine E_mul (v := ((480 * i + 12 * s : Nat) : Int)) rfl (by omega) (by omega) ?_
        refine E_s (p' := 94) (L' := [some (aA 124), some (aI ((i : Nat) : Int)), some (aI ((40 * i + s : Nat) : Int)), some (aI ((Sw R s : Nat) : Int)), some (aI 0), some (aI 0), some (aI ((480 * i + 12 * s : Nat) : Int)), x7]) rfl rfl ?_
        refine yl_roC hi9 hMm hV hb hs9 W1 ?_ (Sp R s + 1) 0 (by omega) (by omega)
        refine E_s (p' := 151) (st' := aA 124 :: _) rfl rfl ?_
        refine E_gA (b := 157) rfl rfl rfl rfl rfl rfl ?_
        refine E_s (p' := 155) (st' := aI ((Sw R s : Nat) : Int) :: _) rfl rfl ?_
        refine E_s (p' := 156) (st' := aA 124 :: _) rfl rfl ?_
        refine E_gA (b := 157) rfl rfl rfl rfl rfl rfl ?_
        refine E_s (p' := 160) (st' := aI ((Sw R s : Nat) : Int) :: _) rfl rfl ?_
        refine E_ald (e := Sw R s) (N := 60) (v := ((((rdS R lo hi s).1 (Sw R s))))) rfl rfl (rfl) (by omega) (W1 _ (by omega)).2.2.1 ?_
        refine E_s (p' := 163) (st' := aI (((lsS R lo s (Sp R s)))) :: _) rfl rfl ?_
        refine E_callL (p' := 166) (L0 := [some (aI ((((rdS R lo hi s).1 (Sw R s))))), some (aI (((lsS R lo s (Sp R s)))))]) rfl rfl rfl ?_
        refine m_greater (fun h_3 => ?_) (fun h_4 => ?_)
        · refine E_go (p' := 166) (L' := [some (aA 124), some (aI ((i : Nat) : Int)), some (aI ((40 * i + s : Nat) : Int)), some (aI ((Sw R s : Nat) : Int)), some (aI (((lsS R lo s (Sp R s))))), some (aI (((lsS R hi s (Sp R s))))), some (aI ((480 * i + 12 * s + Sp R s : Nat) : Int)), x7]) (st' := [aI ((((rdS R lo hi s).1 (Sw R s)))), aI ((Sw R s : Nat) : Int), aA 157]) rfl rfl rfl ?_
          refine E_ast (e := Sw R s) (N := 60) rfl rfl (rfl) (by omega) ?_
          refine E_s (p' := 168) (st' := aA 124 :: _) rfl rfl ?_
          refine E_gA (b := 158) rfl rfl rfl rfl rfl rfl ?_
          refine E_s (p' := 172) (st' := aI ((Sw R s : Nat) : Int) :: _) rfl rfl ?_
          refine E_s (p' := 173) (st' := aA 124 :: _) rfl rfl ?_
          refine E_gA (b := 158) rfl rfl rfl rfl rfl rfl ?_
          refine E_s (p' := 177) (st' := aI ((Sw R s : Nat) : Int) :: _) rfl rfl ?_
          refine E_ald (e := Sw R s) (N := 60) (v := ((((rdS R lo hi s).2 (Sw R s))))) rfl rfl (rfl) (by omega) ((up2_ne (by omega)).trans ((W1 _ (by omega)).2.2.2)) ?_
          refine E_s (p' := 180) (st' := aI (((lsS R hi s (Sp R s)))) :: _) rfl rfl ?_
          refine E_callL (p' := 183) (L0 := [some (aI ((((rdS R lo hi s).2 (Sw R s))))), some (aI (((lsS R hi s (Sp R s)))))]) rfl rfl rfl ?_
          refine m_less (fun h_5 => ?_) (fun h_6 => ?_)
          · refine E_go (p' := 183) (L' := [some (aA 124), some (aI ((i : Nat) : Int)), some (aI ((40 * i + s : Nat) : Int)), some (aI ((Sw R s : Nat) : Int)), some (aI (((lsS R lo s (Sp R s))))), some (aI (((lsS R hi s (Sp R s))))), some (aI ((480 * i + 12 * s + Sp R s : Nat) : Int)), x7]) (st' := [aI ((((rdS R lo hi s).2 (Sw R s)))), aI ((Sw R s : Nat) : Int), aA 158]) rfl rfl rfl ?_
            refine E_ast (e := Sw R s) (N := 60) rfl rfl (rfl) (by omega) ?_
            refine E_s (p' := 186) (st' := aI 12 :: _) rfl rfl ?_
            refine E_s (p' := 187) (st' := aI ((40 * i + s : Nat) : Int) :: _) rfl rfl ?_
            refine E_mul (v := ((480 * i + 12 * s : Nat) : Int)) rfl (by omega) (by omega) ?_
            refine E_s (p' := 190) (L' := [some (aA 124), some (aI ((i : Nat) : Int)), some (aI ((40 * i + s : Nat) : Int)), some (aI ((Sw R s : Nat) : Int)), some (aI (((lsS R lo s (Sp R s))))), some (aI (((lsS R hi s (Sp R s))))), some (aI ((480 * i + 12 * s : Nat) : Int)), x7]) rfl rfl ?_
            refine yl_roD hi9 (hMm.of (fun b j g1 g2 => (up2_ne (by omega)).trans (up2_ne (by omega)))) hV hb hs9 (p := rdS R lo hi s) (fun m1 y6 y7 D1 D2 => ?_) (Sp R s + 1) 0 _ _ (by omega) (by omega) (fun b z _ _ => rfl) (W1.kw (by omega) (by omega))
            refine E_inc (x := ((40 * i + s : Nat) : Int)) (w := ((40 * i + s + 1 : Nat) : Int)) (L' := [some (aA 124), some (aI ((i : Nat) : Int)), some (aI ((40 * i + s + 1 : Nat) : Int)), some (aI ((Sw R s : Nat) : Int)), some (aI (((lsS R lo s (Sp R s))))), some (aI (((lsS R hi s (Sp R s))))), y6, y7]) rfl rfl rfl (by omega) (by omega) rfl ?_
            refine E_s (p' := 47) rfl rfl ?_
            exact ih (s + 1) m1 _ _ _ _ _ (by omega) (by omega) (fun b z g1 g2 => (D1 b z g1 g2).trans ((up2_ne g2).trans ((up2_ne g1).trans (I0 b z g1 g2)))) (by show RWm _ _ _ (if 2 ≤ Sp R s then _ else _) _; rw [if_pos (by omega)]; exact D2)
          · refine E_go (p' := 183) (L' := [some (aA 124), some (aI ((i : Nat) : Int)), some (aI ((40 * i + s : Nat) : Int)), some (aI ((Sw R s : Nat) : Int)), some (aI (((lsS R lo s (Sp R s))))), some (aI (((lsS R hi s (Sp R s))))), some (aI ((480 * i + 12 * s + Sp R s : Nat) : Int)), x7]) (st' := [aI (((lsS R hi s (Sp R s)))), aI ((Sw R s : Nat) : Int), aA 158]) rfl rfl rfl ?_
            refine E_ast (e := Sw R s) (N := 60) rfl rfl (rfl) (by omega) ?_
            refine E_s (p' := 186) (st' := aI 12 :: _) rfl rfl ?_
            refine E_s (p' := 187) (st' := aI ((40 * i + s : Nat) : Int) :: _) rfl rfl ?_
            refine E_mul (v := ((480 * i + 12 * s : Nat) : Int)) rfl (by omega) (by omega) ?_
            refine E_s (p' := 190) (L' := [some (aA 124), some (aI ((i : Nat) : Int)), some (aI ((40 * i + s : Nat) : Int)), some (aI ((Sw R s : Nat) : Int)), some (aI (((lsS R lo s (Sp R s))))), some (aI (((lsS R hi s (Sp R s))))), some (aI ((480 * i + 12 * s : Nat) : Int)), x7]) rfl rfl ?_
            refine yl_roD hi9 (hMm.of (fun b j g1 g2 => (up2_ne (by omega)).trans (up2_ne (by omega)))) hV hb hs9 (p := rdS R lo hi s) (fun m1 y6 y7 D1 D2 => ?_) (Sp R s + 1) 0 _ _ (by omega) (by omega) (fun b z _ _ => rfl) (W1.kw (by omega) (by omega))
            refine E_inc (x := ((40 * i + s : Nat) : Int)) (w := ((40 * i + s + 1 : Nat) : Int)) (L' := [some (aA 124), some (aI ((i : Nat) : Int)), some (aI ((40 * i + s + 1 : Nat) : Int)), some (aI ((Sw R s : Nat) : Int)), some (aI (((lsS R lo s (Sp R s))))), some (aI (((lsS R hi s (Sp R s))))), y6, y7]) rfl rfl rfl (by omega) (by omega) rfl ?_
            refine E_s (p' := 47) rfl rfl ?_
            exact ih (s + 1) m1 _ _ _ _ _ (by omega) (by omega) (fun b z g1 g2 => (D1 b z g1 g2).trans ((up2_ne g2).trans ((up2_ne g1).trans (I0 b z g1 g2)))) (by show RWm _ _ _ (if 2 ≤ Sp R s then _ else _) _; rw [if_pos (by omega)]; exact D2)
        · refine E_go (p' := 166) (L' := [some (aA 124), some (aI ((i : Nat) : Int)), some (aI ((40 * i + s : Nat) : Int)), some (aI ((Sw R s : Nat) : Int)), some (aI (((lsS R lo s (Sp R s))))), some (aI (((lsS R hi s (Sp R s))))), some (aI ((480 * i + 12 * s + Sp R s : Nat) : Int)), x7]) (st' := [aI (((lsS R lo s (Sp R s)))), aI ((Sw R s : Nat) : Int), aA 157]) rfl rfl rfl ?_
          refine E_ast (e := Sw R s) (N := 60) rfl rfl (rfl) (by omega) ?_
          refine E_s (p' := 168) (st' := aA 124 :: _) rfl rfl ?_
          refine E_gA (b := 158) rfl rfl rfl rfl rfl rfl ?_
          refine E_s (p' := 172) (st' := aI ((Sw R s : Nat) : Int) :: _) rfl rfl ?_
          refine E_s (p' := 173) (st' := aA 124 :: _) rfl rfl ?_
          refine E_gA (b := 158) rfl rfl rfl rfl rfl rfl ?_
          refine E_s (p' := 177) (st' := aI ((Sw R s : Nat) : Int) :: _) rfl rfl ?_
          refine E_ald (e := Sw R s) (N := 60) (v := ((((rdS R lo hi s).2 (Sw R s))))) rfl rfl (rfl) (by omega) ((up2_ne (by omega)).trans ((W1 _ (by omega)).2.2.2)) ?_
          refine E_s (p' := 180) (st' := aI (((lsS R hi s (Sp R s)))) :: _) rfl rfl ?_
          refine E_callL (p' := 183) (L0 := [some (aI ((((rdS R lo hi s).2 (Sw R s))))), some (aI (((lsS R hi s (Sp R s)))))]) rfl rfl rfl ?_
          refine m_less (fun h_7 => ?_) (fun h_8 => ?_)
          · refine E_go (p' := 183) (L' := [some (aA 124), some (aI ((i : Nat) : Int)), some (aI ((40 * i + s : Nat) : Int)), some (aI ((Sw R s : Nat) : Int)), some (aI (((lsS R lo s (Sp R s))))), some (aI (((lsS R hi s (Sp R s))))), some (aI ((480 * i + 12 * s + Sp R s : Nat) : Int)), x7]) (st' := [aI ((((rdS R lo hi s).2 (Sw R s)))), aI ((Sw R s : Nat) : Int), aA 158]) rfl rfl rfl ?_
            refine E_ast (e := Sw R s) (N := 60) rfl rfl (rfl) (by omega) ?_
            refine E_s (p' := 186) (st' := aI 12 :: _) rfl rfl ?_
            refine E_s (p' := 187) (st' := aI ((40 * i + s : Nat) : Int) :: _) rfl rfl ?_
            refine E_mul (v := ((480 * i + 12 * s : Nat) : Int)) rfl (by omega) (by omega) ?_
            refine E_s (p' := 190) (L' := [some (aA 124), some (aI ((i : Nat) : Int)), some (aI ((40 * i + s : Nat) : Int)), some (aI ((Sw R s : Nat) : Int)), some (aI (((lsS R lo s (Sp R s))))), some (aI (((lsS R hi s (Sp R s))))), some (aI ((480 * i + 12 * s : Nat) : Int)), x7]) rfl rfl ?_
            refine yl_roD hi9 (hMm.of (fun b j g1 g2 => (up2_ne (by omega)).trans (up2_ne (by omega)))) hV hb hs9 (p := rdS R lo hi s) (fun m1 y6 y7 D1 D2 => ?_) (Sp R s + 1) 0 _ _ (by omega) (by omega) (fun b z _ _ => rfl) (W1.kw (by omega) (by omega))
            refine E_inc (x := ((40 * i + s : Nat) : Int)) (w := ((40 * i + s + 1 : Nat) : Int)) (L' := [some (aA 124), some (aI ((i : Nat) : Int)), some (aI ((40 * i + s + 1 : Nat) : Int)), some (aI ((Sw R s : Nat) : Int)), some (aI (((lsS R lo s (Sp R s))))), some (aI (((lsS R hi s (Sp R s))))), y6, y7]) rfl rfl rfl (by omega) (by omega) rfl ?_
            refine E_s (p' := 47) rfl rfl ?_
            exact ih (s + 1) m1 _ _ _ _ _ (by omega) (by omega) (fun b z g1 g2 => (D1 b z g1 g2).trans ((up2_ne g2).trans ((up2_ne g1).trans (I0 b z g1 g2)))) (by show RWm _ _ _ (if 2 ≤ Sp R s then _ else _) _; rw [if_pos (by omega)]; exact D2)
          · refine E_go (p' := 183) (L' := [some (aA 124), some (aI ((i : Nat) : Int)), some (aI ((40 * i + s : Nat) : Int)), some (aI ((Sw R s : Nat) : Int)), some (aI (((lsS R lo s (Sp R s))))), some (aI (((lsS R hi s (Sp R s))))), some (aI ((480 * i + 12 * s + Sp R s : Nat) : Int)), x7]) (st' := [aI (((lsS R hi s (Sp R s)))), aI ((Sw R s : Nat) : Int), aA 158]) rfl rfl rfl ?_
            refine E_ast (e := Sw R s) (N := 60) rfl rfl (rfl) (by omega) ?_
            refine E_s (p' := 186) (st' := aI 12 :: _) rfl rfl ?_
            refine E_s (p' := 187) (st' := aI ((40 * i + s : Nat) : Int) :: _) rfl rfl ?_
            refine E_mul (v := ((480 * i + 12 * s : Nat) : Int)) rfl (by omega) (by omega) ?_
            refine E_s (p' := 190) (L' := [some (aA 124), some (aI ((i : Nat) : Int)), some (aI ((40 * i + s : Nat) : Int)), some (aI ((Sw R s : Nat) : Int)), some (aI (((lsS R lo s (Sp R s))))), some (aI (((lsS R hi s (Sp R s))))), some (aI ((480 * i + 12 * s : Nat) : Int)), x7]) rfl rfl ?_
            refine yl_roD hi9 (hMm.of (fun b j g1 g2 => (up2_ne (by omega)).trans (up2_ne (by omega)))) hV hb hs9 (p := rdS R lo hi s) (fun m1 y6 y7 D1 D2 => ?_) (Sp R s + 1) 0 _ _ (by omega) (by omega) (fun b z _ _ => rfl) (W1.kw (by omega) (by omega))
            refine E_inc (x := ((40 * i + s : Nat) : Int)) (w := ((40 * i + s + 1 : Nat) : Int)) (L' := [some (aA 124), some (aI ((i : Nat) : Int)), some (aI ((40 * i + s + 1 : Nat) : Int)), some (aI ((Sw R s : Nat) : Int)), some (aI (((lsS R lo s (Sp R s))))), some (aI (((lsS R hi s (Sp R s))))), y6, y7]) rfl rfl rfl (by omega) (by omega) rfl ?_
            refine E_s (p' := 47) rfl rfl ?_
            exact ih (s + 1) m1 _ _ _ _ _ (by omega) (by omega) (fun b z g1 g2 => (D1 b z g1 g2).trans ((up2_ne g2).trans ((up2_ne g1).trans (I0 b z g1 g2)))) (by show RWm _ _ _ (if 2 ≤ Sp R s then _ else _) _; rw [if_pos (by omega)]; exact D2)
      · refine E_go (p' := 72) (L' := [some (aA 124), some (aI ((i : Nat) : Int)), some (aI ((40 * i + s : Nat) : Int)), x3, x4, x5, x6, x7]) (st' := []) rfl rfl rfl ?_
        refine E_s (p' := 289) rfl rfl ?_
        refine E_inc (x := ((40 * i + s : Nat) : Int)) (w := ((40 * i + s + 1 : Nat) : Int)) (L' := [some (aA 124), some (aI ((i : Nat) : Int)), some (aI ((40 * i + s + 1 : Nat) : Int)), x3, x4, x5, x6, x7]) rfl rfl rfl (by omega) (by omega) rfl ?_
        refine E_s (p' := 47) rfl rfl ?_
        exact ih (s + 1) m _ _ _ _ _ (by omega) (by omega) I0 (by show RWm _ _ _ (if 2 ≤ Sp R s then _ else _) _; rw [if_neg (by omega)]; exact W1)
theorem yl_roE (hi9 : i < 4) (hM : MR R i m0) (hV : VR R) (hW : RWm (Cn R) lo hi (rdS R lo hi (Sn R)) m0) {x4 x5 x6 x7 : Option AV} (q : ∀ m1 : Mm, (∀ b z, b ≠ 155 → b ≠ 156 → m1 b z = m0 b z) → (∀ c, c < Cn R → m1 155 c = (rdS R lo hi (Sn R)).1 c ∧ m1 156 c = (rdS R lo hi (Sn R)).2 c) → Q (some (aI (bi (rdC R lo hi (Cn R))))) (m1, tl len)) : ∀ (d : Nat) (c : Nat) (b : Bool) (m : Mm), (Cn R < c + d) → (c ≤ Cn R) → (b = chN R lo hi c) → (∀ b z, b ≠ 155 → b ≠ 156 → m b z = m0 b z) → (∀ x, x < c → m 155 x = (rdS R lo hi (Sn R)).1 x ∧ m 156 x = (rdS R lo hi (Sn R)).2 x) → (∀ x, c ≤ x → x < Cn R → m 155 x = lo x ∧ m 156 x = hi x) → E 168 299 [some (aA 124), some (aI ((i : Nat) : Int)), some (aI (bi b)), some (aI ((c : Nat) : Int)), x4, x5, x6, x7] [] (m, tl len) Q := by
  intro d
  induction d with
  | zero => intro c b m hd hc hbb I0 I1 I2; omega
  | succ d ih =>
    intro c b m hd hc hbb I0 I1 I2
    have hn60 := hV.1
    have hMm : MR R i m := hM.of (fun b j g1 g2 => I0 b j (by omega) (by omega))
    refine E_s (p' := 300) (st' := aI ((c : Nat) : Int) :: _) rfl rfl ?_
    refine E_s (p' := 301) (st' := aA 124 :: _) rfl rfl ?_
    refine E_gA (b := 125) rfl rfl rfl rfl rfl rfl ?_
    refine E_s (p' := 305) (st' := aI ((i : Nat) : Int) :: _) rfl rfl ?_
    refine E_ald (e := i) (N := 4) (v := ((Cn R : Nat) : Int)) rfl rfl (rfl) (by omega) (MR_125 hMm) ?_
    refine E_icmp_ge (x := ((c : Nat) : Int)) (y := ((Cn R : Nat) : Int)) rfl (by decide) (fun h_1 => ?_) (fun h_1 => ?_)
    · refine E_go (p' := 379) (L' := [some (aA 124), some (aI ((i : Nat) : Int)), some (aI (bi b)), some (aI ((c : Nat) : Int)), x4, x5, x6, x7]) (st' := []) rfl rfl rfl ?_
      refine E_s (p' := 380) (st' := aI (bi b) :: _) rfl rfl ?_
      refine E_retB rfl rfl (bi01 _) ?_
      have e9 : c = Cn R := by omega
      rw [hbb, e9]
      exact q m I0 (fun x hx => I1 x (by omega))
    · refine E_go (p' := 309) (L' := [some (aA 124), some (aI ((i : Nat) : Int)), some (aI (bi b)), some (aI ((c : Nat) : Int)), x4, x5, x6, x7]) (st' := []) rfl rfl rfl ?_
      refine E_s (p' := 310) (st' := aI (bi b) :: _) rfl rfl ?_
      suffices h_2 : E 168 348 [some (aA 124), some (aI ((i : Nat) : Int)), some (aI (bi b)), some (aI ((c : Nat) : Int)), x4, x5, x6, x7] [aI (bi (b || (decide (((((rdS R lo hi (Sn R)).1 c))) ≠ (((lo c)))) || (!decide (((((rdS R lo hi (Sn R)).2 c))) = (((hi c))))))))] (m, tl len) Q by
        refine E_b_ne0 (b := b) rfl (by decide) (fun h_3 => ?_) (fun h_3 => ?_)
        · refine E_go (p' := 343) (L' := [some (aA 124), some (aI ((i : Nat) : Int)), some (aI (bi b)), some (aI ((c : Nat) : Int)), x4, x5, x6, x7]) (st' := []) rfl rfl rfl ?_
          refine E_s (p' := 344) (st' := aI 1 :: _) rfl rfl ?_
          refine E_s (p' := 348) rfl rfl ?_
          rw [h_3] at h_2
          (try rw [h_3])
          exact h_2
        · refine E_go (p' := 313) (L' := [some (aA 124), some (aI ((i : Nat) : Int)), some (aI (bi b)), some (aI ((c : Nat) : Int)), x4, x5, x6, x7]) (st' := []) rfl rfl rfl ?_
          refine E_s (p' := 314) (st' := aA 124 :: _) rfl rfl ?_
          refine E_gA (b := 157) rfl rfl rfl rfl rfl rfl ?_
          refine E_s (p' := 318) (st' := aI ((c : Nat) : Int) :: _) rfl rfl ?_
          refine E_ald (e := c) (N := 60) (v := ((((rdS R lo hi (Sn R)).1 c)))) rfl rfl (rfl) (by omega) ((I0 _ _ (by omega) (by omega)).trans (hW c (by omega)).2.2.1) ?_
          refine E_s (p' := 320) (st' := aA 124 :: _) rfl rfl ?_
          refine E_gA (b := 155) rfl rfl rfl rfl rfl rfl ?_
          refine E_s (p' := 324) (st' := aI ((c : Nat) : Int) :: _) rfl rfl ?_
          refine E_ald (e := c) (N := 60) (v := (((lo c)))) rfl rfl (rfl) (by omega) ((I2 c (by omega) (by omega)).1) ?_
          refine E_icmp_ne (x := ((((rdS R lo hi (Sn R)).1 c)))) (y := (((lo c)))) rfl (by decide) (fun h_4 => ?_) (fun h_4 => ?_)
          · refine E_go (p' := 343) (L' := [some (aA 124), some (aI ((i : Nat) : Int)), some (aI (bi b)), some (aI ((c : Nat) : Int)), x4, x5, x6, x7]) (st' := []) rfl rfl rfl ?_
            refine E_s (p' := 344) (st' := aI 1 :: _) rfl rfl ?_
            refine E_s (p' := 348) rfl rfl ?_
            rw [h_3] at h_2
            (try rw [h_3])
            rw [decide_eq_true (p := ((((rdS R lo hi (Sn R)).1 c))) ≠ (((lo c)))) (by omega)] at h_2
            exact h_2
          · refine E_go (p' := 328) (L' := [some (aA 124), some (aI ((i : Nat) : Int)), some (aI (bi b)), some (aI ((c : Nat) : Int)), x4, x5, x6, x7]) (st' := []) rfl rfl rfl ?_
            refine E_s (p' := 329) (st' := aA 124 :: _) rfl rfl ?_
            refine E_gA (b := 158) rfl rfl rfl rfl rfl rfl ?_
            refine E_s (p' := 333) (st' := aI ((c : Nat) : Int) :: _) rfl rfl ?_
            refine E_ald (e := c) (N := 60) (v := ((((rdS R lo hi (Sn R)).2 c)))) rfl rfl (rfl) (by omega) ((I0 _ _ (by omega) (by omega)).trans (hW c (by omega)).2.2.2) ?_
            refine E_s (p' := 335) (st' := aA 124 :: _) rfl rfl ?_
            refine E_gA (b := 156) rfl rfl rfl rfl rfl rfl ?_
            refine E_s (p' := 339) (st' := aI ((c : Nat) : Int) :: _) rfl rfl ?_
            refine E_ald (e := c) (N := 60) (v := (((hi c)))) rfl rfl (rfl) (by omega) ((I2 c (by omega) (by omega)).2) ?_
            refine E_icmp_eq (x := ((((rdS R lo hi (Sn R)).2 c)))) (y := (((hi c)))) rfl (by decide) (fun h_5 => ?_) (fun h_5 => ?_)
            · refine E_go (p' := 347) (L' := [some (aA 124), some (aI ((i : Nat) : Int)), some (aI (bi b)), some (aI ((c : Nat) : Int)), x4, x5, x6, x7]) (st' := []) rfl rfl rfl ?_
              refine E_s (p' := 348) (st' := aI 0 :: _) rfl rfl ?_
              rw [h_3] at h_2
              (try rw [h_3])
              rw [decide_eq_false (p := ((((rdS R lo hi (Sn R)).1 c))) ≠ (((lo c)))) (by omega)] at h_2
              rw [decide_eq_true (p := ((((rdS R lo hi (Sn R)).2 c))) = (((hi c)))) (by omega)] at h_2
              exact h_2
            · refine E_go (p' := 343) (L' := [some (aA 124), some (aI ((i : Nat) : Int)), some (aI (bi b)), some (aI ((c : Nat) : Int)), x4, x5, x6, x7]) (st' := []) rfl rfl rfl ?_
              refine E_s (p' := 344) (st' := aI 1 :: _) rfl rfl ?_
              refine E_s (p' := 348) rfl rfl ?_
              rw [h_3] at h_2
              (try rw [h_3])
              rw [decide_eq_false (p := ((((rdS R lo hi (Sn R)).1 c))) ≠ (((lo c)))) (by omega)] at h_2
              rw [decide_eq_false (p := ((((rdS R lo hi (Sn R)).2 c))) = (((hi c)))) (by omega)] at h_2
              exact h_2
      refine E_s (p' := 349) (L' := [some (aA 124), some (aI ((i : Nat) : Int)), some (aI (bi (b || (decide (((((rdS R lo hi (Sn R)).1 c))) ≠ (((lo c)))) || (!decide (((((rdS R lo hi (Sn R)).2 c))) = (((hi c))))))))), some (aI ((c : Nat) : Int)), x4, x5, x6, x7]) rfl rfl ?_
      refine E_s (p' := 350) (st' := aA 124 :: _) rfl rfl ?_
      refine E_gA (b := 155) rfl rfl rfl rfl rfl rfl ?_
      refine E_s (p' := 354) (st' := aI ((c : Nat) : Int) :: _) rfl rfl ?_
      refine E_s (p' := 355) (st' := aA 124 :: _) rfl rfl ?_
      refine E_gA (b := 157) rfl rfl rfl rfl rfl rfl ?_
      refine E_s (p' := 359) (st' := aI ((c : Nat) : Int) :: _) rfl rfl ?_
      refine E_ald (e := c) (N := 60) (v := ((((rdS R lo hi (Sn R)).1 c)))) rfl rfl (rfl) (by omega) ((I0 _ _ (by omega) (by omega)).trans (hW c (by omega)).2.2.1) ?_
      refine E_ast (e := c) (N := 60) rfl rfl (rfl) (by omega) ?_
      refine E_s (p' := 362) (st' := aA 124 :: _) rfl rfl ?_
      refine E_gA (b := 156) rfl rfl rfl rfl rfl rfl ?_
      refine E_s (p' := 366) (st' := aI ((c : Nat) : Int) :: _) rfl rfl ?_
      refine E_s (p' := 367) (st' := aA 124 :: _) rfl rfl ?_
      refine E_gA (b := 158) rfl rfl rfl rfl rfl rfl ?_
      refine E_s (p' := 371) (st' := aI ((c : Nat) : Int) :: _) rfl rfl ?_
      refine E_ald (e := c) (N := 60) (v := ((((rdS R lo hi (Sn R)).2 c)))) rfl rfl (rfl) (by omega) ((up2_ne (by omega)).trans (((I0 _ _ (by omega) (by omega)).trans (hW c (by omega)).2.2.2))) ?_
      refine E_ast (e := c) (N := 60) rfl rfl (rfl) (by omega) ?_
      refine E_inc (x := ((c : Nat) : Int)) (w := ((c + 1 : Nat) : Int)) (L' := [some (aA 124), some (aI ((i : Nat) : Int)), some (aI (bi (b || (decide (((((rdS R lo hi (Sn R)).1 c))) ≠ (((lo c)))) || (!decide (((((rdS R lo hi (Sn R)).2 c))) = (((hi c))))))))), some (aI ((c + 1 : Nat) : Int)), x4, x5, x6, x7]) rfl rfl rfl (by omega) (by omega) rfl ?_
      refine E_s (p' := 299) rfl rfl ?_
      refine ih (c + 1) _ _ (by omega) (by omega) ?_ (fun b z g1 g2 => (up2_ne g2).trans ((up2_ne g1).trans (I0 b z g1 g2))) (fun x hx => ?_) (fun x h1 h2 => ⟨(up2_ne (by omega)).trans ((up2_sl (by omega)).trans (I2 x (by omega) h2).1), (up2_sl (by omega)).trans ((up2_ne (by omega)).trans (I2 x (by omega) h2).2)⟩)
      · rw [chN_s, ← hbb]
        congr 1
        congr 1
        by_cases g9 : (rdS R lo hi (Sn R)).2 c = hi c
        · rw [decide_eq_true g9, decide_eq_false (fun h => h g9)]; rfl
        · rw [decide_eq_false g9, decide_eq_true g9]; rfl
      · by_cases g9 : x = c
        · rw [g9]; exact ⟨(up2_ne (by omega)).trans up2_eq, up2_eq⟩
        · exact ⟨(up2_ne (by omega)).trans ((up2_sl g9).trans (I1 x (by omega)).1), (up2_sl g9).trans ((up2_ne (by omega)).trans (I1 x (by omega)).2)⟩
theorem m_round (hi9 : i < 4) (hM : MR R i m0) (hV : VR R) (hb : bnd (Cn R) lo hi) (hlo : ∀ c, c < Cn R → m0 155 c = lo c ∧ m0 156 c = hi c) (q : ∀ m1 : Mm, (∀ b z, ¬ (155 ≤ b ∧ b ≤ 158) → m1 b z = m0 b z) → (∀ c, c < Cn R → m1 155 c = (rdS R lo hi (Sn R)).1 c ∧ m1 156 c = (rdS R lo hi (Sn R)).2 c) → Q (some (aI (bi (rdC R lo hi (Cn R))))) (m1, tl len)) : E 168 0 [some (aA 124), some (aI ((i : Nat) : Int)), none, none, none, none, none, none] [] (m0, tl len) Q := by
  refine E_s (p' := 1) (st' := aI 0 :: _) rfl rfl ?_
  refine E_s (p' := 2) (L' := [some (aA 124), some (aI ((i : Nat) : Int)), some (aI 0), none, none, none, none, none]) rfl rfl ?_
  refine yl_roA hi9 hM hV hb hlo (fun m1 a1 a2 => ?_) (Cn R + 1) 0 m0 (by omega) (by omega) (fun b z _ _ => rfl) (fun x hx => absurd hx (by omega))
  refine E_s (p' := 44) (st' := aI 40 :: _) rfl rfl ?_
  refine E_s (p' := 45) (st' := aI ((i : Nat) : Int) :: _) rfl rfl ?_
  refine E_mul (v := ((40 * i : Nat) : Int)) rfl (by omega) (by omega) ?_
  refine E_s (p' := 47) (L' := [some (aA 124), some (aI ((i : Nat) : Int)), some (aI ((40 * i : Nat) : Int)), none, none, none, none, none]) rfl rfl ?_
  refine yl_roB hi9 (hM.of (fun b j g1 g2 => a1 b j (by omega) (by omega))) hV hb (fun m2 y3 y4 y5 y6 y7 b1 b2 => ?_) (Sn R + 1) 0 m1 none none none none none (by omega) (by omega) (fun b z _ _ => rfl) a2
  refine E_s (p' := 296) (st' := aI 0 :: _) rfl rfl ?_
  refine E_s (p' := 297) (L' := [some (aA 124), some (aI ((i : Nat) : Int)), some (aI 0), y3, y4, y5, y6, y7]) rfl rfl ?_
  refine E_s (p' := 298) (st' := aI 0 :: _) rfl rfl ?_
  refine E_s (p' := 299) (L' := [some (aA 124), some (aI ((i : Nat) : Int)), some (aI 0), some (aI 0), y4, y5, y6, y7]) rfl rfl ?_
  exact yl_roE hi9 (hM.of (fun b j g1 g2 => (b1 b j (by omega) (by omega)).trans (a1 b j (by omega) (by omega)))) hV b2 (fun m3 c1 c2 => q m3 (fun b z g1 => (c1 b z (by omega) (by omega)).trans ((b1 b z (by omega) (by omega)).trans (a1 b z (by omega) (by omega)))) c2) (Cn R + 1) 0 false m2 (by omega) (by omega) rfl (fun b z _ _ => rfl) (fun x hx => absurd hx (by omega)) (fun x _ hx => ⟨(b2 x hx).1, (b2 x hx).2.1⟩)
theorem yl_ib (hi9 : i < 4) (hM : MR R i m) (hV : VR R) (hlo : ∀ c, c < Cn R → m 155 c = lo c ∧ m 156 c = hi c) (q1 : ∀ c, c < Cn R → hi c < lo c → Q (some (aI 1)) (m, tl len)) (q0 : (∀ x, x < Cn R → lo x ≤ hi x) → Q (some (aI 0)) (m, tl len)) : ∀ (d : Nat) (c : Nat), (Cn R < c + d) → (c ≤ Cn R) → (∀ x, x < c → lo x ≤ hi x) → E 171 2 [some (aA 124), some (aI ((i : Nat) : Int)), some (aI ((c : Nat) : Int))] [] (m, tl len) Q := by
  intro d
  induction d with
  | zero => intro c hd hc I1; omega
  | succ d ih =>
    intro c hd hc I1
    have hn60 := hV.1
    refine E_s (p' := 3) (st' := aI ((c : Nat) : Int) :: _) rfl rfl ?_
    refine E_s (p' := 4) (st' := aA 124 :: _) rfl rfl ?_
    refine E_gA (b := 125) rfl rfl rfl rfl rfl rfl ?_
    refine E_s (p' := 8) (st' := aI ((i : Nat) : Int) :: _) rfl rfl ?_
    refine E_ald (e := i) (N := 4) (v := ((Cn R : Nat) : Int)) rfl rfl (rfl) (by omega) (MR_125 hM) ?_
    refine E_icmp_ge (x := ((c : Nat) : Int)) (y := ((Cn R : Nat) : Int)) rfl (by decide) (fun h_1 => ?_) (fun h_1 => ?_)
    · refine E_go (p' := 35) (L' := [some (aA 124), some (aI ((i : Nat) : Int)), some (aI ((c : Nat) : Int))]) (st' := []) rfl rfl rfl ?_
      refine E_s (p' := 36) (st' := aI 0 :: _) rfl rfl ?_
      refine E_ret rfl rfl ?_
      exact q0 (fun x hx => I1 x (by omega))
    · refine E_go (p' := 12) (L' := [some (aA 124), some (aI ((i : Nat) : Int)), some (aI ((c : Nat) : Int))]) (st' := []) rfl rfl rfl ?_
      refine E_s (p' := 13) (st' := aA 124 :: _) rfl rfl ?_
      refine E_gA (b := 155) rfl rfl rfl rfl rfl rfl ?_
      refine E_s (p' := 17) (st' := aI ((c : Nat) : Int) :: _) rfl rfl ?_
      refine E_ald (e := c) (N := 60) (v := (((lo c)))) rfl rfl (rfl) (by omega) (hlo c (by omega)).1 ?_
      refine E_s (p' := 19) (st' := aA 124 :: _) rfl rfl ?_
      refine E_gA (b := 156) rfl rfl rfl rfl rfl rfl ?_
      refine E_s (p' := 23) (st' := aI ((c : Nat) : Int) :: _) rfl rfl ?_
      refine E_ald (e := c) (N := 60) (v := (((hi c)))) rfl rfl (rfl) (by omega) (hlo c (by omega)).2 ?_
      refine E_icmp_le (x := (((lo c)))) (y := (((hi c)))) rfl (by decide) (fun h_2 => ?_) (fun h_2 => ?_)
      · refine E_go (p' := 29) (L' := [some (aA 124), some (aI ((i : Nat) : Int)), some (aI ((c : Nat) : Int))]) (st' := []) rfl rfl rfl ?_
        refine E_inc (x := ((c : Nat) : Int)) (w := ((c + 1 : Nat) : Int)) (L' := [some (aA 124), some (aI ((i : Nat) : Int)), some (aI ((c + 1 : Nat) : Int))]) rfl rfl rfl (by omega) (by omega) rfl ?_
        refine E_s (p' := 2) rfl rfl ?_
        exact ih (c + 1) (by omega) (by omega) (fun x hx => by by_cases g9 : x = c; subst g9; omega; exact I1 x (by omega))
      · refine E_go (p' := 27) (L' := [some (aA 124), some (aI ((i : Nat) : Int)), some (aI ((c : Nat) : Int))]) (st' := []) rfl rfl rfl ?_
        refine E_s (p' := 28) (st' := aI 1 :: _) rfl rfl ?_
        refine E_ret rfl rfl ?_
        exact q1 c (by omega) (by omega)
theorem m_isBroken (hi9 : i < 4) (hM : MR R i m) (hV : VR R) (hlo : ∀ c, c < Cn R → m 155 c = lo c ∧ m 156 c = hi c) (q1 : ∀ c, c < Cn R → hi c < lo c → Q (some (aI 1)) (m, tl len)) (q0 : (∀ x, x < Cn R → lo x ≤ hi x) → Q (some (aI 0)) (m, tl len)) : E 171 0 [some (aA 124), some (aI ((i : Nat) : Int)), none] [] (m, tl len) Q := by
  refine E_s (p' := 1) (st' := aI 0 :: _) rfl rfl ?_
  refine E_s (p' := 2) (L' := [some (aA 124), some (aI ((i : Nat) : Int)), some (aI 0)]) rfl rfl ?_
  exact yl_ib hi9 hM hV hlo q1 q0 (Cn R + 1) 0 (by omega) (by omega) (fun x hx => absurd hx (by omega))
end

section
variable {len : Nat} {m m0 : Mm} {Q : Option AV → Sx → Prop} {R : RD} {i : Nat} {x y : Int}
theorem yl_rsA (hi9 : i < 4) (hM : MR R i m0) (hV : VR R) (how : ∀ d, d < Cn R → m0 153 d = oL R d ∧ m0 154 d = oH R d) (hk : ∀ (m1 : Mm) (x6 : Option AV), (∀ b z, ¬ (155 ≤ b ∧ b ≤ 156) → m1 b z = m0 b z) → (∀ c, c < Cn R → m1 155 c = sL R x y c ∧ m1 156 c = sH R x y c) → E 167 93 [some (aA 124), some (aI (i : Int)), some (aI x), some (aI y), some (aI (-1)), some (aI (Cn R : Int)), x6] [] (m1, tl len) Q) : ∀ (d : Nat) (c : Nat) (m : Mm) (x6 : Option AV), (Cn R < c + d) → (c ≤ Cn R) → (∀ b z, ¬ (155 ≤ b ∧ b ≤ 156) → m b z = m0 b z) → (∀ d, d < c → m 155 d = sL R x y d ∧ m 156 d = sH R x y d) → E 167 3 [some (aA 124), some (aI ((i : Nat) : Int)), some (aI (x)), some (aI (y)), some (aI (-1)), some (aI ((c : Nat) : Int)), x6] [] (m, tl len) Q := by
  intro d
  induction d with
  | zero => intro c m x6 hd hc I0 I2; omega
  | succ d ih =>
    intro c m x6 hd hc I0 I2
    have hn60 := hV.1
    have hMm : MR R i m := hM.of (fun b j g1 g2 => I0 b j (by omega))
    refine E_s (p' := 5) (st' := aI ((c : Nat) : Int) :: _) rfl rfl ?_
    refine E_s (p' := 6) (st' := aA 124 :: _) rfl rfl ?_
    refine E_gA (b := 125) rfl rfl rfl rfl rfl rfl ?_
    refine E_s (p' := 10) (st' := aI ((i : Nat) : Int) :: _) rfl rfl ?_
    refine E_ald (e := i) (N := 4) (v := ((Cn R : Nat) : Int)) rfl rfl (rfl) (by omega) (MR_125 hMm) ?_
    refine E_icmp_ge (x := ((c : Nat) : Int)) (y := ((Cn R : Nat) : Int)) rfl (by decide) (fun h_1 => ?_) (fun h_1 => ?_)
    · refine E_go (p' := 93) (L' := [some (aA 124), some (aI ((i : Nat) : Int)), some (aI (x)), some (aI (y)), some (aI (-1)), some (aI ((c : Nat) : Int)), x6]) (st' := []) rfl rfl rfl ?_
      have e9 : c = Cn R := by omega
      subst e9
      exact hk m x6 I0 I2
    · refine E_go (p' := 14) (L' := [some (aA 124), some (aI ((i : Nat) : Int)), some (aI (x)), some (aI (y)), some (aI (-1)), some (aI ((c : Nat) : Int)), x6]) (st' := []) rfl rfl rfl ?_
      refine E_s (p' := 16) (st' := aI ((c : Nat) : Int) :: _) rfl rfl ?_
      refine E_s (p' := 17) (st' := aI (x) :: _) rfl rfl ?_
      refine E_icmp_eq (x := ((c : Nat) : Int)) (y := (x)) rfl (by decide) (fun h_2 => ?_) (fun h_2 => ?_)
      · refine E_go (p' := 33) (L' := [some (aA 124), some (aI ((i : Nat) : Int)), some (aI (x)), some (aI (y)), some (aI (-1)), some (aI ((c : Nat) : Int)), x6]) (st' := []) rfl rfl rfl ?_
        refine E_s (p' := 34) (st' := aI 1 :: _) rfl rfl ?_
        refine E_s (p' := 38) rfl rfl ?_
        refine E_s (p' := 40) (L' := [some (aA 124), some (aI ((i : Nat) : Int)), some (aI (x)), some (aI (y)), some (aI (-1)), some (aI ((c : Nat) : Int)), some (aI 1)]) rfl rfl ?_
        refine E_s (p' := 41) (st' := aA 124 :: _) rfl rfl ?_
        refine E_gA (b := 155) rfl rfl rfl rfl rfl rfl ?_
        refine E_s (p' := 46) (st' := aI ((c : Nat) : Int) :: _) rfl rfl ?_
        refine E_s (p' := 48) (st' := aI 1 :: _) rfl rfl ?_
        refine E_s (p' := 51) rfl rfl ?_
        refine E_s (p' := 52) (st' := aI 0 :: _) rfl rfl ?_
        refine E_s (p' := 62) rfl rfl ?_
        refine E_ast (e := c) (N := 60) rfl rfl (rfl) (by omega) ?_
        refine E_s (p' := 64) (st' := aA 124 :: _) rfl rfl ?_
        refine E_gA (b := 156) rfl rfl rfl rfl rfl rfl ?_
        refine E_s (p' := 69) (st' := aI ((c : Nat) : Int) :: _) rfl rfl ?_
        refine E_s (p' := 71) (st' := aI 1 :: _) rfl rfl ?_
        refine E_s (p' := 74) rfl rfl ?_
        refine E_s (p' := 76) (st' := aI 999999 :: _) rfl rfl ?_
        refine E_s (p' := 86) rfl rfl ?_
        refine E_ast (e := c) (N := 60) rfl rfl (rfl) (by omega) ?_
        refine E_inc (x := ((c : Nat) : Int)) (w := ((c + 1 : Nat) : Int)) (L' := [some (aA 124), some (aI ((i : Nat) : Int)), some (aI (x)), some (aI (y)), some (aI (-1)), some (aI ((c + 1 : Nat) : Int)), some (aI 1)]) rfl rfl rfl (by omega) (by omega) rfl ?_
        refine E_s (p' := 3) rfl rfl ?_
        have ea : (((c : Nat) : Int) = x ∨ ((c : Nat) : Int) = y) = True := by simp only [eq_iff_iff, iff_true]; omega
        refine ih (c + 1) _ _ (by omega) (by omega) (fun b z g1 => (up2_ne (by omega)).trans ((up2_ne (by omega)).trans (I0 b z g1))) (fun d hd8 => ?_)
        by_cases g9 : d = c
        · rw [g9]
          refine ⟨((up2_ne (by omega)).trans up2_eq).trans ?_, up2_eq.trans ?_⟩
          · unfold sL; simp only [ea, if_true, if_false]
          · unfold sH; simp only [ea, if_true, if_false]
        · exact ⟨(up2_ne (by omega)).trans ((up2_sl g9).trans (I2 d (by omega)).1), (up2_sl g9).trans ((up2_ne (by omega)).trans (I2 d (by omega)).2)⟩
      · refine E_go (p' := 20) (L' := [some (aA 124), some (aI ((i : Nat) : Int)), some (aI (x)), some (aI (y)), some (aI (-1)), some (aI ((c : Nat) : Int)), x6]) (st' := []) rfl rfl rfl ?_
        refine E_s (p' := 22) (st' := aI ((c : Nat) : Int) :: _) rfl rfl ?_
        refine E_s (p' := 23) (st' := aI (y) :: _) rfl rfl ?_
        refine E_icmp_eq (x := ((c : Nat) : Int)) (y := (y)) rfl (by decide) (fun h_3 => ?_) (fun h_3 => ?_)
        · refine E_go (p' := 33) (L' := [some (aA 124), some (aI ((i : Nat) : Int)), some (aI (x)), some (aI (y)), some (aI (-1)), some (aI ((c : Nat) : Int)), x6]) (st' := []) rfl rfl rfl ?_
          refine E_s (p' := 34) (st' := aI 1 :: _) rfl rfl ?_
          refine E_s (p' := 38) rfl rfl ?_
          refine E_s (p' := 40) (L' := [some (aA 124), some (aI ((i : Nat) : Int)), some (aI (x)), some (aI (y)), some (aI (-1)), some (aI ((c : Nat) : Int)), some (aI 1)]) rfl rfl ?_
          refine E_s (p' := 41) (st' := aA 124 :: _) rfl rfl ?_
          refine E_gA (b := 155) rfl rfl rfl rfl rfl rfl ?_
          refine E_s (p' := 46) (st' := aI ((c : Nat) : Int) :: _) rfl rfl ?_
          refine E_s (p' := 48) (st' := aI 1 :: _) rfl rfl ?_
          refine E_s (p' := 51) rfl rfl ?_
          refine E_s (p' := 52) (st' := aI 0 :: _) rfl rfl ?_
          refine E_s (p' := 62) rfl rfl ?_
          refine E_ast (e := c) (N := 60) rfl rfl (rfl) (by omega) ?_
          refine E_s (p' := 64) (st' := aA 124 :: _) rfl rfl ?_
          refine E_gA (b := 156) rfl rfl rfl rfl rfl rfl ?_
          refine E_s (p' := 69) (st' := aI ((c : Nat) : Int) :: _) rfl rfl ?_
          refine E_s (p' := 71) (st' := aI 1 :: _) rfl rfl ?_
          refine E_s (p' := 74) rfl rfl ?_
          refine E_s (p' := 76) (st' := aI 999999 :: _) rfl rfl ?_
          refine E_s (p' := 86) rfl rfl ?_
          refine E_ast (e := c) (N := 60) rfl rfl (rfl) (by omega) ?_
          refine E_inc (x := ((c : Nat) : Int)) (w := ((c + 1 : Nat) : Int)) (L' := [some (aA 124), some (aI ((i : Nat) : Int)), some (aI (x)), some (aI (y)), some (aI (-1)), some (aI ((c + 1 : Nat) : Int)), some (aI 1)]) rfl rfl rfl (by omega) (by omega) rfl ?_
          refine E_s (p' := 3) rfl rfl ?_
          have ea : (((c : Nat) : Int) = x ∨ ((c : Nat) : Int) = y) = True := by simp only [eq_iff_iff, iff_true]; omega
          refine ih (c + 1) _ _ (by omega) (by omega) (fun b z g1 => (up2_ne (by omega)).trans ((up2_ne (by omega)).trans (I0 b z g1))) (fun d hd8 => ?_)
          by_cases g9 : d = c
          · rw [g9]
            refine ⟨((up2_ne (by omega)).trans up2_eq).trans ?_, up2_eq.trans ?_⟩
            · unfold sL; simp only [ea, if_true, if_false]
            · unfold sH; simp only [ea, if_true, if_false]
          · exact ⟨(up2_ne (by omega)).trans ((up2_sl g9).trans (I2 d (by omega)).1), (up2_sl g9).trans ((up2_ne (by omega)).trans (I2 d (by omega)).2)⟩
        · refine E_go (p' := 26) (L' := [some (aA 124), some (aI ((i : Nat) : Int)), some (aI (x)), some (aI (y)), some (aI (-1)), some (aI ((c : Nat) : Int)), x6]) (st' := []) rfl rfl rfl ?_
          refine E_s (p' := 28) (st' := aI ((c : Nat) : Int) :: _) rfl rfl ?_
          refine E_s (p' := 30) (st' := aI (-1) :: _) rfl rfl ?_
          refine E_icmp_ne (x := ((c : Nat) : Int)) (y := (-1)) rfl (by decide) (fun h_4 => ?_) (fun q => absurd q (by omega))
          refine E_go (p' := 37) (L' := [some (aA 124), some (aI ((i : Nat) : Int)), some (aI (x)), some (aI (y)), some (aI (-1)), some (aI ((c : Nat) : Int)), x6]) (st' := []) rfl rfl rfl ?_
          refine E_s (p' := 38) (st' := aI 0 :: _) rfl rfl ?_
          refine E_s (p' := 40) (L' := [some (aA 124), some (aI ((i : Nat) : Int)), some (aI (x)), some (aI (y)), some (aI (-1)), some (aI ((c : Nat) : Int)), some (aI 0)]) rfl rfl ?_
          refine E_s (p' := 41) (st' := aA 124 :: _) rfl rfl ?_
          refine E_gA (b := 155) rfl rfl rfl rfl rfl rfl ?_
          refine E_s (p' := 46) (st' := aI ((c : Nat) : Int) :: _) rfl rfl ?_
          refine E_s (p' := 48) (st' := aI 0 :: _) rfl rfl ?_
          refine E_s (p' := 55) rfl rfl ?_
          refine E_s (p' := 56) (st' := aA 124 :: _) rfl rfl ?_
          refine E_gA (b := 153) rfl rfl rfl rfl rfl rfl ?_
          refine E_s (p' := 61) (st' := aI ((c : Nat) : Int) :: _) rfl rfl ?_
          refine E_ald (e := c) (N := 60) (v := (((oL R c)))) rfl rfl (rfl) (by omega) ((I0 _ _ (by omega)).trans (how c (by omega)).1) ?_
          refine E_ast (e := c) (N := 60) rfl rfl (rfl) (by omega) ?_
          refine E_s (p' := 64) (st' := aA 124 :: _) rfl rfl ?_
          refine E_gA (b := 156) rfl rfl rfl rfl rfl rfl ?_
          refine E_s (p' := 69) (st' := aI ((c : Nat) : Int) :: _) rfl rfl ?_
          refine E_s (p' := 71) (st' := aI 0 :: _) rfl rfl ?_
          refine E_s (p' := 79) rfl rfl ?_
          refine E_s (p' := 80) (st' := aA 124 :: _) rfl rfl ?_
          refine E_gA (b := 154) rfl rfl rfl rfl rfl rfl ?_
          refine E_s (p' := 85) (st' := aI ((c : Nat) : Int) :: _) rfl rfl ?_
          refine E_ald (e := c) (N := 60) (v := (((oH R c)))) rfl rfl (rfl) (by omega) ((up2_ne (by omega)).trans (((I0 _ _ (by omega)).trans (how c (by omega)).2))) ?_
          refine E_ast (e := c) (N := 60) rfl rfl (rfl) (by omega) ?_
          refine E_inc (x := ((c : Nat) : Int)) (w := ((c + 1 : Nat) : Int)) (L' := [some (aA 124), some (aI ((i : Nat) : Int)), some (aI (x)), some (aI (y)), some (aI (-1)), some (aI ((c + 1 : Nat) : Int)), some (aI 0)]) rfl rfl rfl (by omega) (by omega) rfl ?_
          refine E_s (p' := 3) rfl rfl ?_
          have ea : (((c : Nat) : Int) = x ∨ ((c : Nat) : Int) = y) = False := by simp only [eq_iff_iff, iff_false]; omega
          refine ih (c + 1) _ _ (by omega) (by omega) (fun b z g1 => (up2_ne (by omega)).trans ((up2_ne (by omega)).trans (I0 b z g1))) (fun d hd8 => ?_)
          by_cases g9 : d = c
          · rw [g9]
            refine ⟨((up2_ne (by omega)).trans up2_eq).trans ?_, up2_eq.trans ?_⟩
            · unfold sL; simp only [ea, if_true, if_false]
            · unfold sH; simp only [ea, if_true, if_false]
          · exact ⟨(up2_ne (by omega)).trans ((up2_sl g9).trans (I2 d (by omega)).1), (up2_sl g9).trans ((up2_ne (by omega)).trans (I2 d (by omega)).2)⟩
theorem yl_rsB (hi9 : i < 4) (hM : MR R i m0) (hV : VR R) {x6 : Option AV} (q : ∀ m1 : Mm, (∀ b z, ¬ (155 ≤ b ∧ b ≤ 158) → m1 b z = m0 b z) → (∀ c, c < Cn R → m1 155 c = (rnd R 200 0 (sL R x y) (sH R x y)).2.1 c ∧ m1 156 c = (rnd R 200 0 (sL R x y) (sH R x y)).2.2 c) → Q (some (aI (rnd R 200 0 (sL R x y) (sH R x y)).1)) (m1, tl len)) : ∀ (d : Nat) (e n : Nat) (lo hi : Nat → Int) (m : Mm), (e < d) → (n + e = 200) → (rnd R 200 0 (sL R x y) (sH R x y) = rnd R e n lo hi) → (bnd (Cn R) lo hi) → (∀ b z, ¬ (155 ≤ b ∧ b ≤ 158) → m b z = m0 b z) → (∀ c, c < Cn R → m 155 c = lo c ∧ m 156 c = hi c) → E 167 96 [some (aA 124), some (aI ((i : Nat) : Int)), some (aI (x)), some (aI (y)), some (aI (-1)), some (aI ((n : Nat) : Int)), x6] [] (m, tl len) Q := by
  intro d
  induction d with
  | zero => intro e n lo hi m hd9 hie hq hb I1 I2; omega
  | succ d ih =>
    intro e n lo hi m hd9 hie hq hb I1 I2
    have hn60 := hV.1
    have hMm : MR R i m := hM.of (fun b j g1 g2 => I1 b j (by omega))
    refine E_s (p' := 98) (st' := aI ((n : Nat) : Int) :: _) rfl rfl ?_
    refine E_s (p' := 101) (st' := aI 200 :: _) rfl rfl ?_
    refine E_icmp_ge (x := ((n : Nat) : Int)) (y := 200) rfl (by decide) (fun h_1 => ?_) (fun h_1 => ?_)
    · refine E_go (p' := 131) (L' := [some (aA 124), some (aI ((i : Nat) : Int)), some (aI (x)), some (aI (y)), some (aI (-1)), some (aI ((n : Nat) : Int)), x6]) (st' := []) rfl rfl rfl ?_
      refine E_s (p' := 133) (st' := aI (-4) :: _) rfl rfl ?_
      refine E_ret rfl rfl ?_
      have e9 : e = 0 := by omega
      subst e9
      rw [hq] at q
      exact q m I1 I2
    · refine E_go (p' := 104) (L' := [some (aA 124), some (aI ((i : Nat) : Int)), some (aI (x)), some (aI (y)), some (aI (-1)), some (aI ((n : Nat) : Int)), x6]) (st' := []) rfl rfl rfl ?_
      refine E_s (p' := 105) (st' := aA 124 :: _) rfl rfl ?_
      refine E_s (p' := 106) (st' := aI ((i : Nat) : Int) :: _) rfl rfl ?_
      refine E_callV (k' := 168) (a := 124) (r := []) (L0 := [some (aA 124), some (aI ((i : Nat) : Int)), none, none, none, none, none, none]) rfl rfl rfl rfl rfl rfl rfl rfl rfl rfl ?_
      refine m_round hi9 hMm hV hb I2 (fun m1 F1 V1 => ?_)
      refine E_go (p' := 109) (L' := [some (aA 124), some (aI ((i : Nat) : Int)), some (aI (x)), some (aI (y)), some (aI (-1)), some (aI ((n : Nat) : Int)), x6]) (st' := [aI (bi (rdC R lo hi (Cn R)))]) rfl rfl rfl ?_
      have hM1 : MR R i m1 := hM.of (fun b j g1 g2 => (F1 b j (by omega)).trans (I1 b j (by omega)))
      refine E_b_ne0 (b := (rdC R lo hi (Cn R))) rfl (by decide) (fun h_2 => ?_) (fun h_2 => ?_)
      · refine E_go (p' := 115) (L' := [some (aA 124), some (aI ((i : Nat) : Int)), some (aI (x)), some (aI (y)), some (aI (-1)), some (aI ((n : Nat) : Int)), x6]) (st' := []) rfl rfl rfl ?_
        refine E_s (p' := 116) (st' := aA 124 :: _) rfl rfl ?_
        refine E_s (p' := 117) (st' := aI ((i : Nat) : Int) :: _) rfl rfl ?_
        refine E_callV (k' := 171) (a := 124) (r := []) (L0 := [some (aA 124), some (aI ((i : Nat) : Int)), none]) rfl rfl rfl rfl rfl rfl rfl rfl rfl rfl ?_
        refine m_isBroken hi9 hM1 hV V1 (fun cb hc1 hc2 => ?_) (fun hno => ?_)
        · refine E_go (p' := 120) (L' := [some (aA 124), some (aI ((i : Nat) : Int)), some (aI (x)), some (aI (y)), some (aI (-1)), some (aI ((n : Nat) : Int)), x6]) (st' := [aI 1]) rfl rfl rfl ?_
          refine E_s (p' := 123) rfl rfl ?_
          refine E_s (p' := 124) (st' := aI (-1) :: _) rfl rfl ?_
          refine E_ret rfl rfl ?_
          have eb : brk (rdS R lo hi (Sn R)).1 (rdS R lo hi (Sn R)).2 (Cn R) = true := brk_t hc1 hc2
          obtain ⟨e1, ee⟩ : ∃ z, e = z + 1 := ⟨e - 1, by omega⟩
          rw [hq, ee] at q
          have er : rnd R (e1 + 1) n lo hi = (-1, rdS R lo hi (Sn R)) := by show (bif rdC R lo hi (Cn R) then _ else _) = _; rw [show rdC R lo hi (Cn R) = true by assumption, eb]; rfl
          rw [er] at q
          exact q m1 (fun b z g1 => (F1 b z g1).trans (I1 b z g1)) V1
        · refine E_go (p' := 120) (L' := [some (aA 124), some (aI ((i : Nat) : Int)), some (aI (x)), some (aI (y)), some (aI (-1)), some (aI ((n : Nat) : Int)), x6]) (st' := [aI 0]) rfl rfl rfl ?_
          refine E_s (p' := 125) rfl rfl ?_
          refine E_inc (x := ((n : Nat) : Int)) (w := ((n + 1 : Nat) : Int)) (L' := [some (aA 124), some (aI ((i : Nat) : Int)), some (aI (x)), some (aI (y)), some (aI (-1)), some (aI ((n + 1 : Nat) : Int)), x6]) rfl rfl rfl (by omega) (by omega) rfl ?_
          refine E_s (p' := 96) rfl rfl ?_
          obtain ⟨e1, ee⟩ : ∃ z, e = z + 1 := ⟨e - 1, by omega⟩
          refine ih e1 (n + 1) (rdS R lo hi (Sn R)).1 (rdS R lo hi (Sn R)).2 m1 (by omega) (by omega) ?_ (fun c hc => ?_) (fun b z g1 => (F1 b z g1).trans (I1 b z g1)) V1
          · rw [hq, ee]
            show (bif rdC R lo hi (Cn R) then _ else _) = _
            rw [show rdC R lo hi (Cn R) = true by assumption, brk_f.mpr hno]; rfl
          · have h1 := rdS_m (R := R) (lo := lo) (hi := hi) (Sn R) c
            have h2 := hb c hc
            have h3 := hno c hc
            omega
      · refine E_go (p' := 112) (L' := [some (aA 124), some (aI ((i : Nat) : Int)), some (aI (x)), some (aI (y)), some (aI (-1)), some (aI ((n : Nat) : Int)), x6]) (st' := []) rfl rfl rfl ?_
        refine E_s (p' := 114) (st' := aI ((n : Nat) : Int) :: _) rfl rfl ?_
        refine E_ret rfl rfl ?_
        obtain ⟨e1, ee⟩ : ∃ z, e = z + 1 := ⟨e - 1, by omega⟩
        rw [hq, ee] at q
        have er : rnd R (e1 + 1) n lo hi = ((n : Int), rdS R lo hi (Sn R)) := by show (bif rdC R lo hi (Cn R) then _ else _) = _; rw [show rdC R lo hi (Cn R) = false by assumption]; rfl
        rw [er] at q
        exact q m1 (fun b z g1 => (F1 b z g1).trans (I1 b z g1)) V1
theorem m_rounds (hi9 : i < 4) (hM : MR R i m0) (hV : VR R) (how : ∀ d, d < Cn R → m0 153 d = oL R d ∧ m0 154 d = oH R d) (q : ∀ m1 : Mm, (∀ b z, ¬ (155 ≤ b ∧ b ≤ 158) → m1 b z = m0 b z) → (∀ c, c < Cn R → m1 155 c = (rnd R 200 0 (sL R x y) (sH R x y)).2.1 c ∧ m1 156 c = (rnd R 200 0 (sL R x y) (sH R x y)).2.2 c) → Q (some (aI (rnd R 200 0 (sL R x y) (sH R x y)).1)) (m1, tl len)) : E 167 0 [some (aA 124), some (aI ((i : Nat) : Int)), some (aI (x)), some (aI (y)), some (aI (-1)), none, none] [] (m0, tl len) Q := by
  refine E_s (p' := 1) (st' := aI 0 :: _) rfl rfl ?_
  refine E_s (p' := 3) (L' := [some (aA 124), some (aI ((i : Nat) : Int)), some (aI (x)), some (aI (y)), some (aI (-1)), some (aI 0), none]) rfl rfl ?_
  refine yl_rsA hi9 hM hV how (fun m1 y6 a1 a2 => ?_) (Cn R + 1) 0 m0 none (by omega) (by omega) (fun b z _ => rfl) (fun d hd8 => absurd hd8 (by omega))
  refine E_s (p' := 94) (st' := aI 0 :: _) rfl rfl ?_
  refine E_s (p' := 96) (L' := [some (aA 124), some (aI ((i : Nat) : Int)), some (aI (x)), some (aI (y)), some (aI (-1)), some (aI 0), y6]) rfl rfl ?_
  exact yl_rsB hi9 (hM.of (fun b j g1 g2 => a1 b j (by omega))) hV (fun m2 b1 b2 => q m2 (fun b z g1 => (b1 b z g1).trans (a1 b z (by omega))) b2) 201 200 0 (sL R x y) (sH R x y) m1 (by omega) (by omega) rfl (own_b hV x y) (fun b z _ => rfl) a2
theorem yl_ms (hi9 : i < 4) (hM : MR R i m0) (hV : VR R) {v : Int} (q : ∀ m1 : Mm, (∀ b z, ¬ (159 ≤ b ∧ b ≤ 160) → b ≠ 140 → m1 b z = m0 b z) → Q (some (aI v)) (m1, tl len)) : ∀ (d : Nat) (c : Nat) (m : Mm), (Cn R < c + d) → (c ≤ Cn R) → (∀ b z, ¬ (159 ≤ b ∧ b ≤ 160) → m b z = m0 b z) → E 165 26 [some (aA 124), some (aI ((i : Nat) : Int)), some (aI (v)), some (aI ((c : Nat) : Int))] [] (m, tl len) Q := by
  intro d
  induction d with
  | zero => intro c m hd hc I0; omega
  | succ d ih =>
    intro c m hd hc I0
    have hn60 := hV.1
    have hMm : MR R i m := hM.of (fun b j g1 g2 => I0 b j (by omega))
    refine E_s (p' := 27) (st' := aI ((c : Nat) : Int) :: _) rfl rfl ?_
    refine E_s (p' := 28) (st' := aA 124 :: _) rfl rfl ?_
    refine E_gA (b := 125) rfl rfl rfl rfl rfl rfl ?_
    refine E_s (p' := 32) (st' := aI ((i : Nat) : Int) :: _) rfl rfl ?_
    refine E_ald (e := i) (N := 4) (v := ((Cn R : Nat) : Int)) rfl rfl (rfl) (by omega) (MR_125 hMm) ?_
    refine E_icmp_ge (x := ((c : Nat) : Int)) (y := ((Cn R : Nat) : Int)) rfl (by decide) (fun h_1 => ?_) (fun h_1 => ?_)
    · refine E_go (p' := 76) (L' := [some (aA 124), some (aI ((i : Nat) : Int)), some (aI (v)), some (aI ((c : Nat) : Int))]) (st' := []) rfl rfl rfl ?_
      refine E_s (p' := 77) (st' := aA 124 :: _) rfl rfl ?_
      refine E_gA (b := 140) rfl rfl rfl rfl rfl rfl ?_
      refine E_s (p' := 81) (st' := aI ((i : Nat) : Int) :: _) rfl rfl ?_
      refine E_s (p' := 82) (st' := aI 1 :: _) rfl rfl ?_
      refine E_zst (e := i) (N := 4) rfl rfl (rfl) (by omega) (by decide) ?_
      refine E_s (p' := 84) (st' := aI (v) :: _) rfl rfl ?_
      refine E_ret rfl rfl ?_
      exact q _ (fun b z g1 g2 => (up2_ne g2).trans (I0 b z g1))
    · refine E_go (p' := 36) (L' := [some (aA 124), some (aI ((i : Nat) : Int)), some (aI (v)), some (aI ((c : Nat) : Int))]) (st' := []) rfl rfl rfl ?_
      refine E_s (p' := 37) (st' := aA 124 :: _) rfl rfl ?_
      refine E_gA (b := 159) rfl rfl rfl rfl rfl rfl ?_
      refine E_s (p' := 42) (st' := aI 60 :: _) rfl rfl ?_
      refine E_s (p' := 43) (st' := aI ((i : Nat) : Int) :: _) rfl rfl ?_
      refine E_mul (v := ((60 * i : Nat) : Int)) rfl (by omega) (by omega) ?_
      refine E_s (p' := 45) (st' := aI ((c : Nat) : Int) :: _) rfl rfl ?_
      refine E_add (v := ((60 * i + c : Nat) : Int)) rfl (by omega) (by omega) ?_
      refine E_s (p' := 47) (st' := aA 124 :: _) rfl rfl ?_
      refine E_gA (b := 155) rfl rfl rfl rfl rfl rfl ?_
      refine E_s (p' := 51) (st' := aI ((c : Nat) : Int) :: _) rfl rfl ?_
      refine E_ald (e := c) (N := 60) (v := ((m 155 c))) rfl rfl (rfl) (by omega) rfl ?_
      refine E_ast (e := 60 * i + c) (N := 240) rfl rfl (rfl) (by omega) ?_
      refine E_s (p' := 54) (st' := aA 124 :: _) rfl rfl ?_
      refine E_gA (b := 160) rfl rfl rfl rfl rfl rfl ?_
      refine E_s (p' := 59) (st' := aI 60 :: _) rfl rfl ?_
      refine E_s (p' := 60) (st' := aI ((i : Nat) : Int) :: _) rfl rfl ?_
      refine E_mul (v := ((60 * i : Nat) : Int)) rfl (by omega) (by omega) ?_
      refine E_s (p' := 62) (st' := aI ((c : Nat) : Int) :: _) rfl rfl ?_
      refine E_add (v := ((60 * i + c : Nat) : Int)) rfl (by omega) (by omega) ?_
      refine E_s (p' := 64) (st' := aA 124 :: _) rfl rfl ?_
      refine E_gA (b := 156) rfl rfl rfl rfl rfl rfl ?_
      refine E_s (p' := 68) (st' := aI ((c : Nat) : Int) :: _) rfl rfl ?_
      refine E_ald (e := c) (N := 60) (v := ((m 156 c))) rfl rfl (rfl) (by omega) (up2_ne (by omega)) ?_
      refine E_ast (e := 60 * i + c) (N := 240) rfl rfl (rfl) (by omega) ?_
      refine E_inc (x := ((c : Nat) : Int)) (w := ((c + 1 : Nat) : Int)) (L' := [some (aA 124), some (aI ((i : Nat) : Int)), some (aI (v)), some (aI ((c + 1 : Nat) : Int))]) rfl rfl rfl (by omega) (by omega) rfl ?_
      refine E_s (p' := 26) rfl rfl ?_
      exact ih (c + 1) _ (by omega) (by omega) (fun b z g1 => (up2_ne (by omega)).trans ((up2_ne (by omega)).trans (I0 b z g1)))
end
section
variable {len : Nat} {m : Mm} {Q : Option AV → Sx → Prop} {S : Nat → RD} {r : Int}
theorem M_settle (hS : MS S m) (q : ∀ m1, MS S m1 → Co1 m m1 → Q (some (aI (qy S r (-2) (aSettle)))) (m1, tl len)) : E 165 0 [some (aA 124), some (aI (r)), none, none] [] (m, tl len) Q := by
  refine E_s (p' := 1) (st' := aI (r) :: _) rfl rfl ?_
  refine E_callL (p' := 4) (L0 := [some (aI (r))]) rfl rfl rfl ?_
  refine m_isRecord (fun i hi hr => ?_) (fun hr => ?_)
  · refine E_go (p' := 4) (L' := [some (aA 124), some (aI (r)), none, none]) (st' := [aI 1]) rfl rfl rfl ?_
    obtain ⟨hV, hM⟩ := hS i hi
    have hn60 := hV.1
    have hs40 := hV.2.2.2.2.1
    subst hr
    refine E_s (p' := 10) rfl rfl ?_
    refine E_s (p' := 11) (st' := aA 124 :: _) rfl rfl ?_
    refine E_s (p' := 12) (st' := aI ((i : Nat) : Int) :: _) rfl rfl ?_
    refine E_callV (k' := 166) (a := 124) (r := []) (L0 := [some (aA 124), some (aI ((i : Nat) : Int)), none]) rfl rfl rfl rfl rfl rfl rfl rfl rfl rfl ?_
    refine m_own hi hM hV (fun m1 K1 K2 => ?_)
    refine E_go (p' := 15) (L' := [some (aA 124), some (aI ((i : Nat) : Int)), none, none]) (st' := []) rfl rfl rfl ?_
    have hM1 := K1.MR hM
    refine E_s (p' := 16) (st' := aA 124 :: _) rfl rfl ?_
    refine E_s (p' := 17) (st' := aI ((i : Nat) : Int) :: _) rfl rfl ?_
    refine E_s (p' := 18) (st' := aI (-1) :: _) rfl rfl ?_
    refine E_s (p' := 19) (st' := aI (-1) :: _) rfl rfl ?_
    refine E_s (p' := 20) (st' := aI (-1) :: _) rfl rfl ?_
    refine E_callV (k' := 167) (a := 124) (r := []) (L0 := [some (aA 124), some (aI ((i : Nat) : Int)), some (aI (-1)), some (aI (-1)), some (aI (-1)), none, none]) rfl rfl rfl rfl rfl rfl rfl rfl rfl rfl ?_
    refine m_rounds (x := -1) (y := -1) hi hM1 hV K2 (fun m2 F2 V2 => ?_)
    refine E_go (p' := 23) (L' := [some (aA 124), some (aI ((i : Nat) : Int)), none, none]) (st' := [aI ((aSettle (S i)))]) rfl rfl rfl ?_
    refine E_s (p' := 24) (L' := [some (aA 124), some (aI ((i : Nat) : Int)), some (aI ((aSettle (S i)))), none]) rfl rfl ?_
    refine E_s (p' := 25) (st' := aI 0 :: _) rfl rfl ?_
    refine E_s (p' := 26) (L' := [some (aA 124), some (aI ((i : Nat) : Int)), some (aI ((aSettle (S i)))), some (aI 0)]) rfl rfl ?_
    refine yl_ms hi (hM1.of (fun b j g1 g2 => F2 b j (by omega))) hV (fun m3 F3 => ?_) (Cn (S i) + 1) 0 m2 (by omega) (by omega) (fun b z _ => rfl)
    exact mq_in (hS.of (fun b j g1 g2 => (F3 b j (by omega) (by omega)).trans ((F2 b j (by omega)).trans (K1 b j (by omega) (by omega) (by omega))))) hi rfl q rfl (fun b j hb => (F3 b j (by omega) (by omega)).trans ((F2 b j (by omega)).trans (K1 b j (by omega) (by omega) (by omega))))
  · refine E_go (p' := 4) (L' := [some (aA 124), some (aI (r)), none, none]) (st' := [aI 0]) rfl rfl rfl ?_
    refine E_s (p' := 7) rfl rfl ?_
    refine E_s (p' := 9) (st' := aI (-2) :: _) rfl rfl ?_
    refine E_ret rfl rfl ?_
    exact mq_out hS q hr
end

/-- with CORDS x and y free the rounds are BROKEN -/
def bk (R : RD) (x y : Int) : Prop := (rnd R 200 0 (sL R x y) (sH R x y)).1 = -1
/-- what cure answers, and the CORDS that it names: the first ones that will do -/
def cuS (R : RD) (v x y : Int) : Prop := (v = 0 ∧ x = -1 ∧ y = -1 ∧ ¬ bk R (-1) (-1)) ∨ (v = 1 ∧ y = -1 ∧ bk R (-1) (-1) ∧ ∃ c : Nat, c < Cn R ∧ x = c ∧ ¬ bk R c (-1) ∧ ∀ d : Nat, d < c → bk R d (-1)) ∨ (v = 2 ∧ bk R (-1) (-1) ∧ (∀ d : Nat, d < Cn R → bk R d (-1)) ∧ ∃ c e : Nat, c < e ∧ e < Cn R ∧ x = c ∧ y = e ∧ ¬ bk R c e ∧ (∀ d f : Nat, d < c → d < f → f < Cn R → bk R d f) ∧ (∀ f : Nat, c < f → f < e → bk R c f))
def cuN (R : RD) : Prop := bk R (-1) (-1) ∧ (∀ d : Nat, d < Cn R → bk R d (-1)) ∧ ∀ d f : Nat, d < f → f < Cn R → bk R d f
/-- the script, the class and what the model's found keeps are as they were -/
def CoC (m m1 : Mm) : Prop := ∀ b j, (b < 124 ∨ (b = 124 ∧ j = 50) ∨ b = 165 ∨ b = 166) → m1 b j = m b j
section
variable {len : Nat} {m m0 : Mm} {Q : Option AV → Sx → Prop} {R : RD} {i : Nat}
theorem m_isCure {v x y : Int} (q : Q (some (aI v)) (up2 (up2 (up2 m 124 44 v) 161 0 x) 161 1 y, tl len)) : E 174 0 [some (aA 124), some (aI (v)), some (aI (x)), some (aI (y))] [] (m, tl len) Q := by
  refine E_s (p' := 1) (st' := aA 124 :: _) rfl rfl ?_
  refine E_s (p' := 2) (st' := aI (v) :: _) rfl rfl ?_
  refine E_pI rfl rfl rfl rfl (Or.inl rfl) ?_
  refine E_s (p' := 6) (st' := aA 124 :: _) rfl rfl ?_
  refine E_gA (b := 161) rfl rfl rfl rfl rfl rfl ?_
  refine E_s (p' := 10) (st' := aI 0 :: _) rfl rfl ?_
  refine E_s (p' := 11) (st' := aI (x) :: _) rfl rfl ?_
  refine E_ast (e := 0) (N := 2) rfl rfl (rfl) (by omega) ?_
  refine E_s (p' := 13) (st' := aA 124 :: _) rfl rfl ?_
  refine E_gA (b := 161) rfl rfl rfl rfl rfl rfl ?_
  refine E_s (p' := 17) (st' := aI 1 :: _) rfl rfl ?_
  refine E_s (p' := 18) (st' := aI (y) :: _) rfl rfl ?_
  refine E_ast (e := 1) (N := 2) rfl rfl (rfl) (by omega) ?_
  refine E_s (p' := 20) (st' := aI (v) :: _) rfl rfl ?_
  refine E_ret rfl rfl ?_
  exact q
theorem yl_cu3 (hi9 : i < 4) (hM : MR R i m0) (hV : VR R) (how : ∀ d, d < Cn R → m0 153 d = oL R d ∧ m0 154 d = oH R d) (hb0 : bk R (-1) (-1)) (hb1 : ∀ d : Nat, d < Cn R → bk R d (-1)) (q : ∀ (m1 : Mm) (v x y : Int), (∀ b z, ¬ (155 ≤ b ∧ b ≤ 158) → m1 b z = m0 b z) → cuS R v x y → Q (some (aI v)) (up2 (up2 (up2 m1 124 44 v) 161 0 x) 161 1 y, tl len)) (q0 : ∀ m1 : Mm, (∀ b z, ¬ (155 ≤ b ∧ b ≤ 158) → m1 b z = m0 b z) → cuN R → Q (some (aI (-1))) (m1, tl len)) {c : Nat} (hc : c < Cn R) (hb2 : ∀ d f : Nat, d < c → d < f → f < Cn R → bk R d f) (hk : ∀ m1 : Mm, (∀ b z, ¬ (155 ≤ b ∧ b ≤ 158) → m1 b z = m0 b z) → (∀ f : Nat, c < f → f < Cn R → bk R c f) → E 173 125 [some (aA 124), some (aI (i : Int)), some (aI (c : Int)), some (aI (Cn R : Int))] [] (m1, tl len) Q) : ∀ (d : Nat) (e : Nat) (m : Mm), (Cn R < e + d) → (c < e ∧ e ≤ Cn R) → (∀ b z, ¬ (155 ≤ b ∧ b ≤ 158) → m b z = m0 b z) → (∀ f : Nat, c < f → f < e → bk R c f) → E 173 89 [some (aA 124), some (aI ((i : Nat) : Int)), some (aI ((c : Nat) : Int)), some (aI ((e : Nat) : Int))] [] (m, tl len) Q := by
  intro d
  induction d with
  | zero => intro e m hd he I0 hb3; omega
  | succ d ih =>
    intro e m hd he I0 hb3
    have hn60 := hV.1
    have hMm : MR R i m := hM.of (fun b j g1 g2 => I0 b j (by omega))
    refine E_s (p' := 90) (st' := aI ((e : Nat) : Int) :: _) rfl rfl ?_
    refine E_s (p' := 91) (st' := aA 124 :: _) rfl rfl ?_
    refine E_gA (b := 125) rfl rfl rfl rfl rfl rfl ?_
    refine E_s (p' := 95) (st' := aI ((i : Nat) : Int) :: _) rfl rfl ?_
    refine E_ald (e := i) (N := 4) (v := ((Cn R : Nat) : Int)) rfl rfl (rfl) (by omega) (MR_125 hMm) ?_
    refine E_icmp_ge (x := ((e : Nat) : Int)) (y := ((Cn R : Nat) : Int)) rfl (by decide) (fun h_1 => ?_) (fun h_1 => ?_)
    · refine E_go (p' := 125) (L' := [some (aA 124), some (aI ((i : Nat) : Int)), some (aI ((c : Nat) : Int)), some (aI ((e : Nat) : Int))]) (st' := []) rfl rfl rfl ?_
      have e9 : e = Cn R := by omega
      subst e9
      exact hk m I0 hb3
    · refine E_go (p' := 99) (L' := [some (aA 124), some (aI ((i : Nat) : Int)), some (aI ((c : Nat) : Int)), some (aI ((e : Nat) : Int))]) (st' := []) rfl rfl rfl ?_
      refine E_s (p' := 100) (st' := aA 124 :: _) rfl rfl ?_
      refine E_s (p' := 101) (st' := aI ((i : Nat) : Int) :: _) rfl rfl ?_
      refine E_s (p' := 102) (st' := aI ((c : Nat) : Int) :: _) rfl rfl ?_
      refine E_s (p' := 103) (st' := aI ((e : Nat) : Int) :: _) rfl rfl ?_
      refine E_s (p' := 104) (st' := aI (-1) :: _) rfl rfl ?_
      refine E_callV (k' := 167) (a := 124) (r := []) (L0 := [some (aA 124), some (aI ((i : Nat) : Int)), some (aI ((c : Nat) : Int)), some (aI ((e : Nat) : Int)), some (aI (-1)), none, none]) rfl rfl rfl rfl rfl rfl rfl rfl rfl rfl ?_
      refine m_rounds (x := ((c : Nat) : Int)) (y := ((e : Nat) : Int)) hi9 hMm hV (fun d hd8 => ⟨(I0 _ _ (by omega)).trans (how d hd8).1, (I0 _ _ (by omega)).trans (how d hd8).2⟩) (fun m1 F1 V1 => ?_)
      refine E_go (p' := 107) (L' := [some (aA 124), some (aI ((i : Nat) : Int)), some (aI ((c : Nat) : Int)), some (aI ((e : Nat) : Int))]) (st' := [aI ((((rnd R 200 0 (sL R ((c : Nat) : Int) ((e : Nat) : Int)) (sH R ((c : Nat) : Int) ((e : Nat) : Int))).1)))]) rfl rfl rfl ?_
      refine E_s (p' := 108) (st' := aI (-1) :: _) rfl rfl ?_
      refine E_icmp_eq (x := ((((rnd R 200 0 (sL R ((c : Nat) : Int) ((e : Nat) : Int)) (sH R ((c : Nat) : Int) ((e : Nat) : Int))).1)))) (y := (-1)) rfl (by decide) (fun h_2 => ?_) (fun h_2 => ?_)
      · refine E_go (p' := 119) (L' := [some (aA 124), some (aI ((i : Nat) : Int)), some (aI ((c : Nat) : Int)), some (aI ((e : Nat) : Int))]) (st' := []) rfl rfl rfl ?_
        refine E_inc (x := ((e : Nat) : Int)) (w := ((e + 1 : Nat) : Int)) (L' := [some (aA 124), some (aI ((i : Nat) : Int)), some (aI ((c : Nat) : Int)), some (aI ((e + 1 : Nat) : Int))]) rfl rfl rfl (by omega) (by omega) rfl ?_
        refine E_s (p' := 89) rfl rfl ?_
        exact ih (e + 1) m1 (by omega) (by omega) (fun b z g1 => (F1 b z g1).trans (I0 b z g1)) (fun f h1 h2 => by by_cases g9 : f = e; subst g9; assumption; exact hb3 f h1 (by omega))
      · refine E_go (p' := 111) (L' := [some (aA 124), some (aI ((i : Nat) : Int)), some (aI ((c : Nat) : Int)), some (aI ((e : Nat) : Int))]) (st' := []) rfl rfl rfl ?_
        refine E_s (p' := 112) (st' := aA 124 :: _) rfl rfl ?_
        refine E_s (p' := 113) (st' := aI 2 :: _) rfl rfl ?_
        refine E_s (p' := 114) (st' := aI ((c : Nat) : Int) :: _) rfl rfl ?_
        refine E_s (p' := 115) (st' := aI ((e : Nat) : Int) :: _) rfl rfl ?_
        refine E_callV (k' := 174) (a := 124) (r := []) (L0 := [some (aA 124), some (aI 2), some (aI ((c : Nat) : Int)), some (aI ((e : Nat) : Int))]) rfl rfl rfl rfl rfl rfl rfl rfl rfl rfl ?_
        refine m_isCure (v := 2) (x := ((c : Nat) : Int)) (y := ((e : Nat) : Int)) ?_
        refine E_go (p' := 118) (L' := [some (aA 124), some (aI ((i : Nat) : Int)), some (aI ((c : Nat) : Int)), some (aI ((e : Nat) : Int))]) (st' := [aI 2]) rfl rfl rfl ?_
        refine E_ret rfl rfl ?_
        exact q m1 2 ((c : Nat) : Int) ((e : Nat) : Int) (fun b z g1 => (F1 b z g1).trans (I0 b z g1)) (Or.inr (Or.inr ⟨rfl, hb0, hb1, c, e, by omega, by omega, rfl, rfl, by assumption, fun d f h1 h2 h3 => hb2 d f h1 h2 h3, hb3⟩))
theorem yl_cu2 (hi9 : i < 4) (hM : MR R i m0) (hV : VR R) (how : ∀ d, d < Cn R → m0 153 d = oL R d ∧ m0 154 d = oH R d) (hb0 : bk R (-1) (-1)) (hb1 : ∀ d : Nat, d < Cn R → bk R d (-1)) (q : ∀ (m1 : Mm) (v x y : Int), (∀ b z, ¬ (155 ≤ b ∧ b ≤ 158) → m1 b z = m0 b z) → cuS R v x y → Q (some (aI v)) (up2 (up2 (up2 m1 124 44 v) 161 0 x) 161 1 y, tl len)) (q0 : ∀ m1 : Mm, (∀ b z, ¬ (155 ≤ b ∧ b ≤ 158) → m1 b z = m0 b z) → cuN R → Q (some (aI (-1))) (m1, tl len)) : ∀ (d : Nat) (c : Nat) (m : Mm) (x3 : Option AV), (Cn R < c + d) → (c ≤ Cn R) → (∀ b z, ¬ (155 ≤ b ∧ b ≤ 158) → m b z = m0 b z) → (∀ d f : Nat, d < c → d < f → f < Cn R → bk R d f) → E 173 75 [some (aA 124), some (aI ((i : Nat) : Int)), some (aI ((c : Nat) : Int)), x3] [] (m, tl len) Q := by
  intro d
  induction d with
  | zero => intro c m x3 hd hc I0 hb2; omega
  | succ d ih =>
    intro c m x3 hd hc I0 hb2
    have hn60 := hV.1
    have hMm : MR R i m := hM.of (fun b j g1 g2 => I0 b j (by omega))
    refine E_s (p' := 76) (st' := aI ((c : Nat) : Int) :: _) rfl rfl ?_
    refine E_s (p' := 77) (st' := aA 124 :: _) rfl rfl ?_
    refine E_gA (b := 125) rfl rfl rfl rfl rfl rfl ?_
    refine E_s (p' := 81) (st' := aI ((i : Nat) : Int) :: _) rfl rfl ?_
    refine E_ald (e := i) (N := 4) (v := ((Cn R : Nat) : Int)) rfl rfl (rfl) (by omega) (MR_125 hMm) ?_
    refine E_icmp_ge (x := ((c : Nat) : Int)) (y := ((Cn R : Nat) : Int)) rfl (by decide) (fun h_1 => ?_) (fun h_1 => ?_)
    · refine E_go (p' := 131) (L' := [some (aA 124), some (aI ((i : Nat) : Int)), some (aI ((c : Nat) : Int)), x3]) (st' := []) rfl rfl rfl ?_
      refine E_s (p' := 132) (st' := aI (-1) :: _) rfl rfl ?_
      refine E_ret rfl rfl ?_
      exact q0 m I0 ⟨hb0, hb1, fun d f h1 h2 => hb2 d f (by omega) h1 h2⟩
    · refine E_go (p' := 85) (L' := [some (aA 124), some (aI ((i : Nat) : Int)), some (aI ((c : Nat) : Int)), x3]) (st' := []) rfl rfl rfl ?_
      refine E_s (p' := 86) (st' := aI ((c : Nat) : Int) :: _) rfl rfl ?_
      refine E_s (p' := 87) (st' := aI 1 :: _) rfl rfl ?_
      refine E_add (v := ((c + 1 : Nat) : Int)) rfl (by omega) (by omega) ?_
      refine E_s (p' := 89) (L' := [some (aA 124), some (aI ((i : Nat) : Int)), some (aI ((c : Nat) : Int)), some (aI ((c + 1 : Nat) : Int))]) rfl rfl ?_
      refine yl_cu3 hi9 hM hV how hb0 hb1 q q0 (c := c) (by omega) hb2 (fun m1 F1 hb4 => ?_) (Cn R + 1) (c + 1) m (by omega) (by omega) I0 (fun f h1 h2 => absurd h1 (by omega))
      refine E_inc (x := ((c : Nat) : Int)) (w := ((c + 1 : Nat) : Int)) (L' := [some (aA 124), some (aI ((i : Nat) : Int)), some (aI ((c + 1 : Nat) : Int)), some (aI ((Cn R : Nat) : Int))]) rfl rfl rfl (by omega) (by omega) rfl ?_
      refine E_s (p' := 75) rfl rfl ?_
      exact ih (c + 1) m1 _ (by omega) (by omega) F1 (fun d f h1 h2 h3 => by by_cases g9 : d = c; subst g9; exact hb4 f h2 h3; exact hb2 d f (by omega) h2 h3)
theorem yl_cu1 (hi9 : i < 4) (hM : MR R i m0) (hV : VR R) (how : ∀ d, d < Cn R → m0 153 d = oL R d ∧ m0 154 d = oH R d) (hb0 : bk R (-1) (-1)) (q : ∀ (m1 : Mm) (v x y : Int), (∀ b z, ¬ (155 ≤ b ∧ b ≤ 158) → m1 b z = m0 b z) → cuS R v x y → Q (some (aI v)) (up2 (up2 (up2 m1 124 44 v) 161 0 x) 161 1 y, tl len)) (q0 : ∀ m1 : Mm, (∀ b z, ¬ (155 ≤ b ∧ b ≤ 158) → m1 b z = m0 b z) → cuN R → Q (some (aI (-1))) (m1, tl len)) : ∀ (d : Nat) (c : Nat) (m : Mm), (Cn R < c + d) → (c ≤ Cn R) → (∀ b z, ¬ (155 ≤ b ∧ b ≤ 158) → m b z = m0 b z) → (∀ d : Nat, d < c → bk R d (-1)) → E 173 37 [some (aA 124), some (aI ((i : Nat) : Int)), some (aI ((c : Nat) : Int)), none] [] (m, tl len) Q := by
  intro d
  induction d with
  | zero => intro c m hd hc I0 hb1; omega
  | succ d ih =>
    intro c m hd hc I0 hb1
    have hn60 := hV.1
    have hMm : MR R i m := hM.of (fun b j g1 g2 => I0 b j (by omega))
    refine E_s (p' := 38) (st' := aI ((c : Nat) : Int) :: _) rfl rfl ?_
    refine E_s (p' := 39) (st' := aA 124 :: _) rfl rfl ?_
    refine E_gA (b := 125) rfl rfl rfl rfl rfl rfl ?_
    refine E_s (p' := 43) (st' := aI ((i : Nat) : Int) :: _) rfl rfl ?_
    refine E_ald (e := i) (N := 4) (v := ((Cn R : Nat) : Int)) rfl rfl (rfl) (by omega) (MR_125 hMm) ?_
    refine E_icmp_ge (x := ((c : Nat) : Int)) (y := ((Cn R : Nat) : Int)) rfl (by decide) (fun h_1 => ?_) (fun h_1 => ?_)
    · refine E_go (p' := 73) (L' := [some (aA 124), some (aI ((i : Nat) : Int)), some (aI ((c : Nat) : Int)), none]) (st' := []) rfl rfl rfl ?_
      refine E_s (p' := 74) (st' := aI 0 :: _) rfl rfl ?_
      refine E_s (p' := 75) (L' := [some (aA 124), some (aI ((i : Nat) : Int)), some (aI 0), none]) rfl rfl ?_
      exact yl_cu2 hi9 hM hV how hb0 (fun d h1 => hb1 d (by omega)) q q0 (Cn R + 1) 0 m none (by omega) (by omega) I0 (fun d f h1 => absurd h1 (by omega))
    · refine E_go (p' := 47) (L' := [some (aA 124), some (aI ((i : Nat) : Int)), some (aI ((c : Nat) : Int)), none]) (st' := []) rfl rfl rfl ?_
      refine E_s (p' := 48) (st' := aA 124 :: _) rfl rfl ?_
      refine E_s (p' := 49) (st' := aI ((i : Nat) : Int) :: _) rfl rfl ?_
      refine E_s (p' := 50) (st' := aI ((c : Nat) : Int) :: _) rfl rfl ?_
      refine E_s (p' := 51) (st' := aI (-1) :: _) rfl rfl ?_
      refine E_s (p' := 52) (st' := aI (-1) :: _) rfl rfl ?_
      refine E_callV (k' := 167) (a := 124) (r := []) (L0 := [some (aA 124), some (aI ((i : Nat) : Int)), some (aI ((c : Nat) : Int)), some (aI (-1)), some (aI (-1)), none, none]) rfl rfl rfl rfl rfl rfl rfl rfl rfl rfl ?_
      refine m_rounds (x := ((c : Nat) : Int)) (y := (-1)) hi9 hMm hV (fun d hd8 => ⟨(I0 _ _ (by omega)).trans (how d hd8).1, (I0 _ _ (by omega)).trans (how d hd8).2⟩) (fun m1 F1 V1 => ?_)
      refine E_go (p' := 55) (L' := [some (aA 124), some (aI ((i : Nat) : Int)), some (aI ((c : Nat) : Int)), none]) (st' := [aI ((((rnd R 200 0 (sL R ((c : Nat) : Int) (-1)) (sH R ((c : Nat) : Int) (-1))).1)))]) rfl rfl rfl ?_
      refine E_s (p' := 56) (st' := aI (-1) :: _) rfl rfl ?_
      refine E_icmp_eq (x := ((((rnd R 200 0 (sL R ((c : Nat) : Int) (-1)) (sH R ((c : Nat) : Int) (-1))).1)))) (y := (-1)) rfl (by decide) (fun h_2 => ?_) (fun h_2 => ?_)
      · refine E_go (p' := 67) (L' := [some (aA 124), some (aI ((i : Nat) : Int)), some (aI ((c : Nat) : Int)), none]) (st' := []) rfl rfl rfl ?_
        refine E_inc (x := ((c : Nat) : Int)) (w := ((c + 1 : Nat) : Int)) (L' := [some (aA 124), some (aI ((i : Nat) : Int)), some (aI ((c + 1 : Nat) : Int)), none]) rfl rfl rfl (by omega) (by omega) rfl ?_
        refine E_s (p' := 37) rfl rfl ?_
        exact ih (c + 1) m1 (by omega) (by omega) (fun b z g1 => (F1 b z g1).trans (I0 b z g1)) (fun d h1 => by by_cases g9 : d = c; subst g9; assumption; exact hb1 d (by omega))
      · refine E_go (p' := 59) (L' := [some (aA 124), some (aI ((i : Nat) : Int)), some (aI ((c : Nat) : Int)), none]) (st' := []) rfl rfl rfl ?_
        refine E_s (p' := 60) (st' := aA 124 :: _) rfl rfl ?_
        refine E_s (p' := 61) (st' := aI 1 :: _) rfl rfl ?_
        refine E_s (p' := 62) (st' := aI ((c : Nat) : Int) :: _) rfl rfl ?_
        refine E_s (p' := 63) (st' := aI (-1) :: _) rfl rfl ?_
        refine E_callV (k' := 174) (a := 124) (r := []) (L0 := [some (aA 124), some (aI 1), some (aI ((c : Nat) : Int)), some (aI (-1))]) rfl rfl rfl rfl rfl rfl rfl rfl rfl rfl ?_
        refine m_isCure (v := 1) (x := ((c : Nat) : Int)) (y := (-1)) ?_
        refine E_go (p' := 66) (L' := [some (aA 124), some (aI ((i : Nat) : Int)), some (aI ((c : Nat) : Int)), none]) (st' := [aI 1]) rfl rfl rfl ?_
        refine E_ret rfl rfl ?_
        exact q m1 1 ((c : Nat) : Int) (-1) (fun b z g1 => (F1 b z g1).trans (I0 b z g1)) (Or.inr (Or.inl ⟨rfl, rfl, hb0, c, by omega, rfl, by assumption, hb1⟩))
end
section
variable {len : Nat} {m : Mm} {Q : Option AV → Sx → Prop} {S : Nat → RD} {r : Int}
theorem M_cure (hS : MS S m) (q : ∀ (i : Nat) (m1 : Mm) (v x y : Int), i < 4 → r = i → cuS (S i) v x y → m1 124 44 = v → m1 161 0 = x → m1 161 1 = y → MS S m1 → CoC m m1 → Q (some (aI v)) (m1, tl len)) (q0 : ∀ (i : Nat) (m1 : Mm), i < 4 → r = i → cuN (S i) → MS S m1 → Co1 m m1 → Q (some (aI (-1))) (m1, tl len)) (qr : (r < 0 ∨ 3 < r) → Q (some (aI (-2))) (m, tl len)) : E 173 0 [some (aA 124), some (aI (r)), none, none] [] (m, tl len) Q := by
  refine E_s (p' := 1) (st' := aI (r) :: _) rfl rfl ?_
  refine E_callL (p' := 4) (L0 := [some (aI (r))]) rfl rfl rfl ?_
  refine m_isRecord (fun i hi hr => ?_) (fun hr => ?_)
  · refine E_go (p' := 4) (L' := [some (aA 124), some (aI (r)), none, none]) (st' := [aI 1]) rfl rfl rfl ?_
    obtain ⟨hV, hM⟩ := hS i hi
    have hn60 := hV.1
    have hs40 := hV.2.2.2.2.1
    subst hr
    refine E_s (p' := 10) rfl rfl ?_
    refine E_s (p' := 11) (st' := aA 124 :: _) rfl rfl ?_
    refine E_s (p' := 12) (st' := aI ((i : Nat) : Int) :: _) rfl rfl ?_
    refine E_callV (k' := 166) (a := 124) (r := []) (L0 := [some (aA 124), some (aI ((i : Nat) : Int)), none]) rfl rfl rfl rfl rfl rfl rfl rfl rfl rfl ?_
    refine m_own hi hM hV (fun m1 K1 K2 => ?_)
    refine E_go (p' := 15) (L' := [some (aA 124), some (aI ((i : Nat) : Int)), none, none]) (st' := []) rfl rfl rfl ?_
    have hM1 := K1.MR hM
    refine E_s (p' := 16) (st' := aA 124 :: _) rfl rfl ?_
    refine E_s (p' := 17) (st' := aI ((i : Nat) : Int) :: _) rfl rfl ?_
    refine E_s (p' := 18) (st' := aI (-1) :: _) rfl rfl ?_
    refine E_s (p' := 19) (st' := aI (-1) :: _) rfl rfl ?_
    refine E_s (p' := 20) (st' := aI (-1) :: _) rfl rfl ?_
    refine E_callV (k' := 167) (a := 124) (r := []) (L0 := [some (aA 124), some (aI ((i : Nat) : Int)), some (aI (-1)), some (aI (-1)), some (aI (-1)), none, none]) rfl rfl rfl rfl rfl rfl rfl rfl rfl rfl ?_
    refine m_rounds (x := -1) (y := -1) hi hM1 hV K2 (fun m2 F2 V2 => ?_)
    refine E_go (p' := 23) (L' := [some (aA 124), some (aI ((i : Nat) : Int)), none, none]) (st' := [aI ((((rnd (S i) 200 0 (sL (S i) (-1) (-1)) (sH (S i) (-1) (-1))).1)))]) rfl rfl rfl ?_
    refine E_s (p' := 24) (st' := aI (-1) :: _) rfl rfl ?_
    refine E_icmp_eq (x := ((((rnd (S i) 200 0 (sL (S i) (-1) (-1)) (sH (S i) (-1) (-1))).1)))) (y := (-1)) rfl (by decide) (fun h_1 => ?_) (fun h_1 => ?_)
    · refine E_go (p' := 35) (L' := [some (aA 124), some (aI ((i : Nat) : Int)), none, none]) (st' := []) rfl rfl rfl ?_
      refine E_s (p' := 36) (st' := aI 0 :: _) rfl rfl ?_
      refine E_s (p' := 37) (L' := [some (aA 124), some (aI ((i : Nat) : Int)), some (aI 0), none]) rfl rfl ?_
      exact yl_cu1 hi hM1 hV K2 (by assumption) (fun m3 v x y F3 h3 => q i _ v x y hi rfl h3 ((up2_ne (by omega)).trans ((up2_ne (by omega)).trans up2_eq)) ((up2_sl (by omega)).trans up2_eq) up2_eq (hS.of (fun b j g1 g2 => (up2_ne (by omega)).trans ((up2_ne (by omega)).trans ((up2_ne (by omega)).trans ((F3 b j (by omega)).trans (K1 b j (by omega) (by omega) (by omega))))))) (fun b j hb => (up2_ne (by omega)).trans ((up2_ne (by omega)).trans ((up2_o (by omega)).trans ((F3 b j (by omega)).trans (K1 b j (by omega) (by omega) (by omega))))))) (fun m3 F3 h3 => q0 i m3 hi rfl h3 (hS.of (fun b j g1 g2 => (F3 b j (by omega)).trans (K1 b j (by omega) (by omega) (by omega)))) (fun b j hb => (F3 b j (by omega)).trans (K1 b j (by omega) (by omega) (by omega)))) (Cn (S i) + 1) 0 m2 (by omega) (by omega) F2 (fun d h1 => absurd h1 (by omega))
    · refine E_go (p' := 27) (L' := [some (aA 124), some (aI ((i : Nat) : Int)), none, none]) (st' := []) rfl rfl rfl ?_
      refine E_s (p' := 28) (st' := aA 124 :: _) rfl rfl ?_
      refine E_s (p' := 29) (st' := aI 0 :: _) rfl rfl ?_
      refine E_s (p' := 30) (st' := aI (-1) :: _) rfl rfl ?_
      refine E_s (p' := 31) (st' := aI (-1) :: _) rfl rfl ?_
      refine E_callV (k' := 174) (a := 124) (r := []) (L0 := [some (aA 124), some (aI 0), some (aI (-1)), some (aI (-1))]) rfl rfl rfl rfl rfl rfl rfl rfl rfl rfl ?_
      refine m_isCure (v := 0) (x := (-1)) (y := (-1)) ?_
      refine E_go (p' := 34) (L' := [some (aA 124), some (aI ((i : Nat) : Int)), none, none]) (st' := [aI 0]) rfl rfl rfl ?_
      refine E_ret rfl rfl ?_
      have hq9 := (show ∀ (m3 : Mm) (v x y : Int), (∀ b z, ¬ (155 ≤ b ∧ b ≤ 158) → m3 b z = m1 b z) → cuS (S i) v x y → Q (some (aI v)) (up2 (up2 (up2 m3 124 44 v) 161 0 x) 161 1 y, tl len) from fun m3 v x y F3 h3 => q i _ v x y hi rfl h3 ((up2_ne (by omega)).trans ((up2_ne (by omega)).trans up2_eq)) ((up2_sl (by omega)).trans up2_eq) up2_eq (hS.of (fun b j g1 g2 => (up2_ne (by omega)).trans ((up2_ne (by omega)).trans ((up2_ne (by omega)).trans ((F3 b j (by omega)).trans (K1 b j (by omega) (by omega) (by omega))))))) (fun b j hb => (up2_ne (by omega)).trans ((up2_ne (by omega)).trans ((up2_o (by omega)).trans ((F3 b j (by omega)).trans (K1 b j (by omega) (by omega) (by omega))))))) m2 0 (-1) (-1) F2 (Or.inl ⟨rfl, rfl, rfl, by assumption⟩)
      exact hq9
  · refine E_go (p' := 4) (L' := [some (aA 124), some (aI (r)), none, none]) (st' := [aI 0]) rfl rfl rfl ?_
    refine E_s (p' := 7) rfl rfl ?_
    refine E_s (p' := 9) (st' := aI (-2) :: _) rfl rfl ?_
    refine E_ret rfl rfl ?_
    exact qr hr
end

section
variable {len : Nat} {m m0 : Mm} {Q : Option AV → Sx → Prop} {R : RD} {a : Nat} {x y : Int}
theorem yl_rn2 (hR : isR a) (hC : CR R a m0) (hV : VR R) (hd : RdC R a m0) (q : ∀ (m1 : Mm) (v : Int) (dn : Nat), dn ≤ 200 → m1 3 4 = (dn : Int) → Fx 3 7 m0 m1 → Q (some (aI v)) (m1, tl len)) : ∀ (d : Nat) (e i : Nat) (lo hi : Nat → Int) (m : Mm), (e < d) → (i + e = 200) → (bnd (Cn R) lo hi) → (Fx 3 7 m0 m) → (∀ c, c < Cn R → m 4 c = lo c ∧ m 5 c = hi c) → (0 < i → m 3 4 = (i : Int)) → E 86 10 [some (aA 3), some (aA a), some (aI (x)), some (aI (y)), some (aI ((i + 1 : Nat) : Int))] [] (m, tl len) Q := by
  intro d
  induction d with
  | zero => intro e i lo hi m hd9 hie hb I1 I2 I3; omega
  | succ d ih =>
    intro e i lo hi m hd9 hie hb I1 I2 I3
    have hab := isR_b hR
    have hn60 := hV.1
    refine E_s (p' := 12) (st' := aI ((i + 1 : Nat) : Int) :: _) rfl rfl ?_
    refine E_s (p' := 15) (st' := aI 200 :: _) rfl rfl ?_
    refine E_icmp_gt (x := ((i + 1 : Nat) : Int)) (y := 200) rfl (by decide) (fun h_1 => ?_) (fun h_1 => ?_)
    · refine E_go (p' := 68) (L' := [some (aA 3), some (aA a), some (aI (x)), some (aI (y)), some (aI ((i + 1 : Nat) : Int))]) (st' := []) rfl rfl rfl ?_
      refine E_s (p' := 70) (st' := aI (-4) :: _) rfl rfl ?_
      refine E_ret rfl rfl ?_
      exact q m _ i (by omega) (I3 (by omega)) I1
    · refine E_go (p' := 18) (L' := [some (aA 3), some (aA a), some (aI (x)), some (aI (y)), some (aI ((i + 1 : Nat) : Int))]) (st' := []) rfl rfl rfl ?_
      refine E_s (p' := 19) (st' := aA 3 :: _) rfl rfl ?_
      refine E_s (p' := 21) (st' := aI ((i + 1 : Nat) : Int) :: _) rfl rfl ?_
      refine E_pI rfl rfl rfl rfl (Or.inl rfl) ?_
      refine E_s (p' := 25) (st' := aA 3 :: _) rfl rfl ?_
      refine E_s (p' := 26) (st' := aA a :: _) rfl rfl ?_
      refine E_callV (k' := 90) (a := 3) (r := []) (L0 := [some (aA 3), some (aA a), none, none]) rfl rfl rfl rfl rfl rfl rfl rfl rfl rfl ?_
      refine c_doRound hR (hC.of (fun b j g1 g2 _ => (up2_ne (by omega)).trans (I1 b j (by omega)))) hV hb (fun c hc => ⟨(up2_ne (by omega)).trans (I2 c hc).1, (up2_ne (by omega)).trans (I2 c hc).2⟩) (fun m1 F1 V1 => ?_)
      refine E_go (p' := 29) (L' := [some (aA 3), some (aA a), some (aI (x)), some (aI (y)), some (aI ((i + 1 : Nat) : Int))]) (st' := [aI (bi (rdC R lo hi (Cn R)))]) rfl rfl rfl ?_
      refine E_b_ne0 (b := (rdC R lo hi (Cn R))) rfl (by decide) (fun h_2 => ?_) (fun h_2 => ?_)
      · refine E_go (p' := 37) (L' := [some (aA 3), some (aA a), some (aI (x)), some (aI (y)), some (aI ((i + 1 : Nat) : Int))]) (st' := []) rfl rfl rfl ?_
        refine E_s (p' := 38) (st' := aA 3 :: _) rfl rfl ?_
        refine E_s (p' := 39) (st' := aA 3 :: _) rfl rfl ?_
        refine E_s (p' := 40) (st' := aA a :: _) rfl rfl ?_
        refine E_gA (b := a + 1) rfl rfl rfl (kR_0 hR) (hR_0_0 hR) rfl ?_
        refine E_gI (v := ((Cn R : Nat) : Int)) rfl rfl rfl (kR_1 hR) (hC.of (fun b j g1 g2 _ => (F1 b j (by omega)).trans ((up2_ne (by omega)).trans (I1 b j (by omega))))).1 ?_
        refine E_callV (k' := 93) (a := 3) (r := [aA 3]) (L0 := [some (aA 3), some (aI ((Cn R : Nat) : Int)), none]) rfl rfl rfl rfl rfl rfl rfl rfl rfl rfl ?_
        refine c_firstNone hn60 V1 (fun cb hc1 hc2 hc3 => ?_) (fun hno => ?_)
        · refine E_go (p' := 49) (L' := [some (aA 3), some (aA a), some (aI (x)), some (aI (y)), some (aI ((i + 1 : Nat) : Int))]) (st' := [aI ((cb : Nat) : Int), aA 3]) rfl rfl rfl ?_
          refine E_pI rfl rfl rfl rfl (Or.inl rfl) ?_
          refine E_s (p' := 53) (st' := aA 3 :: _) rfl rfl ?_
          refine E_gI (v := ((cb : Nat) : Int)) rfl rfl rfl rfl up2_eq ?_
          refine E_s (p' := 57) (st' := aI (-1) :: _) rfl rfl ?_
          refine E_icmp_eq (x := ((cb : Nat) : Int)) (y := (-1)) rfl (by decide) (fun q => absurd q (by omega)) (fun h_3 => ?_)
          refine E_go (p' := 60) (L' := [some (aA 3), some (aA a), some (aI (x)), some (aI (y)), some (aI ((i + 1 : Nat) : Int))]) (st' := []) rfl rfl rfl ?_
          refine E_s (p' := 61) (st' := aI (-1) :: _) rfl rfl ?_
          refine E_ret rfl rfl ?_
          exact q _ _ (i + 1) (by omega) ((up2_sl (by decide)).trans ((F1 _ _ (by omega)).trans up2_eq)) ((I1.up (by omega) (by omega)).tr (F1.wide (by omega) (by omega)) |>.up (by omega) (by omega))
        · refine E_go (p' := 49) (L' := [some (aA 3), some (aA a), some (aI (x)), some (aI (y)), some (aI ((i + 1 : Nat) : Int))]) (st' := [aI (-1), aA 3]) rfl rfl rfl ?_
          refine E_pI rfl rfl rfl rfl (Or.inl rfl) ?_
          refine E_s (p' := 53) (st' := aA 3 :: _) rfl rfl ?_
          refine E_gI (v := (-1)) rfl rfl rfl rfl up2_eq ?_
          refine E_s (p' := 57) (st' := aI (-1) :: _) rfl rfl ?_
          refine E_s (p' := 62) rfl rfl ?_
          refine E_inc (x := ((i + 1 : Nat) : Int)) (w := ((i + 2 : Nat) : Int)) (L' := [some (aA 3), some (aA a), some (aI (x)), some (aI (y)), some (aI ((i + 2 : Nat) : Int))]) rfl rfl rfl (by omega) (by omega) rfl ?_
          refine E_s (p' := 10) rfl rfl ?_
          obtain ⟨e1, ee⟩ : ∃ z, e = z + 1 := ⟨e - 1, by omega⟩
          refine ih e1 (i + 1) (rdS R lo hi (Sn R)).1 (rdS R lo hi (Sn R)).2 _ (by omega) (by omega) (fun c hc => ?_) ((I1.up (by omega) (by omega)).tr (F1.wide (by omega) (by omega)) |>.up (by omega) (by omega)) (fun c hc => ⟨(up2_ne (by omega)).trans (V1 c hc).1, (up2_ne (by omega)).trans (V1 c hc).2⟩) (fun _ => (up2_sl (by decide)).trans ((F1 _ _ (by omega)).trans up2_eq))
          have h1 := rdS_m (R := R) (lo := lo) (hi := hi) (Sn R) c
          have h2 := hb c hc
          have h3 := hno c hc
          omega
      · refine E_go (p' := 32) (L' := [some (aA 3), some (aA a), some (aI (x)), some (aI (y)), some (aI ((i + 1 : Nat) : Int))]) (st' := []) rfl rfl rfl ?_
        refine E_s (p' := 34) (st' := aI ((i + 1 : Nat) : Int) :: _) rfl rfl ?_
        refine E_s (p' := 35) (st' := aI 1 :: _) rfl rfl ?_
        refine E_sub (v := ((i : Nat) : Int)) rfl (by omega) (by omega) ?_
        refine E_ret rfl rfl ?_
        exact q m1 _ (i + 1) (by omega) ((F1 _ _ (by omega)).trans up2_eq) ((I1.up (by omega) (by omega)).tr (F1.wide (by omega) (by omega)))
theorem c_run2 (hR : isR a) (hC : CR R a m0) (hV : VR R) (hd : RdC R a m0) (q : ∀ (m1 : Mm) (v : Int) (dn : Nat), dn ≤ 200 → m1 3 4 = (dn : Int) → Fx 3 7 m0 m1 → Q (some (aI v)) (m1, tl len)) : E 86 0 [some (aA 3), some (aA a), some (aI (x)), some (aI (y)), none] [] (m0, tl len) Q := by
  have hab := isR_b hR
  refine E_s (p' := 1) (st' := aA 3 :: _) rfl rfl ?_
  refine E_s (p' := 2) (st' := aA a :: _) rfl rfl ?_
  refine E_s (p' := 3) (st' := aI (x) :: _) rfl rfl ?_
  refine E_s (p' := 4) (st' := aI (y) :: _) rfl rfl ?_
  refine E_callV (k' := 87) (a := 3) (r := []) (L0 := [some (aA 3), some (aA a), some (aI (x)), some (aI (y)), none, none, none]) rfl rfl rfl rfl rfl rfl rfl rfl rfl rfl ?_
  refine c_takeOwn hR hC hV hd (fun m1 F1 V1 => ?_)
  refine E_go (p' := 7) (L' := [some (aA 3), some (aA a), some (aI (x)), some (aI (y)), none]) (st' := []) rfl rfl rfl ?_
  refine E_s (p' := 8) (st' := aI 1 :: _) rfl rfl ?_
  refine E_s (p' := 10) (L' := [some (aA 3), some (aA a), some (aI (x)), some (aI (y)), some (aI 1)]) rfl rfl ?_
  exact yl_rn2 hR (hC.of (fun b j g1 g2 _ => F1 b j (by omega))) hV (hd.of (fun b j g1 g2 => F1 b j (by omega))) (fun m2 v dn h1 h2 F2 => q m2 v dn h1 h2 ((F1.wide (by omega) (by omega)).tr F2)) 201 200 0 (sL R x y) (sH R x y) m1 (by omega) (by omega) (own_b hV x y) Fx.rf V1 (fun h9 => absurd h9 (by omega))
theorem yl_ab (hR : isR a) (hC : CR R a m) (hV : VR R) {s : Nat} (hs : s < Sn R) (q : ∀ w : Int, Q (some (aJ w)) (m, tl len)) : ∀ (d : Nat) (k : Nat) (w : Int), (Sp R s < k + d) → (k ≤ Sp R s) → E 101 12 [some (aA (a + 9)), some (aI ((s : Nat) : Int)), some (aJ w), none, some (aI ((k : Nat) : Int))] [] (m, tl len) Q := by
  intro d
  induction d with
  | zero => intro k w hd hk; omega
  | succ d ih =>
    intro k w hd hk
    have hab := isR_b hR
    have hs40 := hV.2.2.2.2.1
    have hp12 := (hV.2.2.2.2.2.1 s hs).2
    refine E_s (p' := 14) (st' := aI ((k : Nat) : Int) :: _) rfl rfl ?_
    refine E_s (p' := 15) (st' := aA (a + 9) :: _) rfl rfl ?_
    refine E_gA (b := a + 11) rfl rfl rfl (kR_9 hR) (hR_9_1 hR) rfl ?_
    refine E_s (p' := 19) (st' := aI ((s : Nat) : Int) :: _) rfl rfl ?_
    refine E_ald (e := s) (N := 40) (v := ((Sp R s : Nat) : Int)) rfl (kR_11 hR) (rfl) (by omega) (CR_11 hC (by omega)) ?_
    refine E_icmp_ge (x := ((k : Nat) : Int)) (y := ((Sp R s : Nat) : Int)) rfl (by decide) (fun h_1 => ?_) (fun h_1 => ?_)
    · refine E_go (p' := 41) (L' := [some (aA (a + 9)), some (aI ((s : Nat) : Int)), some (aJ w), none, some (aI ((k : Nat) : Int))]) (st' := []) rfl rfl rfl ?_
      refine E_s (p' := 42) (st' := aJ w :: _) rfl rfl ?_
      refine E_ret rfl rfl ?_
      exact q _
    · refine E_go (p' := 23) (L' := [some (aA (a + 9)), some (aI ((s : Nat) : Int)), some (aJ w), none, some (aI ((k : Nat) : Int))]) (st' := []) rfl rfl rfl ?_
      refine E_s (p' := 24) (st' := aJ w :: _) rfl rfl ?_
      refine E_s (p' := 25) rfl rfl ?_
      refine E_s (p' := 26) (st' := aA (a + 9) :: _) rfl rfl ?_
      refine E_s (p' := 27) (st' := aI ((s : Nat) : Int) :: _) rfl rfl ?_
      refine E_s (p' := 29) (st' := aI ((k : Nat) : Int) :: _) rfl rfl ?_
      refine E_callV (k' := 79) (a := a + 9) (r := [aJ 1, aJ w]) (L0 := [some (aA (a + 9)), some (aI ((s : Nat) : Int)), some (aI ((k : Nat) : Int))]) rfl rfl rfl rfl rfl (kR_9 hR) rfl rfl rfl rfl ?_
      refine c_partOf hR hC hV (s := s) (p := k) (by omega) (by omega) ?_
      refine E_go (p' := 32) (L' := [some (aA (a + 9)), some (aI ((s : Nat) : Int)), some (aJ w), none, some (aI ((k : Nat) : Int))]) (st' := [aI ((Sq R s k : Nat) : Int), aJ 1, aJ w]) rfl rfl rfl ?_
      refine E_s (p' := 33) rfl rfl ?_
      refine E_s (p' := 34) rfl rfl ?_
      refine E_s (p' := 35) (L' := [some (aA (a + 9)), some (aI ((s : Nat) : Int)), some (aJ (b64 (fun a b => a ||| b) w (s64 (fun a b => a <<< b) 1 ((Sq R s k : Nat) : Int)))), none, some (aI ((k : Nat) : Int))]) rfl rfl ?_
      refine E_inc (x := ((k : Nat) : Int)) (w := ((k + 1 : Nat) : Int)) (L' := [some (aA (a + 9)), some (aI ((s : Nat) : Int)), some (aJ (b64 (fun a b => a ||| b) w (s64 (fun a b => a <<< b) 1 ((Sq R s k : Nat) : Int)))), none, some (aI ((k + 1 : Nat) : Int))]) rfl rfl rfl (by omega) (by omega) rfl ?_
      refine E_s (p' := 12) rfl rfl ?_
      exact ih (k + 1) _ (by omega) (by omega)
theorem c_asBits (hR : isR a) (hC : CR R a m) (hV : VR R) {s : Nat} (hs : s < Sn R) (q : ∀ w : Int, Q (some (aJ w)) (m, tl len)) : E 101 0 [some (aA (a + 9)), some (aI ((s : Nat) : Int)), none, none, none] [] (m, tl len) Q := by
  have hab := isR_b hR
  have hs40 := hV.2.2.2.2.1
  have hp12 := (hV.2.2.2.2.2.1 s hs).2
  refine E_s (p' := 1) rfl rfl ?_
  refine E_s (p' := 2) (st' := aA (a + 9) :: _) rfl rfl ?_
  refine E_gA (b := a + 10) rfl rfl rfl (kR_9 hR) (hR_9_0 hR) rfl ?_
  refine E_s (p' := 6) (st' := aI ((s : Nat) : Int) :: _) rfl rfl ?_
  refine E_ald (e := s) (N := 40) (v := ((Sw R s : Nat) : Int)) rfl (kR_10 hR) (rfl) (by omega) (CR_10 hC (by omega)) ?_
  refine E_s (p' := 8) rfl rfl ?_
  refine E_s (p' := 9) (L' := [some (aA (a + 9)), some (aI ((s : Nat) : Int)), some (aJ (s64 (fun a b => a <<< b) 1 ((Sw R s : Nat) : Int))), none, none]) rfl rfl ?_
  refine E_s (p' := 10) (st' := aI 0 :: _) rfl rfl ?_
  refine E_s (p' := 12) (L' := [some (aA (a + 9)), some (aI ((s : Nat) : Int)), some (aJ (s64 (fun a b => a <<< b) 1 ((Sw R s : Nat) : Int))), none, some (aI 0)]) rfl rfl ?_
  exact yl_ab hR hC hV hs q (Sp R s + 1) 0 _ (by omega) (by omega)
theorem yl_wd (hR : isR a) (hC : CR R a m) (hV : VR R) {u : Int} (q : ∀ w : Int, Q (some (aJ w)) (m, tl len)) : ∀ (d : Nat) (s : Nat) (w : Int) (x6 x7 : Option AV), (Sn R < s + d) → (s ≤ Sn R) → E 100 5 [some (aA (a + 9)), some (aJ u), none, some (aJ w), none, some (aI ((s : Nat) : Int)), x6, x7] [] (m, tl len) Q := by
  intro d
  induction d with
  | zero => intro s w x6 x7 hd hs; omega
  | succ d ih =>
    intro s w x6 x7 hd hs
    have hab := isR_b hR
    have hs40 := hV.2.2.2.2.1
    refine E_s (p' := 7) (st' := aI ((s : Nat) : Int) :: _) rfl rfl ?_
    refine E_s (p' := 8) (st' := aA (a + 9) :: _) rfl rfl ?_
    refine E_gI (v := ((Sn R : Nat) : Int)) rfl rfl rfl (kR_9 hR) (CRS hC) ?_
    refine E_icmp_ge (x := ((s : Nat) : Int)) (y := ((Sn R : Nat) : Int)) rfl (by decide) (fun h_1 => ?_) (fun h_1 => ?_)
    · refine E_go (p' := 51) (L' := [some (aA (a + 9)), some (aJ u), none, some (aJ w), none, some (aI ((s : Nat) : Int)), x6, x7]) (st' := []) rfl rfl rfl ?_
      refine E_s (p' := 52) (st' := aJ w :: _) rfl rfl ?_
      refine E_ret rfl rfl ?_
      exact q _
    · refine E_go (p' := 14) (L' := [some (aA (a + 9)), some (aJ u), none, some (aJ w), none, some (aI ((s : Nat) : Int)), x6, x7]) (st' := []) rfl rfl rfl ?_
      refine E_s (p' := 15) (st' := aA (a + 9) :: _) rfl rfl ?_
      refine E_s (p' := 17) (st' := aI ((s : Nat) : Int) :: _) rfl rfl ?_
      refine E_callV (k' := 101) (a := a + 9) (r := []) (L0 := [some (aA (a + 9)), some (aI ((s : Nat) : Int)), none, none, none]) rfl rfl rfl rfl rfl (kR_9 hR) rfl rfl rfl rfl ?_
      refine c_asBits hR hC hV (s := s) (by omega) (fun bw => ?_)
      refine E_go (p' := 20) (L' := [some (aA (a + 9)), some (aJ u), none, some (aJ w), none, some (aI ((s : Nat) : Int)), x6, x7]) (st' := [aJ bw]) rfl rfl rfl ?_
      refine E_s (p' := 22) (L' := [some (aA (a + 9)), some (aJ u), none, some (aJ w), none, some (aI ((s : Nat) : Int)), some (aJ bw), none]) rfl rfl ?_
      refine E_s (p' := 23) (st' := aA (a + 9) :: _) rfl rfl ?_
      refine E_s (p' := 25) (st' := aI ((s : Nat) : Int) :: _) rfl rfl ?_
      refine E_callV (k' := 84) (a := a + 9) (r := []) (L0 := [some (aA (a + 9)), some (aI ((s : Nat) : Int))]) rfl rfl rfl rfl rfl (kR_9 hR) rfl rfl rfl rfl ?_
      refine c_counts hR hC hV (s := s) (by omega) (fun h2 => ?_) (fun h2 => ?_)
      · refine E_go (p' := 28) (L' := [some (aA (a + 9)), some (aJ u), none, some (aJ w), none, some (aI ((s : Nat) : Int)), some (aJ bw), none]) (st' := [aI 1]) rfl rfl rfl ?_
        refine E_s (p' := 31) rfl rfl ?_
        refine E_s (p' := 33) (st' := aJ bw :: _) rfl rfl ?_
        refine E_s (p' := 34) (st' := aJ u :: _) rfl rfl ?_
        refine E_s (p' := 35) rfl rfl ?_
        refine E_s (p' := 36) rfl rfl ?_
        refine E_s (p' := 37) rfl rfl ?_
        refine E_go (p' := 37) (L' := [some (aA (a + 9)), some (aJ u), none, some (aJ w), none, some (aI ((s : Nat) : Int)), some (aJ bw), none]) (st' := [aI (((if 0 < (b64 (fun a b => a &&& b) bw u) then 1 else if (b64 (fun a b => a &&& b) bw u) = 0 then 0 else -1)))]) rfl rfl rfl ?_
        refine E_if_eq (x := (((if 0 < (b64 (fun a b => a &&& b) bw u) then 1 else if (b64 (fun a b => a &&& b) bw u) = 0 then 0 else -1)))) rfl (by decide) (fun h_2 => ?_) (fun h_2 => ?_)
        · refine E_go (p' := 45) (L' := [some (aA (a + 9)), some (aJ u), none, some (aJ w), none, some (aI ((s : Nat) : Int)), some (aJ bw), none]) (st' := []) rfl rfl rfl ?_
          refine E_inc (x := ((s : Nat) : Int)) (w := ((s + 1 : Nat) : Int)) (L' := [some (aA (a + 9)), some (aJ u), none, some (aJ w), none, some (aI ((s + 1 : Nat) : Int)), some (aJ bw), none]) rfl rfl rfl (by omega) (by omega) rfl ?_
          refine E_s (p' := 5) rfl rfl ?_
          exact ih (s + 1) _ _ _ (by omega) (by omega)
        · refine E_go (p' := 40) (L' := [some (aA (a + 9)), some (aJ u), none, some (aJ w), none, some (aI ((s : Nat) : Int)), some (aJ bw), none]) (st' := []) rfl rfl rfl ?_
          refine E_s (p' := 41) (st' := aJ w :: _) rfl rfl ?_
          refine E_s (p' := 43) (st' := aJ bw :: _) rfl rfl ?_
          refine E_s (p' := 44) rfl rfl ?_
          refine E_s (p' := 45) (L' := [some (aA (a + 9)), some (aJ u), none, some (aJ (b64 (fun a b => a ||| b) w bw)), none, some (aI ((s : Nat) : Int)), some (aJ bw), none]) rfl rfl ?_
          refine E_inc (x := ((s : Nat) : Int)) (w := ((s + 1 : Nat) : Int)) (L' := [some (aA (a + 9)), some (aJ u), none, some (aJ (b64 (fun a b => a ||| b) w bw)), none, some (aI ((s + 1 : Nat) : Int)), some (aJ bw), none]) rfl rfl rfl (by omega) (by omega) rfl ?_
          refine E_s (p' := 5) rfl rfl ?_
          exact ih (s + 1) _ _ _ (by omega) (by omega)
      · refine E_go (p' := 28) (L' := [some (aA (a + 9)), some (aJ u), none, some (aJ w), none, some (aI ((s : Nat) : Int)), some (aJ bw), none]) (st' := [aI 0]) rfl rfl rfl ?_
        refine E_s (p' := 45) rfl rfl ?_
        refine E_inc (x := ((s : Nat) : Int)) (w := ((s + 1 : Nat) : Int)) (L' := [some (aA (a + 9)), some (aJ u), none, some (aJ w), none, some (aI ((s + 1 : Nat) : Int)), some (aJ bw), none]) rfl rfl rfl (by omega) (by omega) rfl ?_
        refine E_s (p' := 5) rfl rfl ?_
        exact ih (s + 1) _ _ _ (by omega) (by omega)
theorem c_widen (hR : isR a) (hC : CR R a m) (hV : VR R) {u : Int} (q : ∀ w : Int, Q (some (aJ w)) (m, tl len)) : E 100 0 [some (aA (a + 9)), some (aJ u), none, none, none, none, none, none] [] (m, tl len) Q := by
  refine E_s (p' := 1) (st' := aJ u :: _) rfl rfl ?_
  refine E_s (p' := 2) (L' := [some (aA (a + 9)), some (aJ u), none, some (aJ u), none, none, none, none]) rfl rfl ?_
  refine E_s (p' := 3) (st' := aI 0 :: _) rfl rfl ?_
  refine E_s (p' := 5) (L' := [some (aA (a + 9)), some (aJ u), none, some (aJ u), none, some (aI 0), none, none]) rfl rfl ?_
  exact yl_wd hR hC hV q (Sn R + 1) 0 _ _ _ (by omega) (by omega)
theorem c_isIn {u c : Int} (q1 : Q (some (aI 1)) (m, tl len)) (q0 : Q (some (aI 0)) (m, tl len)) : E 102 0 [some (aJ u), none, some (aI (c))] [] (m, tl len) Q := by
  refine E_s (p' := 1) (st' := aJ u :: _) rfl rfl ?_
  refine E_s (p' := 2) (st' := aI (c) :: _) rfl rfl ?_
  refine E_s (p' := 3) rfl rfl ?_
  refine E_s (p' := 4) rfl rfl ?_
  refine E_s (p' := 5) rfl rfl ?_
  refine E_s (p' := 6) rfl rfl ?_
  refine E_s (p' := 7) rfl rfl ?_
  refine E_go (p' := 7) (L' := [some (aJ u), none, some (aI (c))]) (st' := [aI (((if 0 < (b64 (fun a b => a &&& b) (s64 (fun a b => a >>> b) u (c)) 1) then 1 else if (b64 (fun a b => a &&& b) (s64 (fun a b => a >>> b) u (c)) 1) = 0 then 0 else -1)))]) rfl rfl rfl ?_
  refine E_if_eq (x := (((if 0 < (b64 (fun a b => a &&& b) (s64 (fun a b => a >>> b) u (c)) 1) then 1 else if (b64 (fun a b => a &&& b) (s64 (fun a b => a >>> b) u (c)) 1) = 0 then 0 else -1)))) rfl (by decide) (fun h_1 => ?_) (fun h_1 => ?_)
  · refine E_go (p' := 14) (L' := [some (aJ u), none, some (aI (c))]) (st' := []) rfl rfl rfl ?_
    refine E_s (p' := 15) (st' := aI 0 :: _) rfl rfl ?_
    refine E_ret rfl rfl ?_
    exact q0
  · refine E_go (p' := 10) (L' := [some (aJ u), none, some (aI (c))]) (st' := []) rfl rfl rfl ?_
    refine E_s (p' := 11) (st' := aI 1 :: _) rfl rfl ?_
    refine E_s (p' := 15) rfl rfl ?_
    refine E_ret rfl rfl ?_
    exact q1
theorem yl_rb (hR : isR a) (hC : CR R a m) (hV : VR R) {dn : Nat} (hdn : dn ≤ 200) (h34 : m 3 4 = (dn : Int)) (q : ∀ w : Int, Q (some (aJ w)) (m, tl len)) : ∀ (d : Nat) (k : Nat) (w : Int) (x5 x6 : Option AV), (dn < k + d) → (k ≤ dn) → E 99 22 [some (aA a), some (aA 3), some (aJ w), none, some (aI ((k : Nat) : Int)), x5, x6] [] (m, tl len) Q := by
  intro d
  induction d with
  | zero => intro k w x5 x6 hd hk; omega
  | succ d ih =>
    intro k w x5 x6 hd hk
    refine E_s (p' := 24) (st' := aI ((k : Nat) : Int) :: _) rfl rfl ?_
    refine E_s (p' := 25) (st' := aA 3 :: _) rfl rfl ?_
    refine E_gI (v := ((dn : Nat) : Int)) rfl rfl rfl rfl h34 ?_
    refine E_icmp_ge (x := ((k : Nat) : Int)) (y := ((dn : Nat) : Int)) rfl (by decide) (fun h_1 => ?_) (fun h_1 => ?_)
    · refine E_go (p' := 59) (L' := [some (aA a), some (aA 3), some (aJ w), none, some (aI ((k : Nat) : Int)), x5, x6]) (st' := []) rfl rfl rfl ?_
      refine E_s (p' := 60) (st' := aJ w :: _) rfl rfl ?_
      refine E_ret rfl rfl ?_
      exact q _
    · refine E_go (p' := 31) (L' := [some (aA a), some (aA 3), some (aJ w), none, some (aI ((k : Nat) : Int)), x5, x6]) (st' := []) rfl rfl rfl ?_
      refine E_s (p' := 32) (st' := aA a :: _) rfl rfl ?_
      refine E_gA (b := a + 9) rfl rfl rfl (kR_0 hR) (hR_0_1 hR) rfl ?_
      refine E_s (p' := 36) (st' := aJ w :: _) rfl rfl ?_
      refine E_callL (p' := 39) (L0 := [some (aA (a + 9)), some (aJ w), none, none, none, none, none, none]) rfl rfl rfl ?_
      refine c_widen hR hC hV (fun ww => ?_)
      refine E_go (p' := 39) (L' := [some (aA a), some (aA 3), some (aJ w), none, some (aI ((k : Nat) : Int)), x5, x6]) (st' := [aJ ww]) rfl rfl rfl ?_
      refine E_s (p' := 41) (L' := [some (aA a), some (aA 3), some (aJ w), none, some (aI ((k : Nat) : Int)), some (aJ ww), none]) rfl rfl ?_
      refine E_s (p' := 43) (st' := aJ ww :: _) rfl rfl ?_
      refine E_s (p' := 44) (st' := aJ w :: _) rfl rfl ?_
      refine E_s (p' := 45) rfl rfl ?_
      refine E_go (p' := 45) (L' := [some (aA a), some (aA 3), some (aJ w), none, some (aI ((k : Nat) : Int)), some (aJ ww), none]) (st' := [aI (((if w < ww then 1 else if ww = w then 0 else -1)))]) rfl rfl rfl ?_
      refine E_if_ne (x := (((if w < ww then 1 else if ww = w then 0 else -1)))) rfl (by decide) (fun h_2 => ?_) (fun h_2 => ?_)
      · refine E_go (p' := 50) (L' := [some (aA a), some (aA 3), some (aJ w), none, some (aI ((k : Nat) : Int)), some (aJ ww), none]) (st' := []) rfl rfl rfl ?_
        refine E_s (p' := 52) (st' := aJ ww :: _) rfl rfl ?_
        refine E_s (p' := 53) (L' := [some (aA a), some (aA 3), some (aJ ww), none, some (aI ((k : Nat) : Int)), some (aJ ww), none]) rfl rfl ?_
        refine E_inc (x := ((k : Nat) : Int)) (w := ((k + 1 : Nat) : Int)) (L' := [some (aA a), some (aA 3), some (aJ ww), none, some (aI ((k + 1 : Nat) : Int)), some (aJ ww), none]) rfl rfl rfl (by omega) (by omega) rfl ?_
        refine E_s (p' := 22) rfl rfl ?_
        exact ih (k + 1) _ _ _ (by omega) (by omega)
      · refine E_go (p' := 48) (L' := [some (aA a), some (aA 3), some (aJ w), none, some (aI ((k : Nat) : Int)), some (aJ ww), none]) (st' := []) rfl rfl rfl ?_
        refine E_s (p' := 49) (st' := aJ w :: _) rfl rfl ?_
        refine E_ret rfl rfl ?_
        exact q _
theorem c_reach (hR : isR a) (hC : CR R a m) (hV : VR R) {dn : Nat} (hdn : dn ≤ 200) (h34 : m 3 4 = (dn : Int)) (q : ∀ w : Int, Q (some (aJ w)) (m, tl len)) : E 99 0 [some (aA a), some (aA 3), none, none, none, none, none] [] (m, tl len) Q := by
  refine E_s (p' := 1) (st' := aA 3 :: _) rfl rfl ?_
  refine E_gI (v := ((m 3 5))) rfl rfl rfl rfl rfl ?_
  refine E_s (p' := 5) (st' := aI (-1) :: _) rfl rfl ?_
  refine E_icmp_ne (x := ((m 3 5))) (y := (-1)) rfl (by decide) (fun h_1 => ?_) (fun h_1 => ?_)
  · refine E_go (p' := 12) (L' := [some (aA a), some (aA 3), none, none, none, none, none]) (st' := []) rfl rfl rfl ?_
    refine E_s (p' := 13) rfl rfl ?_
    refine E_s (p' := 14) (st' := aA 3 :: _) rfl rfl ?_
    refine E_gI (v := ((m 3 5))) rfl rfl rfl rfl rfl ?_
    refine E_s (p' := 18) rfl rfl ?_
    refine E_s (p' := 19) (L' := [some (aA a), some (aA 3), some (aJ (s64 (fun a b => a <<< b) 1 ((m 3 5)))), none, none, none, none]) rfl rfl ?_
    refine E_s (p' := 20) (st' := aI 0 :: _) rfl rfl ?_
    refine E_s (p' := 22) (L' := [some (aA a), some (aA 3), some (aJ (s64 (fun a b => a <<< b) 1 ((m 3 5)))), none, some (aI 0), none, none]) rfl rfl ?_
    exact yl_rb hR hC hV hdn h34 q (dn + 1) 0 _ _ _ (by omega) (by omega)
  · refine E_go (p' := 8) (L' := [some (aA a), some (aA 3), none, none, none, none, none]) (st' := []) rfl rfl rfl ?_
    refine E_s (p' := 9) rfl rfl ?_
    refine E_s (p' := 18) rfl rfl ?_
    refine E_s (p' := 19) (L' := [some (aA a), some (aA 3), some (aJ 0), none, none, none, none]) rfl rfl ?_
    refine E_s (p' := 20) (st' := aI 0 :: _) rfl rfl ?_
    refine E_s (p' := 22) (L' := [some (aA a), some (aA 3), some (aJ 0), none, some (aI 0), none, none]) rfl rfl ?_
    exact yl_rb hR hC hV hdn h34 q (dn + 1) 0 _ _ _ (by omega) (by omega)
end

section
variable {len : Nat} {m m0 : Mm} {Q : Option AV → Sx → Prop} {R : RD} {S : Nat → RD} {a : Nat} {x y u r : Int}
theorem c_keep (q : ∀ m1 : Mm, Fx 8 8 m m1 → Q (some (aI x)) (m1, tl len)) : E 98 0 [some (aA 8), some (aI (x)), some (aI (y)), some (aI (u))] [] (m, tl len) Q := by
  refine E_s (p' := 1) (st' := aA 8 :: _) rfl rfl ?_
  refine E_s (p' := 2) (st' := aI (x) :: _) rfl rfl ?_
  refine E_pI rfl rfl rfl rfl (Or.inl rfl) ?_
  refine E_s (p' := 6) (st' := aA 8 :: _) rfl rfl ?_
  refine E_s (p' := 7) (st' := aI (y) :: _) rfl rfl ?_
  refine E_pI rfl rfl rfl rfl (Or.inl rfl) ?_
  refine E_s (p' := 11) (st' := aA 8 :: _) rfl rfl ?_
  refine E_s (p' := 12) (st' := aI (u) :: _) rfl rfl ?_
  refine E_pI rfl rfl rfl rfl (Or.inl rfl) ?_
  refine E_s (p' := 16) (st' := aI (x) :: _) rfl rfl ?_
  refine E_ret rfl rfl ?_
  exact q _ (((Fx.rf.up (by omega) (by omega)).up (by omega) (by omega)).up (by omega) (by omega))
theorem yl_sp2 (hR : isR a) (hC : CR R a m0) (hV : VR R) (hd : RdC R a m0) {i : Nat} (hi : i < Cn R) (q : ∀ (m1 : Mm) (v : Int), Fx 3 9 m0 m1 → Q (some (aI v)) (m1, tl len)) (hk : ∀ (m : Mm) (j : Nat) (x5 : Option AV), Fx 3 9 m0 m → E 103 97 [some (aA 8), some (aA a), some (aA 3), some (aI ((i : Nat) : Int)), some (aI ((j : Nat) : Int)), x5] [] (m, tl len) Q) : ∀ (d : Nat) (j : Nat) (m : Mm) (x5 : Option AV), (Cn R < j + d) → (j ≤ Cn R) → (Fx 3 9 m0 m) → E 103 18 [some (aA 8), some (aA a), some (aA 3), some (aI ((i : Nat) : Int)), some (aI ((j : Nat) : Int)), x5] [] (m, tl len) Q := by
  intro d
  induction d with
  | zero => intro j m x5 hd9 hj I1; omega
  | succ d ih =>
    intro j m x5 hd9 hj I1
    have hab := isR_b hR
    have hn60 := hV.1
    have hCm : CR R a m := hC.of (fun b j g1 g2 _ => I1 b j (by omega))
    refine E_s (p' := 20) (st' := aI ((j : Nat) : Int) :: _) rfl rfl ?_
    refine E_s (p' := 21) (st' := aA a :: _) rfl rfl ?_
    refine E_gA (b := a + 1) rfl rfl rfl (kR_0 hR) (hR_0_0 hR) rfl ?_
    refine E_gI (v := ((Cn R : Nat) : Int)) rfl rfl rfl (kR_1 hR) hCm.1 ?_
    refine E_icmp_ge (x := ((j : Nat) : Int)) (y := ((Cn R : Nat) : Int)) rfl (by decide) (fun h_1 => ?_) (fun h_1 => ?_)
    · refine E_go (p' := 97) (L' := [some (aA 8), some (aA a), some (aA 3), some (aI ((i : Nat) : Int)), some (aI ((j : Nat) : Int)), x5]) (st' := []) rfl rfl rfl ?_
      exact hk m j _ I1
    · refine E_go (p' := 30) (L' := [some (aA 8), some (aA a), some (aA 3), some (aI ((i : Nat) : Int)), some (aI ((j : Nat) : Int)), x5]) (st' := []) rfl rfl rfl ?_
      refine E_s (p' := 31) (st' := aA 8 :: _) rfl rfl ?_
      refine E_gA (b := 9) rfl rfl rfl rfl hm_8_0 rfl ?_
      refine E_s (p' := 35) (st' := aI ((i : Nat) : Int) :: _) rfl rfl ?_
      refine E_jld (e := i) (N := 60) (v := ((m 9 i))) rfl rfl (rfl) (by omega) rfl ?_
      refine E_s (p' := 38) (st' := aI ((j : Nat) : Int) :: _) rfl rfl ?_
      refine E_callL (p' := 41) (L0 := [some (aJ ((m 9 i))), none, some (aI ((j : Nat) : Int))]) rfl rfl rfl ?_
      refine c_isIn ?_ ?_
      · refine E_go (p' := 41) (L' := [some (aA 8), some (aA a), some (aA 3), some (aI ((i : Nat) : Int)), some (aI ((j : Nat) : Int)), x5]) (st' := [aI 1]) rfl rfl rfl ?_
        refine E_s (p' := 44) rfl rfl ?_
        refine E_s (p' := 45) (st' := aA 8 :: _) rfl rfl ?_
        refine E_gA (b := 9) rfl rfl rfl rfl hm_8_0 rfl ?_
        refine E_s (p' := 50) (st' := aI ((j : Nat) : Int) :: _) rfl rfl ?_
        refine E_jld (e := j) (N := 60) (v := ((m 9 j))) rfl rfl (rfl) (by omega) rfl ?_
        refine E_s (p' := 52) (st' := aI ((i : Nat) : Int) :: _) rfl rfl ?_
        refine E_callL (p' := 55) (L0 := [some (aJ ((m 9 j))), none, some (aI ((i : Nat) : Int))]) rfl rfl rfl ?_
        refine c_isIn ?_ ?_
        · refine E_go (p' := 55) (L' := [some (aA 8), some (aA a), some (aA 3), some (aI ((i : Nat) : Int)), some (aI ((j : Nat) : Int)), x5]) (st' := [aI 1]) rfl rfl rfl ?_
          refine E_s (p' := 58) rfl rfl ?_
          refine E_s (p' := 59) (st' := aI 1 :: _) rfl rfl ?_
          refine E_s (p' := 63) rfl rfl ?_
          refine E_s (p' := 65) (L' := [some (aA 8), some (aA a), some (aA 3), some (aI ((i : Nat) : Int)), some (aI ((j : Nat) : Int)), some (aI 1)]) rfl rfl ?_
          refine E_s (p' := 67) (st' := aI 1 :: _) rfl rfl ?_
          refine E_s (p' := 70) rfl rfl ?_
          refine E_s (p' := 71) (st' := aA 3 :: _) rfl rfl ?_
          refine E_s (p' := 72) (st' := aA a :: _) rfl rfl ?_
          refine E_s (p' := 73) (st' := aI ((i : Nat) : Int) :: _) rfl rfl ?_
          refine E_s (p' := 75) (st' := aI ((j : Nat) : Int) :: _) rfl rfl ?_
          refine E_callV (k' := 86) (a := 3) (r := []) (L0 := [some (aA 3), some (aA a), some (aI ((i : Nat) : Int)), some (aI ((j : Nat) : Int)), none]) rfl rfl rfl rfl rfl rfl rfl rfl rfl rfl ?_
          refine c_run2 hR (hC.of (fun b j g1 g2 _ => I1 b j (by omega))) hV (hd.of (fun b j g1 g2 => I1 b j (by omega))) (fun m1 v1 dn hdn h34 F1 => ?_)
          refine E_go (p' := 78) (L' := [some (aA 8), some (aA a), some (aA 3), some (aI ((i : Nat) : Int)), some (aI ((j : Nat) : Int)), some (aI 1)]) (st' := [aI (v1)]) rfl rfl rfl ?_
          refine E_s (p' := 79) (st' := aI (-1) :: _) rfl rfl ?_
          refine E_icmp_eq (x := (v1)) (y := (-1)) rfl (by decide) (fun h_2 => ?_) (fun h_2 => ?_)
          · refine E_go (p' := 91) (L' := [some (aA 8), some (aA a), some (aA 3), some (aI ((i : Nat) : Int)), some (aI ((j : Nat) : Int)), some (aI 1)]) (st' := []) rfl rfl rfl ?_
            refine E_inc (x := ((j : Nat) : Int)) (w := ((j + 1 : Nat) : Int)) (L' := [some (aA 8), some (aA a), some (aA 3), some (aI ((i : Nat) : Int)), some (aI ((j + 1 : Nat) : Int)), some (aI 1)]) rfl rfl rfl (by omega) (by omega) rfl ?_
            refine E_s (p' := 18) rfl rfl ?_
            exact ih (j + 1) m1 _ (by omega) (by omega) (I1.tr (F1.wide (by omega) (by omega)))
          · refine E_go (p' := 82) (L' := [some (aA 8), some (aA a), some (aA 3), some (aI ((i : Nat) : Int)), some (aI ((j : Nat) : Int)), some (aI 1)]) (st' := []) rfl rfl rfl ?_
            refine E_s (p' := 83) (st' := aA 8 :: _) rfl rfl ?_
            refine E_s (p' := 84) (st' := aI 2 :: _) rfl rfl ?_
            refine E_s (p' := 85) (st' := aI ((i : Nat) : Int) :: _) rfl rfl ?_
            refine E_s (p' := 87) (st' := aI ((j : Nat) : Int) :: _) rfl rfl ?_
            refine E_callV (k' := 98) (a := 8) (r := []) (L0 := [some (aA 8), some (aI 2), some (aI ((i : Nat) : Int)), some (aI ((j : Nat) : Int))]) rfl rfl rfl rfl rfl rfl rfl rfl rfl rfl ?_
            refine c_keep (fun m2 F2 => ?_)
            refine E_go (p' := 90) (L' := [some (aA 8), some (aA a), some (aA 3), some (aI ((i : Nat) : Int)), some (aI ((j : Nat) : Int)), some (aI 1)]) (st' := [aI 2]) rfl rfl rfl ?_
            refine E_ret rfl rfl ?_
            exact q _ _ ((I1.tr (F1.wide (by omega) (by omega))).tr (F2.wide (by omega) (by omega)))
        · refine E_go (p' := 55) (L' := [some (aA 8), some (aA a), some (aA 3), some (aI ((i : Nat) : Int)), some (aI ((j : Nat) : Int)), x5]) (st' := [aI 0]) rfl rfl rfl ?_
          refine E_s (p' := 62) rfl rfl ?_
          refine E_s (p' := 63) (st' := aI 0 :: _) rfl rfl ?_
          refine E_s (p' := 65) (L' := [some (aA 8), some (aA a), some (aA 3), some (aI ((i : Nat) : Int)), some (aI ((j : Nat) : Int)), some (aI 0)]) rfl rfl ?_
          refine E_s (p' := 67) (st' := aI 0 :: _) rfl rfl ?_
          refine E_s (p' := 91) rfl rfl ?_
          refine E_inc (x := ((j : Nat) : Int)) (w := ((j + 1 : Nat) : Int)) (L' := [some (aA 8), some (aA a), some (aA 3), some (aI ((i : Nat) : Int)), some (aI ((j + 1 : Nat) : Int)), some (aI 0)]) rfl rfl rfl (by omega) (by omega) rfl ?_
          refine E_s (p' := 18) rfl rfl ?_
          exact ih (j + 1) m _ (by omega) (by omega) I1
      · refine E_go (p' := 41) (L' := [some (aA 8), some (aA a), some (aA 3), some (aI ((i : Nat) : Int)), some (aI ((j : Nat) : Int)), x5]) (st' := [aI 0]) rfl rfl rfl ?_
        refine E_s (p' := 62) rfl rfl ?_
        refine E_s (p' := 63) (st' := aI 0 :: _) rfl rfl ?_
        refine E_s (p' := 65) (L' := [some (aA 8), some (aA a), some (aA 3), some (aI ((i : Nat) : Int)), some (aI ((j : Nat) : Int)), some (aI 0)]) rfl rfl ?_
        refine E_s (p' := 67) (st' := aI 0 :: _) rfl rfl ?_
        refine E_s (p' := 91) rfl rfl ?_
        refine E_inc (x := ((j : Nat) : Int)) (w := ((j + 1 : Nat) : Int)) (L' := [some (aA 8), some (aA a), some (aA 3), some (aI ((i : Nat) : Int)), some (aI ((j + 1 : Nat) : Int)), some (aI 0)]) rfl rfl rfl (by omega) (by omega) rfl ?_
        refine E_s (p' := 18) rfl rfl ?_
        exact ih (j + 1) m _ (by omega) (by omega) I1
theorem yl_sp1 (hR : isR a) (hC : CR R a m0) (hV : VR R) (hd : RdC R a m0) (q : ∀ (m1 : Mm) (v : Int), Fx 3 9 m0 m1 → Q (some (aI v)) (m1, tl len)) : ∀ (d : Nat) (i : Nat) (m : Mm) (x4 x5 : Option AV), (Cn R < i + d) → (i ≤ Cn R) → (Fx 3 9 m0 m) → E 103 2 [some (aA 8), some (aA a), some (aA 3), some (aI ((i : Nat) : Int)), x4, x5] [] (m, tl len) Q := by
  intro d
  induction d with
  | zero => intro i m x4 x5 hd9 hi I1; omega
  | succ d ih =>
    intro i m x4 x5 hd9 hi I1
    have hab := isR_b hR
    have hn60 := hV.1
    have hCm : CR R a m := hC.of (fun b j g1 g2 _ => I1 b j (by omega))
    refine E_s (p' := 3) (st' := aI ((i : Nat) : Int) :: _) rfl rfl ?_
    refine E_s (p' := 4) (st' := aA a :: _) rfl rfl ?_
    refine E_gA (b := a + 1) rfl rfl rfl (kR_0 hR) (hR_0_0 hR) rfl ?_
    refine E_gI (v := ((Cn R : Nat) : Int)) rfl rfl rfl (kR_1 hR) hCm.1 ?_
    refine E_icmp_ge (x := ((i : Nat) : Int)) (y := ((Cn R : Nat) : Int)) rfl (by decide) (fun h_1 => ?_) (fun h_1 => ?_)
    · refine E_go (p' := 103) (L' := [some (aA 8), some (aA a), some (aA 3), some (aI ((i : Nat) : Int)), x4, x5]) (st' := []) rfl rfl rfl ?_
      refine E_s (p' := 104) (st' := aI (-1) :: _) rfl rfl ?_
      refine E_ret rfl rfl ?_
      exact q _ _ I1
    · refine E_go (p' := 13) (L' := [some (aA 8), some (aA a), some (aA 3), some (aI ((i : Nat) : Int)), x4, x5]) (st' := []) rfl rfl rfl ?_
      refine E_s (p' := 14) (st' := aI ((i : Nat) : Int) :: _) rfl rfl ?_
      refine E_s (p' := 15) (st' := aI 1 :: _) rfl rfl ?_
      refine E_add (v := ((i + 1 : Nat) : Int)) rfl (by omega) (by omega) ?_
      refine E_s (p' := 18) (L' := [some (aA 8), some (aA a), some (aA 3), some (aI ((i : Nat) : Int)), some (aI ((i + 1 : Nat) : Int)), x5]) rfl rfl ?_
      refine yl_sp2 hR hC hV hd (i := i) (by omega) q (fun m3 j3 y5 I3 => ?_) (Cn R + 1) (i + 1) m _ (by omega) (by omega) I1
      refine E_inc (x := ((i : Nat) : Int)) (w := ((i + 1 : Nat) : Int)) (L' := [some (aA 8), some (aA a), some (aA 3), some (aI ((i + 1 : Nat) : Int)), some (aI ((j3 : Nat) : Int)), y5]) rfl rfl rfl (by omega) (by omega) rfl ?_
      refine E_s (p' := 2) rfl rfl ?_
      exact ih (i + 1) m3 _ _ (by omega) (by omega) I3
theorem c_seekPair (hR : isR a) (hC : CR R a m0) (hV : VR R) (hd : RdC R a m0) (q : ∀ (m1 : Mm) (v : Int), Fx 3 9 m0 m1 → Q (some (aI v)) (m1, tl len)) : E 103 0 [some (aA 8), some (aA a), some (aA 3), none, none, none] [] (m0, tl len) Q := by
  refine E_s (p' := 1) (st' := aI 0 :: _) rfl rfl ?_
  refine E_s (p' := 2) (L' := [some (aA 8), some (aA a), some (aA 3), some (aI 0), none, none]) rfl rfl ?_
  exact yl_sp1 hR hC hV hd q (Cn R + 1) 0 m0 _ _ (by omega) (by omega) Fx.rf
theorem yl_sk (hR : isR a) (hC : CR R a m0) (hV : VR R) (hd : RdC R a m0) {w : Int} (q : ∀ (m1 : Mm) (v : Int), Fx 3 9 m0 m1 → Q (some (aI v)) (m1, tl len)) : ∀ (d : Nat) (c : Nat) (m : Mm), (Cn R < c + d) → (c ≤ Cn R) → (Fx 3 9 m0 m) → E 97 28 [some (aA 8), some (aA a), some (aA 3), some (aJ w), none, some (aI ((c : Nat) : Int))] [] (m, tl len) Q := by
  intro d
  induction d with
  | zero => intro c m hd9 hc I1; omega
  | succ d ih =>
    intro c m hd9 hc I1
    have hab := isR_b hR
    have hn60 := hV.1
    have hCm : CR R a m := hC.of (fun b j g1 g2 _ => I1 b j (by omega))
    refine E_s (p' := 30) (st' := aI ((c : Nat) : Int) :: _) rfl rfl ?_
    refine E_s (p' := 31) (st' := aA a :: _) rfl rfl ?_
    refine E_gA (b := a + 1) rfl rfl rfl (kR_0 hR) (hR_0_0 hR) rfl ?_
    refine E_gI (v := ((Cn R : Nat) : Int)) rfl rfl rfl (kR_1 hR) hCm.1 ?_
    refine E_icmp_ge (x := ((c : Nat) : Int)) (y := ((Cn R : Nat) : Int)) rfl (by decide) (fun h_1 => ?_) (fun h_1 => ?_)
    · refine E_go (p' := 99) (L' := [some (aA 8), some (aA a), some (aA 3), some (aJ w), none, some (aI ((c : Nat) : Int))]) (st' := []) rfl rfl rfl ?_
      refine E_s (p' := 100) (st' := aA 8 :: _) rfl rfl ?_
      refine E_s (p' := 101) (st' := aA a :: _) rfl rfl ?_
      refine E_s (p' := 102) (st' := aA 3 :: _) rfl rfl ?_
      refine E_callV (k' := 103) (a := 8) (r := []) (L0 := [some (aA 8), some (aA a), some (aA 3), none, none, none]) rfl rfl rfl rfl rfl rfl rfl rfl rfl rfl ?_
      refine c_seekPair hR hCm hV (hd.of (fun b j g1 g2 => I1 b j (by omega))) (fun m3 v3 F3 => ?_)
      refine E_go (p' := 105) (L' := [some (aA 8), some (aA a), some (aA 3), some (aJ w), none, some (aI ((c : Nat) : Int))]) (st' := [aI (v3)]) rfl rfl rfl ?_
      refine E_ret rfl rfl ?_
      exact q _ _ (I1.tr F3)
    · refine E_go (p' := 40) (L' := [some (aA 8), some (aA a), some (aA 3), some (aJ w), none, some (aI ((c : Nat) : Int))]) (st' := []) rfl rfl rfl ?_
      refine E_s (p' := 41) (st' := aA 8 :: _) rfl rfl ?_
      refine E_gA (b := 9) rfl rfl rfl rfl hm_8_0 rfl ?_
      refine E_s (p' := 46) (st' := aI ((c : Nat) : Int) :: _) rfl rfl ?_
      refine E_s (p' := 47) (st' := aJ w :: _) rfl rfl ?_
      refine E_jst (e := c) (N := 60) rfl rfl (rfl) (by omega) ?_
      refine E_s (p' := 49) (st' := aJ w :: _) rfl rfl ?_
      refine E_s (p' := 51) (st' := aI ((c : Nat) : Int) :: _) rfl rfl ?_
      refine E_callL (p' := 54) (L0 := [some (aJ w), none, some (aI ((c : Nat) : Int))]) rfl rfl rfl ?_
      refine c_isIn ?_ ?_
      · refine E_go (p' := 54) (L' := [some (aA 8), some (aA a), some (aA 3), some (aJ w), none, some (aI ((c : Nat) : Int))]) (st' := [aI 1]) rfl rfl rfl ?_
        refine E_s (p' := 60) rfl rfl ?_
        refine E_s (p' := 61) (st' := aA 3 :: _) rfl rfl ?_
        refine E_s (p' := 62) (st' := aA a :: _) rfl rfl ?_
        refine E_s (p' := 64) (st' := aI ((c : Nat) : Int) :: _) rfl rfl ?_
        refine E_s (p' := 65) (st' := aI (-1) :: _) rfl rfl ?_
        refine E_callV (k' := 86) (a := 3) (r := []) (L0 := [some (aA 3), some (aA a), some (aI ((c : Nat) : Int)), some (aI (-1)), none]) rfl rfl rfl rfl rfl rfl rfl rfl rfl rfl ?_
        refine c_run2 hR (hC.of (fun b j g1 g2 _ => (up2_ne (by omega)).trans (I1 b j (by omega)))) hV (hd.of (fun b j g1 g2 => (up2_ne (by omega)).trans (I1 b j (by omega)))) (fun m1 v1 dn hdn h34 F1 => ?_)
        refine E_go (p' := 68) (L' := [some (aA 8), some (aA a), some (aA 3), some (aJ w), none, some (aI ((c : Nat) : Int))]) (st' := [aI (v1)]) rfl rfl rfl ?_
        refine E_s (p' := 69) (st' := aI (-1) :: _) rfl rfl ?_
        refine E_icmp_eq (x := (v1)) (y := (-1)) rfl (by decide) (fun h_2 => ?_) (fun h_2 => ?_)
        · refine E_go (p' := 81) (L' := [some (aA 8), some (aA a), some (aA 3), some (aJ w), none, some (aI ((c : Nat) : Int))]) (st' := []) rfl rfl rfl ?_
          refine E_s (p' := 82) (st' := aA 8 :: _) rfl rfl ?_
          refine E_gA (b := 9) rfl rfl rfl rfl hm_8_0 rfl ?_
          refine E_s (p' := 87) (st' := aI ((c : Nat) : Int) :: _) rfl rfl ?_
          refine E_s (p' := 88) (st' := aA a :: _) rfl rfl ?_
          refine E_s (p' := 89) (st' := aA 3 :: _) rfl rfl ?_
          refine E_callL (p' := 92) (L0 := [some (aA a), some (aA 3), none, none, none, none, none]) rfl rfl rfl ?_
          refine c_reach hR (hC.of (fun b j g1 g2 _ => (F1 b j (by omega)).trans ((up2_ne (by omega)).trans (I1 b j (by omega))))) hV hdn h34 (fun w2 => ?_)
          refine E_go (p' := 92) (L' := [some (aA 8), some (aA a), some (aA 3), some (aJ w), none, some (aI ((c : Nat) : Int))]) (st' := [aJ w2, aI ((c : Nat) : Int), aA 9]) rfl rfl rfl ?_
          refine E_jst (e := c) (N := 60) rfl rfl (rfl) (by omega) ?_
          refine E_inc (x := ((c : Nat) : Int)) (w := ((c + 1 : Nat) : Int)) (L' := [some (aA 8), some (aA a), some (aA 3), some (aJ w), none, some (aI ((c + 1 : Nat) : Int))]) rfl rfl rfl (by omega) (by omega) rfl ?_
          refine E_s (p' := 28) rfl rfl ?_
          exact ih (c + 1) _ (by omega) (by omega) (((I1.up (by omega) (by omega)).tr (F1.wide (by omega) (by omega))).up (by omega) (by omega))
        · refine E_go (p' := 72) (L' := [some (aA 8), some (aA a), some (aA 3), some (aJ w), none, some (aI ((c : Nat) : Int))]) (st' := []) rfl rfl rfl ?_
          refine E_s (p' := 73) (st' := aA 8 :: _) rfl rfl ?_
          refine E_s (p' := 74) (st' := aI 1 :: _) rfl rfl ?_
          refine E_s (p' := 76) (st' := aI ((c : Nat) : Int) :: _) rfl rfl ?_
          refine E_s (p' := 77) (st' := aI (-1) :: _) rfl rfl ?_
          refine E_callV (k' := 98) (a := 8) (r := []) (L0 := [some (aA 8), some (aI 1), some (aI ((c : Nat) : Int)), some (aI (-1))]) rfl rfl rfl rfl rfl rfl rfl rfl rfl rfl ?_
          refine c_keep (fun m2 F2 => ?_)
          refine E_go (p' := 80) (L' := [some (aA 8), some (aA a), some (aA 3), some (aJ w), none, some (aI ((c : Nat) : Int))]) (st' := [aI 1]) rfl rfl rfl ?_
          refine E_ret rfl rfl ?_
          exact q _ _ (((I1.up (by omega) (by omega)).tr (F1.wide (by omega) (by omega))).tr (F2.wide (by omega) (by omega)))
      · refine E_go (p' := 54) (L' := [some (aA 8), some (aA a), some (aA 3), some (aJ w), none, some (aI ((c : Nat) : Int))]) (st' := [aI 0]) rfl rfl rfl ?_
        refine E_s (p' := 57) rfl rfl ?_
        refine E_s (p' := 93) rfl rfl ?_
        refine E_inc (x := ((c : Nat) : Int)) (w := ((c + 1 : Nat) : Int)) (L' := [some (aA 8), some (aA a), some (aA 3), some (aJ w), none, some (aI ((c + 1 : Nat) : Int))]) rfl rfl rfl (by omega) (by omega) rfl ?_
        refine E_s (p' := 28) rfl rfl ?_
        exact ih (c + 1) _ (by omega) (by omega) (I1.up (by omega) (by omega))
theorem c_seek (hR : isR a) (hC : CR R a m0) (hV : VR R) (hd : RdC R a m0) (q : ∀ (m1 : Mm) (v : Int), Fx 3 9 m0 m1 → Q (some (aI v)) (m1, tl len)) : E 97 0 [some (aA 8), some (aA a), some (aA 3), none, none, none] [] (m0, tl len) Q := by
  have hab := isR_b hR
  refine E_s (p' := 1) (st' := aA 3 :: _) rfl rfl ?_
  refine E_s (p' := 2) (st' := aA a :: _) rfl rfl ?_
  refine E_s (p' := 3) (st' := aI (-1) :: _) rfl rfl ?_
  refine E_s (p' := 4) (st' := aI (-1) :: _) rfl rfl ?_
  refine E_callV (k' := 86) (a := 3) (r := []) (L0 := [some (aA 3), some (aA a), some (aI (-1)), some (aI (-1)), none]) rfl rfl rfl rfl rfl rfl rfl rfl rfl rfl ?_
  refine c_run2 hR hC hV hd (fun m1 v1 dn hdn h34 F1 => ?_)
  refine E_go (p' := 7) (L' := [some (aA 8), some (aA a), some (aA 3), none, none, none]) (st' := [aI (v1)]) rfl rfl rfl ?_
  refine E_s (p' := 8) (st' := aI (-1) :: _) rfl rfl ?_
  refine E_icmp_eq (x := (v1)) (y := (-1)) rfl (by decide) (fun h_1 => ?_) (fun h_1 => ?_)
  · refine E_go (p' := 19) (L' := [some (aA 8), some (aA a), some (aA 3), none, none, none]) (st' := []) rfl rfl rfl ?_
    refine E_s (p' := 20) (st' := aA a :: _) rfl rfl ?_
    refine E_s (p' := 21) (st' := aA 3 :: _) rfl rfl ?_
    refine E_callL (p' := 24) (L0 := [some (aA a), some (aA 3), none, none, none, none, none]) rfl rfl rfl ?_
    refine c_reach hR (hC.of (fun b j g1 g2 _ => F1 b j (by omega))) hV hdn h34 (fun w2 => ?_)
    refine E_go (p' := 24) (L' := [some (aA 8), some (aA a), some (aA 3), none, none, none]) (st' := [aJ w2]) rfl rfl rfl ?_
    refine E_s (p' := 25) (L' := [some (aA 8), some (aA a), some (aA 3), some (aJ w2), none, none]) rfl rfl ?_
    refine E_s (p' := 26) (st' := aI 0 :: _) rfl rfl ?_
    refine E_s (p' := 28) (L' := [some (aA 8), some (aA a), some (aA 3), some (aJ w2), none, some (aI 0)]) rfl rfl ?_
    exact yl_sk hR hC hV hd q (Cn R + 1) 0 m1 (by omega) (by omega) (F1.wide (by omega) (by omega))
  · refine E_go (p' := 11) (L' := [some (aA 8), some (aA a), some (aA 3), none, none, none]) (st' := []) rfl rfl rfl ?_
    refine E_s (p' := 12) (st' := aA 8 :: _) rfl rfl ?_
    refine E_s (p' := 13) (st' := aI 0 :: _) rfl rfl ?_
    refine E_s (p' := 14) (st' := aI (-1) :: _) rfl rfl ?_
    refine E_s (p' := 15) (st' := aI (-1) :: _) rfl rfl ?_
    refine E_callV (k' := 98) (a := 8) (r := []) (L0 := [some (aA 8), some (aI 0), some (aI (-1)), some (aI (-1))]) rfl rfl rfl rfl rfl rfl rfl rfl rfl rfl ?_
    refine c_keep (fun m2 F2 => ?_)
    refine E_go (p' := 18) (L' := [some (aA 8), some (aA a), some (aA 3), none, none, none]) (st' := [aI 0]) rfl rfl rfl ?_
    refine E_ret rfl rfl ?_
    exact q _ _ ((F1.wide (by omega) (by omega)).tr (F2.wide (by omega) (by omega)))
theorem C_cure (hS : CS S m) (q : ∀ (m1 : Mm) (v : Int), CS S m1 → (∀ b j, b = 0 ∨ (10 ≤ b ∧ b ≤ 14) ∨ 124 ≤ b → m1 b j = m b j) → Q (some (aI v)) (m1, tl len)) : E 96 0 [some (aA 1), some (aI (r)), none] [] (m, tl len) Q := by
  refine E_s (p' := 1) (st' := aA 1 :: _) rfl rfl ?_
  refine E_s (p' := 2) (st' := aI (r) :: _) rfl rfl ?_
  refine E_callV (k' := 34) (a := 1) (r := []) (L0 := [some (aA 1), some (aI (r)), none]) rfl rfl rfl rfl rfl rfl rfl rfl rfl rfl ?_
  refine c_readOf hS (fun i a m1 hi hr ha hR hS1 hCS hd hMo => ?_) (fun hr => ?_)
  · refine E_go (p' := 5) (L' := [some (aA 1), some (aI (r)), none]) (st' := [aA a]) rfl rfl rfl ?_
    obtain ⟨hV, hC, -⟩ := hCS
    have hn60 := hV.1
    have hab := isR_b hR
    have hs40 := hV.2.2.2.2.1
    refine E_s (p' := 6) (L' := [some (aA 1), some (aI (r)), some (aA a)]) rfl rfl ?_
    refine E_s (p' := 7) (st' := aA a :: _) rfl rfl ?_
    refine E_s (p' := 15) rfl rfl ?_
    refine E_s (p' := 16) (st' := aA 1 :: _) rfl rfl ?_
    refine E_gA (b := 8) rfl rfl rfl rfl rfl rfl ?_
    refine E_s (p' := 20) (st' := aA a :: _) rfl rfl ?_
    refine E_s (p' := 21) (st' := aA 1 :: _) rfl rfl ?_
    refine E_gA (b := 3) rfl rfl rfl rfl rfl rfl ?_
    refine E_callV (k' := 97) (a := 8) (r := []) (L0 := [some (aA 8), some (aA a), some (aA 3), none, none, none]) rfl rfl rfl rfl rfl rfl rfl rfl rfl rfl ?_
    refine c_seek hR hC hV hd (fun m2 v2 F2 => ?_)
    refine E_go (p' := 27) (L' := [some (aA 1), some (aI (r)), some (aA a)]) (st' := [aI (v2)]) rfl rfl rfl ?_
    refine E_ret rfl rfl ?_
    exact q _ _ (fun k hk => (hS1 k hk).of (fun b j g1 g2 => F2 b j (by unfold tgA at g1; omega))) (fun b j hb => (F2 b j (by omega)).trans (hMo b j (by omega)))
  · refine E_go (p' := 5) (L' := [some (aA 1), some (aI (r)), none]) (st' := [aN]) rfl rfl rfl ?_
    refine E_s (p' := 6) (L' := [some (aA 1), some (aI (r)), some (aN)]) rfl rfl ?_
    refine E_s (p' := 7) (st' := aN :: _) rfl rfl ?_
    refine E_s (p' := 10) rfl rfl ?_
    refine E_s (p' := 12) (st' := aI (-2) :: _) rfl rfl ?_
    refine E_s (p' := 27) rfl rfl ?_
    refine E_ret rfl rfl ?_
    exact q _ _ hS (fun b j _ => rfl)
end

theorem nI_u31 : ∀ y, y < 32 → ((nI y).toUInt32 &&& Int32.toUInt32 31).toNat % 32 = y := by decide
theorem b32_ushr {x y : Nat} (hx : x < 2147483648) (hy : y < 32) : b32 (fun a b => (a.toUInt32 >>> (b.toUInt32 &&& Int32.toUInt32 31)).toInt32) (x : Int) (y : Int) = ((x / 2 ^ y : Nat) : Int) := by
  unfold b32
  dsimp only
  have h : ((nI x).toUInt32 >>> ((nI y).toUInt32 &&& Int32.toUInt32 31)).toInt32 = nI (x / 2 ^ y) := by
    apply Int32.toBitVec_inj.mp
    apply BitVec.eq_of_toNat_eq
    show ((nI x).toUInt32 >>> ((nI y).toUInt32 &&& Int32.toUInt32 31)).toNat = _
    rw [UInt32.toNat_shiftRight, nI_u31 y hy, Nat.shiftRight_eq_div_pow]
    have hd := Nat.div_le_self x (2 ^ y)
    have e1 : (nI x).toUInt32.toNat = x := by show (BitVec.ofNat 32 x).toNat = x; rw [BitVec.toNat_ofNat]; omega
    have e2 : (nI (x / 2 ^ y)).toBitVec.toNat = x / 2 ^ y := by show (BitVec.ofNat 32 _).toNat = _; rw [BitVec.toNat_ofNat]; exact Nat.mod_eq_of_lt (Nat.lt_of_le_of_lt hd (by omega))
    rw [e1, e2]
  rw [oI, oI, h, nI_toInt (by have := Nat.div_le_self x (2 ^ y); omega)]
theorem E_ushr {k pc n : Nat} {L : Lc} {r : List AV} {Q : Option AV → Sx → Prop} {s : Sx} {x y v : Nat} (hi : ins k pc = some (.iushr, n)) (hx : x < 2147483648) (hy : y < 32) (hv : x / 2 ^ y = v) (kk : E k (pc + n) L (aI (v : Int) :: r) s Q) : E k pc L (aI (y : Int) :: aI (x : Int) :: r) s Q := by
  subst hv
  refine E_s hi ?_ kk
  rw [← b32_ushr hx hy]
  rfl
/-- how many of the first 12 bits are set -/
def pc12 (n : Nat) : Nat := n % 2 + n / 2 % 2 + n / 4 % 2 + n / 8 % 2 + n / 16 % 2 + n / 32 % 2 + n / 64 % 2 + n / 128 % 2 + n / 256 % 2 + n / 512 % 2 + n / 1024 % 2 + n / 2048 % 2
def bcA (n : Nat) : Nat := n - (n / 2 ^ 1 &&& 1431655765)
def bcB (b : Nat) : Nat := (b &&& 858993459) + (b / 2 ^ 2 &&& 858993459)
def bcD (b : Nat) : Nat := (b + b / 2 ^ 4) &&& 252645135
def bcF (b : Nat) : Nat := b + b / 2 ^ 8
def bcG (b : Nat) : Nat := b + b / 2 ^ 16
theorem bc_all0 : ∀ i j : Fin 64, (bcG (bcF (bcD (bcB (bcA (64 * i.1 + j.1))))) &&& 63) = pc12 (64 * i.1 + j.1) := by decide +kernel
theorem bc_all {n : Nat} (hn : n < 4096) : (bcG (bcF (bcD (bcB (bcA n)))) &&& 63) = pc12 n := by
  have h1 := bc_all0 ⟨n / 64, by omega⟩ ⟨n % 64, by omega⟩
  dsimp only at h1
  rw [show 64 * (n / 64) + n % 64 = n by omega] at h1
  exact h1
section
variable {len : Nat} {m m0 : Mm} {Q : Option AV → Sx → Prop} {R : RD} {S : Nat → RD} {a : Nat}
theorem bc_a {x : Nat} (hx : x < 4096) (kk : E 113 10 [some (aI ((bcA x : Nat) : Int))] [] (m, tl len) Q) : E 113 0 [some (aI (x : Int))] [] (m, tl len) Q := by
  have h1 := @Nat.and_le_left (x / 2 ^ 1) 1431655765
  refine E_s (p' := 1) (st' := aI ((x : Nat) : Int) :: _) rfl rfl ?_
  refine E_s (p' := 2) (st' := aI ((x : Nat) : Int) :: _) rfl rfl ?_
  refine E_s (p' := 3) (st' := aI 1 :: _) rfl rfl ?_
  refine E_ushr (x := x) (y := 1) (v := ((x) / 2 ^ 1)) rfl (by omega) (by omega) rfl ?_
  refine E_s (p' := 7) (st' := aI 1431655765 :: _) rfl rfl ?_
  refine E_and (x := ((x) / 2 ^ 1)) (y := 1431655765) (v := ((((x) / 2 ^ 1)) &&& 1431655765)) rfl (by omega) (by omega) rfl ?_
  refine E_sub (v := ((bcA x : Nat) : Int)) rfl (by unfold bcA; omega) (by unfold bcA; omega) ?_
  refine E_s (p' := 10) (L' := [some (aI ((bcA x : Nat) : Int))]) rfl rfl ?_
  exact kk
theorem bc_b {x : Nat} (hx : x < 4096) (kk : E 113 24 [some (aI ((bcB x : Nat) : Int))] [] (m, tl len) Q) : E 113 10 [some (aI (x : Int))] [] (m, tl len) Q := by
  have h1 := @Nat.and_le_left x 858993459
  have h2 := @Nat.and_le_left (x / 2 ^ 2) 858993459
  refine E_s (p' := 11) (st' := aI ((x : Nat) : Int) :: _) rfl rfl ?_
  refine E_s (p' := 14) (st' := aI 858993459 :: _) rfl rfl ?_
  refine E_and (x := x) (y := 858993459) (v := ((x) &&& 858993459)) rfl (by omega) (by omega) rfl ?_
  refine E_s (p' := 16) (st' := aI ((x : Nat) : Int) :: _) rfl rfl ?_
  refine E_s (p' := 17) (st' := aI 2 :: _) rfl rfl ?_
  refine E_ushr (x := x) (y := 2) (v := ((x) / 2 ^ 2)) rfl (by omega) (by omega) rfl ?_
  refine E_s (p' := 21) (st' := aI 858993459 :: _) rfl rfl ?_
  refine E_and (x := ((x) / 2 ^ 2)) (y := 858993459) (v := ((((x) / 2 ^ 2)) &&& 858993459)) rfl (by omega) (by omega) rfl ?_
  refine E_add (v := ((((x) &&& 858993459) + ((((x) / 2 ^ 2)) &&& 858993459) : Nat) : Int)) rfl (by omega) (by omega) ?_
  refine E_valv (v := ((bcB x : Nat) : Int)) (by unfold bcB; omega) ?_
  refine E_s (p' := 24) (L' := [some (aI ((bcB x : Nat) : Int))]) rfl rfl ?_
  exact kk
theorem bc_d {x : Nat} (hx : x < 4096) (kk : E 113 34 [some (aI ((bcD x : Nat) : Int))] [] (m, tl len) Q) : E 113 24 [some (aI (x : Int))] [] (m, tl len) Q := by
  refine E_s (p' := 25) (st' := aI ((x : Nat) : Int) :: _) rfl rfl ?_
  refine E_s (p' := 26) (st' := aI ((x : Nat) : Int) :: _) rfl rfl ?_
  refine E_s (p' := 27) (st' := aI 4 :: _) rfl rfl ?_
  refine E_ushr (x := x) (y := 4) (v := ((x) / 2 ^ 4)) rfl (by omega) (by omega) rfl ?_
  refine E_add (v := ((x + ((x) / 2 ^ 4) : Nat) : Int)) rfl (by omega) (by omega) ?_
  refine E_s (p' := 32) (st' := aI 252645135 :: _) rfl rfl ?_
  refine E_and (x := x + ((x) / 2 ^ 4)) (y := 252645135) (v := ((x + ((x) / 2 ^ 4)) &&& 252645135)) rfl (by omega) (by omega) rfl ?_
  refine E_valv (v := ((bcD x : Nat) : Int)) (by unfold bcD; omega) ?_
  refine E_s (p' := 34) (L' := [some (aI ((bcD x : Nat) : Int))]) rfl rfl ?_
  exact kk
theorem bc_f {x : Nat} (hx : x < 4096) (kk : E 113 41 [some (aI ((bcF x : Nat) : Int))] [] (m, tl len) Q) : E 113 34 [some (aI (x : Int))] [] (m, tl len) Q := by
  refine E_s (p' := 35) (st' := aI ((x : Nat) : Int) :: _) rfl rfl ?_
  refine E_s (p' := 36) (st' := aI ((x : Nat) : Int) :: _) rfl rfl ?_
  refine E_s (p' := 38) (st' := aI 8 :: _) rfl rfl ?_
  refine E_ushr (x := x) (y := 8) (v := ((x) / 2 ^ 8)) rfl (by omega) (by omega) rfl ?_
  refine E_add (v := ((x + ((x) / 2 ^ 8) : Nat) : Int)) rfl (by omega) (by omega) ?_
  refine E_valv (v := ((bcF x : Nat) : Int)) (by unfold bcF; omega) ?_
  refine E_s (p' := 41) (L' := [some (aI ((bcF x : Nat) : Int))]) rfl rfl ?_
  exact kk
theorem bc_g {x : Nat} (hx : x < 4096) (kk : E 113 48 [some (aI ((bcG x : Nat) : Int))] [] (m, tl len) Q) : E 113 41 [some (aI (x : Int))] [] (m, tl len) Q := by
  refine E_s (p' := 42) (st' := aI ((x : Nat) : Int) :: _) rfl rfl ?_
  refine E_s (p' := 43) (st' := aI ((x : Nat) : Int) :: _) rfl rfl ?_
  refine E_s (p' := 45) (st' := aI 16 :: _) rfl rfl ?_
  refine E_ushr (x := x) (y := 16) (v := ((x) / 2 ^ 16)) rfl (by omega) (by omega) rfl ?_
  refine E_add (v := ((x + ((x) / 2 ^ 16) : Nat) : Int)) rfl (by omega) (by omega) ?_
  refine E_valv (v := ((bcG x : Nat) : Int)) (by unfold bcG; omega) ?_
  refine E_s (p' := 48) (L' := [some (aI ((bcG x : Nat) : Int))]) rfl rfl ?_
  exact kk
theorem bcA_l (n : Nat) : bcA n ≤ n := Nat.sub_le _ _
theorem bc_rng0 : ∀ i j : Fin 64, bcB (bcA (64 * i.1 + j.1)) < 4096 ∧ bcD (bcB (bcA (64 * i.1 + j.1))) < 4096 ∧ bcF (bcD (bcB (bcA (64 * i.1 + j.1)))) < 4096 ∧ bcG (bcF (bcD (bcB (bcA (64 * i.1 + j.1))))) < 4096 := by decide +kernel
theorem bc_rng {n : Nat} (hn : n < 4096) : bcB (bcA n) < 4096 ∧ bcD (bcB (bcA n)) < 4096 ∧ bcF (bcD (bcB (bcA n))) < 4096 ∧ bcG (bcF (bcD (bcB (bcA n)))) < 4096 := by
  have h1 := bc_rng0 ⟨n / 64, by omega⟩ ⟨n % 64, by omega⟩
  dsimp only at h1
  rw [show 64 * (n / 64) + n % 64 = n by omega] at h1
  exact h1
theorem c_bc {n : Nat} (hn : n < 4096) (q : Q (some (aI ((pc12 n : Nat) : Int))) (m, tl len)) : E 113 0 [some (aI (n : Int))] [] (m, tl len) Q := by
  obtain ⟨r1, r2, r3, r4⟩ := bc_rng hn
  have r0 := bcA_l n
  refine bc_a hn (bc_b (by omega) (bc_d r1 (bc_f r2 (bc_g r3 ?_))))
  have e9 := bc_all hn
  rw [← e9] at q
  generalize bcG (bcF (bcD (bcB (bcA n)))) = x at *
  refine E_s (p' := 49) (st' := aI ((x : Nat) : Int) :: _) rfl rfl ?_
  refine E_s (p' := 51) (st' := aI 63 :: _) rfl rfl ?_
  refine E_and (x := x) (y := 63) (v := ((x) &&& 63)) rfl (by omega) (by omega) rfl ?_
  refine E_ret rfl rfl ?_
  exact q
end

/-- the CORDS of each GROUP among the first c, as the class keeps them for found -/
def GC (R : RD) (c : Nat) (m : Mm) : Prop := ∀ g : Nat, g < 12 → m 13 g = ((gmem R (g : Int) c).length : Int) ∧ (∀ j, j < (gmem R (g : Int) c).length → m 14 (60 * g + j) = (Rvl R ((gmem R (g : Int) c).getD j 0) : Int))
def UN (R : RD) (c : Nat) (u : Nat) : Prop := u < 4096 ∧ ∀ g : Nat, g < 12 → Nat.testBit u g = !((gmem R (g : Int) c).all (sdR R))
theorem UN_n {R : RD} {c u : Nat} (h : UN R c u) (hn : ∀ x : Nat, x < 12 → Cg R c ≠ (x : Int)) : UN R (c + 1) u := by
  refine ⟨h.1, fun g hg => ?_⟩
  rw [gmem_f (hn g hg)]
  exact h.2 g hg
theorem UN_s {R : RD} {c u gn : Nat} (h : UN R c u) (eg : Cg R c = (gn : Int)) (hs : sdR R c = true) : UN R (c + 1) u := by
  refine ⟨h.1, fun g hg => ?_⟩
  by_cases g9 : g = gn
  · rw [g9, gmem_t eg, List.all_append, List.all_cons, List.all_nil, hs, Bool.and_true, Bool.and_true, ← g9]
    exact h.2 g hg
  · rw [gmem_f (by omega)]
    exact h.2 g hg
theorem UN_u {R : RD} {c u gn : Nat} (h : UN R c u) (hg12 : gn < 12) (eg : Cg R c = (gn : Int)) (hs : sdR R c = false) : UN R (c + 1) (u ||| 1 * 2 ^ gn) := by
  have hp : 2 ^ gn < 2 ^ 12 := Nat.pow_lt_pow_right (by omega) hg12
  refine ⟨@Nat.or_lt_two_pow u (1 * 2 ^ gn) 12 h.1 (by omega), fun g hg => ?_⟩
  rw [Nat.testBit_or, Nat.one_mul, Nat.testBit_two_pow]
  by_cases g9 : g = gn
  · rw [g9, gmem_t eg, List.all_append, List.all_cons, List.all_nil, hs, decide_eq_true rfl, Bool.or_true]
    simp
  · rw [gmem_f (by omega), decide_eq_false (by omega), Bool.or_false]
    exact h.2 g hg
section
variable {len : Nat} {m m0 : Mm} {Q : Option AV → Sx → Prop} {R : RD} {a : Nat}
theorem yl_ga (hR : isR a) (hC : CR R a m0) (hV : VR R) (hd : RdC R a m0) (q : ∀ (m1 : Mm) (u : Nat), Fx 10 14 m0 m1 → (∀ j, j ≠ 5 → m1 10 j = m0 10 j) → (∀ j, m1 11 j = m0 11 j ∧ m1 12 j = m0 12 j) → GC R (Cn R) m1 → m1 10 5 = (u : Int) → UN R (Cn R) u → Q none (m1, tl len)) : ∀ (d : Nat) (c : Nat) (m : Mm) (u : Nat) (x3 : Option AV), (Cn R < c + d) → (c ≤ Cn R) → (Fx 10 14 m0 m) → (∀ j, j ≠ 5 → m 10 j = m0 10 j) → (∀ j, m 11 j = m0 11 j ∧ m 12 j = m0 12 j) → (GC R c m) → (m 10 5 = (u : Int)) → (UN R c u) → E 108 15 [some (aA 10), some (aA a), some (aI ((c : Nat) : Int)), x3] [] (m, tl len) Q := by
  intro d
  induction d with
  | zero => intro c m u x3 hd9 hc I1 I5 I6 I2 I3 I4; omega
  | succ d ih =>
    intro c m u x3 hd9 hc I1 I5 I6 I2 I3 I4
    have hab := isR_b hR
    have hn60 := hV.1
    have hCm : CR R a m := hC.of (fun b j g1 g2 _ => I1 b j (by omega))
    have hdm : RdC R a m := hd.of (fun b j g1 g2 => I1 b j (by omega))
    refine E_s (p' := 16) (st' := aI ((c : Nat) : Int) :: _) rfl rfl ?_
    refine E_s (p' := 17) (st' := aA a :: _) rfl rfl ?_
    refine E_gA (b := a + 1) rfl rfl rfl (kR_0 hR) (hR_0_0 hR) rfl ?_
    refine E_gI (v := ((Cn R : Nat) : Int)) rfl rfl rfl (kR_1 hR) hCm.1 ?_
    refine E_icmp_ge (x := ((c : Nat) : Int)) (y := ((Cn R : Nat) : Int)) rfl (by decide) (fun h_1 => ?_) (fun h_1 => ?_)
    · refine E_go (p' := 105) (L' := [some (aA 10), some (aA a), some (aI ((c : Nat) : Int)), x3]) (st' := []) rfl rfl rfl ?_
      refine E_ret rfl rfl ?_
      have ec : c = Cn R := by omega
      subst ec
      exact q m u I1 I5 I6 I2 I3 I4
    · refine E_go (p' := 26) (L' := [some (aA 10), some (aA a), some (aI ((c : Nat) : Int)), x3]) (st' := []) rfl rfl rfl ?_
      obtain ⟨⟨vg1, vg2⟩, -⟩ := hV.2.2.1 c (by omega)
      refine E_s (p' := 27) (st' := aA a :: _) rfl rfl ?_
      refine E_gA (b := a + 1) rfl rfl rfl (kR_0 hR) (hR_0_0 hR) rfl ?_
      refine E_gA (b := a + 2) rfl rfl rfl (kR_1 hR) (hR_1_0 hR) rfl ?_
      refine E_s (p' := 34) (st' := aI ((c : Nat) : Int) :: _) rfl rfl ?_
      refine E_ald (e := c) (N := 60) (v := ((Cg R c))) rfl (kR_2 hR) (rfl) (by omega) (CR_2 hCm (by omega)) ?_
      refine E_s (p' := 36) (L' := [some (aA 10), some (aA a), some (aI ((c : Nat) : Int)), some (aI ((Cg R c)))]) rfl rfl ?_
      refine E_s (p' := 37) (st' := aI ((Cg R c)) :: _) rfl rfl ?_
      refine E_s (p' := 38) (st' := aI (-1) :: _) rfl rfl ?_
      refine E_icmp_ne (x := ((Cg R c))) (y := (-1)) rfl (by decide) (fun h_2 => ?_) (fun h_2 => ?_)
      · refine E_go (p' := 44) (L' := [some (aA 10), some (aA a), some (aI ((c : Nat) : Int)), some (aI ((Cg R c)))]) (st' := []) rfl rfl rfl ?_
        obtain ⟨gn, eg⟩ : ∃ x : Nat, Cg R c = (x : Int) := ⟨(Cg R c).toNat, by omega⟩
        rw [eg]
        obtain ⟨j1, j2⟩ := I2 gn (by omega)
        have hgl := gmem_le R (gn : Int) c
        have hpw : 2 ^ gn < 2 ^ 12 := Nat.pow_lt_pow_right (by omega) (by omega)
        have hu12 := I4.1
        refine E_s (p' := 45) (st' := aA a :: _) rfl rfl ?_
        refine E_s (p' := 46) (st' := aI ((c : Nat) : Int) :: _) rfl rfl ?_
        refine E_callV (k' := 74) (a := a) (r := []) (L0 := [some (aA a), some (aI ((c : Nat) : Int))]) rfl rfl rfl rfl rfl (kR_0 hR) rfl rfl rfl rfl ?_
        refine c_isSound hR hn60 hCm hdm (c := c) (by omega) (fun hs1 hs2 => ?_) (fun hs0 => ?_)
        · refine E_go (p' := 49) (L' := [some (aA 10), some (aA a), some (aI ((c : Nat) : Int)), some (aI ((gn : Nat) : Int))]) (st' := [aI 1]) rfl rfl rfl ?_
          refine E_s (p' := 64) rfl rfl ?_
          refine E_s (p' := 65) (st' := aA 10 :: _) rfl rfl ?_
          refine E_gA (b := 14) rfl rfl rfl rfl rfl rfl ?_
          refine E_s (p' := 69) (st' := aI ((gn : Nat) : Int) :: _) rfl rfl ?_
          refine E_s (p' := 71) (st' := aI 60 :: _) rfl rfl ?_
          refine E_mul (v := ((60 * gn : Nat) : Int)) rfl (by omega) (by omega) ?_
          refine E_s (p' := 73) (st' := aA 10 :: _) rfl rfl ?_
          refine E_gA (b := 13) rfl rfl rfl rfl rfl rfl ?_
          refine E_s (p' := 77) (st' := aI ((gn : Nat) : Int) :: _) rfl rfl ?_
          refine E_ald (e := gn) (N := 12) (v := (((gmem R (gn : Int) c).length : Nat) : Int)) rfl rfl (rfl) (by omega) j1 ?_
          refine E_add (v := ((60 * gn + (gmem R (gn : Int) c).length : Nat) : Int)) rfl (by omega) (by omega) ?_
          refine E_s (p' := 80) (st' := aA a :: _) rfl rfl ?_
          refine E_gA (b := a + 15) rfl rfl rfl (kR_0 hR) (hR_0_4 hR) rfl ?_
          refine E_gA (b := a + 22) rfl rfl rfl (kR_15 hR) (hR_15_6 hR) rfl ?_
          refine E_s (p' := 87) (st' := aI ((c : Nat) : Int) :: _) rfl rfl ?_
          refine E_ald (e := c) (N := 60) (v := ((Rvl R c : Nat) : Int)) rfl (kR_22 hR) (rfl) (by omega) (hdm.2.2.2 _ (by omega)).2.2.1 ?_
          refine E_ast (e := 60 * gn + (gmem R (gn : Int) c).length) (N := 720) rfl rfl (rfl) (by omega) ?_
          refine E_s (p' := 90) (st' := aA 10 :: _) rfl rfl ?_
          refine E_gA (b := 13) rfl rfl rfl rfl rfl rfl ?_
          refine E_s (p' := 94) (st' := aI ((gn : Nat) : Int) :: _) rfl rfl ?_
          refine E_s (p' := 95) rfl rfl ?_
          refine E_ald (e := gn) (N := 12) (v := (((gmem R (gn : Int) c).length : Nat) : Int)) rfl rfl (rfl) (by omega) ((up2_ne (by omega)).trans (j1)) ?_
          refine E_s (p' := 97) (st' := aI 1 :: _) rfl rfl ?_
          refine E_add (v := (((gmem R (gn : Int) c).length + 1 : Nat) : Int)) rfl (by omega) (by omega) ?_
          refine E_ast (e := gn) (N := 12) rfl rfl (rfl) (by omega) ?_
          refine E_inc (x := ((c : Nat) : Int)) (w := ((c + 1 : Nat) : Int)) (L' := [some (aA 10), some (aA a), some (aI ((c + 1 : Nat) : Int)), some (aI ((gn : Nat) : Int))]) rfl rfl rfl (by omega) (by omega) rfl ?_
          refine E_s (p' := 15) rfl rfl ?_
          refine ih (c + 1) _ u _ (by omega) (by omega) (((I1.up (by omega) (by omega)).up (by omega) (by omega))) (fun j hj => (up2_ne (by omega)).trans ((up2_ne (by omega)).trans (I5 j hj))) (fun j => ⟨((up2_ne (by omega)).trans (up2_ne (by omega))).trans (I6 j).1, ((up2_ne (by omega)).trans (up2_ne (by omega))).trans (I6 j).2⟩) (fun x hx => ?_) ((up2_ne (by omega)).trans ((up2_ne (by omega)).trans I3)) (UN_s I4 eg (sdR_t hs1 hs2))
          by_cases g9 : x = gn
          · rw [g9, gmem_t eg]
            refine ⟨(up2_eq).trans (by rw [List.length_append]; rfl), fun j hj => ?_⟩
            rw [List.length_append] at hj
            have hj : j < (gmem R (gn : Int) c).length + 1 := hj
            by_cases g8 : j = (gmem R (gn : Int) c).length
            · rw [g8, getD_app_r]; exact ((up2_ne (by omega)).trans (up2_eq))
            · rw [getD_app_l (by omega)]; exact ((up2_o (by omega)).trans (up2_o (by omega))).trans (j2 j (by omega))
          · rw [gmem_f (by omega)]
            obtain ⟨k1, k2⟩ := I2 x hx
            have hgx := gmem_le R (x : Int) c
            exact ⟨((up2_o (by omega)).trans (up2_o (by omega))).trans k1, fun j hj => ((up2_o (by omega)).trans (up2_o (by omega))).trans (k2 j hj)⟩
        · refine E_go (p' := 49) (L' := [some (aA 10), some (aA a), some (aI ((c : Nat) : Int)), some (aI ((gn : Nat) : Int))]) (st' := [aI 0]) rfl rfl rfl ?_
          refine E_s (p' := 52) rfl rfl ?_
          refine E_s (p' := 53) (st' := aA 10 :: _) rfl rfl ?_
          refine E_s (p' := 54) (st' := aA 10 :: _) rfl rfl ?_
          refine E_gI (v := ((u : Nat) : Int)) rfl rfl rfl rfl I3 ?_
          refine E_s (p' := 58) (st' := aI 1 :: _) rfl rfl ?_
          refine E_s (p' := 59) (st' := aI ((gn : Nat) : Int) :: _) rfl rfl ?_
          refine E_shl (x := 1) (y := gn) (v := ((1) * 2 ^ gn)) rfl (by omega) (by omega) rfl ?_
          refine E_or (x := u) (y := ((1) * 2 ^ gn)) (v := ((u) ||| ((1) * 2 ^ gn))) rfl (by omega) (by omega) rfl ?_
          refine E_pI rfl rfl rfl rfl (Or.inl rfl) ?_
          refine E_s (p' := 65) (st' := aA 10 :: _) rfl rfl ?_
          refine E_gA (b := 14) rfl rfl rfl rfl rfl rfl ?_
          refine E_s (p' := 69) (st' := aI ((gn : Nat) : Int) :: _) rfl rfl ?_
          refine E_s (p' := 71) (st' := aI 60 :: _) rfl rfl ?_
          refine E_mul (v := ((60 * gn : Nat) : Int)) rfl (by omega) (by omega) ?_
          refine E_s (p' := 73) (st' := aA 10 :: _) rfl rfl ?_
          refine E_gA (b := 13) rfl rfl rfl rfl rfl rfl ?_
          refine E_s (p' := 77) (st' := aI ((gn : Nat) : Int) :: _) rfl rfl ?_
          refine E_ald (e := gn) (N := 12) (v := (((gmem R (gn : Int) c).length : Nat) : Int)) rfl rfl (rfl) (by omega) ((up2_ne (by omega)).trans (j1)) ?_
          refine E_add (v := ((60 * gn + (gmem R (gn : Int) c).length : Nat) : Int)) rfl (by omega) (by omega) ?_
          refine E_s (p' := 80) (st' := aA a :: _) rfl rfl ?_
          refine E_gA (b := a + 15) rfl rfl rfl (kR_0 hR) (hR_0_4 hR) rfl ?_
          refine E_gA (b := a + 22) rfl rfl rfl (kR_15 hR) (hR_15_6 hR) rfl ?_
          refine E_s (p' := 87) (st' := aI ((c : Nat) : Int) :: _) rfl rfl ?_
          refine E_ald (e := c) (N := 60) (v := ((Rvl R c : Nat) : Int)) rfl (kR_22 hR) (rfl) (by omega) ((up2_ne (by omega)).trans ((hdm.2.2.2 _ (by omega)).2.2.1)) ?_
          refine E_ast (e := 60 * gn + (gmem R (gn : Int) c).length) (N := 720) rfl rfl (rfl) (by omega) ?_
          refine E_s (p' := 90) (st' := aA 10 :: _) rfl rfl ?_
          refine E_gA (b := 13) rfl rfl rfl rfl rfl rfl ?_
          refine E_s (p' := 94) (st' := aI ((gn : Nat) : Int) :: _) rfl rfl ?_
          refine E_s (p' := 95) rfl rfl ?_
          refine E_ald (e := gn) (N := 12) (v := (((gmem R (gn : Int) c).length : Nat) : Int)) rfl rfl (rfl) (by omega) ((up2_ne (by omega)).trans ((up2_ne (by omega)).trans (j1))) ?_
          refine E_s (p' := 97) (st' := aI 1 :: _) rfl rfl ?_
          refine E_add (v := (((gmem R (gn : Int) c).length + 1 : Nat) : Int)) rfl (by omega) (by omega) ?_
          refine E_ast (e := gn) (N := 12) rfl rfl (rfl) (by omega) ?_
          refine E_inc (x := ((c : Nat) : Int)) (w := ((c + 1 : Nat) : Int)) (L' := [some (aA 10), some (aA a), some (aI ((c + 1 : Nat) : Int)), some (aI ((gn : Nat) : Int))]) rfl rfl rfl (by omega) (by omega) rfl ?_
          refine E_s (p' := 15) rfl rfl ?_
          refine ih (c + 1) _ (u ||| 1 * 2 ^ gn) _ (by omega) (by omega) ((((I1.up (by omega) (by omega)).up (by omega) (by omega)).up (by omega) (by omega))) (fun j hj => (up2_ne (by omega)).trans ((up2_ne (by omega)).trans ((up2_sl hj).trans (I5 j hj)))) (fun j => ⟨((up2_ne (by omega)).trans ((up2_ne (by omega)).trans (up2_ne (by omega)))).trans (I6 j).1, ((up2_ne (by omega)).trans ((up2_ne (by omega)).trans (up2_ne (by omega)))).trans (I6 j).2⟩) (fun x hx => ?_) ((up2_ne (by omega)).trans ((up2_ne (by omega)).trans up2_eq)) (UN_u I4 (by omega) eg (sdR_f hs0))
          by_cases g9 : x = gn
          · rw [g9, gmem_t eg]
            refine ⟨(up2_eq).trans (by rw [List.length_append]; rfl), fun j hj => ?_⟩
            rw [List.length_append] at hj
            have hj : j < (gmem R (gn : Int) c).length + 1 := hj
            by_cases g8 : j = (gmem R (gn : Int) c).length
            · rw [g8, getD_app_r]; exact ((up2_ne (by omega)).trans (up2_eq))
            · rw [getD_app_l (by omega)]; exact ((up2_o (by omega)).trans ((up2_o (by omega)).trans (up2_o (by omega)))).trans (j2 j (by omega))
          · rw [gmem_f (by omega)]
            obtain ⟨k1, k2⟩ := I2 x hx
            have hgx := gmem_le R (x : Int) c
            exact ⟨((up2_o (by omega)).trans ((up2_o (by omega)).trans (up2_o (by omega)))).trans k1, fun j hj => ((up2_o (by omega)).trans ((up2_o (by omega)).trans (up2_o (by omega)))).trans (k2 j hj)⟩
      · refine E_go (p' := 41) (L' := [some (aA 10), some (aA a), some (aI ((c : Nat) : Int)), some (aI ((Cg R c)))]) (st' := []) rfl rfl rfl ?_
        refine E_s (p' := 99) rfl rfl ?_
        refine E_inc (x := ((c : Nat) : Int)) (w := ((c + 1 : Nat) : Int)) (L' := [some (aA 10), some (aA a), some (aI ((c + 1 : Nat) : Int)), some (aI ((Cg R c)))]) rfl rfl rfl (by omega) (by omega) rfl ?_
        refine E_s (p' := 15) rfl rfl ?_
        refine ih (c + 1) m u _ (by omega) (by omega) I1 I5 I6 (fun x hx => ?_) I3 (UN_n I4 (fun x hx => by omega))
        rw [gmem_f (by omega)]
        exact I2 x hx
theorem c_gather (hR : isR a) (hC : CR R a m0) (hV : VR R) (hd : RdC R a m0) (q : ∀ (m1 : Mm) (u : Nat), Fx 10 14 m0 m1 → (∀ j, j ≠ 5 → m1 10 j = m0 10 j) → (∀ j, m1 11 j = m0 11 j ∧ m1 12 j = m0 12 j) → GC R (Cn R) m1 → m1 10 5 = (u : Int) → UN R (Cn R) u → Q none (m1, tl len)) : E 108 0 [some (aA 10), some (aA a), none, none] [] (m0, tl len) Q := by
  refine E_s (p' := 1) (st' := aA 10 :: _) rfl rfl ?_
  refine E_gA (b := 13) rfl rfl rfl rfl rfl rfl ?_
  refine E_s (p' := 5) (st' := aI 0 :: _) rfl rfl ?_
  refine E_callL (p' := 8) (L0 := [some (aA 13), some (aI 0), none, none]) rfl rfl rfl ?_
  refine c_fillL (N := 12) rfl ?_
  refine E_go (p' := 8) (L' := [some (aA 10), some (aA a), none, none]) (st' := []) rfl rfl rfl ?_
  refine E_s (p' := 9) (st' := aA 10 :: _) rfl rfl ?_
  refine E_s (p' := 10) (st' := aI 0 :: _) rfl rfl ?_
  refine E_pI rfl rfl rfl rfl (Or.inl rfl) ?_
  refine E_s (p' := 14) (st' := aI 0 :: _) rfl rfl ?_
  refine E_s (p' := 15) (L' := [some (aA 10), some (aA a), some (aI 0), none]) rfl rfl ?_
  exact yl_ga hR hC hV hd q (Cn R + 1) 0 _ 0 none (by omega) (by omega) ((Fx.rf.fill (by omega) (by omega)).up (by omega) (by omega)) (fun j hj => (up2_sl hj).trans (fillm_ne (by omega))) (fun j => ⟨(up2_ne (by omega)).trans (fillm_ne (by omega)), (up2_ne (by omega)).trans (fillm_ne (by omega))⟩) (fun x hx => ⟨(up2_ne (by omega)).trans (by unfold fillm; rw [if_pos rfl, if_pos (by omega)]; rfl), fun j hj => absurd hj (Nat.not_lt_zero _)⟩) up2_eq ⟨by omega, fun g _ => by rw [Nat.zero_testBit]; rfl⟩
end

/-- a GROUP that found may take: it has CORDS, and all of them are sound -/
def usb (R : RD) (g : Nat) : Bool := decide (0 < glen R (g : Int)) && (gmem R (g : Int) (Cn R)).all (sdR R)
def gnu (R : RD) (g j : Nat) : Nat := Rvl R ((gmem R (g : Int) (Cn R)).getD j 0)
def orV (R : RD) (g : Nat) : Nat → Nat
  | 0 => 0
  | k + 1 => orV R g k ||| gnu R g k
def cbw (R : RD) (g : Nat) : Bool := usb R g && decide (orV R g (glen R (g : Int)) ≠ 0)
def mateB (R : RD) (g k : Nat) : Bool := decide (k ≠ g) && (usb R k && decide (glen R (k : Int) = glen R (g : Int)))
def mateN (R : RD) (g : Nat) : Nat → Nat
  | 0 => 0
  | k + 1 => bif mateB R g k then mateN R g k ||| 1 * 2 ^ k else mateN R g k
theorem mateN_lt (R : RD) (g : Nat) : ∀ k, k ≤ 12 → mateN R g k < 4096 := by
  intro k
  induction k with
  | zero => intro _; show 0 < 4096; omega
  | succ k ih =>
    intro hk
    have h1 := ih (by omega)
    have hp : 2 ^ k < 2 ^ 12 := Nat.pow_lt_pow_right (by omega) (by omega)
    show (bif mateB R g k then _ else _) < _
    cases mateB R g k
    · exact h1
    · exact @Nat.or_lt_two_pow (mateN R g k) (1 * 2 ^ k) 12 h1 (by omega)
theorem gnu_b {R : RD} (hV : VR R) {g j : Nat} (hj : j < glen R (g : Int)) : gnu R g j ≤ 900000000 := Rvl_b hV (gmem_lt _ (gN_mem hj))
theorem orV_lt {R : RD} (hV : VR R) {g : Nat} : ∀ k, k ≤ glen R (g : Int) → orV R g k < 1073741824 := by
  intro k
  induction k with
  | zero => intro _; show 0 < 1073741824; omega
  | succ k ih =>
    intro hk
    have h1 := ih (by omega)
    have h2 := gnu_b hV (show k < glen R (g : Int) by omega)
    exact @Nat.or_lt_two_pow (orV R g k) (gnu R g k) 30 h1 (by omega)
/-- what gather leaves -/
def GA (R : RD) (m : Mm) (u : Nat) : Prop := GC R (Cn R) m ∧ m 10 5 = (u : Int) ∧ UN R (Cn R) u
theorem GA.of {R : RD} {m m' : Mm} {u : Nat} (h : GA R m u) (e : ∀ b j, (b = 10 ∧ j = 5) ∨ b = 13 ∨ b = 14 → m' b j = m b j) : GA R m' u := by
  obtain ⟨h1, h2, h3⟩ := h
  refine ⟨fun g hg => ⟨(e _ _ (by omega)).trans (h1 g hg).1, fun j hj => (e _ _ (by omega)).trans ((h1 g hg).2 j hj)⟩, (e _ _ (by omega)).trans h2, h3⟩
theorem GA.len {R : RD} {m : Mm} {u g : Nat} (h : GA R m u) (hg : g < 12) : m 13 g = (glen R (g : Int) : Int) := (h.1 g hg).1
theorem GA.num {R : RD} {m : Mm} {u g j : Nat} (h : GA R m u) (hg : g < 12) (hj : j < glen R (g : Int)) : m 14 (60 * g + j) = (gnu R g j : Int) := (h.1 g hg).2 j hj
theorem GA.bit {R : RD} {m : Mm} {u g : Nat} (h : GA R m u) (hg : g < 12) : (u / 2 ^ g) &&& 1 = bn (!((gmem R (g : Int) (Cn R)).all (sdR R))) := by
  rw [← h.2.2.2 g hg, Nat.and_one_is_mod, Nat.testBit_eq_decide_div_mod_eq]
  by_cases h9 : u / 2 ^ g % 2 = 1
  · rw [decide_eq_true h9, h9]; rfl
  · rw [decide_eq_false h9]; show _ = 0; omega
theorem glen_le {R : RD} (hV : VR R) (g : Int) : glen R g ≤ 60 := by have h1 := gmem_le R g (Cn R); have h2 := hV.1; unfold glen; omega
section
variable {len : Nat} {m m0 : Mm} {Q : Option AV → Sx → Prop} {R : RD} {g u : Nat}
theorem c_isUsable (hV : VR R) (hG : GA R m u) (hg : g < 12) (q1 : usb R g = true → Q (some (aI 1)) (m, tl len)) (q0 : usb R g = false → Q (some (aI 0)) (m, tl len)) : E 110 0 [some (aA 10), some (aI ((g : Nat) : Int))] [] (m, tl len) Q := by
  have hu12 := hG.2.2.1
  have hb9 := hG.bit hg
  have hgl := glen_le hV (g : Int)
  refine E_s (p' := 1) (st' := aA 10 :: _) rfl rfl ?_
  refine E_gA (b := 13) rfl rfl rfl rfl rfl rfl ?_
  refine E_s (p' := 5) (st' := aI ((g : Nat) : Int) :: _) rfl rfl ?_
  refine E_ald (e := g) (N := 12) (v := ((glen R (g : Int) : Nat) : Int)) rfl rfl (rfl) (by omega) (hG.len (by omega)) ?_
  refine E_if_le (x := ((glen R (g : Int) : Nat) : Int)) rfl (by decide) (fun h_1 => ?_) (fun h_1 => ?_)
  · refine E_go (p' := 24) (L' := [some (aA 10), some (aI ((g : Nat) : Int))]) (st' := []) rfl rfl rfl ?_
    refine E_s (p' := 25) (st' := aI 0 :: _) rfl rfl ?_
    refine E_ret rfl rfl ?_
    refine q0 ?_
    unfold usb
    rw [decide_eq_false (by omega)]; rfl
  · refine E_go (p' := 9) (L' := [some (aA 10), some (aI ((g : Nat) : Int))]) (st' := []) rfl rfl rfl ?_
    refine E_s (p' := 10) (st' := aA 10 :: _) rfl rfl ?_
    refine E_gI (v := ((u : Nat) : Int)) rfl rfl rfl rfl hG.2.1 ?_
    refine E_s (p' := 14) (st' := aI ((g : Nat) : Int) :: _) rfl rfl ?_
    refine E_shr (x := u) (y := g) (v := ((u) / 2 ^ g)) rfl (by first | omega | (have := Nat.div_le_self u (2 ^ g); omega)) (by omega) rfl ?_
    refine E_s (p' := 16) (st' := aI 1 :: _) rfl rfl ?_
    refine E_and (x := ((u) / 2 ^ g)) (y := 1) (v := ((((u) / 2 ^ g)) &&& 1)) rfl (by first | omega | (have := Nat.div_le_self u (2 ^ g); omega)) (by omega) rfl ?_
    refine E_if_ne (x := ((((((u) / 2 ^ g)) &&& 1) : Nat) : Int)) rfl (by decide) (fun h_2 => ?_) (fun h_2 => ?_)
    · refine E_go (p' := 24) (L' := [some (aA 10), some (aI ((g : Nat) : Int))]) (st' := []) rfl rfl rfl ?_
      refine E_s (p' := 25) (st' := aI 0 :: _) rfl rfl ?_
      refine E_ret rfl rfl ?_
      refine q0 ?_
      unfold usb
      cases hal : (gmem R (g : Int) (Cn R)).all (sdR R)
      · exact Bool.and_false _
      · rw [hal, show bn (!true) = 0 from rfl] at hb9; omega
    · refine E_go (p' := 20) (L' := [some (aA 10), some (aI ((g : Nat) : Int))]) (st' := []) rfl rfl rfl ?_
      refine E_s (p' := 21) (st' := aI 1 :: _) rfl rfl ?_
      refine E_s (p' := 25) rfl rfl ?_
      refine E_ret rfl rfl ?_
      refine q1 ?_
      unfold usb
      rw [decide_eq_true (by omega)]
      cases hal : (gmem R (g : Int) (Cn R)).all (sdR R)
      · rw [hal, show bn (!false) = 1 from rfl] at hb9; omega
      · rfl
theorem yl_cw (hV : VR R) (hG : GA R m u) (hg : g < 12) (q1 : cbw R g = true → Q (some (aI 1)) (m, tl len)) (q0 : cbw R g = false → Q (some (aI 0)) (m, tl len)) : ∀ (d : Nat) (k : Nat), (glen R (g : Int) < k + d) → (k ≤ glen R (g : Int)) → E 109 4 [some (aA 10), some (aI ((g : Nat) : Int)), some (aI ((orV R g k : Nat) : Int)), some (aI ((k : Nat) : Int))] [] (m, tl len) Q := by
  intro d
  induction d with
  | zero => intro k hd hk; omega
  | succ d ih =>
    intro k hd hk
    have hgl := glen_le hV (g : Int)
    have ho := orV_lt hV k hk
    refine E_s (p' := 5) (st' := aI ((k : Nat) : Int) :: _) rfl rfl ?_
    refine E_s (p' := 6) (st' := aA 10 :: _) rfl rfl ?_
    refine E_gA (b := 13) rfl rfl rfl rfl rfl rfl ?_
    refine E_s (p' := 10) (st' := aI ((g : Nat) : Int) :: _) rfl rfl ?_
    refine E_ald (e := g) (N := 12) (v := ((glen R (g : Int) : Nat) : Int)) rfl rfl (rfl) (by omega) (hG.len (by omega)) ?_
    refine E_icmp_ge (x := ((k : Nat) : Int)) (y := ((glen R (g : Int) : Nat) : Int)) rfl (by decide) (fun h_1 => ?_) (fun h_1 => ?_)
    · refine E_go (p' := 34) (L' := [some (aA 10), some (aI ((g : Nat) : Int)), some (aI ((orV R g k : Nat) : Int)), some (aI ((k : Nat) : Int))]) (st' := []) rfl rfl rfl ?_
      refine E_s (p' := 35) (st' := aA 10 :: _) rfl rfl ?_
      refine E_s (p' := 36) (st' := aI ((g : Nat) : Int) :: _) rfl rfl ?_
      refine E_callV (k' := 110) (a := 10) (r := []) (L0 := [some (aA 10), some (aI ((g : Nat) : Int))]) rfl rfl rfl rfl rfl rfl rfl rfl rfl rfl ?_
      refine c_isUsable hV hG (g := g) (by omega) (fun hu9 => ?_) (fun hu9 => ?_)
      · refine E_go (p' := 39) (L' := [some (aA 10), some (aI ((g : Nat) : Int)), some (aI ((orV R g k : Nat) : Int)), some (aI ((k : Nat) : Int))]) (st' := [aI 1]) rfl rfl rfl ?_
        refine E_s (p' := 42) rfl rfl ?_
        refine E_s (p' := 43) (st' := aI ((orV R g k : Nat) : Int) :: _) rfl rfl ?_
        refine E_if_eq (x := ((orV R g k : Nat) : Int)) rfl (by decide) (fun h_2 => ?_) (fun h_2 => ?_)
        · refine E_go (p' := 50) (L' := [some (aA 10), some (aI ((g : Nat) : Int)), some (aI ((orV R g k : Nat) : Int)), some (aI ((k : Nat) : Int))]) (st' := []) rfl rfl rfl ?_
          refine E_s (p' := 51) (st' := aI 0 :: _) rfl rfl ?_
          refine E_ret rfl rfl ?_
          have ek : k = glen R (g : Int) := by omega
          subst ek
          refine q0 ?_
          unfold cbw
          rw [hu9]
          first
          | rfl
          | (rw [decide_eq_false (by omega)]; rfl)
        · refine E_go (p' := 46) (L' := [some (aA 10), some (aI ((g : Nat) : Int)), some (aI ((orV R g k : Nat) : Int)), some (aI ((k : Nat) : Int))]) (st' := []) rfl rfl rfl ?_
          refine E_s (p' := 47) (st' := aI 1 :: _) rfl rfl ?_
          refine E_s (p' := 51) rfl rfl ?_
          refine E_ret rfl rfl ?_
          have ek : k = glen R (g : Int) := by omega
          subst ek
          refine q1 ?_
          unfold cbw
          rw [hu9]
          rw [decide_eq_true (by omega)]; rfl
      · refine E_go (p' := 39) (L' := [some (aA 10), some (aI ((g : Nat) : Int)), some (aI ((orV R g k : Nat) : Int)), some (aI ((k : Nat) : Int))]) (st' := [aI 0]) rfl rfl rfl ?_
        refine E_s (p' := 50) rfl rfl ?_
        refine E_s (p' := 51) (st' := aI 0 :: _) rfl rfl ?_
        refine E_ret rfl rfl ?_
        have ek : k = glen R (g : Int) := by omega
        subst ek
        refine q0 ?_
        unfold cbw
        rw [hu9]
        first
        | rfl
        | (rw [decide_eq_false (by omega)]; rfl)
    · refine E_go (p' := 14) (L' := [some (aA 10), some (aI ((g : Nat) : Int)), some (aI ((orV R g k : Nat) : Int)), some (aI ((k : Nat) : Int))]) (st' := []) rfl rfl rfl ?_
      have hgb := gnu_b hV (show k < glen R (g : Int) by omega)
      refine E_s (p' := 15) (st' := aI ((orV R g k : Nat) : Int) :: _) rfl rfl ?_
      refine E_s (p' := 16) (st' := aA 10 :: _) rfl rfl ?_
      refine E_gA (b := 14) rfl rfl rfl rfl rfl rfl ?_
      refine E_s (p' := 20) (st' := aI ((g : Nat) : Int) :: _) rfl rfl ?_
      refine E_s (p' := 22) (st' := aI 60 :: _) rfl rfl ?_
      refine E_mul (v := ((60 * g : Nat) : Int)) rfl (by omega) (by omega) ?_
      refine E_s (p' := 24) (st' := aI ((k : Nat) : Int) :: _) rfl rfl ?_
      refine E_add (v := ((60 * g + k : Nat) : Int)) rfl (by omega) (by omega) ?_
      refine E_ald (e := 60 * g + k) (N := 720) (v := ((gnu R g k : Nat) : Int)) rfl rfl (rfl) (by omega) (hG.num (by omega) (by omega)) ?_
      refine E_or (x := orV R g k) (y := gnu R g k) (v := ((orV R g k) ||| (gnu R g k))) rfl (by omega) (by omega) rfl ?_
      refine E_s (p' := 28) (L' := [some (aA 10), some (aI ((g : Nat) : Int)), some (aI ((((orV R g k) ||| (gnu R g k)) : Nat) : Int)), some (aI ((k : Nat) : Int))]) rfl rfl ?_
      refine E_inc (x := ((k : Nat) : Int)) (w := ((k + 1 : Nat) : Int)) (L' := [some (aA 10), some (aI ((g : Nat) : Int)), some (aI ((((orV R g k) ||| (gnu R g k)) : Nat) : Int)), some (aI ((k + 1 : Nat) : Int))]) rfl rfl rfl (by omega) (by omega) rfl ?_
      refine E_s (p' := 4) rfl rfl ?_
      exact ih (k + 1) (by omega) (by omega)
theorem c_canBe (hV : VR R) (hG : GA R m u) (hg : g < 12) (q1 : cbw R g = true → Q (some (aI 1)) (m, tl len)) (q0 : cbw R g = false → Q (some (aI 0)) (m, tl len)) : E 109 0 [some (aA 10), some (aI ((g : Nat) : Int)), none, none] [] (m, tl len) Q := by
  refine E_s (p' := 1) (st' := aI 0 :: _) rfl rfl ?_
  refine E_s (p' := 2) (L' := [some (aA 10), some (aI ((g : Nat) : Int)), some (aI 0), none]) rfl rfl ?_
  refine E_s (p' := 3) (st' := aI 0 :: _) rfl rfl ?_
  refine E_s (p' := 4) (L' := [some (aA 10), some (aI ((g : Nat) : Int)), some (aI 0), some (aI 0)]) rfl rfl ?_
  exact yl_cw hV hG hg q1 q0 (glen R (g : Int) + 1) 0 (by omega) (by omega)
theorem yl_mt (hV : VR R) (hG : GA R m u) (hg : g < 12) (q : Q (some (aI ((mateN R g 12 : Nat) : Int))) (m, tl len)) : ∀ (d : Nat) (k : Nat), (12 < k + d) → (k ≤ 12) → E 112 4 [some (aA 10), some (aI ((g : Nat) : Int)), some (aI ((mateN R g k : Nat) : Int)), some (aI ((k : Nat) : Int))] [] (m, tl len) Q := by
  intro d
  induction d with
  | zero => intro k hd hk; omega
  | succ d ih =>
    intro k hd hk
    have hml := mateN_lt R g k hk
    refine E_s (p' := 5) (st' := aI ((k : Nat) : Int) :: _) rfl rfl ?_
    refine E_s (p' := 7) (st' := aI 12 :: _) rfl rfl ?_
    refine E_icmp_ge (x := ((k : Nat) : Int)) (y := 12) rfl (by decide) (fun h_1 => ?_) (fun h_1 => ?_)
    · refine E_go (p' := 50) (L' := [some (aA 10), some (aI ((g : Nat) : Int)), some (aI ((mateN R g k : Nat) : Int)), some (aI ((k : Nat) : Int))]) (st' := []) rfl rfl rfl ?_
      refine E_s (p' := 51) (st' := aI ((mateN R g k : Nat) : Int) :: _) rfl rfl ?_
      refine E_ret rfl rfl ?_
      have ek : k = 12 := by omega
      subst ek
      exact q
    · refine E_go (p' := 10) (L' := [some (aA 10), some (aI ((g : Nat) : Int)), some (aI ((mateN R g k : Nat) : Int)), some (aI ((k : Nat) : Int))]) (st' := []) rfl rfl rfl ?_
      have hpw : 2 ^ k < 2 ^ 12 := Nat.pow_lt_pow_right (by omega) (by omega)
      refine E_s (p' := 11) (st' := aI ((k : Nat) : Int) :: _) rfl rfl ?_
      refine E_s (p' := 12) (st' := aI ((g : Nat) : Int) :: _) rfl rfl ?_
      refine E_icmp_eq (x := ((k : Nat) : Int)) (y := ((g : Nat) : Int)) rfl (by decide) (fun h_2 => ?_) (fun h_2 => ?_)
      · refine E_go (p' := 44) (L' := [some (aA 10), some (aI ((g : Nat) : Int)), some (aI ((mateN R g k : Nat) : Int)), some (aI ((k : Nat) : Int))]) (st' := []) rfl rfl rfl ?_
        refine E_inc (x := ((k : Nat) : Int)) (w := ((k + 1 : Nat) : Int)) (L' := [some (aA 10), some (aI ((g : Nat) : Int)), some (aI ((mateN R g k : Nat) : Int)), some (aI ((k + 1 : Nat) : Int))]) rfl rfl rfl (by omega) (by omega) rfl ?_
        refine E_s (p' := 4) rfl rfl ?_
        have e9 : mateN R g (k + 1) = mateN R g k := by
          show (bif mateB R g k then _ else _) = _
          rw [show mateB R g k = false by unfold mateB; first | (rw [decide_eq_false (by omega)]; rfl) | (rw [decide_eq_true (by omega), hu9]; rfl) | (rw [decide_eq_true (by omega), hu9, decide_eq_false (by omega)]; rfl) | (rw [decide_eq_true (by omega), hu9, decide_eq_true (by omega)]; rfl)]
          rfl
        rw [← e9]
        exact ih (k + 1) (by omega) (by omega)
      · refine E_go (p' := 15) (L' := [some (aA 10), some (aI ((g : Nat) : Int)), some (aI ((mateN R g k : Nat) : Int)), some (aI ((k : Nat) : Int))]) (st' := []) rfl rfl rfl ?_
        refine E_s (p' := 16) (st' := aA 10 :: _) rfl rfl ?_
        refine E_s (p' := 17) (st' := aI ((k : Nat) : Int) :: _) rfl rfl ?_
        refine E_callV (k' := 110) (a := 10) (r := []) (L0 := [some (aA 10), some (aI ((k : Nat) : Int))]) rfl rfl rfl rfl rfl rfl rfl rfl rfl rfl ?_
        refine c_isUsable hV hG (g := k) (by omega) (fun hu9 => ?_) (fun hu9 => ?_)
        · refine E_go (p' := 20) (L' := [some (aA 10), some (aI ((g : Nat) : Int)), some (aI ((mateN R g k : Nat) : Int)), some (aI ((k : Nat) : Int))]) (st' := [aI 1]) rfl rfl rfl ?_
          refine E_s (p' := 23) rfl rfl ?_
          refine E_s (p' := 24) (st' := aA 10 :: _) rfl rfl ?_
          refine E_gA (b := 13) rfl rfl rfl rfl rfl rfl ?_
          refine E_s (p' := 28) (st' := aI ((k : Nat) : Int) :: _) rfl rfl ?_
          refine E_ald (e := k) (N := 12) (v := ((glen R (k : Int) : Nat) : Int)) rfl rfl (rfl) (by omega) (hG.len (by omega)) ?_
          refine E_s (p' := 30) (st' := aA 10 :: _) rfl rfl ?_
          refine E_gA (b := 13) rfl rfl rfl rfl rfl rfl ?_
          refine E_s (p' := 34) (st' := aI ((g : Nat) : Int) :: _) rfl rfl ?_
          refine E_ald (e := g) (N := 12) (v := ((glen R (g : Int) : Nat) : Int)) rfl rfl (rfl) (by omega) (hG.len (by omega)) ?_
          refine E_icmp_ne (x := ((glen R (k : Int) : Nat) : Int)) (y := ((glen R (g : Int) : Nat) : Int)) rfl (by decide) (fun h_3 => ?_) (fun h_3 => ?_)
          · refine E_go (p' := 44) (L' := [some (aA 10), some (aI ((g : Nat) : Int)), some (aI ((mateN R g k : Nat) : Int)), some (aI ((k : Nat) : Int))]) (st' := []) rfl rfl rfl ?_
            refine E_inc (x := ((k : Nat) : Int)) (w := ((k + 1 : Nat) : Int)) (L' := [some (aA 10), some (aI ((g : Nat) : Int)), some (aI ((mateN R g k : Nat) : Int)), some (aI ((k + 1 : Nat) : Int))]) rfl rfl rfl (by omega) (by omega) rfl ?_
            refine E_s (p' := 4) rfl rfl ?_
            have e9 : mateN R g (k + 1) = mateN R g k := by
              show (bif mateB R g k then _ else _) = _
              rw [show mateB R g k = false by unfold mateB; first | (rw [decide_eq_false (by omega)]; rfl) | (rw [decide_eq_true (by omega), hu9]; rfl) | (rw [decide_eq_true (by omega), hu9, decide_eq_false (by omega)]; rfl) | (rw [decide_eq_true (by omega), hu9, decide_eq_true (by omega)]; rfl)]
              rfl
            rw [← e9]
            exact ih (k + 1) (by omega) (by omega)
          · refine E_go (p' := 38) (L' := [some (aA 10), some (aI ((g : Nat) : Int)), some (aI ((mateN R g k : Nat) : Int)), some (aI ((k : Nat) : Int))]) (st' := []) rfl rfl rfl ?_
            refine E_s (p' := 39) (st' := aI ((mateN R g k : Nat) : Int) :: _) rfl rfl ?_
            refine E_s (p' := 40) (st' := aI 1 :: _) rfl rfl ?_
            refine E_s (p' := 41) (st' := aI ((k : Nat) : Int) :: _) rfl rfl ?_
            refine E_shl (x := 1) (y := k) (v := ((1) * 2 ^ k)) rfl (by omega) (by omega) rfl ?_
            refine E_or (x := mateN R g k) (y := ((1) * 2 ^ k)) (v := ((mateN R g k) ||| ((1) * 2 ^ k))) rfl (by omega) (by omega) rfl ?_
            refine E_s (p' := 44) (L' := [some (aA 10), some (aI ((g : Nat) : Int)), some (aI ((((mateN R g k) ||| ((1) * 2 ^ k)) : Nat) : Int)), some (aI ((k : Nat) : Int))]) rfl rfl ?_
            refine E_inc (x := ((k : Nat) : Int)) (w := ((k + 1 : Nat) : Int)) (L' := [some (aA 10), some (aI ((g : Nat) : Int)), some (aI ((((mateN R g k) ||| ((1) * 2 ^ k)) : Nat) : Int)), some (aI ((k + 1 : Nat) : Int))]) rfl rfl rfl (by omega) (by omega) rfl ?_
            refine E_s (p' := 4) rfl rfl ?_
            have e9 : mateN R g (k + 1) = ((mateN R g k) ||| ((1) * 2 ^ k)) := by
              show (bif mateB R g k then _ else _) = _
              rw [show mateB R g k = true by unfold mateB; first | (rw [decide_eq_false (by omega)]; rfl) | (rw [decide_eq_true (by omega), hu9]; rfl) | (rw [decide_eq_true (by omega), hu9, decide_eq_false (by omega)]; rfl) | (rw [decide_eq_true (by omega), hu9, decide_eq_true (by omega)]; rfl)]
              rfl
            rw [← e9]
            exact ih (k + 1) (by omega) (by omega)
        · refine E_go (p' := 20) (L' := [some (aA 10), some (aI ((g : Nat) : Int)), some (aI ((mateN R g k : Nat) : Int)), some (aI ((k : Nat) : Int))]) (st' := [aI 0]) rfl rfl rfl ?_
          refine E_s (p' := 44) rfl rfl ?_
          refine E_inc (x := ((k : Nat) : Int)) (w := ((k + 1 : Nat) : Int)) (L' := [some (aA 10), some (aI ((g : Nat) : Int)), some (aI ((mateN R g k : Nat) : Int)), some (aI ((k + 1 : Nat) : Int))]) rfl rfl rfl (by omega) (by omega) rfl ?_
          refine E_s (p' := 4) rfl rfl ?_
          have e9 : mateN R g (k + 1) = mateN R g k := by
            show (bif mateB R g k then _ else _) = _
            rw [show mateB R g k = false by unfold mateB; first | (rw [decide_eq_false (by omega)]; rfl) | (rw [decide_eq_true (by omega), hu9]; rfl) | (rw [decide_eq_true (by omega), hu9, decide_eq_false (by omega)]; rfl) | (rw [decide_eq_true (by omega), hu9, decide_eq_true (by omega)]; rfl)]
            rfl
          rw [← e9]
          exact ih (k + 1) (by omega) (by omega)
theorem c_mates (hV : VR R) (hG : GA R m u) (hg : g < 12) (q : Q (some (aI ((mateN R g 12 : Nat) : Int))) (m, tl len)) : E 112 0 [some (aA 10), some (aI ((g : Nat) : Int)), none, none] [] (m, tl len) Q := by
  refine E_s (p' := 1) (st' := aI 0 :: _) rfl rfl ?_
  refine E_s (p' := 2) (L' := [some (aA 10), some (aI ((g : Nat) : Int)), some (aI 0), none]) rfl rfl ?_
  refine E_s (p' := 3) (st' := aI 0 :: _) rfl rfl ?_
  refine E_s (p' := 4) (L' := [some (aA 10), some (aI ((g : Nat) : Int)), some (aI 0), some (aI 0)]) rfl rfl ?_
  exact yl_mt hV hG hg q 13 0 (by omega) (by omega)
end

theorem Rct_le5 {R : RD} (h : 1 ≤ RL R) (l : Nat) : Rct R l ≤ 100000 := by
  have h1 := RL_mx R
  unfold Rct
  cases hru : Run R
  · have h2 : RL R ≤ 5 := by rw [hru] at h1; exact h1
    have h3 : 10 ^ (RL R - 1 - l) ≤ 10 ^ 4 := Nat.pow_le_pow_right (by omega) (by omega)
    show 10 ^ (RL R - 1 - l) * 10 ≤ 100000
    omega
  · have h2 : RL R ≤ 6 := by rw [hru] at h1; exact h1
    have h3 : 10 ^ (RL R - 1 - l) ≤ 10 ^ 5 := Nat.pow_le_pow_right (by omega) (by omega)
    show 10 ^ (RL R - 1 - l) * 1 ≤ 100000
    omega
theorem rSum_le5 {R : RD} (h : 1 ≤ RL R) {c : Nat} : ∀ (l : List (Nat × (Nat × Nat))), (∀ q ∈ l, q.2.2 ≤ 30) → rSum R c l ≤ 3000000 * l.length := by
  intro l
  induction l with
  | nil => intro _; exact Nat.le_refl 0
  | cons q t ih =>
    intro hq
    have h1 := ih (fun p hp => hq p (List.mem_cons_of_mem _ hp))
    have h2 := hq q (List.mem_cons_self ..)
    have h3 : rSum R c (q :: t) = (bif lst R c (Rlo R q.1) then 0 else q.2.2 * Rct R (Rlo R q.1)) + rSum R c t := by unfold rSum; rw [List.map_cons, List.sum_cons]
    have h4 : (bif lst R c (Rlo R q.1) then 0 else q.2.2 * Rct R (Rlo R q.1)) ≤ 3000000 := by
      cases lst R c (Rlo R q.1)
      · exact Nat.le_trans (Nat.mul_le_mul h2 (Rct_le5 h _)) (by decide)
      · exact Nat.zero_le _
    rw [h3, List.length_cons]
    omega
theorem Rvl_b5 {R : RD} (hV : VR R) {c : Nat} (hc : c < Cn R) : Rvl R c ≤ 90000000 := by
  unfold Rvl
  split
  · omega
  · split
    · have h1 := rSum_le5 (c := c) (show 1 ≤ RL R by omega) (clsA R c) (cls_wb hV hc _ (Nat.le_refl _))
      have h2 := cls_len R c (Ck R c)
      have h3 := (hV.2.2.1 c hc).2.2.2.2.2
      have h4 : (clsA R c).length = (cls R c (Ck R c)).length := rfl
      omega
    · omega
theorem gnu_b5 {R : RD} (hV : VR R) {g j : Nat} (hj : j < glen R (g : Int)) : gnu R g j ≤ 90000000 := Rvl_b5 hV (gmem_lt _ (gN_mem hj))
/-- the i-th numbers of the GROUPS of a set together -/
def togN (R : RD) (b i : Nat) : Nat → Nat
  | 0 => 0
  | k + 1 => togN R b i k + (bif Nat.testBit b k then gnu R k i else 0)
def addB (R : RD) (g b : Nat) : Bool := (List.range (glen R (g : Int))).all fun i => decide (togN R b i 12 = gnu R g i)
theorem togN_le {R : RD} (hV : VR R) {b i n : Nat} (hb : ∀ k, k < 12 → Nat.testBit b k = true → glen R (k : Int) = n) (hi : i < n) : ∀ k, k ≤ 12 → togN R b i k ≤ 90000000 * k := by
  intro k
  induction k with
  | zero => intro _; exact Nat.le_refl 0
  | succ k ih =>
    intro hk
    have h1 := ih (by omega)
    show togN R b i k + _ ≤ _
    cases h2 : Nat.testBit b k
    · show togN R b i k + 0 ≤ _; omega
    · have h3 := gnu_b5 hV (g := k) (j := i) (by rw [hb k (by omega) h2]; exact hi)
      show togN R b i k + gnu R k i ≤ _; omega
theorem tb1 {b k : Nat} (h : (b / 2 ^ k) &&& 1 ≠ 0) : Nat.testBit b k = true := by
  rw [Nat.testBit_eq_decide_div_mod_eq]
  rw [Nat.and_one_is_mod] at h
  exact decide_eq_true (by omega)
theorem tb0 {b k : Nat} (h : (b / 2 ^ k) &&& 1 = 0) : Nat.testBit b k = false := by
  rw [Nat.testBit_eq_decide_div_mod_eq]
  rw [Nat.and_one_is_mod] at h
  exact decide_eq_false (by omega)
theorem addB_t {R : RD} {g b : Nat} (h : ∀ i, i < glen R (g : Int) → togN R b i 12 = gnu R g i) : addB R g b = true := by
  unfold addB
  rw [List.all_eq_true]
  intro i hi
  exact decide_eq_true (h i (List.mem_range.mp hi))
theorem addB_f {R : RD} {g b i : Nat} (hi : i < glen R (g : Int)) (h : togN R b i 12 ≠ gnu R g i) : addB R g b = false := by
  cases h9 : addB R g b
  · rfl
  · exfalso
    unfold addB at h9
    rw [List.all_eq_true] at h9
    exact h (of_decide_eq_true (h9 i (List.mem_range.mpr hi)))
section
variable {len : Nat} {m m0 : Mm} {Q : Option AV → Sx → Prop} {R : RD} {g u b : Nat}
theorem yl_a2 (hV : VR R) (hG : GA R m u) (hg : g < 12) (hb : b < 4096) (hbm : ∀ k, k < 12 → Nat.testBit b k = true → glen R (k : Int) = glen R (g : Int)) {i : Nat} (hi : i < glen R (g : Int)) (hk : E 114 61 [some (aA 10), some (aI ((g : Nat) : Int)), some (aI ((b : Nat) : Int)), some (aI ((i : Nat) : Int)), some (aI ((togN R b i 12 : Nat) : Int)), some (aI 12)] [] (m, tl len) Q) : ∀ (d : Nat) (k : Nat), (12 < k + d) → (k ≤ 12) → E 114 18 [some (aA 10), some (aI ((g : Nat) : Int)), some (aI ((b : Nat) : Int)), some (aI ((i : Nat) : Int)), some (aI ((togN R b i k : Nat) : Int)), some (aI ((k : Nat) : Int))] [] (m, tl len) Q := by
  intro d
  induction d with
  | zero => intro k hd hk9; omega
  | succ d ih =>
    intro k hd hk9
    have hgl := glen_le hV (g : Int)
    have hto := togN_le hV hbm hi k hk9
    refine E_s (p' := 20) (st' := aI ((k : Nat) : Int) :: _) rfl rfl ?_
    refine E_s (p' := 22) (st' := aI 12 :: _) rfl rfl ?_
    refine E_icmp_ge (x := ((k : Nat) : Int)) (y := 12) rfl (by decide) (fun h_1 => ?_) (fun h_1 => ?_)
    · refine E_go (p' := 61) (L' := [some (aA 10), some (aI ((g : Nat) : Int)), some (aI ((b : Nat) : Int)), some (aI ((i : Nat) : Int)), some (aI ((togN R b i k : Nat) : Int)), some (aI ((k : Nat) : Int))]) (st' := []) rfl rfl rfl ?_
      have ek : k = 12 := by omega
      subst ek
      exact hk
    · refine E_go (p' := 25) (L' := [some (aA 10), some (aI ((g : Nat) : Int)), some (aI ((b : Nat) : Int)), some (aI ((i : Nat) : Int)), some (aI ((togN R b i k : Nat) : Int)), some (aI ((k : Nat) : Int))]) (st' := []) rfl rfl rfl ?_
      refine E_s (p' := 27) (st' := aI ((togN R b i k : Nat) : Int) :: _) rfl rfl ?_
      refine E_s (p' := 28) (st' := aI ((b : Nat) : Int) :: _) rfl rfl ?_
      refine E_s (p' := 30) (st' := aI ((k : Nat) : Int) :: _) rfl rfl ?_
      refine E_shr (x := b) (y := k) (v := ((b) / 2 ^ k)) rfl (by first | omega | (have := Nat.div_le_self b (2 ^ k); omega)) (by omega) rfl ?_
      refine E_s (p' := 32) (st' := aI 1 :: _) rfl rfl ?_
      refine E_and (x := ((b) / 2 ^ k)) (y := 1) (v := ((((b) / 2 ^ k)) &&& 1)) rfl (by first | omega | (have := Nat.div_le_self b (2 ^ k); omega)) (by omega) rfl ?_
      refine E_if_eq (x := ((((((b) / 2 ^ k)) &&& 1) : Nat) : Int)) rfl (by decide) (fun h_2 => ?_) (fun h_2 => ?_)
      · refine E_go (p' := 51) (L' := [some (aA 10), some (aI ((g : Nat) : Int)), some (aI ((b : Nat) : Int)), some (aI ((i : Nat) : Int)), some (aI ((togN R b i k : Nat) : Int)), some (aI ((k : Nat) : Int))]) (st' := [aI ((togN R b i k : Nat) : Int)]) rfl rfl rfl ?_
        refine E_s (p' := 52) (st' := aI 0 :: _) rfl rfl ?_
        refine E_add (v := ((togN R b i k : Nat) : Int)) rfl (by omega) (by omega) ?_
        refine E_s (p' := 55) (L' := [some (aA 10), some (aI ((g : Nat) : Int)), some (aI ((b : Nat) : Int)), some (aI ((i : Nat) : Int)), some (aI ((togN R b i k : Nat) : Int)), some (aI ((k : Nat) : Int))]) rfl rfl ?_
        refine E_inc (x := ((k : Nat) : Int)) (w := ((k + 1 : Nat) : Int)) (L' := [some (aA 10), some (aI ((g : Nat) : Int)), some (aI ((b : Nat) : Int)), some (aI ((i : Nat) : Int)), some (aI ((togN R b i k : Nat) : Int)), some (aI ((k + 1 : Nat) : Int))]) rfl rfl rfl (by omega) (by omega) rfl ?_
        refine E_s (p' := 18) rfl rfl ?_
        have e9 : togN R b i (k + 1) = togN R b i k := by
          show togN R b i k + (bif Nat.testBit b k then gnu R k i else 0) = _
          rw [tb0 (by omega)]; rfl
        rw [← e9]
        exact ih (k + 1) (by omega) (by omega)
      · refine E_go (p' := 36) (L' := [some (aA 10), some (aI ((g : Nat) : Int)), some (aI ((b : Nat) : Int)), some (aI ((i : Nat) : Int)), some (aI ((togN R b i k : Nat) : Int)), some (aI ((k : Nat) : Int))]) (st' := [aI ((togN R b i k : Nat) : Int)]) rfl rfl rfl ?_
        have hgb := gnu_b5 hV (g := k) (j := i) (by rw [hbm k (by omega) (tb1 (by omega))]; omega)
        refine E_s (p' := 37) (st' := aA 10 :: _) rfl rfl ?_
        refine E_gA (b := 14) rfl rfl rfl rfl rfl rfl ?_
        refine E_s (p' := 42) (st' := aI ((k : Nat) : Int) :: _) rfl rfl ?_
        refine E_s (p' := 44) (st' := aI 60 :: _) rfl rfl ?_
        refine E_mul (v := ((60 * k : Nat) : Int)) rfl (by omega) (by omega) ?_
        refine E_s (p' := 46) (st' := aI ((i : Nat) : Int) :: _) rfl rfl ?_
        refine E_add (v := ((60 * k + i : Nat) : Int)) rfl (by omega) (by omega) ?_
        refine E_ald (e := 60 * k + i) (N := 720) (v := ((gnu R k i : Nat) : Int)) rfl rfl (rfl) (by omega) (hG.num (by omega) (by rw [hbm k (by omega) (tb1 (by omega))]; omega)) ?_
        refine E_s (p' := 52) rfl rfl ?_
        refine E_add (v := ((togN R b i k + gnu R k i : Nat) : Int)) rfl (by omega) (by omega) ?_
        refine E_s (p' := 55) (L' := [some (aA 10), some (aI ((g : Nat) : Int)), some (aI ((b : Nat) : Int)), some (aI ((i : Nat) : Int)), some (aI ((togN R b i k + gnu R k i : Nat) : Int)), some (aI ((k : Nat) : Int))]) rfl rfl ?_
        refine E_inc (x := ((k : Nat) : Int)) (w := ((k + 1 : Nat) : Int)) (L' := [some (aA 10), some (aI ((g : Nat) : Int)), some (aI ((b : Nat) : Int)), some (aI ((i : Nat) : Int)), some (aI ((togN R b i k + gnu R k i : Nat) : Int)), some (aI ((k + 1 : Nat) : Int))]) rfl rfl rfl (by omega) (by omega) rfl ?_
        refine E_s (p' := 18) rfl rfl ?_
        have e9 : togN R b i (k + 1) = togN R b i k + gnu R k i := by
          show togN R b i k + (bif Nat.testBit b k then gnu R k i else 0) = _
          rw [tb1 (by omega)]; rfl
        rw [← e9]
        exact ih (k + 1) (by omega) (by omega)
theorem yl_a1 (hV : VR R) (hG : GA R m u) (hg : g < 12) (hb : b < 4096) (hbm : ∀ k, k < 12 → Nat.testBit b k = true → glen R (k : Int) = glen R (g : Int)) (q1 : addB R g b = true → Q (some (aI 1)) (m, tl len)) (q0 : addB R g b = false → Q (some (aI 0)) (m, tl len))  : ∀ (d : Nat) (i : Nat) (x4 x5 : Option AV), (glen R (g : Int) < i + d) → (i ≤ glen R (g : Int)) → (∀ j, j < i → togN R b j 12 = gnu R g j) → E 114 2 [some (aA 10), some (aI ((g : Nat) : Int)), some (aI ((b : Nat) : Int)), some (aI ((i : Nat) : Int)), x4, x5] [] (m, tl len) Q := by
  intro d
  induction d with
  | zero => intro i x4 x5 hd hi I1; omega
  | succ d ih =>
    intro i x4 x5 hd hi I1
    have hgl := glen_le hV (g : Int)
    refine E_s (p' := 3) (st' := aI ((i : Nat) : Int) :: _) rfl rfl ?_
    refine E_s (p' := 4) (st' := aA 10 :: _) rfl rfl ?_
    refine E_gA (b := 13) rfl rfl rfl rfl rfl rfl ?_
    refine E_s (p' := 8) (st' := aI ((g : Nat) : Int) :: _) rfl rfl ?_
    refine E_ald (e := g) (N := 12) (v := ((glen R (g : Int) : Nat) : Int)) rfl rfl (rfl) (by omega) (hG.len (by omega)) ?_
    refine E_icmp_ge (x := ((i : Nat) : Int)) (y := ((glen R (g : Int) : Nat) : Int)) rfl (by decide) (fun h_1 => ?_) (fun h_1 => ?_)
    · refine E_go (p' := 85) (L' := [some (aA 10), some (aI ((g : Nat) : Int)), some (aI ((b : Nat) : Int)), some (aI ((i : Nat) : Int)), x4, x5]) (st' := []) rfl rfl rfl ?_
      refine E_s (p' := 86) (st' := aI 1 :: _) rfl rfl ?_
      refine E_ret rfl rfl ?_
      exact q1 (addB_t (fun j hj => I1 j (by omega)))
    · refine E_go (p' := 12) (L' := [some (aA 10), some (aI ((g : Nat) : Int)), some (aI ((b : Nat) : Int)), some (aI ((i : Nat) : Int)), x4, x5]) (st' := []) rfl rfl rfl ?_
      refine E_s (p' := 13) (st' := aI 0 :: _) rfl rfl ?_
      refine E_s (p' := 15) (L' := [some (aA 10), some (aI ((g : Nat) : Int)), some (aI ((b : Nat) : Int)), some (aI ((i : Nat) : Int)), some (aI 0), x5]) rfl rfl ?_
      refine E_s (p' := 16) (st' := aI 0 :: _) rfl rfl ?_
      refine E_s (p' := 18) (L' := [some (aA 10), some (aI ((g : Nat) : Int)), some (aI ((b : Nat) : Int)), some (aI ((i : Nat) : Int)), some (aI 0), some (aI 0)]) rfl rfl ?_
      refine yl_a2 hV hG hg hb hbm (i := i) (by omega) ?_ 13 0 (by omega) (by omega)
      refine E_s (p' := 63) (st' := aI ((togN R b i 12 : Nat) : Int) :: _) rfl rfl ?_
      refine E_s (p' := 64) (st' := aA 10 :: _) rfl rfl ?_
      refine E_gA (b := 14) rfl rfl rfl rfl rfl rfl ?_
      refine E_s (p' := 68) (st' := aI ((g : Nat) : Int) :: _) rfl rfl ?_
      refine E_s (p' := 70) (st' := aI 60 :: _) rfl rfl ?_
      refine E_mul (v := ((60 * g : Nat) : Int)) rfl (by omega) (by omega) ?_
      refine E_s (p' := 72) (st' := aI ((i : Nat) : Int) :: _) rfl rfl ?_
      refine E_add (v := ((60 * g + i : Nat) : Int)) rfl (by omega) (by omega) ?_
      refine E_ald (e := 60 * g + i) (N := 720) (v := ((gnu R g i : Nat) : Int)) rfl rfl (rfl) (by omega) (hG.num (by omega) (by omega)) ?_
      refine E_icmp_eq (x := ((togN R b i 12 : Nat) : Int)) (y := ((gnu R g i : Nat) : Int)) rfl (by decide) (fun h_2 => ?_) (fun h_2 => ?_)
      · refine E_go (p' := 79) (L' := [some (aA 10), some (aI ((g : Nat) : Int)), some (aI ((b : Nat) : Int)), some (aI ((i : Nat) : Int)), some (aI ((togN R b i 12 : Nat) : Int)), some (aI 12)]) (st' := []) rfl rfl rfl ?_
        refine E_inc (x := ((i : Nat) : Int)) (w := ((i + 1 : Nat) : Int)) (L' := [some (aA 10), some (aI ((g : Nat) : Int)), some (aI ((b : Nat) : Int)), some (aI ((i + 1 : Nat) : Int)), some (aI ((togN R b i 12 : Nat) : Int)), some (aI 12)]) rfl rfl rfl (by omega) (by omega) rfl ?_
        refine E_s (p' := 2) rfl rfl ?_
        refine ih (i + 1) _ _ (by omega) (by omega) (fun j hj => ?_)
        by_cases g9 : j = i
        · rw [g9]; omega
        · exact I1 j (by omega)
      · refine E_go (p' := 77) (L' := [some (aA 10), some (aI ((g : Nat) : Int)), some (aI ((b : Nat) : Int)), some (aI ((i : Nat) : Int)), some (aI ((togN R b i 12 : Nat) : Int)), some (aI 12)]) (st' := []) rfl rfl rfl ?_
        refine E_s (p' := 78) (st' := aI 0 :: _) rfl rfl ?_
        refine E_ret rfl rfl ?_
        exact q0 (addB_f (i := i) (by omega) (by omega))
theorem c_addsUp (hV : VR R) (hG : GA R m u) (hg : g < 12) (hb : b < 4096) (hbm : ∀ k, k < 12 → Nat.testBit b k = true → glen R (k : Int) = glen R (g : Int)) (q1 : addB R g b = true → Q (some (aI 1)) (m, tl len)) (q0 : addB R g b = false → Q (some (aI 0)) (m, tl len))  : E 114 0 [some (aA 10), some (aI ((g : Nat) : Int)), some (aI ((b : Nat) : Int)), none, none, none] [] (m, tl len) Q := by
  refine E_s (p' := 1) (st' := aI 0 :: _) rfl rfl ?_
  refine E_s (p' := 2) (L' := [some (aA 10), some (aI ((g : Nat) : Int)), some (aI ((b : Nat) : Int)), some (aI 0), none, none]) rfl rfl ?_
  exact yl_a1 hV hG hg hb hbm q1 q0 (glen R (g : Int) + 1) 0 _ _ (by omega) (by omega) (fun j hj => absurd hj (by omega))
end

theorem and_m12 {x M : Nat} (hM : M < 4096) : x &&& M = (x % 4096) &&& M := by
  have h1 : M &&& 4095 = M := by rw [show (4095 : Nat) = 2 ^ 12 - 1 from rfl, and_m]; exact Nat.mod_eq_of_lt hM
  have h2 : x &&& 4095 = x % 4096 := by rw [show (4095 : Nat) = 2 ^ 12 - 1 from rfl, and_m]
  rw [← h2, Nat.and_assoc, Nat.and_comm 4095 M, h1]
theorem b32_andneg {b M : Nat} (hM : M < 4096) (hb : b ≤ M) : b32 (fun a b => a &&& b) ((b : Int) - (M : Int)) (M : Int) = (((b + (4096 - M)) &&& M : Nat) : Int) := by
  have hle := @Nat.and_le_right (b + (4096 - M)) M
  unfold b32
  dsimp only
  have h : Int32.ofInt ((b : Int) - (M : Int)) &&& nI M = nI ((b + (4096 - M)) &&& M) := by
    apply Int32.toBitVec_inj.mp
    apply BitVec.eq_of_toNat_eq
    show (BitVec.ofInt 32 ((b : Int) - (M : Int)) &&& BitVec.ofNat 32 M).toNat = (BitVec.ofNat 32 _).toNat
    rw [BitVec.toNat_and, BitVec.toNat_ofInt, BitVec.toNat_ofNat, BitVec.toNat_ofNat, Nat.mod_eq_of_lt (show M < 2 ^ 32 by omega), Nat.mod_eq_of_lt (show (b + (4096 - M)) &&& M < 2 ^ 32 by omega), and_m12 hM, @and_m12 (b + (4096 - M)) M hM]
    congr 1
    omega
  rw [oI, h, nI_toInt (by omega)]
theorem E_andneg {k pc n : Nat} {L : Lc} {r : List AV} {Q : Option AV → Sx → Prop} {s : Sx} {b M v : Nat} (hi : ins k pc = some (.iand, n)) (hM : M < 4096) (hb : b ≤ M) (hv : (b + (4096 - M)) &&& M = v) (kk : E k (pc + n) L (aI (v : Int) :: r) s Q) : E k pc L (aI (M : Int) :: aI ((b : Int) - (M : Int)) :: r) s Q := by
  subst hv
  refine E_s hi ?_ kk
  rw [← b32_andneg hM hb]
  rfl
/-- the sets within M, one behind the other -/
def bsN (M : Nat) : Nat → Nat
  | 0 => 0
  | k + 1 => (bsN M k + (4096 - M)) &&& M
theorem bsN_le (M k : Nat) : bsN M k ≤ M := by
  cases k with
  | zero => exact Nat.zero_le _
  | succ k => exact Nat.and_le_right
theorem bsN_tb {M k x : Nat} (h : Nat.testBit (bsN M k) x = true) : Nat.testBit M x = true := by
  cases k with
  | zero => exact absurd h (by show ¬ Nat.testBit 0 x = true; rw [Nat.zero_testBit]; decide)
  | succ k =>
    have h : Nat.testBit ((bsN M k + (4096 - M)) &&& M) x = true := h
    rw [Nat.testBit_and] at h
    exact (Bool.and_eq_true_iff.mp h).2
def qlB (R : RD) (g b : Nat) : Bool := decide (2 ≤ pc12 b) && addB R g b
/-- what a GROUP adds to the GROUPINGS; none: more than 300 -/
def accS (R : RD) (g M : Nat) (l : List (Nat × Nat)) : Nat → Option (List (Nat × Nat))
  | 0 => some l
  | k + 1 => (accS R g M l k).bind fun t => bif qlB R g (bsN M (k + 1)) then (if t.length = 300 then none else some (t ++ [(g, bsN M (k + 1))])) else some t
theorem accS_none {R : RD} {g M : Nat} {l : List (Nat × Nat)} {k : Nat} (h : accS R g M l k = none) : ∀ n, k ≤ n → accS R g M l n = none := by
  intro n
  induction n with
  | zero => intro hk; have e9 : k = 0 := by omega
            subst e9; exact h
  | succ n ih =>
    intro hk
    by_cases e9 : k = n + 1
    · subst e9; exact h
    · show (accS R g M l n).bind _ = none
      rw [ih (by omega)]; rfl
/-- the class keeps these GROUPINGS -/
def FL (l : List (Nat × Nat)) (m : Mm) : Prop := l.length ≤ 300 ∧ m 10 2 = (l.length : Int) ∧ ∀ j, j < l.length → m 11 j = ((l.getD j (0, 0)).1 : Int) ∧ m 12 j = ((l.getD j (0, 0)).2 : Int)
/-- nothing but the GROUPINGS told has changed -/
def FrF (m m' : Mm) : Prop := ∀ b j, ¬ (b = 10 ∧ j = 2) → b ≠ 11 → b ≠ 12 → m' b j = m b j
theorem FL.add {l : List (Nat × Nat)} {m m' : Mm} {g b : Nat} (h : FL l m) (hl : l.length ≠ 300) (h1 : m' 10 2 = ((l.length + 1 : Nat) : Int)) (h2 : ∀ j, j < l.length → m' 11 j = m 11 j ∧ m' 12 j = m 12 j) (h3 : m' 11 l.length = (g : Int) ∧ m' 12 l.length = (b : Int)) : FL (l ++ [(g, b)]) m' := by
  obtain ⟨k1, k2, k3⟩ := h
  have e1 : (l ++ [(g, b)]).length = l.length + 1 := by rw [List.length_append]; rfl
  refine ⟨by omega, by rw [e1]; exact h1, fun j hj => ?_⟩
  rw [List.getD_eq_getElem?_getD]
  by_cases g9 : j = l.length
  · subst g9
    rw [List.getElem?_append_right (Nat.le_refl _), Nat.sub_self]
    exact h3
  · rw [List.getElem?_append_left (by omega), ← List.getD_eq_getElem?_getD]
    obtain ⟨k4, k5⟩ := k3 j (by omega)
    exact ⟨(h2 j (by omega)).1.trans k4, (h2 j (by omega)).2.trans k5⟩
theorem pc12_le (n : Nat) : pc12 n ≤ 12 := by unfold pc12; omega
section
variable {len : Nat} {m m0 : Mm} {Q : Option AV → Sx → Prop} {R : RD} {g u M n : Nat} {l0 : List (Nat × Nat)}
theorem yl_ss (hV : VR R) (hG : GA R m0 u) (hg : g < 12) (hM : M < 4096) (hbm : ∀ k, k < 12 → Nat.testBit M k = true → glen R (k : Int) = glen R (g : Int)) (hn : n < 4096) (q1 : ∀ (m1 : Mm) (l1 : List (Nat × Nat)), accS R g M l0 n = some l1 → FL l1 m1 → FrF m0 m1 → Q (some (aI 1)) (m1, tl len)) (q0 : ∀ m1 : Mm, accS R g M l0 n = none → FrF m0 m1 → Q (some (aI 0)) (m1, tl len))  : ∀ (d : Nat) (k : Nat) (m : Mm) (t : List (Nat × Nat)), (n < k + d) → (k ≤ n) → (accS R g M l0 k = some t) → (FL t m) → (FrF m0 m) → E 111 19 [some (aA 10), some (aI ((g : Nat) : Int)), some (aI ((M : Nat) : Int)), some (aI ((n + 1 : Nat) : Int)), some (aI ((bsN M k : Nat) : Int)), some (aI ((k + 1 : Nat) : Int))] [] (m, tl len) Q := by
  intro d
  induction d with
  | zero => intro k m t hd hk I1 I2 I3; omega
  | succ d ih =>
    intro k m t hd hk I1 I2 I3
    have hbl := bsN_le M k
    have hb2 := bsN_le M (k + 1)
    have h300 := I2.1
    have hGm : GA R m u := hG.of (fun b j hb => I3 b j (by omega) (by omega) (by omega))
    have hp12 := pc12_le (bsN M (k + 1))
    refine E_s (p' := 21) (st' := aI ((k + 1 : Nat) : Int) :: _) rfl rfl ?_
    refine E_s (p' := 22) (st' := aI ((n + 1 : Nat) : Int) :: _) rfl rfl ?_
    refine E_icmp_ge (x := ((k + 1 : Nat) : Int)) (y := ((n + 1 : Nat) : Int)) rfl (by decide) (fun h_1 => ?_) (fun h_1 => ?_)
    · refine E_go (p' := 104) (L' := [some (aA 10), some (aI ((g : Nat) : Int)), some (aI ((M : Nat) : Int)), some (aI ((n + 1 : Nat) : Int)), some (aI ((bsN M k : Nat) : Int)), some (aI ((k + 1 : Nat) : Int))]) (st' := []) rfl rfl rfl ?_
      refine E_s (p' := 105) (st' := aI 1 :: _) rfl rfl ?_
      refine E_ret rfl rfl ?_
      have ek : k + 1 = n + 1 := by omega
      have ek : k = n := by omega
      subst ek
      exact q1 m t I1 I2 I3
    · refine E_go (p' := 25) (L' := [some (aA 10), some (aI ((g : Nat) : Int)), some (aI ((M : Nat) : Int)), some (aI ((n + 1 : Nat) : Int)), some (aI ((bsN M k : Nat) : Int)), some (aI ((k + 1 : Nat) : Int))]) (st' := []) rfl rfl rfl ?_
      refine E_s (p' := 27) (st' := aI ((bsN M k : Nat) : Int) :: _) rfl rfl ?_
      refine E_s (p' := 28) (st' := aI ((M : Nat) : Int) :: _) rfl rfl ?_
      refine E_sub (v := ((bsN M k : Int) - (M : Int))) rfl (by omega) (by omega) ?_
      refine E_s (p' := 30) (st' := aI ((M : Nat) : Int) :: _) rfl rfl ?_
      refine E_andneg (b := bsN M k) (M := M) (v := bsN M (k + 1)) rfl (by omega) (by omega) rfl ?_
      refine E_s (p' := 33) (L' := [some (aA 10), some (aI ((g : Nat) : Int)), some (aI ((M : Nat) : Int)), some (aI ((n + 1 : Nat) : Int)), some (aI ((bsN M (k + 1) : Nat) : Int)), some (aI ((k + 1 : Nat) : Int))]) rfl rfl ?_
      refine E_s (p' := 35) (st' := aI ((bsN M (k + 1) : Nat) : Int) :: _) rfl rfl ?_
      refine E_callL (p' := 38) (L0 := [some (aI ((bsN M (k + 1) : Nat) : Int))]) rfl rfl rfl ?_
      refine c_bc (n := bsN M (k + 1)) (by omega) ?_
      refine E_go (p' := 38) (L' := [some (aA 10), some (aI ((g : Nat) : Int)), some (aI ((M : Nat) : Int)), some (aI ((n + 1 : Nat) : Int)), some (aI ((bsN M (k + 1) : Nat) : Int)), some (aI ((k + 1 : Nat) : Int))]) (st' := [aI ((pc12 (bsN M (k + 1)) : Nat) : Int)]) rfl rfl rfl ?_
      refine E_s (p' := 39) (st' := aI 2 :: _) rfl rfl ?_
      refine E_icmp_lt (x := ((pc12 (bsN M (k + 1)) : Nat) : Int)) (y := 2) rfl (by decide) (fun h_2 => ?_) (fun h_2 => ?_)
      · refine E_go (p' := 98) (L' := [some (aA 10), some (aI ((g : Nat) : Int)), some (aI ((M : Nat) : Int)), some (aI ((n + 1 : Nat) : Int)), some (aI ((bsN M (k + 1) : Nat) : Int)), some (aI ((k + 1 : Nat) : Int))]) (st' := []) rfl rfl rfl ?_
        refine E_inc (x := ((k + 1 : Nat) : Int)) (w := ((k + 2 : Nat) : Int)) (L' := [some (aA 10), some (aI ((g : Nat) : Int)), some (aI ((M : Nat) : Int)), some (aI ((n + 1 : Nat) : Int)), some (aI ((bsN M (k + 1) : Nat) : Int)), some (aI ((k + 2 : Nat) : Int))]) rfl rfl rfl (by omega) (by omega) rfl ?_
        refine E_s (p' := 19) rfl rfl ?_
        have e9 : accS R g M l0 (k + 1) = some t := by
          show (accS R g M l0 k).bind _ = _
          rw [I1]
          show (bif qlB R g (bsN M (k + 1)) then _ else _) = _
          rw [show qlB R g (bsN M (k + 1)) = false by unfold qlB; first | (rw [decide_eq_false (by omega)]; rfl) | (rw [ha9]; exact Bool.and_false _)]; rfl
        exact ih (k + 1) m t (by omega) (by omega) e9 I2 I3
      · refine E_go (p' := 42) (L' := [some (aA 10), some (aI ((g : Nat) : Int)), some (aI ((M : Nat) : Int)), some (aI ((n + 1 : Nat) : Int)), some (aI ((bsN M (k + 1) : Nat) : Int)), some (aI ((k + 1 : Nat) : Int))]) (st' := []) rfl rfl rfl ?_
        refine E_s (p' := 43) (st' := aA 10 :: _) rfl rfl ?_
        refine E_s (p' := 44) (st' := aI ((g : Nat) : Int) :: _) rfl rfl ?_
        refine E_s (p' := 46) (st' := aI ((bsN M (k + 1) : Nat) : Int) :: _) rfl rfl ?_
        refine E_callV (k' := 114) (a := 10) (r := []) (L0 := [some (aA 10), some (aI ((g : Nat) : Int)), some (aI ((bsN M (k + 1) : Nat) : Int)), none, none, none]) rfl rfl rfl rfl rfl rfl rfl rfl rfl rfl ?_
        refine c_addsUp hV hGm hg (b := bsN M (k + 1)) (by omega) (fun x hx hx2 => hbm x hx (bsN_tb hx2)) (fun ha9 => ?_) (fun ha9 => ?_)
        · refine E_go (p' := 49) (L' := [some (aA 10), some (aI ((g : Nat) : Int)), some (aI ((M : Nat) : Int)), some (aI ((n + 1 : Nat) : Int)), some (aI ((bsN M (k + 1) : Nat) : Int)), some (aI ((k + 1 : Nat) : Int))]) (st' := [aI 1]) rfl rfl rfl ?_
          refine E_s (p' := 55) rfl rfl ?_
          refine E_s (p' := 56) (st' := aA 10 :: _) rfl rfl ?_
          refine E_gI (v := ((t.length : Nat) : Int)) rfl rfl rfl rfl I2.2.1 ?_
          refine E_s (p' := 62) (st' := aI 300 :: _) rfl rfl ?_
          refine E_icmp_ne (x := ((t.length : Nat) : Int)) (y := 300) rfl (by decide) (fun h_3 => ?_) (fun h_3 => ?_)
          · refine E_go (p' := 67) (L' := [some (aA 10), some (aI ((g : Nat) : Int)), some (aI ((M : Nat) : Int)), some (aI ((n + 1 : Nat) : Int)), some (aI ((bsN M (k + 1) : Nat) : Int)), some (aI ((k + 1 : Nat) : Int))]) (st' := []) rfl rfl rfl ?_
            refine E_s (p' := 68) (st' := aA 10 :: _) rfl rfl ?_
            refine E_gA (b := 11) rfl rfl rfl rfl rfl rfl ?_
            refine E_s (p' := 72) (st' := aA 10 :: _) rfl rfl ?_
            refine E_gI (v := ((t.length : Nat) : Int)) rfl rfl rfl rfl I2.2.1 ?_
            refine E_s (p' := 76) (st' := aI ((g : Nat) : Int) :: _) rfl rfl ?_
            refine E_ast (e := t.length) (N := 300) rfl rfl (rfl) (by omega) ?_
            refine E_s (p' := 78) (st' := aA 10 :: _) rfl rfl ?_
            refine E_gA (b := 12) rfl rfl rfl rfl rfl rfl ?_
            refine E_s (p' := 82) (st' := aA 10 :: _) rfl rfl ?_
            refine E_gI (v := ((t.length : Nat) : Int)) rfl rfl rfl rfl ((up2_ne (by omega)).trans (I2.2.1)) ?_
            refine E_s (p' := 87) (st' := aI ((bsN M (k + 1) : Nat) : Int) :: _) rfl rfl ?_
            refine E_ast (e := t.length) (N := 300) rfl rfl (rfl) (by omega) ?_
            refine E_s (p' := 89) (st' := aA 10 :: _) rfl rfl ?_
            refine E_s (p' := 90) (st' := aA 10 :: _) rfl rfl ?_
            refine E_gI (v := ((t.length : Nat) : Int)) rfl rfl rfl rfl ((up2_ne (by omega)).trans ((up2_ne (by omega)).trans (I2.2.1))) ?_
            refine E_s (p' := 94) (st' := aI 1 :: _) rfl rfl ?_
            refine E_add (v := ((t.length + 1 : Nat) : Int)) rfl (by omega) (by omega) ?_
            refine E_pI rfl rfl rfl rfl (Or.inl rfl) ?_
            refine E_inc (x := ((k + 1 : Nat) : Int)) (w := ((k + 2 : Nat) : Int)) (L' := [some (aA 10), some (aI ((g : Nat) : Int)), some (aI ((M : Nat) : Int)), some (aI ((n + 1 : Nat) : Int)), some (aI ((bsN M (k + 1) : Nat) : Int)), some (aI ((k + 2 : Nat) : Int))]) rfl rfl rfl (by omega) (by omega) rfl ?_
            refine E_s (p' := 19) rfl rfl ?_
            have e9 : accS R g M l0 (k + 1) = some (t ++ [(g, bsN M (k + 1))]) := by
              show (accS R g M l0 k).bind _ = _
              rw [I1]
              show (bif qlB R g (bsN M (k + 1)) then _ else _) = _
              rw [show qlB R g (bsN M (k + 1)) = true by unfold qlB; rw [decide_eq_true (by omega), ha9]; rfl]
              show (if t.length = 300 then none else _) = _
              rw [if_neg (by omega)]
            refine ih (k + 1) _ _ (by omega) (by omega) e9 (I2.add (by omega) up2_eq (fun j hj => ⟨(up2_ne (by omega)).trans ((up2_ne (by omega)).trans (up2_sl (by omega))), (up2_ne (by omega)).trans ((up2_sl (by omega)).trans (up2_ne (by omega)))⟩) ⟨(up2_ne (by omega)).trans ((up2_ne (by omega)).trans up2_eq), (up2_ne (by omega)).trans up2_eq⟩) (fun b j g1 g2 g3 => (up2_o g1).trans ((up2_ne g3).trans ((up2_ne g2).trans (I3 b j g1 g2 g3))))
          · refine E_go (p' := 65) (L' := [some (aA 10), some (aI ((g : Nat) : Int)), some (aI ((M : Nat) : Int)), some (aI ((n + 1 : Nat) : Int)), some (aI ((bsN M (k + 1) : Nat) : Int)), some (aI ((k + 1 : Nat) : Int))]) (st' := []) rfl rfl rfl ?_
            refine E_s (p' := 66) (st' := aI 0 :: _) rfl rfl ?_
            refine E_ret rfl rfl ?_
            have e9 : accS R g M l0 (k + 1) = none := by
              show (accS R g M l0 k).bind _ = _
              rw [I1]
              show (bif qlB R g (bsN M (k + 1)) then _ else _) = _
              rw [show qlB R g (bsN M (k + 1)) = true by unfold qlB; rw [decide_eq_true (by omega), ha9]; rfl]
              show (if t.length = 300 then none else _) = _
              rw [if_pos (by omega)]
            exact q0 m (accS_none e9 n (by omega)) I3
        · refine E_go (p' := 49) (L' := [some (aA 10), some (aI ((g : Nat) : Int)), some (aI ((M : Nat) : Int)), some (aI ((n + 1 : Nat) : Int)), some (aI ((bsN M (k + 1) : Nat) : Int)), some (aI ((k + 1 : Nat) : Int))]) (st' := [aI 0]) rfl rfl rfl ?_
          refine E_s (p' := 52) rfl rfl ?_
          refine E_s (p' := 98) rfl rfl ?_
          refine E_inc (x := ((k + 1 : Nat) : Int)) (w := ((k + 2 : Nat) : Int)) (L' := [some (aA 10), some (aI ((g : Nat) : Int)), some (aI ((M : Nat) : Int)), some (aI ((n + 1 : Nat) : Int)), some (aI ((bsN M (k + 1) : Nat) : Int)), some (aI ((k + 2 : Nat) : Int))]) rfl rfl rfl (by omega) (by omega) rfl ?_
          refine E_s (p' := 19) rfl rfl ?_
          have e9 : accS R g M l0 (k + 1) = some t := by
            show (accS R g M l0 k).bind _ = _
            rw [I1]
            show (bif qlB R g (bsN M (k + 1)) then _ else _) = _
            rw [show qlB R g (bsN M (k + 1)) = false by unfold qlB; first | (rw [decide_eq_false (by omega)]; rfl) | (rw [ha9]; exact Bool.and_false _)]; rfl
          exact ih (k + 1) m t (by omega) (by omega) e9 I2 I3
end

theorem mateN_tb {R : RD} {g x : Nat} : ∀ k, Nat.testBit (mateN R g k) x = true → mateB R g x = true := by
  intro k
  induction k with
  | zero => intro h; exact absurd h (by show ¬ Nat.testBit 0 x = true; rw [Nat.zero_testBit]; decide)
  | succ k ih =>
    intro h
    have h : Nat.testBit (bif mateB R g k then mateN R g k ||| 1 * 2 ^ k else mateN R g k) x = true := h
    cases h2 : mateB R g k
    · rw [h2] at h; exact ih h
    · rw [h2] at h
      have h : Nat.testBit (mateN R g k ||| 1 * 2 ^ k) x = true := h
      rw [Nat.testBit_or, Nat.one_mul, Nat.testBit_two_pow] at h
      rcases Bool.or_eq_true_iff.mp h with h3 | h3
      · exact ih h3
      · have h4 := of_decide_eq_true h3
        rw [← h4]; exact h2
theorem mate_len {R : RD} {g x : Nat} (h : Nat.testBit (mateN R g 12) x = true) : glen R (x : Int) = glen R (g : Int) := by
  have h1 := mateN_tb 12 h
  unfold mateB at h1
  exact of_decide_eq_true (Bool.and_eq_true_iff.mp (Bool.and_eq_true_iff.mp h1).2).2
def setN (R : RD) (g : Nat) : Nat := 1 * 2 ^ pc12 (mateN R g 12) - 1
theorem setN_e (R : RD) (g : Nat) : ((1 * 2 ^ pc12 (mateN R g 12) : Nat) : Int) = ((setN R g + 1 : Nat) : Int) ∧ setN R g < 4096 := by
  have h1 := pc12_le (mateN R g 12)
  have h2 : 0 < 2 ^ pc12 (mateN R g 12) := Nat.pow_pos (by omega)
  have h3 : 2 ^ pc12 (mateN R g 12) ≤ 2 ^ 12 := Nat.pow_le_pow_right (by omega) h1
  unfold setN
  refine ⟨?_, by omega⟩
  rw [show 1 * 2 ^ pc12 (mateN R g 12) - 1 + 1 = 1 * 2 ^ pc12 (mateN R g 12) by omega]
/-- the GROUPINGS of a RECORD; none: more than 300 -/
def accG (R : RD) : Nat → Option (List (Nat × Nat))
  | 0 => some []
  | g + 1 => (accG R g).bind fun t => bif cbw R g then accS R g (mateN R g 12) t (setN R g) else some t
theorem accG_none {R : RD} {k : Nat} (h : accG R k = none) : ∀ n, k ≤ n → accG R n = none := by
  intro n
  induction n with
  | zero => intro hk; have e9 : k = 0 := by omega
            subst e9; exact h
  | succ n ih =>
    intro hk
    by_cases e9 : k = n + 1
    · subst e9; exact h
    · show (accG R n).bind _ = none
      rw [ih (by omega)]; rfl
def fndL (R : RD) : List (Nat × Nat) := (accG R 12).getD []
def fndV (R : RD) : Int := match accG R 12 with
  | none => -3
  | some l => (l.length : Int)
def fdL (S : Nat → RD) (r : Int) (l : List (Nat × Nat)) : List (Nat × Nat) := if 0 ≤ r ∧ r ≤ 3 then fndL (S r.toNat) else l
def fdV (S : Nat → RD) (r : Int) : Int := if 0 ≤ r ∧ r ≤ 3 then fndV (S r.toNat) else -2
section
variable {len : Nat} {m m0 : Mm} {Q : Option AV → Sx → Prop} {R : RD} {S : Nat → RD} {a g u : Nat} {r : Int} {l0 l : List (Nat × Nat)}
theorem c_seekSets (hV : VR R) (hG : GA R m0 u) (hg : g < 12) (hl : FL l0 m0) (q1 : ∀ (m1 : Mm) (l1 : List (Nat × Nat)), accS R g (mateN R g 12) l0 (setN R g) = some l1 → FL l1 m1 → FrF m0 m1 → Q (some (aI 1)) (m1, tl len)) (q0 : ∀ m1 : Mm, accS R g (mateN R g 12) l0 (setN R g) = none → FrF m0 m1 → Q (some (aI 0)) (m1, tl len))  : E 111 0 [some (aA 10), some (aI ((g : Nat) : Int)), none, none, none, none] [] (m0, tl len) Q := by
  have hml := mateN_lt R g 12 (by omega)
  have hp12 := pc12_le (mateN R g 12)
  have hse := setN_e R g
  have h3 : 2 ^ pc12 (mateN R g 12) ≤ 2 ^ 12 := Nat.pow_le_pow_right (by omega) hp12
  refine E_s (p' := 1) (st' := aA 10 :: _) rfl rfl ?_
  refine E_s (p' := 2) (st' := aI ((g : Nat) : Int) :: _) rfl rfl ?_
  refine E_callV (k' := 112) (a := 10) (r := []) (L0 := [some (aA 10), some (aI ((g : Nat) : Int)), none, none]) rfl rfl rfl rfl rfl rfl rfl rfl rfl rfl ?_
  refine c_mates hV hG hg ?_
  refine E_go (p' := 5) (L' := [some (aA 10), some (aI ((g : Nat) : Int)), none, none, none, none]) (st' := [aI ((mateN R g 12 : Nat) : Int)]) rfl rfl rfl ?_
  refine E_s (p' := 6) (L' := [some (aA 10), some (aI ((g : Nat) : Int)), some (aI ((mateN R g 12 : Nat) : Int)), none, none, none]) rfl rfl ?_
  refine E_s (p' := 7) (st' := aI 1 :: _) rfl rfl ?_
  refine E_s (p' := 8) (st' := aI ((mateN R g 12 : Nat) : Int) :: _) rfl rfl ?_
  refine E_callL (p' := 11) (L0 := [some (aI ((mateN R g 12 : Nat) : Int))]) rfl rfl rfl ?_
  refine c_bc (n := mateN R g 12) (by omega) ?_
  refine E_go (p' := 11) (L' := [some (aA 10), some (aI ((g : Nat) : Int)), some (aI ((mateN R g 12 : Nat) : Int)), none, none, none]) (st' := [aI ((pc12 (mateN R g 12) : Nat) : Int), aI 1]) rfl rfl rfl ?_
  refine E_shl (x := 1) (y := pc12 (mateN R g 12)) (v := ((1) * 2 ^ (pc12 (mateN R g 12)))) rfl (by omega) (by omega) rfl ?_
  refine E_s (p' := 13) (L' := [some (aA 10), some (aI ((g : Nat) : Int)), some (aI ((mateN R g 12 : Nat) : Int)), some (aI ((((1) * 2 ^ (pc12 (mateN R g 12))) : Nat) : Int)), none, none]) rfl rfl ?_
  refine E_s (p' := 14) (st' := aI 0 :: _) rfl rfl ?_
  refine E_s (p' := 16) (L' := [some (aA 10), some (aI ((g : Nat) : Int)), some (aI ((mateN R g 12 : Nat) : Int)), some (aI ((((1) * 2 ^ (pc12 (mateN R g 12))) : Nat) : Int)), some (aI 0), none]) rfl rfl ?_
  refine E_s (p' := 17) (st' := aI 1 :: _) rfl rfl ?_
  refine E_s (p' := 19) (L' := [some (aA 10), some (aI ((g : Nat) : Int)), some (aI ((mateN R g 12 : Nat) : Int)), some (aI ((((1) * 2 ^ (pc12 (mateN R g 12))) : Nat) : Int)), some (aI 0), some (aI 1)]) rfl rfl ?_
  refine E_go (p' := 19) (L' := [some (aA 10), some (aI ((g : Nat) : Int)), some (aI ((mateN R g 12 : Nat) : Int)), some (aI ((setN R g + 1 : Nat) : Int)), some (aI 0), some (aI 1)]) (st' := []) rfl (by rw [← hse.1]) rfl ?_
  exact yl_ss hV hG hg hml (fun x hx hx2 => mate_len hx2) hse.2 q1 q0 (setN R g + 1) 0 m0 l0 (by omega) (by omega) rfl hl (fun b j _ _ _ => rfl)
theorem yl_fs (hV : VR R) (hG : GA R m0 u) (q : ∀ m1 : Mm, Fx 10 14 m0 m1 → FL (fndL R) m1 → Q (some (aI (fndV R))) (m1, tl len))  : ∀ (d : Nat) (g : Nat) (m : Mm) (t : List (Nat × Nat)), (12 < g + d) → (g ≤ 12) → (accG R g = some t) → (FL t m) → (FrF m0 m) → E 107 12 [some (aA 10), some (aA a), some (aI ((g : Nat) : Int))] [] (m, tl len) Q := by
  intro d
  induction d with
  | zero => intro g m t hd hk I1 I2 I3; omega
  | succ d ih =>
    intro g m t hd hk I1 I2 I3
    have hGm : GA R m u := hG.of (fun b j hb => I3 b j (by omega) (by omega) (by omega))
    refine E_s (p' := 13) (st' := aI ((g : Nat) : Int) :: _) rfl rfl ?_
    refine E_s (p' := 15) (st' := aI 12 :: _) rfl rfl ?_
    refine E_icmp_ge (x := ((g : Nat) : Int)) (y := 12) rfl (by decide) (fun h_1 => ?_) (fun h_1 => ?_)
    · refine E_go (p' := 48) (L' := [some (aA 10), some (aA a), some (aI ((g : Nat) : Int))]) (st' := []) rfl rfl rfl ?_
      refine E_s (p' := 49) (st' := aA 10 :: _) rfl rfl ?_
      refine E_gI (v := ((t.length : Nat) : Int)) rfl rfl rfl rfl I2.2.1 ?_
      refine E_ret rfl rfl ?_
      have ek : g = 12 := by omega
      subst ek
      have e7 : fndV R = (t.length : Int) := by unfold fndV; rw [I1]
      have e6 : fndL R = t := by unfold fndL; rw [I1]; rfl
      rw [e7, e6] at q
      exact q m (fun b j hb => I3 b j (by omega) (by omega) (by omega)) I2
    · refine E_go (p' := 18) (L' := [some (aA 10), some (aA a), some (aI ((g : Nat) : Int))]) (st' := []) rfl rfl rfl ?_
      refine E_s (p' := 19) (st' := aA 10 :: _) rfl rfl ?_
      refine E_s (p' := 20) (st' := aI ((g : Nat) : Int) :: _) rfl rfl ?_
      refine E_callV (k' := 109) (a := 10) (r := []) (L0 := [some (aA 10), some (aI ((g : Nat) : Int)), none, none]) rfl rfl rfl rfl rfl rfl rfl rfl rfl rfl ?_
      refine c_canBe hV hGm (g := g) (by omega) (fun hc9 => ?_) (fun hc9 => ?_)
      · refine E_go (p' := 23) (L' := [some (aA 10), some (aA a), some (aI ((g : Nat) : Int))]) (st' := [aI 1]) rfl rfl rfl ?_
        refine E_s (p' := 26) rfl rfl ?_
        refine E_s (p' := 27) (st' := aA 10 :: _) rfl rfl ?_
        refine E_s (p' := 28) (st' := aI ((g : Nat) : Int) :: _) rfl rfl ?_
        refine E_callV (k' := 111) (a := 10) (r := []) (L0 := [some (aA 10), some (aI ((g : Nat) : Int)), none, none, none, none]) rfl rfl rfl rfl rfl rfl rfl rfl rfl rfl ?_
        refine c_seekSets hV hGm (g := g) (by omega) I2 (fun m1 l1 hs1 hs2 hs3 => ?_) (fun m1 hs1 hs2 => ?_)
        · refine E_go (p' := 31) (L' := [some (aA 10), some (aA a), some (aI ((g : Nat) : Int))]) (st' := [aI 1]) rfl rfl rfl ?_
          refine E_s (p' := 42) rfl rfl ?_
          refine E_inc (x := ((g : Nat) : Int)) (w := ((g + 1 : Nat) : Int)) (L' := [some (aA 10), some (aA a), some (aI ((g + 1 : Nat) : Int))]) rfl rfl rfl (by omega) (by omega) rfl ?_
          refine E_s (p' := 12) rfl rfl ?_
          have e9 : accG R (g + 1) = some l1 := by
            show (accG R g).bind _ = _
            rw [I1]
            show (bif cbw R g then _ else _) = _
            rw [hc9]; exact hs1
          exact ih (g + 1) m1 l1 (by omega) (by omega) e9 hs2 (fun b j g1 g2 g3 => (hs3 b j g1 g2 g3).trans (I3 b j g1 g2 g3))
        · refine E_go (p' := 31) (L' := [some (aA 10), some (aA a), some (aI ((g : Nat) : Int))]) (st' := [aI 0]) rfl rfl rfl ?_
          refine E_s (p' := 34) rfl rfl ?_
          refine E_s (p' := 35) (st' := aA 10 :: _) rfl rfl ?_
          refine E_s (p' := 36) (st' := aI 0 :: _) rfl rfl ?_
          refine E_pI rfl rfl rfl rfl (Or.inl rfl) ?_
          refine E_s (p' := 41) (st' := aI (-3) :: _) rfl rfl ?_
          refine E_ret rfl rfl ?_
          have e9 : accG R (g + 1) = none := by
            show (accG R g).bind _ = _
            rw [I1]
            show (bif cbw R g then _ else _) = _
            rw [hc9]; exact hs1
          have e8 := accG_none e9 12 (by omega)
          have e7 : fndV R = -3 := by unfold fndV; rw [e8]
          have e6 : fndL R = [] := by unfold fndL; rw [e8]; rfl
          rw [e7, e6] at q
          exact q _ (fun b j hb => (up2_ne (by omega)).trans ((hs2 b j (by omega) (by omega) (by omega)).trans (I3 b j (by omega) (by omega) (by omega)))) ⟨by decide, up2_eq, fun j hj => absurd hj (Nat.not_lt_zero _)⟩
      · refine E_go (p' := 23) (L' := [some (aA 10), some (aA a), some (aI ((g : Nat) : Int))]) (st' := [aI 0]) rfl rfl rfl ?_
        refine E_s (p' := 42) rfl rfl ?_
        refine E_inc (x := ((g : Nat) : Int)) (w := ((g + 1 : Nat) : Int)) (L' := [some (aA 10), some (aA a), some (aI ((g + 1 : Nat) : Int))]) rfl rfl rfl (by omega) (by omega) rfl ?_
        refine E_s (p' := 12) rfl rfl ?_
        have e9 : accG R (g + 1) = some t := by
          show (accG R g).bind _ = _
          rw [I1]
          show (bif cbw R g then _ else _) = _
          rw [hc9]; rfl
        exact ih (g + 1) m t (by omega) (by omega) e9 I2 I3
theorem c_fseek (hR : isR a) (hC : CR R a m0) (hV : VR R) (hd : RdC R a m0) (q : ∀ m1 : Mm, Fx 10 14 m0 m1 → FL (fndL R) m1 → Q (some (aI (fndV R))) (m1, tl len))  : E 107 0 [some (aA 10), some (aA a), none] [] (m0, tl len) Q := by
  have hab := isR_b hR
  refine E_s (p' := 1) (st' := aA 10 :: _) rfl rfl ?_
  refine E_s (p' := 2) (st' := aI 0 :: _) rfl rfl ?_
  refine E_pI rfl rfl rfl rfl (Or.inl rfl) ?_
  refine E_s (p' := 6) (st' := aA 10 :: _) rfl rfl ?_
  refine E_s (p' := 7) (st' := aA a :: _) rfl rfl ?_
  refine E_callV (k' := 108) (a := 10) (r := []) (L0 := [some (aA 10), some (aA a), none, none]) rfl rfl rfl rfl rfl rfl rfl rfl rfl rfl ?_
  refine c_gather hR (hC.of (fun b j g1 g2 _ => up2_ne (by omega))) hV (hd.of (fun b j g1 g2 => up2_ne (by omega))) (fun m1 u1 F1 F2 F3 G1 G2 G3 => ?_)
  refine E_go (p' := 10) (L' := [some (aA 10), some (aA a), none]) (st' := []) rfl rfl rfl ?_
  refine E_s (p' := 11) (st' := aI 0 :: _) rfl rfl ?_
  refine E_s (p' := 12) (L' := [some (aA 10), some (aA a), some (aI 0)]) rfl rfl ?_
  exact yl_fs hV ⟨G1, G2, G3⟩ (fun m2 k1 k2 => q m2 (fun b j hb => (k1 b j hb).trans ((F1 b j hb).trans (up2_ne (by omega)))) k2) 13 0 m1 [] (by omega) (by omega) rfl ⟨by decide, (F2 2 (by decide)).trans up2_eq, fun j hj => absurd hj (Nat.not_lt_zero _)⟩ (fun b j _ _ _ => rfl)
theorem C_found (hS : CS S m) (hF : FL l m) (q : ∀ m1 : Mm, CS S m1 → (∀ b j, b = 0 ∨ (8 ≤ b ∧ b ≤ 9) ∨ 124 ≤ b → m1 b j = m b j) → FL (fdL S r l) m1 → Q (some (aI (fdV S r))) (m1, tl len)) : E 106 0 [some (aA 1), some (aI (r)), none] [] (m, tl len) Q := by
  refine E_s (p' := 1) (st' := aA 1 :: _) rfl rfl ?_
  refine E_s (p' := 2) (st' := aI (r) :: _) rfl rfl ?_
  refine E_callV (k' := 34) (a := 1) (r := []) (L0 := [some (aA 1), some (aI (r)), none]) rfl rfl rfl rfl rfl rfl rfl rfl rfl rfl ?_
  refine c_readOf hS (fun i a m1 hi hr ha hR hS1 hCS hd hMo => ?_) (fun hr => ?_)
  · refine E_go (p' := 5) (L' := [some (aA 1), some (aI (r)), none]) (st' := [aA a]) rfl rfl rfl ?_
    obtain ⟨hV, hC, -⟩ := hCS
    have hn60 := hV.1
    have hab := isR_b hR
    have hs40 := hV.2.2.2.2.1
    refine E_s (p' := 6) (L' := [some (aA 1), some (aI (r)), some (aA a)]) rfl rfl ?_
    refine E_s (p' := 7) (st' := aA a :: _) rfl rfl ?_
    refine E_s (p' := 15) rfl rfl ?_
    refine E_s (p' := 16) (st' := aA 1 :: _) rfl rfl ?_
    refine E_gA (b := 10) rfl rfl rfl rfl rfl rfl ?_
    refine E_s (p' := 20) (st' := aA a :: _) rfl rfl ?_
    refine E_callV (k' := 107) (a := 10) (r := []) (L0 := [some (aA 10), some (aA a), none]) rfl rfl rfl rfl rfl rfl rfl rfl rfl rfl ?_
    refine c_fseek hR hC hV hd (fun m2 F2 L2 => ?_)
    refine E_go (p' := 23) (L' := [some (aA 1), some (aI (r)), some (aA a)]) (st' := [aI ((fndV (S i)))]) rfl rfl rfl ?_
    refine E_ret rfl rfl ?_
    have e1 : fdV S r = fndV (S i) := by unfold fdV; rw [if_pos (by omega), hr, Int.toNat_natCast]
    have e2 : fdL S r l = fndL (S i) := by unfold fdL; rw [if_pos (by omega), hr, Int.toNat_natCast]
    rw [e1, e2] at q
    exact q _ (fun k hk => (hS1 k hk).of (fun b j g1 g2 => F2 b j (by unfold tgA at g1; omega))) (fun b j hb => (F2 b j (by omega)).trans (hMo b j (by omega))) L2
  · refine E_go (p' := 5) (L' := [some (aA 1), some (aI (r)), none]) (st' := [aN]) rfl rfl rfl ?_
    refine E_s (p' := 6) (L' := [some (aA 1), some (aI (r)), some (aN)]) rfl rfl ?_
    refine E_s (p' := 7) (st' := aN :: _) rfl rfl ?_
    refine E_s (p' := 10) rfl rfl ?_
    refine E_s (p' := 12) (st' := aI (-2) :: _) rfl rfl ?_
    refine E_s (p' := 23) rfl rfl ?_
    refine E_ret rfl rfl ?_
    have e1 : fdV S r = -2 := by unfold fdV; rw [if_neg (by omega)]
    have e2 : fdL S r l = l := by unfold fdL; rw [if_neg (by omega)]
    rw [e1, e2] at q
    exact q m hS (fun b j _ => rfl) hF
end

/-- some number of the GROUP is above 0, among the first -/
def smB (R : RD) (g : Nat) : Nat → Bool
  | 0 => false
  | i + 1 => smB R g i || decide (0 < gnu R g i)
def igB (R : RD) (g b : Nat) : Bool := addB R g b && smB R g (glen R (g : Int))
def sdG (R : RD) (g : Nat) : Bool := (gmem R (g : Int) (Cn R)).all (sdR R)
theorem sd_num {R : RD} {m : Mm} {g i : Nat} (hN : ∀ d, d < Cn R → m 148 d = Rtd R d) (hs : sdG R g = true) (hi : i < glen R (g : Int)) : m 148 ((gmem R (g : Int) (Cn R)).getD i 0) = (gnu R g i : Int) := by
  have h1 := gN_mem (l := gmem R (g : Int) (Cn R)) hi
  rw [hN _ (gmem_lt _ h1)]
  unfold sdG at hs
  rw [List.all_eq_true] at hs
  have h2 := hs _ h1
  unfold sdR at h2
  have h3 := of_decide_eq_true (Bool.and_eq_true_iff.mp h2).2
  unfold Rtd
  rw [if_pos h3]; rfl
section
variable {len : Nat} {m m0 : Mm} {Q : Option AV → Sx → Prop} {R : RD} {g b : Nat}
theorem yl_i2 (hV : VR R) (hN : ∀ d, d < Cn R → m 148 d = Rtd R d) (hG : GR R (Cn R) m) (hg : g < 12) (hsg : sdG R g = true) (hb : b < 4096) (hbm : ∀ k, k < 12 → Nat.testBit b k = true → glen R (k : Int) = glen R (g : Int)) (hbs : ∀ k, k < 12 → Nat.testBit b k = true → sdG R k = true) {i : Nat} {so3 : Bool} (hi : i < glen R (g : Int)) (hk : E 178 72 [some (aA 124), some (aI ((g : Nat) : Int)), some (aI ((b : Nat) : Int)), some (aI (bi so3)), some (aI ((i : Nat) : Int)), some (aI ((togN R b i 12 : Nat) : Int)), some (aI 12)] [] (m, tl len) Q) : ∀ (d : Nat) (k : Nat), (12 < k + d) → (k ≤ 12) → E 178 22 [some (aA 124), some (aI ((g : Nat) : Int)), some (aI ((b : Nat) : Int)), some (aI (bi so3)), some (aI ((i : Nat) : Int)), some (aI ((togN R b i k : Nat) : Int)), some (aI ((k : Nat) : Int))] [] (m, tl len) Q := by
  intro d
  induction d with
  | zero => intro k hd hk9; omega
  | succ d ih =>
    intro k hd hk9
    have hgl := glen_le hV (g : Int)
    have hn60 := hV.1
    have hto := togN_le hV hbm hi k hk9
    refine E_s (p' := 24) (st' := aI ((k : Nat) : Int) :: _) rfl rfl ?_
    refine E_s (p' := 26) (st' := aI 12 :: _) rfl rfl ?_
    refine E_icmp_ge (x := ((k : Nat) : Int)) (y := 12) rfl (by decide) (fun h_1 => ?_) (fun h_1 => ?_)
    · refine E_go (p' := 72) (L' := [some (aA 124), some (aI ((g : Nat) : Int)), some (aI ((b : Nat) : Int)), some (aI (bi so3)), some (aI ((i : Nat) : Int)), some (aI ((togN R b i k : Nat) : Int)), some (aI ((k : Nat) : Int))]) (st' := []) rfl rfl rfl ?_
      have ek : k = 12 := by omega
      subst ek
      exact hk
    · refine E_go (p' := 29) (L' := [some (aA 124), some (aI ((g : Nat) : Int)), some (aI ((b : Nat) : Int)), some (aI (bi so3)), some (aI ((i : Nat) : Int)), some (aI ((togN R b i k : Nat) : Int)), some (aI ((k : Nat) : Int))]) (st' := []) rfl rfl rfl ?_
      refine E_s (p' := 31) (st' := aI ((togN R b i k : Nat) : Int) :: _) rfl rfl ?_
      refine E_s (p' := 32) (st' := aI ((b : Nat) : Int) :: _) rfl rfl ?_
      refine E_s (p' := 34) (st' := aI ((k : Nat) : Int) :: _) rfl rfl ?_
      refine E_shr (x := b) (y := k) (v := ((b) / 2 ^ k)) rfl (by first | omega | (have := Nat.div_le_self b (2 ^ k); omega)) (by omega) rfl ?_
      refine E_s (p' := 36) (st' := aI 1 :: _) rfl rfl ?_
      refine E_and (x := ((b) / 2 ^ k)) (y := 1) (v := ((((b) / 2 ^ k)) &&& 1)) rfl (by first | omega | (have := Nat.div_le_self b (2 ^ k); omega)) (by omega) rfl ?_
      refine E_s (p' := 38) (st' := aI 1 :: _) rfl rfl ?_
      refine E_icmp_ne (x := ((((((b) / 2 ^ k)) &&& 1) : Nat) : Int)) (y := 1) rfl (by decide) (fun h_2 => ?_) (fun h_2 => ?_)
      · refine E_go (p' := 62) (L' := [some (aA 124), some (aI ((g : Nat) : Int)), some (aI ((b : Nat) : Int)), some (aI (bi so3)), some (aI ((i : Nat) : Int)), some (aI ((togN R b i k : Nat) : Int)), some (aI ((k : Nat) : Int))]) (st' := [aI ((togN R b i k : Nat) : Int)]) rfl rfl rfl ?_
        refine E_s (p' := 63) (st' := aI 0 :: _) rfl rfl ?_
        refine E_add (v := ((togN R b i k : Nat) : Int)) rfl (by omega) (by omega) ?_
        refine E_s (p' := 66) (L' := [some (aA 124), some (aI ((g : Nat) : Int)), some (aI ((b : Nat) : Int)), some (aI (bi so3)), some (aI ((i : Nat) : Int)), some (aI ((togN R b i k : Nat) : Int)), some (aI ((k : Nat) : Int))]) rfl rfl ?_
        refine E_inc (x := ((k : Nat) : Int)) (w := ((k + 1 : Nat) : Int)) (L' := [some (aA 124), some (aI ((g : Nat) : Int)), some (aI ((b : Nat) : Int)), some (aI (bi so3)), some (aI ((i : Nat) : Int)), some (aI ((togN R b i k : Nat) : Int)), some (aI ((k + 1 : Nat) : Int))]) rfl rfl rfl (by omega) (by omega) rfl ?_
        refine E_s (p' := 22) rfl rfl ?_
        have e9 : togN R b i (k + 1) = togN R b i k := by
          show togN R b i k + (bif Nat.testBit b k then gnu R k i else 0) = _
          rw [tb0 (by have := Nat.and_one_is_mod (b / 2 ^ k); omega)]; rfl
        rw [← e9]
        exact ih (k + 1) (by omega) (by omega)
      · refine E_go (p' := 41) (L' := [some (aA 124), some (aI ((g : Nat) : Int)), some (aI ((b : Nat) : Int)), some (aI (bi so3)), some (aI ((i : Nat) : Int)), some (aI ((togN R b i k : Nat) : Int)), some (aI ((k : Nat) : Int))]) (st' := [aI ((togN R b i k : Nat) : Int)]) rfl rfl rfl ?_
        have htb : Nat.testBit b k = true := tb1 (by omega)
        have hil : i < glen R (k : Int) := by rw [hbm k (by omega) htb]; exact hi
        have hgb := gnu_b5 hV hil
        have hgx := gmem_lt _ (gN_mem hil)
        refine E_s (p' := 42) (st' := aA 124 :: _) rfl rfl ?_
        refine E_gA (b := 148) rfl rfl rfl rfl rfl rfl ?_
        refine E_s (p' := 46) (st' := aA 124 :: _) rfl rfl ?_
        refine E_gA (b := 162) rfl rfl rfl rfl rfl rfl ?_
        refine E_s (p' := 51) (st' := aI 60 :: _) rfl rfl ?_
        refine E_s (p' := 53) (st' := aI ((k : Nat) : Int) :: _) rfl rfl ?_
        refine E_mul (v := ((60 * k : Nat) : Int)) rfl (by omega) (by omega) ?_
        refine E_s (p' := 56) (st' := aI ((i : Nat) : Int) :: _) rfl rfl ?_
        refine E_add (v := ((60 * k + i : Nat) : Int)) rfl (by omega) (by omega) ?_
        refine E_ald (e := 60 * k + i) (N := 720) (v := (((gmem R (k : Int) (Cn R)).getD i 0 : Nat) : Int)) rfl rfl (rfl) (by omega) ((hG k (by omega)).2.1 i hil) ?_
        refine E_ald (e := (gmem R (k : Int) (Cn R)).getD i 0) (N := 60) (v := ((gnu R k i : Nat) : Int)) rfl rfl (rfl) (by omega) (sd_num hN (hbs k (by omega) (tb1 (by omega))) hil) ?_
        refine E_s (p' := 63) rfl rfl ?_
        refine E_add (v := ((togN R b i k + gnu R k i : Nat) : Int)) rfl (by omega) (by omega) ?_
        refine E_s (p' := 66) (L' := [some (aA 124), some (aI ((g : Nat) : Int)), some (aI ((b : Nat) : Int)), some (aI (bi so3)), some (aI ((i : Nat) : Int)), some (aI ((togN R b i k + gnu R k i : Nat) : Int)), some (aI ((k : Nat) : Int))]) rfl rfl ?_
        refine E_inc (x := ((k : Nat) : Int)) (w := ((k + 1 : Nat) : Int)) (L' := [some (aA 124), some (aI ((g : Nat) : Int)), some (aI ((b : Nat) : Int)), some (aI (bi so3)), some (aI ((i : Nat) : Int)), some (aI ((togN R b i k + gnu R k i : Nat) : Int)), some (aI ((k + 1 : Nat) : Int))]) rfl rfl rfl (by omega) (by omega) rfl ?_
        refine E_s (p' := 22) rfl rfl ?_
        have e9 : togN R b i (k + 1) = togN R b i k + gnu R k i := by
          show togN R b i k + (bif Nat.testBit b k then gnu R k i else 0) = _
          rw [tb1 (by have := Nat.and_one_is_mod (b / 2 ^ k); omega)]; rfl
        rw [← e9]
        exact ih (k + 1) (by omega) (by omega)
theorem yl_i1 (hV : VR R) (hN : ∀ d, d < Cn R → m 148 d = Rtd R d) (hG : GR R (Cn R) m) (hg : g < 12) (hsg : sdG R g = true) (hb : b < 4096) (hbm : ∀ k, k < 12 → Nat.testBit b k = true → glen R (k : Int) = glen R (g : Int)) (hbs : ∀ k, k < 12 → Nat.testBit b k = true → sdG R k = true) (q : Q (some (aI (bi (igB R g b)))) (m, tl len))  : ∀ (d : Nat) (i : Nat) (x5 x6 : Option AV), (glen R (g : Int) < i + d) → (i ≤ glen R (g : Int)) → (∀ j, j < i → togN R b j 12 = gnu R g j) → E 178 5 [some (aA 124), some (aI ((g : Nat) : Int)), some (aI ((b : Nat) : Int)), some (aI (bi (smB R g i))), some (aI ((i : Nat) : Int)), x5, x6] [] (m, tl len) Q := by
  intro d
  induction d with
  | zero => intro i x5 x6 hd hi I1; omega
  | succ d ih =>
    intro i x5 x6 hd hi I1
    have hgl := glen_le hV (g : Int)
    have hn60 := hV.1
    refine E_s (p' := 7) (st' := aI ((i : Nat) : Int) :: _) rfl rfl ?_
    refine E_s (p' := 8) (st' := aA 124 :: _) rfl rfl ?_
    refine E_gA (b := 163) rfl rfl rfl rfl rfl rfl ?_
    refine E_s (p' := 12) (st' := aI ((g : Nat) : Int) :: _) rfl rfl ?_
    refine E_ald (e := g) (N := 12) (v := ((glen R (g : Int) : Nat) : Int)) rfl rfl (rfl) (by omega) (hG g (by omega)).1 ?_
    refine E_icmp_ge (x := ((i : Nat) : Int)) (y := ((glen R (g : Int) : Nat) : Int)) rfl (by decide) (fun h_1 => ?_) (fun h_1 => ?_)
    · refine E_go (p' := 121) (L' := [some (aA 124), some (aI ((g : Nat) : Int)), some (aI ((b : Nat) : Int)), some (aI (bi (smB R g i))), some (aI ((i : Nat) : Int)), x5, x6]) (st' := []) rfl rfl rfl ?_
      refine E_s (p' := 122) (st' := aI (bi (smB R g i)) :: _) rfl rfl ?_
      refine E_retB rfl rfl (bi01 _) ?_
      have ei : i = glen R (g : Int) := by omega
      subst ei
      have e9 : igB R g b = smB R g (glen R (g : Int)) := by unfold igB; rw [addB_t I1]; rfl
      rw [e9] at q
      exact q
    · refine E_go (p' := 16) (L' := [some (aA 124), some (aI ((g : Nat) : Int)), some (aI ((b : Nat) : Int)), some (aI (bi (smB R g i))), some (aI ((i : Nat) : Int)), x5, x6]) (st' := []) rfl rfl rfl ?_
      refine E_s (p' := 17) (st' := aI 0 :: _) rfl rfl ?_
      refine E_s (p' := 19) (L' := [some (aA 124), some (aI ((g : Nat) : Int)), some (aI ((b : Nat) : Int)), some (aI (bi (smB R g i))), some (aI ((i : Nat) : Int)), some (aI 0), x6]) rfl rfl ?_
      refine E_s (p' := 20) (st' := aI 0 :: _) rfl rfl ?_
      refine E_s (p' := 22) (L' := [some (aA 124), some (aI ((g : Nat) : Int)), some (aI ((b : Nat) : Int)), some (aI (bi (smB R g i))), some (aI ((i : Nat) : Int)), some (aI 0), some (aI 0)]) rfl rfl ?_
      have hil : i < glen R (g : Int) := by omega
      have hgx := gmem_lt _ (gN_mem hil)
      refine yl_i2 hV hN hG hg hsg hb hbm hbs (i := i) (so3 := smB R g i) hil ?_ 13 0 (by omega) (by omega)
      refine E_s (p' := 73) (st' := aA 124 :: _) rfl rfl ?_
      refine E_gA (b := 148) rfl rfl rfl rfl rfl rfl ?_
      refine E_s (p' := 77) (st' := aA 124 :: _) rfl rfl ?_
      refine E_gA (b := 162) rfl rfl rfl rfl rfl rfl ?_
      refine E_s (p' := 82) (st' := aI 60 :: _) rfl rfl ?_
      refine E_s (p' := 83) (st' := aI ((g : Nat) : Int) :: _) rfl rfl ?_
      refine E_mul (v := ((60 * g : Nat) : Int)) rfl (by omega) (by omega) ?_
      refine E_s (p' := 86) (st' := aI ((i : Nat) : Int) :: _) rfl rfl ?_
      refine E_add (v := ((60 * g + i : Nat) : Int)) rfl (by omega) (by omega) ?_
      refine E_ald (e := 60 * g + i) (N := 720) (v := (((gmem R (g : Int) (Cn R)).getD i 0 : Nat) : Int)) rfl rfl (rfl) (by omega) ((hG g (by omega)).2.1 i hil) ?_
      refine E_ald (e := (gmem R (g : Int) (Cn R)).getD i 0) (N := 60) (v := ((gnu R g i : Nat) : Int)) rfl rfl (rfl) (by omega) (sd_num hN hsg hil) ?_
      refine E_s (p' := 91) (L' := [some (aA 124), some (aI ((g : Nat) : Int)), some (aI ((b : Nat) : Int)), some (aI (bi (smB R g i))), some (aI ((i : Nat) : Int)), some (aI ((togN R b i 12 : Nat) : Int)), some (aI ((gnu R g i : Nat) : Int))]) rfl rfl ?_
      refine E_s (p' := 93) (st' := aI ((togN R b i 12 : Nat) : Int) :: _) rfl rfl ?_
      refine E_s (p' := 95) (st' := aI ((gnu R g i : Nat) : Int) :: _) rfl rfl ?_
      refine E_icmp_eq (x := ((togN R b i 12 : Nat) : Int)) (y := ((gnu R g i : Nat) : Int)) rfl (by decide) (fun h_2 => ?_) (fun h_2 => ?_)
      · refine E_go (p' := 100) (L' := [some (aA 124), some (aI ((g : Nat) : Int)), some (aI ((b : Nat) : Int)), some (aI (bi (smB R g i))), some (aI ((i : Nat) : Int)), some (aI ((togN R b i 12 : Nat) : Int)), some (aI ((gnu R g i : Nat) : Int))]) (st' := []) rfl rfl rfl ?_
        refine E_s (p' := 101) (st' := aI (bi (smB R g i)) :: _) rfl rfl ?_
        refine E_b_ne0 (b := (smB R g i)) rfl (by decide) (fun h_3 => ?_) (fun h_3 => ?_)
        · refine E_go (p' := 109) (L' := [some (aA 124), some (aI ((g : Nat) : Int)), some (aI ((b : Nat) : Int)), some (aI (bi (smB R g i))), some (aI ((i : Nat) : Int)), some (aI ((togN R b i 12 : Nat) : Int)), some (aI ((gnu R g i : Nat) : Int))]) (st' := []) rfl rfl rfl ?_
          refine E_s (p' := 110) (st' := aI 1 :: _) rfl rfl ?_
          refine E_s (p' := 114) rfl rfl ?_
          refine E_s (p' := 115) (L' := [some (aA 124), some (aI ((g : Nat) : Int)), some (aI ((b : Nat) : Int)), some (aI 1), some (aI ((i : Nat) : Int)), some (aI ((togN R b i 12 : Nat) : Int)), some (aI ((gnu R g i : Nat) : Int))]) rfl rfl ?_
          refine E_inc (x := ((i : Nat) : Int)) (w := ((i + 1 : Nat) : Int)) (L' := [some (aA 124), some (aI ((g : Nat) : Int)), some (aI ((b : Nat) : Int)), some (aI 1), some (aI ((i + 1 : Nat) : Int)), some (aI ((togN R b i 12 : Nat) : Int)), some (aI ((gnu R g i : Nat) : Int))]) rfl rfl rfl (by omega) (by omega) rfl ?_
          refine E_s (p' := 5) rfl rfl ?_
          have e9 : smB R g (i + 1) = true := by
            show (smB R g i || decide (0 < gnu R g i)) = _
            first
            | (rw [show smB R g i = true by assumption]; rfl)
            | (rw [show smB R g i = false by assumption, decide_eq_true (by omega)]; rfl)
          refine E_go (p' := 5) (L' := [some (aA 124), some (aI ((g : Nat) : Int)), some (aI ((b : Nat) : Int)), some (aI (bi (smB R g (i + 1)))), some (aI ((i + 1 : Nat) : Int)), some (aI ((togN R b i 12 : Nat) : Int)), some (aI ((gnu R g i : Nat) : Int))]) (st' := []) rfl (by rw [e9]; rfl) rfl ?_
          refine ih (i + 1) _ _ (by omega) (by omega) (fun j hj => ?_)
          by_cases g9 : j = i
          · rw [g9]; omega
          · exact I1 j (by omega)
        · refine E_go (p' := 104) (L' := [some (aA 124), some (aI ((g : Nat) : Int)), some (aI ((b : Nat) : Int)), some (aI (bi (smB R g i))), some (aI ((i : Nat) : Int)), some (aI ((togN R b i 12 : Nat) : Int)), some (aI ((gnu R g i : Nat) : Int))]) (st' := []) rfl rfl rfl ?_
          refine E_s (p' := 106) (st' := aI ((gnu R g i : Nat) : Int) :: _) rfl rfl ?_
          refine E_if_le (x := ((gnu R g i : Nat) : Int)) rfl (by decide) (fun h_4 => ?_) (fun h_4 => ?_)
          · refine E_go (p' := 113) (L' := [some (aA 124), some (aI ((g : Nat) : Int)), some (aI ((b : Nat) : Int)), some (aI (bi (smB R g i))), some (aI ((i : Nat) : Int)), some (aI ((togN R b i 12 : Nat) : Int)), some (aI ((gnu R g i : Nat) : Int))]) (st' := []) rfl rfl rfl ?_
            refine E_s (p' := 114) (st' := aI 0 :: _) rfl rfl ?_
            refine E_s (p' := 115) (L' := [some (aA 124), some (aI ((g : Nat) : Int)), some (aI ((b : Nat) : Int)), some (aI 0), some (aI ((i : Nat) : Int)), some (aI ((togN R b i 12 : Nat) : Int)), some (aI ((gnu R g i : Nat) : Int))]) rfl rfl ?_
            refine E_inc (x := ((i : Nat) : Int)) (w := ((i + 1 : Nat) : Int)) (L' := [some (aA 124), some (aI ((g : Nat) : Int)), some (aI ((b : Nat) : Int)), some (aI 0), some (aI ((i + 1 : Nat) : Int)), some (aI ((togN R b i 12 : Nat) : Int)), some (aI ((gnu R g i : Nat) : Int))]) rfl rfl rfl (by omega) (by omega) rfl ?_
            refine E_s (p' := 5) rfl rfl ?_
            have e9 : smB R g (i + 1) = false := by
              show (smB R g i || decide (0 < gnu R g i)) = _
              first
              | (rw [show smB R g i = true by assumption]; rfl)
              | (rw [show smB R g i = false by assumption, decide_eq_false (by omega)]; rfl)
            refine E_go (p' := 5) (L' := [some (aA 124), some (aI ((g : Nat) : Int)), some (aI ((b : Nat) : Int)), some (aI (bi (smB R g (i + 1)))), some (aI ((i + 1 : Nat) : Int)), some (aI ((togN R b i 12 : Nat) : Int)), some (aI ((gnu R g i : Nat) : Int))]) (st' := []) rfl (by rw [e9]; rfl) rfl ?_
            refine ih (i + 1) _ _ (by omega) (by omega) (fun j hj => ?_)
            by_cases g9 : j = i
            · rw [g9]; omega
            · exact I1 j (by omega)
          · refine E_go (p' := 109) (L' := [some (aA 124), some (aI ((g : Nat) : Int)), some (aI ((b : Nat) : Int)), some (aI (bi (smB R g i))), some (aI ((i : Nat) : Int)), some (aI ((togN R b i 12 : Nat) : Int)), some (aI ((gnu R g i : Nat) : Int))]) (st' := []) rfl rfl rfl ?_
            refine E_s (p' := 110) (st' := aI 1 :: _) rfl rfl ?_
            refine E_s (p' := 114) rfl rfl ?_
            refine E_s (p' := 115) (L' := [some (aA 124), some (aI ((g : Nat) : Int)), some (aI ((b : Nat) : Int)), some (aI 1), some (aI ((i : Nat) : Int)), some (aI ((togN R b i 12 : Nat) : Int)), some (aI ((gnu R g i : Nat) : Int))]) rfl rfl ?_
            refine E_inc (x := ((i : Nat) : Int)) (w := ((i + 1 : Nat) : Int)) (L' := [some (aA 124), some (aI ((g : Nat) : Int)), some (aI ((b : Nat) : Int)), some (aI 1), some (aI ((i + 1 : Nat) : Int)), some (aI ((togN R b i 12 : Nat) : Int)), some (aI ((gnu R g i : Nat) : Int))]) rfl rfl rfl (by omega) (by omega) rfl ?_
            refine E_s (p' := 5) rfl rfl ?_
            have e9 : smB R g (i + 1) = true := by
              show (smB R g i || decide (0 < gnu R g i)) = _
              first
              | (rw [show smB R g i = true by assumption]; rfl)
              | (rw [show smB R g i = false by assumption, decide_eq_true (by omega)]; rfl)
            refine E_go (p' := 5) (L' := [some (aA 124), some (aI ((g : Nat) : Int)), some (aI ((b : Nat) : Int)), some (aI (bi (smB R g (i + 1)))), some (aI ((i + 1 : Nat) : Int)), some (aI ((togN R b i 12 : Nat) : Int)), some (aI ((gnu R g i : Nat) : Int))]) (st' := []) rfl (by rw [e9]; rfl) rfl ?_
            refine ih (i + 1) _ _ (by omega) (by omega) (fun j hj => ?_)
            by_cases g9 : j = i
            · rw [g9]; omega
            · exact I1 j (by omega)
      · refine E_go (p' := 98) (L' := [some (aA 124), some (aI ((g : Nat) : Int)), some (aI ((b : Nat) : Int)), some (aI (bi (smB R g i))), some (aI ((i : Nat) : Int)), some (aI ((togN R b i 12 : Nat) : Int)), some (aI ((gnu R g i : Nat) : Int))]) (st' := []) rfl rfl rfl ?_
        refine E_s (p' := 99) (st' := aI 0 :: _) rfl rfl ?_
        refine E_ret rfl rfl ?_
        have e9 : igB R g b = false := by unfold igB; rw [addB_f (i := i) hil (by omega)]; rfl
        rw [e9] at q
        exact q
theorem m_isGrouping (hV : VR R) (hN : ∀ d, d < Cn R → m 148 d = Rtd R d) (hG : GR R (Cn R) m) (hg : g < 12) (hsg : sdG R g = true) (hb : b < 4096) (hbm : ∀ k, k < 12 → Nat.testBit b k = true → glen R (k : Int) = glen R (g : Int)) (hbs : ∀ k, k < 12 → Nat.testBit b k = true → sdG R k = true) (q : Q (some (aI (bi (igB R g b)))) (m, tl len))  : E 178 0 [some (aA 124), some (aI ((g : Nat) : Int)), some (aI ((b : Nat) : Int)), none, none, none, none] [] (m, tl len) Q := by
  refine E_s (p' := 1) (st' := aI 0 :: _) rfl rfl ?_
  refine E_s (p' := 2) (L' := [some (aA 124), some (aI ((g : Nat) : Int)), some (aI ((b : Nat) : Int)), some (aI 0), none, none, none]) rfl rfl ?_
  refine E_s (p' := 3) (st' := aI 0 :: _) rfl rfl ?_
  refine E_s (p' := 5) (L' := [some (aA 124), some (aI ((g : Nat) : Int)), some (aI ((b : Nat) : Int)), some (aI 0), some (aI 0), none, none]) rfl rfl ?_
  exact yl_i1 hV hN hG hg hsg hb hbm hbs q (glen R (g : Int) + 1) 0 _ _ (by omega) (by omega) (fun j hj => absurd hj (by omega))
end

theorem pc_two0 : ∀ i j : Fin 64, ((64 * i.1 + j.1 + 1) &&& (64 * i.1 + j.1) = 0 ↔ pc12 (64 * i.1 + j.1 + 1) < 2) ∨ 64 * i.1 + j.1 = 4095 := by decide +kernel
theorem pc_two {k : Nat} (hk : k < 4095) : (k + 1) &&& k = 0 ↔ pc12 (k + 1) < 2 := by
  have h1 := pc_two0 ⟨k / 64, by omega⟩ ⟨k % 64, by omega⟩
  dsimp only at h1
  rw [show 64 * (k / 64) + k % 64 = k by omega] at h1
  rcases h1 with h1 | h1
  · exact h1
  · omega
theorem wthn {b M : Nat} (hM : M < 4096) (h : b &&& (4095 - M) = 0) {k : Nat} (hk : k < 12) (ht : Nat.testBit b k = true) : Nat.testBit M k = true := by
  have h1 : Nat.testBit (b &&& (4095 - M)) k = false := by rw [h, Nat.zero_testBit]
  rw [Nat.testBit_and, ht, show 4095 - M = 2 ^ 12 - (M + 1) by omega, Nat.testBit_two_pow_sub_succ (by omega), decide_eq_true hk] at h1
  cases h2 : Nat.testBit M k
  · rw [h2] at h1; exact absurd h1 (by decide)
  · rfl
theorem b32_not {M : Nat} (hM : M < 4096) : b32 (fun a b => a ^^^ b) (M : Int) (-1) = -1 - (M : Int) := by
  unfold b32
  dsimp only
  have h : Int32.ofInt (M : Int) ^^^ Int32.ofInt (-1) = Int32.ofInt (-1 - (M : Int)) := by
    apply Int32.toBitVec_inj.mp
    show BitVec.ofInt 32 (M : Int) ^^^ BitVec.ofInt 32 (-1) = BitVec.ofInt 32 (-1 - (M : Int))
    rw [show BitVec.ofInt 32 (-1) = BitVec.allOnes 32 from rfl, BitVec.xor_allOnes]
    apply BitVec.eq_of_toNat_eq
    rw [BitVec.toNat_not, BitVec.toNat_ofInt, BitVec.toNat_ofInt]
    omega
  rw [h]
  exact Int32.toInt_ofInt_of_le (by omega) (by omega)
theorem b32_nim {b M : Nat} (hb : b < 4096) (hM : M < 4096) : b32 (fun a b => a &&& b) (b : Int) (-1 - (M : Int)) = ((b &&& (4095 - M) : Nat) : Int) := by
  have hle := @Nat.and_le_left b (4095 - M)
  unfold b32
  dsimp only
  have h : nI b &&& Int32.ofInt (-1 - (M : Int)) = nI (b &&& (4095 - M)) := by
    apply Int32.toBitVec_inj.mp
    apply BitVec.eq_of_toNat_eq
    show (BitVec.ofNat 32 b &&& BitVec.ofInt 32 (-1 - (M : Int))).toNat = (BitVec.ofNat 32 _).toNat
    rw [BitVec.toNat_and, BitVec.toNat_ofInt, BitVec.toNat_ofNat, BitVec.toNat_ofNat, Nat.mod_eq_of_lt (show b < 2 ^ 32 by omega), Nat.mod_eq_of_lt (show b &&& (4095 - M) < 2 ^ 32 by omega), Nat.and_comm, and_m12 hb, Nat.and_comm b, @and_m12 (4095 - M) b hb]
    congr 1
    omega
  rw [oI, h, nI_toInt (by omega)]
section
variable {k pc n : Nat} {L : Lc} {r : List AV} {Q : Option AV → Sx → Prop} {s : Sx} {b M v : Nat}
theorem E_not (hi : ins k pc = some (.ixor, n)) (hM : M < 4096) (kk : E k (pc + n) L (aI (-1 - (M : Int)) :: r) s Q) : E k pc L (aI (-1) :: aI (M : Int) :: r) s Q := by
  refine E_s hi ?_ kk
  rw [← b32_not hM]
  rfl
theorem E_nim (hi : ins k pc = some (.iand, n)) (hb : b < 4096) (hM : M < 4096) (hv : b &&& (4095 - M) = v) (kk : E k (pc + n) L (aI (v : Int) :: r) s Q) : E k pc L (aI (-1 - (M : Int)) :: aI (b : Int) :: r) s Q := by
  subst hv
  refine E_s hi ?_ kk
  rw [← b32_nim hb hM]
  rfl
end

def qmB (R : RD) (g M b : Nat) : Bool := decide (b &&& (4095 - M) = 0) && (decide (2 ≤ pc12 b) && igB R g b)
/-- what a GROUP adds, as the model takes it: all sets, rising -/
def accM (R : RD) (g M : Nat) (l : List (Nat × Nat)) : Nat → Option (List (Nat × Nat))
  | 0 => some l
  | k + 1 => (accM R g M l k).bind fun t => bif qmB R g M (k + 1) then (if t.length = 300 then none else some (t ++ [(g, k + 1)])) else some t
theorem accM_none {R : RD} {g M : Nat} {l : List (Nat × Nat)} {k : Nat} (h : accM R g M l k = none) : ∀ n, k ≤ n → accM R g M l n = none := by
  intro n
  induction n with
  | zero => intro hk; have e9 : k = 0 := by omega
            subst e9; exact h
  | succ n ih =>
    intro hk
    by_cases e9 : k = n + 1
    · subst e9; exact h
    · show (accM R g M l n).bind _ = none
      rw [ih (by omega)]; rfl
/-- the model keeps these GROUPINGS -/
def FM (l : List (Nat × Nat)) (m : Mm) : Prop := l.length ≤ 300 ∧ m 124 50 = (l.length : Int) ∧ ∀ j, j < l.length → m 165 j = ((l.getD j (0, 0)).1 : Int) ∧ m 166 j = ((l.getD j (0, 0)).2 : Int)
def FrMF (m m' : Mm) : Prop := ∀ b j, ¬ (b = 124 ∧ j = 50) → b ≠ 165 → b ≠ 166 → m' b j = m b j
theorem FM.add {l : List (Nat × Nat)} {m m' : Mm} {g b : Nat} (h : FM l m) (hl : l.length ≠ 300) (h1 : m' 124 50 = ((l.length + 1 : Nat) : Int)) (h2 : ∀ j, j < l.length → m' 165 j = m 165 j ∧ m' 166 j = m 166 j) (h3 : m' 165 l.length = (g : Int) ∧ m' 166 l.length = (b : Int)) : FM (l ++ [(g, b)]) m' := by
  obtain ⟨k1, k2, k3⟩ := h
  have e1 : (l ++ [(g, b)]).length = l.length + 1 := by rw [List.length_append]; rfl
  refine ⟨by omega, by rw [e1]; exact h1, fun j hj => ?_⟩
  rw [List.getD_eq_getElem?_getD]
  by_cases g9 : j = l.length
  · subst g9
    rw [List.getElem?_append_right (Nat.le_refl _), Nat.sub_self]
    exact h3
  · rw [List.getElem?_append_left (by omega), ← List.getD_eq_getElem?_getD]
    obtain ⟨k4, k5⟩ := k3 j (by omega)
    exact ⟨(h2 j (by omega)).1.trans k4, (h2 j (by omega)).2.trans k5⟩
section
variable {len : Nat} {m m0 : Mm} {Q : Option AV → Sx → Prop} {R : RD} {g M : Nat} {l0 : List (Nat × Nat)} {x1 : Option AV}
theorem yl_mset (hV : VR R) (hN : ∀ d, d < Cn R → m0 148 d = Rtd R d) (hG : GR R (Cn R) m0) (hg : g < 12) (hsg : sdG R g = true) (hM : M < 4096) (hbm : ∀ k, k < 12 → Nat.testBit M k = true → glen R (k : Int) = glen R (g : Int)) (hbs : ∀ k, k < 12 → Nat.testBit M k = true → sdG R k = true) (hk9 : ∀ (m1 : Mm) (l1 : List (Nat × Nat)), accM R g M l0 4095 = some l1 → FM l1 m1 → FrMF m0 m1 → E 176 208 [some (aA 124), x1, some (aI ((g : Nat) : Int)), some (aI ((M : Nat) : Int)), some (aI 4096)] [] (m1, tl len) Q) (q0 : ∀ m1 : Mm, accM R g M l0 4095 = none → FM [] m1 → FrMF m0 m1 → Q (some (aI (-3))) (m1, tl len))  : ∀ (d : Nat) (k : Nat) (m : Mm) (t : List (Nat × Nat)), (4095 < k + d) → (k ≤ 4095) → (accM R g M l0 k = some t) → (FM t m) → (FrMF m0 m) → E 176 113 [some (aA 124), x1, some (aI ((g : Nat) : Int)), some (aI ((M : Nat) : Int)), some (aI ((k + 1 : Nat) : Int))] [] (m, tl len) Q := by
  intro d
  induction d with
  | zero => intro k m t hd hk I1 I2 I3; omega
  | succ d ih =>
    intro k m t hd hk I1 I2 I3
    have h300 := I2.1
    refine E_s (p' := 115) (st' := aI ((k + 1 : Nat) : Int) :: _) rfl rfl ?_
    refine E_s (p' := 118) (st' := aI 4096 :: _) rfl rfl ?_
    refine E_icmp_ge (x := ((k + 1 : Nat) : Int)) (y := 4096) rfl (by decide) (fun h_1 => ?_) (fun h_1 => ?_)
    · refine E_go (p' := 208) (L' := [some (aA 124), x1, some (aI ((g : Nat) : Int)), some (aI ((M : Nat) : Int)), some (aI ((k + 1 : Nat) : Int))]) (st' := []) rfl rfl rfl ?_
      have ek : k = 4095 := by omega
      subst ek
      exact hk9 m t I1 I2 I3
    · refine E_go (p' := 121) (L' := [some (aA 124), x1, some (aI ((g : Nat) : Int)), some (aI ((M : Nat) : Int)), some (aI ((k + 1 : Nat) : Int))]) (st' := []) rfl rfl rfl ?_
      refine E_s (p' := 123) (st' := aI ((k + 1 : Nat) : Int) :: _) rfl rfl ?_
      refine E_s (p' := 124) (st' := aI ((M : Nat) : Int) :: _) rfl rfl ?_
      refine E_s (p' := 125) (st' := aI (-1) :: _) rfl rfl ?_
      refine E_not (M := M) rfl (by omega) ?_
      refine E_nim (b := k + 1) (M := M) (v := (k + 1) &&& (4095 - M)) rfl (by omega) (by omega) rfl ?_
      refine E_if_ne (x := ((((k + 1) &&& (4095 - M)) : Nat) : Int)) rfl (by decide) (fun h_2 => ?_) (fun h_2 => ?_)
      · refine E_go (p' := 202) (L' := [some (aA 124), x1, some (aI ((g : Nat) : Int)), some (aI ((M : Nat) : Int)), some (aI ((k + 1 : Nat) : Int))]) (st' := []) rfl rfl rfl ?_
        refine E_inc (x := ((k + 1 : Nat) : Int)) (w := ((k + 2 : Nat) : Int)) (L' := [some (aA 124), x1, some (aI ((g : Nat) : Int)), some (aI ((M : Nat) : Int)), some (aI ((k + 2 : Nat) : Int))]) rfl rfl rfl (by omega) (by omega) rfl ?_
        refine E_s (p' := 113) rfl rfl ?_
        have e9 : accM R g M l0 (k + 1) = some t := by
          show (accM R g M l0 k).bind _ = _
          rw [I1]
          show (bif qmB R g M (k + 1) then _ else _) = _
          rw [show qmB R g M (k + 1) = false by unfold qmB; first | (rw [decide_eq_false (by omega)]; rfl) | (rw [decide_eq_false (p := 2 ≤ pc12 (k + 1)) (by have := pc_two (k := k) (by omega); omega)]; exact Bool.and_false _) | (rw [show igB R g (k + 1) = false by assumption, Bool.and_false]; exact Bool.and_false _)]; rfl
        exact ih (k + 1) m t (by omega) (by omega) e9 I2 I3
      · refine E_go (p' := 130) (L' := [some (aA 124), x1, some (aI ((g : Nat) : Int)), some (aI ((M : Nat) : Int)), some (aI ((k + 1 : Nat) : Int))]) (st' := []) rfl rfl rfl ?_
        refine E_s (p' := 132) (st' := aI ((k + 1 : Nat) : Int) :: _) rfl rfl ?_
        refine E_s (p' := 134) (st' := aI ((k + 1 : Nat) : Int) :: _) rfl rfl ?_
        refine E_s (p' := 135) (st' := aI 1 :: _) rfl rfl ?_
        refine E_sub (v := ((k : Nat) : Int)) rfl (by omega) (by omega) ?_
        refine E_and (x := k + 1) (y := k) (v := ((k + 1) &&& k)) rfl (by omega) (by omega) rfl ?_
        refine E_if_eq (x := ((((k + 1) &&& k) : Nat) : Int)) rfl (by decide) (fun h_3 => ?_) (fun h_3 => ?_)
        · refine E_go (p' := 202) (L' := [some (aA 124), x1, some (aI ((g : Nat) : Int)), some (aI ((M : Nat) : Int)), some (aI ((k + 1 : Nat) : Int))]) (st' := []) rfl rfl rfl ?_
          refine E_inc (x := ((k + 1 : Nat) : Int)) (w := ((k + 2 : Nat) : Int)) (L' := [some (aA 124), x1, some (aI ((g : Nat) : Int)), some (aI ((M : Nat) : Int)), some (aI ((k + 2 : Nat) : Int))]) rfl rfl rfl (by omega) (by omega) rfl ?_
          refine E_s (p' := 113) rfl rfl ?_
          have e9 : accM R g M l0 (k + 1) = some t := by
            show (accM R g M l0 k).bind _ = _
            rw [I1]
            show (bif qmB R g M (k + 1) then _ else _) = _
            rw [show qmB R g M (k + 1) = false by unfold qmB; first | (rw [decide_eq_false (by omega)]; rfl) | (rw [decide_eq_false (p := 2 ≤ pc12 (k + 1)) (by have := pc_two (k := k) (by omega); omega)]; exact Bool.and_false _) | (rw [show igB R g (k + 1) = false by assumption, Bool.and_false]; exact Bool.and_false _)]; rfl
          exact ih (k + 1) m t (by omega) (by omega) e9 I2 I3
        · refine E_go (p' := 140) (L' := [some (aA 124), x1, some (aI ((g : Nat) : Int)), some (aI ((M : Nat) : Int)), some (aI ((k + 1 : Nat) : Int))]) (st' := []) rfl rfl rfl ?_
          refine E_s (p' := 141) (st' := aA 124 :: _) rfl rfl ?_
          refine E_s (p' := 142) (st' := aI ((g : Nat) : Int) :: _) rfl rfl ?_
          refine E_s (p' := 144) (st' := aI ((k + 1 : Nat) : Int) :: _) rfl rfl ?_
          refine E_callV (k' := 178) (a := 124) (r := []) (L0 := [some (aA 124), some (aI ((g : Nat) : Int)), some (aI ((k + 1 : Nat) : Int)), none, none, none, none]) rfl rfl rfl rfl rfl rfl rfl rfl rfl rfl ?_
          refine m_isGrouping hV (fun d hd9 => (I3 _ _ (by omega) (by omega) (by omega)).trans (hN d hd9)) (fun x hx => ⟨(I3 _ _ (by omega) (by omega) (by omega)).trans (hG x hx).1, fun j hj => (I3 _ _ (by omega) (by omega) (by omega)).trans ((hG x hx).2.1 j hj), (I3 _ _ (by omega) (by omega) (by omega)).trans (hG x hx).2.2⟩) hg hsg (b := k + 1) (by omega) (fun x hx hx2 => hbm x hx (wthn hM (by omega) hx hx2)) (fun x hx hx2 => hbs x hx (wthn hM (by omega) hx hx2)) ?_
          refine E_go (p' := 147) (L' := [some (aA 124), x1, some (aI ((g : Nat) : Int)), some (aI ((M : Nat) : Int)), some (aI ((k + 1 : Nat) : Int))]) (st' := [aI (bi (igB R g (k + 1)))]) rfl rfl rfl ?_
          refine E_b_ne0 (b := (igB R g (k + 1))) rfl (by decide) (fun h_4 => ?_) (fun h_4 => ?_)
          · refine E_go (p' := 153) (L' := [some (aA 124), x1, some (aI ((g : Nat) : Int)), some (aI ((M : Nat) : Int)), some (aI ((k + 1 : Nat) : Int))]) (st' := []) rfl rfl rfl ?_
            refine E_s (p' := 154) (st' := aA 124 :: _) rfl rfl ?_
            refine E_gI (v := ((t.length : Nat) : Int)) rfl rfl rfl rfl I2.2.1 ?_
            refine E_s (p' := 160) (st' := aI 300 :: _) rfl rfl ?_
            refine E_icmp_ne (x := ((t.length : Nat) : Int)) (y := 300) rfl (by decide) (fun h_5 => ?_) (fun h_5 => ?_)
            · refine E_go (p' := 171) (L' := [some (aA 124), x1, some (aI ((g : Nat) : Int)), some (aI ((M : Nat) : Int)), some (aI ((k + 1 : Nat) : Int))]) (st' := []) rfl rfl rfl ?_
              refine E_s (p' := 172) (st' := aA 124 :: _) rfl rfl ?_
              refine E_gA (b := 165) rfl rfl rfl rfl rfl rfl ?_
              refine E_s (p' := 176) (st' := aA 124 :: _) rfl rfl ?_
              refine E_gI (v := ((t.length : Nat) : Int)) rfl rfl rfl rfl I2.2.1 ?_
              refine E_s (p' := 180) (st' := aI ((g : Nat) : Int) :: _) rfl rfl ?_
              refine E_ast (e := t.length) (N := 300) rfl rfl (rfl) (by omega) ?_
              refine E_s (p' := 182) (st' := aA 124 :: _) rfl rfl ?_
              refine E_gA (b := 166) rfl rfl rfl rfl rfl rfl ?_
              refine E_s (p' := 186) (st' := aA 124 :: _) rfl rfl ?_
              refine E_gI (v := ((t.length : Nat) : Int)) rfl rfl rfl rfl ((up2_ne (by omega)).trans (I2.2.1)) ?_
              refine E_s (p' := 191) (st' := aI ((k + 1 : Nat) : Int) :: _) rfl rfl ?_
              refine E_ast (e := t.length) (N := 300) rfl rfl (rfl) (by omega) ?_
              refine E_s (p' := 193) (st' := aA 124 :: _) rfl rfl ?_
              refine E_s (p' := 194) (st' := aA 124 :: _) rfl rfl ?_
              refine E_gI (v := ((t.length : Nat) : Int)) rfl rfl rfl rfl ((up2_ne (by omega)).trans ((up2_ne (by omega)).trans (I2.2.1))) ?_
              refine E_s (p' := 198) (st' := aI 1 :: _) rfl rfl ?_
              refine E_add (v := ((t.length + 1 : Nat) : Int)) rfl (by omega) (by omega) ?_
              refine E_pI rfl rfl rfl rfl (Or.inl rfl) ?_
              refine E_inc (x := ((k + 1 : Nat) : Int)) (w := ((k + 2 : Nat) : Int)) (L' := [some (aA 124), x1, some (aI ((g : Nat) : Int)), some (aI ((M : Nat) : Int)), some (aI ((k + 2 : Nat) : Int))]) rfl rfl rfl (by omega) (by omega) rfl ?_
              refine E_s (p' := 113) rfl rfl ?_
              have e9 : accM R g M l0 (k + 1) = some (t ++ [(g, k + 1)]) := by
                show (accM R g M l0 k).bind _ = _
                rw [I1]
                show (bif qmB R g M (k + 1) then _ else _) = _
                rw [show qmB R g M (k + 1) = true by unfold qmB; rw [decide_eq_true (by omega), decide_eq_true (by have := pc_two (k := k) (by omega); omega)]; simpa using (show igB R g (k + 1) = true by assumption)]
                show (if t.length = 300 then none else _) = _
                rw [if_neg (by omega)]
              refine ih (k + 1) _ _ (by omega) (by omega) e9 (I2.add (by omega) up2_eq (fun j hj => ⟨(up2_ne (by omega)).trans ((up2_ne (by omega)).trans (up2_sl (by omega))), (up2_ne (by omega)).trans ((up2_sl (by omega)).trans (up2_ne (by omega)))⟩) ⟨(up2_ne (by omega)).trans ((up2_ne (by omega)).trans up2_eq), (up2_ne (by omega)).trans up2_eq⟩) (fun b j g1 g2 g3 => (up2_o g1).trans ((up2_ne g3).trans ((up2_ne g2).trans (I3 b j g1 g2 g3))))
            · refine E_go (p' := 163) (L' := [some (aA 124), x1, some (aI ((g : Nat) : Int)), some (aI ((M : Nat) : Int)), some (aI ((k + 1 : Nat) : Int))]) (st' := []) rfl rfl rfl ?_
              refine E_s (p' := 164) (st' := aA 124 :: _) rfl rfl ?_
              refine E_s (p' := 165) (st' := aI 0 :: _) rfl rfl ?_
              refine E_pI rfl rfl rfl rfl (Or.inl rfl) ?_
              refine E_s (p' := 170) (st' := aI (-3) :: _) rfl rfl ?_
              refine E_ret rfl rfl ?_
              have e9 : accM R g M l0 (k + 1) = none := by
                show (accM R g M l0 k).bind _ = _
                rw [I1]
                show (bif qmB R g M (k + 1) then _ else _) = _
                rw [show qmB R g M (k + 1) = true by unfold qmB; rw [decide_eq_true (by omega), decide_eq_true (by have := pc_two (k := k) (by omega); omega)]; simpa using (show igB R g (k + 1) = true by assumption)]
                show (if t.length = 300 then none else _) = _
                rw [if_pos (by omega)]
              exact q0 _ (accM_none e9 4095 (by omega)) ⟨by decide, up2_eq, fun j hj => absurd hj (Nat.not_lt_zero _)⟩ (fun b j g1 g2 g3 => (up2_o g1).trans (I3 b j g1 g2 g3))
          · refine E_go (p' := 150) (L' := [some (aA 124), x1, some (aI ((g : Nat) : Int)), some (aI ((M : Nat) : Int)), some (aI ((k + 1 : Nat) : Int))]) (st' := []) rfl rfl rfl ?_
            refine E_s (p' := 202) rfl rfl ?_
            refine E_inc (x := ((k + 1 : Nat) : Int)) (w := ((k + 2 : Nat) : Int)) (L' := [some (aA 124), x1, some (aI ((g : Nat) : Int)), some (aI ((M : Nat) : Int)), some (aI ((k + 2 : Nat) : Int))]) rfl rfl rfl (by omega) (by omega) rfl ?_
            refine E_s (p' := 113) rfl rfl ?_
            have e9 : accM R g M l0 (k + 1) = some t := by
              show (accM R g M l0 k).bind _ = _
              rw [I1]
              show (bif qmB R g M (k + 1) then _ else _) = _
              rw [show qmB R g M (k + 1) = false by unfold qmB; first | (rw [decide_eq_false (by omega)]; rfl) | (rw [decide_eq_false (p := 2 ≤ pc12 (k + 1)) (by have := pc_two (k := k) (by omega); omega)]; exact Bool.and_false _) | (rw [show igB R g (k + 1) = false by assumption, Bool.and_false]; exact Bool.and_false _)]; rfl
            exact ih (k + 1) m t (by omega) (by omega) e9 I2 I3
end

/-- the GROUPINGS as the model takes them -/
def accF (R : RD) : Nat → Option (List (Nat × Nat))
  | 0 => some []
  | g + 1 => (accF R g).bind fun t => bif usb R g then accM R g (mateN R g 12) t 4095 else some t
theorem mate_sd {R : RD} {g x : Nat} (h : Nat.testBit (mateN R g 12) x = true) : sdG R x = true := by
  have h1 := mateN_tb 12 h
  unfold mateB at h1
  have h2 := (Bool.and_eq_true_iff.mp (Bool.and_eq_true_iff.mp h1).2).1
  unfold usb at h2
  exact (Bool.and_eq_true_iff.mp h2).2
section
variable {len : Nat} {m m0 : Mm} {Q : Option AV → Sx → Prop} {R : RD} {g : Nat} {x1 : Option AV}
theorem yl_may (hG : GR R (Cn R) m) (hg : g < 12) (hgl : 0 < glen R (g : Int)) (hk9 : E 176 110 [some (aA 124), x1, some (aI ((g : Nat) : Int)), some (aI ((mateN R g 12 : Nat) : Int)), some (aI 12)] [] (m, tl len) Q) : ∀ (d : Nat) (k : Nat), (12 < k + d) → (k ≤ 12) → E 176 54 [some (aA 124), x1, some (aI ((g : Nat) : Int)), some (aI ((mateN R g k : Nat) : Int)), some (aI ((k : Nat) : Int))] [] (m, tl len) Q := by
  intro d
  induction d with
  | zero => intro k hd hk; omega
  | succ d ih =>
    intro k hd hk
    have hml := mateN_lt R g k hk
    refine E_s (p' := 56) (st' := aI ((k : Nat) : Int) :: _) rfl rfl ?_
    refine E_s (p' := 58) (st' := aI 12 :: _) rfl rfl ?_
    refine E_icmp_ge (x := ((k : Nat) : Int)) (y := 12) rfl (by decide) (fun h_1 => ?_) (fun h_1 => ?_)
    · refine E_go (p' := 110) (L' := [some (aA 124), x1, some (aI ((g : Nat) : Int)), some (aI ((mateN R g k : Nat) : Int)), some (aI ((k : Nat) : Int))]) (st' := []) rfl rfl rfl ?_
      have ek : k = 12 := by omega
      subst ek
      exact hk9
    · refine E_go (p' := 61) (L' := [some (aA 124), x1, some (aI ((g : Nat) : Int)), some (aI ((mateN R g k : Nat) : Int)), some (aI ((k : Nat) : Int))]) (st' := []) rfl rfl rfl ?_
      have hpw : 2 ^ k < 2 ^ 12 := Nat.pow_lt_pow_right (by omega) (by omega)
      refine E_s (p' := 62) (st' := aI ((mateN R g k : Nat) : Int) :: _) rfl rfl ?_
      refine E_s (p' := 64) (st' := aI ((k : Nat) : Int) :: _) rfl rfl ?_
      refine E_s (p' := 65) (st' := aI ((g : Nat) : Int) :: _) rfl rfl ?_
      refine E_icmp_eq (x := ((k : Nat) : Int)) (y := ((g : Nat) : Int)) rfl (by decide) (fun h_2 => ?_) (fun h_2 => ?_)
      · refine E_go (p' := 101) (L' := [some (aA 124), x1, some (aI ((g : Nat) : Int)), some (aI ((mateN R g k : Nat) : Int)), some (aI ((k : Nat) : Int))]) (st' := [aI ((mateN R g k : Nat) : Int)]) rfl rfl rfl ?_
        refine E_s (p' := 102) (st' := aI 0 :: _) rfl rfl ?_
        refine E_or (x := mateN R g k) (y := 0) (v := ((mateN R g k) ||| 0)) rfl (by omega) (by omega) rfl ?_
        refine E_s (p' := 104) (L' := [some (aA 124), x1, some (aI ((g : Nat) : Int)), some (aI ((((mateN R g k) ||| 0) : Nat) : Int)), some (aI ((k : Nat) : Int))]) rfl rfl ?_
        refine E_inc (x := ((k : Nat) : Int)) (w := ((k + 1 : Nat) : Int)) (L' := [some (aA 124), x1, some (aI ((g : Nat) : Int)), some (aI ((((mateN R g k) ||| 0) : Nat) : Int)), some (aI ((k + 1 : Nat) : Int))]) rfl rfl rfl (by omega) (by omega) rfl ?_
        refine E_s (p' := 54) rfl rfl ?_
        have e9 : mateN R g (k + 1) = ((mateN R g k) ||| 0) := by
          show (bif mateB R g k then _ else _) = _
          rw [show mateB R g k = false by unfold mateB usb; first | (rw [decide_eq_false (p := k ≠ g) (by omega)]; rfl) | (rw [show (gmem R (k : Int) (Cn R)).all (sdR R) = false by assumption]; simp) | (rw [decide_eq_false (p := glen R (k : Int) = glen R (g : Int)) (by omega)]; simp)]
          first | rfl | exact (Nat.or_zero _).symm
        rw [← e9]
        exact ih (k + 1) (by omega) (by omega)
      · refine E_go (p' := 68) (L' := [some (aA 124), x1, some (aI ((g : Nat) : Int)), some (aI ((mateN R g k : Nat) : Int)), some (aI ((k : Nat) : Int))]) (st' := [aI ((mateN R g k : Nat) : Int)]) rfl rfl rfl ?_
        refine E_s (p' := 69) (st' := aA 124 :: _) rfl rfl ?_
        refine E_gA (b := 164) rfl rfl rfl rfl rfl rfl ?_
        refine E_s (p' := 74) (st' := aI ((k : Nat) : Int) :: _) rfl rfl ?_
        refine E_zld (e := k) (N := 12) (v := (bi ((gmem R (k : Int) (Cn R)).all (sdR R)))) rfl rfl (rfl) (by omega) (hG k (by omega)).2.2 ?_
        refine E_b_eq0 (b := ((gmem R (k : Int) (Cn R)).all (sdR R))) rfl (by decide) (fun h_3 => ?_) (fun h_3 => ?_)
        · refine E_go (p' := 101) (L' := [some (aA 124), x1, some (aI ((g : Nat) : Int)), some (aI ((mateN R g k : Nat) : Int)), some (aI ((k : Nat) : Int))]) (st' := [aI ((mateN R g k : Nat) : Int)]) rfl rfl rfl ?_
          refine E_s (p' := 102) (st' := aI 0 :: _) rfl rfl ?_
          refine E_or (x := mateN R g k) (y := 0) (v := ((mateN R g k) ||| 0)) rfl (by omega) (by omega) rfl ?_
          refine E_s (p' := 104) (L' := [some (aA 124), x1, some (aI ((g : Nat) : Int)), some (aI ((((mateN R g k) ||| 0) : Nat) : Int)), some (aI ((k : Nat) : Int))]) rfl rfl ?_
          refine E_inc (x := ((k : Nat) : Int)) (w := ((k + 1 : Nat) : Int)) (L' := [some (aA 124), x1, some (aI ((g : Nat) : Int)), some (aI ((((mateN R g k) ||| 0) : Nat) : Int)), some (aI ((k + 1 : Nat) : Int))]) rfl rfl rfl (by omega) (by omega) rfl ?_
          refine E_s (p' := 54) rfl rfl ?_
          have e9 : mateN R g (k + 1) = ((mateN R g k) ||| 0) := by
            show (bif mateB R g k then _ else _) = _
            rw [show mateB R g k = false by unfold mateB usb; first | (rw [decide_eq_false (p := k ≠ g) (by omega)]; rfl) | (rw [show (gmem R (k : Int) (Cn R)).all (sdR R) = false by assumption]; simp) | (rw [decide_eq_false (p := glen R (k : Int) = glen R (g : Int)) (by omega)]; simp)]
            first | rfl | exact (Nat.or_zero _).symm
          rw [← e9]
          exact ih (k + 1) (by omega) (by omega)
        · refine E_go (p' := 78) (L' := [some (aA 124), x1, some (aI ((g : Nat) : Int)), some (aI ((mateN R g k : Nat) : Int)), some (aI ((k : Nat) : Int))]) (st' := [aI ((mateN R g k : Nat) : Int)]) rfl rfl rfl ?_
          refine E_s (p' := 79) (st' := aA 124 :: _) rfl rfl ?_
          refine E_gA (b := 163) rfl rfl rfl rfl rfl rfl ?_
          refine E_s (p' := 84) (st' := aI ((k : Nat) : Int) :: _) rfl rfl ?_
          refine E_ald (e := k) (N := 12) (v := ((glen R (k : Int) : Nat) : Int)) rfl rfl (rfl) (by omega) (hG k (by omega)).1 ?_
          refine E_s (p' := 86) (st' := aA 124 :: _) rfl rfl ?_
          refine E_gA (b := 163) rfl rfl rfl rfl rfl rfl ?_
          refine E_s (p' := 90) (st' := aI ((g : Nat) : Int) :: _) rfl rfl ?_
          refine E_ald (e := g) (N := 12) (v := ((glen R (g : Int) : Nat) : Int)) rfl rfl (rfl) (by omega) (hG g (by omega)).1 ?_
          refine E_icmp_ne (x := ((glen R (k : Int) : Nat) : Int)) (y := ((glen R (g : Int) : Nat) : Int)) rfl (by decide) (fun h_4 => ?_) (fun h_4 => ?_)
          · refine E_go (p' := 101) (L' := [some (aA 124), x1, some (aI ((g : Nat) : Int)), some (aI ((mateN R g k : Nat) : Int)), some (aI ((k : Nat) : Int))]) (st' := [aI ((mateN R g k : Nat) : Int)]) rfl rfl rfl ?_
            refine E_s (p' := 102) (st' := aI 0 :: _) rfl rfl ?_
            refine E_or (x := mateN R g k) (y := 0) (v := ((mateN R g k) ||| 0)) rfl (by omega) (by omega) rfl ?_
            refine E_s (p' := 104) (L' := [some (aA 124), x1, some (aI ((g : Nat) : Int)), some (aI ((((mateN R g k) ||| 0) : Nat) : Int)), some (aI ((k : Nat) : Int))]) rfl rfl ?_
            refine E_inc (x := ((k : Nat) : Int)) (w := ((k + 1 : Nat) : Int)) (L' := [some (aA 124), x1, some (aI ((g : Nat) : Int)), some (aI ((((mateN R g k) ||| 0) : Nat) : Int)), some (aI ((k + 1 : Nat) : Int))]) rfl rfl rfl (by omega) (by omega) rfl ?_
            refine E_s (p' := 54) rfl rfl ?_
            have e9 : mateN R g (k + 1) = ((mateN R g k) ||| 0) := by
              show (bif mateB R g k then _ else _) = _
              rw [show mateB R g k = false by unfold mateB usb; first | (rw [decide_eq_false (p := k ≠ g) (by omega)]; rfl) | (rw [show (gmem R (k : Int) (Cn R)).all (sdR R) = false by assumption]; simp) | (rw [decide_eq_false (p := glen R (k : Int) = glen R (g : Int)) (by omega)]; simp)]
              first | rfl | exact (Nat.or_zero _).symm
            rw [← e9]
            exact ih (k + 1) (by omega) (by omega)
          · refine E_go (p' := 94) (L' := [some (aA 124), x1, some (aI ((g : Nat) : Int)), some (aI ((mateN R g k : Nat) : Int)), some (aI ((k : Nat) : Int))]) (st' := [aI ((mateN R g k : Nat) : Int)]) rfl rfl rfl ?_
            refine E_s (p' := 95) (st' := aI 1 :: _) rfl rfl ?_
            refine E_s (p' := 97) (st' := aI ((k : Nat) : Int) :: _) rfl rfl ?_
            refine E_shl (x := 1) (y := k) (v := ((1) * 2 ^ k)) rfl (by omega) (by omega) rfl ?_
            refine E_s (p' := 102) rfl rfl ?_
            refine E_or (x := mateN R g k) (y := ((1) * 2 ^ k)) (v := ((mateN R g k) ||| ((1) * 2 ^ k))) rfl (by omega) (by omega) rfl ?_
            refine E_s (p' := 104) (L' := [some (aA 124), x1, some (aI ((g : Nat) : Int)), some (aI ((((mateN R g k) ||| ((1) * 2 ^ k)) : Nat) : Int)), some (aI ((k : Nat) : Int))]) rfl rfl ?_
            refine E_inc (x := ((k : Nat) : Int)) (w := ((k + 1 : Nat) : Int)) (L' := [some (aA 124), x1, some (aI ((g : Nat) : Int)), some (aI ((((mateN R g k) ||| ((1) * 2 ^ k)) : Nat) : Int)), some (aI ((k + 1 : Nat) : Int))]) rfl rfl rfl (by omega) (by omega) rfl ?_
            refine E_s (p' := 54) rfl rfl ?_
            have e9 : mateN R g (k + 1) = ((mateN R g k) ||| ((1) * 2 ^ k)) := by
              show (bif mateB R g k then _ else _) = _
              rw [show mateB R g k = true by unfold mateB usb; rw [decide_eq_true (p := k ≠ g) (by omega), decide_eq_true (p := 0 < glen R (k : Int)) (by omega), show (gmem R (k : Int) (Cn R)).all (sdR R) = true by assumption, decide_eq_true (p := glen R (k : Int) = glen R (g : Int)) (by omega)]; rfl]
              rfl
            rw [← e9]
            exact ih (k + 1) (by omega) (by omega)
end

theorem accF_none {R : RD} {k : Nat} (h : accF R k = none) : ∀ n, k ≤ n → accF R n = none := by
  intro n
  induction n with
  | zero => intro hk; have e9 : k = 0 := by omega
            subst e9; exact h
  | succ n ih =>
    intro hk
    by_cases e9 : k = n + 1
    · subst e9; exact h
    · show (accF R n).bind _ = none
      rw [ih (by omega)]; rfl
def mfnL (R : RD) : List (Nat × Nat) := (accF R 12).getD []
def mfnV (R : RD) : Int := match accF R 12 with
  | none => -3
  | some l => (l.length : Int)
section
variable {len : Nat} {m m0 : Mm} {Q : Option AV → Sx → Prop} {R : RD} {i : Nat}
theorem yl_fo (hV : VR R) (hN : ∀ d, d < Cn R → m0 148 d = Rtd R d) (hG0 : GR R (Cn R) m0) (q : ∀ m1 : Mm, FrMF m0 m1 → FM (mfnL R) m1 → Q (some (aI (mfnV R))) (m1, tl len))  : ∀ (d : Nat) (g : Nat) (m : Mm) (t : List (Nat × Nat)) (x3 x4 : Option AV), (12 < g + d) → (g ≤ 12) → (accF R g = some t) → (FM t m) → (FrMF m0 m) → E 176 22 [some (aA 124), some (aI ((i : Nat) : Int)), some (aI ((g : Nat) : Int)), x3, x4] [] (m, tl len) Q := by
  intro d
  induction d with
  | zero => intro g m t x3 x4 hd hk I1 I2 I3; omega
  | succ d ih =>
    intro g m t x3 x4 hd hk I1 I2 I3
    have hG : GR R (Cn R) m := fun x hx => ⟨(I3 _ _ (by omega) (by omega) (by omega)).trans (hG0 x hx).1, fun j hj => (I3 _ _ (by omega) (by omega) (by omega)).trans ((hG0 x hx).2.1 j hj), (I3 _ _ (by omega) (by omega) (by omega)).trans (hG0 x hx).2.2⟩
    refine E_s (p' := 23) (st' := aI ((g : Nat) : Int) :: _) rfl rfl ?_
    refine E_s (p' := 25) (st' := aI 12 :: _) rfl rfl ?_
    refine E_icmp_ge (x := ((g : Nat) : Int)) (y := 12) rfl (by decide) (fun h_1 => ?_) (fun h_1 => ?_)
    · refine E_go (p' := 214) (L' := [some (aA 124), some (aI ((i : Nat) : Int)), some (aI ((g : Nat) : Int)), x3, x4]) (st' := []) rfl rfl rfl ?_
      refine E_s (p' := 215) (st' := aA 124 :: _) rfl rfl ?_
      refine E_gI (v := ((t.length : Nat) : Int)) rfl rfl rfl rfl I2.2.1 ?_
      refine E_ret rfl rfl ?_
      have ek : g = 12 := by omega
      subst ek
      have e7 : mfnV R = (t.length : Int) := by unfold mfnV; rw [I1]
      have e6 : mfnL R = t := by unfold mfnL; rw [I1]; rfl
      rw [e7, e6] at q
      exact q m I3 I2
    · refine E_go (p' := 28) (L' := [some (aA 124), some (aI ((i : Nat) : Int)), some (aI ((g : Nat) : Int)), x3, x4]) (st' := []) rfl rfl rfl ?_
      have hk2 : g < 12 := by omega
      refine E_s (p' := 29) (st' := aA 124 :: _) rfl rfl ?_
      refine E_gA (b := 163) rfl rfl rfl rfl rfl rfl ?_
      refine E_s (p' := 33) (st' := aI ((g : Nat) : Int) :: _) rfl rfl ?_
      refine E_ald (e := g) (N := 12) (v := ((glen R (g : Int) : Nat) : Int)) rfl rfl (rfl) (by omega) (hG g (by omega)).1 ?_
      refine E_if_eq (x := ((glen R (g : Int) : Nat) : Int)) rfl (by decide) (fun h_2 => ?_) (fun h_2 => ?_)
      · refine E_go (p' := 208) (L' := [some (aA 124), some (aI ((i : Nat) : Int)), some (aI ((g : Nat) : Int)), x3, x4]) (st' := []) rfl rfl rfl ?_
        refine E_inc (x := ((g : Nat) : Int)) (w := ((g + 1 : Nat) : Int)) (L' := [some (aA 124), some (aI ((i : Nat) : Int)), some (aI ((g + 1 : Nat) : Int)), x3, x4]) rfl rfl rfl (by omega) (by omega) rfl ?_
        refine E_s (p' := 22) rfl rfl ?_
        have e9 : accF R (g + 1) = some t := by
          show (accF R g).bind _ = _
          rw [I1]
          show (bif usb R g then _ else _) = _
          rw [show usb R g = false by unfold usb; first | (rw [decide_eq_false (by omega)]; rfl) | (rw [show (gmem R (g : Int) (Cn R)).all (sdR R) = false by assumption]; exact Bool.and_false _)]; rfl
        exact ih (g + 1) m t _ _ (by omega) (by omega) e9 I2 I3
      · refine E_go (p' := 37) (L' := [some (aA 124), some (aI ((i : Nat) : Int)), some (aI ((g : Nat) : Int)), x3, x4]) (st' := []) rfl rfl rfl ?_
        refine E_s (p' := 38) (st' := aA 124 :: _) rfl rfl ?_
        refine E_gA (b := 164) rfl rfl rfl rfl rfl rfl ?_
        refine E_s (p' := 42) (st' := aI ((g : Nat) : Int) :: _) rfl rfl ?_
        refine E_zld (e := g) (N := 12) (v := (bi ((gmem R (g : Int) (Cn R)).all (sdR R)))) rfl rfl (rfl) (by omega) (hG g (by omega)).2.2 ?_
        refine E_b_ne0 (b := ((gmem R (g : Int) (Cn R)).all (sdR R))) rfl (by decide) (fun h_3 => ?_) (fun h_3 => ?_)
        · refine E_go (p' := 49) (L' := [some (aA 124), some (aI ((i : Nat) : Int)), some (aI ((g : Nat) : Int)), x3, x4]) (st' := []) rfl rfl rfl ?_
          refine E_s (p' := 50) (st' := aI 0 :: _) rfl rfl ?_
          refine E_s (p' := 51) (L' := [some (aA 124), some (aI ((i : Nat) : Int)), some (aI ((g : Nat) : Int)), some (aI 0), x4]) rfl rfl ?_
          refine E_s (p' := 52) (st' := aI 0 :: _) rfl rfl ?_
          refine E_s (p' := 54) (L' := [some (aA 124), some (aI ((i : Nat) : Int)), some (aI ((g : Nat) : Int)), some (aI 0), some (aI 0)]) rfl rfl ?_
          have hall : (gmem R (g : Int) (Cn R)).all (sdR R) = true := by assumption
          have hu9 : usb R g = true := by unfold usb; rw [decide_eq_true (by omega), hall]; rfl
          refine yl_may hG hk2 (by omega) ?_ 13 0 (by omega) (by omega)
          refine E_s (p' := 111) (st' := aI 1 :: _) rfl rfl ?_
          refine E_s (p' := 113) (L' := [some (aA 124), some (aI ((i : Nat) : Int)), some (aI ((g : Nat) : Int)), some (aI ((mateN R g 12 : Nat) : Int)), some (aI 1)]) rfl rfl ?_
          refine yl_mset hV (fun d hd9 => (I3 _ _ (by omega) (by omega) (by omega)).trans (hN d hd9)) hG hk2 hall (mateN_lt R g 12 (by omega)) (fun x hx hx2 => mate_len hx2) (fun x hx hx2 => mate_sd hx2) (fun m1 l1 hs1 hs2 hs3 => ?_) (fun m1 hs1 hs2 hs3 => ?_) 4096 0 m t (by omega) (by omega) rfl I2 (fun b j _ _ _ => rfl)
          · refine E_inc (x := ((g : Nat) : Int)) (w := ((g + 1 : Nat) : Int)) (L' := [some (aA 124), some (aI ((i : Nat) : Int)), some (aI ((g + 1 : Nat) : Int)), some (aI ((mateN R g 12 : Nat) : Int)), some (aI 4096)]) rfl rfl rfl (by omega) (by omega) rfl ?_
            refine E_s (p' := 22) rfl rfl ?_
            have e9 : accF R (g + 1) = some l1 := by
              show (accF R g).bind _ = _
              rw [I1]
              show (bif usb R g then _ else _) = _
              rw [hu9, cond_true, hs1]
            exact ih (g + 1) m1 l1 _ _ (by omega) (by omega) e9 hs2 (fun b j g1 g2 g3 => (hs3 b j g1 g2 g3).trans (I3 b j g1 g2 g3))
          · have e9 : accF R (g + 1) = none := by
              show (accF R g).bind _ = _
              rw [I1]
              show (bif usb R g then _ else _) = _
              rw [hu9, cond_true, hs1]
            have e8 := accF_none e9 12 (by omega)
            have e7 : mfnV R = -3 := by unfold mfnV; rw [e8]
            have e6 : mfnL R = [] := by unfold mfnL; rw [e8]; rfl
            rw [e7, e6] at q
            exact q m1 (fun b j g1 g2 g3 => (hs3 b j g1 g2 g3).trans (I3 b j g1 g2 g3)) hs2
        · refine E_go (p' := 46) (L' := [some (aA 124), some (aI ((i : Nat) : Int)), some (aI ((g : Nat) : Int)), x3, x4]) (st' := []) rfl rfl rfl ?_
          refine E_s (p' := 208) rfl rfl ?_
          refine E_inc (x := ((g : Nat) : Int)) (w := ((g + 1 : Nat) : Int)) (L' := [some (aA 124), some (aI ((i : Nat) : Int)), some (aI ((g + 1 : Nat) : Int)), x3, x4]) rfl rfl rfl (by omega) (by omega) rfl ?_
          refine E_s (p' := 22) rfl rfl ?_
          have e9 : accF R (g + 1) = some t := by
            show (accF R g).bind _ = _
            rw [I1]
            show (bif usb R g then _ else _) = _
            rw [show usb R g = false by unfold usb; first | (rw [decide_eq_false (by omega)]; rfl) | (rw [show (gmem R (g : Int) (Cn R)).all (sdR R) = false by assumption]; exact Bool.and_false _)]; rfl
          exact ih (g + 1) m t _ _ (by omega) (by omega) e9 I2 I3
end

def mfL (S : Nat → RD) (r : Int) (l : List (Nat × Nat)) : List (Nat × Nat) := if 0 ≤ r ∧ r ≤ 3 then mfnL (S r.toNat) else l
def mfV (S : Nat → RD) (r : Int) : Int := if 0 ≤ r ∧ r ≤ 3 then mfnV (S r.toNat) else -2
section
variable {len : Nat} {m : Mm} {Q : Option AV → Sx → Prop} {S : Nat → RD} {r : Int} {l : List (Nat × Nat)}
theorem M_found (hS : MS S m) (hF : FM l m) (q : ∀ m1 : Mm, MS S m1 → (∀ b j, b < 124 ∨ (b = 124 ∧ j = 44) ∨ b = 161 → m1 b j = m b j) → FM (mfL S r l) m1 → Q (some (aI (mfV S r))) (m1, tl len)) : E 176 0 [some (aA 124), some (aI (r)), none, none, none] [] (m, tl len) Q := by
  refine E_s (p' := 1) (st' := aI (r) :: _) rfl rfl ?_
  refine E_callL (p' := 4) (L0 := [some (aI (r))]) rfl rfl rfl ?_
  refine m_isRecord (fun i hi hr => ?_) (fun hr => ?_)
  · refine E_go (p' := 4) (L' := [some (aA 124), some (aI (r)), none, none, none]) (st' := [aI 1]) rfl rfl rfl ?_
    obtain ⟨hV, hM⟩ := hS i hi
    have hn60 := hV.1
    have hs40 := hV.2.2.2.2.1
    subst hr
    refine E_s (p' := 10) rfl rfl ?_
    refine E_s (p' := 11) (st' := aA 124 :: _) rfl rfl ?_
    refine E_s (p' := 12) (st' := aI ((i : Nat) : Int) :: _) rfl rfl ?_
    refine E_callV (k' := 177) (a := 124) (r := []) (L0 := [some (aA 124), some (aI ((i : Nat) : Int)), none, none]) rfl rfl rfl rfl rfl rfl rfl rfl rfl rfl ?_
    refine m_groups hi hM hV (fun m1 K1 K2 K3 => ?_)
    refine E_go (p' := 15) (L' := [some (aA 124), some (aI ((i : Nat) : Int)), none, none, none]) (st' := []) rfl rfl rfl ?_
    refine E_s (p' := 16) (st' := aA 124 :: _) rfl rfl ?_
    refine E_s (p' := 17) (st' := aI 0 :: _) rfl rfl ?_
    refine E_pI rfl rfl rfl rfl (Or.inl rfl) ?_
    refine E_s (p' := 21) (st' := aI 0 :: _) rfl rfl ?_
    refine E_s (p' := 22) (L' := [some (aA 124), some (aI ((i : Nat) : Int)), some (aI 0), none, none]) rfl rfl ?_
    have e1 : mfV S (i : Int) = mfnV (S i) := by unfold mfV; rw [if_pos (by omega), Int.toNat_natCast]
    have e2 : mfL S (i : Int) l = mfnL (S i) := by unfold mfL; rw [if_pos (by omega), Int.toNat_natCast]
    rw [e1, e2] at q
    refine yl_fo hV (fun d hd9 => (up2_ne (by omega)).trans (K2 d hd9)) (fun x hx => ⟨(up2_ne (by omega)).trans (K3 x hx).1, fun j hj => (up2_ne (by omega)).trans ((K3 x hx).2.1 j hj), (up2_ne (by omega)).trans (K3 x hx).2.2⟩) (fun m2 F2 L2 => q m2 ?_ ?_ L2) 13 0 _ [] _ _ (by omega) (by omega) rfl ⟨by decide, up2_eq, fun j hj => absurd hj (Nat.not_lt_zero _)⟩ (fun b j _ _ _ => rfl)
    · exact (K1.MS hS).of (fun b j g1 g2 => (F2 b j (by omega) (by omega) (by omega)).trans (up2_o (by omega)))
    · exact fun b j hb => (F2 b j (by omega) (by omega) (by omega)).trans ((up2_o (by omega)).trans (K1 b j (by omega) (by omega) (by omega)))
  · refine E_go (p' := 4) (L' := [some (aA 124), some (aI (r)), none, none, none]) (st' := [aI 0]) rfl rfl rfl ?_
    refine E_s (p' := 7) rfl rfl ?_
    refine E_s (p' := 9) (st' := aI (-2) :: _) rfl rfl ?_
    refine E_ret rfl rfl ?_
    have e1 : mfV S r = -2 := by unfold mfV; rw [if_neg (by omega)]
    have e2 : mfL S r l = l := by unfold mfL; rw [if_neg (by omega)]
    rw [e1, e2] at q
    exact q m hS (fun b j _ => rfl) hF
end

