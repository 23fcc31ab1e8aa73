/-! what each call answers, and the RECORD behind it -/
noncomputable def cif {α : Type} (P : Prop) (x y : α) : α := @ite α P (Classical.propDecidable P) x y
theorem cif_pos {α : Type} {P : Prop} {x y : α} (h : P) : cif P x y = x := by unfold cif; rw [if_pos h]
theorem cif_neg {α : Type} {P : Prop} {x y : α} (h : ¬ P) : cif P x y = y := by unfold cif; rw [if_neg h]
def inC (R : RD) (c : Int) : Prop := 0 ≤ c ∧ c < (Cn R : Int)
def okc (c l : Int) : Prop := (0 ≤ c ∧ c ≤ 23) ∧ 10 ≤ l ∧ l ≤ 600
noncomputable def oCord (g c l : Int) (R : RD) : Int × RD := cif ((0 ≤ g ∧ g ≤ 11) ∧ okc c l) (cif (Cn R = 60) (-3, R) ((Cn R : Int), Radd R g (-1) c.toNat l.toNat)) (-2, R)
noncomputable def oHang (o c l : Int) (R : RD) : Int × RD := cif (inC R o ∧ okc c l) (cif (3 < dep R o.toNat ∨ Cn R = 60) (-3, R) ((Cn R : Int), Radd R (-1) o c.toNat l.toNat)) (-2, R)
noncomputable def oKnot (c h s t : Int) (R : RD) : Int × RD := cif (inC R c ∧ kind s t ∧ whl R c.toNat h ∧ ¬ tied R c.toNat h) (cif (Ck R c.toNat = 30) (-3, R) (((Ck R c.toNat + 1 : Nat) : Int), Rkn R c.toNat (Ck R c.toNat + 1) (insP (Cp R c.toNat) (posn (Cp R c.toNat) h.toNat (Ck R c.toNat)) (pck h.toNat s.toNat t.toNat)))) (-2, R)
noncomputable def oUntie (c h : Int) (R : RD) : Int × RD := cif (inC R c ∧ tied R c.toNat h) (((Ck R c.toNat - 1 : Nat) : Int), Rkn R c.toNat (Ck R c.toNat - 1) (remP (Cp R c.toNat) (posn (Cp R c.toNat) h.toNat (Ck R c.toNat)))) (-1, R)
noncomputable def oTear (c h : Int) (R : RD) : Int × RD := cif (inC R c ∧ whl R c.toNat h) ((posn (Cp R c.toNat) h.toNat (Ck R c.toNat) : Int), Rtr R c.toNat h.toNat (posn (Cp R c.toNat) h.toNat (Ck R c.toNat))) (-2, R)
noncomputable def oGap (n : Int) (R : RD) : Int × RD := cif (1 ≤ n ∧ n ≤ 100) ((Cq R : Int), Rgp R n.toNat) (-2, R)
def oClear (R : RD) : Int × RD := ((Cn R : Int), Rclr R)
noncomputable def oSum (c : Int) (R : RD) : Int × RD := cif (inC R c) (cif (Sn R = 40) (-3, R) ((Sn R : Int), Rsm R (Sn R + 1) (upf (Sw R) (Sn R) c.toNat) (upf (Sp R) (Sn R) 0) (Sq R))) (-2, R)
noncomputable def oPart (c : Int) (R : RD) : Int × RD := cif (inC R c ∧ 0 < Sn R ∧ hld R (Sn R - 1) c (Sp R (Sn R - 1)) = false) (cif (Sp R (Sn R - 1) = 12) (-3, R) (((Sp R (Sn R - 1) + 1 : Nat) : Int), Rsm R (Sn R) (Sw R) (upf (Sp R) (Sn R - 1) (Sp R (Sn R - 1) + 1)) (upf (Sq R) (Sn R - 1) (upf (Sq R (Sn R - 1)) (Sp R (Sn R - 1)) c.toNat)))) (-2, R)
noncomputable def oDrop (R : RD) : Int × RD := cif (Sn R = 0) (-1, R) (((Sn R - 1 : Nat) : Int), Rsm R (Sn R - 1) (Sw R) (Sp R) (Sq R))
theorem V_add {R : RD} {g o : Int} {c l : Nat} (hV : VR R) (hn : Cn R < 60) (hg : -1 ≤ g ∧ g ≤ 11) (ho : -1 ≤ o ∧ o < (Cn R : Int)) (hc : c ≤ 23) (hl : 10 ≤ l ∧ l ≤ 600) : VR (Radd R g o c l) := by
  obtain ⟨h1, h2, h3, h4, h5, h6, h7⟩ := hV
  refine ⟨(show Cn R + 1 ≤ 60 by omega), h2, fun d hd => ?_, fun d k hd hk => ?_, h5, fun s hs => ⟨(show Sw R s < Cn R + 1 by have := (h6 s hs).1; omega), (h6 s hs).2⟩, fun s p hs hp => (show Sq R s p < Cn R + 1 by have := h7 s p hs hp; omega)⟩
  · have hd' : d < Cn R + 1 := hd
    show (-1 ≤ upf (Cg R) (Cn R) g d ∧ upf (Cg R) (Cn R) g d ≤ 11) ∧ (-1 ≤ upf (Co R) (Cn R) o d ∧ upf (Co R) (Cn R) o d < (d : Int)) ∧ upf (Cc R) (Cn R) c d ≤ 23 ∧ (10 ≤ upf (Cl R) (Cn R) l d ∧ upf (Cl R) (Cn R) l d ≤ 600) ∧ upf (Ct R) (Cn R) 0 d ≤ upf (Cl R) (Cn R) l d ∧ upf (Ck R) (Cn R) 0 d ≤ 30
    by_cases q : d = Cn R
    · subst q
      simp only [upf_eq]
      exact ⟨hg, ho, hc, hl, by omega, by omega⟩
    · simp only [upf_ne q]
      exact h3 d (by omega)
  · have hd' : d < Cn R + 1 := hd
    have hk' : k < upf (Ck R) (Cn R) 0 d := hk
    by_cases q : d = Cn R
    · subst q; rw [upf_eq] at hk'; omega
    · rw [upf_ne q] at hk'
      have := h4 d k (by omega) hk'
      show kok (Cp R d k) ∧ 1 ≤ ht (Cp R d k) ∧ ht (Cp R d k) ≤ upf (Cl R) (Cn R) l d ∧ (upf (Ct R) (Cn R) 0 d ≠ 0 → ht (Cp R d k) < upf (Ct R) (Cn R) 0 d) ∧ (k + 1 < upf (Ck R) (Cn R) 0 d → ht (Cp R d k) < ht (Cp R d (k + 1)))
      simp only [upf_ne q]
      exact this
theorem V_kn {R : RD} {c n : Nat} {P : Nat → Nat} (hV : VR R) (hn : n ≤ 30) (hP : c < Cn R → ∀ k, k < n → kok (P k) ∧ 1 ≤ ht (P k) ∧ ht (P k) ≤ Cl R c ∧ (Ct R c ≠ 0 → ht (P k) < Ct R c) ∧ (k + 1 < n → ht (P k) < ht (P (k + 1)))) : VR (Rkn R c n P) := by
  obtain ⟨h1, h2, h3, h4, h5, h6, h7⟩ := hV
  refine ⟨h1, h2, fun d hd => ?_, fun d k hd hk => ?_, h5, h6, h7⟩
  · obtain ⟨g1, g2, g3, g4, g5, g6⟩ := h3 d hd
    refine ⟨g1, g2, g3, g4, g5, ?_⟩
    show upf (Ck R) c n d ≤ 30
    by_cases q : d = c
    · subst q; rw [upf_eq]; exact hn
    · rw [upf_ne q]; exact g6
  · have hk' : k < upf (Ck R) c n d := hk
    show kok (upf (Cp R) c P d k) ∧ 1 ≤ ht (upf (Cp R) c P d k) ∧ ht (upf (Cp R) c P d k) ≤ Cl R d ∧ (Ct R d ≠ 0 → ht (upf (Cp R) c P d k) < Ct R d) ∧ (k + 1 < upf (Ck R) c n d → ht (upf (Cp R) c P d k) < ht (upf (Cp R) c P d (k + 1)))
    by_cases q : d = c
    · subst q
      rw [upf_eq] at hk'
      simp only [upf_eq]
      exact hP hd k hk'
    · rw [upf_ne q] at hk'
      simp only [upf_ne q]
      exact h4 d k hd hk'
theorem pck_ht {h s t : Nat} (hs : s < 4) (ht9 : t < 16) : ht (pck h s t) = h := by unfold ht pck; omega
theorem pck_so {h s t : Nat} (hs : s < 4) (ht9 : t < 16) : so (pck h s t) = s := by unfold so pck; omega
theorem pck_tu {h s t : Nat} (ht9 : t < 16) : tu (pck h s t) = t := by unfold tu pck; omega
theorem V_ins {R : RD} {c x k : Nat} (hV : VR R) (hc : c < Cn R) (hn : Ck R c < 30) (hx : kok x) (hh : 1 ≤ ht x ∧ ht x ≤ Cl R c ∧ (Ct R c = 0 ∨ ht x < Ct R c)) (hno : ∀ i, i < Ck R c → ht (Cp R c i) ≠ ht x) (hk1 : k ≤ Ck R c) (hk2 : ∀ i, i < k → ht (Cp R c i) < ht x) (hk3 : k < Ck R c → ht x ≤ ht (Cp R c k)) : VR (Rkn R c (Ck R c + 1) (insP (Cp R c) k x)) := by
  refine V_kn hV (by omega) (fun _ i hi => ?_)
  unfold insP
  rcases Nat.lt_trichotomy i k with g | g | g
  · obtain ⟨v1, v2, v3, v4, v5⟩ := hV.2.2.2.1 c i hc (by omega)
    rw [if_pos g]
    refine ⟨v1, v2, v3, v4, fun g2 => ?_⟩
    rcases Nat.lt_or_ge (i + 1) k with g3 | g3
    · rw [if_pos g3]; exact v5 (by omega)
    · rw [if_neg (by omega), if_pos (by omega)]; exact hk2 i g
  · subst g
    rw [if_neg (by omega), if_pos rfl]
    refine ⟨hx, hh.1, hh.2.1, fun g => by omega, fun g2 => ?_⟩
    rw [if_neg (by omega), if_neg (by omega), Nat.add_sub_cancel]
    have := hk3 (by omega)
    have := hno i (by omega)
    omega
  · obtain ⟨v1, v2, v3, v4, v5⟩ := hV.2.2.2.1 c (i - 1) hc (by omega)
    rw [if_neg (by omega), if_neg (by omega)]
    refine ⟨v1, v2, v3, v4, fun g2 => ?_⟩
    rw [if_neg (by omega), if_neg (by omega), Nat.add_sub_cancel]
    have := v5 (by omega)
    rw [show i - 1 + 1 = i by omega] at this
    exact this
theorem V_rem {R : RD} {c k : Nat} (hV : VR R) (hc : c < Cn R) (hk : k < Ck R c) : VR (Rkn R c (Ck R c - 1) (remP (Cp R c) k)) := by
  have h30 := (hV.2.2.1 c hc).2.2.2.2.2
  refine V_kn hV (by omega) (fun _ i hi => ?_)
  unfold remP
  rcases Nat.lt_or_ge i k with g | g
  · obtain ⟨v1, v2, v3, v4, v5⟩ := hV.2.2.2.1 c i hc (by omega)
    rw [if_pos g]
    refine ⟨v1, v2, v3, v4, fun g2 => ?_⟩
    rcases Nat.lt_or_ge (i + 1) k with g3 | g3
    · rw [if_pos g3]; exact v5 (by omega)
    · rw [if_neg (by omega)]; exact hV.mono hc (by omega) (by omega)
  · obtain ⟨v1, v2, v3, v4, v5⟩ := hV.2.2.2.1 c (i + 1) hc (by omega)
    rw [if_neg (by omega)]
    refine ⟨v1, v2, v3, v4, fun g2 => ?_⟩
    rw [if_neg (by omega)]
    exact hV.mono hc (by omega) (by omega)
theorem V_tr {R : RD} {c h n : Nat} (hV : VR R) (hc : c < Cn R) (hh : h ≤ Cl R c) (hn : n ≤ Ck R c) (hk : ∀ i, i < n → ht (Cp R c i) < h) : VR (Rtr R c h n) := by
  obtain ⟨h1, h2, h3, h4, h5, h6, h7⟩ := hV
  refine ⟨h1, h2, fun d hd => ?_, fun d k hd hk9 => ?_, h5, h6, h7⟩
  · obtain ⟨g1, g2, g3, g4, g5, g6⟩ := h3 d hd
    refine ⟨g1, g2, g3, g4, ?_, ?_⟩
    · show upf (Ct R) c h d ≤ Cl R d
      by_cases q : d = c
      · subst q; rw [upf_eq]; exact hh
      · rw [upf_ne q]; exact g5
    · show upf (Ck R) c n d ≤ 30
      by_cases q : d = c
      · subst q; rw [upf_eq]; omega
      · rw [upf_ne q]; exact g6
  · have hk' : k < upf (Ck R) c n d := hk9
    show kok (Cp R d k) ∧ 1 ≤ ht (Cp R d k) ∧ ht (Cp R d k) ≤ Cl R d ∧ (upf (Ct R) c h d ≠ 0 → ht (Cp R d k) < upf (Ct R) c h d) ∧ (k + 1 < upf (Ck R) c n d → ht (Cp R d k) < ht (Cp R d (k + 1)))
    by_cases q : d = c
    · subst q
      rw [upf_eq] at hk'
      simp only [upf_eq]
      obtain ⟨v1, v2, v3, v4, v5⟩ := h4 d k hd (by omega)
      exact ⟨v1, v2, v3, fun _ => hk k hk', fun g => v5 (by omega)⟩
    · rw [upf_ne q] at hk'
      simp only [upf_ne q]
      exact h4 d k hd hk'
theorem V_gp {R : RD} {q : Nat} (hV : VR R) (hq : 1 ≤ q ∧ q ≤ 100) : VR (Rgp R q) := ⟨hV.1, hq, hV.2.2.1, hV.2.2.2.1, hV.2.2.2.2⟩
theorem V_clr {R : RD} : VR (Rclr R) := ⟨Nat.zero_le _, (show 1 ≤ 15 ∧ 15 ≤ 100 by decide), fun c hc => absurd hc (Nat.not_lt_zero _), fun c k hc => absurd hc (Nat.not_lt_zero _), Nat.zero_le _, fun s hs => absurd hs (Nat.not_lt_zero _), fun s p hs => absurd hs (Nat.not_lt_zero _)⟩
theorem V_sm {R : RD} {n : Nat} {w p : Nat → Nat} {t : Nat → Nat → Nat} (hV : VR R) (hn : n ≤ 40) (h1 : ∀ s, s < n → w s < Cn R ∧ p s ≤ 12) (h2 : ∀ s k, s < n → k < p s → t s k < Cn R) : VR (Rsm R n w p t) := ⟨hV.1, hV.2.1, hV.2.2.1, hV.2.2.2.1, hn, h1, h2⟩
theorem Rgp_self {R : RD} : Rgp R (Cq R) = R := rfl
theorem posn_sp (P : Nat → Nat) (h : Nat) : ∀ n, (∀ i, i < posn P h n → ht (P i) < h) ∧ (posn P h n < n → h ≤ ht (P (posn P h n))) := by
  intro n
  induction n with
  | zero => exact ⟨fun i hi => absurd hi (Nat.not_lt_zero _), fun g => absurd g (Nat.not_lt_zero _)⟩
  | succ n ih =>
    have hle := posn_le P h n
    unfold posn
    by_cases g : posn P h n < n
    · rw [if_pos g]; exact ⟨ih.1, fun _ => ih.2 g⟩
    · have e : posn P h n = n := by omega
      rw [if_neg g]
      by_cases g2 : ht (P n) < h
      · rw [if_pos g2]
        refine ⟨fun i hi => ?_, fun g3 => absurd g3 (Nat.lt_irrefl _)⟩
        rcases Nat.lt_or_ge i n with g4 | g4
        · exact ih.1 i (by omega)
        · have e2 : i = n := by omega
          subst e2; exact g2
      · rw [if_neg g2]
        exact ⟨fun i hi => ih.1 i (by omega), fun _ => by omega⟩
