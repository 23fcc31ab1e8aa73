/-! the spec: how a RECORD's numbers change -/
def upf {α : Type} (f : Nat → α) (i : Nat) (x : α) : Nat → α := fun j => if j = i then x else f j
def mkR (n q : Nat) (g o : Nat → Int) (cc cl ct ck : Nat → Nat) (cp : Nat → Nat → Nat) (sn : Nat) (sw sp : Nat → Nat) (sq : Nat → Nat → Nat) : RD := (n, (q, (g, (o, (cc, (cl, (ct, (ck, (cp, (sn, (sw, (sp, sq))))))))))))
def Radd (R : RD) (g o : Int) (col l : Nat) : RD := mkR (Cn R + 1) (Cq R) (upf (Cg R) (Cn R) g) (upf (Co R) (Cn R) o) (upf (Cc R) (Cn R) col) (upf (Cl R) (Cn R) l) (upf (Ct R) (Cn R) 0) (upf (Ck R) (Cn R) 0) (Cp R) (Sn R) (Sw R) (Sp R) (Sq R)
def Rkn (R : RD) (c n : Nat) (P : Nat → Nat) : RD := mkR (Cn R) (Cq R) (Cg R) (Co R) (Cc R) (Cl R) (Ct R) (upf (Ck R) c n) (upf (Cp R) c P) (Sn R) (Sw R) (Sp R) (Sq R)
def Rtr (R : RD) (c h n : Nat) : RD := mkR (Cn R) (Cq R) (Cg R) (Co R) (Cc R) (Cl R) (upf (Ct R) c h) (upf (Ck R) c n) (Cp R) (Sn R) (Sw R) (Sp R) (Sq R)
def Rgp (R : RD) (q : Nat) : RD := mkR (Cn R) q (Cg R) (Co R) (Cc R) (Cl R) (Ct R) (Ck R) (Cp R) (Sn R) (Sw R) (Sp R) (Sq R)
def Rclr (R : RD) : RD := mkR 0 15 (Cg R) (Co R) (Cc R) (Cl R) (Ct R) (Ck R) (Cp R) 0 (Sw R) (Sp R) (Sq R)
def Rsm (R : RD) (n : Nat) (w p : Nat → Nat) (t : Nat → Nat → Nat) : RD := mkR (Cn R) (Cq R) (Cg R) (Co R) (Cc R) (Cl R) (Ct R) (Ck R) (Cp R) n w p t
/-- how many of n KNOTS are above a height -/
def posn (P : Nat → Nat) (h : Nat) : Nat → Nat
  | 0 => 0
  | n + 1 => if posn P h n < n then posn P h n else if ht (P n) < h then n + 1 else n
theorem posn_le (P : Nat → Nat) (h : Nat) : ∀ n, posn P h n ≤ n := by
  intro n
  induction n with
  | zero => exact Nat.le_refl _
  | succ n ih => unfold posn; split; omega; split <;> omega
theorem posn_u {P : Nat → Nat} {h : Nat} : ∀ {n k : Nat}, k ≤ n → (∀ i, i < k → ht (P i) < h) → (k < n → h ≤ ht (P k)) → k = posn P h n := by
  intro n
  induction n with
  | zero => intro k hk _ _; unfold posn; omega
  | succ n ih =>
    intro k hk h1 h2
    unfold posn
    rcases Nat.lt_or_ge k n with g | g
    · have e := ih (by omega) h1 (fun _ => h2 (by omega))
      rw [← e, if_pos g]
    · rcases Nat.lt_or_ge n k with g2 | g2
      · have e : k = n + 1 := by omega
        subst e
        have e2 := ih (k := n) (Nat.le_refl _) (fun i hi => h1 i (by omega)) (fun q => absurd q (by omega))
        rw [← e2, if_neg (by omega), if_pos (h1 n (by omega))]
      · have e : k = n := by omega
        subst e
        have e2 := ih (k := k) (Nat.le_refl _) h1 (fun q => absurd q (by omega))
        rw [← e2, if_neg (by omega), if_neg (by have := h2 (by omega); omega)]
def insP (P : Nat → Nat) (k x : Nat) : Nat → Nat := fun i => if i < k then P i else if i = k then x else P (i - 1)
def remP (P : Nat → Nat) (k : Nat) : Nat → Nat := fun i => if i < k then P i else P (i + 1)
theorem VR.mono {R : RD} (hV : VR R) {c : Nat} (hc : c < Cn R) : ∀ {i j : Nat}, i < j → j < Ck R c → ht (Cp R c i) < ht (Cp R c j) := by
  intro i j
  induction j with
  | zero => intro h; omega
  | succ j ih =>
    intro h hj
    have h1 := (hV.2.2.2.1 c j hc (by omega)).2.2.2.2 hj
    rcases Nat.lt_or_ge i j with g | g
    · have := ih g (by omega); omega
    · have e : i = j := by omega
      subst e; exact h1
theorem kok_lt {p : Nat} {R : RD} (hV : VR R) {c k : Nat} (hc : c < Cn R) (hk : k < Ck R c) (e : p = Cp R c k) : p < 38464 := by
  obtain ⟨-, -, h3, -, -⟩ := hV.2.2.2.1 c k hc hk
  obtain ⟨-, -, -, ⟨-, h4⟩, -, -⟩ := hV.2.2.1 c hc
  subst e
  unfold ht at h3
  omega
def whl (R : RD) (c : Nat) (h : Int) : Prop := 1 ≤ h ∧ h ≤ (Cl R c : Int) ∧ (Ct R c = 0 ∨ h < (Ct R c : Int))
def tied (R : RD) (c : Nat) (h : Int) : Prop := ∃ k, k < Ck R c ∧ (ht (Cp R c k) : Int) = h
theorem cpm_ne {m : Mm} {a sp b dp n q j : Nat} (h : q ≠ b) : cpm m a sp b dp n q j = m q j := by unfold cpm; rw [if_neg h]
theorem cpm_out {m : Mm} {a sp b dp n j : Nat} (h : j < dp ∨ dp + n ≤ j) : cpm m a sp b dp n b j = m b j := by unfold cpm; rw [if_pos rfl, if_neg (by omega)]
theorem cpm_in {m : Mm} {a sp b dp n j : Nat} (h : dp ≤ j ∧ j < dp + n) : cpm m a sp b dp n b j = m a (sp + (j - dp)) := by unfold cpm; rw [if_pos rfl, if_pos h]
theorem rem_in {m : Mm} {b f n k k2 z : Nat} {P : Nat → Nat} (e : k2 = k) (hk : k < n) (hz : z + k2 + 1 = n) (hP : ∀ e k : Nat, k < n → e = f + k → m b e = (P k : Int)) : ∀ i, i < n - 1 → cpm m b (f + k2 + 1) b (f + k2) z b (f + i) = (remP P k i : Int) := by
  intro i hi
  subst e
  unfold remP
  rcases Nat.lt_or_ge i k2 with g | g
  · rw [cpm_out (by omega), if_pos g]
    exact hP _ i (by omega) rfl
  · rw [cpm_in (by omega), if_neg (by omega)]
    exact hP _ (i + 1) (by omega) (by omega)
theorem upf_eq {α : Type} {f : Nat → α} {i : Nat} {x : α} : upf f i x i = x := if_pos rfl
theorem upf_ne {α : Type} {f : Nat → α} {i j : Nat} {x : α} (h : j ≠ i) : upf f i x j = f j := if_neg h
theorem CR.kn {R : RD} {a c n : Nat} {P : Nat → Nat} {m m' : Mm} (h : CR R a m) (hV : VR R) (hn : n ≤ 30) (e1 : m' (a + 7) c = (n : Int)) (e2 : ∀ i, i < n → m' (a + 8) (30 * c + i) = (P i : Int)) (e : ∀ b j, a ≤ b → b ≤ a + 12 → ¬ (b = a + 7 ∧ j = c) → (b = a + 8 → j < 30 * c ∨ 30 * c + 30 ≤ j) → (b = a → j = 5) → m' b j = m b j) : CR (Rkn R c n P) a m' := by
  obtain ⟨h1, h2, h3, h4, h5, h6, h7⟩ := h
  have ee : ∀ b j, a ≤ b → b ≤ a + 12 → b ≠ a + 7 → b ≠ a + 8 → (b = a → j = 5) → m' b j = m b j := fun b j g1 g2 g3 g4 g5 => e b j g1 g2 (fun q => g3 q.1) (fun q => absurd q g4) g5
  refine ⟨(ee _ _ (by omega) (by omega) (by omega) (by omega) (by omega)).trans h1, (ee _ _ (by omega) (by omega) (by omega) (by omega) (by omega)).trans h2, fun d hd => ?_, fun d k hd hk => ?_, (ee _ _ (by omega) (by omega) (by omega) (by omega) (by omega)).trans h5, fun s hs => ?_, fun s p hs hp => ?_⟩
  · obtain ⟨g1, g2, g3, g4, g5, g6⟩ := h3 d hd
    refine ⟨(ee _ _ (by omega) (by omega) (by omega) (by omega) (by omega)).trans g1, (ee _ _ (by omega) (by omega) (by omega) (by omega) (by omega)).trans g2, (ee _ _ (by omega) (by omega) (by omega) (by omega) (by omega)).trans g3, (ee _ _ (by omega) (by omega) (by omega) (by omega) (by omega)).trans g4, (ee _ _ (by omega) (by omega) (by omega) (by omega) (by omega)).trans g5, ?_⟩
    show m' (a + 7) d = ((upf (Ck R) c n d : Nat) : Int)
    by_cases q : d = c
    · subst q; rw [upf_eq]; exact e1
    · rw [upf_ne q]; exact (e _ _ (by omega) (by omega) (fun w => q w.2) (by omega) (by omega)).trans g6
  · by_cases q : d = c
    · subst q
      have hk' : k < upf (Ck R) d n d := hk
      rw [upf_eq] at hk'
      show m' (a + 8) (30 * d + k) = ((upf (Cp R) d P d k : Nat) : Int)
      rw [upf_eq]; exact e2 k hk'
    · have hk' : k < upf (Ck R) c n d := hk
      rw [upf_ne q] at hk'
      have := (hV.2.2.1 d hd).2.2.2.2.2
      show m' (a + 8) (30 * d + k) = ((upf (Cp R) c P d k : Nat) : Int)
      rw [upf_ne q]; exact (e _ _ (by omega) (by omega) (by omega) (by omega) (by omega)).trans (h4 d k hd hk')
  · exact ⟨(ee _ _ (by omega) (by omega) (by omega) (by omega) (by omega)).trans (h6 s hs).1, (ee _ _ (by omega) (by omega) (by omega) (by omega) (by omega)).trans (h6 s hs).2⟩
  · exact (ee _ _ (by omega) (by omega) (by omega) (by omega) (by omega)).trans (h7 s p hs hp)
theorem CR.tr {R : RD} {a c t n : Nat} {m m' : Mm} (h : CR R a m) (hn : n ≤ Ck R c) (e0 : m' (a + 6) c = (t : Int)) (e1 : m' (a + 7) c = (n : Int)) (e : ∀ b j, a ≤ b → b ≤ a + 12 → ¬ (b = a + 7 ∧ j = c) → ¬ (b = a + 6 ∧ j = c) → (b = a → j = 5) → m' b j = m b j) : CR (Rtr R c t n) a m' := by
  obtain ⟨h1, h2, h3, h4, h5, h6, h7⟩ := h
  have ee : ∀ b j, a ≤ b → b ≤ a + 12 → b ≠ a + 7 → b ≠ a + 6 → (b = a → j = 5) → m' b j = m b j := fun b j g1 g2 g3 g4 g5 => e b j g1 g2 (fun q => g3 q.1) (fun q => g4 q.1) g5
  refine ⟨(ee _ _ (by omega) (by omega) (by omega) (by omega) (by omega)).trans h1, (ee _ _ (by omega) (by omega) (by omega) (by omega) (by omega)).trans h2, fun d hd => ?_, fun d k hd hk => ?_, (ee _ _ (by omega) (by omega) (by omega) (by omega) (by omega)).trans h5, fun s hs => ?_, fun s p hs hp => ?_⟩
  · obtain ⟨g1, g2, g3, g4, g5, g6⟩ := h3 d hd
    refine ⟨(ee _ _ (by omega) (by omega) (by omega) (by omega) (by omega)).trans g1, (ee _ _ (by omega) (by omega) (by omega) (by omega) (by omega)).trans g2, (ee _ _ (by omega) (by omega) (by omega) (by omega) (by omega)).trans g3, (ee _ _ (by omega) (by omega) (by omega) (by omega) (by omega)).trans g4, ?_, ?_⟩
    · show m' (a + 6) d = ((upf (Ct R) c t d : Nat) : Int)
      by_cases q : d = c
      · subst q; rw [upf_eq]; exact e0
      · rw [upf_ne q]; exact (e _ _ (by omega) (by omega) (by omega) (fun w => q w.2) (by omega)).trans g5
    · show m' (a + 7) d = ((upf (Ck R) c n d : Nat) : Int)
      by_cases q : d = c
      · subst q; rw [upf_eq]; exact e1
      · rw [upf_ne q]; exact (e _ _ (by omega) (by omega) (fun w => q w.2) (by omega) (by omega)).trans g6
  · refine (ee _ _ (by omega) (by omega) (by omega) (by omega) (by omega)).trans (h4 d k hd ?_)
    have hk' : k < upf (Ck R) c n d := hk
    by_cases q : d = c
    · subst q; rw [upf_eq] at hk'; omega
    · rw [upf_ne q] at hk'; exact hk'
  · exact ⟨(ee _ _ (by omega) (by omega) (by omega) (by omega) (by omega)).trans (h6 s hs).1, (ee _ _ (by omega) (by omega) (by omega) (by omega) (by omega)).trans (h6 s hs).2⟩
  · exact (ee _ _ (by omega) (by omega) (by omega) (by omega) (by omega)).trans (h7 s p hs hp)
theorem ins_out {m : Mm} {b f n k z : Nat} {x : Int} (hk : k ≤ n) (hz : z + k = n) : ∀ j, j < f ∨ f + n < j → up2 (cpm m b (f + k) b (f + k + 1) z) b (f + k) x b j = m b j := by
  intro j hj
  rw [up2_at, if_neg (by omega)]
  exact cpm_out (by omega)
theorem ins_in {m : Mm} {b f n k x z : Nat} {P : Nat → Nat} (hk : k ≤ n) (hz : z + k = n) (hP : ∀ e k : Nat, k < n → e = f + k → m b e = (P k : Int)) : ∀ i, i ≤ n → up2 (cpm m b (f + k) b (f + k + 1) z) b (f + k) (x : Int) b (f + i) = (insP P k x i : Int) := by
  intro i hi
  rw [up2_at]
  unfold insP
  rcases Nat.lt_or_ge i k with g | g
  · rw [if_neg (by omega), cpm_out (by omega), if_pos g]
    exact hP _ i (by omega) rfl
  · rcases Nat.lt_or_ge k i with g2 | g2
    · rw [if_neg (by omega), cpm_in (by omega), if_neg (by omega), if_neg (by omega)]
      exact hP _ (i - 1) (by omega) (by omega)
    · have e : i = k := by omega
      subst e
      rw [if_pos rfl, if_neg (by omega), if_pos rfl]
theorem isAt_no {P : Nat → Nat} {n kk : Nat} {h : Int} (hs : ∀ i j, i < j → j < n → ht (P i) < ht (P j)) (hk2 : ∀ i, i < kk → (ht (P i) : Int) < h) (hk3 : kk < n → h ≤ (ht (P kk) : Int)) (hne : kk < n → (ht (P kk) : Int) ≠ h) : ∀ k, k < n → (ht (P k) : Int) ≠ h := by
  intro i hi
  rcases Nat.lt_or_ge i kk with g | g
  · have := hk2 i g; omega
  · rcases Nat.lt_or_ge kk i with g2 | g2
    · have := hs kk i g2 hi; have := hk3 (by omega); omega
    · have e : i = kk := by omega
      subst e; exact hne hi
section
variable {len : Nat} {m : Mm} {Q : Option AV → Sx → Prop} {b N f n : Nat} {P : Nat → Nat} {h : Int}
theorem c_isAt (hb : kd b = (1, N)) (hn : f + n ≤ N) (hN : N ≤ 100000) (hP : ∀ e k : Nat, k < n → e = f + k → m b e = (P k : Int)) (hp : ∀ k, k < n → P k < 2147483648) (hs : ∀ i j, i < j → j < n → ht (P i) < ht (P j)) (q1 : ∀ k, k < n → (∀ i, i < k → (ht (P i) : Int) < h) → (ht (P k) : Int) = h → Q (some (aI 1)) (m, tl len)) (q0 : (∀ k, k < n → (ht (P k) : Int) ≠ h) → Q (some (aI 0)) (m, tl len)) : E 23 0 [some (aA b), some (aI ((f : Nat) : Int)), some (aI ((n : Nat) : Int)), some (aI (h)), none] [] (m, tl len) Q := by
  refine E_s (p' := 1) (st' := aA b :: _) rfl rfl ?_
  refine E_s (p' := 2) (st' := aI ((f : Nat) : Int) :: _) rfl rfl ?_
  refine E_s (p' := 3) (st' := aI ((n : Nat) : Int) :: _) rfl rfl ?_
  refine E_s (p' := 4) (st' := aI (h) :: _) rfl rfl ?_
  refine E_callL (p' := 7) (L0 := [some (aA b), some (aI ((f : Nat) : Int)), some (aI ((n : Nat) : Int)), some (aI (h)), none]) rfl rfl rfl ?_
  refine c_countAbove hb hn hN hP hp (fun kk hk1 hk2 hk3 => ?_)
  refine E_go (p' := 7) (L' := [some (aA b), some (aI ((f : Nat) : Int)), some (aI ((n : Nat) : Int)), some (aI (h)), none]) (st' := [aI ((kk : Nat) : Int)]) rfl rfl rfl ?_
  refine E_s (p' := 9) (L' := [some (aA b), some (aI ((f : Nat) : Int)), some (aI ((n : Nat) : Int)), some (aI (h)), some (aI ((kk : Nat) : Int))]) rfl rfl ?_
  refine E_s (p' := 11) (st' := aI ((kk : Nat) : Int) :: _) rfl rfl ?_
  refine E_s (p' := 12) (st' := aI ((n : Nat) : Int) :: _) rfl rfl ?_
  refine E_icmp_ge (x := ((kk : Nat) : Int)) (y := ((n : Nat) : Int)) rfl (by decide) (fun h_1 => ?_) (fun h_1 => ?_)
  · refine E_go (p' := 32) (L' := [some (aA b), some (aI ((f : Nat) : Int)), some (aI ((n : Nat) : Int)), some (aI (h)), some (aI ((kk : Nat) : Int))]) (st' := []) rfl rfl rfl ?_
    refine E_s (p' := 33) (st' := aI 0 :: _) rfl rfl ?_
    refine E_ret rfl rfl ?_
    exact q0 (isAt_no hs hk2 hk3 (fun g => by omega))
  · refine E_go (p' := 15) (L' := [some (aA b), some (aI ((f : Nat) : Int)), some (aI ((n : Nat) : Int)), some (aI (h)), some (aI ((kk : Nat) : Int))]) (st' := []) rfl rfl rfl ?_
    refine E_s (p' := 16) (st' := aA b :: _) rfl rfl ?_
    refine E_s (p' := 17) (st' := aI ((f : Nat) : Int) :: _) rfl rfl ?_
    refine E_s (p' := 19) (st' := aI ((kk : Nat) : Int) :: _) rfl rfl ?_
    refine E_add (v := ((f + kk : Nat) : Int)) rfl (by omega) (by omega) ?_
    refine E_ald (e := f + kk) (N := N) (v := ((P kk : Nat) : Int)) rfl hb (rfl) (by omega) (hP _ _ (by omega) (by omega)) ?_
    refine E_callL (p' := 24) (L0 := [some (aI ((P kk : Nat) : Int))]) rfl rfl rfl ?_
    refine c_heightOf (p := P kk) (hp _ (by omega)) ?_
    refine E_go (p' := 24) (L' := [some (aA b), some (aI ((f : Nat) : Int)), some (aI ((n : Nat) : Int)), some (aI (h)), some (aI ((kk : Nat) : Int))]) (st' := [aI ((ht (P kk) : Nat) : Int)]) rfl rfl rfl ?_
    refine E_s (p' := 25) (st' := aI (h) :: _) rfl rfl ?_
    refine E_icmp_ne (x := ((ht (P kk) : Nat) : Int)) (y := (h)) rfl (by decide) (fun h_2 => ?_) (fun h_2 => ?_)
    · refine E_go (p' := 32) (L' := [some (aA b), some (aI ((f : Nat) : Int)), some (aI ((n : Nat) : Int)), some (aI (h)), some (aI ((kk : Nat) : Int))]) (st' := []) rfl rfl rfl ?_
      refine E_s (p' := 33) (st' := aI 0 :: _) rfl rfl ?_
      refine E_ret rfl rfl ?_
      exact q0 (isAt_no hs hk2 hk3 (fun g => by omega))
    · refine E_go (p' := 28) (L' := [some (aA b), some (aI ((f : Nat) : Int)), some (aI ((n : Nat) : Int)), some (aI (h)), some (aI ((kk : Nat) : Int))]) (st' := []) rfl rfl rfl ?_
      refine E_s (p' := 29) (st' := aI 1 :: _) rfl rfl ?_
      refine E_s (p' := 33) rfl rfl ?_
      refine E_ret rfl rfl ?_
      exact q1 kk (by omega) hk2 (by omega)
theorem c_insertInto {x : Nat} (hb : kd b = (1, N)) (hn : f + n + 1 ≤ N) (hN : N ≤ 100000) (hP : ∀ e k : Nat, k < n → e = f + k → m b e = (P k : Int)) (hp : ∀ k, k < n → P k < 2147483648) (hx : x < 2147483648) (q : ∀ (k : Nat) (m1 : Mm), k ≤ n → (∀ i, i < k → ht (P i) < ht x) → (k < n → ht x ≤ ht (P k)) → Fx b b m m1 → (∀ j, j < f ∨ f + n < j → m1 b j = m b j) → (∀ i, i ≤ n → m1 b (f + i) = (insP P k x i : Int)) → Q none (m1, tl len)) : E 28 0 [some (aA b), some (aI ((f : Nat) : Int)), some (aI ((n : Nat) : Int)), some (aI ((x : Nat) : Int)), none] [] (m, tl len) Q := by
  refine E_s (p' := 1) (st' := aA b :: _) rfl rfl ?_
  refine E_s (p' := 2) (st' := aI ((f : Nat) : Int) :: _) rfl rfl ?_
  refine E_s (p' := 3) (st' := aI ((n : Nat) : Int) :: _) rfl rfl ?_
  refine E_s (p' := 4) (st' := aI ((x : Nat) : Int) :: _) rfl rfl ?_
  refine E_callL (p' := 7) (L0 := [some (aI ((x : Nat) : Int))]) rfl rfl rfl ?_
  refine c_heightOf (p := x) (hx) ?_
  refine E_go (p' := 7) (L' := [some (aA b), some (aI ((f : Nat) : Int)), some (aI ((n : Nat) : Int)), some (aI ((x : Nat) : Int)), none]) (st' := [aI ((ht x : Nat) : Int), aI ((n : Nat) : Int), aI ((f : Nat) : Int), aA b]) rfl rfl rfl ?_
  refine E_callL (p' := 10) (L0 := [some (aA b), some (aI ((f : Nat) : Int)), some (aI ((n : Nat) : Int)), some (aI ((ht x : Nat) : Int)), none]) rfl rfl rfl ?_
  refine c_countAbove hb (by omega) hN hP hp (fun kk hk1 hk2 hk3 => ?_)
  refine E_go (p' := 10) (L' := [some (aA b), some (aI ((f : Nat) : Int)), some (aI ((n : Nat) : Int)), some (aI ((x : Nat) : Int)), none]) (st' := [aI ((kk : Nat) : Int)]) rfl rfl rfl ?_
  refine E_s (p' := 12) (L' := [some (aA b), some (aI ((f : Nat) : Int)), some (aI ((n : Nat) : Int)), some (aI ((x : Nat) : Int)), some (aI ((kk : Nat) : Int))]) rfl rfl ?_
  refine E_s (p' := 13) (st' := aA b :: _) rfl rfl ?_
  refine E_s (p' := 14) (st' := aI ((f : Nat) : Int) :: _) rfl rfl ?_
  refine E_s (p' := 16) (st' := aI ((kk : Nat) : Int) :: _) rfl rfl ?_
  refine E_add (v := ((f + kk : Nat) : Int)) rfl (by omega) (by omega) ?_
  refine E_s (p' := 18) (st' := aA b :: _) rfl rfl ?_
  refine E_s (p' := 19) (st' := aI ((f : Nat) : Int) :: _) rfl rfl ?_
  refine E_s (p' := 21) (st' := aI ((kk : Nat) : Int) :: _) rfl rfl ?_
  refine E_add (v := ((f + kk : Nat) : Int)) rfl (by omega) (by omega) ?_
  refine E_s (p' := 23) (st' := aI 1 :: _) rfl rfl ?_
  refine E_add (v := ((f + kk + 1 : Nat) : Int)) rfl (by omega) (by omega) ?_
  refine E_s (p' := 25) (st' := aI ((n : Nat) : Int) :: _) rfl rfl ?_
  refine E_s (p' := 27) (st' := aI ((kk : Nat) : Int) :: _) rfl rfl ?_
  refine E_sub (v := ((n : Int) - (kk : Int))) rfl (by omega) (by omega) ?_
  refine E_acp (e1 := f + kk) (e2 := f + kk + 1) (e3 := ((n : Int) - (kk : Int)).toNat) rfl rfl hb hb (rfl) (rfl) (by omega) (by omega) (by omega) rfl ?_
  refine E_go (p' := 31) (L' := [some (aA b), some (aI ((f : Nat) : Int)), some (aI ((n : Nat) : Int)), some (aI ((x : Nat) : Int)), some (aI ((kk : Nat) : Int))]) (st' := []) rfl rfl rfl ?_
  refine E_s (p' := 32) (st' := aA b :: _) rfl rfl ?_
  refine E_s (p' := 33) (st' := aI ((f : Nat) : Int) :: _) rfl rfl ?_
  refine E_s (p' := 35) (st' := aI ((kk : Nat) : Int) :: _) rfl rfl ?_
  refine E_add (v := ((f + kk : Nat) : Int)) rfl (by omega) (by omega) ?_
  refine E_s (p' := 37) (st' := aI ((x : Nat) : Int) :: _) rfl rfl ?_
  refine E_ast (e := f + kk) (N := N) rfl hb (rfl) (by omega) ?_
  refine E_ret rfl rfl ?_
  exact q kk _ hk1 (fun i hi => by have := hk2 i hi; omega) (fun g => by have := hk3 g; omega) ((Fx.rf.cp (by omega) (by omega)).up (by omega) (by omega)) (ins_out hk1 (by omega)) (ins_in hk1 (by omega) hP)
end
section
variable {len : Nat} {m : Mm} {Q : Option AV → Sx → Prop} {R : RD} {a c : Nat} {h : Int}
theorem c_isWhole (hR : isR a) (hC : CR R a m) (hV : VR R) (hc : c < Cn R) (q1 : whl R c h → Q (some (aI 1)) (m, tl len)) (q0 : ¬ whl R c h → Q (some (aI 0)) (m, tl len)) : E 22 0 [some (aA (a + 1)), some (aI ((c : Nat) : Int)), some (aI (h))] [] (m, tl len) Q := by
  have hn60 := hV.1
  have hab := isR_b hR
  obtain ⟨⟨vg1, vg2⟩, ⟨vo1, vo2⟩, vc1, ⟨vl1, vl2⟩, vt1, vk1⟩ := hV.2.2.1 c hc
  refine E_s (p' := 1) (st' := aI (h) :: _) rfl rfl ?_
  refine E_s (p' := 2) (st' := aI 1 :: _) rfl rfl ?_
  refine E_icmp_lt (x := (h)) (y := 1) rfl (by decide) (fun h_1 => ?_) (fun h_1 => ?_)
  · refine E_go (p' := 38) (L' := [some (aA (a + 1)), some (aI ((c : Nat) : Int)), some (aI (h))]) (st' := []) rfl rfl rfl ?_
    refine E_s (p' := 39) (st' := aI 0 :: _) rfl rfl ?_
    refine E_ret rfl rfl ?_
    exact q0 (by unfold whl; omega)
  · refine E_go (p' := 5) (L' := [some (aA (a + 1)), some (aI ((c : Nat) : Int)), some (aI (h))]) (st' := []) rfl rfl rfl ?_
    refine E_s (p' := 6) (st' := aI (h) :: _) rfl rfl ?_
    refine E_s (p' := 7) (st' := aA (a + 1) :: _) rfl rfl ?_
    refine E_gA (b := a + 5) rfl rfl rfl (kR_1 hR) (hR_1_3 hR) rfl ?_
    refine E_s (p' := 11) (st' := aI ((c : Nat) : Int) :: _) rfl rfl ?_
    refine E_ald (e := c) (N := 60) (v := ((Cl R c : Nat) : Int)) rfl (kR_5 hR) (rfl) (by omega) (CR_5 hC (by omega)) ?_
    refine E_icmp_gt (x := (h)) (y := ((Cl R c : Nat) : Int)) rfl (by decide) (fun h_2 => ?_) (fun h_2 => ?_)
    · refine E_go (p' := 38) (L' := [some (aA (a + 1)), some (aI ((c : Nat) : Int)), some (aI (h))]) (st' := []) rfl rfl rfl ?_
      refine E_s (p' := 39) (st' := aI 0 :: _) rfl rfl ?_
      refine E_ret rfl rfl ?_
      exact q0 (by unfold whl; omega)
    · refine E_go (p' := 15) (L' := [some (aA (a + 1)), some (aI ((c : Nat) : Int)), some (aI (h))]) (st' := []) rfl rfl rfl ?_
      refine E_s (p' := 16) (st' := aA (a + 1) :: _) rfl rfl ?_
      refine E_gA (b := a + 6) rfl rfl rfl (kR_1 hR) (hR_1_4 hR) rfl ?_
      refine E_s (p' := 20) (st' := aI ((c : Nat) : Int) :: _) rfl rfl ?_
      refine E_ald (e := c) (N := 60) (v := ((Ct R c : Nat) : Int)) rfl (kR_6 hR) (rfl) (by omega) (CR_6 hC (by omega)) ?_
      refine E_if_eq (x := ((Ct R c : Nat) : Int)) rfl (by decide) (fun h_3 => ?_) (fun h_3 => ?_)
      · refine E_go (p' := 34) (L' := [some (aA (a + 1)), some (aI ((c : Nat) : Int)), some (aI (h))]) (st' := []) rfl rfl rfl ?_
        refine E_s (p' := 35) (st' := aI 1 :: _) rfl rfl ?_
        refine E_s (p' := 39) rfl rfl ?_
        refine E_ret rfl rfl ?_
        exact q1 (by unfold whl; omega)
      · refine E_go (p' := 24) (L' := [some (aA (a + 1)), some (aI ((c : Nat) : Int)), some (aI (h))]) (st' := []) rfl rfl rfl ?_
        refine E_s (p' := 25) (st' := aI (h) :: _) rfl rfl ?_
        refine E_s (p' := 26) (st' := aA (a + 1) :: _) rfl rfl ?_
        refine E_gA (b := a + 6) rfl rfl rfl (kR_1 hR) (hR_1_4 hR) rfl ?_
        refine E_s (p' := 30) (st' := aI ((c : Nat) : Int) :: _) rfl rfl ?_
        refine E_ald (e := c) (N := 60) (v := ((Ct R c : Nat) : Int)) rfl (kR_6 hR) (rfl) (by omega) (CR_6 hC (by omega)) ?_
        refine E_icmp_ge (x := (h)) (y := ((Ct R c : Nat) : Int)) rfl (by decide) (fun h_4 => ?_) (fun h_4 => ?_)
        · refine E_go (p' := 38) (L' := [some (aA (a + 1)), some (aI ((c : Nat) : Int)), some (aI (h))]) (st' := []) rfl rfl rfl ?_
          refine E_s (p' := 39) (st' := aI 0 :: _) rfl rfl ?_
          refine E_ret rfl rfl ?_
          exact q0 (by unfold whl; omega)
        · refine E_go (p' := 34) (L' := [some (aA (a + 1)), some (aI ((c : Nat) : Int)), some (aI (h))]) (st' := []) rfl rfl rfl ?_
          refine E_s (p' := 35) (st' := aI 1 :: _) rfl rfl ?_
          refine E_s (p' := 39) rfl rfl ?_
          refine E_ret rfl rfl ?_
          exact q1 (by unfold whl; omega)
theorem c_isFree (hR : isR a) (hC : CR R a m) (hV : VR R) (hc : c < Cn R) (q1 : whl R c h → ¬ tied R c h → Q (some (aI 1)) (m, tl len)) (q0 : (¬ whl R c h ∨ tied R c h) → Q (some (aI 0)) (m, tl len)) : E 21 0 [some (aA (a + 1)), some (aI ((c : Nat) : Int)), some (aI (h))] [] (m, tl len) Q := by
  have hn60 := hV.1
  have hab := isR_b hR
  obtain ⟨⟨vg1, vg2⟩, ⟨vo1, vo2⟩, vc1, ⟨vl1, vl2⟩, vt1, vk1⟩ := hV.2.2.1 c hc
  refine E_s (p' := 1) (st' := aA (a + 1) :: _) rfl rfl ?_
  refine E_s (p' := 2) (st' := aI ((c : Nat) : Int) :: _) rfl rfl ?_
  refine E_s (p' := 3) (st' := aI (h) :: _) rfl rfl ?_
  refine E_callV (k' := 22) (a := a + 1) (r := []) (L0 := [some (aA (a + 1)), some (aI ((c : Nat) : Int)), some (aI (h))]) rfl rfl rfl rfl rfl (kR_1 hR) rfl rfl rfl rfl ?_
  refine c_isWhole hR hC hV hc (fun h_1 => ?_) (fun h_2 => ?_)
  · refine E_go (p' := 6) (L' := [some (aA (a + 1)), some (aI ((c : Nat) : Int)), some (aI (h))]) (st' := [aI 1]) rfl rfl rfl ?_
    refine E_s (p' := 9) rfl rfl ?_
    refine E_s (p' := 10) (st' := aA (a + 1) :: _) rfl rfl ?_
    refine E_gA (b := a + 8) rfl rfl rfl (kR_1 hR) (hR_1_6 hR) rfl ?_
    refine E_s (p' := 14) (st' := aI ((c : Nat) : Int) :: _) rfl rfl ?_
    refine E_s (p' := 16) (st' := aI 30 :: _) rfl rfl ?_
    refine E_mul (v := ((30 * c : Nat) : Int)) rfl (by omega) (by omega) ?_
    refine E_s (p' := 18) (st' := aA (a + 1) :: _) rfl rfl ?_
    refine E_gA (b := a + 7) rfl rfl rfl (kR_1 hR) (hR_1_5 hR) rfl ?_
    refine E_s (p' := 22) (st' := aI ((c : Nat) : Int) :: _) rfl rfl ?_
    refine E_ald (e := c) (N := 60) (v := ((Ck R c : Nat) : Int)) rfl (kR_7 hR) (rfl) (by omega) (CR_7 hC (by omega)) ?_
    refine E_s (p' := 24) (st' := aI (h) :: _) rfl rfl ?_
    refine E_callL (p' := 27) (L0 := [some (aA (a + 8)), some (aI ((30 * c : Nat) : Int)), some (aI ((Ck R c : Nat) : Int)), some (aI (h)), none]) rfl rfl rfl ?_
    refine c_isAt (N := 1800) (P := Cp R c) (kR_8 hR) (by omega) (by decide) (fun e k hk he => CR_8 hC hc hk he) (fun k hk => by have := kok_lt hV hc hk rfl; omega) (fun i j hi hj => hV.mono hc hi hj) (fun k1 hk1 hk2 hk3 => ?_) (fun hno => ?_)
    · refine E_go (p' := 27) (L' := [some (aA (a + 1)), some (aI ((c : Nat) : Int)), some (aI (h))]) (st' := [aI 1]) rfl rfl rfl ?_
      refine E_s (p' := 34) rfl rfl ?_
      refine E_s (p' := 35) (st' := aI 0 :: _) rfl rfl ?_
      refine E_ret rfl rfl ?_
      first | exact q0 (Or.inr ⟨k1, hk1, hk3⟩) | exact q0 (Or.inl (by assumption))
    · refine E_go (p' := 27) (L' := [some (aA (a + 1)), some (aI ((c : Nat) : Int)), some (aI (h))]) (st' := [aI 0]) rfl rfl rfl ?_
      refine E_s (p' := 30) rfl rfl ?_
      refine E_s (p' := 31) (st' := aI 1 :: _) rfl rfl ?_
      refine E_s (p' := 35) rfl rfl ?_
      refine E_ret rfl rfl ?_
      exact q1 (by assumption) (fun ⟨k, hk, e⟩ => hno k hk e)
  · refine E_go (p' := 6) (L' := [some (aA (a + 1)), some (aI ((c : Nat) : Int)), some (aI (h))]) (st' := [aI 0]) rfl rfl rfl ?_
    refine E_s (p' := 34) rfl rfl ?_
    refine E_s (p' := 35) (st' := aI 0 :: _) rfl rfl ?_
    refine E_ret rfl rfl ?_
    first | exact q0 (Or.inr ⟨k1, hk1, hk3⟩) | exact q0 (Or.inl (by assumption))
theorem c_insert (hR : isR a) (hC : CR R a m) (hV : VR R) (hc : c < Cn R) {x : Nat} (hx : x < 2147483648) (hk : Ck R c < 30) (q : ∀ m1, CR (Rkn R c (Ck R c + 1) (insP (Cp R c) (posn (Cp R c) (ht x) (Ck R c)) x)) a m1 → Fx (a + 7) (a + 8) m m1 → Q none (m1, tl len)) : E 27 0 [some (aA (a + 1)), some (aI ((c : Nat) : Int)), some (aI ((x : Nat) : Int))] [] (m, tl len) Q := by
  have hn60 := hV.1
  have hab := isR_b hR
  obtain ⟨⟨vg1, vg2⟩, ⟨vo1, vo2⟩, vc1, ⟨vl1, vl2⟩, vt1, vk1⟩ := hV.2.2.1 c hc
  refine E_s (p' := 1) (st' := aA (a + 1) :: _) rfl rfl ?_
  refine E_gA (b := a + 8) rfl rfl rfl (kR_1 hR) (hR_1_6 hR) rfl ?_
  refine E_s (p' := 5) (st' := aI ((c : Nat) : Int) :: _) rfl rfl ?_
  refine E_s (p' := 7) (st' := aI 30 :: _) rfl rfl ?_
  refine E_mul (v := ((30 * c : Nat) : Int)) rfl (by omega) (by omega) ?_
  refine E_s (p' := 9) (st' := aA (a + 1) :: _) rfl rfl ?_
  refine E_gA (b := a + 7) rfl rfl rfl (kR_1 hR) (hR_1_5 hR) rfl ?_
  refine E_s (p' := 13) (st' := aI ((c : Nat) : Int) :: _) rfl rfl ?_
  refine E_ald (e := c) (N := 60) (v := ((Ck R c : Nat) : Int)) rfl (kR_7 hR) (rfl) (by omega) (CR_7 hC (by omega)) ?_
  refine E_s (p' := 15) (st' := aI ((x : Nat) : Int) :: _) rfl rfl ?_
  refine E_callL (p' := 18) (L0 := [some (aA (a + 8)), some (aI ((30 * c : Nat) : Int)), some (aI ((Ck R c : Nat) : Int)), some (aI ((x : Nat) : Int)), none]) rfl rfl rfl ?_
  refine c_insertInto (N := 1800) (P := Cp R c) (kR_8 hR) (by omega) (by decide) (fun e k hk he => CR_8 hC hc hk he) (fun k hk => by have := kok_lt hV hc hk rfl; omega) hx (fun k1 m1 hk1 hk2 hk3 hF ho hi => ?_)
  refine E_go (p' := 18) (L' := [some (aA (a + 1)), some (aI ((c : Nat) : Int)), some (aI ((x : Nat) : Int))]) (st' := []) rfl rfl rfl ?_
  refine E_s (p' := 19) (st' := aA (a + 1) :: _) rfl rfl ?_
  refine E_gA (b := a + 7) rfl rfl rfl (kR_1 hR) (hR_1_5 hR) rfl ?_
  refine E_s (p' := 23) (st' := aI ((c : Nat) : Int) :: _) rfl rfl ?_
  refine E_s (p' := 24) rfl rfl ?_
  refine E_ald (e := c) (N := 60) (v := ((Ck R c : Nat) : Int)) rfl (kR_7 hR) (rfl) (by omega) ((hF _ _ (by omega)).trans ((CR_7 hC (by omega)))) ?_
  refine E_s (p' := 26) (st' := aI 1 :: _) rfl rfl ?_
  refine E_add (v := ((Ck R c + 1 : Nat) : Int)) rfl (by omega) (by omega) ?_
  refine E_ast (e := c) (N := 60) rfl (kR_7 hR) (rfl) (by omega) ?_
  refine E_ret rfl rfl ?_
  have e := posn_u hk1 hk2 hk3
  subst e
  exact q _ (CR.kn hC hV (by omega) up2_eq (fun i hi9 => (up2_ne (by omega)).trans (hi i (by omega))) (fun b j h1 h2 h3 h4 h5 => by
    by_cases g : b = a + 7
    · subst g; rw [up2_sl (fun g => h3 ⟨rfl, g⟩)]; exact hF _ _ (by omega)
    · rw [up2_ne g]
      by_cases g2 : b = a + 8
      · subst g2; exact ho j (by omega)
      · exact hF _ _ (by omega))) ((hF.wide (by omega) (by omega)).up (by omega) (by omega))
theorem c_cutAt (hR : isR a) (hC : CR R a m) (hV : VR R) (hc : c < Cn R) {h9 : Nat} (q : ∀ m1, CR (Rtr R c h9 (posn (Cp R c) h9 (Ck R c))) a m1 → Fx (a + 6) (a + 7) m m1 → Q none (m1, tl len)) : E 32 0 [some (aA (a + 1)), some (aI ((c : Nat) : Int)), some (aI ((h9 : Nat) : Int))] [] (m, tl len) Q := by
  have hn60 := hV.1
  have hab := isR_b hR
  obtain ⟨⟨vg1, vg2⟩, ⟨vo1, vo2⟩, vc1, ⟨vl1, vl2⟩, vt1, vk1⟩ := hV.2.2.1 c hc
  refine E_s (p' := 1) (st' := aA (a + 1) :: _) rfl rfl ?_
  refine E_gA (b := a + 6) rfl rfl rfl (kR_1 hR) (hR_1_4 hR) rfl ?_
  refine E_s (p' := 5) (st' := aI ((c : Nat) : Int) :: _) rfl rfl ?_
  refine E_s (p' := 6) (st' := aI ((h9 : Nat) : Int) :: _) rfl rfl ?_
  refine E_ast (e := c) (N := 60) rfl (kR_6 hR) (rfl) (by omega) ?_
  refine E_s (p' := 8) (st' := aA (a + 1) :: _) rfl rfl ?_
  refine E_gA (b := a + 7) rfl rfl rfl (kR_1 hR) (hR_1_5 hR) rfl ?_
  refine E_s (p' := 12) (st' := aI ((c : Nat) : Int) :: _) rfl rfl ?_
  refine E_s (p' := 13) (st' := aA (a + 1) :: _) rfl rfl ?_
  refine E_gA (b := a + 8) rfl rfl rfl (kR_1 hR) (hR_1_6 hR) rfl ?_
  refine E_s (p' := 17) (st' := aI ((c : Nat) : Int) :: _) rfl rfl ?_
  refine E_s (p' := 19) (st' := aI 30 :: _) rfl rfl ?_
  refine E_mul (v := ((30 * c : Nat) : Int)) rfl (by omega) (by omega) ?_
  refine E_s (p' := 21) (st' := aA (a + 1) :: _) rfl rfl ?_
  refine E_gA (b := a + 7) rfl rfl rfl (kR_1 hR) (hR_1_5 hR) rfl ?_
  refine E_s (p' := 25) (st' := aI ((c : Nat) : Int) :: _) rfl rfl ?_
  refine E_ald (e := c) (N := 60) (v := ((Ck R c : Nat) : Int)) rfl (kR_7 hR) (rfl) (by omega) ((up2_ne (by omega)).trans ((CR_7 hC (by omega)))) ?_
  refine E_s (p' := 27) (st' := aI ((h9 : Nat) : Int) :: _) rfl rfl ?_
  refine E_callL (p' := 30) (L0 := [some (aA (a + 8)), some (aI ((30 * c : Nat) : Int)), some (aI ((Ck R c : Nat) : Int)), some (aI ((h9 : Nat) : Int)), none]) rfl rfl rfl ?_
  refine c_countAbove (N := 1800) (P := Cp R c) (kR_8 hR) (by omega) (by decide) (fun e k hk he => (up2_ne (by omega)).trans (CR_8 hC hc hk he)) (fun k hk => by have := kok_lt hV hc hk rfl; omega) (fun k1 hk1 hk2 hk3 => ?_)
  refine E_go (p' := 30) (L' := [some (aA (a + 1)), some (aI ((c : Nat) : Int)), some (aI ((h9 : Nat) : Int))]) (st' := [aI ((k1 : Nat) : Int), aI ((c : Nat) : Int), aA (a + 7)]) rfl rfl rfl ?_
  refine E_ast (e := c) (N := 60) rfl (kR_7 hR) (rfl) (by omega) ?_
  refine E_ret rfl rfl ?_
  have e := posn_u (P := Cp R c) (h := h9) hk1 (fun i hi => by have := hk2 i hi; omega) (fun g => by have := hk3 g; omega)
  subst e
  exact q _ (CR.tr hC (posn_le _ _ _) ((up2_ne (by omega)).trans up2_eq) up2_eq (fun b j h1 h2 h3 h4 h5 => by
    by_cases g : b = a + 7
    · subst g; rw [up2_sl (by omega)]; exact up2_ne (by omega)
    · rw [up2_ne g]
      by_cases g2 : b = a + 6
      · subst g2; exact up2_sl (by omega)
      · exact up2_ne g2)) ((Fx.rf.up (by omega) (by omega)).up (by omega) (by omega))
theorem c_remove (hR : isR a) (hC : CR R a m) (hV : VR R) (hc : c < Cn R) (q1 : ∀ k m1, k < Ck R c → (ht (Cp R c k) : Int) = h → CR (Rkn R c (Ck R c - 1) (remP (Cp R c) k)) a m1 → Fx (a + 7) (a + 8) m m1 → Q (some (aI 1)) (m1, tl len)) (q0 : ¬ tied R c h → Q (some (aI 0)) (m, tl len)) : E 30 0 [some (aA (a + 1)), some (aI ((c : Nat) : Int)), some (aI (h)), none, none] [] (m, tl len) Q := by
  have hn60 := hV.1
  have hab := isR_b hR
  obtain ⟨⟨vg1, vg2⟩, ⟨vo1, vo2⟩, vc1, ⟨vl1, vl2⟩, vt1, vk1⟩ := hV.2.2.1 c hc
  refine E_s (p' := 1) (st' := aI ((c : Nat) : Int) :: _) rfl rfl ?_
  refine E_s (p' := 3) (st' := aI 30 :: _) rfl rfl ?_
  refine E_mul (v := ((30 * c : Nat) : Int)) rfl (by omega) (by omega) ?_
  refine E_s (p' := 5) (L' := [some (aA (a + 1)), some (aI ((c : Nat) : Int)), some (aI (h)), some (aI ((30 * c : Nat) : Int)), none]) rfl rfl ?_
  refine E_s (p' := 6) (st' := aA (a + 1) :: _) rfl rfl ?_
  refine E_gA (b := a + 8) rfl rfl rfl (kR_1 hR) (hR_1_6 hR) rfl ?_
  refine E_s (p' := 10) (st' := aI ((30 * c : Nat) : Int) :: _) rfl rfl ?_
  refine E_s (p' := 11) (st' := aA (a + 1) :: _) rfl rfl ?_
  refine E_gA (b := a + 7) rfl rfl rfl (kR_1 hR) (hR_1_5 hR) rfl ?_
  refine E_s (p' := 15) (st' := aI ((c : Nat) : Int) :: _) rfl rfl ?_
  refine E_ald (e := c) (N := 60) (v := ((Ck R c : Nat) : Int)) rfl (kR_7 hR) (rfl) (by omega) (CR_7 hC (by omega)) ?_
  refine E_s (p' := 17) (st' := aI (h) :: _) rfl rfl ?_
  refine E_callL (p' := 20) (L0 := [some (aA (a + 8)), some (aI ((30 * c : Nat) : Int)), some (aI ((Ck R c : Nat) : Int)), some (aI (h)), none]) rfl rfl rfl ?_
  refine c_isAt (N := 1800) (P := Cp R c) (kR_8 hR) (by omega) (by decide) (fun e k hk he => CR_8 hC hc hk he) (fun k hk => by have := kok_lt hV hc hk rfl; omega) (fun i j hi hj => hV.mono hc hi hj) (fun k1 hk1 hk2 hk3 => ?_) (fun hno => ?_)
  · refine E_go (p' := 20) (L' := [some (aA (a + 1)), some (aI ((c : Nat) : Int)), some (aI (h)), some (aI ((30 * c : Nat) : Int)), none]) (st' := [aI 1]) rfl rfl rfl ?_
    refine E_s (p' := 25) rfl rfl ?_
    refine E_s (p' := 26) (st' := aA (a + 1) :: _) rfl rfl ?_
    refine E_gA (b := a + 8) rfl rfl rfl (kR_1 hR) (hR_1_6 hR) rfl ?_
    refine E_s (p' := 30) (st' := aI ((30 * c : Nat) : Int) :: _) rfl rfl ?_
    refine E_s (p' := 31) (st' := aA (a + 1) :: _) rfl rfl ?_
    refine E_gA (b := a + 7) rfl rfl rfl (kR_1 hR) (hR_1_5 hR) rfl ?_
    refine E_s (p' := 35) (st' := aI ((c : Nat) : Int) :: _) rfl rfl ?_
    refine E_ald (e := c) (N := 60) (v := ((Ck R c : Nat) : Int)) rfl (kR_7 hR) (rfl) (by omega) (CR_7 hC (by omega)) ?_
    refine E_s (p' := 37) (st' := aI (h) :: _) rfl rfl ?_
    refine E_callL (p' := 40) (L0 := [some (aA (a + 8)), some (aI ((30 * c : Nat) : Int)), some (aI ((Ck R c : Nat) : Int)), some (aI (h)), none]) rfl rfl rfl ?_
    refine c_countAbove (N := 1800) (P := Cp R c) (kR_8 hR) (by omega) (by decide) (fun e k hk he => CR_8 hC hc hk he) (fun k hk => by have := kok_lt hV hc hk rfl; omega) (fun k2 hj1 hj2 hj3 => ?_)
    refine E_go (p' := 40) (L' := [some (aA (a + 1)), some (aI ((c : Nat) : Int)), some (aI (h)), some (aI ((30 * c : Nat) : Int)), none]) (st' := [aI ((k2 : Nat) : Int)]) rfl rfl rfl ?_
    have e12 : k2 = k1 := by
      rcases Nat.lt_or_ge k2 k1 with g | g
      · have := hk2 k2 g; have := hj3 (by omega); omega
      · rcases Nat.lt_or_ge k1 k2 with g2 | g2
        · have := hj2 k1 g2; omega
        · omega
    refine E_s (p' := 42) (L' := [some (aA (a + 1)), some (aI ((c : Nat) : Int)), some (aI (h)), some (aI ((30 * c : Nat) : Int)), some (aI ((k2 : Nat) : Int))]) rfl rfl ?_
    refine E_s (p' := 43) (st' := aA (a + 1) :: _) rfl rfl ?_
    refine E_gA (b := a + 8) rfl rfl rfl (kR_1 hR) (hR_1_6 hR) rfl ?_
    refine E_s (p' := 47) (st' := aI ((30 * c : Nat) : Int) :: _) rfl rfl ?_
    refine E_s (p' := 49) (st' := aI ((k2 : Nat) : Int) :: _) rfl rfl ?_
    refine E_add (v := ((30 * c + k2 : Nat) : Int)) rfl (by omega) (by omega) ?_
    refine E_s (p' := 51) (st' := aI 1 :: _) rfl rfl ?_
    refine E_add (v := ((30 * c + k2 + 1 : Nat) : Int)) rfl (by omega) (by omega) ?_
    refine E_s (p' := 53) (st' := aA (a + 1) :: _) rfl rfl ?_
    refine E_gA (b := a + 8) rfl rfl rfl (kR_1 hR) (hR_1_6 hR) rfl ?_
    refine E_s (p' := 57) (st' := aI ((30 * c : Nat) : Int) :: _) rfl rfl ?_
    refine E_s (p' := 59) (st' := aI ((k2 : Nat) : Int) :: _) rfl rfl ?_
    refine E_add (v := ((30 * c + k2 : Nat) : Int)) rfl (by omega) (by omega) ?_
    refine E_s (p' := 61) (st' := aA (a + 1) :: _) rfl rfl ?_
    refine E_gA (b := a + 7) rfl rfl rfl (kR_1 hR) (hR_1_5 hR) rfl ?_
    refine E_s (p' := 65) (st' := aI ((c : Nat) : Int) :: _) rfl rfl ?_
    refine E_ald (e := c) (N := 60) (v := ((Ck R c : Nat) : Int)) rfl (kR_7 hR) (rfl) (by omega) (CR_7 hC (by omega)) ?_
    refine E_s (p' := 68) (st' := aI ((k2 : Nat) : Int) :: _) rfl rfl ?_
    refine E_sub (v := ((Ck R c : Int) - (k2 : Int))) rfl (by omega) (by omega) ?_
    refine E_s (p' := 70) (st' := aI 1 :: _) rfl rfl ?_
    refine E_sub (v := ((Ck R c : Int) - (k2 : Int) - 1)) rfl (by omega) (by omega) ?_
    refine E_acp (e1 := 30 * c + k2 + 1) (e2 := 30 * c + k2) (e3 := ((Ck R c : Int) - (k2 : Int) - 1).toNat) rfl rfl (kR_8 hR) (kR_8 hR) (rfl) (rfl) (by omega) (by omega) (by omega) rfl ?_
    refine E_go (p' := 74) (L' := [some (aA (a + 1)), some (aI ((c : Nat) : Int)), some (aI (h)), some (aI ((30 * c : Nat) : Int)), some (aI ((k2 : Nat) : Int))]) (st' := []) rfl rfl rfl ?_
    refine E_s (p' := 75) (st' := aA (a + 1) :: _) rfl rfl ?_
    refine E_gA (b := a + 7) rfl rfl rfl (kR_1 hR) (hR_1_5 hR) rfl ?_
    refine E_s (p' := 79) (st' := aI ((c : Nat) : Int) :: _) rfl rfl ?_
    refine E_s (p' := 80) rfl rfl ?_
    refine E_ald (e := c) (N := 60) (v := ((Ck R c : Nat) : Int)) rfl (kR_7 hR) (rfl) (by omega) ((cpm_ne (by omega)).trans (CR_7 hC hc)) ?_
    refine E_s (p' := 82) (st' := aI 1 :: _) rfl rfl ?_
    refine E_sub (v := ((Ck R c : Int) - 1)) rfl (by omega) (by omega) ?_
    refine E_ast (e := c) (N := 60) rfl (kR_7 hR) (rfl) (by omega) ?_
    refine E_s (p' := 85) (st' := aI 1 :: _) rfl rfl ?_
    refine E_ret rfl rfl ?_
    exact q1 k1 _ hk1 hk3 (CR.kn hC hV (by omega) (up2_eq.trans (by omega)) (fun i hi9 => (up2_ne (by omega)).trans (rem_in e12 hk1 (by omega) (fun e k hk he => CR_8 hC hc hk he) i hi9)) (fun b j h1 h2 h3 h4 h5 => by
      by_cases g : b = a + 7
      · subst g; rw [up2_sl (fun g => h3 ⟨rfl, g⟩)]; exact cpm_ne (by omega)
      · rw [up2_ne g]
        by_cases g2 : b = a + 8
        · subst g2; exact cpm_out (by omega)
        · exact cpm_ne g2)) ((Fx.rf.cp (by omega) (by omega)).up (by omega) (by omega))
  · refine E_go (p' := 20) (L' := [some (aA (a + 1)), some (aI ((c : Nat) : Int)), some (aI (h)), some (aI ((30 * c : Nat) : Int)), none]) (st' := [aI 0]) rfl rfl rfl ?_
    refine E_s (p' := 23) rfl rfl ?_
    refine E_s (p' := 24) (st' := aI 0 :: _) rfl rfl ?_
    refine E_ret rfl rfl ?_
    exact q0 (fun ⟨k, hk, e⟩ => hno k hk e)
end
