theorem lvS_str {f : Nat → Nat} {g : Nat} : ∀ h : Nat, (∀ l, l < (lvS f g h).1 → (lvS f g h).2.1 l ≤ (lvS f g h).2.2.1 l ∧ (lvS f g h).2.2.1 l < h) ∧ (∀ l, l + 1 < (lvS f g h).1 → (lvS f g h).2.2.1 l < (lvS f g h).2.1 (l + 1)) ∧ (∀ p, p < h → f p ≠ 0 → ∃ l, l < (lvS f g h).1 ∧ (lvS f g h).2.1 l ≤ p ∧ p ≤ (lvS f g h).2.2.1 l) := by
  intro h
  induction h with
  | zero => exact ⟨fun l hl => absurd hl (Nat.not_lt_zero _), fun l hl => absurd hl (Nat.not_lt_zero _), fun p hp => absurd hp (by omega)⟩
  | succ h ih =>
    obtain ⟨n, F, Lx, M, hq⟩ : ∃ n F Lx M, lvS f g h = (n, (F, (Lx, M))) := ⟨_, _, _, _, rfl⟩
    rw [hq] at ih
    have ih2 : (∀ l, l < n → F l ≤ Lx l ∧ Lx l < h) ∧ (∀ l, l + 1 < n → Lx l < F (l + 1)) ∧ (∀ p, p < h → f p ≠ 0 → ∃ l, l < n ∧ F l ≤ p ∧ p ≤ Lx l) := ih
    obtain ⟨i1, i2, i3⟩ := ih2
    by_cases h0 : f h = 0
    · rw [lvS_0 h0, hq]
      show (∀ l, l < n → F l ≤ Lx l ∧ Lx l < h + 1) ∧ (∀ l, l + 1 < n → Lx l < F (l + 1)) ∧ (∀ p, p < h + 1 → f p ≠ 0 → ∃ l, l < n ∧ F l ≤ p ∧ p ≤ Lx l)
      refine ⟨fun l hl => ⟨(i1 l hl).1, by have := (i1 l hl).2; omega⟩, i2, fun p hp hf => ?_⟩
      by_cases g9 : p = h
      · rw [g9] at hf; exact absurd h0 hf
      · exact i3 p (by omega) hf
    · by_cases h1 : n = 0 ∨ Lx (n - 1) + g < h
      · rw [lvS_new hq h0 h1]
        show (∀ l, l < n + 1 → upf F n h l ≤ upf Lx n h l ∧ upf Lx n h l < h + 1) ∧ (∀ l, l + 1 < n + 1 → upf Lx n h l < upf F n h (l + 1)) ∧ (∀ p, p < h + 1 → f p ≠ 0 → ∃ l, l < n + 1 ∧ upf F n h l ≤ p ∧ p ≤ upf Lx n h l)
        refine ⟨fun l hl => ?_, fun l hl => ?_, fun p hp hf => ?_⟩
        · by_cases g9 : l = n
          · rw [g9, upf_eq, upf_eq]; omega
          · rw [upf_ne g9, upf_ne g9]; have := i1 l (by omega); omega
        · rw [upf_ne (show l ≠ n by omega)]
          by_cases g9 : l + 1 = n
          · rw [g9, upf_eq]; have := (i1 l (by omega)).2; omega
          · rw [upf_ne g9]; exact i2 l (by omega)
        · by_cases g9 : p = h
          · rw [g9]; exact ⟨n, by omega, by rw [upf_eq]; omega, by rw [upf_eq]; omega⟩
          · obtain ⟨l, k1, k2, k3⟩ := i3 p (by omega) hf
            exact ⟨l, by omega, by rw [upf_ne (show l ≠ n by omega)]; exact k2, by rw [upf_ne (show l ≠ n by omega)]; exact k3⟩
      · rw [lvS_old hq h0 h1]
        show (∀ l, l < n → F l ≤ upf Lx (n - 1) h l ∧ upf Lx (n - 1) h l < h + 1) ∧ (∀ l, l + 1 < n → upf Lx (n - 1) h l < F (l + 1)) ∧ (∀ p, p < h + 1 → f p ≠ 0 → ∃ l, l < n ∧ F l ≤ p ∧ p ≤ upf Lx (n - 1) h l)
        have hn : 1 ≤ n := by omega
        refine ⟨fun l hl => ?_, fun l hl => ?_, fun p hp hf => ?_⟩
        · by_cases g9 : l = n - 1
          · rw [g9, upf_eq]; have := i1 (n - 1) (by omega); omega
          · rw [upf_ne g9]; have := i1 l (by omega); omega
        · rw [upf_ne (show l ≠ n - 1 by omega)]; exact i2 l hl
        · by_cases g9 : p = h
          · rw [g9]; exact ⟨n - 1, by omega, by have := i1 (n - 1) (by omega); omega, by rw [upf_eq]; omega⟩
          · obtain ⟨l, k1, k2, k3⟩ := i3 p (by omega) hf
            refine ⟨l, k1, k2, ?_⟩
            by_cases g8 : l = n - 1
            · rw [g8, upf_eq]; omega
            · rw [upf_ne g8]; exact k3
theorem lvo_sp (la : Nat → Nat) (p : Nat) : ∀ d l, l ≤ lvo la p d l ∧ (∀ j, l ≤ j → j < lvo la p d l → la j < p) ∧ (lvo la p d l < l + d → p ≤ la (lvo la p d l)) := by
  intro d
  induction d with
  | zero => intro l; exact ⟨Nat.le_refl _, fun j h1 h2 => absurd h2 (by show ¬ j < l; omega), fun h => absurd h (by show ¬ l < l + 0; omega)⟩
  | succ d ih =>
    intro l
    show l ≤ (if la l < p then lvo la p d (l + 1) else l) ∧ _
    by_cases g : la l < p
    · have e : lvo la p (d + 1) l = lvo la p d (l + 1) := if_pos g
      rw [e, if_pos g]
      obtain ⟨h1, h2, h3⟩ := ih (l + 1)
      refine ⟨by omega, fun j k1 k2 => ?_, fun h => h3 (by omega)⟩
      by_cases g9 : j = l
      · rw [g9]; exact g
      · exact h2 j (by omega) k2
    · have e : lvo la p (d + 1) l = l := if_neg g
      rw [e, if_neg g]
      exact ⟨Nat.le_refl _, fun j k1 k2 => absurd k2 (by omega), fun _ => by omega⟩
theorem RL_eq {R : RD} (h : 1 ≤ RL R) : RL R = (RLV R).1 := by
  by_cases g : Rmx R < (RLV R).1
  · have : RL R = 0 := if_pos g
    omega
  · exact if_neg g
theorem Rlo_oc {R : RD} (h : 1 ≤ RL R) {p : Nat} (hp : p < 601) (ho : atp (RA R) p ≠ 0) : RF R (Rlo R p) ≤ p ∧ p ≤ Rla R (Rlo R p) ∧ ∀ l, l < Rlo R p → Rla R l < p := by
  have hst : (∀ l, l < (RLV R).1 → RF R l ≤ Rla R l ∧ Rla R l < 601) ∧ (∀ l, l + 1 < (RLV R).1 → Rla R l < RF R (l + 1)) ∧ (∀ p, p < 601 → atp (RA R) p ≠ 0 → ∃ l, l < (RLV R).1 ∧ RF R l ≤ p ∧ p ≤ Rla R l) := lvS_str (f := atp (RA R)) (g := Cq R) 601
  obtain ⟨i1, i2, i3⟩ := hst
  have hn := RL_eq h
  obtain ⟨l0, k1, k2, k3⟩ := i3 p hp ho
  obtain ⟨s1, s2, s3⟩ := lvo_sp (Rla R) p (RL R - 1) 0
  have hlt := Rlo_lt h p
  have e0 : lvo (Rla R) p (RL R - 1) 0 = Rlo R p := rfl
  rw [e0] at s1 s2 s3
  have hmono : ∀ j l, j < l → l < (RLV R).1 → Rla R j < RF R l := by
    intro j l
    induction l with
    | zero => intro h; omega
    | succ l ih =>
      intro h1 h2
      by_cases g9 : j = l
      · subst g9; exact i2 j h2
      · have := ih (by omega) (by omega)
        have := i1 l (by omega)
        have := i2 l h2
        omega
  have hge : Rlo R p ≤ l0 := by
    rcases Nat.lt_or_ge l0 (Rlo R p) with g | g
    · have := s2 l0 (Nat.zero_le _) g; omega
    · exact g
  have hle : l0 ≤ Rlo R p := by
    rcases Nat.lt_or_ge (Rlo R p) l0 with g | g
    · have h1 := s3 (by omega)
      have h2 := hmono (Rlo R p) l0 g k1
      omega
    · exact g
  have e : l0 = Rlo R p := by omega
  subst e
  exact ⟨k2, k3, fun l hl => s2 l (Nat.zero_le _) hl⟩
theorem Rlo_mono {R : RD} {p q : Nat} (h : p ≤ q) : Rlo R p ≤ Rlo R q := by
  obtain ⟨s1, s2, s3⟩ := lvo_sp (Rla R) p (RL R - 1) 0
  obtain ⟨t1, t2, t3⟩ := lvo_sp (Rla R) q (RL R - 1) 0
  have b1 := lvo_le (Rla R) p (RL R - 1) 0
  unfold Rlo
  rcases Nat.lt_or_ge (lvo (Rla R) q (RL R - 1) 0) (lvo (Rla R) p (RL R - 1) 0) with g | g
  · have h1 := s2 _ (Nat.zero_le _) g
    have h2 := t3 (by omega)
    omega
  · exact g
theorem atp_mem {l : List Cl3} {x : Cl3} (h : x ∈ l) : atp l x.1 ≠ 0 := by
  unfold atp
  intro g
  rw [List.countP_eq_zero] at g
  exact g x h (by simp)
theorem acl_mem {R : RD} {x : Cl3} {c : Nat} : ∀ {n : Nat}, c < n → x ∈ clsA R c → x ∈ acl R n := by
  intro n
  induction n with
  | zero => intro h; omega
  | succ n ih =>
    intro h hx
    show x ∈ acl R n ++ clsA R n
    rw [List.mem_append]
    by_cases g : c = n
    · subst g; exact Or.inr hx
    · exact Or.inl (ih (by omega) hx)
/-- CLUSTERS rise: those that ended lie ahead of the next one's KNOTS -/
theorem cls_rise {R : RD} (hV : VR R) {c : Nat} (hc : c < Cn R) : ∀ k, k ≤ Ck R c → (∀ q ∈ cls R c k, k < Ck R c → q.1 < ht (Cp R c (beg R c k))) ∧ (cls R c k).Pairwise (fun p q => p.1 < q.1) := by
  intro k
  induction k with
  | zero => intro _; exact ⟨fun q hq => (by cases hq), List.Pairwise.nil⟩
  | succ k ih =>
    intro hk
    obtain ⟨i1, i2⟩ := ih (by omega)
    have hbk := beg_le R c k
    have hhb : ht (Cp R c (beg R c k)) ≤ ht (Cp R c k) := by
      rcases Nat.lt_or_ge (beg R c k) k with g | g
      · exact Nat.le_of_lt (hV.mono hc g (by omega))
      · rw [show beg R c k = k by omega]; exact Nat.le_refl _
    cases he : ends R c k with
    | true =>
      rw [cls_t he, beg_t he]
      refine ⟨fun q hq hk2 => ?_, ?_⟩
      · have hm := hV.mono hc (show k < k + 1 by omega) hk2
        rcases List.mem_append.mp hq with g | g
        · have := i1 q g (by omega); omega
        · rw [List.mem_singleton.mp g]; show clp R c k < _; unfold clp; omega
      · rw [List.pairwise_append]
        refine ⟨i2, List.pairwise_singleton _ _, fun p hp q hq => ?_⟩
        rw [List.mem_singleton.mp hq]
        have := i1 p hp (by omega)
        show p.1 < clp R c k
        unfold clp; omega
    | false =>
      rw [cls_f he, beg_f he]
      exact ⟨fun q hq hk2 => i1 q hq (by omega), i2⟩
/-- two of one LEVEL among rising CLUSTERS: two neighbours -/
def adjB (R : RD) : List Cl3 → Bool
  | [] => false
  | [_] => false
  | p :: q :: r => (Rlo R q.1 == Rlo R p.1) || adjB R (q :: r)
theorem any_adj {R : RD} : ∀ {l : List Cl3} {x : Cl3}, (x :: l).Pairwise (fun p q => p.1 < q.1) → (l.any fun p => Rlo R p.1 == Rlo R x.1) = true → adjB R (x :: l) = true := by
  intro l
  cases l with
  | nil => intro x _ h; cases h
  | cons y r =>
    intro x hp h
    show ((Rlo R y.1 == Rlo R x.1) || adjB R (y :: r)) = true
    rw [List.any_cons, Bool.or_eq_true] at h
    rw [Bool.or_eq_true]
    rcases h with h | h
    · exact Or.inl h
    · left
      rw [List.any_eq_true] at h
      obtain ⟨z, hz, e⟩ := h
      have e := beq_iff_eq.mp e
      have h1 := List.rel_of_pairwise_cons hp (a' := y) List.mem_cons_self
      have h2 := List.rel_of_pairwise_cons (List.Pairwise.of_cons hp) hz
      have m1 := Rlo_mono (R := R) (Nat.le_of_lt h1)
      have m2 := Rlo_mono (R := R) (Nat.le_of_lt h2)
      exact beq_iff_eq.mpr (by omega)
theorem rTw_snoc {R : RD} {l : List Cl3} {x : Cl3} : rTw R (l ++ [x]).reverse = (rTw R l.reverse || l.any fun p => Rlo R p.1 == Rlo R x.1) := rTw_app
/-- a pair of one LEVEL, from the front -/
def frB (R : RD) : List Cl3 → Bool
  | [] => false
  | p :: r => (r.any fun q => Rlo R q.1 == Rlo R p.1) || frB R r
theorem frB_app {R : RD} {x : Cl3} : ∀ {l : List Cl3}, frB R (l ++ [x]) = (frB R l || l.any fun p => Rlo R p.1 == Rlo R x.1) := by
  intro l
  induction l with
  | nil => rfl
  | cons y r ih =>
    show (((r ++ [x]).any fun q => Rlo R q.1 == Rlo R y.1) || frB R (r ++ [x])) = (((r.any fun q => Rlo R q.1 == Rlo R y.1) || frB R r) || (List.any (y :: r) fun p => Rlo R p.1 == Rlo R x.1))
    have e : ([x].any fun q => Rlo R q.1 == Rlo R y.1) = (Rlo R y.1 == Rlo R x.1) := by
      show ((Rlo R x.1 == Rlo R y.1) || false) = _
      rw [Bool.or_false]; exact Bool.beq_comm
    rw [ih, List.any_append, e, List.any_cons]
    cases (r.any fun q => Rlo R q.1 == Rlo R y.1) <;> cases (Rlo R y.1 == Rlo R x.1) <;> cases frB R r <;> cases (r.any fun p => Rlo R p.1 == Rlo R x.1) <;> rfl
theorem tw_fr {R : RD} {l : List Cl3} : rTw R l.reverse = frB R l := by
  have key : ∀ (l : List Cl3), rTw R l = frB R l.reverse := by
    intro l
    induction l with
    | nil => rfl
    | cons x r ih =>
      rw [List.reverse_cons, frB_app, ← ih, List.any_reverse]
      rfl
  rw [key, List.reverse_reverse]
theorem fr_adj {R : RD} : ∀ {l : List Cl3}, l.Pairwise (fun p q => p.1 < q.1) → frB R l = adjB R l := by
  intro l
  induction l with
  | nil => intro _; rfl
  | cons x r ih =>
    intro hp
    have ih := ih (List.Pairwise.of_cons hp)
    cases r with
    | nil => rfl
    | cons y r =>
      show (((y :: r).any fun q => Rlo R q.1 == Rlo R x.1) || frB R (y :: r)) = ((Rlo R y.1 == Rlo R x.1) || adjB R (y :: r))
      rw [ih, List.any_cons]
      cases h1 : (Rlo R y.1 == Rlo R x.1) with
      | true => rfl
      | false =>
        cases h2 : (r.any fun q => Rlo R q.1 == Rlo R x.1) with
        | false => rfl
        | true =>
          have := any_adj (R := R) (x := x) (l := y :: r) hp (by rw [List.any_cons, h2, Bool.or_true])
          have h3 : ((Rlo R y.1 == Rlo R x.1) || adjB R (y :: r)) = true := this
          rw [h1, Bool.false_or] at h3
          rw [h3]; rfl
/-- neighbours among the first n of one LEVEL -/
def adN (R : RD) (l : List Cl3) (n : Nat) : Bool := (List.range n).any fun k => decide (1 ≤ k) && (Rlo R (l.getD k (0, (0, 0))).1 == Rlo R (l.getD (k - 1) (0, (0, 0))).1)
theorem adj_N {R : RD} : ∀ {l : List Cl3}, adjB R l = adN R l l.length := by
  intro l
  have key : ∀ {l : List Cl3}, adjB R l = true ↔ ∃ k, k + 1 < l.length ∧ Rlo R (l.getD (k + 1) (0, (0, 0))).1 = Rlo R (l.getD k (0, (0, 0))).1 := by
    intro l
    induction l with
    | nil => exact ⟨fun h => (by cases h), fun ⟨k, hk, _⟩ => absurd hk (by simp)⟩
    | cons x r ih =>
      cases r with
      | nil => exact ⟨fun h => (by cases h), fun ⟨k, hk, _⟩ => absurd hk (by simp)⟩
      | cons y r =>
        show ((Rlo R y.1 == Rlo R x.1) || adjB R (y :: r)) = true ↔ _
        rw [Bool.or_eq_true, ih]
        constructor
        · rintro (h | ⟨k, hk, e⟩)
          · exact ⟨0, by simp, beq_iff_eq.mp h⟩
          · exact ⟨k + 1, by simp at hk ⊢; omega, e⟩
        · rintro ⟨k, hk, e⟩
          cases k with
          | zero => exact Or.inl (beq_iff_eq.mpr e)
          | succ k => exact Or.inr ⟨k, by simp at hk ⊢; omega, e⟩
  have e2 : adN R l l.length = true ↔ ∃ k, k + 1 < l.length ∧ Rlo R (l.getD (k + 1) (0, (0, 0))).1 = Rlo R (l.getD k (0, (0, 0))).1 := by
    unfold adN
    rw [List.any_eq_true]
    constructor
    · rintro ⟨k, hk, e⟩
      rw [Bool.and_eq_true, decide_eq_true_eq, beq_iff_eq] at e
      have hk := List.mem_range.mp hk
      refine ⟨k - 1, by omega, ?_⟩
      rw [show k - 1 + 1 = k by omega]; exact e.2
    · rintro ⟨k, hk, e⟩
      refine ⟨k + 1, List.mem_range.mpr hk, ?_⟩
      rw [Bool.and_eq_true, decide_eq_true_eq, beq_iff_eq]
      exact ⟨by omega, e⟩
  cases h1 : adjB R l with
  | true => exact (e2.mpr (key.mp h1)).symm
  | false =>
    cases h2 : adN R l l.length with
    | false => rfl
    | true => rw [key.mpr (e2.mp h2)] at h1; cases h1
theorem tw_N {R : RD} (hV : VR R) {c : Nat} (hc : c < Cn R) : rTw R (clsA R c).reverse = adN R (clsA R c) (clsA R c).length := by
  have hp : (clsA R c).Pairwise (fun p q => p.1 < q.1) := (cls_rise hV hc _ (Nat.le_refl _)).2
  rw [tw_fr, fr_adj hp, adj_N]
