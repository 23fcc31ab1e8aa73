/-! the reading of a RECORD -/
def ends (R : RD) (c k : Nat) : Bool := !(decide (so (Cp R c k) = 0) && decide (k + 1 < Ck R c) && decide (so (Cp R c (k + 1)) = 0) && decide (ht (Cp R c (k + 1)) ≤ ht (Cp R c k) + 4))
def beg (R : RD) (c : Nat) : Nat → Nat
  | 0 => 0
  | k + 1 => if ends R c k then k + 1 else beg R c k
def clp (R : RD) (c k : Nat) : Nat := (ht (Cp R c (beg R c k)) + ht (Cp R c k)) / 2
def clw (R : RD) (c k : Nat) : Nat := if so (Cp R c k) = 0 then k - beg R c k + 1 else if so (Cp R c k) = 1 then tu (Cp R c k) else 1
/-- the CLUSTERS that end among the first k KNOTS: place, sort, worth -/
def cls (R : RD) (c : Nat) : Nat → List (Nat × (Nat × Nat))
  | 0 => []
  | k + 1 => if ends R c k then cls R c k ++ [(clp R c k, (so (Cp R c k), clw R c k))] else cls R c k
def clsA (R : RD) (c : Nat) : List (Nat × (Nat × Nat)) := cls R c (Ck R c)
def acl (R : RD) : Nat → List (Nat × (Nat × Nat))
  | 0 => []
  | c + 1 => acl R c ++ clsA R c
def atp (l : List (Nat × (Nat × Nat))) (h : Nat) : Nat := l.countP fun q => q.1 == h
def aun (l : List (Nat × (Nat × Nat))) : Bool := l.any fun q => q.2.1 != 0
abbrev Lv : Type := Nat × ((Nat → Nat) × ((Nat → Nat) × (Nat → Nat)))
/-- the LEVELS of the places below h: how many, first, last, members -/
def lvS (f : Nat → Nat) (gap : Nat) : Nat → Lv
  | 0 => (0, (fun _ => 0, (fun _ => 0, fun _ => 0)))
  | h + 1 => if f h = 0 then lvS f gap h else if (lvS f gap h).1 = 0 ∨ (lvS f gap h).2.2.1 ((lvS f gap h).1 - 1) + gap < h
    then ((lvS f gap h).1 + 1, (upf (lvS f gap h).2.1 (lvS f gap h).1 h, (upf (lvS f gap h).2.2.1 (lvS f gap h).1 h, upf (lvS f gap h).2.2.2 (lvS f gap h).1 (f h))))
    else ((lvS f gap h).1, ((lvS f gap h).2.1, (upf (lvS f gap h).2.2.1 ((lvS f gap h).1 - 1) h, upf (lvS f gap h).2.2.2 ((lvS f gap h).1 - 1) ((lvS f gap h).2.2.2 ((lvS f gap h).1 - 1) + f h))))
def RA (R : RD) : List (Nat × (Nat × Nat)) := acl R (Cn R)
def RLV (R : RD) : Lv := lvS (atp (RA R)) (Cq R) 601
def Run (R : RD) : Bool := aun (RA R)
def Rkt (R : RD) : Bool := !(RA R).isEmpty
def Rmx (R : RD) : Nat := bif Run R then 6 else 5
/-- how many LEVELS -/
def RL (R : RD) : Nat := if Rmx R < (RLV R).1 then 0 else (RLV R).1
def RF (R : RD) : Nat → Nat := (RLV R).2.1
def Rla (R : RD) : Nat → Nat := (RLV R).2.2.1
def Rme (R : RD) : Nat → Nat := (RLV R).2.2.2
def Rct (R : RD) (l : Nat) : Nat := 10 ^ (RL R - 1 - l) * (bif Run R then 1 else 10)
/-- the LEVEL of a place: the first whose last place is not ahead of it -/
def lvo (la : Nat → Nat) (p : Nat) : Nat → Nat → Nat
  | 0, l => l
  | d + 1, l => if la l < p then lvo la p d (l + 1) else l
def Rlo (R : RD) (p : Nat) : Nat := lvo (Rla R) p (RL R - 1) 0
def lst (R : RD) (c l : Nat) : Bool := decide (Ct R c ≠ 0) && decide (Ct R c ≤ Rla R l)
def rMany (R : RD) (l : List (Nat × (Nat × Nat))) : Bool := l.any fun q => decide (q.2.1 = 0) && decide (9 < q.2.2)
def rTw (R : RD) : List (Nat × (Nat × Nat)) → Bool
  | [] => false
  | q :: r => rTw R r || r.any fun p => Rlo R p.1 == Rlo R q.1
def rAs (R : RD) (l : List (Nat × (Nat × Nat))) : Bool := l.any fun q => decide (q.2.1 = 0) == (Run R && decide (Rlo R q.1 + 1 = RL R))
def rSum (R : RD) (c : Nat) (l : List (Nat × (Nat × Nat))) : Nat := (l.map fun q => bif lst R c (Rlo R q.1) then 0 else q.2.2 * Rct R (Rlo R q.1)).sum
def rLost (R : RD) (c : Nat) : Nat := sumN (fun l => bif lst R c l then 9 * Rct R l else 0) (RL R) + (bif !Run R && lst R c (RL R - 1) then 9 else 0)
def Rft (R : RD) (c : Nat) : Nat := if RL R = 0 then bn (Rkt R) else bif rMany R (clsA R c) then 2 else bif rTw R (clsA R c).reverse then 3 else bif rAs R (clsA R c) then 4 else 0
def Rvl (R : RD) (c : Nat) : Nat := if RL R = 0 then 0 else if Rft R c = 0 then rSum R c (clsA R c) else 0
def Rls (R : RD) (c : Nat) : Nat := if RL R = 0 then 0 else if Rft R c = 0 then rLost R c else 0
/-- the class's reading at a is R's -/
def RdC (R : RD) (a : Nat) (m : Mm) : Prop := m (a + 15) 11 = bi (Run R) ∧ m (a + 15) 12 = (RL R : Int) ∧ (∀ l, l < RL R → m (a + 16) l = (RF R l : Int) ∧ m (a + 17) l = (Rla R l : Int) ∧ m (a + 18) l = (Rct R l : Int) ∧ m (a + 19) l = (Rme R l : Int)) ∧ (∀ c, c < Cn R → m (a + 20) c = ((clsA R c).length : Int) ∧ m (a + 21) c = (Rft R c : Int) ∧ m (a + 22) c = (Rvl R c : Int) ∧ m (a + 23) c = (Rls R c : Int))
theorem RdC.of {R : RD} {a : Nat} {m m' : Mm} (h : RdC R a m) (e : ∀ b j, a + 15 ≤ b → b ≤ a + 23 → m' b j = m b j) : RdC R a m' := by
  obtain ⟨h1, h2, h3, h4⟩ := h
  refine ⟨(e _ _ (by omega) (by omega)).trans h1, (e _ _ (by omega) (by omega)).trans h2, fun l hl => ?_, fun c hc => ?_⟩
  · obtain ⟨g1, g2, g3, g4⟩ := h3 l hl
    exact ⟨(e _ _ (by omega) (by omega)).trans g1, (e _ _ (by omega) (by omega)).trans g2, (e _ _ (by omega) (by omega)).trans g3, (e _ _ (by omega) (by omega)).trans g4⟩
  · obtain ⟨g1, g2, g3, g4⟩ := h4 c hc
    exact ⟨(e _ _ (by omega) (by omega)).trans g1, (e _ _ (by omega) (by omega)).trans g2, (e _ _ (by omega) (by omega)).trans g3, (e _ _ (by omega) (by omega)).trans g4⟩
/-! the whole object -/
def CS1 (R : RD) (a : Nat) (m : Mm) : Prop := VR R ∧ CR R a m ∧ (m a 7 = 0 ∨ (m a 7 = 1 ∧ RdC R a m))
def CS (S : Nat → RD) (m : Mm) : Prop := ∀ i, i < 4 → CS1 (S i) (tgA i) m
def MS (S : Nat → RD) (m : Mm) : Prop := ∀ i, i < 4 → VR (S i) ∧ MR (S i) i m
/-- the script, the model and what cure and found keep are as they were -/
def Mo (m m1 : Mm) : Prop := ∀ b j, b = 0 ∨ (8 ≤ b ∧ b ≤ 14) ∨ 124 ≤ b → m1 b j = m b j
/-- the script, the class and what the model's cure and found keep are as they were -/
def Co1 (m m1 : Mm) : Prop := ∀ b j, (b < 124 ∨ (b = 124 ∧ (j = 44 ∨ j = 50)) ∨ b = 161 ∨ b = 165 ∨ b = 166) → m1 b j = m b j
def on1 (S : Nat → RD) (r d : Int) (f : RD → Int × RD) : Int × (Nat → RD) := if 0 ≤ r ∧ r ≤ 3 then ((f (S r.toNat)).1, upf S r.toNat (f (S r.toNat)).2) else (d, S)
theorem on1_in {S : Nat → RD} {r d : Int} {f : RD → Int × RD} {i : Nat} {v : Int} {R : RD} (hi : i < 4) (hr : r = (i : Int)) (e : f (S i) = (v, R)) : on1 S r d f = (v, upf S i R) := by
  unfold on1
  rw [if_pos (by omega), show r.toNat = i by omega, e]
theorem on1_out {S : Nat → RD} {r d : Int} {f : RD → Int × RD} (h : r < 0 ∨ 3 < r) : on1 S r d f = (d, S) := by
  unfold on1
  rw [if_neg (by omega)]
theorem upf_self {α : Type} {f : Nat → α} {i : Nat} : upf f i (f i) = f := by
  funext j
  unfold upf
  split
  · next h => rw [h]
  · rfl
theorem CS1.of {R : RD} {a : Nat} {m m' : Mm} (h : CS1 R a m) (e : ∀ b j, a ≤ b → b ≤ a + 25 → m' b j = m b j) : CS1 R a m' := by
  obtain ⟨h1, h2, h3⟩ := h
  refine ⟨h1, h2.of (fun b j g1 g2 _ => e b j g1 (by omega)), ?_⟩
  rw [e a 7 (by omega) (by omega)]
  rcases h3 with h3 | ⟨h3, h4⟩
  · exact Or.inl h3
  · exact Or.inr ⟨h3, h4.of (fun b j g1 g2 => e b j (by omega) (by omega))⟩
section
variable {S : Nat → RD} {m m1 : Mm} {r d v : Int} {f : RD → Int × RD} {i a len : Nat} {R : RD} {Q : Option AV → Sx → Prop}
theorem CS.set (hS : CS S m) (hi : i < 4) (ha : a = tgA i) (h : CS1 R a m1) (hF : ∀ b j, (20 ≤ b ∧ b < a) ∨ (a + 25 < b ∧ b < 124) → m1 b j = m b j) : CS (upf S i R) m1 := by
  intro k hk
  by_cases g : k = i
  · subst g ha; rw [upf_eq]; exact h
  · rw [upf_ne g]
    subst ha
    unfold tgA at hF ⊢
    exact (hS k hk).of (fun b j g1 g2 => hF b j (by unfold tgA at g1 g2; omega))
theorem fin_in (hS : CS S m) (hi : i < 4) (hr : r = (i : Int)) (ha : a = tgA i) (q : ∀ m1, CS (on1 S r d f).2 m1 → Mo m m1 → Q (some (aI (on1 S r d f).1)) (m1, tl len)) (e : f (S i) = (v, R)) (h : CS1 R a m1) (hF : Fx a (a + 25) m m1) : Q (some (aI v)) (m1, tl len) := by
  rw [on1_in hi hr e] at q
  have hb : 20 ≤ a ∧ a ≤ 98 := by subst ha; unfold tgA; omega
  exact q m1 (hS.set hi ha h (fun b j hb => hF b j (by omega))) (fun b j hb => hF b j (by omega))
theorem fin_same (hS : CS S m) (hi : i < 4) (hr : r = (i : Int)) (q : ∀ m1, CS (on1 S r d f).2 m1 → Mo m m1 → Q (some (aI (on1 S r d f).1)) (m1, tl len)) (e : f (S i) = (v, S i)) : Q (some (aI v)) (m, tl len) := by
  rw [on1_in hi hr e, upf_self] at q
  exact q m hS (fun _ _ _ => rfl)
theorem fin_out (hS : CS S m) (q : ∀ m1, CS (on1 S r d f).2 m1 → Mo m m1 → Q (some (aI (on1 S r d f).1)) (m1, tl len)) (h : r < 0 ∨ 3 < r) : Q (some (aI d)) (m, tl len) := by
  rw [on1_out h] at q
  exact q m hS (fun _ _ _ => rfl)
theorem MS.set (hS : MS S m) (hi : i < 4) (hV : VR R) (h : MR R i m1) (hF : ∀ k, k < 4 → k ≠ i → MR (S k) k m → MR (S k) k m1) : MS (upf S i R) m1 := by
  intro k hk
  by_cases g : k = i
  · subst g; rw [upf_eq]; exact ⟨hV, h⟩
  · rw [upf_ne g]
    exact ⟨(hS k hk).1, hF k hk g (hS k hk).2⟩
theorem finM_in (hS : MS S m) (hi : i < 4) (hr : r = (i : Int)) (q : ∀ m1, MS (on1 S r d f).2 m1 → Co1 m m1 → Q (some (aI (on1 S r d f).1)) (m1, tl len)) (e : f (S i) = (v, R)) (hV : VR R) (h : MR R i m1) (hF : ∀ k, k < 4 → k ≠ i → MR (S k) k m → MR (S k) k m1) (hc : Co1 m m1) : Q (some (aI v)) (m1, tl len) := by
  rw [on1_in hi hr e] at q
  exact q m1 (hS.set hi hV h hF) hc
theorem finM_same (hS : MS S m) (hi : i < 4) (hr : r = (i : Int)) (q : ∀ m1, MS (on1 S r d f).2 m1 → Co1 m m1 → Q (some (aI (on1 S r d f).1)) (m1, tl len)) (e : f (S i) = (v, S i)) (h : MS S m1) (hc : Co1 m m1) : Q (some (aI v)) (m1, tl len) := by
  rw [on1_in hi hr e, upf_self] at q
  exact q m1 h hc
theorem finM_out (hS : MS S m) (q : ∀ m1, MS (on1 S r d f).2 m1 → Co1 m m1 → Q (some (aI (on1 S r d f).1)) (m1, tl len)) (h : r < 0 ∨ 3 < r) : Q (some (aI d)) (m, tl len) := by
  rw [on1_out h] at q
  exact q m hS (fun _ _ _ => rfl)
theorem c_recordOf' {r : Int} (q1 : ∀ i a : Nat, i < 4 → r = i → a = tgA i → isR a → Q (some (aA a)) (m, tl len)) (q0 : (r < 0 ∨ 3 < r) → Q (some aN) (m, tl len)) : E 12 0 [some (aA 1), some (aI r)] [] (m, tl len) Q := c_recordOf (fun i h1 h2 => q1 i _ h1 h2 rfl (isR_tg h1)) q0
end
