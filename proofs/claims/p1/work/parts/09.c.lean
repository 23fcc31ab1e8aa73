section RULES
variable {k pc n p' : Nat} {L L' : Lc} {st st' r : List AV} {s s' : Sx} {Q : Option AV → Sx → Prop} {i : Instr}
theorem E_scr {j v : Int} (hi : ins 0 pc = some (.iaload, n)) (hl : inb j s.2.2.2 = true) (hv : s.1 0 j.toNat = v) (kk : E 0 (pc + n) L (aI v :: r) s Q) : E 0 pc L (aI j :: aA 0 :: r) s Q := by
  subst hv
  refine E_s hi ?_ kk
  show ckP (Nat.beq 0 0 && inb j s.2.2.2) _ = _
  rw [hl]
  rfl
theorem E_val {z j : Int} (h : z = j) (kk : E k pc L (aI j :: r) s Q) : E k pc L (aI z :: r) s Q := h ▸ kk
theorem E_ialdv {j v : Int} {a N : Nat} (hi : ins k pc = some (.iaload, n)) (hk : kd a = (1, N)) (hs : s.2.1 = 168) (h0 : 0 ≤ j) (h1 : j < N) (hv : s.1 a j.toNat = v) (kk : E k (pc + n) L (aI v :: r) s Q) : E k pc L (aI j :: aA a :: r) s Q := E_iald hi hk hs h0 h1 (hv ▸ kk)
end RULES
/-- all heights are bare: no level is found -/
theorem fl_loop {b gp : Nat} {x : Int} {len : Nat} (hb : b = 35 ∨ b = 61 ∨ b = 87 ∨ b = 113) (Q : Option AV → Sx → Prop) : ∀ (d h : Nat) (m : Mm), h + d = 601 → (∀ j, j < 601 → m (b + 9) j = 0) → Q none (m, (168, (mkF, len))) → E 43 7 [some (aA b), some (aI x), some (aI h)] [] (m, (168, (mkF, len))) Q := by
  intro d
  induction d with
  | zero =>
    intro h m e hm hq
    have e : h = 601 := by omega
    subst e
    rcases hb with rfl | rfl | rfl | rfl <;> (refine E_st rfl rfl rfl ?_; refine E_st rfl rfl rfl ?_; refine E_st rfl rfl rfl ?_; exact E_ret rfl rfl hq)
  | succ d ih =>
    intro h m e hm hq
    have step : ∀ a9 : Nat, kd a9 = (1, 601) → m a9 h = 0 → ∀ {pc : Nat} {L : Lc} {n : Nat}, ins 43 pc = some (.iaload, n) → E 43 (pc + n) L [aI 0] (m, (168, (mkF, len))) Q → E 43 pc L [aI h, aA a9] (m, (168, (mkF, len))) Q := fun a9 hk h0 pc L n hi kk => E_ialdv hi hk rfl (by omega) (by omega) h0 kk
    have hrec := ih (h + 1) m (by omega) hm hq
    rcases hb with rfl | rfl | rfl | rfl
    · refine E_st rfl rfl rfl ?_
      refine E_st rfl rfl rfl ?_
      refine E_icmp_gt rfl (by decide) (fun q => absurd q (by omega)) (fun _ => ?_)
      refine E_st rfl rfl rfl ?_
      refine E_st rfl rfl rfl ?_
      refine E_st rfl rfl rfl ?_
      refine step 44 rfl (hm h (by omega)) rfl ?_
      refine E_st rfl rfl rfl ?_
      refine E_st rfl rfl rfl ?_
      refine E_iinc rfl rfl rfl (by omega) ?_
      refine E_st rfl rfl rfl ?_
      exact hrec
    · refine E_st rfl rfl rfl ?_
      refine E_st rfl rfl rfl ?_
      refine E_icmp_gt rfl (by decide) (fun q => absurd q (by omega)) (fun _ => ?_)
      refine E_st rfl rfl rfl ?_
      refine E_st rfl rfl rfl ?_
      refine E_st rfl rfl rfl ?_
      refine step 70 rfl (hm h (by omega)) rfl ?_
      refine E_st rfl rfl rfl ?_
      refine E_st rfl rfl rfl ?_
      refine E_iinc rfl rfl rfl (by omega) ?_
      refine E_st rfl rfl rfl ?_
      exact hrec
    · refine E_st rfl rfl rfl ?_
      refine E_st rfl rfl rfl ?_
      refine E_icmp_gt rfl (by decide) (fun q => absurd q (by omega)) (fun _ => ?_)
      refine E_st rfl rfl rfl ?_
      refine E_st rfl rfl rfl ?_
      refine E_st rfl rfl rfl ?_
      refine step 96 rfl (hm h (by omega)) rfl ?_
      refine E_st rfl rfl rfl ?_
      refine E_st rfl rfl rfl ?_
      refine E_iinc rfl rfl rfl (by omega) ?_
      refine E_st rfl rfl rfl ?_
      exact hrec
    · refine E_st rfl rfl rfl ?_
      refine E_st rfl rfl rfl ?_
      refine E_icmp_gt rfl (by decide) (fun q => absurd q (by omega)) (fun _ => ?_)
      refine E_st rfl rfl rfl ?_
      refine E_st rfl rfl rfl ?_
      refine E_st rfl rfl rfl ?_
      refine step 122 rfl (hm h (by omega)) rfl ?_
      refine E_st rfl rfl rfl ?_
      refine E_st rfl rfl rfl ?_
      refine E_iinc rfl rfl rfl (by omega) ?_
      refine E_st rfl rfl rfl ?_
      exact hrec
theorem mr_loop1 {r : Int} {len : Nat} {x : Option AV} (Q : Option AV → Sx → Prop) : ∀ (d h : Nat) (m : Mm), h + d = 601 → E 147 22 [some (aA 124), some (aI r), some (aI 601), x] [] (fillm m 144 h 601 0, (168, (mkF, len))) Q → E 147 2 [some (aA 124), some (aI r), some (aI h), x] [] (m, (168, (mkF, len))) Q := by
  intro d
  induction d with
  | zero =>
    intro h m e hq
    have e : h = 601 := by omega
    subst e
    rw [fillm_0] at hq
    refine E_st rfl rfl rfl ?_
    refine E_st rfl rfl rfl ?_
    refine E_st rfl rfl rfl ?_
    exact hq
  | succ d ih =>
    intro h m e hq
    refine E_st rfl rfl rfl ?_
    refine E_st rfl rfl rfl ?_
    refine E_icmp_ge rfl (by decide) (fun q => absurd q (by omega)) (fun _ => ?_)
    refine E_st rfl rfl rfl ?_
    refine E_st rfl rfl rfl ?_
    refine E_st rfl rfl rfl ?_
    refine E_st rfl rfl rfl ?_
    refine E_iast (N := 601) rfl rfl rfl (by omega) (by omega) ?_
    refine E_iinc rfl rfl rfl (by omega) ?_
    refine E_st rfl rfl rfl ?_
    exact ih (h + 1) (up2 m 144 h 0) (by omega) (by rw [fillm_up (by omega)]; exact hq)
theorem mr_loop3 {r : Int} {len : Nat} {x : Option AV} (Q : Option AV → Sx → Prop) : ∀ (d h : Nat) (m : Mm), h + d = 601 → (∀ j, j < 601 → m 144 j = 0) → E 147 244 [some (aA 124), some (aI r), some (aI 601), x] [] (m, (168, (mkF, len))) Q → E 147 128 [some (aA 124), some (aI r), some (aI h), x] [] (m, (168, (mkF, len))) Q := by
  intro d
  induction d with
  | zero =>
    intro h m e hm hq
    have e : h = 601 := by omega
    subst e
    refine E_st rfl rfl rfl ?_
    refine E_st rfl rfl rfl ?_
    refine E_st rfl rfl rfl ?_
    exact hq
  | succ d ih =>
    intro h m e hm hq
    refine E_st rfl rfl rfl ?_
    refine E_st rfl rfl rfl ?_
    refine E_icmp_ge rfl (by decide) (fun q => absurd q (by omega)) (fun _ => ?_)
    refine E_st rfl rfl rfl ?_
    refine E_st rfl rfl rfl ?_
    refine E_st rfl rfl rfl ?_
    refine E_ialdv (v := 0) (N := 601) rfl rfl rfl (by omega) (by omega) (hm h (by omega)) ?_
    refine E_st rfl rfl rfl ?_
    refine E_st rfl rfl rfl ?_
    refine E_iinc rfl rfl rfl (by omega) ?_
    refine E_st rfl rfl rfl ?_
    exact ih (h + 1) m (by omega) hm hq
theorem and31 (x : Int) : ∃ j : Nat, j < 32 ∧ b32 (fun a b => a &&& b) x 31 = j := by
  obtain ⟨j, h1, h2⟩ := pk_andE (Int32.ofInt x) (m := 31) 5 (by decide)
  refine ⟨j, h1, ?_⟩
  show (Int32.ofInt x &&& 31).toInt = _
  rw [h2, nI_toInt (by omega)]
def PQ : Option AV → Sx → Prop := fun v s => v = some (aI 1) ∧ s.2.1 = 168
def LL : Lc := [some (aA 0), some (aA 1), some (aA 124), some (aI 0)]
