/-! the state that both sides stand for: a RECORD as a tuple of its numbers -/
/-- n, gap, group, on, colour, length, tear (0: none), knots, packed KNOTS, SUMS, whole, parts, part -/
abbrev RD : Type := Nat × (Nat × ((Nat → Int) × ((Nat → Int) × ((Nat → Nat) × ((Nat → Nat) × ((Nat → Nat) × ((Nat → Nat) × ((Nat → Nat → Nat) × (Nat × ((Nat → Nat) × ((Nat → Nat) × (Nat → Nat → Nat))))))))))))
def Cn (R : RD) : Nat := R.1
def Cq (R : RD) : Nat := R.2.1
def Cg (R : RD) : Nat → Int := R.2.2.1
def Co (R : RD) : Nat → Int := R.2.2.2.1
def Cc (R : RD) : Nat → Nat := R.2.2.2.2.1
def Cl (R : RD) : Nat → Nat := R.2.2.2.2.2.1
def Ct (R : RD) : Nat → Nat := R.2.2.2.2.2.2.1
def Ck (R : RD) : Nat → Nat := R.2.2.2.2.2.2.2.1
def Cp (R : RD) : Nat → Nat → Nat := R.2.2.2.2.2.2.2.2.1
def Sn (R : RD) : Nat := R.2.2.2.2.2.2.2.2.2.1
def Sw (R : RD) : Nat → Nat := R.2.2.2.2.2.2.2.2.2.2.1
def Sp (R : RD) : Nat → Nat := R.2.2.2.2.2.2.2.2.2.2.2.1
def Sq (R : RD) : Nat → Nat → Nat := R.2.2.2.2.2.2.2.2.2.2.2.2
def ht (p : Nat) : Nat := p / 64
def so (p : Nat) : Nat := p / 16 % 4
def tu (p : Nat) : Nat := p % 16
def kok (p : Nat) : Prop := (so p = 0 ∧ tu p = 0) ∨ (so p = 1 ∧ 2 ≤ tu p ∧ tu p ≤ 9) ∨ (so p = 2 ∧ tu p = 0)
/-- one CORD's numbers are as they may be -/
def VC (R : RD) (c : Nat) : Prop := (-1 ≤ Cg R c ∧ Cg R c ≤ 11) ∧ (-1 ≤ Co R c ∧ Co R c < c) ∧ Cc R c ≤ 23 ∧ (10 ≤ Cl R c ∧ Cl R c ≤ 600) ∧ Ct R c ≤ Cl R c ∧ Ck R c ≤ 30
def VK (R : RD) (c k : Nat) : Prop := kok (Cp R c k) ∧ 1 ≤ ht (Cp R c k) ∧ ht (Cp R c k) ≤ Cl R c ∧ (Ct R c ≠ 0 → ht (Cp R c k) < Ct R c) ∧ (k + 1 < Ck R c → ht (Cp R c k) < ht (Cp R c (k + 1)))
def VR (R : RD) : Prop := Cn R ≤ 60 ∧ (1 ≤ Cq R ∧ Cq R ≤ 100) ∧ (∀ c, c < Cn R → VC R c) ∧ (∀ c k, c < Cn R → k < Ck R c → VK R c k) ∧ Sn R ≤ 40 ∧ (∀ s, s < Sn R → Sw R s < Cn R ∧ Sp R s ≤ 12) ∧ (∀ s p, s < Sn R → p < Sp R s → Sq R s p < Cn R)
/-- the class holds R at the place a -/
def CC (R : RD) (a : Nat) (m : Mm) (c : Nat) : Prop := m (a + 2) c = Cg R c ∧ m (a + 3) c = Co R c ∧ m (a + 4) c = (Cc R c : Int) ∧ m (a + 5) c = (Cl R c : Int) ∧ m (a + 6) c = (Ct R c : Int) ∧ m (a + 7) c = (Ck R c : Int)
def CR (R : RD) (a : Nat) (m : Mm) : Prop := m (a + 1) 7 = (Cn R : Int) ∧ m a 5 = (Cq R : Int) ∧ (∀ c, c < Cn R → CC R a m c) ∧ (∀ c k, c < Cn R → k < Ck R c → m (a + 8) (30 * c + k) = (Cp R c k : Int)) ∧ m (a + 9) 3 = (Sn R : Int) ∧ (∀ s, s < Sn R → m (a + 10) s = (Sw R s : Int) ∧ m (a + 11) s = (Sp R s : Int)) ∧ (∀ s p, s < Sn R → p < Sp R s → m (a + 12) (12 * s + p) = (Sq R s p : Int))
/-- the model holds R as its record r -/
def MC (R : RD) (r : Nat) (m : Mm) (c : Nat) : Prop := m 127 (60 * r + c) = Cg R c ∧ m 128 (60 * r + c) = Co R c ∧ m 129 (60 * r + c) = (Cc R c : Int) ∧ m 130 (60 * r + c) = (Cl R c : Int) ∧ m 131 (60 * r + c) = (if Ct R c = 0 then -1 else (Ct R c : Int)) ∧ m 132 (60 * r + c) = (Ck R c : Int)
def MK (R : RD) (r : Nat) (m : Mm) (c k : Nat) : Prop := m 133 (1800 * r + 30 * c + k) = (ht (Cp R c k) : Int) ∧ m 134 (1800 * r + 30 * c + k) = (so (Cp R c k) : Int) ∧ m 135 (1800 * r + 30 * c + k) = (tu (Cp R c k) : Int)
def MR (R : RD) (r : Nat) (m : Mm) : Prop := m 125 r = (Cn R : Int) ∧ m 126 r = (Cq R : Int) ∧ (∀ c, c < Cn R → MC R r m c) ∧ (∀ c k, c < Cn R → k < Ck R c → MK R r m c k) ∧ m 136 r = (Sn R : Int) ∧ (∀ s, s < Sn R → m 137 (40 * r + s) = (Sw R s : Int) ∧ m 138 (40 * r + s) = (Sp R s : Int)) ∧ (∀ s p, s < Sn R → p < Sp R s → m 139 (480 * r + 12 * s + p) = (Sq R s p : Int))
/-- nothing but the places lo .. hi has changed -/
def Fx (lo hi : Nat) (m m' : Mm) : Prop := ∀ b j, b < lo ∨ hi < b → m' b j = m b j
theorem Fx.rf {lo hi : Nat} {m : Mm} : Fx lo hi m m := fun _ _ _ => rfl
theorem Fx.tr {lo hi : Nat} {m m' m'' : Mm} (h : Fx lo hi m m') (h' : Fx lo hi m' m'') : Fx lo hi m m'' := fun b j hb => (h' b j hb).trans (h b j hb)
theorem Fx.up {lo hi a i : Nat} {x : Int} {m m' : Mm} (h : Fx lo hi m m') (h1 : lo ≤ a) (h2 : a ≤ hi) : Fx lo hi m (up2 m' a i x) := fun b j hb => (up2_ne (by omega)).trans (h b j hb)
theorem Fx.wide {lo hi lo' hi' : Nat} {m m' : Mm} (h : Fx lo hi m m') (h1 : lo' ≤ lo) (h2 : hi ≤ hi') : Fx lo' hi' m m' := fun b j hb => h b j (by omega)
theorem Fx.cp {lo hi a b i j n : Nat} {m m' : Mm} (h : Fx lo hi m m') (h1 : lo ≤ b) (h2 : b ≤ hi) : Fx lo hi m (cpm m' a i b j n) := fun q w hb => by
  unfold cpm
  rw [if_neg (by omega)]
  exact h q w hb
theorem CR.of {R : RD} {a : Nat} {m m' : Mm} (h : CR R a m) (e : ∀ b j, a ≤ b → b ≤ a + 12 → (b = a → j = 5) → m' b j = m b j) : CR R a m' := by
  obtain ⟨h1, h2, h3, h4, h5, h6, h7⟩ := h
  refine ⟨?_, ?_, fun c hc => ?_, fun c k hc hk => ?_, ?_, fun s hs => ?_, fun s p hs hp => ?_⟩
  · rw [e _ _ (by omega) (by omega) (by omega)]; exact h1
  · rw [e _ _ (by omega) (by omega) (by omega)]; exact h2
  · obtain ⟨g1, g2, g3, g4, g5, g6⟩ := h3 c hc
    refine ⟨?_, ?_, ?_, ?_, ?_, ?_⟩ <;> (rw [e _ _ (by omega) (by omega) (by omega)]; assumption)
  · rw [e _ _ (by omega) (by omega) (by omega)]; exact h4 c k hc hk
  · rw [e _ _ (by omega) (by omega) (by omega)]; exact h5
  · rw [e _ _ (by omega) (by omega) (by omega), e _ _ (by omega) (by omega) (by omega)]; exact h6 s hs
  · rw [e _ _ (by omega) (by omega) (by omega)]; exact h7 s p hs hp
theorem MR.of {R : RD} {r : Nat} {m m' : Mm} (h : MR R r m) (e : ∀ b j, 125 ≤ b → b ≤ 139 → m' b j = m b j) : MR R r m' := by
  obtain ⟨h1, h2, h3, h4, h5, h6, h7⟩ := h
  refine ⟨?_, ?_, fun c hc => ?_, fun c k hc hk => ?_, ?_, fun s hs => ?_, fun s p hs hp => ?_⟩
  · rw [e _ _ (by omega) (by omega)]; exact h1
  · rw [e _ _ (by omega) (by omega)]; exact h2
  · obtain ⟨g1, g2, g3, g4, g5, g6⟩ := h3 c hc
    refine ⟨?_, ?_, ?_, ?_, ?_, ?_⟩ <;> (rw [e _ _ (by omega) (by omega)]; assumption)
  · obtain ⟨g1, g2, g3⟩ := h4 c k hc hk
    refine ⟨?_, ?_, ?_⟩ <;> (rw [e _ _ (by omega) (by omega)]; assumption)
  · rw [e _ _ (by omega) (by omega)]; exact h5
  · rw [e _ _ (by omega) (by omega), e _ _ (by omega) (by omega)]; exact h6 s hs
  · rw [e _ _ (by omega) (by omega)]; exact h7 s p hs hp
section PRJ
variable {R : RD} {a r c k s p e : Nat} {m : Mm}
theorem CR_2 (h : CR R a m) (hc : c < Cn R) : m (a + 2) c = Cg R c := (h.2.2.1 c hc).1
theorem CR_3 (h : CR R a m) (hc : c < Cn R) : m (a + 3) c = Co R c := (h.2.2.1 c hc).2.1
theorem CR_4 (h : CR R a m) (hc : c < Cn R) : m (a + 4) c = (Cc R c : Int) := (h.2.2.1 c hc).2.2.1
theorem CR_5 (h : CR R a m) (hc : c < Cn R) : m (a + 5) c = (Cl R c : Int) := (h.2.2.1 c hc).2.2.2.1
theorem CR_6 (h : CR R a m) (hc : c < Cn R) : m (a + 6) c = (Ct R c : Int) := (h.2.2.1 c hc).2.2.2.2.1
theorem CR_7 (h : CR R a m) (hc : c < Cn R) : m (a + 7) c = (Ck R c : Int) := (h.2.2.1 c hc).2.2.2.2.2
theorem CR_8 (h : CR R a m) (hc : c < Cn R) (hk : k < Ck R c) (he : e = 30 * c + k) : m (a + 8) e = (Cp R c k : Int) := by subst he; exact h.2.2.2.1 c k hc hk
theorem CRS (h : CR R a m) : m (a + 9) 3 = (Sn R : Int) := h.2.2.2.2.1
theorem CR_10 (h : CR R a m) (hs : s < Sn R) : m (a + 10) s = (Sw R s : Int) := (h.2.2.2.2.2.1 s hs).1
theorem CR_11 (h : CR R a m) (hs : s < Sn R) : m (a + 11) s = (Sp R s : Int) := (h.2.2.2.2.2.1 s hs).2
theorem CR_12 (h : CR R a m) (hs : s < Sn R) (hp : p < Sp R s) (he : e = 12 * s + p) : m (a + 12) e = (Sq R s p : Int) := by subst he; exact h.2.2.2.2.2.2 s p hs hp
def Ctz (R : RD) (c : Nat) : Int := if Ct R c = 0 then -1 else (Ct R c : Int)
theorem MR_125 (h : MR R r m) : m 125 r = (Cn R : Int) := h.1
theorem MR_126 (h : MR R r m) : m 126 r = (Cq R : Int) := h.2.1
theorem MR_136 (h : MR R r m) : m 136 r = (Sn R : Int) := h.2.2.2.2.1
theorem MR_127 (h : MR R r m) (hc : c < Cn R) (he : e = 60 * r + c) : m 127 e = Cg R c := by subst he; exact (h.2.2.1 c hc).1
theorem MR_128 (h : MR R r m) (hc : c < Cn R) (he : e = 60 * r + c) : m 128 e = Co R c := by subst he; exact (h.2.2.1 c hc).2.1
theorem MR_129 (h : MR R r m) (hc : c < Cn R) (he : e = 60 * r + c) : m 129 e = (Cc R c : Int) := by subst he; exact (h.2.2.1 c hc).2.2.1
theorem MR_130 (h : MR R r m) (hc : c < Cn R) (he : e = 60 * r + c) : m 130 e = (Cl R c : Int) := by subst he; exact (h.2.2.1 c hc).2.2.2.1
theorem MR_131 (h : MR R r m) (hc : c < Cn R) (he : e = 60 * r + c) : m 131 e = Ctz R c := by subst he; exact (h.2.2.1 c hc).2.2.2.2.1
theorem MR_132 (h : MR R r m) (hc : c < Cn R) (he : e = 60 * r + c) : m 132 e = (Ck R c : Int) := by subst he; exact (h.2.2.1 c hc).2.2.2.2.2
theorem MR_133 (h : MR R r m) (hc : c < Cn R) (hk : k < Ck R c) (he : e = 1800 * r + 30 * c + k) : m 133 e = (ht (Cp R c k) : Int) := by subst he; exact (h.2.2.2.1 c k hc hk).1
theorem MR_134 (h : MR R r m) (hc : c < Cn R) (hk : k < Ck R c) (he : e = 1800 * r + 30 * c + k) : m 134 e = (so (Cp R c k) : Int) := by subst he; exact (h.2.2.2.1 c k hc hk).2.1
theorem MR_135 (h : MR R r m) (hc : c < Cn R) (hk : k < Ck R c) (he : e = 1800 * r + 30 * c + k) : m 135 e = (tu (Cp R c k) : Int) := by subst he; exact (h.2.2.2.1 c k hc hk).2.2
theorem MR_137 (h : MR R r m) (hs : s < Sn R) (he : e = 40 * r + s) : m 137 e = (Sw R s : Int) := by subst he; exact (h.2.2.2.2.2.1 s hs).1
theorem MR_138 (h : MR R r m) (hs : s < Sn R) (he : e = 40 * r + s) : m 138 e = (Sp R s : Int) := by subst he; exact (h.2.2.2.2.2.1 s hs).2
theorem MR_139 (h : MR R r m) (hs : s < Sn R) (hp : p < Sp R s) (he : e = 480 * r + 12 * s + p) : m 139 e = (Sq R s p : Int) := by subst he; exact h.2.2.2.2.2.2 s p hs hp
end PRJ
/-! bits -/
theorem oI (n : Nat) : Int32.ofInt (n : Int) = nI n := by
  apply Int32.toBitVec_inj.mp
  simp [nI]
theorem nI_m31 : ∀ y, y < 32 → (((nI y &&& 31) : Int32).toBitVec.smod 32).toNat = y := by decide
theorem b32_shr {x y : Nat} (hx : x < 2147483648) (hy : y < 32) : b32 (fun a b => a >>> (b &&& 31)) (x : Int) (y : Int) = ((x / 2 ^ y : Nat) : Int) := by
  unfold b32
  dsimp only
  rw [oI, oI, pk_shrN hx _ y (nI_m31 y hy), nI_toInt (by have := Nat.div_le_self x (2 ^ y); omega)]
theorem b32_shl {x y : Nat} (hy : y < 32) (hx : x * 2 ^ y < 2147483648) : b32 (fun a b => a <<< (b &&& 31)) (x : Int) (y : Int) = ((x * 2 ^ y : Nat) : Int) := by
  unfold b32
  dsimp only
  rw [oI, oI, pk_shlN _ y (nI_m31 y hy) (by omega), nI_toInt (by omega)]
theorem b32_and {x y : Nat} (hx : x < 2147483648) (hy : y < 2147483648) : b32 (fun a b => a &&& b) (x : Int) (y : Int) = ((x &&& y : Nat) : Int) := by
  unfold b32
  dsimp only
  have h : nI x &&& nI y = nI (x &&& y) := by
    apply Int32.toBitVec_inj.mp
    simp [nI, BitVec.ofNat_and]
  rw [oI, oI, h, nI_toInt (by have := @Nat.and_le_left x y; omega)]
theorem b32_or {x y : Nat} (hx : x < 2147483648) (hy : y < 2147483648) : b32 (fun a b => a ||| b) (x : Int) (y : Int) = ((x ||| y : Nat) : Int) := by
  unfold b32
  dsimp only
  have h : nI x ||| nI y = nI (x ||| y) := by
    apply Int32.toBitVec_inj.mp
    simp [nI, BitVec.ofNat_or]
  rw [oI, oI, h, nI_toInt (by have := @Nat.or_lt_two_pow x y 31 (by omega) (by omega); omega)]
theorem and_m (x k : Nat) : x &&& (2 ^ k - 1) = x % 2 ^ k := Nat.and_two_pow_sub_one_eq_mod x k
section RULES
variable {k pc n len : Nat} {L : Lc} {r : List AV} {Q : Option AV → Sx → Prop} {s : Sx} {x y v : Nat}
theorem E_shr (hi : ins k pc = some (.ishr, n)) (hx : x < 2147483648) (hy : y < 32) (hv : x / 2 ^ y = v) (kk : E k (pc + n) L (aI (v : Int) :: r) s Q) : E k pc L (aI (y : Int) :: aI (x : Int) :: r) s Q := by
  subst hv
  refine E_s hi ?_ kk
  rw [← b32_shr hx hy]
  rfl
theorem E_shl (hi : ins k pc = some (.ishl, n)) (hy : y < 32) (hx : x * 2 ^ y < 2147483648) (hv : x * 2 ^ y = v) (kk : E k (pc + n) L (aI (v : Int) :: r) s Q) : E k pc L (aI (y : Int) :: aI (x : Int) :: r) s Q := by
  subst hv
  refine E_s hi ?_ kk
  rw [← b32_shl hy hx]
  rfl
theorem E_and (hi : ins k pc = some (.iand, n)) (hx : x < 2147483648) (hy : y < 2147483648) (hv : x &&& y = v) (kk : E k (pc + n) L (aI (v : Int) :: r) s Q) : E k pc L (aI (y : Int) :: aI (x : Int) :: r) s Q := by
  subst hv
  refine E_s hi ?_ kk
  rw [← b32_and hx hy]
  rfl
theorem E_or (hi : ins k pc = some (.ior, n)) (hx : x < 2147483648) (hy : y < 2147483648) (hv : x ||| y = v) (kk : E k (pc + n) L (aI (v : Int) :: r) s Q) : E k pc L (aI (y : Int) :: aI (x : Int) :: r) s Q := by
  subst hv
  refine E_s hi ?_ kk
  rw [← b32_or hx hy]
  rfl
end RULES
