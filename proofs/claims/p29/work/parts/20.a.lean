/-! rules over a general memory -/
abbrev tl (len : Nat) : Nat × (List (Nat × Nat) × Nat) := (168, (mkF, len))
def bi (b : Bool) : Int := cond b 1 0
def isR (a : Nat) : Prop := a = 20 ∨ a = 46 ∨ a = 72 ∨ a = 98
def bn (b : Bool) : Nat := cond b 1 0
theorem bn_le (b : Bool) : bn b ≤ 1 := by cases b <;> decide
theorem add_bn {x : Nat} {b : Bool} : (x : Int) + bi b = ((x + bn b : Nat) : Int) := by cases b <;> simp [bi, bn]
theorem bi01 (b : Bool) : bi b = 0 ∨ bi b = 1 := by cases b; exact Or.inl rfl; exact Or.inr rfl
theorem bi_ge (b : Bool) : 0 ≤ bi b ∧ bi b ≤ 1 := by cases b <;> decide
theorem isR_tg {i : Nat} (h : i < 4) : isR (tgA i) := by
  rcases (show i = 0 ∨ i = 1 ∨ i = 2 ∨ i = 3 by omega) with rfl | rfl | rfl | rfl
  · exact Or.inl rfl
  · exact Or.inr (Or.inl rfl)
  · exact Or.inr (Or.inr (Or.inl rfl))
  · exact Or.inr (Or.inr (Or.inr rfl))
theorem isR_b {a : Nat} (h : isR a) : 20 ≤ a ∧ a ≤ 98 := by rcases h with rfl | rfl | rfl | rfl <;> decide
theorem up2_ne {m : Mm} {a b i j : Nat} {x : Int} (h : b ≠ a) : up2 m a i x b j = m b j := by unfold up2; rw [if_neg h]
theorem up2_eq {m : Mm} {a i : Nat} {x : Int} : up2 m a i x a i = x := by unfold up2; rw [if_pos rfl, if_pos rfl]
theorem up2_at {m : Mm} {a i j : Nat} {x : Int} : up2 m a i x a j = if j = i then x else m a j := by unfold up2; rw [if_pos rfl]
theorem up2_o {m : Mm} {a b i j : Nat} {x : Int} (h : ¬ (b = a ∧ j = i)) : up2 m a i x b j = m b j := by
  unfold up2
  by_cases g : b = a
  · rw [if_pos g, if_neg (fun q => h ⟨g, q⟩)]
  · rw [if_neg g]
theorem up2_sl {m : Mm} {a b i j : Nat} {x : Int} (h : j ≠ i) : up2 m a i x b j = m b j := by unfold up2; simp only [if_neg h, ite_self]

theorem kR_0 {a : Nat} (h : isR a) : kd a = (0, 4) := by rcases h with rfl | rfl | rfl | rfl <;> rfl
theorem kR_1 {a : Nat} (h : isR a) : kd (a + 1) = (0, 1) := by rcases h with rfl | rfl | rfl | rfl <;> rfl
theorem kR_2 {a : Nat} (h : isR a) : kd (a + 2) = (1, 60) := by rcases h with rfl | rfl | rfl | rfl <;> rfl
theorem kR_3 {a : Nat} (h : isR a) : kd (a + 3) = (1, 60) := by rcases h with rfl | rfl | rfl | rfl <;> rfl
theorem kR_4 {a : Nat} (h : isR a) : kd (a + 4) = (1, 60) := by rcases h with rfl | rfl | rfl | rfl <;> rfl
theorem kR_5 {a : Nat} (h : isR a) : kd (a + 5) = (1, 60) := by rcases h with rfl | rfl | rfl | rfl <;> rfl
theorem kR_6 {a : Nat} (h : isR a) : kd (a + 6) = (1, 60) := by rcases h with rfl | rfl | rfl | rfl <;> rfl
theorem kR_7 {a : Nat} (h : isR a) : kd (a + 7) = (1, 60) := by rcases h with rfl | rfl | rfl | rfl <;> rfl
theorem kR_8 {a : Nat} (h : isR a) : kd (a + 8) = (1, 1800) := by rcases h with rfl | rfl | rfl | rfl <;> rfl
theorem kR_9 {a : Nat} (h : isR a) : kd (a + 9) = (0, 8) := by rcases h with rfl | rfl | rfl | rfl <;> rfl
theorem kR_10 {a : Nat} (h : isR a) : kd (a + 10) = (1, 40) := by rcases h with rfl | rfl | rfl | rfl <;> rfl
theorem kR_11 {a : Nat} (h : isR a) : kd (a + 11) = (1, 40) := by rcases h with rfl | rfl | rfl | rfl <;> rfl
theorem kR_12 {a : Nat} (h : isR a) : kd (a + 12) = (1, 480) := by rcases h with rfl | rfl | rfl | rfl <;> rfl
theorem kR_13 {a : Nat} (h : isR a) : kd (a + 13) = (1, 60) := by rcases h with rfl | rfl | rfl | rfl <;> rfl
theorem kR_14 {a : Nat} (h : isR a) : kd (a + 14) = (1, 60) := by rcases h with rfl | rfl | rfl | rfl <;> rfl
theorem kR_15 {a : Nat} (h : isR a) : kd (a + 15) = (0, 6) := by rcases h with rfl | rfl | rfl | rfl <;> rfl
theorem kR_16 {a : Nat} (h : isR a) : kd (a + 16) = (1, 6) := by rcases h with rfl | rfl | rfl | rfl <;> rfl
theorem kR_17 {a : Nat} (h : isR a) : kd (a + 17) = (1, 6) := by rcases h with rfl | rfl | rfl | rfl <;> rfl
theorem kR_18 {a : Nat} (h : isR a) : kd (a + 18) = (1, 6) := by rcases h with rfl | rfl | rfl | rfl <;> rfl
theorem kR_19 {a : Nat} (h : isR a) : kd (a + 19) = (1, 6) := by rcases h with rfl | rfl | rfl | rfl <;> rfl
theorem kR_20 {a : Nat} (h : isR a) : kd (a + 20) = (1, 60) := by rcases h with rfl | rfl | rfl | rfl <;> rfl
theorem kR_21 {a : Nat} (h : isR a) : kd (a + 21) = (1, 60) := by rcases h with rfl | rfl | rfl | rfl <;> rfl
theorem kR_22 {a : Nat} (h : isR a) : kd (a + 22) = (1, 60) := by rcases h with rfl | rfl | rfl | rfl <;> rfl
theorem kR_23 {a : Nat} (h : isR a) : kd (a + 23) = (1, 60) := by rcases h with rfl | rfl | rfl | rfl <;> rfl
theorem kR_24 {a : Nat} (h : isR a) : kd (a + 24) = (1, 601) := by rcases h with rfl | rfl | rfl | rfl <;> rfl
theorem kR_25 {a : Nat} (h : isR a) : kd (a + 25) = (0, 0) := by rcases h with rfl | rfl | rfl | rfl <;> rfl
theorem hR_0_0 {a len : Nat} {m : Mm} (h : isR a) : hasM (m, tl len) a 0 = true := by rcases h with rfl | rfl | rfl | rfl <;> rfl
theorem hR_0_1 {a len : Nat} {m : Mm} (h : isR a) : hasM (m, tl len) a 1 = true := by rcases h with rfl | rfl | rfl | rfl <;> rfl
theorem hR_0_2 {a len : Nat} {m : Mm} (h : isR a) : hasM (m, tl len) a 2 = true := by rcases h with rfl | rfl | rfl | rfl <;> rfl
theorem hR_0_3 {a len : Nat} {m : Mm} (h : isR a) : hasM (m, tl len) a 3 = true := by rcases h with rfl | rfl | rfl | rfl <;> rfl
theorem hR_0_4 {a len : Nat} {m : Mm} (h : isR a) : hasM (m, tl len) a 4 = true := by rcases h with rfl | rfl | rfl | rfl <;> rfl
theorem hR_1_0 {a len : Nat} {m : Mm} (h : isR a) : hasM (m, tl len) (a + 1) 0 = true := by rcases h with rfl | rfl | rfl | rfl <;> rfl
theorem hR_1_1 {a len : Nat} {m : Mm} (h : isR a) : hasM (m, tl len) (a + 1) 1 = true := by rcases h with rfl | rfl | rfl | rfl <;> rfl
theorem hR_1_2 {a len : Nat} {m : Mm} (h : isR a) : hasM (m, tl len) (a + 1) 2 = true := by rcases h with rfl | rfl | rfl | rfl <;> rfl
theorem hR_1_3 {a len : Nat} {m : Mm} (h : isR a) : hasM (m, tl len) (a + 1) 3 = true := by rcases h with rfl | rfl | rfl | rfl <;> rfl
theorem hR_1_4 {a len : Nat} {m : Mm} (h : isR a) : hasM (m, tl len) (a + 1) 4 = true := by rcases h with rfl | rfl | rfl | rfl <;> rfl
theorem hR_1_5 {a len : Nat} {m : Mm} (h : isR a) : hasM (m, tl len) (a + 1) 5 = true := by rcases h with rfl | rfl | rfl | rfl <;> rfl
theorem hR_1_6 {a len : Nat} {m : Mm} (h : isR a) : hasM (m, tl len) (a + 1) 6 = true := by rcases h with rfl | rfl | rfl | rfl <;> rfl
theorem hR_9_0 {a len : Nat} {m : Mm} (h : isR a) : hasM (m, tl len) (a + 9) 0 = true := by rcases h with rfl | rfl | rfl | rfl <;> rfl
theorem hR_9_1 {a len : Nat} {m : Mm} (h : isR a) : hasM (m, tl len) (a + 9) 1 = true := by rcases h with rfl | rfl | rfl | rfl <;> rfl
theorem hR_9_2 {a len : Nat} {m : Mm} (h : isR a) : hasM (m, tl len) (a + 9) 2 = true := by rcases h with rfl | rfl | rfl | rfl <;> rfl
theorem hR_15_0 {a len : Nat} {m : Mm} (h : isR a) : hasM (m, tl len) (a + 15) 0 = true := by rcases h with rfl | rfl | rfl | rfl <;> rfl
theorem hR_15_1 {a len : Nat} {m : Mm} (h : isR a) : hasM (m, tl len) (a + 15) 1 = true := by rcases h with rfl | rfl | rfl | rfl <;> rfl
theorem hR_15_2 {a len : Nat} {m : Mm} (h : isR a) : hasM (m, tl len) (a + 15) 2 = true := by rcases h with rfl | rfl | rfl | rfl <;> rfl
theorem hR_15_3 {a len : Nat} {m : Mm} (h : isR a) : hasM (m, tl len) (a + 15) 3 = true := by rcases h with rfl | rfl | rfl | rfl <;> rfl
theorem hR_15_4 {a len : Nat} {m : Mm} (h : isR a) : hasM (m, tl len) (a + 15) 4 = true := by rcases h with rfl | rfl | rfl | rfl <;> rfl
theorem hR_15_5 {a len : Nat} {m : Mm} (h : isR a) : hasM (m, tl len) (a + 15) 5 = true := by rcases h with rfl | rfl | rfl | rfl <;> rfl
theorem hR_15_6 {a len : Nat} {m : Mm} (h : isR a) : hasM (m, tl len) (a + 15) 6 = true := by rcases h with rfl | rfl | rfl | rfl <;> rfl
theorem hR_15_7 {a len : Nat} {m : Mm} (h : isR a) : hasM (m, tl len) (a + 15) 7 = true := by rcases h with rfl | rfl | rfl | rfl <;> rfl
theorem hR_15_8 {a len : Nat} {m : Mm} (h : isR a) : hasM (m, tl len) (a + 15) 8 = true := by rcases h with rfl | rfl | rfl | rfl <;> rfl
theorem hR_15_9 {a len : Nat} {m : Mm} (h : isR a) : hasM (m, tl len) (a + 15) 9 = true := by rcases h with rfl | rfl | rfl | rfl <;> rfl
section RULES
variable {k pc n i ci j a b len N p' : Nat} {L L' L0 : Lc} {st st' r : List AV} {m : Mm} {Q : Option AV → Sx → Prop} {s : Sx} {x y v z w d : Int} {e e1 e2 e3 : Nat}
theorem onA_tl {t n : Nat} (h : kd a = (t, n)) (ht : t ≠ 5) : onA a (m, tl len) t n = true := onA_of h ht rfl
theorem E_go (hp : pc = p') (hL : L = L') (hst : st = st') (kk : E k p' L' st' s Q) : E k pc L st s Q := by subst hp hL hst; exact kk
theorem E_valv (h : x = v) (kk : E k pc L (aI v :: r) s Q) : E k pc L (aI x :: r) s Q := h ▸ kk
theorem E_gA (hi : ins k pc = some (.getfield i, n)) (hf : fl k i = some (ci, j)) (h2 : Nat.beq (ft ci j) 2 = true) (hk : kd a = (0, ci)) (hm : hasM (m, tl len) a j = true) (hb : a + ofs ci j = b) (kk : E k (pc + n) L (aA b :: r) (m, tl len) Q) : E k pc L (aA a :: r) (m, tl len) Q := by
  refine E_st hi ?_ (Nat.ble_self_eq_true _) kk
  unfold stp
  dsimp only
  rw [hf]
  dsimp only [q1A]
  rw [ckP_of (onA_tl hk (by decide)), h2]
  show ckP (hasM (m, tl len) a j) _ = _
  rw [ckP_of hm, hb]
  rfl
theorem E_gI (hi : ins k pc = some (.getfield i, n)) (hf : fl k i = some (ci, j)) (h2 : Nat.beq (ft ci j) 2 = false) (hk : kd a = (0, ci)) (hv : m a j = v) (kk : E k (pc + n) L (aI v :: r) (m, tl len) Q) : E k pc L (aA a :: r) (m, tl len) Q := by
  subst hv
  refine E_st hi ?_ (Nat.ble_self_eq_true _) kk
  unfold stp
  dsimp only
  rw [hf]
  dsimp only [q1A]
  rw [ckP_of (onA_tl hk (by decide)), h2]
  rfl
theorem E_pI (hi : ins k pc = some (.putfield i, n)) (hf : fl k i = some (ci, j)) (h2 : Nat.beq (ft ci j) 2 = false) (hk : kd a = (0, ci)) (hx : Nat.beq (ft ci j) 0 = true ∨ (x = 0 ∨ x = 1)) (kk : E k (pc + n) L r (up2 m a j x, tl len) Q) : E k pc L (aI x :: aA a :: r) (m, tl len) Q := by
  refine E_st (s' := (up2 m a j x, tl len)) hi ?_ (Nat.ble_self_eq_true _) kk
  unfold stp
  dsimp only
  rw [hf]
  dsimp only
  rw [h2]
  dsimp only [cond_false, qIA]
  rw [onA_tl hk (by decide)]
  rw [ckP_of (by rcases hx with h | h | h <;> simp [h])]
  rfl
theorem E_ald (hi : ins k pc = some (.iaload, n)) (hk : kd a = (1, N)) (hz : z = (e : Int)) (he : e < N) (hv : m a e = v) (kk : E k (pc + n) L (aI v :: r) (m, tl len) Q) : E k pc L (aI z :: aA a :: r) (m, tl len) Q := by
  subst hz hv
  exact E_iald hi hk rfl (by omega) (by omega) kk
theorem E_ast (hi : ins k pc = some (.iastore, n)) (hk : kd a = (1, N)) (hz : z = (e : Int)) (he : e < N) (kk : E k (pc + n) L r (up2 m a e x, tl len) Q) : E k pc L (aI x :: aI z :: aA a :: r) (m, tl len) Q := by
  subst hz
  exact E_iast hi hk rfl (by omega) (by omega) kk
theorem E_zld (hi : ins k pc = some (.baload, n)) (hk : kd a = (2, N)) (hz : z = (e : Int)) (he : e < N) (hv : m a e = v) (kk : E k (pc + n) L (aI v :: r) (m, tl len) Q) : E k pc L (aI z :: aA a :: r) (m, tl len) Q := by
  subst hz hv
  refine E_st hi ?_ (Nat.ble_self_eq_true _) kk
  show ckP (onA a (m, tl len) 2 (kd a).2 && inb (e : Int) (kd a).2) _ = _
  rw [hk, ckP_of (by rw [onA_tl hk (by decide), inb_of (by omega) (by omega)]; rfl)]
  rfl
theorem E_zst (hi : ins k pc = some (.bastore, n)) (hk : kd a = (2, N)) (hz : z = (e : Int)) (he : e < N) (hx : x = 0 ∨ x = 1) (kk : E k (pc + n) L r (up2 m a e x, tl len) Q) : E k pc L (aI x :: aI z :: aA a :: r) (m, tl len) Q := by
  subst hz
  refine E_st (s' := (up2 m a e x, tl len)) hi ?_ (Nat.ble_self_eq_true _) kk
  show ckP (onA a (m, tl len) 2 (kd a).2 && inb (e : Int) (kd a).2 && (decide (x = 0) || decide (x = 1))) _ = _
  rw [hk, ckP_of (by rw [onA_tl hk (by decide), inb_of (by omega) (by omega)]; rcases hx with h | h <;> simp [h])]
  rfl
theorem E_jld (hi : ins k pc = some (.laload, n)) (hk : kd a = (3, N)) (hz : z = (e : Int)) (he : e < N) (hv : m a e = v) (kk : E k (pc + n) L (aJ v :: r) (m, tl len) Q) : E k pc L (aI z :: aA a :: r) (m, tl len) Q := by
  subst hz hv
  refine E_st hi ?_ (Nat.ble_self_eq_true _) kk
  show ckP (onA a (m, tl len) 3 (kd a).2 && inb (e : Int) (kd a).2) _ = _
  rw [hk, ckP_of (by rw [onA_tl hk (by decide), inb_of (by omega) (by omega)]; rfl)]
  rfl
theorem E_jst (hi : ins k pc = some (.lastore, n)) (hk : kd a = (3, N)) (hz : z = (e : Int)) (he : e < N) (kk : E k (pc + n) L r (up2 m a e x, tl len) Q) : E k pc L (aJ x :: aI z :: aA a :: r) (m, tl len) Q := by
  subst hz
  refine E_st (s' := (up2 m a e x, tl len)) hi ?_ (Nat.ble_self_eq_true _) kk
  show ckP (onA a (m, tl len) 3 (kd a).2 && inb (e : Int) (kd a).2) _ = _
  rw [hk, ckP_of (by rw [onA_tl hk (by decide), inb_of (by omega) (by omega)]; rfl)]
  rfl
theorem E_inc (hi : ins k pc = some (.iinc j d, n)) (hl : Nat.blt j (mxl k) = true) (hv : L[j]? = some (some (aI x))) (hw : x + d = w) (hr : -2147483648 ≤ w ∧ w ≤ 2147483647) (hL : st1 L j (aI w) = L') (kk : E k (pc + n) L' st s Q) : E k pc L st s Q := by
  subst hw hL
  exact E_iinc hi hl hv hr kk
theorem E_add (hi : ins k pc = some (.iadd, n)) (hv : x + y = v) (hr : -2147483648 ≤ v ∧ v ≤ 2147483647) (kk : E k (pc + n) L (aI v :: r) s Q) : E k pc L (aI y :: aI x :: r) s Q := by subst hv; exact E_iadd hi hr kk
theorem E_sub (hi : ins k pc = some (.isub, n)) (hv : x - y = v) (hr : -2147483648 ≤ v ∧ v ≤ 2147483647) (kk : E k (pc + n) L (aI v :: r) s Q) : E k pc L (aI y :: aI x :: r) s Q := by subst hv; exact E_isub hi hr kk
theorem E_mul (hi : ins k pc = some (.imul, n)) (hv : x * y = v) (hr : -2147483648 ≤ v ∧ v ≤ 2147483647) (kk : E k (pc + n) L (aI v :: r) s Q) : E k pc L (aI y :: aI x :: r) s Q := by subst hv; exact E_imul hi hr kk
theorem E_div (hi : ins k pc = some (.idiv, n)) (h0 : 0 ≤ x) (hy : 0 < y) (hv : x / y = v) (hr : -2147483648 ≤ v ∧ v ≤ 2147483647) (kk : E k (pc + n) L (aI v :: r) s Q) : E k pc L (aI y :: aI x :: r) s Q := by
  subst hv
  refine E_st hi ?_ (Nat.ble_self_eq_true _) kk
  show ckP (!decide (y = 0)) (ckI (x.tdiv y) _) = _
  rw [ckP_of (by rw [decide_eq_false (by omega)]; rfl), Int.tdiv_eq_ediv_of_nonneg h0, ckI_of hr]
  rfl
theorem E_rem (hi : ins k pc = some (.irem, n)) (h0 : 0 ≤ x) (hy : 0 < y) (hv : x % y = v) (hr : 0 ≤ x ∧ x ≤ 2147483647) (kk : E k (pc + n) L (aI v :: r) s Q) : E k pc L (aI y :: aI x :: r) s Q := by
  subst hv
  refine E_st hi ?_ (Nat.ble_self_eq_true _) kk
  show ckP (!decide (y = 0)) (ckI (x.tdiv y) (ckI (x - x.tdiv y * y) _)) = _
  have e1 : x - x / y * y = x % y := by have := Int.emod_add_mul_ediv x y; rw [Int.mul_comm]; omega
  have b1 : 0 ≤ x / y := Int.ediv_nonneg h0 (by omega)
  have b2 : x / y ≤ x := Int.ediv_le_self y h0
  have b3 : 0 ≤ x % y := Int.emod_nonneg x (by omega)
  have b4 : x % y ≤ x := by have := Int.mul_nonneg b1 (show 0 ≤ y by omega); omega
  rw [ckP_of (by rw [decide_eq_false (by omega)]; rfl), Int.tdiv_eq_ediv_of_nonneg h0, ckI_of (by omega), e1, ckI_of (by omega)]
  rfl
theorem E_acp {Na Nb : Nat} {u1 u2 u3 : Int} {kb : Bool} (hi : ins k pc = some (.invokestatic i, n)) (hm : mli k i = some (1001, kb)) (ha : kd a = (1, Na)) (hb : kd b = (1, Nb)) (h1 : u1 = (e1 : Int)) (h2 : u2 = (e2 : Int)) (h3 : u3 = (e3 : Int)) (l1 : e1 + e3 ≤ Na) (l2 : e2 + e3 ≤ Nb) (hro : (Nat.ble 1 (frr k) && Nat.ble (wsum r + 18) (lor k)) = true) (kk : E k (pc + n) L r (cpm m a e1 b e2 e3, tl len) Q) : E k pc L (aI u3 :: aI u2 :: aA b :: aI u1 :: aA a :: r) (m, tl len) Q := by
  subst h1 h2 h3
  refine E_st (s' := (cpm m a e1 b e2 e3, tl len)) hi ?_ (Nat.ble_self_eq_true _) kk
  unfold stp
  dsimp only
  rw [hm]
  dsimp only
  rw [show Nat.beq 1001 1001 = true from rfl]
  dsimp only [cond_true, qcp]
  rw [hb, ha, onA_tl ha (by decide), onA_tl hb (by decide)]
  rw [Bool.and_eq_true] at hro
  rw [ckP_of (by simp only [Bool.and_eq_true, decide_eq_true_eq, Bool.true_and, Bool.and_assoc]; refine ⟨?_, ?_, ?_, ?_, ?_, hro.1, hro.2⟩ <;> omega)]
  rfl
theorem E_callV {k' : Nat} {kb : Bool} (hi : ins k pc = some (.invokevirtual i, n)) (hm : mli k i = some (k', kb)) (hc : (Nat.beq (how k') 0 && (Nat.ble (frr k' + 1) (frr k) && Nat.ble (19 + mxl k' + lor k') (lor k))) = true) (h1 : st.drop (npr k') = aA a :: r) (h2 : Nat.ble (npr k') st.length = true) (hk : kd a = (0, own k')) (hw : Nat.ble (wsum r) 8 = true) (hl : Nat.ble (spr (aA a :: (st.take (npr k')).reverse)).length (mxl k') = true) (hL : entL k' (aA a :: (st.take (npr k')).reverse) = L0) (hp : pc + 3 = p') (kk : E k' 0 L0 [] (m, tl len) (fun v s1 => E k p' L (v.toList ++ r) s1 Q)) : E k pc L st (m, tl len) Q := by
  subst hL hp
  refine E_call hi ?_ kk
  unfold stp
  dsimp only
  rw [hm]
  show mcall k pc L st (m, tl len) 0 k' = _
  unfold mcall
  rw [ckP_of hc]
  show (match st.drop (npr k') with
        | .inr (.inr (some a)) :: rest => ckP (Nat.ble (npr k') st.length && onA a (m, tl len) 0 (own k') && Nat.ble (wsum rest) 8 && Nat.ble (spr (aA a :: (st.take (npr k')).reverse)).length (mxl k')) (some (.inr (.inr (k', (aA a :: (st.take (npr k')).reverse, (pc + 3, (L, rest)))))))
        | _ => none) = _
  rw [h1]
  dsimp only
  rw [ckP_of (by rw [h2, onA_tl hk (by decide), hw, hl]; rfl)]
theorem E_retB (hi : ins k pc = some (.ireturn, n)) (hr : Nat.beq (rtc k) 2 = true) (hz : z = 0 ∨ z = 1) (q : Q (some (aI z)) s) : E k pc L [aI z] s Q := by
  refine E_ret hi ?_ q
  show ckP (Nat.beq (rtc k) 1 || (Nat.beq (rtc k) 2 && (decide (z = 0) || decide (z = 1)))) _ = _
  rw [hr, ckP_of (by rcases hz with h | h <;> simp [h])]
theorem E_b_eq0 {b : Bool} (hi : ins k pc = some (.ifCond .eq d, n)) (h0 : 0 ≤ (pc : Int) + d) (kt : b = false → E k ((pc : Int) + d).toNat L r s Q) (kf : b = true → E k (pc + n) L r s Q) : E k pc L (aI (bi b) :: r) s Q := by
  cases b
  · exact E_if_eq hi h0 (fun _ => kt rfl) (fun h => absurd rfl h)
  · exact E_if_eq hi h0 (fun h => absurd h (by decide)) (fun _ => kf rfl)
theorem E_b_ne0 {b : Bool} (hi : ins k pc = some (.ifCond .ne d, n)) (h0 : 0 ≤ (pc : Int) + d) (kt : b = true → E k ((pc : Int) + d).toNat L r s Q) (kf : b = false → E k (pc + n) L r s Q) : E k pc L (aI (bi b) :: r) s Q := by
  cases b
  · exact E_if_ne hi h0 (fun h => absurd rfl h) (fun _ => kf rfl)
  · exact E_if_ne hi h0 (fun _ => kt rfl) (fun h => absurd h (by decide))
theorem E_orb {x y : Bool} (hi : ins k pc = some (.ior, n)) (kk : E k (pc + n) L (aI (bi (x || y)) :: r) s Q) : E k pc L (aI (bi y) :: aI (bi x) :: r) s Q := by
  cases x <;> cases y <;> exact E_s hi rfl kk
theorem E_andb {x y : Bool} (hi : ins k pc = some (.iand, n)) (kk : E k (pc + n) L (aI (bi (x && y)) :: r) s Q) : E k pc L (aI (bi y) :: aI (bi x) :: r) s Q := by
  cases x <;> cases y <;> exact E_s hi rfl kk
theorem E_lkO {ps : Array (Int × Int)} (hi : ins k pc = some (.lookupswitch d ps, n)) (hs : ((ps.toList.zip (ps.toList.drop 1)).all fun q => decide (q.1.1 < q.2.1)) = true) (hx : Op.lookupswitch.offset ps.toList d x = d) (h0 : 0 ≤ (pc : Int) + d) (kk : E k ((pc : Int) + d).toNat L r s Q) : E k pc L (aI x :: r) s Q := by
  refine E_s hi ?_ kk
  show ckP _ (jp pc (Op.lookupswitch.offset ps.toList d x) L r s) = _
  rw [ckP_of hs, hx]
  unfold jp
  rw [if_pos h0]
  rfl
end RULES
